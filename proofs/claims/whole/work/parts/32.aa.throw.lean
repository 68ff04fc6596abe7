/-! a throw of an exception of the class's own, asked of the machine itself -/
def xTW (l : Launch) (sz0 : Nat) (ST : State → Prop) : Prop := ∀ (p : Program) (e : Env) (R : Room) (s : State) (m : MethodId) (args : Array Value) (below : List Frame) (meth : Method) (c : Code) (cc : ByteArray) (pc : Nat) (H : Heap) (locs : List Loc) (cells slots : Nat) (lsr : Array Slot) (rest : List Value) (E : String) (ik ic : Nat) (t : Nat × String) (mc ms : Nat) (Qc : Array Value → State → Outcome → State → Prop) (XC : String → State → State → Prop),
  (E, ik, ic) ∈ xExT → t ∈ xIsT → p.tables.exec = Jvm.exec → c.code = cc → s.vm.findClass "PartMaker" = some m.cls → (∀ w ∈ xtg, w.before args s = true) → ST s → va_S (xA sz0) s.heap H locs → lsr.size = c.maxLocals → decode cc pc = .ok (.new ik, 3) → decode cc (pc + 3) = .ok (.dup, 1) →
  ((decode cc (pc + 4) = .ok (.ldc t.1, 2) ∧ decode cc (pc + 6) = .ok (.invokespecial ic, 3) ∧ decode cc (pc + 9) = .ok (.athrow, 1)) ∨ (decode cc (pc + 4) = .ok (.ldc_w t.1, 3) ∧ decode cc (pc + 7) = .ok (.invokespecial ic, 3) ∧ decode cc (pc + 10) = .ok (.athrow, 1))) →
  (∀ z ∈ c.exceptionTable.toList, False) → 9 ≤ R.frames → (rest.map fun v => v.category).sum ≤ 8 → 260 ≤ R.locals → cells + 1 ≤ R.cells → slots + 6 ≤ R.slots → meth.locks = false →
  (∀ t9 : State, s.vm.Alike t9.vm → H.size ≤ t9.heap.size → (∀ q : Nat, q < H.size → t9.heap[q]? = H[q]?) → XC E s t9) → cells + 1 ≤ mc → slots + 6 ≤ ms →
  W p l e R s m args below meth c H locs cells slots (vx_MQ below Qc XC args s mc ms (xA sz0)) (F0 m pc lsr rest)
section XEND2
variable {p : Program} {l : Launch} {e : Env} {R : Room} {s : State} {m : MethodId} {args : Array Value} {below : List Frame} {meth : Method} {c : Code} {own : String} {cc : ByteArray} {nL : Nat} {pcs : List Nat} {D : va_G} {cl : List vw_C} {tys : List (ClassId × FieldType)} {ρ : Nat → Nat} {ca : FieldType → ClassId} {G : List xS} {cd : List xI} {mc ms : Nat} {MT : List xMt} {b i : Nat} {ls : xL} {sk : List xV} {h : xH} {x : xI} {sz0 : Nat} {ST : State → Prop} {d : Nat} {Q : xO → xH → Prop}
set_option maxHeartbeats 1000000 in
theorem x_throw2 (hx : p.tables.exec = Jvm.exec) (hb : c.code = cc) (hown : s.vm.findClass own = some m.cls) (hts : ∀ w ∈ xtg, w.before args s = true) (hok : ∀ (i : Nat) (x : xI), cd[i]? = some x → xok MT cl own cc nL pcs i x) (hml : c.maxLocals = nL) (hs0 : ST s) (hRf : d + 9 ≤ R.frames) (hRl : 60 * d + 260 ≤ R.locals) (hRc : mc ≤ R.cells) (hRs : ms ≤ R.slots) (hthr : xTW l sz0 ST) (hlocks : meth.locks = false) (htab : ∀ z ∈ c.exceptionTable.toList, False) {ik e0 w0 : Nat} (hc : cd[i]? = some x) (hi : x.1 = .new ik) (hx1 : x.2.2.1 = [(e0, w0)]) (hw : (sk.map xcat).sum ≤ 8) (hQ : Q (.inr (xExn e0)) h) : xP p l e R s m args below meth c (vx_MQ below (xQc ρ ca G D cl sz0 Q) (xXC ρ ca G D cl sz0 Q) args s mc ms (xA sz0)) nL pcs D cl (xA sz0) ρ ca G mc ms (b + 1) i ls sk h := by
  intro pc lsr H locs cells slots hpc hn hl hP hD hS hb1 hb2
  obtain ⟨pc0, hpc0, ho⟩ := hok i x hc
  cases hpc0.symm.trans hpc
  rw [hi] at ho
  obtain ⟨hd, ho⟩ := ho
  obtain ⟨rfl, ic, t, he, ht, d3, hform⟩ := ho (e0, w0) (by rw [hx1]; exact List.mem_cons_self)
  have hxc : ∀ t9 : State, s.vm.Alike t9.vm → H.size ≤ t9.heap.size → (∀ q : Nat, q < H.size → t9.heap[q]? = H[q]?) → xXC ρ ca G D cl sz0 Q (xExn e0) s t9 := fun t9 _ h1 h2 => ⟨⟨h, hQ, hP.kept (fun k9 q9 hk9 => h2 _ ((hP k9 q9 hk9).lt))⟩, Nat.le_trans hS.1 h1, fun q h3 h4 => (h2 q (Nat.lt_of_lt_of_le h3 hS.1)).trans (hS.2.1 q h3 h4)⟩
  have hsum : ((sk.map (xc ρ)).map fun v => v.category).sum ≤ 8 := by rw [xcat_sum]; exact hw
  refine hthr p e R s m args below meth c cc pc H locs cells slots lsr _ _ ik ic t mc ms _ _ he ht hx hb hown hts hs0 hS (by rw [hl.1, hml]) hd d3 ?_ htab (by omega) hsum (by omega) (by omega) (by omega) hlocks hxc (by omega) (by omega)
  rcases hform with ⟨-, d4, d6, d9⟩ | ⟨-, d4, d7, d10⟩
  · exact Or.inl ⟨d4, d6, d9⟩
  · exact Or.inr ⟨d4, d7, d10⟩
end XEND2
