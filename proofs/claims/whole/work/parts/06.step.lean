/-! the tables' words that hold from any state on; what is asked of a method's code beside its bytes -/
def xprv : List Cond := [.selects "PartMaker$Expressions" ⟨"PartMaker$Growth", "merge", "(IIII)V"⟩ ⟨"PartMaker$Growth", "merge", "(IIII)V"⟩, .selects "PartMaker$Tests" ⟨"PartMaker$Growth", "merge", "(IIII)V"⟩ ⟨"PartMaker$Growth", "merge", "(IIII)V"⟩, .selects "PartMaker$Expressions" ⟨"PartMaker$Growth", "unsettleBehind", "(I)V"⟩ ⟨"PartMaker$Growth", "unsettleBehind", "(I)V"⟩, .selects "PartMaker$Tests" ⟨"PartMaker$Growth", "unsettleBehind", "(I)V"⟩ ⟨"PartMaker$Growth", "unsettleBehind", "(I)V"⟩]
def xtg : List Cond := (xprv ++ lw_tbl).filter goodWord
theorem xtg_of {w : Cond} (i : Nat) (h : lw_tbl[i]? = some w) (hg : goodWord w = true) : w ∈ xtg := List.mem_filter.mpr ⟨List.mem_append_right _ (List.mem_of_getElem? h), hg⟩
theorem tp_of {w : Cond} (i : Nat) (h : xprv[i]? = some w) (hg : goodWord w = true) : w ∈ xtg := List.mem_filter.mpr ⟨List.mem_append_left _ (List.mem_of_getElem? h), hg⟩
/-- a private method of a class above is the one selected, as another of that class is -/
theorem x_sel_priv {args : Array Value} {s : State} {C : String} {y y' : MethodName} (hyc : y'.cls = y.cls) (hy : y.cls ≠ "java/lang/invoke/MethodHandle" ∧ y.cls ≠ "java/lang/invoke/VarHandle") (hsel : (Cond.selects C y' y').before args s = true) (hpriv : (Cond.privateMethod y).before args s = true) (hinst : (Cond.instanceMethod y).before args s = true) : (Cond.selects C y y).before args s = true := by
  obtain ⟨c2, r2, m2, q1, q2, q3, q4, kP, hkP, hkPi⟩ := Cond.selects_spec hsel
  obtain ⟨mk, methM, hnamed, hmethM, -, -⟩ := Cond.instanceMethod_spec hinst
  have hfound : s.methodFound? y.cls y.name y.desc = some mk := State.methodFound?_of_named hnamed hy
  have h3 := findClass_of_methodNamed q3
  rw [hyc] at h3
  have hcls : mk.cls = m2.cls := Option.some.inj ((findClass_of_methodNamed hnamed).symm.trans h3)
  have hs2 : selectMethod {} s.vm c2 mk = .method mk := selectMethod_private hmethM (Cond.privateMethod_at hpriv mk methM hnamed hmethM)
  simp only [Cond.before, Cond.holds, Cond.value, q1, hfound, hnamed, hs2, hcls, hkP]
  simp; exact hkPi
def ilen (i : Instr) : Nat := match i with
  | .bipush _ => 2
  | .iload _ => 2
  | .lload _ => 2
  | .aload _ => 2
  | .istore _ => 2
  | .lstore _ => 2
  | .astore _ => 2
  | .ldc _ => 2
  | .sipush _ => 3
  | .ldc_w _ => 3
  | .ldc2_w _ => 3
  | .iinc _ _ => 3
  | .goto _ => 3
  | .ifCond _ _ => 3
  | .if_icmp _ _ => 3
  | .getfield _ => 3
  | .putfield _ => 3
  | .getstatic _ => 3
  | .invokevirtual _ => 3
  | .invokestatic _ => 3
  | .invokespecial _ => 3
  | .new _ => 3
  | _ => 1
def xjmp (pcs : List Nat) (pc : Nat) (off : Int) (t : Nat) : Prop := ∃ q : Nat, pcs[t]? = some q ∧ (pc : Int) + off = (q : Int)
def xfl (cl : List vw_C) (own : String) (idx : Nat) (wr : Bool) (q : Nat × Nat) : Prop :=
  ∃ (r : vw_C) (ref : String), cl[q.1]? = some r ∧ q.2 < r.2.2 ∧ Cond.fieldLink own idx ref (r.2.1 q.2).2.1 (r.2.1 q.2).2.2.1 ∈ xtg ∧ (ref = (r.2.1 q.2).1 ∨ Cond.sameField ref (r.2.1 q.2).1 (r.2.1 q.2).2.1 (r.2.1 q.2).2.2.1 ∈ xtg) ∧ (wr = true → (r.2.1 q.2).2.2.2 = false)
def xnoH (n : String) : Prop := n ≠ "java/lang/invoke/MethodHandle" ∧ n ≠ "java/lang/invoke/VarHandle"
def xcb (M : xMt) (n : Nat) : Prop := Cond.code M.1 M.2.1 M.2.2.1 M.2.2.2.1 ∈ xtg ∧ Cond.initialized M.1.cls ∈ xtg ∧ plainName M.1.cls = true ∧ xnoH M.1.cls ∧ (parseMethodDescriptor M.1.desc).map (fun d => d.parameters.length) = some n ∧ M.2.2.1 ≤ 40
def xcS (MT : List xMt) (own : String) (k n mm : Nat) : Prop := ∃ M : xMt, MT[mm]? = some M ∧ xcb M n ∧ Cond.methodLink own k M.1 ∈ xtg ∧ Cond.static M.1 ∈ xtg
def xcV (MT : List xMt) (cl : List vw_C) (own : String) (k n : Nat) (fl : Option Nat) (q : Nat × Nat) : Prop := ∃ (M : xMt) (r : vw_C), MT[q.2]? = some M ∧ cl[q.1]? = some r ∧ xcb M n ∧ Cond.instanceMethod M.1 ∈ xtg ∧ ((fl = some 0 ∧ Cond.methodLink own k M.1 ∈ xtg ∧ Cond.selects r.1 M.1 M.1 ∈ xtg) ∨ (fl = some 1 ∧ ∃ (xn : MethodName) (owner : String), Cond.methodLink own k xn ∈ xtg ∧ Cond.sameMethod xn.cls owner xn.name xn.desc ∈ xtg ∧ Cond.selects r.1 xn M.1 ∈ xtg ∧ xnoH owner ∧ xn.desc = M.1.desc ∧ ((Cond.instanceMethod ⟨owner, xn.name, xn.desc⟩ ∈ xtg ∧ ∃ (b0 : ByteArray) (m0 : Nat) (r0 : Option FieldType), Cond.code ⟨owner, xn.name, xn.desc⟩ b0 m0 r0 ∈ xtg) ∨ Cond.declares ⟨owner, xn.name, xn.desc⟩ ∈ lw_tbl)))
/-- what an instruction's links must be, by its kind -/
def xlnk (MT : List xMt) (cl : List vw_C) (own : String) (nL : Nat) (pcs : List Nat) (pc i : Nat) (x : xI) : Prop := match x.1 with
  | .goto off => xjmp pcs pc off x.2.1.toNat
  | .ifCond _ off => xjmp pcs pc off x.2.1.toNat ∧ pcs[i + 1]? = some (pc + 3)
  | .if_icmp _ off => xjmp pcs pc off x.2.1.toNat ∧ pcs[i + 1]? = some (pc + 3)
  | .bipush n => (Int8.ofInt n).toInt32 = Int32.ofInt n ∧ pcs[i + 1]? = some (pc + 2)
  | .sipush n => (Int16.ofInt n).toInt32 = Int32.ofInt n ∧ pcs[i + 1]? = some (pc + 3)
  | .ldc k => (x.2.2.1 = [] → Cond.constant own k (Int32.ofInt x.2.1) ∈ xtg) ∧ pcs[i + 1]? = some (pc + 2)
  | .ldc_w k => (x.2.2.1 = [] → Cond.constant own k (Int32.ofInt x.2.1) ∈ xtg) ∧ pcs[i + 1]? = some (pc + 3)
  | .ldc2_w k => Cond.constantLong own k (Int64.ofInt x.2.1) ∈ xtg ∧ pcs[i + 1]? = some (pc + 3)
  | .getfield k => (∀ q ∈ x.2.2.1, xfl cl own k false q) ∧ pcs[i + 1]? = some (pc + 3)
  | .putfield k => (∀ q ∈ x.2.2.1, xfl cl own k true q) ∧ pcs[i + 1]? = some (pc + 3)
  | .istore k => k < nL ∧ pcs[i + 1]? = some (pc + 2)
  | .istore_n k => k.val < nL ∧ pcs[i + 1]? = some (pc + 1)
  | .lstore k => k + 1 < nL ∧ pcs[i + 1]? = some (pc + 2)
  | .astore k => k < nL ∧ pcs[i + 1]? = some (pc + 2)
  | .astore_n k => k.val < nL ∧ pcs[i + 1]? = some (pc + 1)
  | .invokestatic k => (x.2.2.1 = [] → x.2.2.2 = [] → Cond.methodLink own k arraycopyName ∈ xtg) ∧ (x.2.2.2 = [1] → Cond.methodLink own k Lib.Math.min.name ∈ xtg) ∧ (x.2.2.2 = [2] → Cond.methodLink own k Lib.MathLoose.min_long.x ∈ xtg) ∧ (∀ q ∈ x.2.2.1, xcS MT own k x.2.1.toNat q.2) ∧ pcs[i + 1]? = some (pc + 3)
  | .invokevirtual k => (∀ q ∈ x.2.2.1, xcV MT cl own k x.2.1.toNat x.2.2.2.head? q) ∧ pcs[i + 1]? = some (pc + 3)
  | .ireturn => True
  | .lreturn => True
  | .areturn => True
  | .return_ => True
  | .athrow => True
  | .new _ => True
  | ins => pcs[i + 1]? = some (pc + ilen ins)
def xExT : List (String × Nat × Nat) := [("java/lang/IllegalArgumentException", 80, 84), ("java/lang/IllegalStateException", 106, 110), ("java/util/NoSuchElementException", 189, 193)]
def xExn (e : Nat) : String := match e with
  | 0 => "java/lang/IllegalArgumentException"
  | 1 => "java/lang/IllegalStateException"
  | _ => "java/util/NoSuchElementException"
def xIsT : List (Nat × String) := [(82, "MANY is 1 to 3"), (100, "WANTED is -999 to 999"), (108, "12 EXAMPLES, or the same INPUTS, are there"), (135, "CONSTANTS are -99 to 99"), (144, "8 CONSTANTS besides 0 and 1 are there"), (159, "BUDGET is 1 to 20,000"), (191, "what is 0 to 5"), (208, "what is 0 to 2"), (353, "what is 0 or 1"), (360, "both sets have one"), (367, "what is 0 to 3"), (369, "no such CONSTANT"), (379, "no such one is KEPT"), (381, "no such EXAMPLE"), (383, "there are no EXAMPLES"), (385, "none is SOLVED"), (391, "an INPUT is none"), (393, "INPUTS are 0 to 2"), (395, "PARTS are 0 to 9"), (397, "ifs within one another are 0 to 3"), (399, "the set is empty"), (401, "the set has what there is none of")]
def xthl (cc : ByteArray) (own : String) (pc ik : Nat) (q : Nat × Nat) : Prop := own = "PartMaker" ∧ ∃ (ic : Nat) (t : Nat × String), (xExn q.1, ik, ic) ∈ xExT ∧ t ∈ xIsT ∧ decode cc (pc + 3) = .ok (.dup, 1) ∧ ((q.2 = 0 ∧ decode cc (pc + 4) = .ok (.ldc t.1, 2) ∧ decode cc (pc + 6) = .ok (.invokespecial ic, 3) ∧ decode cc (pc + 9) = .ok (.athrow, 1)) ∨ (q.2 = 1 ∧ decode cc (pc + 4) = .ok (.ldc_w t.1, 3) ∧ decode cc (pc + 7) = .ok (.invokespecial ic, 3) ∧ decode cc (pc + 10) = .ok (.athrow, 1)))
def xok (MT : List xMt) (cl : List vw_C) (own : String) (cc : ByteArray) (nL : Nat) (pcs : List Nat) (i : Nat) (x : xI) : Prop := ∃ pc : Nat, pcs[i]? = some pc ∧ (match x.1 with
  | .tableswitch d lo hi offs => (∃ len, decode cc pc = .ok (.tableswitch d lo hi offs, len)) ∧ xjmp pcs pc d x.2.1.toNat ∧ (∀ z : Int, z < lo ∨ hi < z → xsw x.2.2.1 x.2.1.toNat z = x.2.1.toNat) ∧ ∀ z : Int, lo ≤ z → z ≤ hi → ∃ off, offs[(z - lo).toNat]? = some off ∧ xjmp pcs pc off (xsw x.2.2.1 x.2.1.toNat z)
  | .new ik => decode cc pc = .ok (.new ik, 3) ∧ ∀ q ∈ x.2.2.1, xthl cc own pc ik q
  | ins => decode cc pc = .ok (ins, ilen ins) ∧ xlnk MT cl own nL pcs pc i x)
def xclok (cl : List vw_C) : Prop := ∀ (c : Nat) (r : vw_C), cl[c]? = some r → (∀ w ∈ u_ws r.1 r.2.1 r.2.2, w ∈ xtg) ∧ (∀ a, a < r.2.2 → ∀ b, b < r.2.2 → a ≠ b → (r.2.1 a).2.1 ≠ (r.2.1 b).2.1) ∧ ∃ ty0 : Nat → FieldType, ∀ k, k < r.2.2 → parseFieldDescriptor (r.2.1 k).2.2.1 = some (ty0 k)
def xGok (cl : List vw_C) (G : List xS) : Prop := (∀ (a c : Nat) (fs : List (FieldType ⊕ Nat)), G[a]? = some (.inr (.inr (c, fs))) → ∃ r : vw_C, cl[c]? = some r ∧ fs.length = r.2.2 ∧ ∀ (k : Nat) (ty : FieldType), fs[k]? = some (.inl ty) → parseFieldDescriptor (r.2.1 k).2.2.1 = some ty) ∧ (∀ (a : Nat) (q : FieldType × Nat), G[a]? = some (.inl q) → (q.1 = .int ∨ q.1 = .long ∨ q.1 = .byte ∨ q.1 = .boolean) ∧ q.2 < 2 ^ 31) ∧ ∀ (a : Nat) (ids : List Nat), G[a]? = some (.inr (.inl ids)) → ids.length < 2 ^ 31
def xcaok (ca : FieldType → ClassId) (tys : List (ClassId × FieldType)) : Prop := ∀ ty, (ty = .int ∨ ty = .long ∨ ty = .byte ∨ ty = .boolean ∨ ty = .array .int) → ∃ t0 : Nat, tys[t0]? = some (ca ty, ty)
def xP (p : Program) (l : Launch) (e : Env) (R : Room) (s : State) (m : MethodId) (args : Array Value) (below : List Frame) (meth : Method) (c : Code) (Z : State → Prop) (nL : Nat) (pcs : List Nat) (D : va_G) (cl : List vw_C) (A : Nat → Prop) (ρ : Nat → Nat) (ca : FieldType → ClassId) (G : List xS) (mc ms : Nat) (b i : Nat) (ls : xL) (sk : List xV) (h : xH) : Prop :=
  ∀ (pc : Nat) (lsr : Array Slot) (H : Heap) (locs : List Loc) (cells slots : Nat), pcs[i]? = some pc → ls.length = nL → lv_has lsr nL (xLc ρ ls 0) → va_P D cl (xWl ρ ca h G 0) H → va_D A (xWl ρ ca h G 0) → va_S A s.heap H locs → cells + b ≤ mc → slots + 6 * b ≤ ms → W p l e R s m args below meth c H locs cells slots Z (F0 m pc lsr (sk.map (xc ρ)))
theorem xgi_some {ls : xL} {k : Nat} {z : Int} (h : xgi ls k = some z) : ls[k]? = some (some (.inl z)) := by
  unfold xgi at h
  split at h
  · cases h; assumption
  · cases h
theorem xgl_some {ls : xL} {k : Nat} {z : Int} (h : xgl ls k = some z) : ls[k]? = some (some (.inr (.inl z))) := by
  unfold xgl at h
  split at h
  · cases h; assumption
  · cases h
theorem xgr_some {ls : xL} {k a : Nat} (h : xgr ls k = some a) : ls[k]? = some (some (.inr (.inr a))) := by
  unfold xgr at h
  split at h
  · cases h; assumption
  · cases h
theorem xlk_mem : ∀ {l : List (Nat × Nat)} {c k : Nat}, xlk l c = some k → (c, k) ∈ l
  | [], _, _, h => by cases h
  | q :: t, c, k, h => by
    unfold xlk at h
    split at h
    · rename_i e
      cases h
      rw [← e]
      exact List.mem_cons_self
    · exact List.mem_cons_of_mem _ (xlk_mem h)
theorem xfld_some {G : List xS} {a : Nat} {l : List (Nat × Nat)} {k : Nat} {f : FieldType ⊕ Nat} (h : xfld G a l = some (k, f)) : ∃ (c : Nat) (fs : List (FieldType ⊕ Nat)), G[a]? = some (.inr (.inr (c, fs))) ∧ (c, k) ∈ l ∧ fs[k]? = some f := by
  unfold xfld at h
  split at h
  · rename_i c fs hg
    split at h
    · rename_i k' hk
      split at h
      · rename_i f' hf
        cases h
        exact ⟨c, fs, hg, xlk_mem hk, hf⟩
      · cases h
    · cases h
  · cases h
theorem xcmp_lg (a b : Int) : lg_cmp (Int64.ofInt a) (Int64.ofInt b) = Int32.ofInt (xcmp a b) := by
  unfold lg_cmp xcmp w64
  simp only [gt_iff_lt, Int64.lt_iff_toInt_lt, ← Int64.toInt_inj]
  by_cases h : (Int64.ofInt b).toInt < (Int64.ofInt a).toInt
  · rw [if_pos h, if_neg (by omega), if_neg (by omega)]; rfl
  · rw [if_neg h]
    by_cases h2 : (Int64.ofInt a).toInt = (Int64.ofInt b).toInt
    · rw [if_pos h2, if_neg (by omega), if_pos h2]; rfl
    · rw [if_neg h2, if_pos (by omega)]; rfl
theorem xl2i (a : Int) : (Int64.ofInt a).toInt32 = Int32.ofInt a := by
  apply Int32.toInt_inj.mp
  rw [Int64.toInt_toInt32, Int64.toInt_ofInt, Int32.toInt_ofInt]
  exact Int.bmod_bmod_of_dvd (by decide)
theorem xi2l (a : Int) : (Int32.ofInt a).toInt64 = Int64.ofInt (w32 a) := by
  apply Int64.toInt_inj.mp
  rw [Int32.toInt_toInt64, w32, Int64.toInt_ofInt]
  have h1 := Int32.le_toInt (Int32.ofInt a)
  have h2 := Int32.toInt_lt (Int32.ofInt a)
  rw [Int.bmod_eq_of_le] <;> simp only [Int64.size] <;> omega
section XSTEP
variable {p : Program} {l : Launch} {e : Env} {R : Room} {s : State} {m : MethodId} {args : Array Value} {below : List Frame} {meth : Method} {c : Code} {Z : State → Prop} {own : String} {cc : ByteArray} {nL : Nat} {pcs : List Nat} {D : va_G} {cl : List vw_C} {tys : List (ClassId × FieldType)} {A : Nat → Prop} {ρ : Nat → Nat} {ca : FieldType → ClassId} {G : List xS} {cd : List xI} {mc ms : Nat} {MT : List xMt}
set_option maxHeartbeats 4000000 in
theorem x_sx (hx : p.tables.exec = Jvm.exec) (hb : c.code = cc) (hown : s.vm.findClass own = some m.cls) (hts : ∀ w ∈ xtg, w.before args s = true) (hK : va_K D cl tys s) (hok : ∀ (i : Nat) (x : xI), cd[i]? = some x → xok MT cl own cc nL pcs i x) (hcl : xclok cl) (hG : xGok cl G) (hca : xcaok ca tys)
    (b i : Nat) (ls : xL) (sk : List xV) (h : xH) (x : xI) (i' : Nat) (ls' : xL) (sk' : List xV) (h' : xH) (hc : cd[i]? = some x) (hs : sx G x i ls sk h = some (i', ls', sk', h'))
    (hk : xP p l e R s m args below meth c Z nL pcs D cl A ρ ca G mc ms b i' ls' sk' h') : xP p l e R s m args below meth c Z nL pcs D cl A ρ ca G mc ms b i ls sk h := by
  intro pc lsr H locs cells slots hpc hn hl hP hD hS hb1 hb2
  obtain ⟨pc0, hpc0, ho⟩ := hok i x hc
  cases hpc0.symm.trans hpc
  unfold sx at hs
  split at hs
  case h_1 n sk hi =>
    rw [hi] at ho
    obtain ⟨hd, hn1⟩ := ho
    unfold xlnk at hn1
    rw [hi] at hn1
    cases hs
    exact lv_iconst hx hb hd rfl (hk _ _ _ _ _ _ hn1 hn hl hP hD hS hb1 hb2)
  case h_2 n sk hi =>
    rw [hi] at ho
    obtain ⟨hd, hn1⟩ := ho
    unfold xlnk at hn1
    rw [hi] at hn1
    cases hs
    obtain ⟨hv, hn1⟩ := hn1
    exact lv_bipush hx hb hd hv (hk _ _ _ _ _ _ hn1 hn hl hP hD hS hb1 hb2)
  case h_3 n sk hi =>
    rw [hi] at ho
    obtain ⟨hd, hn1⟩ := ho
    unfold xlnk at hn1
    rw [hi] at hn1
    cases hs
    obtain ⟨hv, hn1⟩ := hn1
    exact lv_sipush hx hb hd hv (hk _ _ _ _ _ _ hn1 hn hl hP hD hS hb1 hb2)
  case h_4 n sk hi =>
    rw [hi] at ho
    obtain ⟨hd, hn1⟩ := ho
    unfold xlnk at hn1
    rw [hi] at hn1
    cases hs
    exact lv_lconst hx hb hd (by rfl) (hk _ _ _ _ _ _ hn1 hn hl hP hD hS hb1 hb2)
  case h_5 n sk hi =>
    rw [hi] at ho
    obtain ⟨hd, hn1⟩ := ho
    unfold xlnk at hn1
    rw [hi] at hn1
    obtain ⟨hv, hn1⟩ := hn1
    split at hs
    · rename_i hnil
      cases hs
      exact lv_ldc hx hb hown (hts _ (hv hnil)) hd (hk _ _ _ _ _ _ hn1 hn hl hP hD hS hb1 hb2)
    · cases hs
  case h_6 n sk hi =>
    rw [hi] at ho
    obtain ⟨hd, hn1⟩ := ho
    unfold xlnk at hn1
    rw [hi] at hn1
    obtain ⟨hv, hn1⟩ := hn1
    split at hs
    · rename_i hnil
      cases hs
      exact lv_ldcw hx hb hown (hts _ (hv hnil)) hd (hk _ _ _ _ _ _ hn1 hn hl hP hD hS hb1 hb2)
    · cases hs
  case h_7 n sk hi =>
    rw [hi] at ho
    obtain ⟨hd, hn1⟩ := ho
    unfold xlnk at hn1
    rw [hi] at hn1
    cases hs
    obtain ⟨hv, hn1⟩ := hn1
    exact lv_ldc2 hx hb hown (hts _ hv) hd (hk _ _ _ _ _ _ hn1 hn hl hP hD hS hb1 hb2)
  case h_8 sk k hi =>
    rw [hi] at ho
    obtain ⟨hd, hn1⟩ := ho
    unfold xlnk at hn1
    rw [hi] at hn1
    cases hz : xgi ls k with
    | none => rw [hz] at hs; cases hs
    | some z =>
      rw [hz] at hs
      cases hs
      exact lv_iload hx hb hd (xLc_at hl (xgi_some hz)) (hk _ _ _ _ _ _ hn1 hn hl hP hD hS hb1 hb2)
  case h_9 sk k hi =>
    rw [hi] at ho
    obtain ⟨hd, hn1⟩ := ho
    unfold xlnk at hn1
    rw [hi] at hn1
    cases hz : xgi ls k.val with
    | none => rw [hz] at hs; cases hs
    | some z =>
      rw [hz] at hs
      cases hs
      exact lv_iload_n hx hb hd rfl (xLc_at hl (xgi_some hz)) (hk _ _ _ _ _ _ hn1 hn hl hP hD hS hb1 hb2)
  case h_10 sk k hi =>
    rw [hi] at ho
    obtain ⟨hd, hn1⟩ := ho
    unfold xlnk at hn1
    rw [hi] at hn1
    cases hz : xgl ls k with
    | none => rw [hz] at hs; cases hs
    | some z =>
      rw [hz] at hs
      cases hs
      exact lv_lload hx hb hd (xLc_at hl (xgl_some hz)) (hk _ _ _ _ _ _ hn1 hn hl hP hD hS hb1 hb2)
  case h_11 sk k hi =>
    rw [hi] at ho
    obtain ⟨hd, hn1⟩ := ho
    unfold xlnk at hn1
    rw [hi] at hn1
    cases hz : xgr ls k with
    | none => rw [hz] at hs; cases hs
    | some z =>
      rw [hz] at hs
      cases hs
      exact lv_aload hx hb hd (xLc_at hl (xgr_some hz)) (hk _ _ _ _ _ _ hn1 hn hl hP hD hS hb1 hb2)
  case h_12 sk k hi =>
    rw [hi] at ho
    obtain ⟨hd, hn1⟩ := ho
    unfold xlnk at hn1
    rw [hi] at hn1
    cases hz : xgr ls k.val with
    | none => rw [hz] at hs; cases hs
    | some z =>
      rw [hz] at hs
      cases hs
      exact lv_aload_n hx hb hd rfl (xLc_at hl (xgr_some hz)) (hk _ _ _ _ _ _ hn1 hn hl hP hD hS hb1 hb2)
  case h_13 k z sk hi =>
    rw [hi] at ho
    obtain ⟨hd, hn1⟩ := ho
    unfold xlnk at hn1
    rw [hi] at hn1
    cases hs
    obtain ⟨hb0, hn1⟩ := hn1
    exact lv_istore hx hb hd hl (by have := hb0; omega) rfl (fun ls2 hl2 => hk _ _ _ _ _ _ hn1 (by rw [xst1_len]; exact hn) (xLc_st1 hl2) hP hD hS hb1 hb2)
  case h_14 k z sk hi =>
    rw [hi] at ho
    obtain ⟨hd, hn1⟩ := ho
    unfold xlnk at hn1
    rw [hi] at hn1
    cases hs
    obtain ⟨hb0, hn1⟩ := hn1
    exact lv_istore_n hx hb hd rfl hl (by have := hb0; omega) rfl (fun ls2 hl2 => hk _ _ _ _ _ _ hn1 (by rw [xst1_len]; exact hn) (xLc_st1 hl2) hP hD hS hb1 hb2)
  case h_15 k z sk hi =>
    rw [hi] at ho
    obtain ⟨hd, hn1⟩ := ho
    unfold xlnk at hn1
    rw [hi] at hn1
    cases hs
    obtain ⟨hb0, hn1⟩ := hn1
    exact lv_lstore hx hb hd hl (by have := hb0; omega) rfl (fun ls2 hl2 => hk _ _ _ _ _ _ hn1 (by rw [xst2_len]; exact hn) (xLc_st2 hl2) hP hD hS hb1 hb2)
  case h_16 k z sk hi =>
    rw [hi] at ho
    obtain ⟨hd, hn1⟩ := ho
    unfold xlnk at hn1
    rw [hi] at hn1
    cases hs
    obtain ⟨hb0, hn1⟩ := hn1
    exact lv_astore hx hb hd hl (by have := hb0; omega) rfl (fun ls2 hl2 => hk _ _ _ _ _ _ hn1 (by rw [xst1_len]; exact hn) (xLc_st1 hl2) hP hD hS hb1 hb2)
  case h_17 k z sk hi =>
    rw [hi] at ho
    obtain ⟨hd, hn1⟩ := ho
    unfold xlnk at hn1
    rw [hi] at hn1
    cases hs
    obtain ⟨hb0, hn1⟩ := hn1
    exact lv_astore_n hx hb hd rfl hl (by have := hb0; omega) rfl (fun ls2 hl2 => hk _ _ _ _ _ _ hn1 (by rw [xst1_len]; exact hn) (xLc_st1 hl2) hP hD hS hb1 hb2)
  case h_18 sk k n hi =>
    rw [hi] at ho
    obtain ⟨hd, hn1⟩ := ho
    unfold xlnk at hn1
    rw [hi] at hn1
    cases hz : xgi ls k with
    | none => rw [hz] at hs; cases hs
    | some z =>
      rw [hz] at hs
      cases hs
      have hat := xgi_some hz
      have hm : (k, Value.int (Int32.ofInt z)) ∈ xLc ρ ls 0 := (xLc_mem ρ ls 0 _).mpr ⟨k, .inl z, hat, by simp [xc]⟩
      obtain ⟨j, hj⟩ := List.getElem?_of_mem hm
      exact lv_iinc (v := Int32.ofInt (z + n)) hx hb hd hl hj (Int32.ofInt_add z n).symm (by rw [← hn]; exact (List.getElem?_eq_some_iff.mp hat).1) rfl (fun ls2 hl2 => hk _ _ _ _ _ _ hn1 (by rw [xst1_len]; exact hn) (xLc_st1 (v := .inl (z + n)) hl2) hP hD hS hb1 hb2)
  case h_19 b2 a2 sk hi =>
    rw [hi] at ho
    obtain ⟨hd, hn1⟩ := ho
    unfold xlnk at hn1
    rw [hi] at hn1
    cases hs
    have k := hk _ _ _ _ _ _ hn1 hn hl hP hD hS hb1 hb2
    simp only [List.map_cons, xc, Int32.ofInt_add] at k
    exact lv_iadd hx hb hd  k
  case h_20 b2 a2 sk hi =>
    rw [hi] at ho
    obtain ⟨hd, hn1⟩ := ho
    unfold xlnk at hn1
    rw [hi] at hn1
    cases hs
    have k := hk _ _ _ _ _ _ hn1 hn hl hP hD hS hb1 hb2
    simp only [List.map_cons, xc, Int32.ofInt_sub] at k
    exact lv_isub hx hb hd  k
  case h_21 b2 a2 sk hi =>
    rw [hi] at ho
    obtain ⟨hd, hn1⟩ := ho
    unfold xlnk at hn1
    rw [hi] at hn1
    cases hs
    have k := hk _ _ _ _ _ _ hn1 hn hl hP hD hS hb1 hb2
    simp only [List.map_cons, xc, Int32.ofInt_mul] at k
    exact lv_imul hx hb hd  k
  case h_22 a2 sk hi =>
    rw [hi] at ho
    obtain ⟨hd, hn1⟩ := ho
    unfold xlnk at hn1
    rw [hi] at hn1
    cases hs
    have k := hk _ _ _ _ _ _ hn1 hn hl hP hD hS hb1 hb2
    simp only [List.map_cons, xc, Int32.ofInt_neg] at k
    exact lv_ineg hx hb hd  k
  case h_23 b2 a2 sk hi =>
    rw [hi] at ho
    obtain ⟨hd, hn1⟩ := ho
    unfold xlnk at hn1
    rw [hi] at hn1
    cases hs
    have k := hk _ _ _ _ _ _ hn1 hn hl hP hD hS hb1 hb2
    simp only [List.map_cons, xc, xand, Int32.ofInt_toInt] at k
    exact lv_iand hx hb hd  k
  case h_24 b2 a2 sk hi =>
    rw [hi] at ho
    obtain ⟨hd, hn1⟩ := ho
    unfold xlnk at hn1
    rw [hi] at hn1
    cases hs
    have k := hk _ _ _ _ _ _ hn1 hn hl hP hD hS hb1 hb2
    simp only [List.map_cons, xc, xor_, Int32.ofInt_toInt] at k
    exact lv_ior hx hb hd  k
  case h_25 b2 a2 sk hi =>
    rw [hi] at ho
    obtain ⟨hd, hn1⟩ := ho
    unfold xlnk at hn1
    rw [hi] at hn1
    cases hs
    have k := hk _ _ _ _ _ _ hn1 hn hl hP hD hS hb1 hb2
    simp only [List.map_cons, xc, xxor, Int32.ofInt_toInt] at k
    exact lv_ixor hx hb hd  k
  case h_26 b2 a2 sk hi =>
    rw [hi] at ho
    obtain ⟨hd, hn1⟩ := ho
    unfold xlnk at hn1
    rw [hi] at hn1
    cases hs
    have k := hk _ _ _ _ _ _ hn1 hn hl hP hD hS hb1 hb2
    simp only [List.map_cons, xc, xshl, Int32.ofInt_toInt] at k
    exact lv_ishl hx hb hd  k
  case h_27 b2 a2 sk hi =>
    rw [hi] at ho
    obtain ⟨hd, hn1⟩ := ho
    unfold xlnk at hn1
    rw [hi] at hn1
    cases hs
    have k := hk _ _ _ _ _ _ hn1 hn hl hP hD hS hb1 hb2
    simp only [List.map_cons, xc, xshr, Int32.ofInt_toInt] at k
    exact lv_ishr hx hb hd  k
  case h_28 b2 a2 sk hi =>
    rw [hi] at ho
    obtain ⟨hd, hn1⟩ := ho
    unfold xlnk at hn1
    rw [hi] at hn1
    cases hs
    have k := hk _ _ _ _ _ _ hn1 hn hl hP hD hS hb1 hb2
    simp only [List.map_cons, xc, xushr, Int32.ofInt_toInt] at k
    exact lv_iushr hx hb hd rfl k
  case h_29 b2 a2 sk hi =>
    rw [hi] at ho
    obtain ⟨hd, hn1⟩ := ho
    unfold xlnk at hn1
    rw [hi] at hn1
    cases hs
    have k := hk _ _ _ _ _ _ hn1 hn hl hP hD hS hb1 hb2
    simp only [List.map_cons, xc, Int64.ofInt_add] at k
    exact lv_ladd hx hb hd  k
  case h_30 b2 a2 sk hi =>
    rw [hi] at ho
    obtain ⟨hd, hn1⟩ := ho
    unfold xlnk at hn1
    rw [hi] at hn1
    cases hs
    have k := hk _ _ _ _ _ _ hn1 hn hl hP hD hS hb1 hb2
    simp only [List.map_cons, xc, Int64.ofInt_sub] at k
    exact lv_lsub hx hb hd  k
  case h_31 b2 a2 sk hi =>
    rw [hi] at ho
    obtain ⟨hd, hn1⟩ := ho
    unfold xlnk at hn1
    rw [hi] at hn1
    cases hs
    have k := hk _ _ _ _ _ _ hn1 hn hl hP hD hS hb1 hb2
    simp only [List.map_cons, xc, Int64.ofInt_mul] at k
    exact lv_lmul hx hb hd  k
  case h_32 a2 sk hi =>
    rw [hi] at ho
    obtain ⟨hd, hn1⟩ := ho
    unfold xlnk at hn1
    rw [hi] at hn1
    cases hs
    have k := hk _ _ _ _ _ _ hn1 hn hl hP hD hS hb1 hb2
    simp only [List.map_cons, xc, Int64.ofInt_neg] at k
    exact lv_lneg hx hb hd  k
  case h_33 b2 a2 sk hi =>
    rw [hi] at ho
    obtain ⟨hd, hn1⟩ := ho
    unfold xlnk at hn1
    rw [hi] at hn1
    cases hs
    have k := hk _ _ _ _ _ _ hn1 hn hl hP hD hS hb1 hb2
    simp only [List.map_cons, xc, xlshl, Int64.ofInt_toInt] at k
    exact lv_lshl hx hb hd rfl k
  case h_34 b2 a2 sk hi =>
    rw [hi] at ho
    obtain ⟨hd, hn1⟩ := ho
    unfold xlnk at hn1
    rw [hi] at hn1
    cases hs
    have k := hk _ _ _ _ _ _ hn1 hn hl hP hD hS hb1 hb2
    simp only [List.map_cons, xc, xlushr, Int64.ofInt_toInt] at k
    exact lv_lushr hx hb hd rfl k
  case h_35 a2 sk hi =>
    rw [hi] at ho
    obtain ⟨hd, hn1⟩ := ho
    unfold xlnk at hn1
    rw [hi] at hn1
    cases hs
    exact lv_i2l hx hb hd (xi2l a2) (hk _ _ _ _ _ _ hn1 hn hl hP hD hS hb1 hb2)
  case h_36 a2 sk hi =>
    rw [hi] at ho
    obtain ⟨hd, hn1⟩ := ho
    unfold xlnk at hn1
    rw [hi] at hn1
    cases hs
    exact lv_l2i hx hb hd (xl2i a2) (hk _ _ _ _ _ _ hn1 hn hl hP hD hS hb1 hb2)
  case h_37 a2 sk hi =>
    rw [hi] at ho
    obtain ⟨hd, hn1⟩ := ho
    unfold xlnk at hn1
    rw [hi] at hn1
    cases hs
    have k := hk _ _ _ _ _ _ hn1 hn hl hP hD hS hb1 hb2
    simp only [List.map_cons, xc, xi2b, Int32.ofInt_toInt] at k
    exact lv_i2b hx hb hd rfl k
  case h_38 a2 sk hi =>
    rw [hi] at ho
    obtain ⟨hd, hn1⟩ := ho
    unfold xlnk at hn1
    rw [hi] at hn1
    cases hs
    have k := hk _ _ _ _ _ _ hn1 hn hl hP hD hS hb1 hb2
    simp only [List.map_cons, xc, xi2c, Int32.ofInt_toInt] at k
    exact lv_i2c hx hb hd rfl k
  case h_39 b2 a2 sk hi =>
    rw [hi] at ho
    obtain ⟨hd, hn1⟩ := ho
    unfold xlnk at hn1
    rw [hi] at hn1
    cases hs
    have k := hk _ _ _ _ _ _ hn1 hn hl hP hD hS hb1 hb2
    simp only [List.map_cons, xc, ← xcmp_lg] at k
    exact W.lcmp hx hb hd k
  case h_40 a2 sk hi =>
    rw [hi] at ho
    obtain ⟨hd, hn1⟩ := ho
    unfold xlnk at hn1
    rw [hi] at hn1
    cases hs
    exact lv_dup hx hb hd rfl (hk _ _ _ _ _ _ hn1 hn hl hP hD hS hb1 hb2)
  case h_41 a2 sk hi =>
    rw [hi] at ho
    obtain ⟨hd, hn1⟩ := ho
    unfold xlnk at hn1
    rw [hi] at hn1
    cases hs
    exact lv_dup hx hb hd rfl (hk _ _ _ _ _ _ hn1 hn hl hP hD hS hb1 hb2)
  case h_42 a2 sk hi =>
    rw [hi] at ho
    obtain ⟨hd, hn1⟩ := ho
    unfold xlnk at hn1
    rw [hi] at hn1
    cases hs
    exact lv_pop hx hb hd rfl (hk _ _ _ _ _ _ hn1 hn hl hP hD hS hb1 hb2)
  case h_43 b2 a2 sk hi =>
    rw [hi] at ho
    obtain ⟨hd, hn1⟩ := ho
    unfold xlnk at hn1
    rw [hi] at hn1
    cases hs
    exact lv_dup2_11 hx hb hd rfl rfl (hk _ _ _ _ _ _ hn1 hn hl hP hD hS hb1 hb2)
  case h_44 n sk hi =>
    rw [hi] at ho
    obtain ⟨hd, hn1⟩ := ho
    unfold xlnk at hn1
    rw [hi] at hn1
    cases hs
    obtain ⟨q, hq, hqe⟩ := hn1
    have hn1 := hq
    exact lv_goto hx hb hd hqe (hk _ _ _ _ _ _ hn1 hn hl hP hD hS hb1 hb2)
  case h_45 d lo hi2 offs z sk hi =>
    rw [hi] at ho
    cases hs
    obtain ⟨⟨len, hd⟩, ⟨q, hq, hqe⟩, hout, hin⟩ := ho
    by_cases hz : w32 z < lo ∨ hi2 < w32 z
    · rw [hout _ hz] at hk
      exact lv_tableOut hx hb hd hz hqe (hk _ _ _ _ _ _ hq hn hl hP hD hS hb1 hb2)
    · obtain ⟨off, hoff, q2, hq2, hqe2⟩ := hin (w32 z) (by omega) (by omega)
      exact lv_tableIn hx hb hd (fun z9 => hz (Or.inl z9)) (fun z9 => hz (Or.inr z9)) hoff hqe2 (hk _ _ _ _ _ _ hq2 hn hl hP hD hS hb1 hb2)
  case h_46 n a2 sk hi =>
    rw [hi] at ho
    obtain ⟨hd, hn1⟩ := ho
    unfold xlnk at hn1
    rw [hi] at hn1
    obtain ⟨hf, hn1⟩ := hn1
    split at hs
    · rename_i k ty hfl
      cases hs
      obtain ⟨c0, fs, hg, hmem, hfs⟩ := xfld_some hfl
      obtain ⟨r, ref, hr, hkN, hlink, hsame, -⟩ := hf _ hmem
      obtain ⟨hin, -, -⟩ := hcl _ _ hr
      exact va_get (C := r.1) (T := r.2.1) (N := r.2.2) (ref := ref) hx hb hts hin hown hK hP a2 (xW_get hg) hr k hkN (hts _ hlink) (fun x9 h9 => hsame.elim (fun e9 => by rw [e9]; exact h9) (fun hsm => u_same (hts _ hsm) x9 h9)) (v := xc ρ (xmk ty (h a2 k))) (by rw [xF_get, hfs]; simp) hd (hk _ _ _ _ _ _ hn1 hn hl hP hD hS hb1 hb2)
    · rename_i k d hfl
      cases hs
      obtain ⟨c0, fs, hg, hmem, hfs⟩ := xfld_some hfl
      obtain ⟨r, ref, hr, hkN, hlink, hsame, -⟩ := hf _ hmem
      obtain ⟨hin, -, -⟩ := hcl _ _ hr
      exact va_get (C := r.1) (T := r.2.1) (N := r.2.2) (ref := ref) hx hb hts hin hown hK hP a2 (xW_get hg) hr k hkN (hts _ hlink) (fun x9 h9 => hsame.elim (fun e9 => by rw [e9]; exact h9) (fun hsm => u_same (hts _ hsm) x9 h9)) (v := .ref (ρ d)) (by rw [xF_get, hfs]; simp) hd (hk _ _ _ _ _ _ hn1 hn hl hP hD hS hb1 hb2)
    · cases hs
  case h_47 n z a2 sk hi =>
    rw [hi] at ho
    obtain ⟨hd, hn1⟩ := ho
    unfold xlnk at hn1
    rw [hi] at hn1
    obtain ⟨hf, hn1⟩ := hn1
    split at hs
    · rename_i k hfl
      cases hs
      obtain ⟨c0, fs, hg, hmem, hfs⟩ := xfld_some hfl
      obtain ⟨r, ref, hr, hkN, hlink, hsame, hfin⟩ := hf _ hmem
      obtain ⟨hin, hnm, ty0, hty⟩ := hcl _ _ hr
      obtain ⟨r', hr', hlen, hpt⟩ := hG.1 _ _ _ hg
      cases hr.symm.trans hr'
      have ho1 : ∀ j : Int, j ≠ (k : Int) → xup h a2 k z a2 j = h a2 j := fun j hj => by simp [xup, hj]
      have hv1 : xup h a2 k z a2 (k : Int) = z := by simp [xup]
      refine va_put (C := r.1) (T := r.2.1) (N := r.2.2) (ref := ref) (v := xc ρ (xmk .int (xup h a2 k z a2 k))) (ty := .int) hx hb hts hin ty0 hty hnm hown hK hP hD hS a2 (xW_get hg) hr k hkN (hts _ hlink) (fun x9 h9 => hsame.elim (fun e9 => by rw [e9]; exact h9) (fun hsm => u_same (hts _ hsm) x9 h9)) (hfin rfl) (hpt k .int hfs) rfl rfl (by rw [xF_len, hlen]; exact hkN) hd (fun H1 locs1 hP1 hD1 hS1 => ?_) |> cast (by rw [hv1]; rfl)
      have e1 : (xWl ρ ca h G 0).set a2 (ρ a2, .inr (c0, (xF ρ (h a2) fs 0).set k (xc ρ (xmk .int (xup h a2 k z a2 k))))) = xWl ρ ca (xup h a2 k z) G 0 := xW_set hg (fun a' ha' => by funext j; simp [xup, ha']) (by show (Sum.inr (c0, xF ρ (xup h a2 k z a2) fs 0) : va_E) = _; rw [xF_set hfs ho1])
      rw [e1] at hP1 hD1
      exact hk _ _ _ _ _ _ hn1 hn hl hP1 hD1 hS1 hb1 hb2
    · cases hs
  case h_48 a2 sk hi =>
    rw [hi] at ho
    obtain ⟨hd, hn1⟩ := ho
    unfold xlnk at hn1
    rw [hi] at hn1
    cases hz : xlen G a2 with
    | none => rw [hz] at hs; cases hs
    | some n9 =>
      rw [hz] at hs
      cases hs
      unfold xlen at hz
      split at hz
      · rename_i q hg
        cases hz
        obtain ⟨hq1, hq2⟩ := hG.2.1 _ _ hg
        obtain ⟨ty9, n9⟩ := q
        rcases hq1 with rfl | rfl | rfl | rfl
        · obtain ⟨t0, ht0⟩ := hca .int (by simp)
          exact va_alen hx hb hK hP a2 t0 (xW_get hg) ht0 (v := Int32.ofInt (n9 : Int)) (by exact (Int32.ofInt_eq_ofNat).symm) hd (hk _ _ _ _ _ _ hn1 hn hl hP hD hS hb1 hb2)
        · obtain ⟨t0, ht0⟩ := hca .long (by simp)
          exact va_alen hx hb hK hP a2 t0 (xW_get hg) ht0 (v := Int32.ofInt (n9 : Int)) (by exact (Int32.ofInt_eq_ofNat).symm) hd (hk _ _ _ _ _ _ hn1 hn hl hP hD hS hb1 hb2)
        · obtain ⟨t0, ht0⟩ := hca .byte (by simp)
          exact va_alen hx hb hK hP a2 t0 (xW_get hg) ht0 (v := Int32.ofInt (n9 : Int)) (by exact (Int32.ofInt_eq_ofNat).symm) hd (hk _ _ _ _ _ _ hn1 hn hl hP hD hS hb1 hb2)
        · obtain ⟨t0, ht0⟩ := hca .boolean (by simp)
          exact va_alen hx hb hK hP a2 t0 (xW_get hg) ht0 (v := Int32.ofInt (n9 : Int)) (by exact (Int32.ofInt_eq_ofNat).symm) hd (hk _ _ _ _ _ _ hn1 hn hl hP hD hS hb1 hb2)
      · rename_i ids hg
        cases hz
        obtain ⟨t0, ht0⟩ := hca (.array .int) (by simp)
        exact va_alen hx hb hK hP a2 t0 (xW_get hg) ht0 (v := Int32.ofInt ((ids.length : Nat) : Int)) (by exact (Int32.ofInt_eq_ofNat).symm) hd (hk _ _ _ _ _ _ hn1 hn hl hP hD hS hb1 hb2)
      · cases hz
  · cases hs
end XSTEP
