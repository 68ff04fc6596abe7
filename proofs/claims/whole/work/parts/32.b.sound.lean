/-! the plain machine with strings is the machine's -/
/-- the strings and static rows, at the addresses that stand for them -/
def xStr (ρ : Nat → Nat) (sz0 : Nat) (s : State) : Prop := jC sz0 s ∧ (∀ (j : Nat) (q : String × Nat × List Int), xSite[j]? = some q → (∃ tx : String, vk_R q.1 q.2.1 tx (ρ (1000 + j)) s) ∧ ∃ v : Nat, jS sz0 (ρ (1000 + j)) v q.2.2 s) ∧ (∀ (t : Nat) (r : List Int), xRow[t]? = some r → va_T .char (ρ (2000 + t)) r.length (fun i => .int (Int32.ofInt (r.getD i 0))) (xA sz0) s s.heap) ∧ ∀ q ∈ xSta, ∃ C n d : String, va_Z C n d (.ref (ρ (2000 + q.2.2))) (xA sz0) s s.heap ∧ Cond.fieldLink q.1 q.2.1 C n d ∈ xtg
theorem xSite_b : ∀ q ∈ xSite, q.2.2.length < 100 ∧ ∀ b ∈ q.2.2, 0 ≤ b ∧ b < 128 := by decide
theorem xSite_g {j : Nat} {q : String × Nat × List Int} (h : xSite[j]? = some q) (i : Nat) : 0 ≤ q.2.2.getD i 0 ∧ q.2.2.getD i 0 < 128 := by
  have h1 := (xSite_b q (List.mem_of_getElem? h)).2
  rw [List.getD_eq_getElem?_getD]
  cases hb : q.2.2[i]? with
  | none => exact ⟨by decide, by decide⟩
  | some v => exact h1 v (List.mem_of_getElem? hb)
theorem xRow_b : ∀ r ∈ xRow, r.length < 100 := by decide
theorem ofInt_nI {z : Int} (h : 0 ≤ z) : Int32.ofInt z = nI z.toNat := by rw [nI, ← Int32.ofInt_eq_ofNat, Int.toNat_of_nonneg h]
theorem xLen_l : ∀ q ∈ xLenS, jlk q.1 q.2 jlny prog_28_method_54_code 1 (some .int) 0 := List.forall_mem_cons.mpr ⟨jk_ln1, List.forall_mem_cons.mpr ⟨jk_ln2, fun _ h => absurd h List.not_mem_nil⟩⟩
theorem xCh_l : ∀ q ∈ xChS, jlk q.1 q.2 jchy prog_28_method_56_code 2 (some .char) 1 := List.forall_mem_cons.mpr ⟨jk_ch1, List.forall_mem_cons.mpr ⟨jk_ch2, fun _ h => absurd h List.not_mem_nil⟩⟩
section XSTRS
variable {p : Program} {l : Launch} {e : Env} {R : Room} {s : State} {m : MethodId} {args : Array Value} {below : List Frame} {meth : Method} {c : Code} {Z : State → Prop} {own : String} {cc : ByteArray} {nL : Nat} {pcs : List Nat} {D : va_G} {cl : List vw_C} {tys : List (ClassId × FieldType)} {ρ : Nat → Nat} {ca : FieldType → ClassId} {G : List xS} {cd : List xI} {mc ms : Nat} {MT : List xMt} {b i : Nat} {ls : xL} {sk : List xV} {h : xH} {x : xI} {sz0 : Nat} {ST : State → Prop} {d : Nat}
theorem x_ldcW {index q : Nat} {tx : String} {H : Heap} {locs : List Loc} {cells slots pc : Nat} {lsr : Array Slot} {rest : List Value} (hexec : p.tables.exec = Jvm.exec) (hb : c.code = cc) (hown : s.vm.findClass own = some m.cls) (hZ : vk_R own index tx q s) (hdg : decode cc pc = .ok (.ldc_w index, 3))
    (k : W p l e R s m args below meth c H locs cells slots Z (F0 m (pc + 3) lsr (.ref q :: rest))) : W p l e R s m args below meth c H locs cells slots Z (F0 m pc lsr rest) := by
  intro T hT X
  obtain ⟨t, a1, b1⟩ := k T hT X
  exact ⟨t, X.ldcStringW hexec hown (text := tx) (a := q) hZ.1 hZ.2 (g := F0 m pc lsr rest) rfl (by rw [hb]; exact hdg) t a1, b1⟩
theorem x_str (hx : p.tables.exec = Jvm.exec) (hb : c.code = cc) (hown : s.vm.findClass own = some m.cls) (hts : ∀ w ∈ xtg, w.before args s = true) (hok : ∀ (i : Nat) (x : xI), cd[i]? = some x → xok MT cl own cc nL pcs i x) (hml : c.maxLocals = nL) (hsz : sz0 ≤ s.heap.size) (hRf : d + 9 ≤ R.frames) (hRl : 60 * d + 260 ≤ R.locals) (hRc : mc ≤ R.cells) (hRs : ms ≤ R.slots) (hF : xStr ρ sz0 s) {k j : Nat} {bs : List Int} (hc : cd[i]? = some x) (hi : x.1 = .ldc k ∨ x.1 = .ldc_w k) (hs : xSite[j]? = some (own, k, bs)) (hk : xP p l e R s m args below meth c Z nL pcs D cl (xA sz0) ρ ca G mc ms b (i + 1) ls (.inr (.inr (1000 + j)) :: sk) h) : xP p l e R s m args below meth c Z nL pcs D cl (xA sz0) ρ ca G mc ms b i ls sk h := by
  intro pc lsr H locs cells slots hpc hn hl hP hD hS hb1 hb2
  obtain ⟨pc0, hpc0, ho⟩ := hok i x hc
  cases hpc0.symm.trans hpc
  obtain ⟨⟨tx, hR⟩, -⟩ := hF.2.1 j _ hs
  rcases hi with hi | hi
  · rw [hi] at ho
    obtain ⟨hd, hn1⟩ := ho
    unfold xlnk at hn1
    rw [hi] at hn1
    exact va_ldcS hx hb hown hR hd (hk _ _ _ _ _ _ hn1.2 hn hl hP hD hS hb1 hb2)
  · rw [hi] at ho
    obtain ⟨hd, hn1⟩ := ho
    unfold xlnk at hn1
    rw [hi] at hn1
    exact x_ldcW hx hb hown hR hd (hk _ _ _ _ _ _ hn1.2 hn hl hP hD hS hb1 hb2)
theorem x_len (hx : p.tables.exec = Jvm.exec) (hb : c.code = cc) (hown : s.vm.findClass own = some m.cls) (hts : ∀ w ∈ xtg, w.before args s = true) (hok : ∀ (i : Nat) (x : xI), cd[i]? = some x → xok MT cl own cc nL pcs i x) (hml : c.maxLocals = nL) (hsz : sz0 ≤ s.heap.size) (hRf : d + 9 ≤ R.frames) (hRl : 60 * d + 260 ≤ R.locals) (hRc : mc ≤ R.cells) (hRs : ms ≤ R.slots) (hF : xStr ρ sz0 s) {k j : Nat} {q : String × Nat × List Int} (hc : cd[i]? = some x) (hi : x.1 = .invokevirtual k) (ho1 : (own, k) ∈ xLenS) (hs : xSite[j]? = some q) (hw : (sk.map xcat).sum ≤ 8) (hk : xP p l e R s m args below meth c Z nL pcs D cl (xA sz0) ρ ca G mc ms b (i + 1) ls (.inl (q.2.2.length : Nat) :: sk) h) : xP p l e R s m args below meth c Z nL pcs D cl (xA sz0) ρ ca G mc ms b i ls (.inr (.inr (1000 + j)) :: sk) h := by
  intro pc lsr H locs cells slots hpc hn hl hP hD hS hb1 hb2
  obtain ⟨pc0, hpc0, ho⟩ := hok i x hc
  cases hpc0.symm.trans hpc
  obtain ⟨-, v, hJ⟩ := hF.2.1 j _ hs
  rw [hi] at ho
  obtain ⟨hd, hn1⟩ := ho
  unfold xlnk at hn1
  rw [hi] at hn1
  have hF0 : jF sz0 (ρ (1000 + j)) v q.2.2 s := ⟨hsz, hF.1, hJ⟩
  have k9 := hk _ _ _ _ _ _ hn1.2 hn hl hP hD hS hb1 hb2
  have e9 : Int32.ofInt ((q.2.2.length : Nat) : Int) = nI q.2.2.length := ofInt_nI (by omega)
  simp only [List.map_cons, xc, e9] at k9
  have hw9 : ((sk.map (xc ρ)).map fun v => v.category).sum ≤ 8 := by rw [xcat_sum]; exact hw
  exact j_callV (As := []) (q := ρ (1000 + j)) (rest := sk.map (xc ρ)) (n := 1) hx hb hml hown hts (j_ln l (sz0 := sz0) (v := v) (bs := q.2.2)) (xLen_l _ ho1) ji_ln js_ln (j_rec hF0 hS) (fun a U g mk z => jF_b a U g mk z) (fun U hU hW => jF_at hF0 hS U hU hW) (by omega) (by omega) (by omega) (by omega) hl.1 hw9 hd k9
theorem x_chr (hx : p.tables.exec = Jvm.exec) (hb : c.code = cc) (hown : s.vm.findClass own = some m.cls) (hts : ∀ w ∈ xtg, w.before args s = true) (hok : ∀ (i : Nat) (x : xI), cd[i]? = some x → xok MT cl own cc nL pcs i x) (hml : c.maxLocals = nL) (hsz : sz0 ≤ s.heap.size) (hRf : d + 9 ≤ R.frames) (hRl : 60 * d + 260 ≤ R.locals) (hRc : mc ≤ R.cells) (hRs : ms ≤ R.slots) (hF : xStr ρ sz0 s) {k j : Nat} {q : String × Nat × List Int} {z : Int} (hc : cd[i]? = some x) (hi : x.1 = .invokevirtual k) (ho1 : (own, k) ∈ xChS) (hs : xSite[j]? = some q) (hw : (sk.map xcat).sum ≤ 8) (h0 : 0 ≤ z) (h1 : z < (q.2.2.length : Nat)) (hk : xP p l e R s m args below meth c Z nL pcs D cl (xA sz0) ρ ca G mc ms b (i + 1) ls (.inl (q.2.2.getD z.toNat 0) :: sk) h) : xP p l e R s m args below meth c Z nL pcs D cl (xA sz0) ρ ca G mc ms b i ls (.inl z :: .inr (.inr (1000 + j)) :: sk) h := by
  intro pc lsr H locs cells slots hpc hn hl hP hD hS hb1 hb2
  obtain ⟨pc0, hpc0, ho⟩ := hok i x hc
  cases hpc0.symm.trans hpc
  obtain ⟨-, v, hJ⟩ := hF.2.1 j _ hs
  rw [hi] at ho
  obtain ⟨hd, hn1⟩ := ho
  unfold xlnk at hn1
  rw [hi] at hn1
  have hF0 : jF sz0 (ρ (1000 + j)) v q.2.2 s := ⟨hsz, hF.1, hJ⟩
  have hb9 := (xSite_b q (List.mem_of_getElem? hs)).1
  have hg9 := xSite_g hs z.toNat
  have k9 := hk _ _ _ _ _ _ hn1.2 hn hl hP hD hS hb1 hb2
  have hw9 : ((sk.map (xc ρ)).map fun v => v.category).sum ≤ 8 := by rw [xcat_sum]; exact hw
  simp only [List.map_cons, xc, ofInt_nI h0] at k9 ⊢
  exact j_callV (As := [.int (nI z.toNat)]) (q := ρ (1000 + j)) (rest := sk.map (xc ρ)) (n := 3) hx hb hml hown hts (j_ch l (sz0 := sz0) (v := v) (bs := q.2.2) (i := z.toNat) (by omega) (by omega) hg9.1 hg9.2) (xCh_l _ ho1) ji_ch js_ch (j_rec hF0 hS) (fun a U g mk z => jF_b a U g mk z) (fun U hU hW => jF_at hF0 hS U hU hW) (by omega) (by omega) (by omega) (by omega) hl.1 hw9 hd k9
theorem x_sta (hx : p.tables.exec = Jvm.exec) (hb : c.code = cc) (hown : s.vm.findClass own = some m.cls) (hts : ∀ w ∈ xtg, w.before args s = true) (hok : ∀ (i : Nat) (x : xI), cd[i]? = some x → xok MT cl own cc nL pcs i x) (hml : c.maxLocals = nL) (hsz : sz0 ≤ s.heap.size) (hRf : d + 9 ≤ R.frames) (hRl : 60 * d + 260 ≤ R.locals) (hRc : mc ≤ R.cells) (hRs : ms ≤ R.slots) (hF : xStr ρ sz0 s) {k t : Nat} (hc : cd[i]? = some x) (hi : x.1 = .getstatic k) (hs : (own, k, t) ∈ xSta) (hk : xP p l e R s m args below meth c Z nL pcs D cl (xA sz0) ρ ca G mc ms b (i + 1) ls (.inr (.inr (2000 + t)) :: sk) h) : xP p l e R s m args below meth c Z nL pcs D cl (xA sz0) ρ ca G mc ms b i ls sk h := by
  intro pc lsr H locs cells slots hpc hn hl hP hD hS hb1 hb2
  obtain ⟨pc0, hpc0, ho⟩ := hok i x hc
  cases hpc0.symm.trans hpc
  obtain ⟨C, n, d9, hZ, hlink⟩ := hF.2.2.2 _ hs
  rw [hi] at ho
  obtain ⟨hd, hn1⟩ := ho
  unfold xlnk at hn1
  rw [hi] at hn1
  exact va_gets hx hb hZ hS hown (hts _ hlink) (fun _ z => z) hd (hk _ _ _ _ _ _ hn1 hn hl hP hD hS hb1 hb2)
theorem x_cld (hx : p.tables.exec = Jvm.exec) (hb : c.code = cc) (hown : s.vm.findClass own = some m.cls) (hts : ∀ w ∈ xtg, w.before args s = true) (hok : ∀ (i : Nat) (x : xI), cd[i]? = some x → xok MT cl own cc nL pcs i x) (hml : c.maxLocals = nL) (hsz : sz0 ≤ s.heap.size) (hRf : d + 9 ≤ R.frames) (hRl : 60 * d + 260 ≤ R.locals) (hRc : mc ≤ R.cells) (hRs : ms ≤ R.slots) (hF : xStr ρ sz0 s) {t : Nat} {r : List Int} {z : Int} (hc : cd[i]? = some x) (hi : x.1 = .caload) (hs : xRow[t]? = some r) (h0 : 0 ≤ z) (h1 : z < (r.length : Nat)) (hk : xP p l e R s m args below meth c Z nL pcs D cl (xA sz0) ρ ca G mc ms b (i + 1) ls (.inl (r.getD z.toNat 0) :: sk) h) : xP p l e R s m args below meth c Z nL pcs D cl (xA sz0) ρ ca G mc ms b i ls (.inl z :: .inr (.inr (2000 + t)) :: sk) h := by
  intro pc lsr H locs cells slots hpc hn hl hP hD hS hb1 hb2
  obtain ⟨pc0, hpc0, ho⟩ := hok i x hc
  cases hpc0.symm.trans hpc
  have hT := hF.2.2.1 t r hs
  have hb9 := xRow_b r (List.mem_of_getElem? hs)
  rw [hi] at ho
  obtain ⟨hd, hn1⟩ := ho
  unfold xlnk at hn1
  rw [hi] at hn1
  have k9 := hk _ _ _ _ _ _ hn1 hn hl hP hD hS hb1 hb2
  simp only [List.map_cons, xc, ofInt_nI h0] at k9 ⊢
  exact va_tc hx hb hT hS (i := nI z.toNat) (vp_in_nI (by omega) (by omega)) (by rw [nI_clamp (by omega)]) hd k9
end XSTRS
set_option maxHeartbeats 2000000 in
theorem x_sound2 {l : Launch} {D : va_G} {cl : List vw_C} {tys : List (ClassId × FieldType)} {ρ : Nat → Nat} {ca : FieldType → ClassId} {G : List xS} {MT : List xMt} {sz0 : Nat} {ST : State → Prop}
    (hMT : xMok MT cl) (hcl : xclok cl) (hG : xGok cl G) (hca : xcaok ca tys) (hST : xSTok sz0 ST) (hdec : xDec ST) (hthr : xTW l sz0 ST) (hDD : ∀ h : xH, va_D (xA sz0) (xWl ρ ca h G 0)) (hstr : ∀ s : State, ST s → xStr ρ sz0 s) :
    ∀ (d b mm : Nat) (as : List xV) (h : xH) (Q : xO → xH → Prop), xRn2 G MT d b mm as h Q → ∀ M, MT[mm]? = some M → vx_Met l M.1 (xws M) (xrm d b) (xPc ρ ca G D cl tys sz0 ST as h) (xQc ρ ca G D cl sz0 Q) (xXC ρ ca G D cl sz0 Q) b (6 * b) (xA sz0) := by
  intro d
  induction d with
  | zero => intro b mm as h Q hr; exact hr.elim
  | succ d ih =>
    intro b mm as h Q hr M hM
    obtain ⟨M', hM', hfit, hex⟩ := hr
    cases hM.symm.trans hM'
    obtain ⟨hpl, hpc0, hok⟩ := hMT mm M hM
    refine vx_ofW (cc := M.2.1) (maxL := M.2.2.1) (ret := M.2.2.2.1) hpl rfl ?_
    intro p e s m args below meth c s₁ B hml htab hv
    obtain ⟨rfl, hK, hsz, hs0, hP⟩ := hv
    have hF9 := hstr s hs0
    have hx := B.exec
    have hb := B.bytes
    have hr := B.returns
    have hts0 := atoms_spec (ws := xws M) B.pre
    have hts : ∀ w ∈ xtg, w.before (as.map (xc ρ)).toArray s = true := fun w hw => hts0 w (List.mem_cons_of_mem _ hw)
    have hown : s.vm.findClass M.1.cls = some m.cls := findClass_of_methodNamed B.named
    have hlocks : meth.locks = false := B.notSynchronized
    have hRf : d + 9 ≤ (headSpec (xws M) (xrm (d + 1) b)).room.frames := by show d + 9 ≤ d + 1 + 8; omega
    have hRl : 60 * d + 260 ≤ (headSpec (xws M) (xrm (d + 1) b)).room.locals := by show 60 * d + 260 ≤ 60 * (d + 1) + 200; omega
    have hRc : b ≤ (headSpec (xws M) (xrm (d + 1) b)).room.cells := Nat.le_refl _
    have hRs : 6 * b ≤ (headSpec (xws M) (xrm (d + 1) b)).room.slots := Nat.le_refl _
    have key := hex (xP p l e (headSpec (xws M) (xrm (d + 1) b)).room s m (as.map (xc ρ)).toArray below meth c (vx_MQ below (xQc ρ ca G D cl sz0 Q) (xXC ρ ca G D cl sz0 Q) (as.map (xc ρ)).toArray s b (6 * b) (xA sz0)) M.2.2.1 M.2.2.2.2.2 D cl (xA sz0) ρ ca G b (6 * b))
      ⟨⟨fun b i ls sk h x i' ls' sk' h' hc hs hk => x_sx hx hb hown hts hK hok hcl hG hca b i ls sk h x i' ls' sk' h' hc hs hk,
       fun b i ls sk h x t sk' hc hs ht hf => x_br hx hb hown hts hK hok hcl hG hca hc hs ht hf,
       fun b i ls sk h x ty n a z hc hg hs h0 h1 hk => x_ld hx hb hown hts hK hok hcl hG hca hc hg hs h0 h1 hk,
       fun b i ls sk h x ids a j d z hc hg hi hz hj hk => x_ald hx hb hown hts hK hok hcl hG hca hc hg hi hz hj hk,
       fun b i ls sk h x ty n a z y hc hg hs h0 h1 hr hk => x_sd hx hb hown hts hK hok hcl hG hca hc hg hs h0 h1 hr hk,
       fun b i ls sk h x y z hc hi h0 hk => x_div hx hb hown hts hK hok hcl hG hca hc hi h0 hk,
       fun b i ls sk h x y z hc hi h0 hk => x_rem hx hb hown hts hK hok hcl hG hca hc hi h0 hk,
       fun b i ls sk h x a k z fi hc hi hfl hz hk => x_pz hx hb hown hts hK hok hcl hG hca hc hi hfl hz hk,
       fun b i ls h x k s9 d9 n0 n1 sp dp n rest hc hi hx1 hx2 hg0 hg1 h1 h2 h3 h4 h5 hw hk => x_cpy hx hb hown hts hK hok hcl hG hca hml hsz hs0 hST hdec hDD hRf hRl hRc hRs hc hi hx1 hx2 hg0 hg1 h1 h2 h3 h4 h5 hw hk,
       fun b1 b2 i ls sk h x mm as rest Q' hc hs hw hU hcall hk hxk => x_call hx hb hown hts hK hok hcl hG hca hml hsz hs0 hST hdec hDD hRf hRl hRc hRs hc hs hw (fun M hM => ih b1 mm as h Q' hcall M hM) hk hU
         (fun E h' hq pc lsr H locs cells slots q9 ce hpc hl9 hP9 hS9 hc1 hc2 hce hcv hcl9 => vx_out (fun z hz => (htab z hz).elim) hlocks hce hcv hcl9 (fun t ht hal => ⟨⟨h', hxk E h' hq, by rw [ht]; exact hP9⟩, hS9.F ht⟩) hS9.2.2 (by omega) (by omega)),
       fun b i ls h x v hc hs hQ => x_ret hx hb hown hts hK hok hcl hG hca hr hlocks hc hs hQ,
       fun b i ls sk h x ik e0 w0 hc hi hx1 hw hQ => x_throw2 hx hb hown hts hok hml hs0 hRf hRl hRc hRs hthr hlocks htab hc hi hx1 hw hQ,
       fun b i ls sk h x k y z hc hi hx2 hw hk => x_min hx hb hown hts hK hok hcl hG hca hml hsz hs0 hST hdec hDD hRf hRl hRc hRs hc hi hx2 hw hk,
       fun b i ls sk h x k y z hc hi hx2 hw hk => x_minl hx hb hown hts hK hok hcl hG hca hml hsz hs0 hST hdec hDD hRf hRl hRc hRs hc hi hx2 hw hk,
       fun b b' i ls sk h hle hk pc lsr H locs cells slots hpc hn hl hP hD hS hb1 hb2 => hk pc lsr H locs cells slots hpc hn hl hP hD hS (by omega) (by omega),
       fun b i ls sk h ls' sk' h' e1 e2 e3 e4 hk pc lsr H locs cells slots hpc hn hl hP hD hS hb1 hb2 => by
         rw [e3 ρ]
         exact hk pc lsr H locs cells slots hpc (by rw [← e2]; exact hn) (by rw [← e1 ρ]; exact hl) (by rw [← e4 ρ ca]; exact hP) (by rw [← e4 ρ ca]; exact hD) hS hb1 hb2⟩,
       fun b i ls sk h x k j bs hc hi hs hk => x_str hx hb hown hts hok hml hsz hRf hRl hRc hRs hF9 hc hi hs hk,
       fun b i ls sk h x k j q hc hi ho hs hw hk => x_len hx hb hown hts hok hml hsz hRf hRl hRc hRs hF9 hc hi ho hs hw hk,
       fun b i ls sk h x k j q z hc hi ho hs hw h0 h1 hk => x_chr hx hb hown hts hok hml hsz hRf hRl hRc hRs hF9 hc hi ho hs hw h0 h1 hk,
       fun b i ls sk h x k t hc hi hs hk => x_sta hx hb hown hts hok hml hsz hRf hRl hRc hRs hF9 hc hi hs hk,
       fun b i ls sk h x t r z hc hi hs h0 h1 hk => x_cld hx hb hown hts hok hml hsz hRf hRl hRc hRs hF9 hc hi hs h0 h1 hk⟩
    have k2 := key 0 _ s.heap [] 0 0 hpc0 (xini_len hfit) (xini_has ρ hfit) hP (hDD h) va_S.rf (by omega) (by omega)
    rw [lg_entry_eq]
    exact k2
