theorem xcpy_nat : Cond.native arraycopyName ∈ xtg := by
  have h : ∃ i, lw_tbl[i]? = some (Cond.native arraycopyName) := ⟨563, by decide +kernel⟩
  obtain ⟨i, h⟩ := h
  exact xtg_of i h (by decide +kernel)
theorem xcpy_stat : Cond.static arraycopyName ∈ xtg := by
  have h : ∃ i, lw_tbl[i]? = some (Cond.static arraycopyName) := ⟨562, by decide +kernel⟩
  obtain ⟨i, h⟩ := h
  exact xtg_of i h (by decide +kernel)
theorem xcpy_ini : Cond.initialized "java/lang/System" ∈ xtg := by
  have h : ∃ i, lw_tbl[i]? = some (Cond.initialized "java/lang/System") := ⟨99, by decide +kernel⟩
  obtain ⟨i, h⟩ := h
  exact xtg_of i h (by decide +kernel)
theorem xmin1_stat : Cond.static Lib.Math.min.name ∈ xtg := xtg_of 716 (by decide +kernel) (by decide +kernel)
theorem xmin1_code : Cond.code Lib.Math.min.name Lib.Math.min.code 2 (some .int) ∈ xtg := xtg_of 717 (by decide +kernel) (by decide +kernel)
theorem xmin2_stat : Cond.static Lib.MathLoose.min_long.x ∈ xtg := xtg_of 1651 (by decide +kernel) (by decide +kernel)
theorem xmin2_code : Cond.code Lib.MathLoose.min_long.x Lib.MathLoose.min_long.code 4 (some .long) ∈ xtg := xtg_of 1652 (by decide +kernel) (by decide +kernel)
theorem xmin_ini : Cond.initialized "java/lang/Math" ∈ xtg := xtg_of 105 (by decide +kernel) (by decide +kernel)
section XEND
variable {p : Program} {l : Launch} {e : Env} {R : Room} {s : State} {m : MethodId} {args : Array Value} {below : List Frame} {meth : Method} {c : Code} {own : String} {cc : ByteArray} {nL : Nat} {pcs : List Nat} {D : va_G} {cl : List vw_C} {tys : List (ClassId × FieldType)} {ρ : Nat → Nat} {ca : FieldType → ClassId} {G : List xS} {cd : List xI} {mc ms : Nat} {MT : List xMt} {b i : Nat} {ls : xL} {sk : List xV} {h : xH} {x : xI} {sz0 : Nat} {ST : State → Prop} {d b1 b2 : Nat} {Q : xO → xH → Prop}
def xrt (x : xI) (rt : Option FieldType) (v : Option xV) : Prop := match x.1, rt, v with
  | .ireturn, some ty, some (.inl z) => ty = .int ∨ (ty = .boolean ∧ (z = 0 ∨ z = 1))
  | .lreturn, some ty, some (.inr (.inl _)) => ty = .long
  | .areturn, some ty, some (.inr (.inr _)) => (∃ n, ty = .object n) ∨ ∃ t, ty = .array t
  | .return_, none, none => True
  | _, _, _ => False
set_option maxHeartbeats 1000000 in
theorem x_ret (hx : p.tables.exec = Jvm.exec) (hb : c.code = cc) (hown : s.vm.findClass own = some m.cls) (hts : ∀ w ∈ xtg, w.before args s = true) (hK : va_K D cl tys s) (hok : ∀ (i : Nat) (x : xI), cd[i]? = some x → xok MT cl own cc nL pcs i x) (hcl : xclok cl) (hG : xGok cl G) (hca : xcaok ca tys) {v : Option xV} {rt : Option FieldType} (hr : meth.sig.returnType = rt) (hlocks : meth.locks = false) (hc : cd[i]? = some x) (hs : xrt x rt v) (hQ : Q (.inl v) h) : xP p l e R s m args below meth c (vx_MQ below (xQc ρ ca G D cl sz0 Q) (xXC ρ ca G D cl sz0 Q) args s mc ms (xA sz0)) nL pcs D cl (xA sz0) ρ ca G mc ms b i ls v.toList h := by
  intro pc lsr H locs cells slots hpc hn hl hP hD hS hb1 hb2
  obtain ⟨pc0, hpc0, ho⟩ := hok i x hc
  cases hpc0.symm.trans hpc
  refine W.widen (k := mc) (n := ms) (by omega) (by omega) (vx_ret ?_)
  unfold xrt at hs
  split at hs
  · rename_i ty z hi
    rw [hi] at ho
    obtain ⟨hd, -⟩ := ho
    rcases hs with rfl | ⟨rfl, hz⟩
    · exact W.iret hx hb hr (fun t ht hwm => ⟨⟨_, h, rfl, hQ, by rw [ht]; exact hP⟩, hS.F ht⟩) hS.2.2 hd hlocks
    · exact W.zret hx hb hr (by rcases hz with rfl | rfl <;> rfl) (fun t ht hwm => ⟨⟨_, h, rfl, hQ, by rw [ht]; exact hP⟩, hS.F ht⟩) hS.2.2 hd hlocks
  · rename_i ty z hi
    rw [hi] at ho
    obtain ⟨hd, -⟩ := ho
    subst hs
    exact W.lret hx hb hr (fun t ht hwm => ⟨⟨_, h, rfl, hQ, by rw [ht]; exact hP⟩, hS.F ht⟩) hS.2.2 hd hlocks
  · rename_i ty z hi
    rw [hi] at ho
    obtain ⟨hd, -⟩ := ho
    exact W.aret hx hb hr hs (Or.inr ⟨_, rfl⟩) (fun t ht hwm => ⟨⟨_, h, rfl, hQ, by rw [ht]; exact hP⟩, hS.F ht⟩) hS.2.2 hd hlocks
  · rename_i hi
    rw [hi] at ho
    obtain ⟨hd, -⟩ := ho
    exact W.vret hx hb hr (fun t ht hwm => ⟨⟨_, h, rfl, hQ, by rw [ht]; exact hP⟩, hS.F ht⟩) hS.2.2 hd hlocks
  · cases hs
/-- what a throw of an exception of our own asks of the tables and of the start -/
def xTA (sz0 : Nat) (s : State) (args : Array Value) (ik ic is : Nat) (E : String) : Prop := ∃ (names : List String) (text : String) (sa : Nat), names.length ≤ 4 ∧ Bundle.fit E = true ∧ (∀ n ∈ names, Bundle.fit n = true) ∧ (Cond.classLink "PartMaker" ik E).before args s = true ∧ (Cond.initialized E).before args s = true ∧ vk_R "PartMaker" is text sa s ∧ (∀ w ∈ vx_atS "PartMaker" ic E names, w.before args s = true) ∧ (∀ w ∈ Cond.classLink "PartMaker" ik E :: Cond.initialized E :: vx_atS "PartMaker" ic E names, vx_ot w = true) ∧ vx_Zq Bundle.tN "UNASSIGNED_STACK" Bundle.steD (xA sz0) s s.heap ∧ vx_Zq Bundle.tN "SUPPRESSED_SENTINEL" Bundle.listD (xA sz0) s s.heap
def xThr (sz0 : Nat) (ST : State → Prop) : Prop := ∀ (s : State) (args : Array Value), ST s → (∀ w ∈ xtg, w.before args s = true) → ∀ (E : String) (ik ic : Nat) (t : Nat × String), (E, ik, ic) ∈ xExT → t ∈ xIsT → xTA sz0 s args ik ic t.1 E
set_option maxHeartbeats 1000000 in
theorem x_throw (hx : p.tables.exec = Jvm.exec) (hb : c.code = cc) (hown : s.vm.findClass own = some m.cls) (hts : ∀ w ∈ xtg, w.before args s = true) (hK : va_K D cl tys s) (hok : ∀ (i : Nat) (x : xI), cd[i]? = some x → xok MT cl own cc nL pcs i x) (hcl : xclok cl) (hG : xGok cl G) (hca : xcaok ca tys) (hml : c.maxLocals = nL) (hsz : sz0 ≤ s.heap.size) (hs0 : ST s) (hST : xSTok sz0 ST) (hdec : xDec ST) (hDD : ∀ h : xH, va_D (xA sz0) (xWl ρ ca h G 0)) (hRf : d + 9 ≤ R.frames) (hRl : 60 * d + 260 ≤ R.locals) (hRc : mc ≤ R.cells) (hRs : ms ≤ R.slots) (hthr : xThr sz0 ST) (hlt : l.stackTraces = false) (hlocks : meth.locks = false) (htab : ∀ z ∈ c.exceptionTable.toList, False) {ik e0 w0 : Nat} (hc : cd[i]? = some x) (hi : x.1 = .new ik) (hx1 : x.2.2.1 = [(e0, w0)]) (hw : (sk.map xcat).sum ≤ 8) (hQ : Q (.inr (xExn e0)) h) : xP p l e R s m args below meth c (vx_MQ below (xQc ρ ca G D cl sz0 Q) (xXC ρ ca G D cl sz0 Q) args s mc ms (xA sz0)) nL pcs D cl (xA sz0) ρ ca G mc ms (b + 1) i ls sk h := by
  intro pc lsr H locs cells slots hpc hn hl hP hD hS hb1 hb2
  obtain ⟨pc0, hpc0, ho⟩ := hok i x hc
  cases hpc0.symm.trans hpc
  rw [hi] at ho
  obtain ⟨hd, ho⟩ := ho
  obtain ⟨rfl, ic, t, he, ht, d3, hform⟩ := ho (e0, w0) (by rw [hx1]; exact List.mem_cons_self)
  obtain ⟨names, text, sa, hnl, hfit, hnames, hk, hini, hstr, hat, hgood, hU, hN⟩ := hthr s args hs0 hts _ _ _ _ he ht
  have hxc : ∀ t9 : State, s.vm.Alike t9.vm → H.size ≤ t9.heap.size → (∀ q : Nat, q < H.size → t9.heap[q]? = H[q]?) → xXC ρ ca G D cl sz0 Q (xExn e0) s t9 := fun t9 _ h1 h2 => ⟨⟨h, hQ, hP.kept (fun k9 q9 hk9 => h2 _ ((hP k9 q9 hk9).lt))⟩, Nat.le_trans hS.1 h1, fun q h3 h4 => (h2 q (Nat.lt_of_lt_of_le h3 hS.1)).trans (hS.2.1 q h3 h4)⟩
  have hsum : ((sk.map (xc ρ)).map fun v => v.category).sum ≤ 8 := by rw [xcat_sum]; exact hw
  rcases hform with ⟨-, d4, d6, d9⟩ | ⟨-, d4, d7, d10⟩
  · exact vx_throwS hx hb hlt hown hfit hnames hk hini hstr hat hgood hU hN hS (by rw [hl.1, hml]) hd d3 d4 d6 d9 (fun z hz => (htab z hz).elim) (by omega) (by omega) (by omega) (by omega) hlocks hxc hS.2.2 (by omega) (by omega)
  · exact vx_throwSW hx hb hlt hown hfit hnames hk hini hstr hat hgood hU hN hS (by rw [hl.1, hml]) hd d3 d4 d7 d10 (fun z hz => (htab z hz).elim) (by omega) (by omega) (by omega) (by omega) hlocks hxc hS.2.2 (by omega) (by omega)
end XEND
section XCPY
variable {p : Program} {l : Launch} {e : Env} {R : Room} {s : State} {m : MethodId} {args : Array Value} {below : List Frame} {meth : Method} {c : Code} {Z : State → Prop} {own : String} {cc : ByteArray} {nL : Nat} {pcs : List Nat} {D : va_G} {cl : List vw_C} {tys : List (ClassId × FieldType)} {ρ : Nat → Nat} {ca : FieldType → ClassId} {G : List xS} {cd : List xI} {mc ms : Nat} {MT : List xMt} {b i : Nat} {ls : xL} {sk : List xV} {h : xH} {x : xI} {sz0 : Nat} {ST : State → Prop} {d b1 b2 : Nat}
theorem xcpy_o (h : xH) (s9 : Nat) (sp : Int) (d9 : Nat) (dp n : Int) : ∀ a', a' ≠ d9 → xcpy h s9 sp d9 dp n a' = h a' := fun a' ha => by funext j'; simp [xcpy, ha]
set_option maxHeartbeats 1000000 in
theorem x_cpy (hx : p.tables.exec = Jvm.exec) (hb : c.code = cc) (hown : s.vm.findClass own = some m.cls) (hts : ∀ w ∈ xtg, w.before args s = true) (hK : va_K D cl tys s) (hok : ∀ (i : Nat) (x : xI), cd[i]? = some x → xok MT cl own cc nL pcs i x) (hcl : xclok cl) (hG : xGok cl G) (hca : xcaok ca tys) (hml : c.maxLocals = nL) (hsz : sz0 ≤ s.heap.size) (hs0 : ST s) (hST : xSTok sz0 ST) (hdec : xDec ST) (hDD : ∀ h : xH, va_D (xA sz0) (xWl ρ ca h G 0)) (hRf : d + 9 ≤ R.frames) (hRl : 60 * d + 260 ≤ R.locals) (hRc : mc ≤ R.cells) (hRs : ms ≤ R.slots) {k s9 d9 n0 n1 : Nat} {sp dp n : Int} {rest : List xV} (hc : cd[i]? = some x) (hi : x.1 = .invokestatic k) (hx1 : x.2.2.1 = []) (hx2 : x.2.2.2 = []) (hg0 : G[s9]? = some (.inl (.int, n0))) (hg1 : G[d9]? = some (.inl (.int, n1))) (h1 : 0 ≤ sp) (h2 : 0 ≤ dp) (h3 : 0 ≤ n) (h4 : sp + n ≤ n0) (h5 : dp + n ≤ n1) (hw : (rest.map xcat).sum ≤ 8)
    (hk : xP p l e R s m args below meth c Z nL pcs D cl (xA sz0) ρ ca G mc ms b (i + 1) ls rest (xcpy h s9 sp d9 dp n)) : xP p l e R s m args below meth c Z nL pcs D cl (xA sz0) ρ ca G mc ms b i ls (.inl n :: .inl dp :: .inr (.inr d9) :: .inl sp :: .inr (.inr s9) :: rest) h := by
  intro pc lsr H locs cells slots hpc hn hl hP hD hS hb1 hb2
  obtain ⟨pc0, hpc0, ho⟩ := hok i x hc
  cases hpc0.symm.trans hpc
  rw [hi] at ho
  obtain ⟨hd, hn1⟩ := ho
  unfold xlnk at hn1
  rw [hi] at hn1
  obtain ⟨hlink, -, -, -, hn1⟩ := hn1
  obtain ⟨-, hn031⟩ := hG.2.1 _ _ hg0
  obtain ⟨-, hn131⟩ := hG.2.1 _ _ hg1
  obtain ⟨t0, ht0⟩ := hca .int (by simp)
  have hnn : ∀ z : Int, 0 ≤ z → z < 2 ^ 31 → ¬ Int32.ofInt z < 0 ∧ (Int32.ofInt z).toNatClampNeg = z.toNat := fun z hz0 hz1 => by
    have e : Int32.ofInt z = nI z.toNat := by rw [nI, ← Int32.ofInt_eq_ofNat, Int.toNat_of_nonneg hz0]
    rw [e]
    exact ⟨nI_pos (by omega), nI_clamp (by omega)⟩
  obtain ⟨p1, q1⟩ := hnn sp h1 (by simp only at hn031; omega)
  obtain ⟨p2, q2⟩ := hnn dp h2 (by simp only at hn131; omega)
  obtain ⟨p3, q3⟩ := hnn n h3 (by simp only at hn031; omega)
  have hsum : ((rest.map (xc ρ)).map fun v => v.category).sum ≤ 8 := by rw [xcat_sum]; exact hw
  have hnw : nativeFrameWords "java/lang/System" "arraycopy" 5 = 7 := by decide
  refine va_copyi (ty := .int) hx hb (by rw [hml, hl.1]) hown (hts _ (hlink hx1 hx2)) (hts _ xcpy_nat) (hts _ xcpy_stat) (hts _ xcpy_ini) hK hP hD hS s9 d9 t0 t0 (xW_get hg0) (xW_get hg1) ht0 ht0 rfl p1 p2 p3 (by rw [q1, q3]; simp only; omega) (by rw [q2, q3]; simp only; omega) (fun i _ => rfl) (by omega) (by rw [hnw]; omega) hd (fun H1 locs1 hP1 hD1 hS1 => ?_)
  have e1 : (fun q : Nat => Int32.ofInt (xcpy h s9 sp d9 dp n d9 q)) = va_cpy (fun q : Nat => Int32.ofInt (h s9 q)) (fun q : Nat => Int32.ofInt (h d9 q)) (Int32.ofInt sp).toNatClampNeg (Int32.ofInt dp).toNatClampNeg (Int32.ofInt n).toNatClampNeg := by
    rw [q1, q2, q3]
    funext q
    unfold va_cpy xcpy
    by_cases hq : dp ≤ (q : Int) ∧ (q : Int) < dp + n
    · rw [if_pos rfl, if_pos hq, if_pos (by omega)]
      congr 2
      omega
    · rw [if_pos rfl, if_neg hq, if_neg (by omega)]
  have e9 := xW_set (ρ := ρ) (ca := ca) (h := h) (h' := xcpy h s9 sp d9 dp n) hg1 (xcpy_o h s9 sp d9 dp n) rfl
  rw [← e1] at hP1 hD1
  exact hk _ _ _ _ _ _ hn1 hn hl (by rw [← e9]; exact hP1) (by rw [← e9]; exact hD1) hS1 hb1 hb2
theorem x_min (hx : p.tables.exec = Jvm.exec) (hb : c.code = cc) (hown : s.vm.findClass own = some m.cls) (hts : ∀ w ∈ xtg, w.before args s = true) (hK : va_K D cl tys s) (hok : ∀ (i : Nat) (x : xI), cd[i]? = some x → xok MT cl own cc nL pcs i x) (hcl : xclok cl) (hG : xGok cl G) (hca : xcaok ca tys) (hml : c.maxLocals = nL) (hsz : sz0 ≤ s.heap.size) (hs0 : ST s) (hST : xSTok sz0 ST) (hdec : xDec ST) (hDD : ∀ h : xH, va_D (xA sz0) (xWl ρ ca h G 0)) (hRf : d + 9 ≤ R.frames) (hRl : 60 * d + 260 ≤ R.locals) (hRc : mc ≤ R.cells) (hRs : ms ≤ R.slots) {k : Nat} {y z : Int} (hc : cd[i]? = some x) (hi : x.1 = .invokestatic k) (hx2 : x.2.2.2 = [1]) (hw : (sk.map xcat).sum ≤ 8) (hk : xP p l e R s m args below meth c Z nL pcs D cl (xA sz0) ρ ca G mc ms b (i + 1) ls (.inl (if w32 y < w32 z then y else z) :: sk) h) : xP p l e R s m args below meth c Z nL pcs D cl (xA sz0) ρ ca G mc ms b i ls (.inl y :: .inl z :: sk) h := by
  intro pc lsr H locs cells slots hpc hn hl hP hD hS hb1 hb2
  obtain ⟨pc0, hpc0, ho⟩ := hok i x hc
  cases hpc0.symm.trans hpc
  rw [hi] at ho
  obtain ⟨hd, hn1⟩ := ho
  unfold xlnk at hn1
  rw [hi] at hn1
  obtain ⟨-, hlink1, hlink2, -, hn1⟩ := hn1
  have k9 := hk _ _ _ _ _ _ hn1 hn hl hP hD hS hb1 hb2
  have e9 : Int32.ofInt (if w32 y < w32 z then y else z) = if Int32.ofInt y < Int32.ofInt z then Int32.ofInt y else Int32.ofInt z := by
    unfold w32
    simp only [Int32.lt_iff_toInt_lt]
    split <;> rfl
  simp only [List.map_cons, xc, e9] at k9
  have hsum : ((sk.map (xc ρ)).map fun v => v.category).sum ≤ 8 := by rw [xcat_sum]; exact hw
  exact va_mmin hx hb (by rw [hml, hl.1]) hown (hts _ (hlink1 hx2)) (hts _ xmin1_stat) (hts _ xmin_ini) (hts _ xmin1_code) (by omega) (by omega) (by omega) (by omega) hd k9
theorem x_minl (hx : p.tables.exec = Jvm.exec) (hb : c.code = cc) (hown : s.vm.findClass own = some m.cls) (hts : ∀ w ∈ xtg, w.before args s = true) (hK : va_K D cl tys s) (hok : ∀ (i : Nat) (x : xI), cd[i]? = some x → xok MT cl own cc nL pcs i x) (hcl : xclok cl) (hG : xGok cl G) (hca : xcaok ca tys) (hml : c.maxLocals = nL) (hsz : sz0 ≤ s.heap.size) (hs0 : ST s) (hST : xSTok sz0 ST) (hdec : xDec ST) (hDD : ∀ h : xH, va_D (xA sz0) (xWl ρ ca h G 0)) (hRf : d + 9 ≤ R.frames) (hRl : 60 * d + 260 ≤ R.locals) (hRc : mc ≤ R.cells) (hRs : ms ≤ R.slots) {k : Nat} {y z : Int} (hc : cd[i]? = some x) (hi : x.1 = .invokestatic k) (hx2 : x.2.2.2 = [2]) (hw : (sk.map xcat).sum ≤ 8) (hk : xP p l e R s m args below meth c Z nL pcs D cl (xA sz0) ρ ca G mc ms b (i + 1) ls (.inr (.inl (if w64 y < w64 z then y else z)) :: sk) h) : xP p l e R s m args below meth c Z nL pcs D cl (xA sz0) ρ ca G mc ms b i ls (.inr (.inl y) :: .inr (.inl z) :: sk) h := by
  intro pc lsr H locs cells slots hpc hn hl hP hD hS hb1 hb2
  obtain ⟨pc0, hpc0, ho⟩ := hok i x hc
  cases hpc0.symm.trans hpc
  rw [hi] at ho
  obtain ⟨hd, hn1⟩ := ho
  unfold xlnk at hn1
  rw [hi] at hn1
  obtain ⟨-, hlink1, hlink2, -, hn1⟩ := hn1
  have k9 := hk _ _ _ _ _ _ hn1 hn hl hP hD hS hb1 hb2
  have e9 : Int64.ofInt (if w64 y < w64 z then y else z) = if Int64.ofInt y < Int64.ofInt z then Int64.ofInt y else Int64.ofInt z := by
    unfold w64
    simp only [Int64.lt_iff_toInt_lt]
    split <;> rfl
  simp only [List.map_cons, xc, e9] at k9
  have hsum : ((sk.map (xc ρ)).map fun v => v.category).sum ≤ 8 := by rw [xcat_sum]; exact hw
  exact va_mmin_long hx hb (by rw [hml, hl.1]) hown (hts _ (hlink2 hx2)) (hts _ xmin2_stat) (hts _ xmin_ini) (hts _ xmin2_code) (by omega) (by omega) (by omega) (by omega) hd k9
end XCPY
