/-! the plain machine's runs, as the least that is closed under its rules; and that they are the machine's -/
abbrev xPr : Type := Nat → Nat → xL → List xV → xH → Prop
abbrev xCal : Type := Nat → Nat → List xV → xH → (xO → xH → Prop) → Prop
def xCl (G : List xS) (cd : List xI) (rt : Option FieldType) (call : xCal) (Q : xO → xH → Prop) (P : xPr) : Prop :=
  (∀ (b i : Nat) (ls : xL) (sk : List xV) (h : xH) (x : xI) (i' : Nat) (ls' : xL) (sk' : List xV) (h' : xH), cd[i]? = some x → sx G x i ls sk h = some (i', ls', sk', h') → P b i' ls' sk' h' → P b i ls sk h) ∧
  (∀ (b i : Nat) (ls : xL) (sk : List xV) (h : xH) (x : xI) (t : Bool) (sk' : List xV), cd[i]? = some x → xb x sk = some (t, sk') → (t = true → P b x.2.1.toNat ls sk' h) → (t = false → P b (i + 1) ls sk' h) → P b i ls sk h) ∧
  (∀ (b i : Nat) (ls : xL) (sk : List xV) (h : xH) (x : xI) (ty : FieldType) (n a : Nat) (z : Int), cd[i]? = some x → G[a]? = some (.inl (ty, n)) → xld x ty = true → 0 ≤ z → z < n → P b (i + 1) ls (xmk ty (h a z) :: sk) h → P b i ls (.inl z :: .inr (.inr a) :: sk) h) ∧
  (∀ (b i : Nat) (ls : xL) (sk : List xV) (h : xH) (x : xI) (ids : List Nat) (a j d : Nat) (z : Int), cd[i]? = some x → G[a]? = some (.inr (.inl ids)) → x.1 = .aaload → z = (j : Int) → ids[j]? = some d → P b (i + 1) ls (.inr (.inr d) :: sk) h → P b i ls (.inl z :: .inr (.inr a) :: sk) h) ∧
  (∀ (b i : Nat) (ls : xL) (sk : List xV) (h : xH) (x : xI) (ty : FieldType) (n a : Nat) (z y : Int), cd[i]? = some x → G[a]? = some (.inl (ty, n)) → xsd x ty = true → 0 ≤ z → z < n → xrng ty y → P b (i + 1) ls sk (xup h a z y) → P b i ls (xmk ty y :: .inl z :: .inr (.inr a) :: sk) h) ∧
  (∀ (b i : Nat) (ls : xL) (sk : List xV) (h : xH) (x : xI) (y z : Int), cd[i]? = some x → x.1 = .idiv → w32 y ≠ 0 → P b (i + 1) ls (.inl (xdiv z y) :: sk) h → P b i ls (.inl y :: .inl z :: sk) h) ∧
  (∀ (b i : Nat) (ls : xL) (sk : List xV) (h : xH) (x : xI) (y z : Int), cd[i]? = some x → x.1 = .irem → w32 y ≠ 0 → P b (i + 1) ls (.inl (xrem z y) :: sk) h → P b i ls (.inl y :: .inl z :: sk) h) ∧
  (∀ (b i : Nat) (ls : xL) (sk : List xV) (h : xH) (x : xI) (a k : Nat) (z : Int) (fi : Nat), cd[i]? = some x → x.1 = .putfield fi → xfld G a x.2.2.1 = some (k, .inl .boolean) → (z = 0 ∨ z = 1) → P b (i + 1) ls sk (xup h a k z) → P b i ls (.inl z :: .inr (.inr a) :: sk) h) ∧
  (∀ (b i : Nat) (ls : xL) (h : xH) (x : xI) (k s9 d9 n0 n1 : Nat) (sp dp n : Int) (rest : List xV), cd[i]? = some x → x.1 = .invokestatic k → x.2.2.1 = [] → x.2.2.2 = [] → G[s9]? = some (.inl (.int, n0)) → G[d9]? = some (.inl (.int, n1)) → 0 ≤ sp → 0 ≤ dp → 0 ≤ n → sp + n ≤ n0 → dp + n ≤ n1 → (rest.map xcat).sum ≤ 8 → P b (i + 1) ls rest (xcpy h s9 sp d9 dp n) → P b i ls (.inl n :: .inl dp :: .inr (.inr d9) :: .inl sp :: .inr (.inr s9) :: rest) h) ∧
  (∀ (b1 b2 i : Nat) (ls : xL) (sk : List xV) (h : xH) (x : xI) (mm : Nat) (as rest : List xV) (Q' : xO → xH → Prop), cd[i]? = some x → xcl G x sk = some (mm, as, rest) → (rest.map xcat).sum ≤ 8 → (x.2.2.2.head? = some 1 → ∀ (E : String) (h' : xH), ¬ Q' (.inr E) h') → call b1 mm as h Q' → (∀ (v : Option xV) (h' : xH), Q' (.inl v) h' → P b2 (i + 1) ls (v.toList ++ rest) h') → (∀ (E : String) (h' : xH), Q' (.inr E) h' → Q (.inr E) h') → P (b1 + b2) i ls sk h) ∧
  (∀ (b i : Nat) (ls : xL) (h : xH) (x : xI) (v : Option xV), cd[i]? = some x → xrt x rt v → Q (.inl v) h → P b i ls v.toList h) ∧
  (∀ (b i : Nat) (ls : xL) (sk : List xV) (h : xH) (x : xI) (ik e0 w0 : Nat), cd[i]? = some x → x.1 = .new ik → x.2.2.1 = [(e0, w0)] → (sk.map xcat).sum ≤ 8 → Q (.inr (xExn e0)) h → P (b + 1) i ls sk h) ∧
  (∀ (b i : Nat) (ls : xL) (sk : List xV) (h : xH) (x : xI) (k : Nat) (y z : Int), cd[i]? = some x → x.1 = .invokestatic k → x.2.2.2 = [1] → (sk.map xcat).sum ≤ 8 → P b (i + 1) ls (.inl (if w32 y < w32 z then y else z) :: sk) h → P b i ls (.inl y :: .inl z :: sk) h) ∧
  (∀ (b i : Nat) (ls : xL) (sk : List xV) (h : xH) (x : xI) (k : Nat) (y z : Int), cd[i]? = some x → x.1 = .invokestatic k → x.2.2.2 = [2] → (sk.map xcat).sum ≤ 8 → P b (i + 1) ls (.inr (.inl (if w64 y < w64 z then y else z)) :: sk) h → P b i ls (.inr (.inl y) :: .inr (.inl z) :: sk) h) ∧
  (∀ (b b' i : Nat) (ls : xL) (sk : List xV) (h : xH), b ≤ b' → P b i ls sk h → P b' i ls sk h) ∧
  (∀ (b i : Nat) (ls : xL) (sk : List xV) (h : xH) (ls' : xL) (sk' : List xV) (h' : xH), (∀ ρ, xLc ρ ls 0 = xLc ρ ls' 0) → ls.length = ls'.length → (∀ ρ, sk.map (xc ρ) = sk'.map (xc ρ)) → (∀ ρ ca, xWl ρ ca h G 0 = xWl ρ ca h' G 0) → P b i ls' sk' h' → P b i ls sk h)
def xEx (G : List xS) (cd : List xI) (rt : Option FieldType) (call : xCal) (Q : xO → xH → Prop) : xPr := fun b i ls sk h => ∀ P : xPr, xCl G cd rt call Q P → P b i ls sk h
/-- the locals with which a method begins -/
def xin0 : List xV → xL
  | [] => []
  | .inr (.inl z) :: t => some (.inr (.inl z)) :: none :: xin0 t
  | v :: t => some v :: xin0 t
def xini (as : List xV) (nL : Nat) : xL := xin0 as ++ List.replicate (nL - (xin0 as).length) none
def xRn (G : List xS) (MT : List xMt) : Nat → xCal
  | 0 => fun _ _ _ _ _ => False
  | d + 1 => fun b mm as h Q => ∃ M : xMt, MT[mm]? = some M ∧ (xin0 as).length ≤ M.2.2.1 ∧ xEx G M.2.2.2.2.1 M.2.2.2.1 (xRn G MT d) Q b 0 (xini as M.2.2.1) [] h
theorem xin0_len (ρ : Nat → Nat) : ∀ as : List xV, (lg_sl (as.map (xc ρ))).length = (xin0 as).length
  | [] => rfl
  | .inl z :: t => by
    show ([Slot.val (Value.int (Int32.ofInt z))] ++ lg_sl (t.map (xc ρ))).length = _
    rw [List.length_append, xin0_len ρ t]
    simp only [xin0, List.length_cons, List.length_nil]
    omega
  | .inr (.inl z) :: t => by
    show ([Slot.val (Value.long (Int64.ofInt z)), Slot.second] ++ lg_sl (t.map (xc ρ))).length = _
    rw [List.length_append, xin0_len ρ t]
    simp only [xin0, List.length_cons, List.length_nil]
    omega
  | .inr (.inr a) :: t => by
    show ([Slot.val (Value.ref (ρ a))] ++ lg_sl (t.map (xc ρ))).length = _
    rw [List.length_append, xin0_len ρ t]
    simp only [xin0, List.length_cons, List.length_nil]
    omega
theorem xLc_none (ρ : Nat → Nat) : ∀ (n k : Nat), xLc ρ (List.replicate n none) k = []
  | 0, _ => rfl
  | n + 1, k => by simp [List.replicate_succ, xLc, xLc_none ρ n]
theorem xLc_app (ρ : Nat → Nat) : ∀ (l1 l2 : xL) (k : Nat), xLc ρ (l1 ++ l2) k = xLc ρ l1 k ++ xLc ρ l2 (k + l1.length)
  | [], l2, k => by simp [xLc]
  | none :: t, l2, k => by simp [xLc, xLc_app ρ t l2 (k + 1), Nat.add_comm 1, Nat.add_assoc]
  | some v :: t, l2, k => by simp [xLc, xLc_app ρ t l2 (k + 1), Nat.add_comm 1, Nat.add_assoc]
theorem xin0_args (ρ : Nat → Nat) : ∀ (as : List xV) (k : Nat), xLc ρ (xin0 as) k = lv_args k (as.map (xc ρ))
  | [], _ => rfl
  | .inl z :: t, k => by simp [xin0, xLc, lv_args, xc, Value.category, xin0_args ρ t]
  | .inr (.inl z) :: t, k => by simp [xin0, xLc, lv_args, xc, Value.category, xin0_args ρ t]
  | .inr (.inr a) :: t, k => by simp [xin0, xLc, lv_args, xc, Value.category, xin0_args ρ t]
theorem xini_len {as : List xV} {nL : Nat} (h : (xin0 as).length ≤ nL) : (xini as nL).length = nL := by
  rw [xini, List.length_append, List.length_replicate]; omega
theorem xini_has (ρ : Nat → Nat) {as : List xV} {nL : Nat} (h : (xin0 as).length ≤ nL) : lv_has ((lg_sl (as.map (xc ρ)) ++ List.replicate (nL - (lg_sl (as.map (xc ρ))).length) Slot.unset).toArray) nL (xLc ρ (xini as nL) 0) := by
  have h1 := lv_entry (as.map (xc ρ)) (n := nL) (by rw [xin0_len]; exact h)
  rw [xini, xLc_app, xLc_none, List.append_nil, xin0_args]
  exact h1
/-- what is asked of the table of methods -/
def xMok (MT : List xMt) (cl : List vw_C) : Prop := ∀ (mm : Nat) (M : xMt), MT[mm]? = some M → plainName M.1.cls = true ∧ M.2.2.2.2.2[0]? = some 0 ∧ ∀ (i : Nat) (x : xI), M.2.2.2.2.1[i]? = some x → xok MT cl M.1.cls M.2.1 M.2.2.1 M.2.2.2.2.2 i x
set_option maxHeartbeats 2000000 in
theorem x_sound {l : Launch} {D : va_G} {cl : List vw_C} {tys : List (ClassId × FieldType)} {ρ : Nat → Nat} {ca : FieldType → ClassId} {G : List xS} {MT : List xMt} {sz0 : Nat} {ST : State → Prop}
    (hMT : xMok MT cl) (hcl : xclok cl) (hG : xGok cl G) (hca : xcaok ca tys) (hST : xSTok sz0 ST) (hdec : xDec ST) (hthr : xThr sz0 ST) (hlt : l.stackTraces = false) (hDD : ∀ h : xH, va_D (xA sz0) (xWl ρ ca h G 0)) :
    ∀ (d b mm : Nat) (as : List xV) (h : xH) (Q : xO → xH → Prop), xRn G MT d b mm as h Q → ∀ M, MT[mm]? = some M → vx_Met l M.1 (xws M) (xrm d b) (xPc ρ ca G D cl tys sz0 ST as h) (xQc ρ ca G D cl sz0 Q) (xXC ρ ca G D cl sz0 Q) b (6 * b) (xA sz0) := by
  intro d
  induction d with
  | zero => intro b mm as h Q hr; exact hr.elim
  | succ d ih =>
    intro b mm as h Q hr M hM
    obtain ⟨M', hM', hfit, hex⟩ := hr
    cases hM.symm.trans hM'
    obtain ⟨hpl, hpc0, hok⟩ := hMT mm M hM
    refine vx_ofW (cc := M.2.1) (maxL := M.2.2.1) (ret := M.2.2.2.1) hpl rfl ?_
    intro p e s m args below meth c s₁ B hml htab hv
    obtain ⟨rfl, hK, hsz, hs0, hP⟩ := hv
    have hx := B.exec
    have hb := B.bytes
    have hr := B.returns
    have hts0 := atoms_spec (ws := xws M) B.pre
    have hts : ∀ w ∈ xtg, w.before (as.map (xc ρ)).toArray s = true := fun w hw => hts0 w (List.mem_cons_of_mem _ hw)
    have hown : s.vm.findClass M.1.cls = some m.cls := findClass_of_methodNamed B.named
    have hlocks : meth.locks = false := B.notSynchronized
    have hRf : d + 9 ≤ (headSpec (xws M) (xrm (d + 1) b)).room.frames := by show d + 9 ≤ d + 1 + 8; omega
    have hRl : 60 * d + 260 ≤ (headSpec (xws M) (xrm (d + 1) b)).room.locals := by show 60 * d + 260 ≤ 60 * (d + 1) + 200; omega
    have hRc : b ≤ (headSpec (xws M) (xrm (d + 1) b)).room.cells := Nat.le_refl _
    have hRs : 6 * b ≤ (headSpec (xws M) (xrm (d + 1) b)).room.slots := Nat.le_refl _
    have key := hex (xP p l e (headSpec (xws M) (xrm (d + 1) b)).room s m (as.map (xc ρ)).toArray below meth c (vx_MQ below (xQc ρ ca G D cl sz0 Q) (xXC ρ ca G D cl sz0 Q) (as.map (xc ρ)).toArray s b (6 * b) (xA sz0)) M.2.2.1 M.2.2.2.2.2 D cl (xA sz0) ρ ca G b (6 * b))
      ⟨fun b i ls sk h x i' ls' sk' h' hc hs hk => x_sx hx hb hown hts hK hok hcl hG hca b i ls sk h x i' ls' sk' h' hc hs hk,
       fun b i ls sk h x t sk' hc hs ht hf => x_br hx hb hown hts hK hok hcl hG hca hc hs ht hf,
       fun b i ls sk h x ty n a z hc hg hs h0 h1 hk => x_ld hx hb hown hts hK hok hcl hG hca hc hg hs h0 h1 hk,
       fun b i ls sk h x ids a j d z hc hg hi hz hj hk => x_ald hx hb hown hts hK hok hcl hG hca hc hg hi hz hj hk,
       fun b i ls sk h x ty n a z y hc hg hs h0 h1 hr hk => x_sd hx hb hown hts hK hok hcl hG hca hc hg hs h0 h1 hr hk,
       fun b i ls sk h x y z hc hi h0 hk => x_div hx hb hown hts hK hok hcl hG hca hc hi h0 hk,
       fun b i ls sk h x y z hc hi h0 hk => x_rem hx hb hown hts hK hok hcl hG hca hc hi h0 hk,
       fun b i ls sk h x a k z fi hc hi hfl hz hk => x_pz hx hb hown hts hK hok hcl hG hca hc hi hfl hz hk,
       fun b i ls h x k s9 d9 n0 n1 sp dp n rest hc hi hx1 hx2 hg0 hg1 h1 h2 h3 h4 h5 hw hk => x_cpy hx hb hown hts hK hok hcl hG hca hml hsz hs0 hST hdec hDD hRf hRl hRc hRs hc hi hx1 hx2 hg0 hg1 h1 h2 h3 h4 h5 hw hk,
       fun b1 b2 i ls sk h x mm as rest Q' hc hs hw hU hcall hk hxk => x_call hx hb hown hts hK hok hcl hG hca hml hsz hs0 hST hdec hDD hRf hRl hRc hRs hc hs hw (fun M hM => ih b1 mm as h Q' hcall M hM) hk hU
         (fun E h' hq pc lsr H locs cells slots q9 ce hpc hl9 hP9 hS9 hc1 hc2 hce hcv hcl9 => vx_out (fun z hz => (htab z hz).elim) hlocks hce hcv hcl9 (fun t ht hal => ⟨⟨h', hxk E h' hq, by rw [ht]; exact hP9⟩, hS9.F ht⟩) hS9.2.2 (by omega) (by omega)),
       fun b i ls h x v hc hs hQ => x_ret hx hb hown hts hK hok hcl hG hca hr hlocks hc hs hQ,
       fun b i ls sk h x ik e0 w0 hc hi hx1 hw hQ => x_throw hx hb hown hts hK hok hcl hG hca hml hsz hs0 hST hdec hDD hRf hRl hRc hRs hthr hlt hlocks htab hc hi hx1 hw hQ,
       fun b i ls sk h x k y z hc hi hx2 hw hk => x_min hx hb hown hts hK hok hcl hG hca hml hsz hs0 hST hdec hDD hRf hRl hRc hRs hc hi hx2 hw hk,
       fun b i ls sk h x k y z hc hi hx2 hw hk => x_minl hx hb hown hts hK hok hcl hG hca hml hsz hs0 hST hdec hDD hRf hRl hRc hRs hc hi hx2 hw hk,
       fun b b' i ls sk h hle hk pc lsr H locs cells slots hpc hn hl hP hD hS hb1 hb2 => hk pc lsr H locs cells slots hpc hn hl hP hD hS (by omega) (by omega),
       fun b i ls sk h ls' sk' h' e1 e2 e3 e4 hk pc lsr H locs cells slots hpc hn hl hP hD hS hb1 hb2 => by
         rw [e3 ρ]
         exact hk pc lsr H locs cells slots hpc (by rw [← e2]; exact hn) (by rw [← e1 ρ]; exact hl) (by rw [← e4 ρ ca]; exact hP) (by rw [← e4 ρ ca]; exact hD) hS hb1 hb2⟩
    have k2 := key 0 _ s.heap [] 0 0 hpc0 (xini_len hfit) (xini_has ρ hfit) hP (hDD h) va_S.rf (by omega) (by omega)
    rw [lg_entry_eq]
    exact k2
