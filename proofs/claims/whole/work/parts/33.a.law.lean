/-! the law's own frames: handlers, the script, helpers -/
abbrev xHc : Type := Nat → Nat → List xV → xH → (Int → xH → Prop) → Prop
def xClL (G : List xS) (cd : List xI) (rt : Option FieldType) (call : xCal) (hcl : xHc) (hk : List (Nat × Nat)) (n0 : Nat) (hd : Nat × List (String × Nat)) (scr : Option (Nat × (Int → Int))) (Q : xO → xH → Prop) (P : xPr) : Prop :=
  (∀ (b i : Nat) (ls : xL) (sk : List xV) (h : xH) (x : xI) (i' : Nat) (ls' : xL) (sk' : List xV) (h' : xH), cd[i]? = some x → sx G x i ls sk h = some (i', ls', sk', h') → P b i' ls' sk' h' → P b i ls sk h) ∧
  (∀ (b i : Nat) (ls : xL) (sk : List xV) (h : xH) (x : xI) (t : Bool) (sk' : List xV), cd[i]? = some x → xb x sk = some (t, sk') → (t = true → P b x.2.1.toNat ls sk' h) → (t = false → P b (i + 1) ls sk' h) → P b i ls sk h) ∧
  (∀ (b i : Nat) (ls : xL) (sk : List xV) (h : xH) (x : xI) (ty : FieldType) (n a : Nat) (z : Int), cd[i]? = some x → G[a]? = some (.inl (ty, n)) → xld x ty = true → 0 ≤ z → z < n → P b (i + 1) ls (xmk ty (h a z) :: sk) h → P b i ls (.inl z :: .inr (.inr a) :: sk) h) ∧
  (∀ (b i : Nat) (ls : xL) (sk : List xV) (h : xH) (x : xI) (ty : FieldType) (n a : Nat) (z y : Int), cd[i]? = some x → G[a]? = some (.inl (ty, n)) → xsd x ty = true → 0 ≤ z → z < n → xrng ty y → P b (i + 1) ls sk (xup h a z y) → P b i ls (xmk ty y :: .inl z :: .inr (.inr a) :: sk) h) ∧
  (∀ (b1 b2 i : Nat) (ls : xL) (sk : List xV) (h : xH) (x : xI) (mm : Nat) (as rest : List xV) (Q' : xO → xH → Prop), cd[i]? = some x → xcl G x sk = some (mm, as, rest) → (rest.map xcat).sum ≤ 8 → (x.2.2.2.head? = some 1 → ∀ (E : String) (h' : xH), ¬ Q' (.inr E) h') → call b1 mm as h Q' → (∀ (v : Option xV) (h' : xH), Q' (.inl v) h' → P b2 (i + 1) ls (v.toList ++ rest) h') → (∀ (E : String) (h' : xH), Q' (.inr E) h' → i = hd.1 ∧ ∃ (r j : Nat) (xj : xI), hd.2[r]? = some (E, j) ∧ cd[j]? = some xj ∧ ((∃ k, xj.1 = .astore k) ∨ ∃ k, xj.1 = .astore_n k) ∧ P b2 (j + 1) (List.replicate n0 none) [] h') → P (b1 + b2) i ls sk h) ∧
  (∀ (b i : Nat) (ls : xL) (h : xH) (x : xI) (v : Option xV), cd[i]? = some x → xrt x rt v → Q (.inl v) h → P b i ls v.toList h) ∧
  (∀ (b i : Nat) (ls : xL) (sk : List xV) (h : xH) (x : xI) (L : Nat) (xs : Int → Int) (z : Int), cd[i]? = some x → scr = some (L, xs) → x.1 = .iaload → 0 ≤ z → z < L → P b (i + 1) ls (.inl (xs z) :: sk) h → P b i ls (.inl z :: .inr (.inr 3000) :: sk) h) ∧
  (∀ (b i : Nat) (ls : xL) (sk : List xV) (h : xH) (x : xI) (L : Nat) (xs : Int → Int), cd[i]? = some x → scr = some (L, xs) → x.1 = .arraylength → P b (i + 1) ls (.inl (L : Nat) :: sk) h → P b i ls (.inr (.inr 3000) :: sk) h) ∧
  (∀ (b1 b2 i : Nat) (ls : xL) (h : xH) (x : xI) (k hn : Nat) (as rest : List xV) (Q' : Int → xH → Prop), cd[i]? = some x → x.1 = .invokestatic k → (k, hn) ∈ hk → (rest.map xcat).sum ≤ 8 → hcl b1 hn as h Q' → (∀ (v : Int) (h' : xH), Q' v h' → P b2 (i + 1) ls (.inl v :: rest) h') → P (b1 + b2) i ls (as.reverse ++ rest) h) ∧
  (∀ (b i : Nat) (ls ls' : xL) (sk : List xV) (h : xH), ls'.length = ls.length → (∀ (j : Nat) (v : xV), ls'[j]? = some (some v) → ls[j]? = some (some v)) → P b i ls' sk h → P b i ls sk h) ∧
  (∀ (b b' i : Nat) (ls : xL) (sk : List xV) (h : xH), b ≤ b' → P b i ls sk h → P b' i ls sk h) ∧
  (∀ (b i : Nat) (ls : xL) (sk : List xV) (h : xH) (ls' : xL) (sk' : List xV) (h' : xH), (∀ ρ, xLc ρ ls 0 = xLc ρ ls' 0) → ls.length = ls'.length → (∀ ρ, sk.map (xc ρ) = sk'.map (xc ρ)) → (∀ ρ ca, xWl ρ ca h G 0 = xWl ρ ca h' G 0) → P b i ls' sk' h' → P b i ls sk h)
theorem xLc_sub {ρ : Nat → Nat} {ls ls' : xL} {lsr : Array Slot} {nL : Nat} (h : lv_has lsr nL (xLc ρ ls 0)) (hs : ∀ (j : Nat) (v : xV), ls'[j]? = some (some v) → ls[j]? = some (some v)) : lv_has lsr nL (xLc ρ ls' 0) := by
  refine ⟨h.1, h.2.1, fun q hq => ?_⟩
  obtain ⟨j, v, h1, rfl⟩ := (xLc_mem ρ ls' 0 q).mp hq
  exact h.2.2 _ ((xLc_mem ρ ls 0 _).mpr ⟨j, v, hs j v h1, rfl⟩)
theorem xLc_no {ρ : Nat → Nat} {n : Nat} {lsr : Array Slot} {nL : Nat} {l : List (Nat × Value)} (h : lv_has lsr nL l) : lv_has lsr nL (xLc ρ (List.replicate n none) 0) := by
  refine ⟨h.1, h.2.1, fun q hq => ?_⟩
  rw [xLc_none] at hq
  cases hq
/-- the script, at its address -/
def xScr (ρ : Nat → Nat) (sz0 : Nat) (s : State) (scr : Option (Nat × (Int → Int))) : Prop := ∀ (L : Nat) (xs : Int → Int), scr = some (L, xs) → L < 2 ^ 31 ∧ ¬ xA sz0 (ρ 3000) ∧ ρ 3000 < s.heap.size ∧ va_X (ρ 3000) L (fun j => Int32.ofInt (xs (j : Int))) s s.heap
section XLAW
variable {p : Program} {l : Launch} {e : Env} {R : Room} {s : State} {m : MethodId} {args : Array Value} {below : List Frame} {meth : Method} {c : Code} {Z : State → Prop} {own : String} {cc : ByteArray} {nL : Nat} {pcs : List Nat} {D : va_G} {cl : List vw_C} {tys : List (ClassId × FieldType)} {ρ : Nat → Nat} {ca : FieldType → ClassId} {G : List xS} {cd : List xI} {mc ms : Nat} {MT : List xMt} {sz0 : Nat} {ST : State → Prop} {d : Nat} {rt : Option FieldType} {call : xCal} {hcl : xHc} {hk : List (Nat × Nat)} {hd : Nat × List (String × Nat)} {scr : Option (Nat × (Int → Int))} {Q : xO → xH → Prop}
set_option maxHeartbeats 1000000 in
theorem xL_ok (hx : p.tables.exec = Jvm.exec) (hb : c.code = cc) (hown : s.vm.findClass own = some m.cls) (hts : ∀ w ∈ xtg, w.before args s = true) (hK : va_K D cl tys s) (hok : ∀ (i : Nat) (x : xI), cd[i]? = some x → xok MT cl own cc nL pcs i x) (hcl0 : xclok cl) (hG : xGok cl G) (hca : xcaok ca tys) (hml : c.maxLocals = nL) (hsz : sz0 ≤ s.heap.size) (hs0 : ST s) (hST : xSTok sz0 ST) (hdec : xDec ST) (hDD : ∀ h : xH, va_D (xA sz0) (xWl ρ ca h G 0)) (hRf : d + 9 ≤ R.frames) (hRl : 60 * d + 260 ≤ R.locals) (hRc : mc ≤ R.cells) (hRs : ms ≤ R.slots)
    (hcall : ∀ (b1 mm : Nat) (as : List xV) (h : xH) (Q' : xO → xH → Prop), call b1 mm as h Q' → ∀ M, MT[mm]? = some M → vx_Met l M.1 (xws M) (xrm d b1) (xPc ρ ca G D cl tys sz0 ST as h) (xQc ρ ca G D cl sz0 Q') (xXC ρ ca G D cl sz0 Q') b1 (6 * b1) (xA sz0))
    (hret : ∀ (b i : Nat) (ls : xL) (h : xH) (x : xI) (v : Option xV), cd[i]? = some x → xrt x rt v → Q (.inl v) h → xP p l e R s m args below meth c Z nL pcs D cl (xA sz0) ρ ca G mc ms b i ls v.toList h)
    (hcat : ∀ (r j : Nat) (E : String), hd.2[r]? = some (E, j) → ∀ (pc pcj : Nat), pcs[hd.1]? = some pc → pcs[j]? = some pcj → ∀ (lsr : Array Slot) (H : Heap) (locs : List Loc) (cells slots : Nat) (q9 : Addr) (ce : Cell) (rest : List Value), H[q9]? = some ce → ce.vm = .none → s.vm.findClass E = some ce.cls → W p l e R s m args below meth c H locs cells slots Z (F0 m pcj lsr [.ref q9]) → vx_W p l e R s m args below meth c H locs cells slots Z (F0 m pc lsr rest) q9)
    (hscr : xScr ρ sz0 s scr)
    (hhc : ∀ (b1 hn : Nat) (as : List xV) (h : xH) (Q' : Int → xH → Prop), hcl b1 hn as h Q' → ∀ (k : Nat), (k, hn) ∈ hk → ∀ (pc : Nat) (lsr : Array Slot) (H : Heap) (locs : List Loc) (cells slots : Nat) (rest : List Value), decode cc pc = .ok (.invokestatic k, 3) → lsr.size = nL → va_P D cl (xWl ρ ca h G 0) H → va_S (xA sz0) s.heap H locs → (rest.map fun v => v.category).sum ≤ 8 → cells + b1 ≤ mc → slots + 6 * b1 ≤ ms → (∀ (v : Int) (h' : xH) (H1 : Heap) (locs1 : List Loc), Q' v h' → va_P D cl (xWl ρ ca h' G 0) H1 → va_S (xA sz0) s.heap H1 locs1 → W p l e R s m args below meth c H1 locs1 (cells + b1) (slots + 6 * b1) Z (F0 m (pc + 3) lsr (.int (Int32.ofInt v) :: rest))) → W p l e R s m args below meth c H locs cells slots Z (F0 m pc lsr ((as.map (xc ρ)).reverse ++ rest))) :
    xClL G cd rt call hcl hk nL hd scr Q (xP p l e R s m args below meth c Z nL pcs D cl (xA sz0) ρ ca G mc ms) := by
  refine ⟨fun b i ls sk h x i' ls' sk' h' hc hs hk => x_sx hx hb hown hts hK hok hcl0 hG hca b i ls sk h x i' ls' sk' h' hc hs hk,
    fun b i ls sk h x t sk' hc hs ht hf => x_br hx hb hown hts hK hok hcl0 hG hca hc hs ht hf,
    fun b i ls sk h x ty n a z hc hg hs h0 h1 hk => x_ld hx hb hown hts hK hok hcl0 hG hca hc hg hs h0 h1 hk,
    fun b i ls sk h x ty n a z y hc hg hs h0 h1 hr hk => x_sd hx hb hown hts hK hok hcl0 hG hca hc hg hs h0 h1 hr hk,
    fun b1 b2 i ls sk h x mm as rest Q' hc hs hw hU hcl9 hk9 hxk => ?_,
    hret, ?_, ?_, ?_, ?_, ?_, ?_⟩
  · refine x_call hx hb hown hts hK hok hcl0 hG hca hml hsz hs0 hST hdec hDD hRf hRl hRc hRs hc hs hw (fun M hM => hcall b1 mm as h Q' hcl9 M hM) hk9 hU ?_
    intro E h' hq pc lsr H locs cells slots q9 ce hpc hl9 hP9 hS9 hc1 hc2 hce hcv hcl8
    obtain ⟨hi0, r, j, xj, hr9, hj, hst, hk8⟩ := hxk E h' hq
    obtain ⟨pcj, hpcj, ho⟩ := hok j xj hj
    subst hi0
    refine hcat r j E hr9 pc pcj hpc hpcj lsr H locs cells slots q9 ce _ hce hcv hcl8 ?_
    rcases hst with ⟨k, hst⟩ | ⟨k, hst⟩
    · rw [hst] at ho
      obtain ⟨hd9, hn1⟩ := ho
      unfold xlnk at hn1
      rw [hst] at hn1
      refine lv_astore hx hb hd9 hl9 hn1.1 rfl (fun ls2 hl2 => ?_)
      exact hk8 _ _ _ _ _ _ hn1.2 (List.length_replicate ..) (xLc_no hl2) hP9 (hDD h') hS9 hc1 hc2
    · rw [hst] at ho
      obtain ⟨hd9, hn1⟩ := ho
      unfold xlnk at hn1
      rw [hst] at hn1
      refine lv_astore_n hx hb hd9 rfl hl9 hn1.1 rfl (fun ls2 hl2 => ?_)
      exact hk8 _ _ _ _ _ _ hn1.2 (List.length_replicate ..) (xLc_no hl2) hP9 (hDD h') hS9 hc1 hc2
  · intro b i ls sk h x L xs z hc hs hi h0 h1 hk pc lsr H locs cells slots hpc hn hl hP hD hS hb1 hb2
    obtain ⟨pc0, hpc0, ho⟩ := hok i x hc
    cases hpc0.symm.trans hpc
    rw [hi] at ho
    obtain ⟨hd9, hn1⟩ := ho
    unfold xlnk at hn1
    rw [hi] at hn1
    obtain ⟨hL, hA, hlt, hX⟩ := hscr L xs hs
    have k9 := hk _ _ _ _ _ _ hn1 hn hl hP hD hS hb1 hb2
    simp only [List.map_cons, xc, ofInt_nI h0] at k9 ⊢
    refine va_sld hx hb hX hlt hA hS (vp_in_nI (by omega) hL) hd9 ?_
    rw [nI_clamp (by omega), Int.toNat_of_nonneg h0]
    exact k9
  · intro b i ls sk h x L xs hc hs hi hk pc lsr H locs cells slots hpc hn hl hP hD hS hb1 hb2
    obtain ⟨pc0, hpc0, ho⟩ := hok i x hc
    cases hpc0.symm.trans hpc
    rw [hi] at ho
    obtain ⟨hd9, hn1⟩ := ho
    unfold xlnk at hn1
    rw [hi] at hn1
    obtain ⟨hL, hA, hlt, hX⟩ := hscr L xs hs
    have k9 := hk _ _ _ _ _ _ hn1 hn hl hP hD hS hb1 hb2
    have e9 : Int32.ofInt ((L : Nat) : Int) = Int32.ofNat L := Int32.ofInt_eq_ofNat
    simp only [List.map_cons, xc, e9] at k9 ⊢
    exact va_slen hx hb hX hlt hA hS hd9 k9
  · intro b1 b2 i ls h x k hn9 as rest Q' hc hi hkm hw hcl9 hk9 pc lsr H locs cells slots hpc hn hl hP hD hS hb1 hb2
    obtain ⟨pc0, hpc0, ho⟩ := hok i x hc
    cases hpc0.symm.trans hpc
    rw [hi] at ho
    obtain ⟨hd9, hn1⟩ := ho
    unfold xlnk at hn1
    rw [hi] at hn1
    have hw9 : ((rest.map (xc ρ)).map fun v => v.category).sum ≤ 8 := by rw [xcat_sum]; exact hw
    rw [List.map_append, List.map_reverse]
    exact hhc b1 hn9 as h Q' hcl9 k hkm pc lsr H locs cells slots _ hd9 hl.1 hP hS hw9 (by omega) (by omega) (fun v h' H1 locs1 hq hP1 hS1 => hk9 v h' hq _ _ _ _ _ _ hn1.2.2.2.2 hn hl hP1 (hDD h') hS1 (by omega) (by omega))
  · intro b i ls ls' sk h he hs hk pc lsr H locs cells slots hpc hn hl hP hD hS hb1 hb2
    exact hk _ _ _ _ _ _ hpc (by rw [he]; exact hn) (xLc_sub hl hs) hP hD hS hb1 hb2
  · intro b b' i ls sk h hle hk pc lsr H locs cells slots hpc hn hl hP hD hS hb1 hb2
    exact hk pc lsr H locs cells slots hpc hn hl hP hD hS (by omega) (by omega)
  · intro b i ls sk h ls' sk' h' e1 e2 e3 e4 hk pc lsr H locs cells slots hpc hn hl hP hD hS hb1 hb2
    rw [e3 ρ]
    exact hk pc lsr H locs cells slots hpc (by rw [← e2]; exact hn) (by rw [← e1 ρ]; exact hl) (by rw [← e4 ρ ca]; exact hP) (by rw [← e4 ρ ca]; exact hD) hS hb1 hb2
end XLAW
