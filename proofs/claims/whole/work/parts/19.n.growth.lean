/-- one of SIZE z that may be MADE out of the first K -/
def cwf (S : xH) (K z c1 c2 c3 : Int) : Prop := (c1 = 10 ∧ 0 ≤ c2 ∧ c2 ≤ 2 ∧ c3 = 0 ∧ z = 1) ∨ (c1 = 11 ∧ -99 ≤ c2 ∧ c2 ≤ 99 ∧ c3 = 0 ∧ z = 1) ∨ (0 ≤ c1 ∧ c1 ≤ 9 ∧ 0 ≤ c2 ∧ c2 < K ∧ 0 ≤ c3 ∧ c3 < K ∧ (((c1 = 5 ∨ c1 = 8 ∨ c1 = 9) ∧ c3 = 0 ∧ S 4 c2 + 1 = z) ∨ (¬ (c1 = 5 ∨ c1 = 8 ∨ c1 = 9) ∧ S 4 c2 + S 4 c3 + 1 = z)))
theorem cwf_ok {S : xH} {z c1 c2 c3 : Int} (h : cwf S (S 0 0) z c1 c2 c3) : okc S c1 c2 c3 := by
  rcases h with ⟨a, b, c, e, -⟩ | ⟨a, b, c, e, -⟩ | ⟨a, b, c, e, f, g, -⟩
  · exact Or.inl ⟨a, b, c, e⟩
  · exact Or.inr (Or.inl ⟨a, b, c, e⟩)
  · exact Or.inr (Or.inr ⟨a, b, c, e, f, g⟩)
theorem cwf_of {S S' : xH} {K K' z c1 c2 c3 : Int} (hK : K ≤ K') (h4 : ∀ k, 0 ≤ k → k < K → S' 4 k = S 4 k) (h : cwf S K z c1 c2 c3) : cwf S' K' z c1 c2 c3 := by
  rcases h with h | h | ⟨a, b, c, e, f, g, i⟩
  · exact Or.inl h
  · exact Or.inr (Or.inl h)
  · refine Or.inr (Or.inr ⟨a, b, c, by omega, f, by omega, ?_⟩)
    rw [h4 c2 c e, h4 c3 f g]
    exact i
/-- KEPT ones and the first MERGED are well MADE, SIZES at most z and rising -/
def FW (n : Int) (wt : Int → Int) (z : Int) (S : xH) : Prop := ∀ k, 0 ≤ k → k < S 0 0 → cwf S k (S 4 k) (S 1 k) (S 2 k) (S 3 k) ∧ 1 ≤ S 4 k ∧ S 4 k ≤ z ∧ (∀ j, 0 ≤ j → j ≤ k → S 4 j ≤ S 4 k) ∧ S 6 k = (cv (fun e => S 5 (k * 12 + e) = wt e) n.toNat : Int) ∧ S 11 k = usE S (S 1 k) (S 2 k) (S 3 k) ∧ (S 7 k ≠ 0 → ∃ y, y ≤ z ∧ cwf S (S 0 0) y (S 8 k) (S 9 k) (S 10 k))
theorem mrg_7 (S : xH) (r c1 c2 c3 k : Int) : mrgS (mad S) r c1 c2 c3 7 k = if k = r then S 7 r + 1 else S 7 k := by
  unfold mrgS
  by_cases q : (mad S) 7 r = 0
  · rw [if_pos q]; simp [xup, mad]
  · rw [if_neg q]; simp [xup, mad]
theorem mrg_o (S : xH) (r c1 c2 c3 : Int) {a : Nat} (j : Int) (q1 : a ≠ 7) (q2 : a ≠ 8) (q3 : a ≠ 9) (q4 : a ≠ 10) (q5 : a ≠ 0) : mrgS (mad S) r c1 c2 c3 a j = S a j := by
  unfold mrgS
  by_cases q : (mad S) 7 r = 0
  · rw [if_pos q]; simp [xup, mad, q1, q2, q3, q4, q5]
  · rw [if_neg q]; simp [xup, mad, q1, q5]
theorem mrg_0 (S : xH) (r c1 c2 c3 : Int) {j : Int} (q1 : j ≠ 1) : mrgS (mad S) r c1 c2 c3 0 j = (mad S) 0 j := by
  unfold mrgS
  by_cases q : (mad S) 7 r = 0
  · rw [if_pos q]; simp [xup, q1]
  · rw [if_neg q]; simp [xup, q1]
theorem mrg_f (S : xH) (r c1 c2 c3 k : Int) : mrgS (mad S) r c1 c2 c3 8 k = (if k = r ∧ S 7 r = 0 then c1 else S 8 k) ∧ mrgS (mad S) r c1 c2 c3 9 k = (if k = r ∧ S 7 r = 0 then c2 else S 9 k) ∧ mrgS (mad S) r c1 c2 c3 10 k = (if k = r ∧ S 7 r = 0 then c3 else S 10 k) := by
  unfold mrgS
  have e7 : (mad S) 7 r = S 7 r := rfl
  by_cases q : S 7 r = 0
  · rw [e7, if_pos q]; simp [xup, mad, q]
  · rw [e7, if_neg q]; simp [xup, mad, q]
theorem usE_of {S S' : xH} {K c1 c2 c3 y : Int} (h : ∀ k, 0 ≤ k → k < K → S' 11 k = S 11 k) (hc : cwf S K y c1 c2 c3) : usE S' c1 c2 c3 = usE S c1 c2 c3 := by
  unfold usE
  rcases hc with hc | hc | ⟨a, b, c, e, f, g, -⟩
  · rw [if_pos (by omega), if_pos (by omega)]
  · rw [if_pos (by omega), if_pos (by omega)]
  · rw [h c2 c e, h c3 f g]
theorem FW_of {n : Int} {wt : Int → Int} {z : Int} {S S' : xH} (hn : 0 ≤ n ∧ n ≤ 12) (h0 : S' 0 0 = S 0 0) (hs : ∀ k, 0 ≤ k → k < S 0 0 → S' 1 k = S 1 k ∧ S' 2 k = S 2 k ∧ S' 3 k = S 3 k ∧ S' 4 k = S 4 k ∧ S' 6 k = S 6 k ∧ S' 11 k = S 11 k ∧ (∀ e, 0 ≤ e → e < 12 → S' 5 (k * 12 + e) = S 5 (k * 12 + e))) (hm : ∀ k, 0 ≤ k → k < S 0 0 → S' 7 k ≠ 0 → ∃ y, y ≤ z ∧ cwf S (S 0 0) y (S' 8 k) (S' 9 k) (S' 10 k)) (hF : FW n wt z S) : FW n wt z S' := by
  intro k hk0 hk9
  rw [h0] at hk9
  obtain ⟨a1, a2, a3, a4, a5, a6, a7⟩ := hF k hk0 hk9
  obtain ⟨e1, e2, e3, e4, e6, e11, e5⟩ := hs k hk0 hk9
  have f4 : ∀ j, 0 ≤ j → j < S 0 0 → S' 4 j = S 4 j := fun j z1 z2 => (hs j z1 z2).2.2.2.1
  have f11 : ∀ j, 0 ≤ j → j < k → S' 11 j = S 11 j := fun j z1 z2 => (hs j z1 (by omega)).2.2.2.2.2.1
  refine ⟨?_, by omega, by omega, fun j z1 z2 => by rw [f4 j z1 (by omega), e4]; exact a4 j z1 z2, ?_, ?_, fun hne => ?_⟩
  · rw [e1, e2, e3, e4]
    exact cwf_of (Int.le_refl _) (fun j z1 z2 => f4 j z1 (by omega)) a1
  · rw [e6, a5]
    congr 1
    refine cv_congr _ (fun i hi => ?_)
    rw [e5 i (by omega) (by omega)]
  · rw [e11, a6, e1, e2, e3, usE_of f11 a1]
  · obtain ⟨y, y1, y2⟩ := hm k hk0 hk9 hne
    exact ⟨y, y1, cwf_of (by omega) f4 y2⟩
theorem FW_off {n : Int} {rw : Int → Int → Int} {wt : Int → Int} {z : Int} {S : xH} {c1 c2 c3 : Int} (hn : 0 ≤ n ∧ n ≤ 12) (hW : WE n S) (hz : 1 ≤ z) (hc : cwf S (S 0 0) z c1 c2 c3) (hF : FW n wt z S) : FW n wt z (offE n rw wt z S c1 c2 c3) := by
  obtain ⟨w1, w2, w3, w4, w5, w6, w7, w8, w9, w10, w11, w12⟩ := hW
  by_cases h4 : S 0 4 ≠ 0
  · rw [offE_s h4]; exact hF
  have h4 : S 0 4 = 0 := by omega
  by_cases h3 : S 0 3 = 0
  · rw [offE_b h4 h3]
    exact hF
  rcases fnd_spec (eqr n S (oE rw S c1 c2 c3)) (S 0 0).toNat with ⟨f1, f2⟩ | ⟨f1, f2, f3, f4⟩
  · by_cases hK : 300 ≤ S 0 0
    · rw [offE_f h4 h3 f1 hK]
      exact hF
    · rw [offE_a h4 h3 f1 (by omega)]
      generalize hS' : appE (mad S) n z c1 c2 c3 (oE rw S c1 c2 c3) (cv (fun e => oE rw S c1 c2 c3 e = wt e) n.toNat) (usE S c1 c2 c3) = S'
      have h0 : S' 0 0 = S 0 0 + 1 := by rw [← hS']; rfl
      have k5 : ∀ j, S' 5 j = if S 0 0 * 12 ≤ j ∧ j < S 0 0 * 12 + n then oE rw S c1 c2 c3 (j - S 0 0 * 12) else S 5 j := fun _ => by rw [← hS']; rfl
      have kold : ∀ k e, k < S 0 0 → 0 ≤ e → e < 12 → S' 5 (k * 12 + e) = S 5 (k * 12 + e) := fun k e z1 z2 z3 => by rw [k5, if_neg (by omega)]
      have knew : ∀ e, 0 ≤ e → e < n → S' 5 (S 0 0 * 12 + e) = oE rw S c1 c2 c3 e := fun e z2 z3 => by rw [k5, if_pos (by omega)]; congr 1; omega
      have g1 : ∀ k, S' 1 k = if k = S 0 0 then c1 else S 1 k := fun k => by rw [← hS']; simp [appE, put0, xup, mad]
      have g2 : ∀ k, S' 2 k = if k = S 0 0 then c2 else S 2 k := fun k => by rw [← hS']; simp [appE, put0, xup, mad]
      have g3 : ∀ k, S' 3 k = if k = S 0 0 then c3 else S 3 k := fun k => by rw [← hS']; simp [appE, put0, xup, mad]
      have g4 : ∀ k, S' 4 k = if k = S 0 0 then z else S 4 k := fun k => by rw [← hS']; simp [appE, put0, xup, mad]
      have g6 : ∀ k, S' 6 k = if k = S 0 0 then (cv (fun e => oE rw S c1 c2 c3 e = wt e) n.toNat : Int) else S 6 k := fun k => by rw [← hS']; simp [appE, put0, xup, mad]
      have g11 : ∀ k, S' 11 k = if k = S 0 0 then usE S c1 c2 c3 else S 11 k := fun k => by rw [← hS']; simp [appE, put0, xup, mad]
      have g7 : ∀ k, S' 7 k = if k = S 0 0 then 0 else S 7 k := fun k => by rw [← hS']; simp [appE, put0, xup, mad]
      have g8 : ∀ k, S' 8 k = S 8 k ∧ S' 9 k = S 9 k ∧ S' 10 k = S 10 k := fun k => by rw [← hS']; simp [appE, put0, xup, mad]
      have o4 : ∀ k, 0 ≤ k → k < S 0 0 → S' 4 k = S 4 k := fun k z1 z2 => by rw [g4, if_neg (by omega)]
      have o11 : ∀ k, 0 ≤ k → k < S 0 0 → S' 11 k = S 11 k := fun k z1 z2 => by rw [g11, if_neg (by omega)]
      intro k hk0 hk9
      rw [h0] at hk9
      by_cases hk : k = S 0 0
      · subst hk
        rw [g1, g2, g3, g4, g6, g11, g7, if_pos rfl, if_pos rfl, if_pos rfl, if_pos rfl, if_pos rfl, if_pos rfl, if_pos rfl]
        refine ⟨cwf_of (Int.le_refl _) o4 hc, hz, Int.le_refl _, fun j z1 z2 => ?_, ?_, (usE_of o11 hc).symm, fun q => absurd rfl q⟩
        · rw [g4]
          split
          · exact Int.le_refl _
          · exact (hF j z1 (by omega)).2.2.1
        · congr 1
          refine cv_congr _ (fun i hi => ?_)
          rw [knew i (by omega) (by omega)]
      · have hk8 : k < S 0 0 := by omega
        obtain ⟨a1, a2, a3, a4, a5, a6, a7⟩ := hF k hk0 hk8
        rw [g1, g2, g3, g4, g6, g11, g7, if_neg hk, if_neg hk, if_neg hk, if_neg hk, if_neg hk, if_neg hk, if_neg hk]
        refine ⟨cwf_of (Int.le_refl _) (fun j z1 z2 => o4 j z1 (by omega)) a1, a2, a3, fun j z1 z2 => by rw [o4 j z1 (by omega)]; exact a4 j z1 z2, ?_, by rw [a6]; exact (usE_of (fun j z1 z2 => o11 j z1 (by omega)) a1).symm, fun q => ?_⟩
        · rw [a5]
          congr 1
          refine cv_congr _ (fun i hi => ?_)
          rw [kold k i hk8 (by omega) (by omega)]
        · obtain ⟨y, y1, y2⟩ := a7 q
          obtain ⟨q1, q2, q3⟩ := g8 k
          rw [q1, q2, q3, h0]
          exact ⟨y, y1, cwf_of (by omega) o4 y2⟩
  · generalize hr9 : fnd (eqr n S (oE rw S c1 c2 c3)) (S 0 0).toNat = r at *
    rw [offE_m h4 h3 hr9 (by omega)]
    refine FW_of hn ((mrg_0 S r c1 c2 c3 (by decide)).trans rfl) (fun k z1 z2 => ⟨mrg_o S r c1 c2 c3 k (by decide) (by decide) (by decide) (by decide) (by decide), mrg_o S r c1 c2 c3 k (by decide) (by decide) (by decide) (by decide) (by decide), mrg_o S r c1 c2 c3 k (by decide) (by decide) (by decide) (by decide) (by decide), mrg_o S r c1 c2 c3 k (by decide) (by decide) (by decide) (by decide) (by decide), mrg_o S r c1 c2 c3 k (by decide) (by decide) (by decide) (by decide) (by decide), mrg_o S r c1 c2 c3 k (by decide) (by decide) (by decide) (by decide) (by decide), fun e _ _ => mrg_o S r c1 c2 c3 _ (by decide) (by decide) (by decide) (by decide) (by decide)⟩) (fun k z1 z2 hne => ?_) hF
    obtain ⟨q1, q2, q3⟩ := mrg_f S r c1 c2 c3 k
    rw [q1, q2, q3]
    rw [mrg_7] at hne
    by_cases hq : k = r ∧ S 7 r = 0
    · rw [if_pos hq, if_pos hq, if_pos hq]
      exact ⟨z, Int.le_refl _, hc⟩
    · rw [if_neg hq, if_neg hq, if_neg hq]
      refine (hF k z1 z2).2.2.2.2.2.2 ?_
      by_cases hkr : k = r
      · intro q; exact hq ⟨hkr, by rw [← hkr]; exact q⟩
      · rw [if_neg hkr] at hne; exact hne
/-- the numbers behind the SIZES are those of S -/
def ENZ (h0 S : xH) : Prop := h0 23 0 = 0 ∧ (∀ s, 0 ≤ s → s ≤ 9 → 0 ≤ h0 23 s ∧ h0 23 s ≤ S 0 0) ∧ ∀ s k, 0 ≤ s → s ≤ 9 → 0 ≤ k → k < S 0 0 → (k < h0 23 s ↔ S 4 k ≤ s)
theorem ENZ_s {h0 S : xH} (h : ENZ h0 S) : ENS h0 (S 0 0) := by
  intro s h1 h2
  obtain ⟨a, b, c⟩ := h
  have b1 := b (s - 1) (by omega) (by omega)
  have b2 := b s (by omega) (by omega)
  refine ⟨b1.1, ?_, b2.2⟩
  rcases Int.lt_or_le (h0 23 s) (h0 23 (s - 1)) with z | z
  · have z1 := (c (s - 1) (h0 23 s) (by omega) (by omega) b2.1 (by omega)).mp z
    have z2 := (c s (h0 23 s) (by omega) (by omega) b2.1 (by omega)).mpr (by omega)
    omega
  · exact z
theorem ENZ_k {h0 S : xH} (h : ENZ h0 S) {s k : Int} (h1 : xbg h0 s ≤ k) (h2 : k < xen h0 s) : 1 ≤ s ∧ s ≤ 9 ∧ 0 ≤ k ∧ k < S 0 0 ∧ S 4 k = s := by
  obtain ⟨a, b, c⟩ := h
  unfold xbg at h1
  unfold xen at h2
  by_cases z : 1 ≤ s ∧ s < 10
  · rw [if_pos z] at h1 h2
    have b1 := b (s - 1) (by omega) (by omega)
    have b2 := b s (by omega) (by omega)
    have z1 := (c s k (by omega) (by omega) (by omega) (by omega)).mp h2
    have z2 : ¬ S 4 k ≤ s - 1 := fun q => by
      have := (c (s - 1) k (by omega) (by omega) (by omega) (by omega)).mpr q
      omega
    omega
  · rw [if_neg z] at h1 h2
    omega
/-- all of SIZE z -/
noncomputable def mkE (h0 : xH) (z : Int) (S : xH) : xH := if z = 1 then fR (fun S i => offP h0 S 11 (h0 8 i) 0) (fR (fun S i => offP h0 S 10 i 0) S 0 (h0 1 1 - 0).toNat) 0 (h0 7 1 - 0).toNat else fR (xgp h0 z) S 0 ((10 : Int) - 0).toNat
/-- what holds of what is KEPT while some are MADE out of S -/
def PS (h0 S : xH) (z : Int) (P : xH → Prop) : Prop := ∀ S' c1 c2 c3, STB S S' → WE (h0 1 2) S' → P S' → cwf S' (S' 0 0) z c1 c2 c3 → P (offP h0 S' c1 c2 c3)
theorem fR_P {g : xH → Int → xH} {P : xH → Prop} {S : xH} {lo : Int} (hP : P S) : ∀ (m : Nat), (∀ (S' : xH) (i : Int), lo ≤ i → i < lo + m → P S' → P (g S' i)) → P (fR g S lo m)
  | 0, _ => hP
  | m + 1, hg => by
    have a := fR_P (lo := lo) hP m (fun S' i h1 h2 => hg S' i h1 (by omega))
    rw [fR_s]
    exact hg _ (lo + m) (by omega) (by omega) a
theorem mkE_P {h0 S : xH} {z : Int} {P : xH → Prop} (hB : B0 h0) (hz : 1 ≤ z ∧ z ≤ 9) (hm : 1 ≤ h0 1 1 ∧ h0 1 1 ≤ 3) (hcr : ∀ i, 0 ≤ i → i < h0 7 1 → -99 ≤ h0 8 i ∧ h0 8 i ≤ 99) (hE : ENZ h0 S) (hW : WE (h0 1 2) S) (hP : P S) (hS : PS h0 S z P) : WE (h0 1 2) (mkE h0 z S) ∧ STB S (mkE h0 z S) ∧ mkE h0 z S 0 2 + mkE h0 z S 0 3 = S 0 2 + S 0 3 ∧ P (mkE h0 z S) := by
  have key : ∀ S' c1 c2 c3, (WE (h0 1 2) S' ∧ STB S S' ∧ S' 0 2 + S' 0 3 = S 0 2 + S 0 3 ∧ P S') → cwf S' (S' 0 0) z c1 c2 c3 → (WE (h0 1 2) (offP h0 S' c1 c2 c3) ∧ STB S (offP h0 S' c1 c2 c3) ∧ (offP h0 S' c1 c2 c3) 0 2 + (offP h0 S' c1 c2 c3) 0 3 = S 0 2 + S 0 3 ∧ P (offP h0 S' c1 c2 c3)) := by
    intro S' c1 c2 c3 ⟨a, b, c, e⟩ hc
    obtain ⟨q1, q2, q3⟩ := offP_w hB a (cwf_ok hc)
    exact ⟨q1, STB.tr (fun k z1 z2 => (hW.2.2.2.2.1 k z1 z2).1) b q2, q3.trans c, hS S' c1 c2 c3 b a e hc⟩
  have hS0 : WE (h0 1 2) S ∧ STB S S ∧ S 0 2 + S 0 3 = S 0 2 + S 0 3 ∧ P S := ⟨hW, STB.rf S, rfl, hP⟩
  have hsz : ∀ S', STB S S' → ∀ s k, xbg h0 s ≤ k → k < xen h0 s → 1 ≤ s ∧ s ≤ 9 ∧ 0 ≤ k ∧ k < S' 0 0 ∧ S' 4 k = s := by
    intro S' hs s k z1 z2
    obtain ⟨a, b, c, e, f⟩ := ENZ_k hE z1 z2
    have := hs.1
    exact ⟨a, b, c, by omega, by rw [(hs.2 k c e).2.2.2.1]; exact f⟩
  unfold mkE
  by_cases h1 : z = 1
  · rw [if_pos h1]
    refine fR_P (P := fun S' => WE (h0 1 2) S' ∧ STB S S' ∧ S' 0 2 + S' 0 3 = S 0 2 + S 0 3 ∧ P S') (fR_P (P := fun S' => WE (h0 1 2) S' ∧ STB S S' ∧ S' 0 2 + S' 0 3 = S 0 2 + S 0 3 ∧ P S') hS0 _ (fun S' i q1 q2 q3 => key S' _ _ _ q3 ?_)) _ (fun S' i q1 q2 q3 => key S' _ _ _ q3 ?_)
    · exact Or.inl ⟨rfl, q1, by omega, rfl, h1⟩
    · have := hcr i q1 (by omega)
      exact Or.inr (Or.inl ⟨rfl, this.1, this.2, rfl, h1⟩)
  · rw [if_neg h1]
    refine fR_P (P := fun S' => WE (h0 1 2) S' ∧ STB S S' ∧ S' 0 2 + S' 0 3 = S 0 2 + S 0 3 ∧ P S') hS0 _ (fun S' p q1 q2 q3 => ?_)
    show _ ∧ _ ∧ _ ∧ _
    unfold xgp
    split
    · split
      · refine fR_P (P := fun S' => WE (h0 1 2) S' ∧ STB S S' ∧ S' 0 2 + S' 0 3 = S 0 2 + S 0 3 ∧ P S') q3 _ (fun S2 i r1 r2 r3 => key S2 _ _ _ r3 ?_)
        obtain ⟨a, b, c, e, f⟩ := hsz S2 r3.2.1 (z - 1) i r1 (by omega)
        exact Or.inr (Or.inr ⟨q1, by omega, c, e, Int.le_refl _, by omega, Or.inl ⟨by assumption, rfl, by omega⟩⟩)
      · refine fR_P (P := fun S' => WE (h0 1 2) S' ∧ STB S S' ∧ S' 0 2 + S' 0 3 = S 0 2 + S 0 3 ∧ P S') q3 _ (fun S2 s r1 r2 r3 => ?_)
        refine fR_P (P := fun S' => WE (h0 1 2) S' ∧ STB S S' ∧ S' 0 2 + S' 0 3 = S 0 2 + S 0 3 ∧ P S') r3 _ (fun S3 x t1 t2 t3 => ?_)
        refine fR_P (P := fun S' => WE (h0 1 2) S' ∧ STB S S' ∧ S' 0 2 + S' 0 3 = S 0 2 + S 0 3 ∧ P S') t3 _ (fun S4 y u1 u2 u3 => key S4 _ _ _ u3 ?_)
        have hf : xbg h0 (z - 1 - s) ≤ xfr h0 p x (z - 1 - s) := by unfold xfr; split <;> omega
        obtain ⟨a, b, c, e, f⟩ := hsz S4 u3.2.1 s x t1 (by omega)
        obtain ⟨a2, b2, c2, e2, f2⟩ := hsz S4 u3.2.1 (z - 1 - s) y (by omega) (by omega)
        exact Or.inr (Or.inr ⟨q1, by omega, c, e, c2, e2, Or.inr ⟨by assumption, by omega⟩⟩)
    · exact q3
theorem mkE_F {h0 S : xH} {z z0 : Int} (hB : B0 h0) (hz : 1 ≤ z ∧ z ≤ 9) (hzz : h0 9 15 = z) (hm : 1 ≤ h0 1 1 ∧ h0 1 1 ≤ 3) (hcr : ∀ i, 0 ≤ i → i < h0 7 1 → -99 ≤ h0 8 i ∧ h0 8 i ≤ 99) (hE : ENZ h0 S) (hW : WE (h0 1 2) S) (hF : FW (h0 1 2) (h0 6) z0 S) (hz0 : z0 ≤ z) : WE (h0 1 2) (mkE h0 z S) ∧ STB S (mkE h0 z S) ∧ mkE h0 z S 0 2 + mkE h0 z S 0 3 = S 0 2 + S 0 3 ∧ FW (h0 1 2) (h0 6) z (mkE h0 z S) ∧ ∀ k, S 0 0 ≤ k → k < mkE h0 z S 0 0 → mkE h0 z S 4 k = z := by
  have hF1 : FW (h0 1 2) (h0 6) z S := fun k h1 h2 => by
    obtain ⟨a, b, c, e, f, g, i⟩ := hF k h1 h2
    exact ⟨a, b, by omega, e, f, g, fun q => by obtain ⟨y, y1, y2⟩ := i q; exact ⟨y, by omega, y2⟩⟩
  refine mkE_P (P := fun S' => FW (h0 1 2) (h0 6) z S' ∧ ∀ k, S 0 0 ≤ k → k < S' 0 0 → S' 4 k = z) hB hz hm hcr hE hW ⟨hF1, fun k q1 q2 => by omega⟩ (fun S' c1 c2 c3 q1 q2 q3 q4 => ⟨?_, ?_⟩)
  · unfold offP
    rw [hzz]
    exact FW_off hB.1 q2 hz.1 q4 q3.1
  · intro k r1 r2
    obtain ⟨t1, t2, -⟩ := offP_w hB q2 (cwf_ok q4)
    rcases Int.lt_or_le k (S' 0 0) with u | u
    · rw [(t2.2 k (by have := hW.1; omega) u).2.2.2.1]
      exact q3.2 k r1 u
    · revert r2
      unfold offP
      rw [hzz]
      obtain ⟨w1, w2, w3, w4, w5, w6, w7, w8, w9, w10, w11, w12⟩ := q2
      by_cases h4 : S' 0 4 ≠ 0
      · rw [offE_s h4]; omega
      have h4 : S' 0 4 = 0 := by omega
      by_cases h3 : S' 0 3 = 0
      · rw [offE_b h4 h3]; intro r2; have r2 : k < S' 0 0 := r2; omega
      rcases fnd_spec (eqr (h0 1 2) S' (oE (rwf h0) S' c1 c2 c3)) (S' 0 0).toNat with ⟨f1, f2⟩ | ⟨f1, f2, f3, f4⟩
      · by_cases hK : 300 ≤ S' 0 0
        · rw [offE_f h4 h3 f1 hK]; intro r2; have r2 : k < S' 0 0 := r2; omega
        · rw [offE_a h4 h3 f1 (by omega)]
          intro r2
          have r2 : k < S' 0 0 + 1 := r2
          have e : k = S' 0 0 := by omega
          subst e
          simp [appE, put0, xup, mad]
      · generalize hr9 : fnd (eqr (h0 1 2) S' (oE (rwf h0) S' c1 c2 c3)) (S' 0 0).toNat = r at *
        rw [offE_m h4 h3 hr9 (by omega)]
        intro r2
        rw [(mrg_0 S' r c1 c2 c3 (by decide)).trans rfl] at r2
        have r2 : k < S' 0 0 := r2
        omega
