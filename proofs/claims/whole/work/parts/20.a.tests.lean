/-- a TEST of SIZE z that may be MADE out of EXPRESSIONS S and the first K TESTS -/
def twf (S T : xH) (K z c1 c2 c3 : Int) : Prop := (0 ≤ c1 ∧ c1 ≤ 1 ∧ 0 ≤ c2 ∧ c2 < S 0 0 ∧ 0 ≤ c3 ∧ c3 < S 0 0 ∧ S 4 c2 ≤ 2 ∧ S 4 c3 ≤ 2 ∧ S 4 c2 + S 4 c3 + 1 = z) ∨ (c1 = 2 ∧ 0 ≤ c2 ∧ c2 < K ∧ c3 = 0 ∧ T 4 c2 + 1 = z) ∨ (c1 = 3 ∧ 0 ≤ c2 ∧ c2 < K ∧ 0 ≤ c3 ∧ c3 < K ∧ T 4 c2 + T 4 c3 + 1 = z)
def usS (S T : xH) (c1 c2 c3 : Int) : Int := if c1 = 2 then T 11 c2 else if c1 = 3 then T 11 c2 + T 11 c3 else S 11 c2 + S 11 c3
theorem twf_of {S S' T T' : xH} {K K' z c1 c2 c3 : Int} (hK : K ≤ K') (hS : S 0 0 ≤ S' 0 0) (s4 : ∀ k, 0 ≤ k → k < S 0 0 → S' 4 k = S 4 k) (h4 : ∀ k, 0 ≤ k → k < K → T' 4 k = T 4 k) (h : twf S T K z c1 c2 c3) : twf S' T' K' z c1 c2 c3 := by
  rcases h with ⟨a, b, c, e, f, g, i, j, k⟩ | ⟨a, b, c, e, f⟩ | ⟨a, b, c, e, f, g⟩
  · refine Or.inl ⟨a, b, c, by omega, f, by omega, ?_⟩
    rw [s4 c2 c e, s4 c3 f g]
    exact ⟨i, j, k⟩
  · refine Or.inr (Or.inl ⟨a, b, by omega, e, ?_⟩)
    rw [h4 c2 b c]; exact f
  · refine Or.inr (Or.inr ⟨a, b, by omega, e, by omega, ?_⟩)
    rw [h4 c2 b c, h4 c3 e f]; exact g
theorem usS_of {S S' T T' : xH} {K c1 c2 c3 y : Int} (hS : ∀ k, 0 ≤ k → k < S 0 0 → S' 11 k = S 11 k) (h : ∀ k, 0 ≤ k → k < K → T' 11 k = T 11 k) (hc : twf S T K y c1 c2 c3) : usS S' T' c1 c2 c3 = usS S T c1 c2 c3 := by
  unfold usS
  rcases hc with ⟨a, b, c, e, f, g, -⟩ | ⟨a, b, c, -⟩ | ⟨a, b, c, e, f, -⟩
  · rw [if_neg (by omega), if_neg (by omega), if_neg (by omega), if_neg (by omega), hS c2 c e, hS c3 f g]
  · rw [if_pos a, if_pos a, h c2 b c]
  · rw [if_neg (by omega), if_pos a, if_neg (by omega), if_pos a, h c2 b c, h c3 e f]
def FWT (S : xH) (z : Int) (T : xH) : Prop := ∀ k, 0 ≤ k → k < T 0 0 → twf S T k (T 4 k) (T 1 k) (T 2 k) (T 3 k) ∧ 3 ≤ T 4 k ∧ T 4 k ≤ z ∧ (∀ j, 0 ≤ j → j ≤ k → T 4 j ≤ T 4 k) ∧ T 11 k = usS S T (T 1 k) (T 2 k) (T 3 k) ∧ (T 7 k ≠ 0 → ∃ y, y ≤ z ∧ twf S T (T 0 0) y (T 8 k) (T 9 k) (T 10 k))
theorem FWT_of {S S' T T' : xH} {z : Int} (hS : S 0 0 ≤ S' 0 0) (s4 : ∀ k, 0 ≤ k → k < S 0 0 → S' 4 k = S 4 k) (s11 : ∀ k, 0 ≤ k → k < S 0 0 → S' 11 k = S 11 k) (h0 : T' 0 0 = T 0 0) (hs : ∀ k, 0 ≤ k → k < T 0 0 → T' 1 k = T 1 k ∧ T' 2 k = T 2 k ∧ T' 3 k = T 3 k ∧ T' 4 k = T 4 k ∧ T' 11 k = T 11 k) (hm : ∀ k, 0 ≤ k → k < T 0 0 → T' 7 k ≠ 0 → ∃ y, y ≤ z ∧ twf S T (T 0 0) y (T' 8 k) (T' 9 k) (T' 10 k)) (hF : FWT S z T) : FWT S' z T' := by
  intro k hk0 hk9
  rw [h0] at hk9
  obtain ⟨a1, a2, a3, a4, a6, a7⟩ := hF k hk0 hk9
  obtain ⟨e1, e2, e3, e4, e11⟩ := hs k hk0 hk9
  have f4 : ∀ j, 0 ≤ j → j < T 0 0 → T' 4 j = T 4 j := fun j z1 z2 => (hs j z1 z2).2.2.2.1
  have f11 : ∀ j, 0 ≤ j → j < k → T' 11 j = T 11 j := fun j z1 z2 => (hs j z1 (by omega)).2.2.2.2
  refine ⟨?_, by omega, by omega, fun j z1 z2 => by rw [f4 j z1 (by omega), e4]; exact a4 j z1 z2, ?_, fun hne => ?_⟩
  · rw [e1, e2, e3, e4]
    exact twf_of (Int.le_refl _) hS s4 (fun j z1 z2 => f4 j z1 (by omega)) a1
  · rw [e11, a6, e1, e2, e3, usS_of s11 f11 a1]
  · obtain ⟨y, y1, y2⟩ := hm k hk0 hk9 hne
    exact ⟨y, y1, twf_of (by omega) hS s4 f4 y2⟩
/-- EXPRESSIONS go on growing -/
theorem FWT_up {S S' T : xH} {z : Int} (h : STB S S') (hF : FWT S z T) : FWT S' z T := FWT_of h.1 (fun k q1 q2 => (h.2 k q1 q2).2.2.2.1) (fun k q1 q2 => (h.2 k q1 q2).2.2.2.2.2.1) rfl (fun _ _ _ => ⟨rfl, rfl, rfl, rfl, rfl⟩) (fun k q1 q2 q3 => (hF k q1 q2).2.2.2.2.2 q3) hF
theorem twf_ok {h0 S T : xH} {z c1 c2 c3 : Int} (hK : h0 9 9 = S 0 0) (h : twf S T (T 0 0) z c1 c2 c3) : okt h0 T c1 c2 c3 := by
  unfold okt
  rw [hK]
  rcases h with ⟨a, b, c, e, f, g, -⟩ | ⟨a, b, c, e, -⟩ | ⟨a, b, c, e, f, -⟩
  · exact Or.inl ⟨a, b, c, e, f, g⟩
  · exact Or.inr (Or.inl ⟨a, b, c, e⟩)
  · exact Or.inr (Or.inr ⟨a, b, c, e, f⟩)
theorem FWT_off {h0 S T : xH} {z c1 c2 c3 : Int} (hK : h0 9 9 = S 0 0) (hu : ∀ k, 0 ≤ k → k < S 0 0 → h0 19 k = S 11 k) (hzz : h0 28 15 = z) (hW : WT (h0 1 2) T) (hz : 3 ≤ z) (hc : twf S T (T 0 0) z c1 c2 c3) (hF : FWT S z T) : FWT S z (offT h0 T c1 c2 c3) ∧ ∀ k, T 0 0 ≤ k → k < offT h0 T c1 c2 c3 0 0 → offT h0 T c1 c2 c3 4 k = z := by
  obtain ⟨w1, w2, w3, w4, w5, w6, w7, w8, w9, w10, w11, w12, w13, w14⟩ := hW
  by_cases h4 : T 0 4 ≠ 0
  · rw [offT_s h4]; exact ⟨hF, fun k q1 q2 => by omega⟩
  have h4 : T 0 4 = 0 := by omega
  by_cases h3 : T 0 3 = 0
  · rw [offT_b h4 h3]
    exact ⟨hF, fun k q1 q2 => by have q2 : k < T 0 0 := q2; omega⟩
  by_cases hi : oT h0 T c1 c2 c3 = 0 ∨ oT h0 T c1 c2 c3 = xshl 1 (h0 1 2) - 1
  · rw [offT_i h4 h3 hi]
    exact ⟨hF, fun k q1 q2 => by have q2 : k < T 0 0 := q2; omega⟩
  rcases fnd_spec (fun k => T 6 k = oT h0 T c1 c2 c3) (T 0 0).toNat with ⟨f1, f2⟩ | ⟨f1, f2, f3, f4⟩
  · by_cases h15 : 150 ≤ T 0 0
    · rw [offT_f h4 h3 hi f1 h15]
      exact ⟨hF, fun k q1 q2 => by have q2 : k < T 0 0 := q2; omega⟩
    · rw [offT_a h4 h3 hi f1 (by omega), hzz]
      have hus : usT h0 T c1 c2 c3 = usS S T c1 c2 c3 := by
        unfold usT usS
        rcases hc with ⟨a, b, c, e, f, g, -⟩ | ⟨a, -⟩ | ⟨a, -⟩
        · rw [hu c2 c e, hu c3 f g]
        · rw [if_pos a, if_pos a]
        · rw [if_neg (by omega), if_pos a, if_neg (by omega), if_pos a]
      rw [hus]
      generalize oT h0 T c1 c2 c3 = v
      generalize hS' : put0 (mad T) z c1 c2 c3 v (usS S T c1 c2 c3) = T'
      have h0' : T' 0 0 = T 0 0 + 1 := by rw [← hS']; rfl
      have g1 : ∀ k, T' 1 k = if k = T 0 0 then c1 else T 1 k := fun k => by rw [← hS']; simp [put0, xup, mad]
      have g2 : ∀ k, T' 2 k = if k = T 0 0 then c2 else T 2 k := fun k => by rw [← hS']; simp [put0, xup, mad]
      have g3 : ∀ k, T' 3 k = if k = T 0 0 then c3 else T 3 k := fun k => by rw [← hS']; simp [put0, xup, mad]
      have g4 : ∀ k, T' 4 k = if k = T 0 0 then z else T 4 k := fun k => by rw [← hS']; simp [put0, xup, mad]
      have g11 : ∀ k, T' 11 k = if k = T 0 0 then usS S T c1 c2 c3 else T 11 k := fun k => by rw [← hS']; simp [put0, xup, mad]
      have g7 : ∀ k, T' 7 k = if k = T 0 0 then 0 else T 7 k := fun k => by rw [← hS']; simp [put0, xup, mad]
      have g8 : ∀ k, T' 8 k = T 8 k ∧ T' 9 k = T 9 k ∧ T' 10 k = T 10 k := fun k => by rw [← hS']; simp [put0, xup, mad]
      have o4 : ∀ k, 0 ≤ k → k < T 0 0 → T' 4 k = T 4 k := fun k z1 z2 => by rw [g4, if_neg (by omega)]
      have o11 : ∀ k, 0 ≤ k → k < T 0 0 → T' 11 k = T 11 k := fun k z1 z2 => by rw [g11, if_neg (by omega)]
      refine ⟨fun k hk0 hk9 => ?_, fun k q1 q2 => ?_⟩
      · rw [h0'] at hk9
        by_cases hk : k = T 0 0
        · subst hk
          rw [g1, g2, g3, g4, g11, g7, if_pos rfl, if_pos rfl, if_pos rfl, if_pos rfl, if_pos rfl, if_pos rfl]
          refine ⟨twf_of (Int.le_refl _) (Int.le_refl _) (fun _ _ _ => rfl) o4 hc, hz, Int.le_refl _, fun j z1 z2 => ?_, (usS_of (fun _ _ _ => rfl) o11 hc).symm, fun q => absurd rfl q⟩
          rw [g4]
          split
          · exact Int.le_refl _
          · exact (hF j z1 (by omega)).2.2.1
        · have hk8 : k < T 0 0 := by omega
          obtain ⟨a1, a2, a3, a4, a6, a7⟩ := hF k hk0 hk8
          rw [g1, g2, g3, g4, g11, g7, if_neg hk, if_neg hk, if_neg hk, if_neg hk, if_neg hk, if_neg hk]
          refine ⟨twf_of (Int.le_refl _) (Int.le_refl _) (fun _ _ _ => rfl) (fun j z1 z2 => o4 j z1 (by omega)) a1, a2, a3, fun j z1 z2 => by rw [o4 j z1 (by omega)]; exact a4 j z1 z2, by rw [a6]; exact (usS_of (fun _ _ _ => rfl) (fun j z1 z2 => o11 j z1 (by omega)) a1).symm, fun q => ?_⟩
          obtain ⟨y, y1, y2⟩ := a7 q
          obtain ⟨q1, q2, q3⟩ := g8 k
          rw [q1, q2, q3, h0']
          exact ⟨y, y1, twf_of (by omega) (Int.le_refl _) (fun _ _ _ => rfl) o4 y2⟩
      · rw [h0'] at q2
        rw [g4, if_pos (by omega)]
  · generalize hr9 : fnd (fun k => T 6 k = oT h0 T c1 c2 c3) (T 0 0).toNat = r at *
    rw [offT_m h4 h3 hi hr9 (by omega)]
    have e0 : mrgS (mad T) r c1 c2 c3 0 0 = T 0 0 := (mrg_0 T r c1 c2 c3 (by decide)).trans rfl
    refine ⟨FWT_of (Int.le_refl _) (fun _ _ _ => rfl) (fun _ _ _ => rfl) e0 (fun k z1 z2 => ⟨mrg_o T r c1 c2 c3 k (by decide) (by decide) (by decide) (by decide) (by decide), mrg_o T r c1 c2 c3 k (by decide) (by decide) (by decide) (by decide) (by decide), mrg_o T r c1 c2 c3 k (by decide) (by decide) (by decide) (by decide) (by decide), mrg_o T r c1 c2 c3 k (by decide) (by decide) (by decide) (by decide) (by decide), mrg_o T r c1 c2 c3 k (by decide) (by decide) (by decide) (by decide) (by decide)⟩) (fun k z1 z2 hne => ?_) hF, fun k q1 q2 => by rw [e0] at q2; omega⟩
    obtain ⟨q1, q2, q3⟩ := mrg_f T r c1 c2 c3 k
    rw [q1, q2, q3]
    rw [mrg_7] at hne
    by_cases hq : k = r ∧ T 7 r = 0
    · rw [if_pos hq, if_pos hq, if_pos hq]
      exact ⟨z, Int.le_refl _, hc⟩
    · rw [if_neg hq, if_neg hq, if_neg hq]
      refine (hF k z1 z2).2.2.2.2.2 ?_
      by_cases hkr : k = r
      · intro q; exact hq ⟨hkr, by rw [← hkr]; exact q⟩
      · rw [if_neg hkr] at hne; exact hne
/-- the numbers behind the SIZES are those of T -/
def ETZ (h0 T : xH) : Prop := h0 42 0 = 0 ∧ (∀ s, 0 ≤ s → s ≤ 7 → 0 ≤ h0 42 s ∧ h0 42 s ≤ T 0 0) ∧ ∀ s k, 0 ≤ s → s ≤ 7 → 0 ≤ k → k < T 0 0 → (k < h0 42 s ↔ T 4 k ≤ s)
theorem ETZ_s {h0 T : xH} (h : ETZ h0 T) : ENT h0 (T 0 0) := by
  intro s h1 h2
  obtain ⟨a, b, c⟩ := h
  have b1 := b (s - 1) (by omega) (by omega)
  have b2 := b s (by omega) (by omega)
  refine ⟨b1.1, ?_, b2.2⟩
  rcases Int.lt_or_le (h0 42 s) (h0 42 (s - 1)) with z | z
  · have z1 := (c (s - 1) (h0 42 s) (by omega) (by omega) b2.1 (by omega)).mp z
    have z2 := (c s (h0 42 s) (by omega) (by omega) b2.1 (by omega)).mpr (by omega)
    omega
  · exact z
theorem ETZ_k {h0 T : xH} (h : ETZ h0 T) {s k : Int} (h1 : tbg h0 s ≤ k) (h2 : k < ten h0 s) : 1 ≤ s ∧ s ≤ 7 ∧ 0 ≤ k ∧ k < T 0 0 ∧ T 4 k = s := by
  obtain ⟨a, b, c⟩ := h
  unfold tbg at h1
  unfold ten at h2
  by_cases z : 1 ≤ s ∧ s < 8
  · rw [if_pos z] at h1 h2
    have b1 := b (s - 1) (by omega) (by omega)
    have b2 := b s (by omega) (by omega)
    have z1 := (c s k (by omega) (by omega) (by omega) (by omega)).mp h2
    have z2 : ¬ T 4 k ≤ s - 1 := fun q => by
      have := (c (s - 1) k (by omega) (by omega) (by omega) (by omega)).mpr q
      omega
    omega
  · rw [if_neg z] at h1 h2
    omega
theorem mkT_P {h0 S T : xH} {z : Int} {P : xH → Prop} (hB : BT h0) (hK : h0 9 9 = S 0 0) (hz : 3 ≤ z ∧ z ≤ 7) (hE : ENZ h0 S) (hET : ETZ h0 T) (hW : WT (h0 1 2) T) (hP : P T) (hS : ∀ T' c1 c2 c3, STB T T' → WT (h0 1 2) T' → P T' → twf S T' (T' 0 0) z c1 c2 c3 → P (offT h0 T' c1 c2 c3)) : WT (h0 1 2) (mkT h0 z T) ∧ STB T (mkT h0 z T) ∧ mkT h0 z T 0 2 + mkT h0 z T 0 3 = T 0 2 + T 0 3 ∧ P (mkT h0 z T) := by
  have key : ∀ T' c1 c2 c3, (WT (h0 1 2) T' ∧ STB T T' ∧ T' 0 2 + T' 0 3 = T 0 2 + T 0 3 ∧ P T') → twf S T' (T' 0 0) z c1 c2 c3 → (WT (h0 1 2) (offT h0 T' c1 c2 c3) ∧ STB T (offT h0 T' c1 c2 c3) ∧ (offT h0 T' c1 c2 c3) 0 2 + (offT h0 T' c1 c2 c3) 0 3 = T 0 2 + T 0 3 ∧ P (offT h0 T' c1 c2 c3)) := by
    intro T' c1 c2 c3 ⟨a, b, c, e⟩ hc
    obtain ⟨q1, q2, q3⟩ := WT_off hB a (twf_ok hK hc)
    exact ⟨q1, STB.tr (fun k z1 z2 => (hW.2.2.2.2.1 k z1 z2).1) b q2, q3.trans c, hS T' c1 c2 c3 b a e hc⟩
  have hsz : ∀ T', STB T T' → ∀ s k, tbg h0 s ≤ k → k < ten h0 s → 1 ≤ s ∧ s ≤ 7 ∧ 0 ≤ k ∧ k < T' 0 0 ∧ T' 4 k = s := by
    intro T' hs s k z1 z2
    obtain ⟨a, b, c, e, f⟩ := ETZ_k hET z1 z2
    have := hs.1
    exact ⟨a, b, c, by omega, by rw [(hs.2 k c e).2.2.2.1]; exact f⟩
  have hcs : ∀ kd, 0 ≤ kd → kd ≤ 1 → ∀ T', (WT (h0 1 2) T' ∧ STB T T' ∧ T' 0 2 + T' 0 3 = T 0 2 + T 0 3 ∧ P T') → ((fun T' => WT (h0 1 2) T' ∧ STB T T' ∧ T' 0 2 + T' 0 3 = T 0 2 + T 0 3 ∧ P T') (fR (xcs h0 kd z) T' 1 (2 + 1 - 1 : Int).toNat)) := by
    intro kd k0 k1 T' hT'
    refine fR_P (P := fun T' => WT (h0 1 2) T' ∧ STB T T' ∧ T' 0 2 + T' 0 3 = T 0 2 + T 0 3 ∧ P T') hT' _ (fun T2 s r1 r2 r3 => ?_)
    refine fR_P (P := fun T' => WT (h0 1 2) T' ∧ STB T T' ∧ T' 0 2 + T' 0 3 = T 0 2 + T 0 3 ∧ P T') r3 _ (fun T3 x t1 t2 t3 => ?_)
    refine fR_P (P := fun T' => WT (h0 1 2) T' ∧ STB T T' ∧ T' 0 2 + T' 0 3 = T 0 2 + T 0 3 ∧ P T') t3 _ (fun T4 y u1 u2 u3 => key T4 _ _ _ u3 ?_)
    have hf : xbg h0 (z - 1 - s) ≤ xft h0 kd x (z - 1 - s) := by unfold xft; split <;> omega
    obtain ⟨a, b, c, e, f⟩ := ENZ_k hE (s := s) (k := x) t1 (by omega)
    have hb : z - 1 - s ≤ 2 ∧ y < xen h0 (z - 1 - s) := by
      unfold xbh at u2
      by_cases q : z - 1 - s ≤ 2
      · rw [if_pos q] at u2; exact ⟨q, by omega⟩
      · rw [if_neg q] at u2
        have := xbe (ENZ_s hE) (by omega) (z - 1 - s)
        omega
    obtain ⟨a2, b2, c2, e2, f2⟩ := ENZ_k hE (s := z - 1 - s) (k := y) (by omega) hb.2
    exact Or.inl ⟨k0, k1, c, e, c2, e2, by omega, by omega, by omega⟩
  unfold mkT
  refine fR_P (P := fun T' => WT (h0 1 2) T' ∧ STB T T' ∧ T' 0 2 + T' 0 3 = T 0 2 + T 0 3 ∧ P T') ?_ _ (fun T2 s r1 r2 r3 => ?_)
  · unfold xnt
    refine fR_P (P := fun T' => WT (h0 1 2) T' ∧ STB T T' ∧ T' 0 2 + T' 0 3 = T 0 2 + T 0 3 ∧ P T') (hcs 1 (by omega) (by omega) _ (hcs 0 (by omega) (by omega) _ ⟨hW, STB.rf T, rfl, hP⟩)) _ (fun T2 i r1 r2 r3 => key T2 _ _ _ r3 ?_)
    obtain ⟨a, b, c, e, f⟩ := hsz T2 r3.2.1 (z - 1) i r1 (by omega)
    exact Or.inr (Or.inl ⟨rfl, c, e, rfl, by omega⟩)
  · refine fR_P (P := fun T' => WT (h0 1 2) T' ∧ STB T T' ∧ T' 0 2 + T' 0 3 = T 0 2 + T 0 3 ∧ P T') r3 _ (fun T3 x t1 t2 t3 => ?_)
    refine fR_P (P := fun T' => WT (h0 1 2) T' ∧ STB T T' ∧ T' 0 2 + T' 0 3 = T 0 2 + T 0 3 ∧ P T') t3 _ (fun T4 y u1 u2 u3 => key T4 _ _ _ u3 ?_)
    have hf : tbg h0 (z - 1 - s) ≤ tfr h0 x (z - 1 - s) := by unfold tfr; split <;> omega
    obtain ⟨a, b, c, e, f⟩ := hsz T4 u3.2.1 s x t1 (by omega)
    obtain ⟨a2, b2, c2, e2, f2⟩ := hsz T4 u3.2.1 (z - 1 - s) y (by omega) (by omega)
    exact Or.inr (Or.inr ⟨rfl, c, e, c2, e2, by omega⟩)
theorem mkT_F {h0 S T : xH} {z z0 : Int} (hB : BT h0) (hK : h0 9 9 = S 0 0) (hu : ∀ k, 0 ≤ k → k < S 0 0 → h0 19 k = S 11 k) (hz : 3 ≤ z ∧ z ≤ 7) (hzz : h0 28 15 = z) (hE : ENZ h0 S) (hET : ETZ h0 T) (hW : WT (h0 1 2) T) (hF : FWT S z0 T) (hz0 : z0 ≤ z) : WT (h0 1 2) (mkT h0 z T) ∧ STB T (mkT h0 z T) ∧ mkT h0 z T 0 2 + mkT h0 z T 0 3 = T 0 2 + T 0 3 ∧ FWT S z (mkT h0 z T) ∧ ∀ k, T 0 0 ≤ k → k < mkT h0 z T 0 0 → mkT h0 z T 4 k = z := by
  have hF1 : FWT S z T := fun k h1 h2 => by
    obtain ⟨a, b, c, e, g, i⟩ := hF k h1 h2
    exact ⟨a, b, by omega, e, g, fun q => by obtain ⟨y, y1, y2⟩ := i q; exact ⟨y, by omega, y2⟩⟩
  refine mkT_P (P := fun T' => FWT S z T' ∧ ∀ k, T 0 0 ≤ k → k < T' 0 0 → T' 4 k = z) hB hK hz hE hET hW ⟨hF1, fun k q1 q2 => by omega⟩ (fun T' c1 c2 c3 q1 q2 q3 q4 => ?_)
  obtain ⟨r1, r2⟩ := FWT_off hK hu hzz q2 hz.1 q4 q3.1
  refine ⟨r1, fun k s1 s2 => ?_⟩
  rcases Int.lt_or_le k (T' 0 0) with u | u
  · rw [((WT_off hB q2 (twf_ok hK q4)).2.1.2 k (by have := hW.1; omega) u).2.2.2.1]
    exact q3.2 k s1 u
  · exact r2 k u s2
