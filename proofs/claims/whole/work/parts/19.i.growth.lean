/-- step by step from lo on, m times -/
def fR (g : xH → Int → xH) (S : xH) (lo : Int) : Nat → xH
  | 0 => S
  | m + 1 => fR g (g S lo) (lo + 1) m
theorem fR_s (g : xH → Int → xH) : ∀ (m : Nat) (S : xH) (lo : Int), fR g S lo (m + 1) = g (fR g S lo m) (lo + m)
  | 0, S, lo => by simp [fR]
  | m + 1, S, lo => by
    have h := fR_s g m (g S lo) (lo + 1)
    have e : lo + 1 + (m : Int) = lo + ((m + 1 : Nat) : Int) := by omega
    rw [e] at h
    exact h
theorem fR_id {g : xH → Int → xH} {S : xH} : ∀ (m : Nat) (lo : Int), (∀ i, lo ≤ i → i < lo + m → g S i = S) → fR g S lo m = S
  | 0, _, _ => rfl
  | m + 1, lo, h => by
    show fR g (g S lo) (lo + 1) m = S
    rw [h lo (by omega) (by omega)]
    exact fR_id m (lo + 1) (fun i h1 h2 => h i (by omega) (by omega))
theorem fR_add (g : xH → Int → xH) : ∀ (m k : Nat) (S : xH) (lo : Int), fR g S lo (m + k) = fR g (fR g S lo m) (lo + m) k
  | 0, k, S, lo => by simp [fR]
  | m + 1, k, S, lo => by
    have h := fR_add g m k (g S lo) (lo + 1)
    have e : lo + 1 + (m : Int) = lo + ((m + 1 : Nat) : Int) := by omega
    rw [e] at h
    rw [show m + 1 + k = (m + k) + 1 by omega]
    exact h
/-- what KEPT ones keep as more grows -/
def STB (S S' : xH) : Prop := S 0 0 ≤ S' 0 0 ∧ ∀ k, 0 ≤ k → k < S 0 0 → S' 1 k = S 1 k ∧ S' 2 k = S 2 k ∧ S' 3 k = S 3 k ∧ S' 4 k = S 4 k ∧ S' 6 k = S 6 k ∧ S' 11 k = S 11 k ∧ (∀ e, 0 ≤ e → e < 12 → S' 5 (k * 12 + e) = S 5 (k * 12 + e)) ∧ S 7 k ≤ S' 7 k ∧ (S 7 k ≠ 0 → S' 8 k = S 8 k ∧ S' 9 k = S 9 k ∧ S' 10 k = S 10 k)
theorem STB.rf (S : xH) : STB S S := ⟨Int.le_refl _, fun k _ _ => ⟨rfl, rfl, rfl, rfl, rfl, rfl, fun _ _ _ => rfl, Int.le_refl _, fun _ => ⟨rfl, rfl, rfl⟩⟩⟩
theorem STB.tr {S1 S2 S3 : xH} (h0 : ∀ k, 0 ≤ k → k < S1 0 0 → 0 ≤ S1 7 k) (a : STB S1 S2) (b : STB S2 S3) : STB S1 S3 := by
  refine ⟨Int.le_trans a.1 b.1, fun k h1 h2 => ?_⟩
  obtain ⟨a1, a2, a3, a4, a5, a6, a7, a8, a9⟩ := a.2 k h1 h2
  obtain ⟨b1, b2, b3, b4, b5, b6, b7, b8, b9⟩ := b.2 k h1 (Int.lt_of_lt_of_le h2 a.1)
  refine ⟨b1.trans a1, b2.trans a2, b3.trans a3, b4.trans a4, b5.trans a5, b6.trans a6, fun e z1 z2 => (b7 e z1 z2).trans (a7 e z1 z2), Int.le_trans a8 b8, fun z => ?_⟩
  have := h0 k h1 h2
  obtain ⟨c1, c2, c3⟩ := b9 (by omega)
  obtain ⟨e1, e2, e3⟩ := a9 z
  exact ⟨c1.trans e1, c2.trans e2, c3.trans e3⟩
theorem oE_r {n : Int} {rw : Int → Int → Int} {S : xH} {c1 c2 c3 : Int} (hW : WE n S) (hr : ∀ e, 0 ≤ e → e < n → ∀ j, xr (rw j e)) (hc : okc S c1 c2 c3) : ∀ e, 0 ≤ e → e < n → xr (oE rw S c1 c2 c3 e) := by
  intro e he0 he9
  unfold oE
  unfold okc at hc
  split
  · exact hr e he0 he9 c2
  · split
    · rcases hc with hc | hc | hc
      · omega
      · exact ⟨by omega, by omega⟩
      · omega
    · rcases hc with hc | hc | ⟨q1, q2, q3, q4, q5, q6⟩
      · exact absurd hc.1 (by assumption)
      · exact absurd hc.1 (by assumption)
      · exact ap_r (hW.2.2.1 c2 e q3 q4 he0 he9) (hW.2.2.1 c3 e q5 q6 he0 he9)
theorem okc_up {S S' : xH} {c1 c2 c3 : Int} (h : S 0 0 ≤ S' 0 0) (hc : okc S c1 c2 c3) : okc S' c1 c2 c3 := by
  unfold okc at *
  omega
theorem WE_off {n : Int} {rw : Int → Int → Int} {wt : Int → Int} {sz : Int} {S : xH} {c1 c2 c3 : Int} (hn : 0 ≤ n ∧ n ≤ 12) (hW : WE n S) (hr : ∀ e, 0 ≤ e → e < n → ∀ j, xr (rw j e)) (hc : okc S c1 c2 c3) : WE n (offE n rw wt sz S c1 c2 c3) ∧ STB S (offE n rw wt sz S c1 c2 c3) ∧ (offE n rw wt sz S c1 c2 c3) 0 2 + (offE n rw wt sz S c1 c2 c3) 0 3 = S 0 2 + S 0 3 := by
  have hor := oE_r hW hr hc
  have hW0 := hW
  obtain ⟨w1, w2, w3, w4, w5, w6, w7, w8, w9, w10, w11, w12⟩ := hW
  by_cases h4 : S 0 4 ≠ 0
  · rw [offE_s h4]; exact ⟨hW0, STB.rf S, rfl⟩
  have h4 : S 0 4 = 0 := by omega
  by_cases h3 : S 0 3 = 0
  · rw [offE_b h4 h3]
    exact ⟨⟨w1, w2, w3, w4, w5, w6, w7, w8, w9, w10, by show (0 : Int) ≤ 2; omega, by show (2 : Int) ≤ 2; omega⟩, ⟨Int.le_refl _, fun k _ _ => ⟨rfl, rfl, rfl, rfl, rfl, rfl, fun _ _ _ => rfl, Int.le_refl _, fun _ => ⟨rfl, rfl, rfl⟩⟩⟩, rfl⟩
  have hm2 : (mad S) 0 2 = S 0 2 + 1 := rfl
  have hm3 : (mad S) 0 3 = S 0 3 - 1 := rfl
  rcases fnd_spec (eqr n S (oE rw S c1 c2 c3)) (S 0 0).toNat with ⟨f1, f2⟩ | ⟨f1, f2, f3, f4⟩
  · by_cases hK : 300 ≤ S 0 0
    · rw [offE_f h4 h3 f1 hK]
      refine ⟨⟨w1, w2, w3, w4, w5, w6, ?_, ?_, ?_, ?_, by show (0 : Int) ≤ 1; omega, by show (1 : Int) ≤ 2; omega⟩, ⟨Int.le_refl _, fun k _ _ => ⟨rfl, rfl, rfl, rfl, rfl, rfl, fun _ _ _ => rfl, Int.le_refl _, fun _ => ⟨rfl, rfl, rfl⟩⟩⟩, ?_⟩
      · show S 0 1 ≤ S 0 2 + 1; omega
      · show S 0 2 + 1 + (S 0 3 - 1) ≤ 400000; omega
      · show 0 ≤ S 0 3 - 1; omega
      · show S 0 3 - 1 ≤ 20000; omega
      · show S 0 2 + 1 + (S 0 3 - 1) = _; omega
    · rw [offE_a h4 h3 f1 (by omega)]
      generalize (cv (fun e => oE rw S c1 c2 c3 e = wt e) n.toNat : Int) = cvv
      generalize usE S c1 c2 c3 = us
      have k5 : ∀ j, appE (mad S) n sz c1 c2 c3 (oE rw S c1 c2 c3) cvv us 5 j = if S 0 0 * 12 ≤ j ∧ j < S 0 0 * 12 + n then oE rw S c1 c2 c3 (j - S 0 0 * 12) else S 5 j := fun _ => rfl
      have kold : ∀ k e, k < S 0 0 → 0 ≤ e → e < 12 → appE (mad S) n sz c1 c2 c3 (oE rw S c1 c2 c3) cvv us 5 (k * 12 + e) = S 5 (k * 12 + e) := fun k e z1 z2 z3 => by rw [k5, if_neg (by omega)]
      have knew : ∀ e, 0 ≤ e → e < n → appE (mad S) n sz c1 c2 c3 (oE rw S c1 c2 c3) cvv us 5 (S 0 0 * 12 + e) = oE rw S c1 c2 c3 e := fun e z2 z3 => by rw [k5, if_pos (by omega)]; congr 1; omega
      refine ⟨⟨?_, ?_, fun k e z1 z2 z3 z9 => ?_, fun j k z1 z2 z3 z9 => ?_, fun k z1 z2 => ?_, w6, ?_, ?_, ?_, ?_, w11, w12⟩, ⟨?_, fun k z1 z2 => ?_⟩, ?_⟩
      · show 0 ≤ S 0 0 + 1; omega
      · show S 0 0 + 1 ≤ 300; omega
      · have z2 : k < S 0 0 + 1 := z2
        rcases Int.lt_or_eq_of_le (show k ≤ S 0 0 by omega) with z | z
        · rw [kold k e z z3 (by omega)]; exact w3 k e z1 z z3 z9
        · rw [z, knew e z3 z9]; exact hor e z3 z9
      · have z3 : k < S 0 0 + 1 := z3
        rcases Int.lt_or_eq_of_le (show k ≤ S 0 0 by omega) with z | z
        · refine w4 j k z1 z2 z (fun e q1 q2 => ?_)
          have := z9 e q1 q2
          rw [kold j e (by omega) q1 (by omega), kold k e z q1 (by omega)] at this
          exact this
        · subst z
          refine f2 j z1 (by omega) (fun e q1 q2 => ?_)
          have := z9 e q1 q2
          rw [kold j e z2 q1 (by omega), knew e q1 q2] at this
          exact this
      · have z2 : k < S 0 0 + 1 := z2
        show 0 ≤ (if k = S 0 0 then 0 else S 7 k) ∧ (if k = S 0 0 then 0 else S 7 k) ≤ S 0 1
        split
        · exact ⟨Int.le_refl _, w6⟩
        · exact w5 k z1 (by omega)
      · show S 0 1 ≤ S 0 2 + 1; omega
      · show S 0 2 + 1 + (S 0 3 - 1) ≤ 400000; omega
      · show 0 ≤ S 0 3 - 1; omega
      · show S 0 3 - 1 ≤ 20000; omega
      · show S 0 0 ≤ S 0 0 + 1; omega
      · have hne : k ≠ S 0 0 := by omega
        have hne2 : k ≠ (mad S) 0 0 := hne
        refine ⟨?_, ?_, ?_, ?_, ?_, ?_, fun e q1 q2 => kold k e z2 q1 q2, ?_, fun _ => ⟨rfl, rfl, rfl⟩⟩
        all_goals simp [appE, put0, xup, hne2, mad, hne]
      · show S 0 2 + 1 + (S 0 3 - 1) = _; omega
  · generalize hr9 : fnd (eqr n S (oE rw S c1 c2 c3)) (S 0 0).toNat = r at *
    rw [offE_m h4 h3 hr9 (by omega)]
    have hr1 : r < S 0 0 := by omega
    have h7 : ∀ k, mrgS (mad S) r c1 c2 c3 7 k = if k = r then S 7 r + 1 else S 7 k := by
      intro k
      unfold mrgS
      by_cases q : (mad S) 7 r = 0
      · rw [if_pos q]; simp [xup, mad]
      · rw [if_neg q]; simp [xup, mad]
    have hsame : ∀ a j, a ≠ 7 → a ≠ 8 → a ≠ 9 → a ≠ 10 → a ≠ 0 → mrgS (mad S) r c1 c2 c3 a j = S a j := by
      intro a j q1 q2 q3 q4 q5
      unfold mrgS
      by_cases q : (mad S) 7 r = 0
      · rw [if_pos q]; simp [xup, mad, q1, q2, q3, q4, q5]
      · rw [if_neg q]; simp [xup, mad, q1, q5]
    have h00 : ∀ j, j ≠ 1 → mrgS (mad S) r c1 c2 c3 0 j = (mad S) 0 j := by
      intro j q1
      unfold mrgS
      by_cases q : (mad S) 7 r = 0
      · rw [if_pos q]; simp [xup, q1]
      · rw [if_neg q]; simp [xup, q1]
    have h01 : mrgS (mad S) r c1 c2 c3 0 1 = S 0 1 + 1 := by unfold mrgS; rw [xup_s]; rfl
    have e0 : mrgS (mad S) r c1 c2 c3 0 0 = S 0 0 := (h00 0 (by decide)).trans rfl
    have e2 : mrgS (mad S) r c1 c2 c3 0 2 = S 0 2 + 1 := (h00 2 (by decide)).trans rfl
    have e3 : mrgS (mad S) r c1 c2 c3 0 3 = S 0 3 - 1 := (h00 3 (by decide)).trans rfl
    have e4 : mrgS (mad S) r c1 c2 c3 0 4 = S 0 4 := (h00 4 (by decide)).trans rfl
    have h5 : ∀ j, mrgS (mad S) r c1 c2 c3 5 j = S 5 j := fun j => hsame 5 j (by decide) (by decide) (by decide) (by decide) (by decide)
    refine ⟨?_, ⟨by rw [e0]; exact Int.le_refl _, fun k z1 z2 => ?_⟩, by rw [e2, e3]; omega⟩
    · unfold WE
      rw [e0, e2, e3, e4, h01]
      refine ⟨w1, w2, fun k e z1 z2 z3 z9 => by rw [h5]; exact w3 k e z1 z2 z3 z9, fun j k z1 z2 z3 z9 => w4 j k z1 z2 z3 (fun e q1 q2 => by have := z9 e q1 q2; rw [h5, h5] at this; exact this), fun k z1 z2 => ?_, by omega, by omega, by omega, by omega, by omega, w11, w12⟩
      rw [h7 k]
      have := w5 k z1 z2
      have := w5 r f1 hr1
      split <;> omega
    · refine ⟨hsame 1 k (by decide) (by decide) (by decide) (by decide) (by decide), hsame 2 k (by decide) (by decide) (by decide) (by decide) (by decide), hsame 3 k (by decide) (by decide) (by decide) (by decide) (by decide), hsame 4 k (by decide) (by decide) (by decide) (by decide) (by decide), hsame 6 k (by decide) (by decide) (by decide) (by decide) (by decide), hsame 11 k (by decide) (by decide) (by decide) (by decide) (by decide), fun e _ _ => h5 _, ?_, fun hne => ?_⟩
      · rw [h7 k]
        split
        · rename_i q; rw [q]; omega
        · exact Int.le_refl _
      · unfold mrgS
        by_cases q : (mad S) 7 r = 0
        · rw [if_pos q]
          have hkr : k ≠ r := fun z => hne (by rw [z]; exact q)
          simp [xup, mad, hkr]
        · rw [if_neg q]
          simp [xup, mad]
