theorem dgt_r {z : Int} (h : -99 ≤ z ∧ z ≤ 99) : (dgt z).length ≤ 3 := by
  unfold dgt
  simp only [List.length_append, List.length_cons, List.length_nil]
  split <;> split <;> simp
theorem wrU_r (k : Int) : (wrU k).length ≤ 4 := by
  unfold wrU
  split
  · simp
  · split <;> simp
theorem tx1_r {S : xH} {K z κ u w : Int} {f : Int → List Int} (c : cwf S K z κ u w) (h1 : κ ≤ 9 → ((f u).length : Int) + 3 ≤ 6 * S 4 u) (h2 : κ ≤ 9 → ¬ (κ = 5 ∨ κ = 8 ∨ κ = 9) → ((f w).length : Int) + 3 ≤ 6 * S 4 w) : ((tx1 κ u w f).length : Int) + 3 ≤ 6 * z := by
  unfold tx1
  rcases c with ⟨a, -, -, -, e⟩ | ⟨a, b1, b2, -, e⟩ | ⟨a, b, -, -, -, -, e⟩
  · rw [if_pos a]
    simp only [List.length_cons, List.length_nil]
    omega
  · rw [if_neg (by omega), if_pos a]
    have := dgt_r ⟨b1, b2⟩
    omega
  · rw [if_neg (by omega), if_neg (by omega)]
    have q1 := h1 b
    rcases e with ⟨e1, -, e2⟩ | ⟨e1, e2⟩
    · rw [if_pos e1]
      have := wrU_r κ
      simp only [List.length_append, List.length_cons, List.length_nil]
      omega
    · rw [if_neg e1]
      have q2 := h2 b e1
      have q3 : (if κ = 3 then [109, 105, 110] else if κ = 4 then [109, 97, 120] else ([] : List Int)).length ≤ 3 := by
        split
        · simp
        · split <;> simp
      simp only [List.length_append, List.length_cons, List.length_nil]
      omega
theorem txE_r {n0 : Int} {wt : Int → Int} {S : xH} (hF : FW n0 wt 9 S) : ∀ (n : Nat) (k : Int), 0 ≤ k → k < S 0 0 → S 4 k ≤ (n : Int) → ((txE S n k).length : Int) + 3 ≤ 6 * S 4 k
  | 0, k, k0, k1, kn => by have := (hF k k0 k1).2.1; omega
  | n + 1, k, k0, k1, kn => by
    obtain ⟨c, c1, -⟩ := hF k k0 k1
    refine tx1_r c (fun z => ?_) (fun z y => ?_)
    · rcases c with ⟨a, -⟩ | ⟨a, -⟩ | ⟨a, b, u0, u1, w0, w1, e⟩
      · omega
      · omega
      · have w9 := (hF (S 3 k) w0 (by omega)).2.1
        exact txE_r hF n _ u0 (by omega) (by omega)
    · rcases c with ⟨a, -⟩ | ⟨a, -⟩ | ⟨a, b, u0, u1, w0, w1, e⟩
      · omega
      · omega
      · have w9 := (hF (S 2 k) u0 (by omega)).2.1
        exact txE_r hF n _ w0 (by omega) (by omega)
