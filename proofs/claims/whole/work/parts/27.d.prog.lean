set_option maxHeartbeats 1000000 in
theorem m_apart_1 (d b : Nat) (h S T : xH) (as le : Int → Int) (k i n0 : Int) (wt : Int → Int) (hk : xr k) (hi : xr i) (hm : h 66 1 = 1) (hR : RR h S) (hRT : RRT h T) (hF : FW n0 wt 9 S) (hT : FWT S 7 T) (h3 : 0 ≤ S 0 0 ∧ S 0 0 ≤ 300) (h4 : 0 ≤ T 0 0 ∧ T 0 0 ≤ 150) (hs : h 66 50 = 0 ∨ h 66 50 = 1) (tn : h 66 50 = 1 → TN h as le) (hr : h 66 50 = 1 → ∀ nd, 0 ≤ nd → nd < 15 → -1 ≤ as nd ∧ as nd < T 0 0 ∧ -1 ≤ le nd ∧ le nd < S 0 0) (tr : h 66 50 = 1 → TRp as le S T 3 0)(hM0 : 0 ≤ h 66 8 ∧ h 66 8 ≤ 300) {Q : xO → xH → Prop} (hN : ¬ (h 66 50 = 1) → Q (.inl (some (.inl (0)))) (xup h 66 0 1)) (hA : (h 66 50 = 1) → ¬ ((0 ≤ k ∧ k < h 66 8) ∧ (0 ≤ i ∧ i ≤ 2)) → Q (.inl (some (.inl (0)))) (xup h 66 0 2)) (hF9 : (h 66 50 = 1) → ((0 ≤ k ∧ k < h 66 8) ∧ (0 ≤ i ∧ i ≤ 2)) → ∀ p, 0 ≤ p → p < ptN 1 → (daE as le S T 1 k) p → (∀ q, 0 ≤ q → q < p → ¬ (daE as le S T 1 k) q) → ∀ h', (∀ a, a ≠ 94 → a ≠ 95 → h' a = ((xup h 66 0 0)) a) → Q (.inl (some (.inl (ptX 1 p i)))) h') (hG : (h 66 50 = 1) → ((0 ≤ k ∧ k < h 66 8) ∧ (0 ≤ i ∧ i ≤ 2)) → (∀ q, 0 ≤ q → q < ptN 1 → ¬ (daE as le S T 1 k) q) → ∀ h', (∀ a, a ≠ 94 → a ≠ 95 → h' a = ((xup h 66 0 0)) a) → Q (.inl (some (.inl (-100)))) h') : xRn G0 MT (d + 6) b 245 [.inr (.inr 66), .inl k, .inl i] h Q := by
  refine R_of (M := mX12_apart) rfl (Nat.le_of_ble_eq_true rfl) ?_
  show xEx G0 cdX12_apart (some .int) (xRn G0 MT (d + 5)) Q b 0 [some (.inr (.inr 66)), some (.inl k), some (.inl i), none, none, none, none, none] [] h
  refine E_s 3 (i' := 3) (ls' := [some (.inr (.inr 66)), some (.inl k), some (.inl i), none, none, none, none, none]) (sk' := [.inl (h 66 50), .inr (.inr 66)]) (h' := h) rfl ?_
  refine E_b (x := (.ifCond .ne 7, 6, [], [])) rfl rfl (fun c3 => ?_) (fun c3 => ?_)
  · rw [c_ne (by first | assumption | (refine ⟨?_, ?_⟩ <;> omega) | (simp only [xr] at *; omega)) (by first | assumption | (refine ⟨?_, ?_⟩ <;> omega) | (simp only [xr] at *; omega))] at c3
    simp only [decide_eq_true_eq, decide_eq_false_iff_not, Decidable.not_not] at c3
    show xEx G0 cdX12_apart (some .int) (xRn G0 MT (d + 5)) Q b 6 [some (.inr (.inr 66)), some (.inl k), some (.inl i), none, none, none, none, none] [.inr (.inr 66)] h
    refine E_s 3 (i' := 9) (ls' := [some (.inr (.inr 66)), some (.inl k), some (.inl i), none, none, none, none, none]) (sk' := [.inl k, .inl 0, .inr (.inr 66), .inr (.inr 66)]) (h' := h) rfl ?_
    refine E_cp (x := (.invokevirtual 295, 2, [(10, 193)], [0])) (q := fun r1 h9 => ((r1 = 1 ∧ (0 ≤ k ∧ k < h 66 8)) ∨ (r1 = 0 ∧ ¬ (0 ≤ k ∧ k < h 66 8))) ∧ h = h9) rfl rfl (Nat.le_of_ble_eq_true rfl) (m_isKept0 (d + 3) 0 h k hk hM0 (fun z => ⟨_, rfl, Or.inl ⟨rfl, z⟩, rfl⟩) (fun z => ⟨_, rfl, Or.inr ⟨rfl, z⟩, rfl⟩)) (fun r1 h9 q1 => ?_)
    obtain ⟨q1, rfl⟩ := q1
    show xEx G0 cdX12_apart (some .int) (xRn G0 MT (d + 5)) Q b 10 [some (.inr (.inr 66)), some (.inl k), some (.inl i), none, none, none, none, none] [.inl r1, .inr (.inr 66)] h
    refine E_b (x := (.ifCond .eq 12, 16, [], [])) rfl rfl (fun c10 => ?_) (fun c10 => ?_)
    · rw [c_eq (by first | assumption | (refine ⟨?_, ?_⟩ <;> omega) | (simp only [xr] at *; omega)) (by first | assumption | (refine ⟨?_, ?_⟩ <;> omega) | (simp only [xr] at *; omega))] at c10
      simp only [decide_eq_true_eq, decide_eq_false_iff_not, Decidable.not_not] at c10
      show xEx G0 cdX12_apart (some .int) (xRn G0 MT (d + 5)) Q b 16 [some (.inr (.inr 66)), some (.inl k), some (.inl i), none, none, none, none, none] [.inr (.inr 66)] h
      refine E_s 5 (i' := 22) (ls' := [some (.inr (.inr 66)), some (.inl k), some (.inl i), none, none, none, none, none]) (sk' := [.inl 2]) (h' := (xup h 66 0 2)) rfl ?_
      refine E_b (x := (.ifCond .le 5, 25, [], [])) rfl rfl (fun c22 => ?_) (fun c22 => ?_)
      · show xEx G0 cdX12_apart (some .int) (xRn G0 MT (d + 5)) Q b 25 [some (.inr (.inr 66)), some (.inl k), some (.inl i), none, none, none, none, none] [] (xup h 66 0 2)
        exact absurd c22 (by decide)
      · show xEx G0 cdX12_apart (some .int) (xRn G0 MT (d + 5)) Q b 23 [some (.inr (.inr 66)), some (.inl k), some (.inl i), none, none, none, none, none] [] (xup h 66 0 2)
        refine E_s 1 (i' := 24) (ls' := [some (.inr (.inr 66)), some (.inl k), some (.inl i), none, none, none, none, none]) (sk' := [.inl 0]) (h' := (xup h 66 0 2)) rfl ?_
        exact E_ret (x := (.ireturn, 0, [], [])) (v := some (.inl 0)) rfl (Or.inl rfl) (hA (by omega) (fun y => by
          first
          | exact (o0 q1 c10) y.1
          | exact (o0 q2 c15) y.2))
    · rw [c_eq (by first | assumption | (refine ⟨?_, ?_⟩ <;> omega) | (simp only [xr] at *; omega)) (by first | assumption | (refine ⟨?_, ?_⟩ <;> omega) | (simp only [xr] at *; omega))] at c10
      simp only [decide_eq_true_eq, decide_eq_false_iff_not, Decidable.not_not] at c10
      show xEx G0 cdX12_apart (some .int) (xRn G0 MT (d + 5)) Q b 11 [some (.inr (.inr 66)), some (.inl k), some (.inl i), none, none, none, none, none] [.inr (.inr 66)] h
      refine E_s 3 (i' := 14) (ls' := [some (.inr (.inr 66)), some (.inl k), some (.inl i), none, none, none, none, none]) (sk' := [.inl 2, .inl 0, .inl i, .inr (.inr 66)]) (h' := h) rfl ?_
      refine E_cp (x := (.invokestatic 180, 3, [(0, 155)], [])) (q := fun r2 h9 => ((r2 = 1 ∧ (0 ≤ i ∧ i ≤ 2)) ∨ (r2 = 0 ∧ ¬ (0 ≤ i ∧ i ≤ 2))) ∧ h = h9) rfl rfl (Nat.le_of_ble_eq_true rfl) (m_isIn (d + 4) 0 (h) i 0 2 hi ⟨by omega, by omega⟩ ⟨by omega, by omega⟩ (fun z => ⟨_, rfl, Or.inl ⟨rfl, z⟩, rfl⟩) (fun z => ⟨_, rfl, Or.inr ⟨rfl, z⟩, rfl⟩)) (fun r2 h9 q2 => ?_)
      obtain ⟨q2, rfl⟩ := q2
      show xEx G0 cdX12_apart (some .int) (xRn G0 MT (d + 5)) Q b 15 [some (.inr (.inr 66)), some (.inl k), some (.inl i), none, none, none, none, none] [.inl r2, .inr (.inr 66)] h
      refine E_b (x := (.ifCond .ne 7, 18, [], [])) rfl rfl (fun c15 => ?_) (fun c15 => ?_)
      · rw [c_ne (by first | assumption | (refine ⟨?_, ?_⟩ <;> omega) | (simp only [xr] at *; omega)) (by first | assumption | (refine ⟨?_, ?_⟩ <;> omega) | (simp only [xr] at *; omega))] at c15
        simp only [decide_eq_true_eq, decide_eq_false_iff_not, Decidable.not_not] at c15
        show xEx G0 cdX12_apart (some .int) (xRn G0 MT (d + 5)) Q b 18 [some (.inr (.inr 66)), some (.inl k), some (.inl i), none, none, none, none, none] [.inr (.inr 66)] h
        refine E_s 4 (i' := 22) (ls' := [some (.inr (.inr 66)), some (.inl k), some (.inl i), none, none, none, none, none]) (sk' := [.inl 0]) (h' := (xup h 66 0 0)) rfl ?_
        refine E_b (x := (.ifCond .le 5, 25, [], [])) rfl rfl (fun c22 => ?_) (fun c22 => ?_)
        · show xEx G0 cdX12_apart (some .int) (xRn G0 MT (d + 5)) Q b 25 [some (.inr (.inr 66)), some (.inl k), some (.inl i), none, none, none, none, none] [] (xup h 66 0 0)
          have qs : h 66 50 = 1 := by omega
          have qk : 0 ≤ k ∧ k < h 66 8 := o1 q1 c10
          have qi : 0 ≤ i ∧ i ≤ 2 := o1 q2 c15
          have qk2 : 0 ≤ k ∧ k < S 0 0 := by rw [← hR.1]; exact qk
          refine E_s 3 (i' := 28) (ls' := [some (.inr (.inr 66)), some (.inl k), some (.inl i), none, none, none, none, none]) (sk' := [.inl 1, .inl (h 66 1)]) (h' := (xup h 66 0 0)) rfl ?_
          refine E_b (x := (.if_icmp .le 8, 31, [], [])) rfl rfl (fun c28 => ?_) (fun c28 => ?_)
          · rw [c_le (by first | assumption | (refine ⟨?_, ?_⟩ <;> omega) | (simp only [xr] at *; omega)) (by first | assumption | (refine ⟨?_, ?_⟩ <;> omega) | (simp only [xr] at *; omega))] at c28
            simp only [decide_eq_true_eq, decide_eq_false_iff_not, Decidable.not_not] at c28
            show xEx G0 cdX12_apart (some .int) (xRn G0 MT (d + 5)) Q b 31 [some (.inr (.inr 66)), some (.inl k), some (.inl i), none, none, none, none, none] [] (xup h 66 0 0)
            refine E_s 5 (i' := 36) (ls' := [some (.inr (.inr 66)), some (.inl k), some (.inl i), some (.inl 0), none, none, none, none]) (sk' := [.inl 2, .inl (h 66 1)]) (h' := (xup h 66 0 0)) rfl ?_
            refine E_b (x := (.if_icmp .le 8, 39, [], [])) rfl rfl (fun c36 => ?_) (fun c36 => ?_)
            · rw [c_le (by first | assumption | (refine ⟨?_, ?_⟩ <;> omega) | (simp only [xr] at *; omega)) (by first | assumption | (refine ⟨?_, ?_⟩ <;> omega) | (simp only [xr] at *; omega))] at c36
              simp only [decide_eq_true_eq, decide_eq_false_iff_not, Decidable.not_not] at c36
              show xEx G0 cdX12_apart (some .int) (xRn G0 MT (d + 5)) Q b 39 [some (.inr (.inr 66)), some (.inl k), some (.inl i), some (.inl 0), none, none, none, none] [] (xup h 66 0 0)
              refine E_s 4 (i' := 43) (ls' := [some (.inr (.inr 66)), some (.inl k), some (.inl i), some (.inl 0), some (.inl 0), some (.inl (-9)), none, none]) (sk' := []) (h' := (xup h 66 0 0)) rfl ?_
              have key43 : ∀ (n : Nat) (hx : xH) (x : Int) (v8 v9 : Option xV), (-9 ≤ x) → (x ≤ 10) → (∀ a, a ≠ 94 → a ≠ 95 → hx a = xup h 66 0 0 a) → (∀ q0, 0 ≤ q0 → q0 < (x + 9) + 0 + 0 → ¬ (daE as le S T 1 k) q0) → ((10 - x).toNat) < n → xEx G0 cdX12_apart (some .int) (xRn G0 MT (d + 5)) Q b 43 [some (.inr (.inr 66)), some (.inl k), some (.inl i), some (.inl 0), some (.inl 0), some (.inl x), v8, v9] [] hx := by
                intro n
                induction n with
                | zero => intro hx x v8 v9 _ _ _ _ hm; exact absurd hm (Nat.not_lt_zero _)
                | succ n ih43 =>
                  intro hx x v8 v9 hx0 hx9 hfx hnx hm43
                  refine E_s 2 (i' := 45) (ls' := [some (.inr (.inr 66)), some (.inl k), some (.inl i), some (.inl 0), some (.inl 0), some (.inl x), v8, v9]) (sk' := [.inl 9, .inl x]) (h' := hx) rfl ?_
                  refine E_b (x := (.if_icmp .gt 88, 87, [], [])) rfl rfl (fun c45 => ?_) (fun c45 => ?_)
                  · rw [c_gt (by first | assumption | (refine ⟨?_, ?_⟩ <;> omega) | (simp only [xr] at *; omega)) (by first | assumption | (refine ⟨?_, ?_⟩ <;> omega) | (simp only [xr] at *; omega))] at c45
                    simp only [decide_eq_true_eq, decide_eq_false_iff_not, Decidable.not_not] at c45
                    show xEx G0 cdX12_apart (some .int) (xRn G0 MT (d + 5)) Q b 87 [some (.inr (.inr 66)), some (.inl k), some (.inl i), some (.inl 0), some (.inl 0), some (.inl x), v8, v9] [] hx
                    refine E_s 1 (i' := 88) (ls' := [some (.inr (.inr 66)), some (.inl k), some (.inl i), some (.inl 0), some (.inl 0), some (.inl x), v8, v9]) (sk' := [.inl (-100)]) (h' := hx) rfl ?_
                    exact E_ret (x := (.ireturn, 0, [], [])) (v := some (.inl (-100))) rfl (Or.inl rfl) (hG qs ⟨qk, qi⟩ (fun q z1 z2 => hnx q z1 (by simp [ptN] at z2; omega)) _ hfx)
                  · rw [c_gt (by first | assumption | (refine ⟨?_, ?_⟩ <;> omega) | (simp only [xr] at *; omega)) (by first | assumption | (refine ⟨?_, ?_⟩ <;> omega) | (simp only [xr] at *; omega))] at c45
                    simp only [decide_eq_true_eq, decide_eq_false_iff_not, Decidable.not_not] at c45
                    show xEx G0 cdX12_apart (some .int) (xRn G0 MT (d + 5)) Q b 46 [some (.inr (.inr 66)), some (.inl k), some (.inl i), some (.inl 0), some (.inl 0), some (.inl x), v8, v9] [] hx
                    refine E_s 3 (i' := 49) (ls' := [some (.inr (.inr 66)), some (.inl k), some (.inl i), some (.inl 0), some (.inl 0), some (.inl x), some (.inl (-0)), v9]) (sk' := []) (h' := hx) rfl ?_
                    have key49 : ∀ (n : Nat) (hy : xH) (y : Int) (w9 : Option xV), (-0 ≤ y) → (y ≤ 1) → (∀ a, a ≠ 94 → a ≠ 95 → hy a = xup h 66 0 0 a) → (∀ q0, 0 ≤ q0 → q0 < (x + 9) + y + 0 → ¬ (daE as le S T 1 k) q0) → ((1 - y).toNat) < n → xEx G0 cdX12_apart (some .int) (xRn G0 MT (d + 5)) Q b 49 [some (.inr (.inr 66)), some (.inl k), some (.inl i), some (.inl 0), some (.inl 0), some (.inl x), some (.inl y), w9] [] hy := by
                      intro n
                      induction n with
                      | zero => intro hy y w9 _ _ _ _ hm; exact absurd hm (Nat.not_lt_zero _)
                      | succ n ih49 =>
                        intro hy y w9 hy0 hy9 hfy hny hm49
                        refine E_s 2 (i' := 51) (ls' := [some (.inr (.inr 66)), some (.inl k), some (.inl i), some (.inl 0), some (.inl 0), some (.inl x), some (.inl y), w9]) (sk' := [.inl 0, .inl y]) (h' := hy) rfl ?_
                        refine E_b (x := (.if_icmp .gt 72, 85, [], [])) rfl rfl (fun c51 => ?_) (fun c51 => ?_)
                        · rw [c_gt (by first | assumption | (refine ⟨?_, ?_⟩ <;> omega) | (simp only [xr] at *; omega)) (by first | assumption | (refine ⟨?_, ?_⟩ <;> omega) | (simp only [xr] at *; omega))] at c51
                          simp only [decide_eq_true_eq, decide_eq_false_iff_not, Decidable.not_not] at c51
                          show xEx G0 cdX12_apart (some .int) (xRn G0 MT (d + 5)) Q b 85 [some (.inr (.inr 66)), some (.inl k), some (.inl i), some (.inl 0), some (.inl 0), some (.inl x), some (.inl y), w9] [] hy
                          refine E_s 2 (i' := 43) (ls' := [some (.inr (.inr 66)), some (.inl k), some (.inl i), some (.inl 0), some (.inl 0), some (.inl (x + 1)), some (.inl y), w9]) (sk' := []) (h' := hy) rfl ?_
                          exact ih43 _ (x + 1) _ _ (by omega) (by omega) hfy (fun q0 z1 z2 => hny q0 z1 (by omega)) (by omega)
                        · rw [c_gt (by first | assumption | (refine ⟨?_, ?_⟩ <;> omega) | (simp only [xr] at *; omega)) (by first | assumption | (refine ⟨?_, ?_⟩ <;> omega) | (simp only [xr] at *; omega))] at c51
                          simp only [decide_eq_true_eq, decide_eq_false_iff_not, Decidable.not_not] at c51
                          show xEx G0 cdX12_apart (some .int) (xRn G0 MT (d + 5)) Q b 52 [some (.inr (.inr 66)), some (.inl k), some (.inl i), some (.inl 0), some (.inl 0), some (.inl x), some (.inl y), w9] [] hy
                          refine E_s 3 (i' := 55) (ls' := [some (.inr (.inr 66)), some (.inl k), some (.inl i), some (.inl 0), some (.inl 0), some (.inl x), some (.inl y), some (.inl (-0))]) (sk' := []) (h' := hy) rfl ?_
                          have key55 : ∀ (n : Nat) (hz : xH) (z : Int), (-0 ≤ z) → (z ≤ 1) → (∀ a, a ≠ 94 → a ≠ 95 → hz a = xup h 66 0 0 a) → (∀ q0, 0 ≤ q0 → q0 < (x + 9) + y + z → ¬ (daE as le S T 1 k) q0) → ((1 - z).toNat) < n → xEx G0 cdX12_apart (some .int) (xRn G0 MT (d + 5)) Q b 55 [some (.inr (.inr 66)), some (.inl k), some (.inl i), some (.inl 0), some (.inl 0), some (.inl x), some (.inl y), some (.inl z)] [] hz := by
                            intro n
                            induction n with
                            | zero => intro hz z _ _ _ _ hm; exact absurd hm (Nat.not_lt_zero _)
                            | succ n ih55 =>
                              intro hz z hz0 hz9 hfz hnz hm55
                              refine E_s 2 (i' := 57) (ls' := [some (.inr (.inr 66)), some (.inl k), some (.inl i), some (.inl 0), some (.inl 0), some (.inl x), some (.inl y), some (.inl z)]) (sk' := [.inl 0, .inl z]) (h' := hz) rfl ?_
                              refine E_b (x := (.if_icmp .gt 54, 83, [], [])) rfl rfl (fun c57 => ?_) (fun c57 => ?_)
                              · rw [c_gt (by first | assumption | (refine ⟨?_, ?_⟩ <;> omega) | (simp only [xr] at *; omega)) (by first | assumption | (refine ⟨?_, ?_⟩ <;> omega) | (simp only [xr] at *; omega))] at c57
                                simp only [decide_eq_true_eq, decide_eq_false_iff_not, Decidable.not_not] at c57
                                show xEx G0 cdX12_apart (some .int) (xRn G0 MT (d + 5)) Q b 83 [some (.inr (.inr 66)), some (.inl k), some (.inl i), some (.inl 0), some (.inl 0), some (.inl x), some (.inl y), some (.inl z)] [] hz
                                refine E_s 2 (i' := 49) (ls' := [some (.inr (.inr 66)), some (.inl k), some (.inl i), some (.inl 0), some (.inl 0), some (.inl x), some (.inl (y + 1)), some (.inl z)]) (sk' := []) (h' := hz) rfl ?_
                                exact ih49 _ (y + 1) _ (by omega) (by omega) hfz (fun q0 z1 z2 => hnz q0 z1 (by omega)) (by omega)
                              · rw [c_gt (by first | assumption | (refine ⟨?_, ?_⟩ <;> omega) | (simp only [xr] at *; omega)) (by first | assumption | (refine ⟨?_, ?_⟩ <;> omega) | (simp only [xr] at *; omega))] at c57
                                simp only [decide_eq_true_eq, decide_eq_false_iff_not, Decidable.not_not] at c57
                                show xEx G0 cdX12_apart (some .int) (xRn G0 MT (d + 5)) Q b 58 [some (.inr (.inr 66)), some (.inl k), some (.inl i), some (.inl 0), some (.inl 0), some (.inl x), some (.inl y), some (.inl z)] [] hz
                                refine E_s 4 (i' := 62) (ls' := [some (.inr (.inr 66)), some (.inl k), some (.inl i), some (.inl 0), some (.inl 0), some (.inl x), some (.inl y), some (.inl z)]) (sk' := [.inl z, .inl y, .inl x, .inr (.inr 66)]) (h' := hz) rfl ?_
                                refine E_cv (x := (.invokevirtual 309, 3, [(10, 198)], [0])) (q := fun h9 => (∀ a, a ≠ 94 → a ≠ 95 → h9 a = hz a) ∧ (∀ k, 0 ≤ k → k < S 0 0 → h9 94 k = VE S (pX x y z) k) ∧ (∀ t, 0 ≤ t → t < T 0 0 → h9 95 t = VU S T (pX x y z) t)) rfl rfl (Nat.le_of_ble_eq_true rfl) (m_reckons (d + 1) 0 hz S T x y z n0 wt ⟨by omega, by omega⟩ ⟨by omega, by omega⟩ ⟨by omega, by omega⟩ (RR_vh hfz (RR_vh0 hR)) (RRT_vh hfz (RRT_vh0 hRT)) hF hT h3 h4 (fun h9 z1 z2 z3 => ⟨rfl, z1, z2, z3⟩)) (fun h1 hq => ?_)
                                obtain ⟨f1, f2, f3⟩ := hq
                                have xx : xr x := ⟨by omega, by omega⟩
                                have xy : xr y := ⟨by omega, by omega⟩
                                have xz : xr z := ⟨by omega, by omega⟩
                                have tn1 : TN h1 as le := TN_of ((f1 _ (by decide) (by decide)).trans (hfz _ (by decide) (by decide))) ((f1 _ (by decide) (by decide)).trans (hfz _ (by decide) (by decide))) (tn qs)
                                have l9 := wlk_l (f := VU S T (pX x y z)) 3 0 (tr qs)
                                have ub : xr (VE S (pX x y z) (le (wlk as (VU S T (pX x y z)) 3 0))) := VE_r hF (pX_r xx xy xz) 300 _ l9.2.1 l9.2.2
                                have g1 := f2 k qk2.1 qk2.2
                                have ua : xr (h1 94 k) := by rw [g1]; exact VE_r hF (pX_r xx xy xz) 300 _ qk2.1 qk2.2
                                show xEx G0 cdX12_apart (some .int) (xRn G0 MT (d + 5)) Q b 63 [some (.inr (.inr 66)), some (.inl k), some (.inl i), some (.inl 0), some (.inl 0), some (.inl x), some (.inl y), some (.inl z)] [] h1
                                refine E_s 1 (i' := 64) (ls' := [some (.inr (.inr 66)), some (.inl k), some (.inl i), some (.inl 0), some (.inl 0), some (.inl x), some (.inl y), some (.inl z)]) (sk' := [.inr (.inr 66)]) (h' := h1) rfl ?_
                                refine E_ci (x := (.invokevirtual 418, 0, [(10, 241)], [0])) (r := (VE S (pX x y z) (le (wlk as (VU S T (pX x y z)) 3 0)))) (h' := h1) rfl rfl (Nat.le_of_ble_eq_true rfl) (m_comesNow (d + 4) 0 h1 S T as le (pX x y z) h3 h4 f2 f3 tn1 (hr qs) (tr qs) ⟨rfl, rfl⟩) ?_
                                show xEx G0 cdX12_apart (some .int) (xRn G0 MT (d + 5)) Q b 65 [some (.inr (.inr 66)), some (.inl k), some (.inl i), some (.inl 0), some (.inl 0), some (.inl x), some (.inl y), some (.inl z)] [.inl (VE S (pX x y z) (le (wlk as (VU S T (pX x y z)) 3 0)))] h1
                                refine E_s 3 (i' := 68) (ls' := [some (.inr (.inr 66)), some (.inl k), some (.inl i), some (.inl 0), some (.inl 0), some (.inl x), some (.inl y), some (.inl z)]) (sk' := [.inl k, .inr (.inr 94), .inl (VE S (pX x y z) (le (wlk as (VU S T (pX x y z)) 3 0)))]) (h' := h1) rfl ?_
                                refine E_ld (x := (.iaload, 0, [], [])) (ty := .int) (n := 300) rfl rfl rfl (by omega) (by omega) ?_
                                show xEx G0 cdX12_apart (some .int) (xRn G0 MT (d + 5)) Q b 69 [some (.inr (.inr 66)), some (.inl k), some (.inl i), some (.inl 0), some (.inl 0), some (.inl x), some (.inl y), some (.inl z)] [.inl (h1 94 k), .inl (VE S (pX x y z) (le (wlk as (VU S T (pX x y z)) 3 0)))] h1
                                refine E_b (x := (.if_icmp .eq 25, 81, [], [])) rfl rfl (fun c69 => ?_) (fun c69 => ?_)
                                · rw [c_eq (by first | exact ua | exact ub) (by first | exact ua | exact ub)] at c69
                                  simp only [decide_eq_true_eq, decide_eq_false_iff_not, Decidable.not_not] at c69
                                  show xEx G0 cdX12_apart (some .int) (xRn G0 MT (d + 5)) Q b 81 [some (.inr (.inr 66)), some (.inl k), some (.inl i), some (.inl 0), some (.inl 0), some (.inl x), some (.inl y), some (.inl z)] [] h1
                                  have dd : ¬ (daE as le S T 1 k) ((x + 9) + y + z) := by
                                    intro z9
                                    apply z9
                                    rw [pt_1 (by omega) (by omega) (by omega)]
                                    exact c69.trans g1
                                  refine E_s 2 (i' := 55) (ls' := [some (.inr (.inr 66)), some (.inl k), some (.inl i), some (.inl 0), some (.inl 0), some (.inl x), some (.inl y), some (.inl (z + 1))]) (sk' := []) (h' := h1) rfl ?_
                                  exact ih55 _ (z + 1) (by omega) (by omega) (fun a z1 z2 => (f1 a z1 z2).trans (hfz a z1 z2)) (fun q0 z1 z2 => by
                                    by_cases z9 : q0 = (x + 9) + y + z
                                    · rw [z9]; exact dd
                                    · exact hnz q0 z1 (by omega)) (by omega)
                                · rw [c_eq (by first | exact ua | exact ub) (by first | exact ua | exact ub)] at c69
                                  simp only [decide_eq_true_eq, decide_eq_false_iff_not, Decidable.not_not] at c69
                                  show xEx G0 cdX12_apart (some .int) (xRn G0 MT (d + 5)) Q b 70 [some (.inr (.inr 66)), some (.inl k), some (.inl i), some (.inl 0), some (.inl 0), some (.inl x), some (.inl y), some (.inl z)] [] h1
                                  have ddp : (daE as le S T 1 k) ((x + 9) + y + z) := by
                                    show ¬ _ = _
                                    rw [pt_1 (by omega) (by omega) (by omega)]
                                    intro z9
                                    exact c69 (z9.trans g1.symm)
                                  refine E_s 1 (i' := 71) (ls' := [some (.inr (.inr 66)), some (.inl k), some (.inl i), some (.inl 0), some (.inl 0), some (.inl x), some (.inl y), some (.inl z)]) (sk' := [.inl i]) (h' := h1) rfl ?_
                                  refine E_b (x := (.ifCond .ne 8, 74, [], [])) rfl rfl (fun c71 => ?_) (fun c71 => ?_)
                                  · rw [c_ne (by first | assumption | (refine ⟨?_, ?_⟩ <;> omega) | (simp only [xr] at *; omega)) (by first | assumption | (refine ⟨?_, ?_⟩ <;> omega) | (simp only [xr] at *; omega))] at c71
                                    simp only [decide_eq_true_eq, decide_eq_false_iff_not, Decidable.not_not] at c71
                                    show xEx G0 cdX12_apart (some .int) (xRn G0 MT (d + 5)) Q b 74 [some (.inr (.inr 66)), some (.inl k), some (.inl i), some (.inl 0), some (.inl 0), some (.inl x), some (.inl y), some (.inl z)] [] h1
                                    refine E_s 2 (i' := 76) (ls' := [some (.inr (.inr 66)), some (.inl k), some (.inl i), some (.inl 0), some (.inl 0), some (.inl x), some (.inl y), some (.inl z)]) (sk' := [.inl 1, .inl i]) (h' := h1) rfl ?_
                                    refine E_b (x := (.if_icmp .ne 8, 79, [], [])) rfl rfl (fun c76 => ?_) (fun c76 => ?_)
                                    · rw [c_ne (by first | assumption | (refine ⟨?_, ?_⟩ <;> omega) | (simp only [xr] at *; omega)) (by first | assumption | (refine ⟨?_, ?_⟩ <;> omega) | (simp only [xr] at *; omega))] at c76
                                      simp only [decide_eq_true_eq, decide_eq_false_iff_not, Decidable.not_not] at c76
                                      show xEx G0 cdX12_apart (some .int) (xRn G0 MT (d + 5)) Q b 79 [some (.inr (.inr 66)), some (.inl k), some (.inl i), some (.inl 0), some (.inl 0), some (.inl x), some (.inl y), some (.inl z)] [] h1
                                      refine E_s 1 (i' := 80) (ls' := [some (.inr (.inr 66)), some (.inl k), some (.inl i), some (.inl 0), some (.inl 0), some (.inl x), some (.inl y), some (.inl z)]) (sk' := [.inl z]) (h' := h1) rfl ?_
                                      exact E_ret (x := (.ireturn, 0, [], [])) (v := some (.inl z)) rfl (Or.inl rfl) (by
                                        have r9 := hF9 qs ⟨qk, qi⟩ ((x + 9) + y + z) (by omega) (by simp [ptN]; omega) ddp hnz _ (fun a z1 z2 => (f1 a z1 z2).trans (hfz a z1 z2))
                                        rw [pt_1 (by omega) (by omega) (by omega)] at r9
                                        have e9 : pX x y z i = z := by unfold pX; rw [if_neg (by omega), if_neg (by omega)]
                                        rw [e9] at r9
                                        exact r9)
                                    · rw [c_ne (by first | assumption | (refine ⟨?_, ?_⟩ <;> omega) | (simp only [xr] at *; omega)) (by first | assumption | (refine ⟨?_, ?_⟩ <;> omega) | (simp only [xr] at *; omega))] at c76
                                      simp only [decide_eq_true_eq, decide_eq_false_iff_not, Decidable.not_not] at c76
                                      show xEx G0 cdX12_apart (some .int) (xRn G0 MT (d + 5)) Q b 77 [some (.inr (.inr 66)), some (.inl k), some (.inl i), some (.inl 0), some (.inl 0), some (.inl x), some (.inl y), some (.inl z)] [] h1
                                      refine E_s 2 (i' := 80) (ls' := [some (.inr (.inr 66)), some (.inl k), some (.inl i), some (.inl 0), some (.inl 0), some (.inl x), some (.inl y), some (.inl z)]) (sk' := [.inl y]) (h' := h1) rfl ?_
                                      exact E_ret (x := (.ireturn, 0, [], [])) (v := some (.inl y)) rfl (Or.inl rfl) (by
                                        have r9 := hF9 qs ⟨qk, qi⟩ ((x + 9) + y + z) (by omega) (by simp [ptN]; omega) ddp hnz _ (fun a z1 z2 => (f1 a z1 z2).trans (hfz a z1 z2))
                                        rw [pt_1 (by omega) (by omega) (by omega)] at r9
                                        have e9 : pX x y z i = y := by unfold pX; rw [if_neg (by omega), if_pos (by omega)]
                                        rw [e9] at r9
                                        exact r9)
                                  · rw [c_ne (by first | assumption | (refine ⟨?_, ?_⟩ <;> omega) | (simp only [xr] at *; omega)) (by first | assumption | (refine ⟨?_, ?_⟩ <;> omega) | (simp only [xr] at *; omega))] at c71
                                    simp only [decide_eq_true_eq, decide_eq_false_iff_not, Decidable.not_not] at c71
                                    show xEx G0 cdX12_apart (some .int) (xRn G0 MT (d + 5)) Q b 72 [some (.inr (.inr 66)), some (.inl k), some (.inl i), some (.inl 0), some (.inl 0), some (.inl x), some (.inl y), some (.inl z)] [] h1
                                    refine E_s 2 (i' := 80) (ls' := [some (.inr (.inr 66)), some (.inl k), some (.inl i), some (.inl 0), some (.inl 0), some (.inl x), some (.inl y), some (.inl z)]) (sk' := [.inl x]) (h' := h1) rfl ?_
                                    exact E_ret (x := (.ireturn, 0, [], [])) (v := some (.inl x)) rfl (Or.inl rfl) (by
                                      have r9 := hF9 qs ⟨qk, qi⟩ ((x + 9) + y + z) (by omega) (by simp [ptN]; omega) ddp hnz _ (fun a z1 z2 => (f1 a z1 z2).trans (hfz a z1 z2))
                                      rw [pt_1 (by omega) (by omega) (by omega)] at r9
                                      have e9 : pX x y z i = x := by unfold pX; rw [if_pos (by omega)]
                                      rw [e9] at r9
                                      exact r9)
                          exact key55 _ _ (-0) (by omega) (by omega) hfy (fun q0 z1 z2 => hny q0 z1 (by omega)) (Nat.lt_succ_self _)
                    exact key49 _ _ (-0) _ (by omega) (by omega) hfx (fun q0 z1 z2 => hnx q0 z1 (by omega)) (Nat.lt_succ_self _)
              exact key43 _ _ (-9) none none (by omega) (by omega) (fun _ _ _ => rfl) (fun q0 z1 z2 => by omega) (Nat.lt_succ_self _)
            · rw [c_le (by first | assumption | (refine ⟨?_, ?_⟩ <;> omega) | (simp only [xr] at *; omega)) (by first | assumption | (refine ⟨?_, ?_⟩ <;> omega) | (simp only [xr] at *; omega))] at c36
              simp only [decide_eq_true_eq, decide_eq_false_iff_not, Decidable.not_not] at c36
              show xEx G0 cdX12_apart (some .int) (xRn G0 MT (d + 5)) Q b 37 [some (.inr (.inr 66)), some (.inl k), some (.inl i), some (.inl 0), none, none, none, none] [] (xup h 66 0 0)
              omega
          · rw [c_le (by first | assumption | (refine ⟨?_, ?_⟩ <;> omega) | (simp only [xr] at *; omega)) (by first | assumption | (refine ⟨?_, ?_⟩ <;> omega) | (simp only [xr] at *; omega))] at c28
            simp only [decide_eq_true_eq, decide_eq_false_iff_not, Decidable.not_not] at c28
            show xEx G0 cdX12_apart (some .int) (xRn G0 MT (d + 5)) Q b 29 [some (.inr (.inr 66)), some (.inl k), some (.inl i), none, none, none, none, none] [] (xup h 66 0 0)
            omega
        · show xEx G0 cdX12_apart (some .int) (xRn G0 MT (d + 5)) Q b 23 [some (.inr (.inr 66)), some (.inl k), some (.inl i), none, none, none, none, none] [] (xup h 66 0 0)
          exact absurd c22 (by decide)
      · rw [c_ne (by first | assumption | (refine ⟨?_, ?_⟩ <;> omega) | (simp only [xr] at *; omega)) (by first | assumption | (refine ⟨?_, ?_⟩ <;> omega) | (simp only [xr] at *; omega))] at c15
        simp only [decide_eq_true_eq, decide_eq_false_iff_not, Decidable.not_not] at c15
        show xEx G0 cdX12_apart (some .int) (xRn G0 MT (d + 5)) Q b 16 [some (.inr (.inr 66)), some (.inl k), some (.inl i), none, none, none, none, none] [.inr (.inr 66)] h
        refine E_s 5 (i' := 22) (ls' := [some (.inr (.inr 66)), some (.inl k), some (.inl i), none, none, none, none, none]) (sk' := [.inl 2]) (h' := (xup h 66 0 2)) rfl ?_
        refine E_b (x := (.ifCond .le 5, 25, [], [])) rfl rfl (fun c22 => ?_) (fun c22 => ?_)
        · show xEx G0 cdX12_apart (some .int) (xRn G0 MT (d + 5)) Q b 25 [some (.inr (.inr 66)), some (.inl k), some (.inl i), none, none, none, none, none] [] (xup h 66 0 2)
          exact absurd c22 (by decide)
        · show xEx G0 cdX12_apart (some .int) (xRn G0 MT (d + 5)) Q b 23 [some (.inr (.inr 66)), some (.inl k), some (.inl i), none, none, none, none, none] [] (xup h 66 0 2)
          refine E_s 1 (i' := 24) (ls' := [some (.inr (.inr 66)), some (.inl k), some (.inl i), none, none, none, none, none]) (sk' := [.inl 0]) (h' := (xup h 66 0 2)) rfl ?_
          exact E_ret (x := (.ireturn, 0, [], [])) (v := some (.inl 0)) rfl (Or.inl rfl) (hA (by omega) (fun y => by
            first
            | exact (o0 q1 c10) y.1
            | exact (o0 q2 c15) y.2))
  · rw [c_ne (by first | assumption | (refine ⟨?_, ?_⟩ <;> omega) | (simp only [xr] at *; omega)) (by first | assumption | (refine ⟨?_, ?_⟩ <;> omega) | (simp only [xr] at *; omega))] at c3
    simp only [decide_eq_true_eq, decide_eq_false_iff_not, Decidable.not_not] at c3
    show xEx G0 cdX12_apart (some .int) (xRn G0 MT (d + 5)) Q b 4 [some (.inr (.inr 66)), some (.inl k), some (.inl i), none, none, none, none, none] [.inr (.inr 66)] h
    refine E_s 5 (i' := 22) (ls' := [some (.inr (.inr 66)), some (.inl k), some (.inl i), none, none, none, none, none]) (sk' := [.inl 1]) (h' := (xup h 66 0 1)) rfl ?_
    refine E_b (x := (.ifCond .le 5, 25, [], [])) rfl rfl (fun c22 => ?_) (fun c22 => ?_)
    · show xEx G0 cdX12_apart (some .int) (xRn G0 MT (d + 5)) Q b 25 [some (.inr (.inr 66)), some (.inl k), some (.inl i), none, none, none, none, none] [] (xup h 66 0 1)
      exact absurd c22 (by decide)
    · show xEx G0 cdX12_apart (some .int) (xRn G0 MT (d + 5)) Q b 23 [some (.inr (.inr 66)), some (.inl k), some (.inl i), none, none, none, none, none] [] (xup h 66 0 1)
      refine E_s 1 (i' := 24) (ls' := [some (.inr (.inr 66)), some (.inl k), some (.inl i), none, none, none, none, none]) (sk' := [.inl 0]) (h' := (xup h 66 0 1)) rfl ?_
      exact E_ret (x := (.ireturn, 0, [], [])) (v := some (.inl 0)) rfl (Or.inl rfl) (hN (fun z9 => by omega))
set_option maxHeartbeats 1000000 in
theorem m_apart_2 (d b : Nat) (h S T : xH) (as le : Int → Int) (k i n0 : Int) (wt : Int → Int) (hk : xr k) (hi : xr i) (hm : h 66 1 = 2) (hR : RR h S) (hRT : RRT h T) (hF : FW n0 wt 9 S) (hT : FWT S 7 T) (h3 : 0 ≤ S 0 0 ∧ S 0 0 ≤ 300) (h4 : 0 ≤ T 0 0 ∧ T 0 0 ≤ 150) (hs : h 66 50 = 0 ∨ h 66 50 = 1) (tn : h 66 50 = 1 → TN h as le) (hr : h 66 50 = 1 → ∀ nd, 0 ≤ nd → nd < 15 → -1 ≤ as nd ∧ as nd < T 0 0 ∧ -1 ≤ le nd ∧ le nd < S 0 0) (tr : h 66 50 = 1 → TRp as le S T 3 0)(hM0 : 0 ≤ h 66 8 ∧ h 66 8 ≤ 300) {Q : xO → xH → Prop} (hN : ¬ (h 66 50 = 1) → Q (.inl (some (.inl (0)))) (xup h 66 0 1)) (hA : (h 66 50 = 1) → ¬ ((0 ≤ k ∧ k < h 66 8) ∧ (0 ≤ i ∧ i ≤ 2)) → Q (.inl (some (.inl (0)))) (xup h 66 0 2)) (hF9 : (h 66 50 = 1) → ((0 ≤ k ∧ k < h 66 8) ∧ (0 ≤ i ∧ i ≤ 2)) → ∀ p, 0 ≤ p → p < ptN 2 → (daE as le S T 2 k) p → (∀ q, 0 ≤ q → q < p → ¬ (daE as le S T 2 k) q) → ∀ h', (∀ a, a ≠ 94 → a ≠ 95 → h' a = ((xup h 66 0 0)) a) → Q (.inl (some (.inl (ptX 2 p i)))) h') (hG : (h 66 50 = 1) → ((0 ≤ k ∧ k < h 66 8) ∧ (0 ≤ i ∧ i ≤ 2)) → (∀ q, 0 ≤ q → q < ptN 2 → ¬ (daE as le S T 2 k) q) → ∀ h', (∀ a, a ≠ 94 → a ≠ 95 → h' a = ((xup h 66 0 0)) a) → Q (.inl (some (.inl (-100)))) h') : xRn G0 MT (d + 6) b 245 [.inr (.inr 66), .inl k, .inl i] h Q := by
  refine R_of (M := mX12_apart) rfl (Nat.le_of_ble_eq_true rfl) ?_
  show xEx G0 cdX12_apart (some .int) (xRn G0 MT (d + 5)) Q b 0 [some (.inr (.inr 66)), some (.inl k), some (.inl i), none, none, none, none, none] [] h
  refine E_s 3 (i' := 3) (ls' := [some (.inr (.inr 66)), some (.inl k), some (.inl i), none, none, none, none, none]) (sk' := [.inl (h 66 50), .inr (.inr 66)]) (h' := h) rfl ?_
  refine E_b (x := (.ifCond .ne 7, 6, [], [])) rfl rfl (fun c3 => ?_) (fun c3 => ?_)
  · rw [c_ne (by first | assumption | (refine ⟨?_, ?_⟩ <;> omega) | (simp only [xr] at *; omega)) (by first | assumption | (refine ⟨?_, ?_⟩ <;> omega) | (simp only [xr] at *; omega))] at c3
    simp only [decide_eq_true_eq, decide_eq_false_iff_not, Decidable.not_not] at c3
    show xEx G0 cdX12_apart (some .int) (xRn G0 MT (d + 5)) Q b 6 [some (.inr (.inr 66)), some (.inl k), some (.inl i), none, none, none, none, none] [.inr (.inr 66)] h
    refine E_s 3 (i' := 9) (ls' := [some (.inr (.inr 66)), some (.inl k), some (.inl i), none, none, none, none, none]) (sk' := [.inl k, .inl 0, .inr (.inr 66), .inr (.inr 66)]) (h' := h) rfl ?_
    refine E_cp (x := (.invokevirtual 295, 2, [(10, 193)], [0])) (q := fun r1 h9 => ((r1 = 1 ∧ (0 ≤ k ∧ k < h 66 8)) ∨ (r1 = 0 ∧ ¬ (0 ≤ k ∧ k < h 66 8))) ∧ h = h9) rfl rfl (Nat.le_of_ble_eq_true rfl) (m_isKept0 (d + 3) 0 h k hk hM0 (fun z => ⟨_, rfl, Or.inl ⟨rfl, z⟩, rfl⟩) (fun z => ⟨_, rfl, Or.inr ⟨rfl, z⟩, rfl⟩)) (fun r1 h9 q1 => ?_)
    obtain ⟨q1, rfl⟩ := q1
    show xEx G0 cdX12_apart (some .int) (xRn G0 MT (d + 5)) Q b 10 [some (.inr (.inr 66)), some (.inl k), some (.inl i), none, none, none, none, none] [.inl r1, .inr (.inr 66)] h
    refine E_b (x := (.ifCond .eq 12, 16, [], [])) rfl rfl (fun c10 => ?_) (fun c10 => ?_)
    · rw [c_eq (by first | assumption | (refine ⟨?_, ?_⟩ <;> omega) | (simp only [xr] at *; omega)) (by first | assumption | (refine ⟨?_, ?_⟩ <;> omega) | (simp only [xr] at *; omega))] at c10
      simp only [decide_eq_true_eq, decide_eq_false_iff_not, Decidable.not_not] at c10
      show xEx G0 cdX12_apart (some .int) (xRn G0 MT (d + 5)) Q b 16 [some (.inr (.inr 66)), some (.inl k), some (.inl i), none, none, none, none, none] [.inr (.inr 66)] h
      refine E_s 5 (i' := 22) (ls' := [some (.inr (.inr 66)), some (.inl k), some (.inl i), none, none, none, none, none]) (sk' := [.inl 2]) (h' := (xup h 66 0 2)) rfl ?_
      refine E_b (x := (.ifCond .le 5, 25, [], [])) rfl rfl (fun c22 => ?_) (fun c22 => ?_)
      · show xEx G0 cdX12_apart (some .int) (xRn G0 MT (d + 5)) Q b 25 [some (.inr (.inr 66)), some (.inl k), some (.inl i), none, none, none, none, none] [] (xup h 66 0 2)
        exact absurd c22 (by decide)
      · show xEx G0 cdX12_apart (some .int) (xRn G0 MT (d + 5)) Q b 23 [some (.inr (.inr 66)), some (.inl k), some (.inl i), none, none, none, none, none] [] (xup h 66 0 2)
        refine E_s 1 (i' := 24) (ls' := [some (.inr (.inr 66)), some (.inl k), some (.inl i), none, none, none, none, none]) (sk' := [.inl 0]) (h' := (xup h 66 0 2)) rfl ?_
        exact E_ret (x := (.ireturn, 0, [], [])) (v := some (.inl 0)) rfl (Or.inl rfl) (hA (by omega) (fun y => by
          first
          | exact (o0 q1 c10) y.1
          | exact (o0 q2 c15) y.2))
    · rw [c_eq (by first | assumption | (refine ⟨?_, ?_⟩ <;> omega) | (simp only [xr] at *; omega)) (by first | assumption | (refine ⟨?_, ?_⟩ <;> omega) | (simp only [xr] at *; omega))] at c10
      simp only [decide_eq_true_eq, decide_eq_false_iff_not, Decidable.not_not] at c10
      show xEx G0 cdX12_apart (some .int) (xRn G0 MT (d + 5)) Q b 11 [some (.inr (.inr 66)), some (.inl k), some (.inl i), none, none, none, none, none] [.inr (.inr 66)] h
      refine E_s 3 (i' := 14) (ls' := [some (.inr (.inr 66)), some (.inl k), some (.inl i), none, none, none, none, none]) (sk' := [.inl 2, .inl 0, .inl i, .inr (.inr 66)]) (h' := h) rfl ?_
      refine E_cp (x := (.invokestatic 180, 3, [(0, 155)], [])) (q := fun r2 h9 => ((r2 = 1 ∧ (0 ≤ i ∧ i ≤ 2)) ∨ (r2 = 0 ∧ ¬ (0 ≤ i ∧ i ≤ 2))) ∧ h = h9) rfl rfl (Nat.le_of_ble_eq_true rfl) (m_isIn (d + 4) 0 (h) i 0 2 hi ⟨by omega, by omega⟩ ⟨by omega, by omega⟩ (fun z => ⟨_, rfl, Or.inl ⟨rfl, z⟩, rfl⟩) (fun z => ⟨_, rfl, Or.inr ⟨rfl, z⟩, rfl⟩)) (fun r2 h9 q2 => ?_)
      obtain ⟨q2, rfl⟩ := q2
      show xEx G0 cdX12_apart (some .int) (xRn G0 MT (d + 5)) Q b 15 [some (.inr (.inr 66)), some (.inl k), some (.inl i), none, none, none, none, none] [.inl r2, .inr (.inr 66)] h
      refine E_b (x := (.ifCond .ne 7, 18, [], [])) rfl rfl (fun c15 => ?_) (fun c15 => ?_)
      · rw [c_ne (by first | assumption | (refine ⟨?_, ?_⟩ <;> omega) | (simp only [xr] at *; omega)) (by first | assumption | (refine ⟨?_, ?_⟩ <;> omega) | (simp only [xr] at *; omega))] at c15
        simp only [decide_eq_true_eq, decide_eq_false_iff_not, Decidable.not_not] at c15
        show xEx G0 cdX12_apart (some .int) (xRn G0 MT (d + 5)) Q b 18 [some (.inr (.inr 66)), some (.inl k), some (.inl i), none, none, none, none, none] [.inr (.inr 66)] h
        refine E_s 4 (i' := 22) (ls' := [some (.inr (.inr 66)), some (.inl k), some (.inl i), none, none, none, none, none]) (sk' := [.inl 0]) (h' := (xup h 66 0 0)) rfl ?_
        refine E_b (x := (.ifCond .le 5, 25, [], [])) rfl rfl (fun c22 => ?_) (fun c22 => ?_)
        · show xEx G0 cdX12_apart (some .int) (xRn G0 MT (d + 5)) Q b 25 [some (.inr (.inr 66)), some (.inl k), some (.inl i), none, none, none, none, none] [] (xup h 66 0 0)
          have qs : h 66 50 = 1 := by omega
          have qk : 0 ≤ k ∧ k < h 66 8 := o1 q1 c10
          have qi : 0 ≤ i ∧ i ≤ 2 := o1 q2 c15
          have qk2 : 0 ≤ k ∧ k < S 0 0 := by rw [← hR.1]; exact qk
          refine E_s 3 (i' := 28) (ls' := [some (.inr (.inr 66)), some (.inl k), some (.inl i), none, none, none, none, none]) (sk' := [.inl 1, .inl (h 66 1)]) (h' := (xup h 66 0 0)) rfl ?_
          refine E_b (x := (.if_icmp .le 8, 31, [], [])) rfl rfl (fun c28 => ?_) (fun c28 => ?_)
          · rw [c_le (by first | assumption | (refine ⟨?_, ?_⟩ <;> omega) | (simp only [xr] at *; omega)) (by first | assumption | (refine ⟨?_, ?_⟩ <;> omega) | (simp only [xr] at *; omega))] at c28
            simp only [decide_eq_true_eq, decide_eq_false_iff_not, Decidable.not_not] at c28
            show xEx G0 cdX12_apart (some .int) (xRn G0 MT (d + 5)) Q b 31 [some (.inr (.inr 66)), some (.inl k), some (.inl i), none, none, none, none, none] [] (xup h 66 0 0)
            omega
          · rw [c_le (by first | assumption | (refine ⟨?_, ?_⟩ <;> omega) | (simp only [xr] at *; omega)) (by first | assumption | (refine ⟨?_, ?_⟩ <;> omega) | (simp only [xr] at *; omega))] at c28
            simp only [decide_eq_true_eq, decide_eq_false_iff_not, Decidable.not_not] at c28
            show xEx G0 cdX12_apart (some .int) (xRn G0 MT (d + 5)) Q b 29 [some (.inr (.inr 66)), some (.inl k), some (.inl i), none, none, none, none, none] [] (xup h 66 0 0)
            refine E_s 6 (i' := 36) (ls' := [some (.inr (.inr 66)), some (.inl k), some (.inl i), some (.inl 9), none, none, none, none]) (sk' := [.inl 2, .inl (h 66 1)]) (h' := (xup h 66 0 0)) rfl ?_
            refine E_b (x := (.if_icmp .le 8, 39, [], [])) rfl rfl (fun c36 => ?_) (fun c36 => ?_)
            · rw [c_le (by first | assumption | (refine ⟨?_, ?_⟩ <;> omega) | (simp only [xr] at *; omega)) (by first | assumption | (refine ⟨?_, ?_⟩ <;> omega) | (simp only [xr] at *; omega))] at c36
              simp only [decide_eq_true_eq, decide_eq_false_iff_not, Decidable.not_not] at c36
              show xEx G0 cdX12_apart (some .int) (xRn G0 MT (d + 5)) Q b 39 [some (.inr (.inr 66)), some (.inl k), some (.inl i), some (.inl 9), none, none, none, none] [] (xup h 66 0 0)
              refine E_s 4 (i' := 43) (ls' := [some (.inr (.inr 66)), some (.inl k), some (.inl i), some (.inl 9), some (.inl 0), some (.inl (-9)), none, none]) (sk' := []) (h' := (xup h 66 0 0)) rfl ?_
              have key43 : ∀ (n : Nat) (hx : xH) (x : Int) (v8 v9 : Option xV), (-9 ≤ x) → (x ≤ 10) → (∀ a, a ≠ 94 → a ≠ 95 → hx a = xup h 66 0 0 a) → (∀ q0, 0 ≤ q0 → q0 < (x + 9) * 19 + 0 + 0 → ¬ (daE as le S T 2 k) q0) → ((10 - x).toNat) < n → xEx G0 cdX12_apart (some .int) (xRn G0 MT (d + 5)) Q b 43 [some (.inr (.inr 66)), some (.inl k), some (.inl i), some (.inl 9), some (.inl 0), some (.inl x), v8, v9] [] hx := by
                intro n
                induction n with
                | zero => intro hx x v8 v9 _ _ _ _ hm; exact absurd hm (Nat.not_lt_zero _)
                | succ n ih43 =>
                  intro hx x v8 v9 hx0 hx9 hfx hnx hm43
                  refine E_s 2 (i' := 45) (ls' := [some (.inr (.inr 66)), some (.inl k), some (.inl i), some (.inl 9), some (.inl 0), some (.inl x), v8, v9]) (sk' := [.inl 9, .inl x]) (h' := hx) rfl ?_
                  refine E_b (x := (.if_icmp .gt 88, 87, [], [])) rfl rfl (fun c45 => ?_) (fun c45 => ?_)
                  · rw [c_gt (by first | assumption | (refine ⟨?_, ?_⟩ <;> omega) | (simp only [xr] at *; omega)) (by first | assumption | (refine ⟨?_, ?_⟩ <;> omega) | (simp only [xr] at *; omega))] at c45
                    simp only [decide_eq_true_eq, decide_eq_false_iff_not, Decidable.not_not] at c45
                    show xEx G0 cdX12_apart (some .int) (xRn G0 MT (d + 5)) Q b 87 [some (.inr (.inr 66)), some (.inl k), some (.inl i), some (.inl 9), some (.inl 0), some (.inl x), v8, v9] [] hx
                    refine E_s 1 (i' := 88) (ls' := [some (.inr (.inr 66)), some (.inl k), some (.inl i), some (.inl 9), some (.inl 0), some (.inl x), v8, v9]) (sk' := [.inl (-100)]) (h' := hx) rfl ?_
                    exact E_ret (x := (.ireturn, 0, [], [])) (v := some (.inl (-100))) rfl (Or.inl rfl) (hG qs ⟨qk, qi⟩ (fun q z1 z2 => hnx q z1 (by simp [ptN] at z2; omega)) _ hfx)
                  · rw [c_gt (by first | assumption | (refine ⟨?_, ?_⟩ <;> omega) | (simp only [xr] at *; omega)) (by first | assumption | (refine ⟨?_, ?_⟩ <;> omega) | (simp only [xr] at *; omega))] at c45
                    simp only [decide_eq_true_eq, decide_eq_false_iff_not, Decidable.not_not] at c45
                    show xEx G0 cdX12_apart (some .int) (xRn G0 MT (d + 5)) Q b 46 [some (.inr (.inr 66)), some (.inl k), some (.inl i), some (.inl 9), some (.inl 0), some (.inl x), v8, v9] [] hx
                    refine E_s 3 (i' := 49) (ls' := [some (.inr (.inr 66)), some (.inl k), some (.inl i), some (.inl 9), some (.inl 0), some (.inl x), some (.inl (-9)), v9]) (sk' := []) (h' := hx) rfl ?_
                    have key49 : ∀ (n : Nat) (hy : xH) (y : Int) (w9 : Option xV), (-9 ≤ y) → (y ≤ 10) → (∀ a, a ≠ 94 → a ≠ 95 → hy a = xup h 66 0 0 a) → (∀ q0, 0 ≤ q0 → q0 < (x + 9) * 19 + (y + 9) + 0 → ¬ (daE as le S T 2 k) q0) → ((10 - y).toNat) < n → xEx G0 cdX12_apart (some .int) (xRn G0 MT (d + 5)) Q b 49 [some (.inr (.inr 66)), some (.inl k), some (.inl i), some (.inl 9), some (.inl 0), some (.inl x), some (.inl y), w9] [] hy := by
                      intro n
                      induction n with
                      | zero => intro hy y w9 _ _ _ _ hm; exact absurd hm (Nat.not_lt_zero _)
                      | succ n ih49 =>
                        intro hy y w9 hy0 hy9 hfy hny hm49
                        refine E_s 2 (i' := 51) (ls' := [some (.inr (.inr 66)), some (.inl k), some (.inl i), some (.inl 9), some (.inl 0), some (.inl x), some (.inl y), w9]) (sk' := [.inl 9, .inl y]) (h' := hy) rfl ?_
                        refine E_b (x := (.if_icmp .gt 72, 85, [], [])) rfl rfl (fun c51 => ?_) (fun c51 => ?_)
                        · rw [c_gt (by first | assumption | (refine ⟨?_, ?_⟩ <;> omega) | (simp only [xr] at *; omega)) (by first | assumption | (refine ⟨?_, ?_⟩ <;> omega) | (simp only [xr] at *; omega))] at c51
                          simp only [decide_eq_true_eq, decide_eq_false_iff_not, Decidable.not_not] at c51
                          show xEx G0 cdX12_apart (some .int) (xRn G0 MT (d + 5)) Q b 85 [some (.inr (.inr 66)), some (.inl k), some (.inl i), some (.inl 9), some (.inl 0), some (.inl x), some (.inl y), w9] [] hy
                          refine E_s 2 (i' := 43) (ls' := [some (.inr (.inr 66)), some (.inl k), some (.inl i), some (.inl 9), some (.inl 0), some (.inl (x + 1)), some (.inl y), w9]) (sk' := []) (h' := hy) rfl ?_
                          exact ih43 _ (x + 1) _ _ (by omega) (by omega) hfy (fun q0 z1 z2 => hny q0 z1 (by omega)) (by omega)
                        · rw [c_gt (by first | assumption | (refine ⟨?_, ?_⟩ <;> omega) | (simp only [xr] at *; omega)) (by first | assumption | (refine ⟨?_, ?_⟩ <;> omega) | (simp only [xr] at *; omega))] at c51
                          simp only [decide_eq_true_eq, decide_eq_false_iff_not, Decidable.not_not] at c51
                          show xEx G0 cdX12_apart (some .int) (xRn G0 MT (d + 5)) Q b 52 [some (.inr (.inr 66)), some (.inl k), some (.inl i), some (.inl 9), some (.inl 0), some (.inl x), some (.inl y), w9] [] hy
                          refine E_s 3 (i' := 55) (ls' := [some (.inr (.inr 66)), some (.inl k), some (.inl i), some (.inl 9), some (.inl 0), some (.inl x), some (.inl y), some (.inl (-0))]) (sk' := []) (h' := hy) rfl ?_
                          have key55 : ∀ (n : Nat) (hz : xH) (z : Int), (-0 ≤ z) → (z ≤ 1) → (∀ a, a ≠ 94 → a ≠ 95 → hz a = xup h 66 0 0 a) → (∀ q0, 0 ≤ q0 → q0 < (x + 9) * 19 + (y + 9) + z → ¬ (daE as le S T 2 k) q0) → ((1 - z).toNat) < n → xEx G0 cdX12_apart (some .int) (xRn G0 MT (d + 5)) Q b 55 [some (.inr (.inr 66)), some (.inl k), some (.inl i), some (.inl 9), some (.inl 0), some (.inl x), some (.inl y), some (.inl z)] [] hz := by
                            intro n
                            induction n with
                            | zero => intro hz z _ _ _ _ hm; exact absurd hm (Nat.not_lt_zero _)
                            | succ n ih55 =>
                              intro hz z hz0 hz9 hfz hnz hm55
                              refine E_s 2 (i' := 57) (ls' := [some (.inr (.inr 66)), some (.inl k), some (.inl i), some (.inl 9), some (.inl 0), some (.inl x), some (.inl y), some (.inl z)]) (sk' := [.inl 0, .inl z]) (h' := hz) rfl ?_
                              refine E_b (x := (.if_icmp .gt 54, 83, [], [])) rfl rfl (fun c57 => ?_) (fun c57 => ?_)
                              · rw [c_gt (by first | assumption | (refine ⟨?_, ?_⟩ <;> omega) | (simp only [xr] at *; omega)) (by first | assumption | (refine ⟨?_, ?_⟩ <;> omega) | (simp only [xr] at *; omega))] at c57
                                simp only [decide_eq_true_eq, decide_eq_false_iff_not, Decidable.not_not] at c57
                                show xEx G0 cdX12_apart (some .int) (xRn G0 MT (d + 5)) Q b 83 [some (.inr (.inr 66)), some (.inl k), some (.inl i), some (.inl 9), some (.inl 0), some (.inl x), some (.inl y), some (.inl z)] [] hz
                                refine E_s 2 (i' := 49) (ls' := [some (.inr (.inr 66)), some (.inl k), some (.inl i), some (.inl 9), some (.inl 0), some (.inl x), some (.inl (y + 1)), some (.inl z)]) (sk' := []) (h' := hz) rfl ?_
                                exact ih49 _ (y + 1) _ (by omega) (by omega) hfz (fun q0 z1 z2 => hnz q0 z1 (by omega)) (by omega)
                              · rw [c_gt (by first | assumption | (refine ⟨?_, ?_⟩ <;> omega) | (simp only [xr] at *; omega)) (by first | assumption | (refine ⟨?_, ?_⟩ <;> omega) | (simp only [xr] at *; omega))] at c57
                                simp only [decide_eq_true_eq, decide_eq_false_iff_not, Decidable.not_not] at c57
                                show xEx G0 cdX12_apart (some .int) (xRn G0 MT (d + 5)) Q b 58 [some (.inr (.inr 66)), some (.inl k), some (.inl i), some (.inl 9), some (.inl 0), some (.inl x), some (.inl y), some (.inl z)] [] hz
                                refine E_s 4 (i' := 62) (ls' := [some (.inr (.inr 66)), some (.inl k), some (.inl i), some (.inl 9), some (.inl 0), some (.inl x), some (.inl y), some (.inl z)]) (sk' := [.inl z, .inl y, .inl x, .inr (.inr 66)]) (h' := hz) rfl ?_
                                refine E_cv (x := (.invokevirtual 309, 3, [(10, 198)], [0])) (q := fun h9 => (∀ a, a ≠ 94 → a ≠ 95 → h9 a = hz a) ∧ (∀ k, 0 ≤ k → k < S 0 0 → h9 94 k = VE S (pX x y z) k) ∧ (∀ t, 0 ≤ t → t < T 0 0 → h9 95 t = VU S T (pX x y z) t)) rfl rfl (Nat.le_of_ble_eq_true rfl) (m_reckons (d + 1) 0 hz S T x y z n0 wt ⟨by omega, by omega⟩ ⟨by omega, by omega⟩ ⟨by omega, by omega⟩ (RR_vh hfz (RR_vh0 hR)) (RRT_vh hfz (RRT_vh0 hRT)) hF hT h3 h4 (fun h9 z1 z2 z3 => ⟨rfl, z1, z2, z3⟩)) (fun h1 hq => ?_)
                                obtain ⟨f1, f2, f3⟩ := hq
                                have xx : xr x := ⟨by omega, by omega⟩
                                have xy : xr y := ⟨by omega, by omega⟩
                                have xz : xr z := ⟨by omega, by omega⟩
                                have tn1 : TN h1 as le := TN_of ((f1 _ (by decide) (by decide)).trans (hfz _ (by decide) (by decide))) ((f1 _ (by decide) (by decide)).trans (hfz _ (by decide) (by decide))) (tn qs)
                                have l9 := wlk_l (f := VU S T (pX x y z)) 3 0 (tr qs)
                                have ub : xr (VE S (pX x y z) (le (wlk as (VU S T (pX x y z)) 3 0))) := VE_r hF (pX_r xx xy xz) 300 _ l9.2.1 l9.2.2
                                have g1 := f2 k qk2.1 qk2.2
                                have ua : xr (h1 94 k) := by rw [g1]; exact VE_r hF (pX_r xx xy xz) 300 _ qk2.1 qk2.2
                                show xEx G0 cdX12_apart (some .int) (xRn G0 MT (d + 5)) Q b 63 [some (.inr (.inr 66)), some (.inl k), some (.inl i), some (.inl 9), some (.inl 0), some (.inl x), some (.inl y), some (.inl z)] [] h1
                                refine E_s 1 (i' := 64) (ls' := [some (.inr (.inr 66)), some (.inl k), some (.inl i), some (.inl 9), some (.inl 0), some (.inl x), some (.inl y), some (.inl z)]) (sk' := [.inr (.inr 66)]) (h' := h1) rfl ?_
                                refine E_ci (x := (.invokevirtual 418, 0, [(10, 241)], [0])) (r := (VE S (pX x y z) (le (wlk as (VU S T (pX x y z)) 3 0)))) (h' := h1) rfl rfl (Nat.le_of_ble_eq_true rfl) (m_comesNow (d + 4) 0 h1 S T as le (pX x y z) h3 h4 f2 f3 tn1 (hr qs) (tr qs) ⟨rfl, rfl⟩) ?_
                                show xEx G0 cdX12_apart (some .int) (xRn G0 MT (d + 5)) Q b 65 [some (.inr (.inr 66)), some (.inl k), some (.inl i), some (.inl 9), some (.inl 0), some (.inl x), some (.inl y), some (.inl z)] [.inl (VE S (pX x y z) (le (wlk as (VU S T (pX x y z)) 3 0)))] h1
                                refine E_s 3 (i' := 68) (ls' := [some (.inr (.inr 66)), some (.inl k), some (.inl i), some (.inl 9), some (.inl 0), some (.inl x), some (.inl y), some (.inl z)]) (sk' := [.inl k, .inr (.inr 94), .inl (VE S (pX x y z) (le (wlk as (VU S T (pX x y z)) 3 0)))]) (h' := h1) rfl ?_
                                refine E_ld (x := (.iaload, 0, [], [])) (ty := .int) (n := 300) rfl rfl rfl (by omega) (by omega) ?_
                                show xEx G0 cdX12_apart (some .int) (xRn G0 MT (d + 5)) Q b 69 [some (.inr (.inr 66)), some (.inl k), some (.inl i), some (.inl 9), some (.inl 0), some (.inl x), some (.inl y), some (.inl z)] [.inl (h1 94 k), .inl (VE S (pX x y z) (le (wlk as (VU S T (pX x y z)) 3 0)))] h1
                                refine E_b (x := (.if_icmp .eq 25, 81, [], [])) rfl rfl (fun c69 => ?_) (fun c69 => ?_)
                                · rw [c_eq (by first | exact ua | exact ub) (by first | exact ua | exact ub)] at c69
                                  simp only [decide_eq_true_eq, decide_eq_false_iff_not, Decidable.not_not] at c69
                                  show xEx G0 cdX12_apart (some .int) (xRn G0 MT (d + 5)) Q b 81 [some (.inr (.inr 66)), some (.inl k), some (.inl i), some (.inl 9), some (.inl 0), some (.inl x), some (.inl y), some (.inl z)] [] h1
                                  have dd : ¬ (daE as le S T 2 k) ((x + 9) * 19 + (y + 9) + z) := by
                                    intro z9
                                    apply z9
                                    rw [pt_2 (by omega) (by omega) (by omega)]
                                    exact c69.trans g1
                                  refine E_s 2 (i' := 55) (ls' := [some (.inr (.inr 66)), some (.inl k), some (.inl i), some (.inl 9), some (.inl 0), some (.inl x), some (.inl y), some (.inl (z + 1))]) (sk' := []) (h' := h1) rfl ?_
                                  exact ih55 _ (z + 1) (by omega) (by omega) (fun a z1 z2 => (f1 a z1 z2).trans (hfz a z1 z2)) (fun q0 z1 z2 => by
                                    by_cases z9 : q0 = (x + 9) * 19 + (y + 9) + z
                                    · rw [z9]; exact dd
                                    · exact hnz q0 z1 (by omega)) (by omega)
                                · rw [c_eq (by first | exact ua | exact ub) (by first | exact ua | exact ub)] at c69
                                  simp only [decide_eq_true_eq, decide_eq_false_iff_not, Decidable.not_not] at c69
                                  show xEx G0 cdX12_apart (some .int) (xRn G0 MT (d + 5)) Q b 70 [some (.inr (.inr 66)), some (.inl k), some (.inl i), some (.inl 9), some (.inl 0), some (.inl x), some (.inl y), some (.inl z)] [] h1
                                  have ddp : (daE as le S T 2 k) ((x + 9) * 19 + (y + 9) + z) := by
                                    show ¬ _ = _
                                    rw [pt_2 (by omega) (by omega) (by omega)]
                                    intro z9
                                    exact c69 (z9.trans g1.symm)
                                  refine E_s 1 (i' := 71) (ls' := [some (.inr (.inr 66)), some (.inl k), some (.inl i), some (.inl 9), some (.inl 0), some (.inl x), some (.inl y), some (.inl z)]) (sk' := [.inl i]) (h' := h1) rfl ?_
                                  refine E_b (x := (.ifCond .ne 8, 74, [], [])) rfl rfl (fun c71 => ?_) (fun c71 => ?_)
                                  · rw [c_ne (by first | assumption | (refine ⟨?_, ?_⟩ <;> omega) | (simp only [xr] at *; omega)) (by first | assumption | (refine ⟨?_, ?_⟩ <;> omega) | (simp only [xr] at *; omega))] at c71
                                    simp only [decide_eq_true_eq, decide_eq_false_iff_not, Decidable.not_not] at c71
                                    show xEx G0 cdX12_apart (some .int) (xRn G0 MT (d + 5)) Q b 74 [some (.inr (.inr 66)), some (.inl k), some (.inl i), some (.inl 9), some (.inl 0), some (.inl x), some (.inl y), some (.inl z)] [] h1
                                    refine E_s 2 (i' := 76) (ls' := [some (.inr (.inr 66)), some (.inl k), some (.inl i), some (.inl 9), some (.inl 0), some (.inl x), some (.inl y), some (.inl z)]) (sk' := [.inl 1, .inl i]) (h' := h1) rfl ?_
                                    refine E_b (x := (.if_icmp .ne 8, 79, [], [])) rfl rfl (fun c76 => ?_) (fun c76 => ?_)
                                    · rw [c_ne (by first | assumption | (refine ⟨?_, ?_⟩ <;> omega) | (simp only [xr] at *; omega)) (by first | assumption | (refine ⟨?_, ?_⟩ <;> omega) | (simp only [xr] at *; omega))] at c76
                                      simp only [decide_eq_true_eq, decide_eq_false_iff_not, Decidable.not_not] at c76
                                      show xEx G0 cdX12_apart (some .int) (xRn G0 MT (d + 5)) Q b 79 [some (.inr (.inr 66)), some (.inl k), some (.inl i), some (.inl 9), some (.inl 0), some (.inl x), some (.inl y), some (.inl z)] [] h1
                                      refine E_s 1 (i' := 80) (ls' := [some (.inr (.inr 66)), some (.inl k), some (.inl i), some (.inl 9), some (.inl 0), some (.inl x), some (.inl y), some (.inl z)]) (sk' := [.inl z]) (h' := h1) rfl ?_
                                      exact E_ret (x := (.ireturn, 0, [], [])) (v := some (.inl z)) rfl (Or.inl rfl) (by
                                        have r9 := hF9 qs ⟨qk, qi⟩ ((x + 9) * 19 + (y + 9) + z) (by omega) (by simp [ptN]; omega) ddp hnz _ (fun a z1 z2 => (f1 a z1 z2).trans (hfz a z1 z2))
                                        rw [pt_2 (by omega) (by omega) (by omega)] at r9
                                        have e9 : pX x y z i = z := by unfold pX; rw [if_neg (by omega), if_neg (by omega)]
                                        rw [e9] at r9
                                        exact r9)
                                    · rw [c_ne (by first | assumption | (refine ⟨?_, ?_⟩ <;> omega) | (simp only [xr] at *; omega)) (by first | assumption | (refine ⟨?_, ?_⟩ <;> omega) | (simp only [xr] at *; omega))] at c76
                                      simp only [decide_eq_true_eq, decide_eq_false_iff_not, Decidable.not_not] at c76
                                      show xEx G0 cdX12_apart (some .int) (xRn G0 MT (d + 5)) Q b 77 [some (.inr (.inr 66)), some (.inl k), some (.inl i), some (.inl 9), some (.inl 0), some (.inl x), some (.inl y), some (.inl z)] [] h1
                                      refine E_s 2 (i' := 80) (ls' := [some (.inr (.inr 66)), some (.inl k), some (.inl i), some (.inl 9), some (.inl 0), some (.inl x), some (.inl y), some (.inl z)]) (sk' := [.inl y]) (h' := h1) rfl ?_
                                      exact E_ret (x := (.ireturn, 0, [], [])) (v := some (.inl y)) rfl (Or.inl rfl) (by
                                        have r9 := hF9 qs ⟨qk, qi⟩ ((x + 9) * 19 + (y + 9) + z) (by omega) (by simp [ptN]; omega) ddp hnz _ (fun a z1 z2 => (f1 a z1 z2).trans (hfz a z1 z2))
                                        rw [pt_2 (by omega) (by omega) (by omega)] at r9
                                        have e9 : pX x y z i = y := by unfold pX; rw [if_neg (by omega), if_pos (by omega)]
                                        rw [e9] at r9
                                        exact r9)
                                  · rw [c_ne (by first | assumption | (refine ⟨?_, ?_⟩ <;> omega) | (simp only [xr] at *; omega)) (by first | assumption | (refine ⟨?_, ?_⟩ <;> omega) | (simp only [xr] at *; omega))] at c71
                                    simp only [decide_eq_true_eq, decide_eq_false_iff_not, Decidable.not_not] at c71
                                    show xEx G0 cdX12_apart (some .int) (xRn G0 MT (d + 5)) Q b 72 [some (.inr (.inr 66)), some (.inl k), some (.inl i), some (.inl 9), some (.inl 0), some (.inl x), some (.inl y), some (.inl z)] [] h1
                                    refine E_s 2 (i' := 80) (ls' := [some (.inr (.inr 66)), some (.inl k), some (.inl i), some (.inl 9), some (.inl 0), some (.inl x), some (.inl y), some (.inl z)]) (sk' := [.inl x]) (h' := h1) rfl ?_
                                    exact E_ret (x := (.ireturn, 0, [], [])) (v := some (.inl x)) rfl (Or.inl rfl) (by
                                      have r9 := hF9 qs ⟨qk, qi⟩ ((x + 9) * 19 + (y + 9) + z) (by omega) (by simp [ptN]; omega) ddp hnz _ (fun a z1 z2 => (f1 a z1 z2).trans (hfz a z1 z2))
                                      rw [pt_2 (by omega) (by omega) (by omega)] at r9
                                      have e9 : pX x y z i = x := by unfold pX; rw [if_pos (by omega)]
                                      rw [e9] at r9
                                      exact r9)
                          exact key55 _ _ (-0) (by omega) (by omega) hfy (fun q0 z1 z2 => hny q0 z1 (by omega)) (Nat.lt_succ_self _)
                    exact key49 _ _ (-9) _ (by omega) (by omega) hfx (fun q0 z1 z2 => hnx q0 z1 (by omega)) (Nat.lt_succ_self _)
              exact key43 _ _ (-9) none none (by omega) (by omega) (fun _ _ _ => rfl) (fun q0 z1 z2 => by omega) (Nat.lt_succ_self _)
            · rw [c_le (by first | assumption | (refine ⟨?_, ?_⟩ <;> omega) | (simp only [xr] at *; omega)) (by first | assumption | (refine ⟨?_, ?_⟩ <;> omega) | (simp only [xr] at *; omega))] at c36
              simp only [decide_eq_true_eq, decide_eq_false_iff_not, Decidable.not_not] at c36
              show xEx G0 cdX12_apart (some .int) (xRn G0 MT (d + 5)) Q b 37 [some (.inr (.inr 66)), some (.inl k), some (.inl i), some (.inl 9), none, none, none, none] [] (xup h 66 0 0)
              omega
        · show xEx G0 cdX12_apart (some .int) (xRn G0 MT (d + 5)) Q b 23 [some (.inr (.inr 66)), some (.inl k), some (.inl i), none, none, none, none, none] [] (xup h 66 0 0)
          exact absurd c22 (by decide)
      · rw [c_ne (by first | assumption | (refine ⟨?_, ?_⟩ <;> omega) | (simp only [xr] at *; omega)) (by first | assumption | (refine ⟨?_, ?_⟩ <;> omega) | (simp only [xr] at *; omega))] at c15
        simp only [decide_eq_true_eq, decide_eq_false_iff_not, Decidable.not_not] at c15
        show xEx G0 cdX12_apart (some .int) (xRn G0 MT (d + 5)) Q b 16 [some (.inr (.inr 66)), some (.inl k), some (.inl i), none, none, none, none, none] [.inr (.inr 66)] h
        refine E_s 5 (i' := 22) (ls' := [some (.inr (.inr 66)), some (.inl k), some (.inl i), none, none, none, none, none]) (sk' := [.inl 2]) (h' := (xup h 66 0 2)) rfl ?_
        refine E_b (x := (.ifCond .le 5, 25, [], [])) rfl rfl (fun c22 => ?_) (fun c22 => ?_)
        · show xEx G0 cdX12_apart (some .int) (xRn G0 MT (d + 5)) Q b 25 [some (.inr (.inr 66)), some (.inl k), some (.inl i), none, none, none, none, none] [] (xup h 66 0 2)
          exact absurd c22 (by decide)
        · show xEx G0 cdX12_apart (some .int) (xRn G0 MT (d + 5)) Q b 23 [some (.inr (.inr 66)), some (.inl k), some (.inl i), none, none, none, none, none] [] (xup h 66 0 2)
          refine E_s 1 (i' := 24) (ls' := [some (.inr (.inr 66)), some (.inl k), some (.inl i), none, none, none, none, none]) (sk' := [.inl 0]) (h' := (xup h 66 0 2)) rfl ?_
          exact E_ret (x := (.ireturn, 0, [], [])) (v := some (.inl 0)) rfl (Or.inl rfl) (hA (by omega) (fun y => by
            first
            | exact (o0 q1 c10) y.1
            | exact (o0 q2 c15) y.2))
  · rw [c_ne (by first | assumption | (refine ⟨?_, ?_⟩ <;> omega) | (simp only [xr] at *; omega)) (by first | assumption | (refine ⟨?_, ?_⟩ <;> omega) | (simp only [xr] at *; omega))] at c3
    simp only [decide_eq_true_eq, decide_eq_false_iff_not, Decidable.not_not] at c3
    show xEx G0 cdX12_apart (some .int) (xRn G0 MT (d + 5)) Q b 4 [some (.inr (.inr 66)), some (.inl k), some (.inl i), none, none, none, none, none] [.inr (.inr 66)] h
    refine E_s 5 (i' := 22) (ls' := [some (.inr (.inr 66)), some (.inl k), some (.inl i), none, none, none, none, none]) (sk' := [.inl 1]) (h' := (xup h 66 0 1)) rfl ?_
    refine E_b (x := (.ifCond .le 5, 25, [], [])) rfl rfl (fun c22 => ?_) (fun c22 => ?_)
    · show xEx G0 cdX12_apart (some .int) (xRn G0 MT (d + 5)) Q b 25 [some (.inr (.inr 66)), some (.inl k), some (.inl i), none, none, none, none, none] [] (xup h 66 0 1)
      exact absurd c22 (by decide)
    · show xEx G0 cdX12_apart (some .int) (xRn G0 MT (d + 5)) Q b 23 [some (.inr (.inr 66)), some (.inl k), some (.inl i), none, none, none, none, none] [] (xup h 66 0 1)
      refine E_s 1 (i' := 24) (ls' := [some (.inr (.inr 66)), some (.inl k), some (.inl i), none, none, none, none, none]) (sk' := [.inl 0]) (h' := (xup h 66 0 1)) rfl ?_
      exact E_ret (x := (.ireturn, 0, [], [])) (v := some (.inl 0)) rfl (Or.inl rfl) (hN (fun z9 => by omega))
set_option maxHeartbeats 1000000 in
theorem m_apart_3 (d b : Nat) (h S T : xH) (as le : Int → Int) (k i n0 : Int) (wt : Int → Int) (hk : xr k) (hi : xr i) (hm : h 66 1 = 3) (hR : RR h S) (hRT : RRT h T) (hF : FW n0 wt 9 S) (hT : FWT S 7 T) (h3 : 0 ≤ S 0 0 ∧ S 0 0 ≤ 300) (h4 : 0 ≤ T 0 0 ∧ T 0 0 ≤ 150) (hs : h 66 50 = 0 ∨ h 66 50 = 1) (tn : h 66 50 = 1 → TN h as le) (hr : h 66 50 = 1 → ∀ nd, 0 ≤ nd → nd < 15 → -1 ≤ as nd ∧ as nd < T 0 0 ∧ -1 ≤ le nd ∧ le nd < S 0 0) (tr : h 66 50 = 1 → TRp as le S T 3 0)(hM0 : 0 ≤ h 66 8 ∧ h 66 8 ≤ 300) {Q : xO → xH → Prop} (hN : ¬ (h 66 50 = 1) → Q (.inl (some (.inl (0)))) (xup h 66 0 1)) (hA : (h 66 50 = 1) → ¬ ((0 ≤ k ∧ k < h 66 8) ∧ (0 ≤ i ∧ i ≤ 2)) → Q (.inl (some (.inl (0)))) (xup h 66 0 2)) (hF9 : (h 66 50 = 1) → ((0 ≤ k ∧ k < h 66 8) ∧ (0 ≤ i ∧ i ≤ 2)) → ∀ p, 0 ≤ p → p < ptN 3 → (daE as le S T 3 k) p → (∀ q, 0 ≤ q → q < p → ¬ (daE as le S T 3 k) q) → ∀ h', (∀ a, a ≠ 94 → a ≠ 95 → h' a = ((xup h 66 0 0)) a) → Q (.inl (some (.inl (ptX 3 p i)))) h') (hG : (h 66 50 = 1) → ((0 ≤ k ∧ k < h 66 8) ∧ (0 ≤ i ∧ i ≤ 2)) → (∀ q, 0 ≤ q → q < ptN 3 → ¬ (daE as le S T 3 k) q) → ∀ h', (∀ a, a ≠ 94 → a ≠ 95 → h' a = ((xup h 66 0 0)) a) → Q (.inl (some (.inl (-100)))) h') : xRn G0 MT (d + 6) b 245 [.inr (.inr 66), .inl k, .inl i] h Q := by
  refine R_of (M := mX12_apart) rfl (Nat.le_of_ble_eq_true rfl) ?_
  show xEx G0 cdX12_apart (some .int) (xRn G0 MT (d + 5)) Q b 0 [some (.inr (.inr 66)), some (.inl k), some (.inl i), none, none, none, none, none] [] h
  refine E_s 3 (i' := 3) (ls' := [some (.inr (.inr 66)), some (.inl k), some (.inl i), none, none, none, none, none]) (sk' := [.inl (h 66 50), .inr (.inr 66)]) (h' := h) rfl ?_
  refine E_b (x := (.ifCond .ne 7, 6, [], [])) rfl rfl (fun c3 => ?_) (fun c3 => ?_)
  · rw [c_ne (by first | assumption | (refine ⟨?_, ?_⟩ <;> omega) | (simp only [xr] at *; omega)) (by first | assumption | (refine ⟨?_, ?_⟩ <;> omega) | (simp only [xr] at *; omega))] at c3
    simp only [decide_eq_true_eq, decide_eq_false_iff_not, Decidable.not_not] at c3
    show xEx G0 cdX12_apart (some .int) (xRn G0 MT (d + 5)) Q b 6 [some (.inr (.inr 66)), some (.inl k), some (.inl i), none, none, none, none, none] [.inr (.inr 66)] h
    refine E_s 3 (i' := 9) (ls' := [some (.inr (.inr 66)), some (.inl k), some (.inl i), none, none, none, none, none]) (sk' := [.inl k, .inl 0, .inr (.inr 66), .inr (.inr 66)]) (h' := h) rfl ?_
    refine E_cp (x := (.invokevirtual 295, 2, [(10, 193)], [0])) (q := fun r1 h9 => ((r1 = 1 ∧ (0 ≤ k ∧ k < h 66 8)) ∨ (r1 = 0 ∧ ¬ (0 ≤ k ∧ k < h 66 8))) ∧ h = h9) rfl rfl (Nat.le_of_ble_eq_true rfl) (m_isKept0 (d + 3) 0 h k hk hM0 (fun z => ⟨_, rfl, Or.inl ⟨rfl, z⟩, rfl⟩) (fun z => ⟨_, rfl, Or.inr ⟨rfl, z⟩, rfl⟩)) (fun r1 h9 q1 => ?_)
    obtain ⟨q1, rfl⟩ := q1
    show xEx G0 cdX12_apart (some .int) (xRn G0 MT (d + 5)) Q b 10 [some (.inr (.inr 66)), some (.inl k), some (.inl i), none, none, none, none, none] [.inl r1, .inr (.inr 66)] h
    refine E_b (x := (.ifCond .eq 12, 16, [], [])) rfl rfl (fun c10 => ?_) (fun c10 => ?_)
    · rw [c_eq (by first | assumption | (refine ⟨?_, ?_⟩ <;> omega) | (simp only [xr] at *; omega)) (by first | assumption | (refine ⟨?_, ?_⟩ <;> omega) | (simp only [xr] at *; omega))] at c10
      simp only [decide_eq_true_eq, decide_eq_false_iff_not, Decidable.not_not] at c10
      show xEx G0 cdX12_apart (some .int) (xRn G0 MT (d + 5)) Q b 16 [some (.inr (.inr 66)), some (.inl k), some (.inl i), none, none, none, none, none] [.inr (.inr 66)] h
      refine E_s 5 (i' := 22) (ls' := [some (.inr (.inr 66)), some (.inl k), some (.inl i), none, none, none, none, none]) (sk' := [.inl 2]) (h' := (xup h 66 0 2)) rfl ?_
      refine E_b (x := (.ifCond .le 5, 25, [], [])) rfl rfl (fun c22 => ?_) (fun c22 => ?_)
      · show xEx G0 cdX12_apart (some .int) (xRn G0 MT (d + 5)) Q b 25 [some (.inr (.inr 66)), some (.inl k), some (.inl i), none, none, none, none, none] [] (xup h 66 0 2)
        exact absurd c22 (by decide)
      · show xEx G0 cdX12_apart (some .int) (xRn G0 MT (d + 5)) Q b 23 [some (.inr (.inr 66)), some (.inl k), some (.inl i), none, none, none, none, none] [] (xup h 66 0 2)
        refine E_s 1 (i' := 24) (ls' := [some (.inr (.inr 66)), some (.inl k), some (.inl i), none, none, none, none, none]) (sk' := [.inl 0]) (h' := (xup h 66 0 2)) rfl ?_
        exact E_ret (x := (.ireturn, 0, [], [])) (v := some (.inl 0)) rfl (Or.inl rfl) (hA (by omega) (fun y => by
          first
          | exact (o0 q1 c10) y.1
          | exact (o0 q2 c15) y.2))
    · rw [c_eq (by first | assumption | (refine ⟨?_, ?_⟩ <;> omega) | (simp only [xr] at *; omega)) (by first | assumption | (refine ⟨?_, ?_⟩ <;> omega) | (simp only [xr] at *; omega))] at c10
      simp only [decide_eq_true_eq, decide_eq_false_iff_not, Decidable.not_not] at c10
      show xEx G0 cdX12_apart (some .int) (xRn G0 MT (d + 5)) Q b 11 [some (.inr (.inr 66)), some (.inl k), some (.inl i), none, none, none, none, none] [.inr (.inr 66)] h
      refine E_s 3 (i' := 14) (ls' := [some (.inr (.inr 66)), some (.inl k), some (.inl i), none, none, none, none, none]) (sk' := [.inl 2, .inl 0, .inl i, .inr (.inr 66)]) (h' := h) rfl ?_
      refine E_cp (x := (.invokestatic 180, 3, [(0, 155)], [])) (q := fun r2 h9 => ((r2 = 1 ∧ (0 ≤ i ∧ i ≤ 2)) ∨ (r2 = 0 ∧ ¬ (0 ≤ i ∧ i ≤ 2))) ∧ h = h9) rfl rfl (Nat.le_of_ble_eq_true rfl) (m_isIn (d + 4) 0 (h) i 0 2 hi ⟨by omega, by omega⟩ ⟨by omega, by omega⟩ (fun z => ⟨_, rfl, Or.inl ⟨rfl, z⟩, rfl⟩) (fun z => ⟨_, rfl, Or.inr ⟨rfl, z⟩, rfl⟩)) (fun r2 h9 q2 => ?_)
      obtain ⟨q2, rfl⟩ := q2
      show xEx G0 cdX12_apart (some .int) (xRn G0 MT (d + 5)) Q b 15 [some (.inr (.inr 66)), some (.inl k), some (.inl i), none, none, none, none, none] [.inl r2, .inr (.inr 66)] h
      refine E_b (x := (.ifCond .ne 7, 18, [], [])) rfl rfl (fun c15 => ?_) (fun c15 => ?_)
      · rw [c_ne (by first | assumption | (refine ⟨?_, ?_⟩ <;> omega) | (simp only [xr] at *; omega)) (by first | assumption | (refine ⟨?_, ?_⟩ <;> omega) | (simp only [xr] at *; omega))] at c15
        simp only [decide_eq_true_eq, decide_eq_false_iff_not, Decidable.not_not] at c15
        show xEx G0 cdX12_apart (some .int) (xRn G0 MT (d + 5)) Q b 18 [some (.inr (.inr 66)), some (.inl k), some (.inl i), none, none, none, none, none] [.inr (.inr 66)] h
        refine E_s 4 (i' := 22) (ls' := [some (.inr (.inr 66)), some (.inl k), some (.inl i), none, none, none, none, none]) (sk' := [.inl 0]) (h' := (xup h 66 0 0)) rfl ?_
        refine E_b (x := (.ifCond .le 5, 25, [], [])) rfl rfl (fun c22 => ?_) (fun c22 => ?_)
        · show xEx G0 cdX12_apart (some .int) (xRn G0 MT (d + 5)) Q b 25 [some (.inr (.inr 66)), some (.inl k), some (.inl i), none, none, none, none, none] [] (xup h 66 0 0)
          have qs : h 66 50 = 1 := by omega
          have qk : 0 ≤ k ∧ k < h 66 8 := o1 q1 c10
          have qi : 0 ≤ i ∧ i ≤ 2 := o1 q2 c15
          have qk2 : 0 ≤ k ∧ k < S 0 0 := by rw [← hR.1]; exact qk
          refine E_s 3 (i' := 28) (ls' := [some (.inr (.inr 66)), some (.inl k), some (.inl i), none, none, none, none, none]) (sk' := [.inl 1, .inl (h 66 1)]) (h' := (xup h 66 0 0)) rfl ?_
          refine E_b (x := (.if_icmp .le 8, 31, [], [])) rfl rfl (fun c28 => ?_) (fun c28 => ?_)
          · rw [c_le (by first | assumption | (refine ⟨?_, ?_⟩ <;> omega) | (simp only [xr] at *; omega)) (by first | assumption | (refine ⟨?_, ?_⟩ <;> omega) | (simp only [xr] at *; omega))] at c28
            simp only [decide_eq_true_eq, decide_eq_false_iff_not, Decidable.not_not] at c28
            show xEx G0 cdX12_apart (some .int) (xRn G0 MT (d + 5)) Q b 31 [some (.inr (.inr 66)), some (.inl k), some (.inl i), none, none, none, none, none] [] (xup h 66 0 0)
            omega
          · rw [c_le (by first | assumption | (refine ⟨?_, ?_⟩ <;> omega) | (simp only [xr] at *; omega)) (by first | assumption | (refine ⟨?_, ?_⟩ <;> omega) | (simp only [xr] at *; omega))] at c28
            simp only [decide_eq_true_eq, decide_eq_false_iff_not, Decidable.not_not] at c28
            show xEx G0 cdX12_apart (some .int) (xRn G0 MT (d + 5)) Q b 29 [some (.inr (.inr 66)), some (.inl k), some (.inl i), none, none, none, none, none] [] (xup h 66 0 0)
            refine E_s 6 (i' := 36) (ls' := [some (.inr (.inr 66)), some (.inl k), some (.inl i), some (.inl 9), none, none, none, none]) (sk' := [.inl 2, .inl (h 66 1)]) (h' := (xup h 66 0 0)) rfl ?_
            refine E_b (x := (.if_icmp .le 8, 39, [], [])) rfl rfl (fun c36 => ?_) (fun c36 => ?_)
            · rw [c_le (by first | assumption | (refine ⟨?_, ?_⟩ <;> omega) | (simp only [xr] at *; omega)) (by first | assumption | (refine ⟨?_, ?_⟩ <;> omega) | (simp only [xr] at *; omega))] at c36
              simp only [decide_eq_true_eq, decide_eq_false_iff_not, Decidable.not_not] at c36
              show xEx G0 cdX12_apart (some .int) (xRn G0 MT (d + 5)) Q b 39 [some (.inr (.inr 66)), some (.inl k), some (.inl i), some (.inl 9), none, none, none, none] [] (xup h 66 0 0)
              omega
            · rw [c_le (by first | assumption | (refine ⟨?_, ?_⟩ <;> omega) | (simp only [xr] at *; omega)) (by first | assumption | (refine ⟨?_, ?_⟩ <;> omega) | (simp only [xr] at *; omega))] at c36
              simp only [decide_eq_true_eq, decide_eq_false_iff_not, Decidable.not_not] at c36
              show xEx G0 cdX12_apart (some .int) (xRn G0 MT (d + 5)) Q b 37 [some (.inr (.inr 66)), some (.inl k), some (.inl i), some (.inl 9), none, none, none, none] [] (xup h 66 0 0)
              refine E_s 5 (i' := 43) (ls' := [some (.inr (.inr 66)), some (.inl k), some (.inl i), some (.inl 9), some (.inl 9), some (.inl (-9)), none, none]) (sk' := []) (h' := (xup h 66 0 0)) rfl ?_
              have key43 : ∀ (n : Nat) (hx : xH) (x : Int) (v8 v9 : Option xV), (-9 ≤ x) → (x ≤ 10) → (∀ a, a ≠ 94 → a ≠ 95 → hx a = xup h 66 0 0 a) → (∀ q0, 0 ≤ q0 → q0 < (x + 9) * 361 + 0 + 0 → ¬ (daE as le S T 3 k) q0) → ((10 - x).toNat) < n → xEx G0 cdX12_apart (some .int) (xRn G0 MT (d + 5)) Q b 43 [some (.inr (.inr 66)), some (.inl k), some (.inl i), some (.inl 9), some (.inl 9), some (.inl x), v8, v9] [] hx := by
                intro n
                induction n with
                | zero => intro hx x v8 v9 _ _ _ _ hm; exact absurd hm (Nat.not_lt_zero _)
                | succ n ih43 =>
                  intro hx x v8 v9 hx0 hx9 hfx hnx hm43
                  refine E_s 2 (i' := 45) (ls' := [some (.inr (.inr 66)), some (.inl k), some (.inl i), some (.inl 9), some (.inl 9), some (.inl x), v8, v9]) (sk' := [.inl 9, .inl x]) (h' := hx) rfl ?_
                  refine E_b (x := (.if_icmp .gt 88, 87, [], [])) rfl rfl (fun c45 => ?_) (fun c45 => ?_)
                  · rw [c_gt (by first | assumption | (refine ⟨?_, ?_⟩ <;> omega) | (simp only [xr] at *; omega)) (by first | assumption | (refine ⟨?_, ?_⟩ <;> omega) | (simp only [xr] at *; omega))] at c45
                    simp only [decide_eq_true_eq, decide_eq_false_iff_not, Decidable.not_not] at c45
                    show xEx G0 cdX12_apart (some .int) (xRn G0 MT (d + 5)) Q b 87 [some (.inr (.inr 66)), some (.inl k), some (.inl i), some (.inl 9), some (.inl 9), some (.inl x), v8, v9] [] hx
                    refine E_s 1 (i' := 88) (ls' := [some (.inr (.inr 66)), some (.inl k), some (.inl i), some (.inl 9), some (.inl 9), some (.inl x), v8, v9]) (sk' := [.inl (-100)]) (h' := hx) rfl ?_
                    exact E_ret (x := (.ireturn, 0, [], [])) (v := some (.inl (-100))) rfl (Or.inl rfl) (hG qs ⟨qk, qi⟩ (fun q z1 z2 => hnx q z1 (by simp [ptN] at z2; omega)) _ hfx)
                  · rw [c_gt (by first | assumption | (refine ⟨?_, ?_⟩ <;> omega) | (simp only [xr] at *; omega)) (by first | assumption | (refine ⟨?_, ?_⟩ <;> omega) | (simp only [xr] at *; omega))] at c45
                    simp only [decide_eq_true_eq, decide_eq_false_iff_not, Decidable.not_not] at c45
                    show xEx G0 cdX12_apart (some .int) (xRn G0 MT (d + 5)) Q b 46 [some (.inr (.inr 66)), some (.inl k), some (.inl i), some (.inl 9), some (.inl 9), some (.inl x), v8, v9] [] hx
                    refine E_s 3 (i' := 49) (ls' := [some (.inr (.inr 66)), some (.inl k), some (.inl i), some (.inl 9), some (.inl 9), some (.inl x), some (.inl (-9)), v9]) (sk' := []) (h' := hx) rfl ?_
                    have key49 : ∀ (n : Nat) (hy : xH) (y : Int) (w9 : Option xV), (-9 ≤ y) → (y ≤ 10) → (∀ a, a ≠ 94 → a ≠ 95 → hy a = xup h 66 0 0 a) → (∀ q0, 0 ≤ q0 → q0 < (x + 9) * 361 + (y + 9) * 19 + 0 → ¬ (daE as le S T 3 k) q0) → ((10 - y).toNat) < n → xEx G0 cdX12_apart (some .int) (xRn G0 MT (d + 5)) Q b 49 [some (.inr (.inr 66)), some (.inl k), some (.inl i), some (.inl 9), some (.inl 9), some (.inl x), some (.inl y), w9] [] hy := by
                      intro n
                      induction n with
                      | zero => intro hy y w9 _ _ _ _ hm; exact absurd hm (Nat.not_lt_zero _)
                      | succ n ih49 =>
                        intro hy y w9 hy0 hy9 hfy hny hm49
                        refine E_s 2 (i' := 51) (ls' := [some (.inr (.inr 66)), some (.inl k), some (.inl i), some (.inl 9), some (.inl 9), some (.inl x), some (.inl y), w9]) (sk' := [.inl 9, .inl y]) (h' := hy) rfl ?_
                        refine E_b (x := (.if_icmp .gt 72, 85, [], [])) rfl rfl (fun c51 => ?_) (fun c51 => ?_)
                        · rw [c_gt (by first | assumption | (refine ⟨?_, ?_⟩ <;> omega) | (simp only [xr] at *; omega)) (by first | assumption | (refine ⟨?_, ?_⟩ <;> omega) | (simp only [xr] at *; omega))] at c51
                          simp only [decide_eq_true_eq, decide_eq_false_iff_not, Decidable.not_not] at c51
                          show xEx G0 cdX12_apart (some .int) (xRn G0 MT (d + 5)) Q b 85 [some (.inr (.inr 66)), some (.inl k), some (.inl i), some (.inl 9), some (.inl 9), some (.inl x), some (.inl y), w9] [] hy
                          refine E_s 2 (i' := 43) (ls' := [some (.inr (.inr 66)), some (.inl k), some (.inl i), some (.inl 9), some (.inl 9), some (.inl (x + 1)), some (.inl y), w9]) (sk' := []) (h' := hy) rfl ?_
                          exact ih43 _ (x + 1) _ _ (by omega) (by omega) hfy (fun q0 z1 z2 => hny q0 z1 (by omega)) (by omega)
                        · rw [c_gt (by first | assumption | (refine ⟨?_, ?_⟩ <;> omega) | (simp only [xr] at *; omega)) (by first | assumption | (refine ⟨?_, ?_⟩ <;> omega) | (simp only [xr] at *; omega))] at c51
                          simp only [decide_eq_true_eq, decide_eq_false_iff_not, Decidable.not_not] at c51
                          show xEx G0 cdX12_apart (some .int) (xRn G0 MT (d + 5)) Q b 52 [some (.inr (.inr 66)), some (.inl k), some (.inl i), some (.inl 9), some (.inl 9), some (.inl x), some (.inl y), w9] [] hy
                          refine E_s 3 (i' := 55) (ls' := [some (.inr (.inr 66)), some (.inl k), some (.inl i), some (.inl 9), some (.inl 9), some (.inl x), some (.inl y), some (.inl (-9))]) (sk' := []) (h' := hy) rfl ?_
                          have key55 : ∀ (n : Nat) (hz : xH) (z : Int), (-9 ≤ z) → (z ≤ 10) → (∀ a, a ≠ 94 → a ≠ 95 → hz a = xup h 66 0 0 a) → (∀ q0, 0 ≤ q0 → q0 < (x + 9) * 361 + (y + 9) * 19 + (z + 9) → ¬ (daE as le S T 3 k) q0) → ((10 - z).toNat) < n → xEx G0 cdX12_apart (some .int) (xRn G0 MT (d + 5)) Q b 55 [some (.inr (.inr 66)), some (.inl k), some (.inl i), some (.inl 9), some (.inl 9), some (.inl x), some (.inl y), some (.inl z)] [] hz := by
                            intro n
                            induction n with
                            | zero => intro hz z _ _ _ _ hm; exact absurd hm (Nat.not_lt_zero _)
                            | succ n ih55 =>
                              intro hz z hz0 hz9 hfz hnz hm55
                              refine E_s 2 (i' := 57) (ls' := [some (.inr (.inr 66)), some (.inl k), some (.inl i), some (.inl 9), some (.inl 9), some (.inl x), some (.inl y), some (.inl z)]) (sk' := [.inl 9, .inl z]) (h' := hz) rfl ?_
                              refine E_b (x := (.if_icmp .gt 54, 83, [], [])) rfl rfl (fun c57 => ?_) (fun c57 => ?_)
                              · rw [c_gt (by first | assumption | (refine ⟨?_, ?_⟩ <;> omega) | (simp only [xr] at *; omega)) (by first | assumption | (refine ⟨?_, ?_⟩ <;> omega) | (simp only [xr] at *; omega))] at c57
                                simp only [decide_eq_true_eq, decide_eq_false_iff_not, Decidable.not_not] at c57
                                show xEx G0 cdX12_apart (some .int) (xRn G0 MT (d + 5)) Q b 83 [some (.inr (.inr 66)), some (.inl k), some (.inl i), some (.inl 9), some (.inl 9), some (.inl x), some (.inl y), some (.inl z)] [] hz
                                refine E_s 2 (i' := 49) (ls' := [some (.inr (.inr 66)), some (.inl k), some (.inl i), some (.inl 9), some (.inl 9), some (.inl x), some (.inl (y + 1)), some (.inl z)]) (sk' := []) (h' := hz) rfl ?_
                                exact ih49 _ (y + 1) _ (by omega) (by omega) hfz (fun q0 z1 z2 => hnz q0 z1 (by omega)) (by omega)
                              · rw [c_gt (by first | assumption | (refine ⟨?_, ?_⟩ <;> omega) | (simp only [xr] at *; omega)) (by first | assumption | (refine ⟨?_, ?_⟩ <;> omega) | (simp only [xr] at *; omega))] at c57
                                simp only [decide_eq_true_eq, decide_eq_false_iff_not, Decidable.not_not] at c57
                                show xEx G0 cdX12_apart (some .int) (xRn G0 MT (d + 5)) Q b 58 [some (.inr (.inr 66)), some (.inl k), some (.inl i), some (.inl 9), some (.inl 9), some (.inl x), some (.inl y), some (.inl z)] [] hz
                                refine E_s 4 (i' := 62) (ls' := [some (.inr (.inr 66)), some (.inl k), some (.inl i), some (.inl 9), some (.inl 9), some (.inl x), some (.inl y), some (.inl z)]) (sk' := [.inl z, .inl y, .inl x, .inr (.inr 66)]) (h' := hz) rfl ?_
                                refine E_cv (x := (.invokevirtual 309, 3, [(10, 198)], [0])) (q := fun h9 => (∀ a, a ≠ 94 → a ≠ 95 → h9 a = hz a) ∧ (∀ k, 0 ≤ k → k < S 0 0 → h9 94 k = VE S (pX x y z) k) ∧ (∀ t, 0 ≤ t → t < T 0 0 → h9 95 t = VU S T (pX x y z) t)) rfl rfl (Nat.le_of_ble_eq_true rfl) (m_reckons (d + 1) 0 hz S T x y z n0 wt ⟨by omega, by omega⟩ ⟨by omega, by omega⟩ ⟨by omega, by omega⟩ (RR_vh hfz (RR_vh0 hR)) (RRT_vh hfz (RRT_vh0 hRT)) hF hT h3 h4 (fun h9 z1 z2 z3 => ⟨rfl, z1, z2, z3⟩)) (fun h1 hq => ?_)
                                obtain ⟨f1, f2, f3⟩ := hq
                                have xx : xr x := ⟨by omega, by omega⟩
                                have xy : xr y := ⟨by omega, by omega⟩
                                have xz : xr z := ⟨by omega, by omega⟩
                                have tn1 : TN h1 as le := TN_of ((f1 _ (by decide) (by decide)).trans (hfz _ (by decide) (by decide))) ((f1 _ (by decide) (by decide)).trans (hfz _ (by decide) (by decide))) (tn qs)
                                have l9 := wlk_l (f := VU S T (pX x y z)) 3 0 (tr qs)
                                have ub : xr (VE S (pX x y z) (le (wlk as (VU S T (pX x y z)) 3 0))) := VE_r hF (pX_r xx xy xz) 300 _ l9.2.1 l9.2.2
                                have g1 := f2 k qk2.1 qk2.2
                                have ua : xr (h1 94 k) := by rw [g1]; exact VE_r hF (pX_r xx xy xz) 300 _ qk2.1 qk2.2
                                show xEx G0 cdX12_apart (some .int) (xRn G0 MT (d + 5)) Q b 63 [some (.inr (.inr 66)), some (.inl k), some (.inl i), some (.inl 9), some (.inl 9), some (.inl x), some (.inl y), some (.inl z)] [] h1
                                refine E_s 1 (i' := 64) (ls' := [some (.inr (.inr 66)), some (.inl k), some (.inl i), some (.inl 9), some (.inl 9), some (.inl x), some (.inl y), some (.inl z)]) (sk' := [.inr (.inr 66)]) (h' := h1) rfl ?_
                                refine E_ci (x := (.invokevirtual 418, 0, [(10, 241)], [0])) (r := (VE S (pX x y z) (le (wlk as (VU S T (pX x y z)) 3 0)))) (h' := h1) rfl rfl (Nat.le_of_ble_eq_true rfl) (m_comesNow (d + 4) 0 h1 S T as le (pX x y z) h3 h4 f2 f3 tn1 (hr qs) (tr qs) ⟨rfl, rfl⟩) ?_
                                show xEx G0 cdX12_apart (some .int) (xRn G0 MT (d + 5)) Q b 65 [some (.inr (.inr 66)), some (.inl k), some (.inl i), some (.inl 9), some (.inl 9), some (.inl x), some (.inl y), some (.inl z)] [.inl (VE S (pX x y z) (le (wlk as (VU S T (pX x y z)) 3 0)))] h1
                                refine E_s 3 (i' := 68) (ls' := [some (.inr (.inr 66)), some (.inl k), some (.inl i), some (.inl 9), some (.inl 9), some (.inl x), some (.inl y), some (.inl z)]) (sk' := [.inl k, .inr (.inr 94), .inl (VE S (pX x y z) (le (wlk as (VU S T (pX x y z)) 3 0)))]) (h' := h1) rfl ?_
                                refine E_ld (x := (.iaload, 0, [], [])) (ty := .int) (n := 300) rfl rfl rfl (by omega) (by omega) ?_
                                show xEx G0 cdX12_apart (some .int) (xRn G0 MT (d + 5)) Q b 69 [some (.inr (.inr 66)), some (.inl k), some (.inl i), some (.inl 9), some (.inl 9), some (.inl x), some (.inl y), some (.inl z)] [.inl (h1 94 k), .inl (VE S (pX x y z) (le (wlk as (VU S T (pX x y z)) 3 0)))] h1
                                refine E_b (x := (.if_icmp .eq 25, 81, [], [])) rfl rfl (fun c69 => ?_) (fun c69 => ?_)
                                · rw [c_eq (by first | exact ua | exact ub) (by first | exact ua | exact ub)] at c69
                                  simp only [decide_eq_true_eq, decide_eq_false_iff_not, Decidable.not_not] at c69
                                  show xEx G0 cdX12_apart (some .int) (xRn G0 MT (d + 5)) Q b 81 [some (.inr (.inr 66)), some (.inl k), some (.inl i), some (.inl 9), some (.inl 9), some (.inl x), some (.inl y), some (.inl z)] [] h1
                                  have dd : ¬ (daE as le S T 3 k) ((x + 9) * 361 + (y + 9) * 19 + (z + 9)) := by
                                    intro z9
                                    apply z9
                                    rw [pt_3 (by omega) (by omega) (by omega)]
                                    exact c69.trans g1
                                  refine E_s 2 (i' := 55) (ls' := [some (.inr (.inr 66)), some (.inl k), some (.inl i), some (.inl 9), some (.inl 9), some (.inl x), some (.inl y), some (.inl (z + 1))]) (sk' := []) (h' := h1) rfl ?_
                                  exact ih55 _ (z + 1) (by omega) (by omega) (fun a z1 z2 => (f1 a z1 z2).trans (hfz a z1 z2)) (fun q0 z1 z2 => by
                                    by_cases z9 : q0 = (x + 9) * 361 + (y + 9) * 19 + (z + 9)
                                    · rw [z9]; exact dd
                                    · exact hnz q0 z1 (by omega)) (by omega)
                                · rw [c_eq (by first | exact ua | exact ub) (by first | exact ua | exact ub)] at c69
                                  simp only [decide_eq_true_eq, decide_eq_false_iff_not, Decidable.not_not] at c69
                                  show xEx G0 cdX12_apart (some .int) (xRn G0 MT (d + 5)) Q b 70 [some (.inr (.inr 66)), some (.inl k), some (.inl i), some (.inl 9), some (.inl 9), some (.inl x), some (.inl y), some (.inl z)] [] h1
                                  have ddp : (daE as le S T 3 k) ((x + 9) * 361 + (y + 9) * 19 + (z + 9)) := by
                                    show ¬ _ = _
                                    rw [pt_3 (by omega) (by omega) (by omega)]
                                    intro z9
                                    exact c69 (z9.trans g1.symm)
                                  refine E_s 1 (i' := 71) (ls' := [some (.inr (.inr 66)), some (.inl k), some (.inl i), some (.inl 9), some (.inl 9), some (.inl x), some (.inl y), some (.inl z)]) (sk' := [.inl i]) (h' := h1) rfl ?_
                                  refine E_b (x := (.ifCond .ne 8, 74, [], [])) rfl rfl (fun c71 => ?_) (fun c71 => ?_)
                                  · rw [c_ne (by first | assumption | (refine ⟨?_, ?_⟩ <;> omega) | (simp only [xr] at *; omega)) (by first | assumption | (refine ⟨?_, ?_⟩ <;> omega) | (simp only [xr] at *; omega))] at c71
                                    simp only [decide_eq_true_eq, decide_eq_false_iff_not, Decidable.not_not] at c71
                                    show xEx G0 cdX12_apart (some .int) (xRn G0 MT (d + 5)) Q b 74 [some (.inr (.inr 66)), some (.inl k), some (.inl i), some (.inl 9), some (.inl 9), some (.inl x), some (.inl y), some (.inl z)] [] h1
                                    refine E_s 2 (i' := 76) (ls' := [some (.inr (.inr 66)), some (.inl k), some (.inl i), some (.inl 9), some (.inl 9), some (.inl x), some (.inl y), some (.inl z)]) (sk' := [.inl 1, .inl i]) (h' := h1) rfl ?_
                                    refine E_b (x := (.if_icmp .ne 8, 79, [], [])) rfl rfl (fun c76 => ?_) (fun c76 => ?_)
                                    · rw [c_ne (by first | assumption | (refine ⟨?_, ?_⟩ <;> omega) | (simp only [xr] at *; omega)) (by first | assumption | (refine ⟨?_, ?_⟩ <;> omega) | (simp only [xr] at *; omega))] at c76
                                      simp only [decide_eq_true_eq, decide_eq_false_iff_not, Decidable.not_not] at c76
                                      show xEx G0 cdX12_apart (some .int) (xRn G0 MT (d + 5)) Q b 79 [some (.inr (.inr 66)), some (.inl k), some (.inl i), some (.inl 9), some (.inl 9), some (.inl x), some (.inl y), some (.inl z)] [] h1
                                      refine E_s 1 (i' := 80) (ls' := [some (.inr (.inr 66)), some (.inl k), some (.inl i), some (.inl 9), some (.inl 9), some (.inl x), some (.inl y), some (.inl z)]) (sk' := [.inl z]) (h' := h1) rfl ?_
                                      exact E_ret (x := (.ireturn, 0, [], [])) (v := some (.inl z)) rfl (Or.inl rfl) (by
                                        have r9 := hF9 qs ⟨qk, qi⟩ ((x + 9) * 361 + (y + 9) * 19 + (z + 9)) (by omega) (by simp [ptN]; omega) ddp hnz _ (fun a z1 z2 => (f1 a z1 z2).trans (hfz a z1 z2))
                                        rw [pt_3 (by omega) (by omega) (by omega)] at r9
                                        have e9 : pX x y z i = z := by unfold pX; rw [if_neg (by omega), if_neg (by omega)]
                                        rw [e9] at r9
                                        exact r9)
                                    · rw [c_ne (by first | assumption | (refine ⟨?_, ?_⟩ <;> omega) | (simp only [xr] at *; omega)) (by first | assumption | (refine ⟨?_, ?_⟩ <;> omega) | (simp only [xr] at *; omega))] at c76
                                      simp only [decide_eq_true_eq, decide_eq_false_iff_not, Decidable.not_not] at c76
                                      show xEx G0 cdX12_apart (some .int) (xRn G0 MT (d + 5)) Q b 77 [some (.inr (.inr 66)), some (.inl k), some (.inl i), some (.inl 9), some (.inl 9), some (.inl x), some (.inl y), some (.inl z)] [] h1
                                      refine E_s 2 (i' := 80) (ls' := [some (.inr (.inr 66)), some (.inl k), some (.inl i), some (.inl 9), some (.inl 9), some (.inl x), some (.inl y), some (.inl z)]) (sk' := [.inl y]) (h' := h1) rfl ?_
                                      exact E_ret (x := (.ireturn, 0, [], [])) (v := some (.inl y)) rfl (Or.inl rfl) (by
                                        have r9 := hF9 qs ⟨qk, qi⟩ ((x + 9) * 361 + (y + 9) * 19 + (z + 9)) (by omega) (by simp [ptN]; omega) ddp hnz _ (fun a z1 z2 => (f1 a z1 z2).trans (hfz a z1 z2))
                                        rw [pt_3 (by omega) (by omega) (by omega)] at r9
                                        have e9 : pX x y z i = y := by unfold pX; rw [if_neg (by omega), if_pos (by omega)]
                                        rw [e9] at r9
                                        exact r9)
                                  · rw [c_ne (by first | assumption | (refine ⟨?_, ?_⟩ <;> omega) | (simp only [xr] at *; omega)) (by first | assumption | (refine ⟨?_, ?_⟩ <;> omega) | (simp only [xr] at *; omega))] at c71
                                    simp only [decide_eq_true_eq, decide_eq_false_iff_not, Decidable.not_not] at c71
                                    show xEx G0 cdX12_apart (some .int) (xRn G0 MT (d + 5)) Q b 72 [some (.inr (.inr 66)), some (.inl k), some (.inl i), some (.inl 9), some (.inl 9), some (.inl x), some (.inl y), some (.inl z)] [] h1
                                    refine E_s 2 (i' := 80) (ls' := [some (.inr (.inr 66)), some (.inl k), some (.inl i), some (.inl 9), some (.inl 9), some (.inl x), some (.inl y), some (.inl z)]) (sk' := [.inl x]) (h' := h1) rfl ?_
                                    exact E_ret (x := (.ireturn, 0, [], [])) (v := some (.inl x)) rfl (Or.inl rfl) (by
                                      have r9 := hF9 qs ⟨qk, qi⟩ ((x + 9) * 361 + (y + 9) * 19 + (z + 9)) (by omega) (by simp [ptN]; omega) ddp hnz _ (fun a z1 z2 => (f1 a z1 z2).trans (hfz a z1 z2))
                                      rw [pt_3 (by omega) (by omega) (by omega)] at r9
                                      have e9 : pX x y z i = x := by unfold pX; rw [if_pos (by omega)]
                                      rw [e9] at r9
                                      exact r9)
                          exact key55 _ _ (-9) (by omega) (by omega) hfy (fun q0 z1 z2 => hny q0 z1 (by omega)) (Nat.lt_succ_self _)
                    exact key49 _ _ (-9) _ (by omega) (by omega) hfx (fun q0 z1 z2 => hnx q0 z1 (by omega)) (Nat.lt_succ_self _)
              exact key43 _ _ (-9) none none (by omega) (by omega) (fun _ _ _ => rfl) (fun q0 z1 z2 => by omega) (Nat.lt_succ_self _)
        · show xEx G0 cdX12_apart (some .int) (xRn G0 MT (d + 5)) Q b 23 [some (.inr (.inr 66)), some (.inl k), some (.inl i), none, none, none, none, none] [] (xup h 66 0 0)
          exact absurd c22 (by decide)
      · rw [c_ne (by first | assumption | (refine ⟨?_, ?_⟩ <;> omega) | (simp only [xr] at *; omega)) (by first | assumption | (refine ⟨?_, ?_⟩ <;> omega) | (simp only [xr] at *; omega))] at c15
        simp only [decide_eq_true_eq, decide_eq_false_iff_not, Decidable.not_not] at c15
        show xEx G0 cdX12_apart (some .int) (xRn G0 MT (d + 5)) Q b 16 [some (.inr (.inr 66)), some (.inl k), some (.inl i), none, none, none, none, none] [.inr (.inr 66)] h
        refine E_s 5 (i' := 22) (ls' := [some (.inr (.inr 66)), some (.inl k), some (.inl i), none, none, none, none, none]) (sk' := [.inl 2]) (h' := (xup h 66 0 2)) rfl ?_
        refine E_b (x := (.ifCond .le 5, 25, [], [])) rfl rfl (fun c22 => ?_) (fun c22 => ?_)
        · show xEx G0 cdX12_apart (some .int) (xRn G0 MT (d + 5)) Q b 25 [some (.inr (.inr 66)), some (.inl k), some (.inl i), none, none, none, none, none] [] (xup h 66 0 2)
          exact absurd c22 (by decide)
        · show xEx G0 cdX12_apart (some .int) (xRn G0 MT (d + 5)) Q b 23 [some (.inr (.inr 66)), some (.inl k), some (.inl i), none, none, none, none, none] [] (xup h 66 0 2)
          refine E_s 1 (i' := 24) (ls' := [some (.inr (.inr 66)), some (.inl k), some (.inl i), none, none, none, none, none]) (sk' := [.inl 0]) (h' := (xup h 66 0 2)) rfl ?_
          exact E_ret (x := (.ireturn, 0, [], [])) (v := some (.inl 0)) rfl (Or.inl rfl) (hA (by omega) (fun y => by
            first
            | exact (o0 q1 c10) y.1
            | exact (o0 q2 c15) y.2))
  · rw [c_ne (by first | assumption | (refine ⟨?_, ?_⟩ <;> omega) | (simp only [xr] at *; omega)) (by first | assumption | (refine ⟨?_, ?_⟩ <;> omega) | (simp only [xr] at *; omega))] at c3
    simp only [decide_eq_true_eq, decide_eq_false_iff_not, Decidable.not_not] at c3
    show xEx G0 cdX12_apart (some .int) (xRn G0 MT (d + 5)) Q b 4 [some (.inr (.inr 66)), some (.inl k), some (.inl i), none, none, none, none, none] [.inr (.inr 66)] h
    refine E_s 5 (i' := 22) (ls' := [some (.inr (.inr 66)), some (.inl k), some (.inl i), none, none, none, none, none]) (sk' := [.inl 1]) (h' := (xup h 66 0 1)) rfl ?_
    refine E_b (x := (.ifCond .le 5, 25, [], [])) rfl rfl (fun c22 => ?_) (fun c22 => ?_)
    · show xEx G0 cdX12_apart (some .int) (xRn G0 MT (d + 5)) Q b 25 [some (.inr (.inr 66)), some (.inl k), some (.inl i), none, none, none, none, none] [] (xup h 66 0 1)
      exact absurd c22 (by decide)
    · show xEx G0 cdX12_apart (some .int) (xRn G0 MT (d + 5)) Q b 23 [some (.inr (.inr 66)), some (.inl k), some (.inl i), none, none, none, none, none] [] (xup h 66 0 1)
      refine E_s 1 (i' := 24) (ls' := [some (.inr (.inr 66)), some (.inl k), some (.inl i), none, none, none, none, none]) (sk' := [.inl 0]) (h' := (xup h 66 0 1)) rfl ?_
      exact E_ret (x := (.ireturn, 0, [], [])) (v := some (.inl 0)) rfl (Or.inl rfl) (hN (fun z9 => by omega))
