set_option maxHeartbeats 1000000 in
theorem m_differs0_1 (d b : Nat) (h S T : xH) (k o n0 : Int) (wt : Int → Int) (hk : xr k) (ho : xr o) (hm : h 66 1 = 1) (hR : RR h S) (hRT : RRT h T) (hF : FW n0 wt 9 S) (hT : FWT S 7 T) (h3 : 0 ≤ S 0 0 ∧ S 0 0 ≤ 300) (h4 : 0 ≤ T 0 0 ∧ T 0 0 ≤ 150) (hM0 : 0 ≤ h 66 8 ∧ h 66 8 ≤ 300) {Q : xO → xH → Prop} (hN : ¬ ((0 ≤ k ∧ k < h 66 8) ∧ (0 ≤ o ∧ o < h 66 8)) → Q (.inl (some (.inl (0)))) (xup h 66 0 1)) (hO : ((0 ≤ k ∧ k < h 66 8) ∧ (0 ≤ o ∧ o < h 66 8)) → ∀ h', (∀ a, a ≠ 94 → a ≠ 95 → h' a = xup h 66 0 0 a) → Q (.inl (some (.inl (cN (dfE S 1 k o) (ptN 1).toNat)))) h') : xRn G0 MT (d + 24) b 201 [.inr (.inr 66), .inl 0, .inl k, .inl o] h Q := by
  refine R_of (M := mX12_differs) rfl (Nat.le_of_ble_eq_true rfl) ?_
  show xEx G0 cdX12_differs (some .int) (xRn G0 MT (d + 23)) Q b 0 [some (.inr (.inr 66)), some (.inl 0), some (.inl k), some (.inl o), none, none, none, none, none, none] [] h
  refine E_s 4 (i' := 4) (ls' := [some (.inr (.inr 66)), some (.inl 0), some (.inl k), some (.inl o), none, none, none, none, none, none]) (sk' := [.inl k, .inl 0, .inr (.inr 66), .inr (.inr 66)]) (h' := h) rfl ?_
  refine E_cp (x := (.invokevirtual 295, 2, [(10, 193)], [0])) (q := fun r1 h9 => ((r1 = 1 ∧ (0 ≤ k ∧ k < h 66 8)) ∨ (r1 = 0 ∧ ¬ (0 ≤ k ∧ k < h 66 8))) ∧ h = h9) rfl rfl (Nat.le_of_ble_eq_true rfl) (m_isKept0 (d + 21) 0 h k hk hM0 (fun z => ⟨_, rfl, Or.inl ⟨rfl, z⟩, rfl⟩) (fun z => ⟨_, rfl, Or.inr ⟨rfl, z⟩, rfl⟩)) (fun r1 h9 q1 => ?_)
  obtain ⟨q1, rfl⟩ := q1
  show xEx G0 cdX12_differs (some .int) (xRn G0 MT (d + 23)) Q b 5 [some (.inr (.inr 66)), some (.inl 0), some (.inl k), some (.inl o), none, none, none, none, none, none] [.inl r1, .inr (.inr 66)] h
  refine E_b (x := (.ifCond .eq 16, 13, [], [])) rfl rfl (fun c5 => ?_) (fun c5 => ?_)
  · rw [c_eq (by first | assumption | (refine ⟨?_, ?_⟩ <;> omega) | (simp only [xr] at *; omega)) (by first | assumption | (refine ⟨?_, ?_⟩ <;> omega) | (simp only [xr] at *; omega))] at c5
    simp only [decide_eq_true_eq, decide_eq_false_iff_not, Decidable.not_not] at c5
    show xEx G0 cdX12_differs (some .int) (xRn G0 MT (d + 23)) Q b 13 [some (.inr (.inr 66)), some (.inl 0), some (.inl k), some (.inl o), none, none, none, none, none, none] [.inr (.inr 66)] h
    refine E_s 4 (i' := 17) (ls' := [some (.inr (.inr 66)), some (.inl 0), some (.inl k), some (.inl o), none, none, none, none, none, none]) (sk' := [.inl 1]) (h' := (xup h 66 0 1)) rfl ?_
    refine E_b (x := (.ifCond .le 5, 20, [], [])) rfl rfl (fun c17 => ?_) (fun c17 => ?_)
    · show xEx G0 cdX12_differs (some .int) (xRn G0 MT (d + 23)) Q b 20 [some (.inr (.inr 66)), some (.inl 0), some (.inl k), some (.inl o), none, none, none, none, none, none] [] (xup h 66 0 1)
      exact absurd c17 (by decide)
    · show xEx G0 cdX12_differs (some .int) (xRn G0 MT (d + 23)) Q b 18 [some (.inr (.inr 66)), some (.inl 0), some (.inl k), some (.inl o), none, none, none, none, none, none] [] (xup h 66 0 1)
      refine E_s 1 (i' := 19) (ls' := [some (.inr (.inr 66)), some (.inl 0), some (.inl k), some (.inl o), none, none, none, none, none, none]) (sk' := [.inl 0]) (h' := (xup h 66 0 1)) rfl ?_
      exact E_ret (x := (.ireturn, 0, [], [])) (v := some (.inl 0)) rfl (Or.inl rfl) (hN (by omega))
  · rw [c_eq (by first | assumption | (refine ⟨?_, ?_⟩ <;> omega) | (simp only [xr] at *; omega)) (by first | assumption | (refine ⟨?_, ?_⟩ <;> omega) | (simp only [xr] at *; omega))] at c5
    simp only [decide_eq_true_eq, decide_eq_false_iff_not, Decidable.not_not] at c5
    show xEx G0 cdX12_differs (some .int) (xRn G0 MT (d + 23)) Q b 6 [some (.inr (.inr 66)), some (.inl 0), some (.inl k), some (.inl o), none, none, none, none, none, none] [.inr (.inr 66)] h
    refine E_s 3 (i' := 9) (ls' := [some (.inr (.inr 66)), some (.inl 0), some (.inl k), some (.inl o), none, none, none, none, none, none]) (sk' := [.inl o, .inl 0, .inr (.inr 66), .inr (.inr 66)]) (h' := h) rfl ?_
    refine E_cp (x := (.invokevirtual 295, 2, [(10, 193)], [0])) (q := fun r2 h9 => ((r2 = 1 ∧ (0 ≤ o ∧ o < h 66 8)) ∨ (r2 = 0 ∧ ¬ (0 ≤ o ∧ o < h 66 8))) ∧ h = h9) rfl rfl (Nat.le_of_ble_eq_true rfl) (m_isKept0 (d + 21) 0 h o ho hM0 (fun z => ⟨_, rfl, Or.inl ⟨rfl, z⟩, rfl⟩) (fun z => ⟨_, rfl, Or.inr ⟨rfl, z⟩, rfl⟩)) (fun r2 h9 q2 => ?_)
    obtain ⟨q2, rfl⟩ := q2
    show xEx G0 cdX12_differs (some .int) (xRn G0 MT (d + 23)) Q b 10 [some (.inr (.inr 66)), some (.inl 0), some (.inl k), some (.inl o), none, none, none, none, none, none] [.inl r2, .inr (.inr 66)] h
    refine E_b (x := (.ifCond .eq 7, 13, [], [])) rfl rfl (fun c10 => ?_) (fun c10 => ?_)
    · rw [c_eq (by first | assumption | (refine ⟨?_, ?_⟩ <;> omega) | (simp only [xr] at *; omega)) (by first | assumption | (refine ⟨?_, ?_⟩ <;> omega) | (simp only [xr] at *; omega))] at c10
      simp only [decide_eq_true_eq, decide_eq_false_iff_not, Decidable.not_not] at c10
      show xEx G0 cdX12_differs (some .int) (xRn G0 MT (d + 23)) Q b 13 [some (.inr (.inr 66)), some (.inl 0), some (.inl k), some (.inl o), none, none, none, none, none, none] [.inr (.inr 66)] h
      refine E_s 4 (i' := 17) (ls' := [some (.inr (.inr 66)), some (.inl 0), some (.inl k), some (.inl o), none, none, none, none, none, none]) (sk' := [.inl 1]) (h' := (xup h 66 0 1)) rfl ?_
      refine E_b (x := (.ifCond .le 5, 20, [], [])) rfl rfl (fun c17 => ?_) (fun c17 => ?_)
      · show xEx G0 cdX12_differs (some .int) (xRn G0 MT (d + 23)) Q b 20 [some (.inr (.inr 66)), some (.inl 0), some (.inl k), some (.inl o), none, none, none, none, none, none] [] (xup h 66 0 1)
        exact absurd c17 (by decide)
      · show xEx G0 cdX12_differs (some .int) (xRn G0 MT (d + 23)) Q b 18 [some (.inr (.inr 66)), some (.inl 0), some (.inl k), some (.inl o), none, none, none, none, none, none] [] (xup h 66 0 1)
        refine E_s 1 (i' := 19) (ls' := [some (.inr (.inr 66)), some (.inl 0), some (.inl k), some (.inl o), none, none, none, none, none, none]) (sk' := [.inl 0]) (h' := (xup h 66 0 1)) rfl ?_
        exact E_ret (x := (.ireturn, 0, [], [])) (v := some (.inl 0)) rfl (Or.inl rfl) (hN (by omega))
    · rw [c_eq (by first | assumption | (refine ⟨?_, ?_⟩ <;> omega) | (simp only [xr] at *; omega)) (by first | assumption | (refine ⟨?_, ?_⟩ <;> omega) | (simp only [xr] at *; omega))] at c10
      simp only [decide_eq_true_eq, decide_eq_false_iff_not, Decidable.not_not] at c10
      show xEx G0 cdX12_differs (some .int) (xRn G0 MT (d + 23)) Q b 11 [some (.inr (.inr 66)), some (.inl 0), some (.inl k), some (.inl o), none, none, none, none, none, none] [.inr (.inr 66)] h
      refine E_s 5 (i' := 17) (ls' := [some (.inr (.inr 66)), some (.inl 0), some (.inl k), some (.inl o), none, none, none, none, none, none]) (sk' := [.inl 0]) (h' := (xup h 66 0 0)) rfl ?_
      refine E_b (x := (.ifCond .le 5, 20, [], [])) rfl rfl (fun c17 => ?_) (fun c17 => ?_)
      · show xEx G0 cdX12_differs (some .int) (xRn G0 MT (d + 23)) Q b 20 [some (.inr (.inr 66)), some (.inl 0), some (.inl k), some (.inl o), none, none, none, none, none, none] [] (xup h 66 0 0)
        have kk : (0 ≤ k ∧ k < h 66 8) ∧ (0 ≤ o ∧ o < h 66 8) := by omega
        refine E_s 3 (i' := 23) (ls' := [some (.inr (.inr 66)), some (.inl 0), some (.inl k), some (.inl o), none, none, none, none, none, none]) (sk' := [.inl 1, .inl (h 66 1)]) (h' := (xup h 66 0 0)) rfl ?_
        refine E_b (x := (.if_icmp .le 8, 26, [], [])) rfl rfl (fun c23 => ?_) (fun c23 => ?_)
        · rw [c_le (by first | assumption | (refine ⟨?_, ?_⟩ <;> omega) | (simp only [xr] at *; omega)) (by first | assumption | (refine ⟨?_, ?_⟩ <;> omega) | (simp only [xr] at *; omega))] at c23
          simp only [decide_eq_true_eq, decide_eq_false_iff_not, Decidable.not_not] at c23
          show xEx G0 cdX12_differs (some .int) (xRn G0 MT (d + 23)) Q b 26 [some (.inr (.inr 66)), some (.inl 0), some (.inl k), some (.inl o), none, none, none, none, none, none] [] (xup h 66 0 0)
          refine E_s 5 (i' := 31) (ls' := [some (.inr (.inr 66)), some (.inl 0), some (.inl k), some (.inl o), some (.inl 0), none, none, none, none, none]) (sk' := [.inl 2, .inl (h 66 1)]) (h' := (xup h 66 0 0)) rfl ?_
          refine E_b (x := (.if_icmp .le 8, 34, [], [])) rfl rfl (fun c31 => ?_) (fun c31 => ?_)
          · rw [c_le (by first | assumption | (refine ⟨?_, ?_⟩ <;> omega) | (simp only [xr] at *; omega)) (by first | assumption | (refine ⟨?_, ?_⟩ <;> omega) | (simp only [xr] at *; omega))] at c31
            simp only [decide_eq_true_eq, decide_eq_false_iff_not, Decidable.not_not] at c31
            show xEx G0 cdX12_differs (some .int) (xRn G0 MT (d + 23)) Q b 34 [some (.inr (.inr 66)), some (.inl 0), some (.inl k), some (.inl o), some (.inl 0), none, none, none, none, none] [] (xup h 66 0 0)
            refine E_s 6 (i' := 40) (ls' := [some (.inr (.inr 66)), some (.inl 0), some (.inl k), some (.inl o), some (.inl 0), some (.inl 0), some (.inl 0), some (.inl (-9)), none, none]) (sk' := []) (h' := (xup h 66 0 0)) rfl ?_
            have key40 : ∀ (n : Nat) (hx : xH) (n9 : Int) (x : Int) (v8 v9 : Option xV), (-9 ≤ x) → (x ≤ 10) → (∀ a, a ≠ 94 → a ≠ 95 → hx a = xup h 66 0 0 a) → (n9 = cN (dfE S 1 k o) ((x + 9) + 0 + 0).toNat) → ((10 - x).toNat) < n → xEx G0 cdX12_differs (some .int) (xRn G0 MT (d + 23)) Q b 40 [some (.inr (.inr 66)), some (.inl 0), some (.inl k), some (.inl o), some (.inl 0), some (.inl 0), some (.inl n9), some (.inl x), v8, v9] [] hx := by
              intro n
              induction n with
              | zero => intro hx n9 x v8 v9 _ _ _ _ hm; exact absurd hm (Nat.not_lt_zero _)
              | succ n ih40 =>
                intro hx n9 x v8 v9 hx0 hx9 hfx hnx hm40
                refine E_s 2 (i' := 42) (ls' := [some (.inr (.inr 66)), some (.inl 0), some (.inl k), some (.inl o), some (.inl 0), some (.inl 0), some (.inl n9), some (.inl x), v8, v9]) (sk' := [.inl 9, .inl x]) (h' := hx) rfl ?_
                refine E_b (x := (.if_icmp .gt 102, 93, [], [])) rfl rfl (fun c42 => ?_) (fun c42 => ?_)
                · rw [c_gt (by first | assumption | (refine ⟨?_, ?_⟩ <;> omega) | (simp only [xr] at *; omega)) (by first | assumption | (refine ⟨?_, ?_⟩ <;> omega) | (simp only [xr] at *; omega))] at c42
                  simp only [decide_eq_true_eq, decide_eq_false_iff_not, Decidable.not_not] at c42
                  show xEx G0 cdX12_differs (some .int) (xRn G0 MT (d + 23)) Q b 93 [some (.inr (.inr 66)), some (.inl 0), some (.inl k), some (.inl o), some (.inl 0), some (.inl 0), some (.inl n9), some (.inl x), v8, v9] [] hx
                  refine E_s 1 (i' := 94) (ls' := [some (.inr (.inr 66)), some (.inl 0), some (.inl k), some (.inl o), some (.inl 0), some (.inl 0), some (.inl n9), some (.inl x), v8, v9]) (sk' := [.inl n9]) (h' := hx) rfl ?_
                  exact E_ret (x := (.ireturn, 0, [], [])) (v := some (.inl n9)) rfl (Or.inl rfl) (by
                    have e9 : ((x + 9) + 0 + 0).toNat = (ptN 1).toNat := by simp [ptN]; omega
                    rw [hnx, e9]
                    exact hO kk _ hfx)
                · rw [c_gt (by first | assumption | (refine ⟨?_, ?_⟩ <;> omega) | (simp only [xr] at *; omega)) (by first | assumption | (refine ⟨?_, ?_⟩ <;> omega) | (simp only [xr] at *; omega))] at c42
                  simp only [decide_eq_true_eq, decide_eq_false_iff_not, Decidable.not_not] at c42
                  show xEx G0 cdX12_differs (some .int) (xRn G0 MT (d + 23)) Q b 43 [some (.inr (.inr 66)), some (.inl 0), some (.inl k), some (.inl o), some (.inl 0), some (.inl 0), some (.inl n9), some (.inl x), v8, v9] [] hx
                  refine E_s 3 (i' := 46) (ls' := [some (.inr (.inr 66)), some (.inl 0), some (.inl k), some (.inl o), some (.inl 0), some (.inl 0), some (.inl n9), some (.inl x), some (.inl (-0)), v9]) (sk' := []) (h' := hx) rfl ?_
                  have key46 : ∀ (n : Nat) (hy : xH) (n8 : Int) (y : Int) (w9 : Option xV), (-0 ≤ y) → (y ≤ 1) → (∀ a, a ≠ 94 → a ≠ 95 → hy a = xup h 66 0 0 a) → (n8 = cN (dfE S 1 k o) ((x + 9) + y + 0).toNat) → ((1 - y).toNat) < n → xEx G0 cdX12_differs (some .int) (xRn G0 MT (d + 23)) Q b 46 [some (.inr (.inr 66)), some (.inl 0), some (.inl k), some (.inl o), some (.inl 0), some (.inl 0), some (.inl n8), some (.inl x), some (.inl y), w9] [] hy := by
                    intro n
                    induction n with
                    | zero => intro hy n8 y w9 _ _ _ _ hm; exact absurd hm (Nat.not_lt_zero _)
                    | succ n ih46 =>
                      intro hy n8 y w9 hy0 hy9 hfy hny hm46
                      refine E_s 2 (i' := 48) (ls' := [some (.inr (.inr 66)), some (.inl 0), some (.inl k), some (.inl o), some (.inl 0), some (.inl 0), some (.inl n8), some (.inl x), some (.inl y), w9]) (sk' := [.inl 0, .inl y]) (h' := hy) rfl ?_
                      refine E_b (x := (.if_icmp .gt 84, 91, [], [])) rfl rfl (fun c48 => ?_) (fun c48 => ?_)
                      · rw [c_gt (by first | assumption | (refine ⟨?_, ?_⟩ <;> omega) | (simp only [xr] at *; omega)) (by first | assumption | (refine ⟨?_, ?_⟩ <;> omega) | (simp only [xr] at *; omega))] at c48
                        simp only [decide_eq_true_eq, decide_eq_false_iff_not, Decidable.not_not] at c48
                        show xEx G0 cdX12_differs (some .int) (xRn G0 MT (d + 23)) Q b 91 [some (.inr (.inr 66)), some (.inl 0), some (.inl k), some (.inl o), some (.inl 0), some (.inl 0), some (.inl n8), some (.inl x), some (.inl y), w9] [] hy
                        refine E_s 2 (i' := 40) (ls' := [some (.inr (.inr 66)), some (.inl 0), some (.inl k), some (.inl o), some (.inl 0), some (.inl 0), some (.inl n8), some (.inl (x + 1)), some (.inl y), w9]) (sk' := []) (h' := hy) rfl ?_
                        exact ih40 _ _ (x + 1) _ _ (by omega) (by omega) hfy (by rw [hny]; congr 2 <;> omega) (by omega)
                      · rw [c_gt (by first | assumption | (refine ⟨?_, ?_⟩ <;> omega) | (simp only [xr] at *; omega)) (by first | assumption | (refine ⟨?_, ?_⟩ <;> omega) | (simp only [xr] at *; omega))] at c48
                        simp only [decide_eq_true_eq, decide_eq_false_iff_not, Decidable.not_not] at c48
                        show xEx G0 cdX12_differs (some .int) (xRn G0 MT (d + 23)) Q b 49 [some (.inr (.inr 66)), some (.inl 0), some (.inl k), some (.inl o), some (.inl 0), some (.inl 0), some (.inl n8), some (.inl x), some (.inl y), w9] [] hy
                        refine E_s 3 (i' := 52) (ls' := [some (.inr (.inr 66)), some (.inl 0), some (.inl k), some (.inl o), some (.inl 0), some (.inl 0), some (.inl n8), some (.inl x), some (.inl y), some (.inl (-0))]) (sk' := []) (h' := hy) rfl ?_
                        have key52 : ∀ (n : Nat) (hz : xH) (n7 : Int) (z : Int), (-0 ≤ z) → (z ≤ 1) → (∀ a, a ≠ 94 → a ≠ 95 → hz a = xup h 66 0 0 a) → (n7 = cN (dfE S 1 k o) ((x + 9) + y + z).toNat) → ((1 - z).toNat) < n → xEx G0 cdX12_differs (some .int) (xRn G0 MT (d + 23)) Q b 52 [some (.inr (.inr 66)), some (.inl 0), some (.inl k), some (.inl o), some (.inl 0), some (.inl 0), some (.inl n7), some (.inl x), some (.inl y), some (.inl z)] [] hz := by
                          intro n
                          induction n with
                          | zero => intro hz n7 z _ _ _ _ hm; exact absurd hm (Nat.not_lt_zero _)
                          | succ n ih52 =>
                            intro hz n7 z hz0 hz9 hfz hnz hm52
                            refine E_s 2 (i' := 54) (ls' := [some (.inr (.inr 66)), some (.inl 0), some (.inl k), some (.inl o), some (.inl 0), some (.inl 0), some (.inl n7), some (.inl x), some (.inl y), some (.inl z)]) (sk' := [.inl 0, .inl z]) (h' := hz) rfl ?_
                            refine E_b (x := (.if_icmp .gt 66, 89, [], [])) rfl rfl (fun c54 => ?_) (fun c54 => ?_)
                            · rw [c_gt (by first | assumption | (refine ⟨?_, ?_⟩ <;> omega) | (simp only [xr] at *; omega)) (by first | assumption | (refine ⟨?_, ?_⟩ <;> omega) | (simp only [xr] at *; omega))] at c54
                              simp only [decide_eq_true_eq, decide_eq_false_iff_not, Decidable.not_not] at c54
                              show xEx G0 cdX12_differs (some .int) (xRn G0 MT (d + 23)) Q b 89 [some (.inr (.inr 66)), some (.inl 0), some (.inl k), some (.inl o), some (.inl 0), some (.inl 0), some (.inl n7), some (.inl x), some (.inl y), some (.inl z)] [] hz
                              refine E_s 2 (i' := 46) (ls' := [some (.inr (.inr 66)), some (.inl 0), some (.inl k), some (.inl o), some (.inl 0), some (.inl 0), some (.inl n7), some (.inl x), some (.inl (y + 1)), some (.inl z)]) (sk' := []) (h' := hz) rfl ?_
                              exact ih46 _ _ (y + 1) _ (by omega) (by omega) hfz (by rw [hnz]; congr 2 <;> omega) (by omega)
                            · rw [c_gt (by first | assumption | (refine ⟨?_, ?_⟩ <;> omega) | (simp only [xr] at *; omega)) (by first | assumption | (refine ⟨?_, ?_⟩ <;> omega) | (simp only [xr] at *; omega))] at c54
                              simp only [decide_eq_true_eq, decide_eq_false_iff_not, Decidable.not_not] at c54
                              show xEx G0 cdX12_differs (some .int) (xRn G0 MT (d + 23)) Q b 55 [some (.inr (.inr 66)), some (.inl 0), some (.inl k), some (.inl o), some (.inl 0), some (.inl 0), some (.inl n7), some (.inl x), some (.inl y), some (.inl z)] [] hz
                              refine E_s 4 (i' := 59) (ls' := [some (.inr (.inr 66)), some (.inl 0), some (.inl k), some (.inl o), some (.inl 0), some (.inl 0), some (.inl n7), some (.inl x), some (.inl y), some (.inl z)]) (sk' := [.inl z, .inl y, .inl x, .inr (.inr 66)]) (h' := hz) rfl ?_
                              refine E_cv (x := (.invokevirtual 309, 3, [(10, 198)], [0])) (q := fun h9 => (∀ a, a ≠ 94 → a ≠ 95 → h9 a = hz a) ∧ (∀ k, 0 ≤ k → k < S 0 0 → h9 94 k = VE S (pX x y z) k) ∧ (∀ t, 0 ≤ t → t < T 0 0 → h9 95 t = VU S T (pX x y z) t)) rfl rfl (Nat.le_of_ble_eq_true rfl) (m_reckons (d + 19) 0 hz S T x y z n0 wt ⟨by omega, by omega⟩ ⟨by omega, by omega⟩ ⟨by omega, by omega⟩ (RR_vh hfz hR) (RRT_vh hfz hRT) hF hT h3 h4 (fun h9 z1 z2 z3 => ⟨rfl, z1, z2, z3⟩)) (fun h1 hq => ?_)
                              obtain ⟨f1, f2, f3⟩ := hq
                              show xEx G0 cdX12_differs (some .int) (xRn G0 MT (d + 23)) Q b 60 [some (.inr (.inr 66)), some (.inl 0), some (.inl k), some (.inl o), some (.inl 0), some (.inl 0), some (.inl n7), some (.inl x), some (.inl y), some (.inl z)] [] h1
                              refine E_s 2 (i' := 62) (ls' := [some (.inr (.inr 66)), some (.inl 0), some (.inl k), some (.inl o), some (.inl 0), some (.inl 0), some (.inl n7), some (.inl x), some (.inl y), some (.inl z)]) (sk' := [.inl 0, .inl n7]) (h' := h1) rfl ?_
                              refine E_b (x := (.ifCond .eq 21, 73, [], [])) rfl rfl (fun c62 => ?_) (fun c62 => ?_)
                              · show xEx G0 cdX12_differs (some .int) (xRn G0 MT (d + 23)) Q b 73 [some (.inr (.inr 66)), some (.inl 0), some (.inl k), some (.inl o), some (.inl 0), some (.inl 0), some (.inl n7), some (.inl x), some (.inl y), some (.inl z)] [.inl n7] h1
                                have g1 := f2 k kk.1.1 (by rw [← hR.1]; exact kk.1.2)
                                have g2 := f2 o kk.2.1 (by rw [← hR.1]; exact kk.2.2)
                                have w1 : xr (h1 94 k) := by rw [g1]; exact VE_r hF (pX_r ⟨by omega, by omega⟩ ⟨by omega, by omega⟩ ⟨by omega, by omega⟩) 300 k kk.1.1 (by rw [← hR.1]; exact kk.1.2)
                                have w2 : xr (h1 94 o) := by rw [g2]; exact VE_r hF (pX_r ⟨by omega, by omega⟩ ⟨by omega, by omega⟩ ⟨by omega, by omega⟩) 300 o kk.2.1 (by rw [← hR.1]; exact kk.2.2)
                                refine E_s 3 (i' := 76) (ls' := [some (.inr (.inr 66)), some (.inl 0), some (.inl k), some (.inl o), some (.inl 0), some (.inl 0), some (.inl n7), some (.inl x), some (.inl y), some (.inl z)]) (sk' := [.inl k, .inr (.inr 94), .inl n7]) (h' := h1) rfl ?_
                                refine E_ld (x := (.iaload, 0, [], [])) (ty := .int) (n := 300) rfl rfl rfl (by omega) (by omega) ?_
                                show xEx G0 cdX12_differs (some .int) (xRn G0 MT (d + 23)) Q b 77 [some (.inr (.inr 66)), some (.inl 0), some (.inl k), some (.inl o), some (.inl 0), some (.inl 0), some (.inl n7), some (.inl x), some (.inl y), some (.inl z)] [.inl (h1 94 k), .inl n7] h1
                                refine E_s 3 (i' := 80) (ls' := [some (.inr (.inr 66)), some (.inl 0), some (.inl k), some (.inl o), some (.inl 0), some (.inl 0), some (.inl n7), some (.inl x), some (.inl y), some (.inl z)]) (sk' := [.inl o, .inr (.inr 94), .inl (h1 94 k), .inl n7]) (h' := h1) rfl ?_
                                refine E_ld (x := (.iaload, 0, [], [])) (ty := .int) (n := 300) rfl rfl rfl (by omega) (by omega) ?_
                                show xEx G0 cdX12_differs (some .int) (xRn G0 MT (d + 23)) Q b 81 [some (.inr (.inr 66)), some (.inl 0), some (.inl k), some (.inl o), some (.inl 0), some (.inl 0), some (.inl n7), some (.inl x), some (.inl y), some (.inl z)] [.inl (h1 94 o), .inl (h1 94 k), .inl n7] h1
                                refine E_b (x := (.if_icmp .eq 7, 84, [], [])) rfl rfl (fun c81 => ?_) (fun c81 => ?_)
                                · rw [c_eq (by first | exact w1 | exact w2) (by first | exact w1 | exact w2)] at c81
                                  simp only [decide_eq_true_eq, decide_eq_false_iff_not, Decidable.not_not] at c81
                                  show xEx G0 cdX12_differs (some .int) (xRn G0 MT (d + 23)) Q b 84 [some (.inr (.inr 66)), some (.inl 0), some (.inl k), some (.inl o), some (.inl 0), some (.inl 0), some (.inl n7), some (.inl x), some (.inl y), some (.inl z)] [.inl n7] h1
                                  have dd : ¬ (dfE S 1 k o) ((x + 9) + y + z) := by
                                    intro z9
                                    apply z9
                                    rw [pt_1 (by omega) (by omega) (by omega)]
                                    exact g1.symm.trans (c81.trans g2)
                                  refine E_s 4 (i' := 88) (ls' := [some (.inr (.inr 66)), some (.inl 0), some (.inl k), some (.inl o), some (.inl 0), some (.inl 0), some (.inl (n7 + 0)), some (.inl x), some (.inl y), some (.inl (z + 1))]) (sk' := []) (h' := h1) rfl ?_
                                  
                                  refine E_s 1 (i' := 52) (ls' := [some (.inr (.inr 66)), some (.inl 0), some (.inl k), some (.inl o), some (.inl 0), some (.inl 0), some (.inl (n7 + 0)), some (.inl x), some (.inl y), some (.inl (z + 1))]) (sk' := []) (h' := h1) rfl ?_
                                  exact ih52 _ _ (z + 1) (by omega) (by omega) (fun a z1 z2 => (f1 a z1 z2).trans (hfz a z1 z2)) (by
                                    have e8 : (x + 9) + y + (z + 1) = ((x + 9) + y + z) + 1 := by omega
                                    rw [e8, cN_n (by omega) dd, hnz, Int.add_zero]) (by omega)
                                · rw [c_eq (by first | exact w1 | exact w2) (by first | exact w1 | exact w2)] at c81
                                  simp only [decide_eq_true_eq, decide_eq_false_iff_not, Decidable.not_not] at c81
                                  show xEx G0 cdX12_differs (some .int) (xRn G0 MT (d + 23)) Q b 82 [some (.inr (.inr 66)), some (.inl 0), some (.inl k), some (.inl o), some (.inl 0), some (.inl 0), some (.inl n7), some (.inl x), some (.inl y), some (.inl z)] [.inl n7] h1
                                  refine E_s 1 (i' := 83) (ls' := [some (.inr (.inr 66)), some (.inl 0), some (.inl k), some (.inl o), some (.inl 0), some (.inl 0), some (.inl n7), some (.inl x), some (.inl y), some (.inl z)]) (sk' := [.inl 1, .inl n7]) (h' := h1) rfl ?_
                                  have dd : (dfE S 1 k o) ((x + 9) + y + z) := by
                                    show ¬ _ = _
                                    rw [pt_1 (by omega) (by omega) (by omega)]
                                    intro z9
                                    exact c81 (g1.trans (z9.trans g2.symm))
                                  refine E_s 4 (i' := 88) (ls' := [some (.inr (.inr 66)), some (.inl 0), some (.inl k), some (.inl o), some (.inl 0), some (.inl 0), some (.inl (n7 + 1)), some (.inl x), some (.inl y), some (.inl (z + 1))]) (sk' := []) (h' := h1) rfl ?_
                                  
                                  refine E_s 1 (i' := 52) (ls' := [some (.inr (.inr 66)), some (.inl 0), some (.inl k), some (.inl o), some (.inl 0), some (.inl 0), some (.inl (n7 + 1)), some (.inl x), some (.inl y), some (.inl (z + 1))]) (sk' := []) (h' := h1) rfl ?_
                                  exact ih52 _ _ (z + 1) (by omega) (by omega) (fun a z1 z2 => (f1 a z1 z2).trans (hfz a z1 z2)) (by
                                    have e8 : (x + 9) + y + (z + 1) = ((x + 9) + y + z) + 1 := by omega
                                    rw [e8, cN_p (by omega) dd, hnz]) (by omega)
                              · show xEx G0 cdX12_differs (some .int) (xRn G0 MT (d + 23)) Q b 63 [some (.inr (.inr 66)), some (.inl 0), some (.inl k), some (.inl o), some (.inl 0), some (.inl 0), some (.inl n7), some (.inl x), some (.inl y), some (.inl z)] [.inl n7] h1
                                exact absurd c62 (by decide)
                        exact key52 _ _ _ (-0) (by omega) (by omega) hfy (by rw [hny]; congr 2 <;> omega) (Nat.lt_succ_self _)
                  exact key46 _ _ _ (-0) _ (by omega) (by omega) hfx (by rw [hnx]; congr 2 <;> omega) (Nat.lt_succ_self _)
            exact key40 _ _ 0 (-9) none none (by omega) (by omega) (fun _ _ _ => rfl) rfl (Nat.lt_succ_self _)
          · rw [c_le (by first | assumption | (refine ⟨?_, ?_⟩ <;> omega) | (simp only [xr] at *; omega)) (by first | assumption | (refine ⟨?_, ?_⟩ <;> omega) | (simp only [xr] at *; omega))] at c31
            simp only [decide_eq_true_eq, decide_eq_false_iff_not, Decidable.not_not] at c31
            show xEx G0 cdX12_differs (some .int) (xRn G0 MT (d + 23)) Q b 32 [some (.inr (.inr 66)), some (.inl 0), some (.inl k), some (.inl o), some (.inl 0), none, none, none, none, none] [] (xup h 66 0 0)
            omega
        · rw [c_le (by first | assumption | (refine ⟨?_, ?_⟩ <;> omega) | (simp only [xr] at *; omega)) (by first | assumption | (refine ⟨?_, ?_⟩ <;> omega) | (simp only [xr] at *; omega))] at c23
          simp only [decide_eq_true_eq, decide_eq_false_iff_not, Decidable.not_not] at c23
          show xEx G0 cdX12_differs (some .int) (xRn G0 MT (d + 23)) Q b 24 [some (.inr (.inr 66)), some (.inl 0), some (.inl k), some (.inl o), none, none, none, none, none, none] [] (xup h 66 0 0)
          omega
      · show xEx G0 cdX12_differs (some .int) (xRn G0 MT (d + 23)) Q b 18 [some (.inr (.inr 66)), some (.inl 0), some (.inl k), some (.inl o), none, none, none, none, none, none] [] (xup h 66 0 0)
        exact absurd c17 (by decide)
set_option maxHeartbeats 1000000 in
theorem m_differs0_2 (d b : Nat) (h S T : xH) (k o n0 : Int) (wt : Int → Int) (hk : xr k) (ho : xr o) (hm : h 66 1 = 2) (hR : RR h S) (hRT : RRT h T) (hF : FW n0 wt 9 S) (hT : FWT S 7 T) (h3 : 0 ≤ S 0 0 ∧ S 0 0 ≤ 300) (h4 : 0 ≤ T 0 0 ∧ T 0 0 ≤ 150) (hM0 : 0 ≤ h 66 8 ∧ h 66 8 ≤ 300) {Q : xO → xH → Prop} (hN : ¬ ((0 ≤ k ∧ k < h 66 8) ∧ (0 ≤ o ∧ o < h 66 8)) → Q (.inl (some (.inl (0)))) (xup h 66 0 1)) (hO : ((0 ≤ k ∧ k < h 66 8) ∧ (0 ≤ o ∧ o < h 66 8)) → ∀ h', (∀ a, a ≠ 94 → a ≠ 95 → h' a = xup h 66 0 0 a) → Q (.inl (some (.inl (cN (dfE S 2 k o) (ptN 2).toNat)))) h') : xRn G0 MT (d + 24) b 201 [.inr (.inr 66), .inl 0, .inl k, .inl o] h Q := by
  refine R_of (M := mX12_differs) rfl (Nat.le_of_ble_eq_true rfl) ?_
  show xEx G0 cdX12_differs (some .int) (xRn G0 MT (d + 23)) Q b 0 [some (.inr (.inr 66)), some (.inl 0), some (.inl k), some (.inl o), none, none, none, none, none, none] [] h
  refine E_s 4 (i' := 4) (ls' := [some (.inr (.inr 66)), some (.inl 0), some (.inl k), some (.inl o), none, none, none, none, none, none]) (sk' := [.inl k, .inl 0, .inr (.inr 66), .inr (.inr 66)]) (h' := h) rfl ?_
  refine E_cp (x := (.invokevirtual 295, 2, [(10, 193)], [0])) (q := fun r1 h9 => ((r1 = 1 ∧ (0 ≤ k ∧ k < h 66 8)) ∨ (r1 = 0 ∧ ¬ (0 ≤ k ∧ k < h 66 8))) ∧ h = h9) rfl rfl (Nat.le_of_ble_eq_true rfl) (m_isKept0 (d + 21) 0 h k hk hM0 (fun z => ⟨_, rfl, Or.inl ⟨rfl, z⟩, rfl⟩) (fun z => ⟨_, rfl, Or.inr ⟨rfl, z⟩, rfl⟩)) (fun r1 h9 q1 => ?_)
  obtain ⟨q1, rfl⟩ := q1
  show xEx G0 cdX12_differs (some .int) (xRn G0 MT (d + 23)) Q b 5 [some (.inr (.inr 66)), some (.inl 0), some (.inl k), some (.inl o), none, none, none, none, none, none] [.inl r1, .inr (.inr 66)] h
  refine E_b (x := (.ifCond .eq 16, 13, [], [])) rfl rfl (fun c5 => ?_) (fun c5 => ?_)
  · rw [c_eq (by first | assumption | (refine ⟨?_, ?_⟩ <;> omega) | (simp only [xr] at *; omega)) (by first | assumption | (refine ⟨?_, ?_⟩ <;> omega) | (simp only [xr] at *; omega))] at c5
    simp only [decide_eq_true_eq, decide_eq_false_iff_not, Decidable.not_not] at c5
    show xEx G0 cdX12_differs (some .int) (xRn G0 MT (d + 23)) Q b 13 [some (.inr (.inr 66)), some (.inl 0), some (.inl k), some (.inl o), none, none, none, none, none, none] [.inr (.inr 66)] h
    refine E_s 4 (i' := 17) (ls' := [some (.inr (.inr 66)), some (.inl 0), some (.inl k), some (.inl o), none, none, none, none, none, none]) (sk' := [.inl 1]) (h' := (xup h 66 0 1)) rfl ?_
    refine E_b (x := (.ifCond .le 5, 20, [], [])) rfl rfl (fun c17 => ?_) (fun c17 => ?_)
    · show xEx G0 cdX12_differs (some .int) (xRn G0 MT (d + 23)) Q b 20 [some (.inr (.inr 66)), some (.inl 0), some (.inl k), some (.inl o), none, none, none, none, none, none] [] (xup h 66 0 1)
      exact absurd c17 (by decide)
    · show xEx G0 cdX12_differs (some .int) (xRn G0 MT (d + 23)) Q b 18 [some (.inr (.inr 66)), some (.inl 0), some (.inl k), some (.inl o), none, none, none, none, none, none] [] (xup h 66 0 1)
      refine E_s 1 (i' := 19) (ls' := [some (.inr (.inr 66)), some (.inl 0), some (.inl k), some (.inl o), none, none, none, none, none, none]) (sk' := [.inl 0]) (h' := (xup h 66 0 1)) rfl ?_
      exact E_ret (x := (.ireturn, 0, [], [])) (v := some (.inl 0)) rfl (Or.inl rfl) (hN (by omega))
  · rw [c_eq (by first | assumption | (refine ⟨?_, ?_⟩ <;> omega) | (simp only [xr] at *; omega)) (by first | assumption | (refine ⟨?_, ?_⟩ <;> omega) | (simp only [xr] at *; omega))] at c5
    simp only [decide_eq_true_eq, decide_eq_false_iff_not, Decidable.not_not] at c5
    show xEx G0 cdX12_differs (some .int) (xRn G0 MT (d + 23)) Q b 6 [some (.inr (.inr 66)), some (.inl 0), some (.inl k), some (.inl o), none, none, none, none, none, none] [.inr (.inr 66)] h
    refine E_s 3 (i' := 9) (ls' := [some (.inr (.inr 66)), some (.inl 0), some (.inl k), some (.inl o), none, none, none, none, none, none]) (sk' := [.inl o, .inl 0, .inr (.inr 66), .inr (.inr 66)]) (h' := h) rfl ?_
    refine E_cp (x := (.invokevirtual 295, 2, [(10, 193)], [0])) (q := fun r2 h9 => ((r2 = 1 ∧ (0 ≤ o ∧ o < h 66 8)) ∨ (r2 = 0 ∧ ¬ (0 ≤ o ∧ o < h 66 8))) ∧ h = h9) rfl rfl (Nat.le_of_ble_eq_true rfl) (m_isKept0 (d + 21) 0 h o ho hM0 (fun z => ⟨_, rfl, Or.inl ⟨rfl, z⟩, rfl⟩) (fun z => ⟨_, rfl, Or.inr ⟨rfl, z⟩, rfl⟩)) (fun r2 h9 q2 => ?_)
    obtain ⟨q2, rfl⟩ := q2
    show xEx G0 cdX12_differs (some .int) (xRn G0 MT (d + 23)) Q b 10 [some (.inr (.inr 66)), some (.inl 0), some (.inl k), some (.inl o), none, none, none, none, none, none] [.inl r2, .inr (.inr 66)] h
    refine E_b (x := (.ifCond .eq 7, 13, [], [])) rfl rfl (fun c10 => ?_) (fun c10 => ?_)
    · rw [c_eq (by first | assumption | (refine ⟨?_, ?_⟩ <;> omega) | (simp only [xr] at *; omega)) (by first | assumption | (refine ⟨?_, ?_⟩ <;> omega) | (simp only [xr] at *; omega))] at c10
      simp only [decide_eq_true_eq, decide_eq_false_iff_not, Decidable.not_not] at c10
      show xEx G0 cdX12_differs (some .int) (xRn G0 MT (d + 23)) Q b 13 [some (.inr (.inr 66)), some (.inl 0), some (.inl k), some (.inl o), none, none, none, none, none, none] [.inr (.inr 66)] h
      refine E_s 4 (i' := 17) (ls' := [some (.inr (.inr 66)), some (.inl 0), some (.inl k), some (.inl o), none, none, none, none, none, none]) (sk' := [.inl 1]) (h' := (xup h 66 0 1)) rfl ?_
      refine E_b (x := (.ifCond .le 5, 20, [], [])) rfl rfl (fun c17 => ?_) (fun c17 => ?_)
      · show xEx G0 cdX12_differs (some .int) (xRn G0 MT (d + 23)) Q b 20 [some (.inr (.inr 66)), some (.inl 0), some (.inl k), some (.inl o), none, none, none, none, none, none] [] (xup h 66 0 1)
        exact absurd c17 (by decide)
      · show xEx G0 cdX12_differs (some .int) (xRn G0 MT (d + 23)) Q b 18 [some (.inr (.inr 66)), some (.inl 0), some (.inl k), some (.inl o), none, none, none, none, none, none] [] (xup h 66 0 1)
        refine E_s 1 (i' := 19) (ls' := [some (.inr (.inr 66)), some (.inl 0), some (.inl k), some (.inl o), none, none, none, none, none, none]) (sk' := [.inl 0]) (h' := (xup h 66 0 1)) rfl ?_
        exact E_ret (x := (.ireturn, 0, [], [])) (v := some (.inl 0)) rfl (Or.inl rfl) (hN (by omega))
    · rw [c_eq (by first | assumption | (refine ⟨?_, ?_⟩ <;> omega) | (simp only [xr] at *; omega)) (by first | assumption | (refine ⟨?_, ?_⟩ <;> omega) | (simp only [xr] at *; omega))] at c10
      simp only [decide_eq_true_eq, decide_eq_false_iff_not, Decidable.not_not] at c10
      show xEx G0 cdX12_differs (some .int) (xRn G0 MT (d + 23)) Q b 11 [some (.inr (.inr 66)), some (.inl 0), some (.inl k), some (.inl o), none, none, none, none, none, none] [.inr (.inr 66)] h
      refine E_s 5 (i' := 17) (ls' := [some (.inr (.inr 66)), some (.inl 0), some (.inl k), some (.inl o), none, none, none, none, none, none]) (sk' := [.inl 0]) (h' := (xup h 66 0 0)) rfl ?_
      refine E_b (x := (.ifCond .le 5, 20, [], [])) rfl rfl (fun c17 => ?_) (fun c17 => ?_)
      · show xEx G0 cdX12_differs (some .int) (xRn G0 MT (d + 23)) Q b 20 [some (.inr (.inr 66)), some (.inl 0), some (.inl k), some (.inl o), none, none, none, none, none, none] [] (xup h 66 0 0)
        have kk : (0 ≤ k ∧ k < h 66 8) ∧ (0 ≤ o ∧ o < h 66 8) := by omega
        refine E_s 3 (i' := 23) (ls' := [some (.inr (.inr 66)), some (.inl 0), some (.inl k), some (.inl o), none, none, none, none, none, none]) (sk' := [.inl 1, .inl (h 66 1)]) (h' := (xup h 66 0 0)) rfl ?_
        refine E_b (x := (.if_icmp .le 8, 26, [], [])) rfl rfl (fun c23 => ?_) (fun c23 => ?_)
        · rw [c_le (by first | assumption | (refine ⟨?_, ?_⟩ <;> omega) | (simp only [xr] at *; omega)) (by first | assumption | (refine ⟨?_, ?_⟩ <;> omega) | (simp only [xr] at *; omega))] at c23
          simp only [decide_eq_true_eq, decide_eq_false_iff_not, Decidable.not_not] at c23
          show xEx G0 cdX12_differs (some .int) (xRn G0 MT (d + 23)) Q b 26 [some (.inr (.inr 66)), some (.inl 0), some (.inl k), some (.inl o), none, none, none, none, none, none] [] (xup h 66 0 0)
          omega
        · rw [c_le (by first | assumption | (refine ⟨?_, ?_⟩ <;> omega) | (simp only [xr] at *; omega)) (by first | assumption | (refine ⟨?_, ?_⟩ <;> omega) | (simp only [xr] at *; omega))] at c23
          simp only [decide_eq_true_eq, decide_eq_false_iff_not, Decidable.not_not] at c23
          show xEx G0 cdX12_differs (some .int) (xRn G0 MT (d + 23)) Q b 24 [some (.inr (.inr 66)), some (.inl 0), some (.inl k), some (.inl o), none, none, none, none, none, none] [] (xup h 66 0 0)
          refine E_s 6 (i' := 31) (ls' := [some (.inr (.inr 66)), some (.inl 0), some (.inl k), some (.inl o), some (.inl 9), none, none, none, none, none]) (sk' := [.inl 2, .inl (h 66 1)]) (h' := (xup h 66 0 0)) rfl ?_
          refine E_b (x := (.if_icmp .le 8, 34, [], [])) rfl rfl (fun c31 => ?_) (fun c31 => ?_)
          · rw [c_le (by first | assumption | (refine ⟨?_, ?_⟩ <;> omega) | (simp only [xr] at *; omega)) (by first | assumption | (refine ⟨?_, ?_⟩ <;> omega) | (simp only [xr] at *; omega))] at c31
            simp only [decide_eq_true_eq, decide_eq_false_iff_not, Decidable.not_not] at c31
            show xEx G0 cdX12_differs (some .int) (xRn G0 MT (d + 23)) Q b 34 [some (.inr (.inr 66)), some (.inl 0), some (.inl k), some (.inl o), some (.inl 9), none, none, none, none, none] [] (xup h 66 0 0)
            refine E_s 6 (i' := 40) (ls' := [some (.inr (.inr 66)), some (.inl 0), some (.inl k), some (.inl o), some (.inl 9), some (.inl 0), some (.inl 0), some (.inl (-9)), none, none]) (sk' := []) (h' := (xup h 66 0 0)) rfl ?_
            have key40 : ∀ (n : Nat) (hx : xH) (n9 : Int) (x : Int) (v8 v9 : Option xV), (-9 ≤ x) → (x ≤ 10) → (∀ a, a ≠ 94 → a ≠ 95 → hx a = xup h 66 0 0 a) → (n9 = cN (dfE S 2 k o) ((x + 9) * 19 + 0 + 0).toNat) → ((10 - x).toNat) < n → xEx G0 cdX12_differs (some .int) (xRn G0 MT (d + 23)) Q b 40 [some (.inr (.inr 66)), some (.inl 0), some (.inl k), some (.inl o), some (.inl 9), some (.inl 0), some (.inl n9), some (.inl x), v8, v9] [] hx := by
              intro n
              induction n with
              | zero => intro hx n9 x v8 v9 _ _ _ _ hm; exact absurd hm (Nat.not_lt_zero _)
              | succ n ih40 =>
                intro hx n9 x v8 v9 hx0 hx9 hfx hnx hm40
                refine E_s 2 (i' := 42) (ls' := [some (.inr (.inr 66)), some (.inl 0), some (.inl k), some (.inl o), some (.inl 9), some (.inl 0), some (.inl n9), some (.inl x), v8, v9]) (sk' := [.inl 9, .inl x]) (h' := hx) rfl ?_
                refine E_b (x := (.if_icmp .gt 102, 93, [], [])) rfl rfl (fun c42 => ?_) (fun c42 => ?_)
                · rw [c_gt (by first | assumption | (refine ⟨?_, ?_⟩ <;> omega) | (simp only [xr] at *; omega)) (by first | assumption | (refine ⟨?_, ?_⟩ <;> omega) | (simp only [xr] at *; omega))] at c42
                  simp only [decide_eq_true_eq, decide_eq_false_iff_not, Decidable.not_not] at c42
                  show xEx G0 cdX12_differs (some .int) (xRn G0 MT (d + 23)) Q b 93 [some (.inr (.inr 66)), some (.inl 0), some (.inl k), some (.inl o), some (.inl 9), some (.inl 0), some (.inl n9), some (.inl x), v8, v9] [] hx
                  refine E_s 1 (i' := 94) (ls' := [some (.inr (.inr 66)), some (.inl 0), some (.inl k), some (.inl o), some (.inl 9), some (.inl 0), some (.inl n9), some (.inl x), v8, v9]) (sk' := [.inl n9]) (h' := hx) rfl ?_
                  exact E_ret (x := (.ireturn, 0, [], [])) (v := some (.inl n9)) rfl (Or.inl rfl) (by
                    have e9 : ((x + 9) * 19 + 0 + 0).toNat = (ptN 2).toNat := by simp [ptN]; omega
                    rw [hnx, e9]
                    exact hO kk _ hfx)
                · rw [c_gt (by first | assumption | (refine ⟨?_, ?_⟩ <;> omega) | (simp only [xr] at *; omega)) (by first | assumption | (refine ⟨?_, ?_⟩ <;> omega) | (simp only [xr] at *; omega))] at c42
                  simp only [decide_eq_true_eq, decide_eq_false_iff_not, Decidable.not_not] at c42
                  show xEx G0 cdX12_differs (some .int) (xRn G0 MT (d + 23)) Q b 43 [some (.inr (.inr 66)), some (.inl 0), some (.inl k), some (.inl o), some (.inl 9), some (.inl 0), some (.inl n9), some (.inl x), v8, v9] [] hx
                  refine E_s 3 (i' := 46) (ls' := [some (.inr (.inr 66)), some (.inl 0), some (.inl k), some (.inl o), some (.inl 9), some (.inl 0), some (.inl n9), some (.inl x), some (.inl (-9)), v9]) (sk' := []) (h' := hx) rfl ?_
                  have key46 : ∀ (n : Nat) (hy : xH) (n8 : Int) (y : Int) (w9 : Option xV), (-9 ≤ y) → (y ≤ 10) → (∀ a, a ≠ 94 → a ≠ 95 → hy a = xup h 66 0 0 a) → (n8 = cN (dfE S 2 k o) ((x + 9) * 19 + (y + 9) + 0).toNat) → ((10 - y).toNat) < n → xEx G0 cdX12_differs (some .int) (xRn G0 MT (d + 23)) Q b 46 [some (.inr (.inr 66)), some (.inl 0), some (.inl k), some (.inl o), some (.inl 9), some (.inl 0), some (.inl n8), some (.inl x), some (.inl y), w9] [] hy := by
                    intro n
                    induction n with
                    | zero => intro hy n8 y w9 _ _ _ _ hm; exact absurd hm (Nat.not_lt_zero _)
                    | succ n ih46 =>
                      intro hy n8 y w9 hy0 hy9 hfy hny hm46
                      refine E_s 2 (i' := 48) (ls' := [some (.inr (.inr 66)), some (.inl 0), some (.inl k), some (.inl o), some (.inl 9), some (.inl 0), some (.inl n8), some (.inl x), some (.inl y), w9]) (sk' := [.inl 9, .inl y]) (h' := hy) rfl ?_
                      refine E_b (x := (.if_icmp .gt 84, 91, [], [])) rfl rfl (fun c48 => ?_) (fun c48 => ?_)
                      · rw [c_gt (by first | assumption | (refine ⟨?_, ?_⟩ <;> omega) | (simp only [xr] at *; omega)) (by first | assumption | (refine ⟨?_, ?_⟩ <;> omega) | (simp only [xr] at *; omega))] at c48
                        simp only [decide_eq_true_eq, decide_eq_false_iff_not, Decidable.not_not] at c48
                        show xEx G0 cdX12_differs (some .int) (xRn G0 MT (d + 23)) Q b 91 [some (.inr (.inr 66)), some (.inl 0), some (.inl k), some (.inl o), some (.inl 9), some (.inl 0), some (.inl n8), some (.inl x), some (.inl y), w9] [] hy
                        refine E_s 2 (i' := 40) (ls' := [some (.inr (.inr 66)), some (.inl 0), some (.inl k), some (.inl o), some (.inl 9), some (.inl 0), some (.inl n8), some (.inl (x + 1)), some (.inl y), w9]) (sk' := []) (h' := hy) rfl ?_
                        exact ih40 _ _ (x + 1) _ _ (by omega) (by omega) hfy (by rw [hny]; congr 2 <;> omega) (by omega)
                      · rw [c_gt (by first | assumption | (refine ⟨?_, ?_⟩ <;> omega) | (simp only [xr] at *; omega)) (by first | assumption | (refine ⟨?_, ?_⟩ <;> omega) | (simp only [xr] at *; omega))] at c48
                        simp only [decide_eq_true_eq, decide_eq_false_iff_not, Decidable.not_not] at c48
                        show xEx G0 cdX12_differs (some .int) (xRn G0 MT (d + 23)) Q b 49 [some (.inr (.inr 66)), some (.inl 0), some (.inl k), some (.inl o), some (.inl 9), some (.inl 0), some (.inl n8), some (.inl x), some (.inl y), w9] [] hy
                        refine E_s 3 (i' := 52) (ls' := [some (.inr (.inr 66)), some (.inl 0), some (.inl k), some (.inl o), some (.inl 9), some (.inl 0), some (.inl n8), some (.inl x), some (.inl y), some (.inl (-0))]) (sk' := []) (h' := hy) rfl ?_
                        have key52 : ∀ (n : Nat) (hz : xH) (n7 : Int) (z : Int), (-0 ≤ z) → (z ≤ 1) → (∀ a, a ≠ 94 → a ≠ 95 → hz a = xup h 66 0 0 a) → (n7 = cN (dfE S 2 k o) ((x + 9) * 19 + (y + 9) + z).toNat) → ((1 - z).toNat) < n → xEx G0 cdX12_differs (some .int) (xRn G0 MT (d + 23)) Q b 52 [some (.inr (.inr 66)), some (.inl 0), some (.inl k), some (.inl o), some (.inl 9), some (.inl 0), some (.inl n7), some (.inl x), some (.inl y), some (.inl z)] [] hz := by
                          intro n
                          induction n with
                          | zero => intro hz n7 z _ _ _ _ hm; exact absurd hm (Nat.not_lt_zero _)
                          | succ n ih52 =>
                            intro hz n7 z hz0 hz9 hfz hnz hm52
                            refine E_s 2 (i' := 54) (ls' := [some (.inr (.inr 66)), some (.inl 0), some (.inl k), some (.inl o), some (.inl 9), some (.inl 0), some (.inl n7), some (.inl x), some (.inl y), some (.inl z)]) (sk' := [.inl 0, .inl z]) (h' := hz) rfl ?_
                            refine E_b (x := (.if_icmp .gt 66, 89, [], [])) rfl rfl (fun c54 => ?_) (fun c54 => ?_)
                            · rw [c_gt (by first | assumption | (refine ⟨?_, ?_⟩ <;> omega) | (simp only [xr] at *; omega)) (by first | assumption | (refine ⟨?_, ?_⟩ <;> omega) | (simp only [xr] at *; omega))] at c54
                              simp only [decide_eq_true_eq, decide_eq_false_iff_not, Decidable.not_not] at c54
                              show xEx G0 cdX12_differs (some .int) (xRn G0 MT (d + 23)) Q b 89 [some (.inr (.inr 66)), some (.inl 0), some (.inl k), some (.inl o), some (.inl 9), some (.inl 0), some (.inl n7), some (.inl x), some (.inl y), some (.inl z)] [] hz
                              refine E_s 2 (i' := 46) (ls' := [some (.inr (.inr 66)), some (.inl 0), some (.inl k), some (.inl o), some (.inl 9), some (.inl 0), some (.inl n7), some (.inl x), some (.inl (y + 1)), some (.inl z)]) (sk' := []) (h' := hz) rfl ?_
                              exact ih46 _ _ (y + 1) _ (by omega) (by omega) hfz (by rw [hnz]; congr 2 <;> omega) (by omega)
                            · rw [c_gt (by first | assumption | (refine ⟨?_, ?_⟩ <;> omega) | (simp only [xr] at *; omega)) (by first | assumption | (refine ⟨?_, ?_⟩ <;> omega) | (simp only [xr] at *; omega))] at c54
                              simp only [decide_eq_true_eq, decide_eq_false_iff_not, Decidable.not_not] at c54
                              show xEx G0 cdX12_differs (some .int) (xRn G0 MT (d + 23)) Q b 55 [some (.inr (.inr 66)), some (.inl 0), some (.inl k), some (.inl o), some (.inl 9), some (.inl 0), some (.inl n7), some (.inl x), some (.inl y), some (.inl z)] [] hz
                              refine E_s 4 (i' := 59) (ls' := [some (.inr (.inr 66)), some (.inl 0), some (.inl k), some (.inl o), some (.inl 9), some (.inl 0), some (.inl n7), some (.inl x), some (.inl y), some (.inl z)]) (sk' := [.inl z, .inl y, .inl x, .inr (.inr 66)]) (h' := hz) rfl ?_
                              refine E_cv (x := (.invokevirtual 309, 3, [(10, 198)], [0])) (q := fun h9 => (∀ a, a ≠ 94 → a ≠ 95 → h9 a = hz a) ∧ (∀ k, 0 ≤ k → k < S 0 0 → h9 94 k = VE S (pX x y z) k) ∧ (∀ t, 0 ≤ t → t < T 0 0 → h9 95 t = VU S T (pX x y z) t)) rfl rfl (Nat.le_of_ble_eq_true rfl) (m_reckons (d + 19) 0 hz S T x y z n0 wt ⟨by omega, by omega⟩ ⟨by omega, by omega⟩ ⟨by omega, by omega⟩ (RR_vh hfz hR) (RRT_vh hfz hRT) hF hT h3 h4 (fun h9 z1 z2 z3 => ⟨rfl, z1, z2, z3⟩)) (fun h1 hq => ?_)
                              obtain ⟨f1, f2, f3⟩ := hq
                              show xEx G0 cdX12_differs (some .int) (xRn G0 MT (d + 23)) Q b 60 [some (.inr (.inr 66)), some (.inl 0), some (.inl k), some (.inl o), some (.inl 9), some (.inl 0), some (.inl n7), some (.inl x), some (.inl y), some (.inl z)] [] h1
                              refine E_s 2 (i' := 62) (ls' := [some (.inr (.inr 66)), some (.inl 0), some (.inl k), some (.inl o), some (.inl 9), some (.inl 0), some (.inl n7), some (.inl x), some (.inl y), some (.inl z)]) (sk' := [.inl 0, .inl n7]) (h' := h1) rfl ?_
                              refine E_b (x := (.ifCond .eq 21, 73, [], [])) rfl rfl (fun c62 => ?_) (fun c62 => ?_)
                              · show xEx G0 cdX12_differs (some .int) (xRn G0 MT (d + 23)) Q b 73 [some (.inr (.inr 66)), some (.inl 0), some (.inl k), some (.inl o), some (.inl 9), some (.inl 0), some (.inl n7), some (.inl x), some (.inl y), some (.inl z)] [.inl n7] h1
                                have g1 := f2 k kk.1.1 (by rw [← hR.1]; exact kk.1.2)
                                have g2 := f2 o kk.2.1 (by rw [← hR.1]; exact kk.2.2)
                                have w1 : xr (h1 94 k) := by rw [g1]; exact VE_r hF (pX_r ⟨by omega, by omega⟩ ⟨by omega, by omega⟩ ⟨by omega, by omega⟩) 300 k kk.1.1 (by rw [← hR.1]; exact kk.1.2)
                                have w2 : xr (h1 94 o) := by rw [g2]; exact VE_r hF (pX_r ⟨by omega, by omega⟩ ⟨by omega, by omega⟩ ⟨by omega, by omega⟩) 300 o kk.2.1 (by rw [← hR.1]; exact kk.2.2)
                                refine E_s 3 (i' := 76) (ls' := [some (.inr (.inr 66)), some (.inl 0), some (.inl k), some (.inl o), some (.inl 9), some (.inl 0), some (.inl n7), some (.inl x), some (.inl y), some (.inl z)]) (sk' := [.inl k, .inr (.inr 94), .inl n7]) (h' := h1) rfl ?_
                                refine E_ld (x := (.iaload, 0, [], [])) (ty := .int) (n := 300) rfl rfl rfl (by omega) (by omega) ?_
                                show xEx G0 cdX12_differs (some .int) (xRn G0 MT (d + 23)) Q b 77 [some (.inr (.inr 66)), some (.inl 0), some (.inl k), some (.inl o), some (.inl 9), some (.inl 0), some (.inl n7), some (.inl x), some (.inl y), some (.inl z)] [.inl (h1 94 k), .inl n7] h1
                                refine E_s 3 (i' := 80) (ls' := [some (.inr (.inr 66)), some (.inl 0), some (.inl k), some (.inl o), some (.inl 9), some (.inl 0), some (.inl n7), some (.inl x), some (.inl y), some (.inl z)]) (sk' := [.inl o, .inr (.inr 94), .inl (h1 94 k), .inl n7]) (h' := h1) rfl ?_
                                refine E_ld (x := (.iaload, 0, [], [])) (ty := .int) (n := 300) rfl rfl rfl (by omega) (by omega) ?_
                                show xEx G0 cdX12_differs (some .int) (xRn G0 MT (d + 23)) Q b 81 [some (.inr (.inr 66)), some (.inl 0), some (.inl k), some (.inl o), some (.inl 9), some (.inl 0), some (.inl n7), some (.inl x), some (.inl y), some (.inl z)] [.inl (h1 94 o), .inl (h1 94 k), .inl n7] h1
                                refine E_b (x := (.if_icmp .eq 7, 84, [], [])) rfl rfl (fun c81 => ?_) (fun c81 => ?_)
                                · rw [c_eq (by first | exact w1 | exact w2) (by first | exact w1 | exact w2)] at c81
                                  simp only [decide_eq_true_eq, decide_eq_false_iff_not, Decidable.not_not] at c81
                                  show xEx G0 cdX12_differs (some .int) (xRn G0 MT (d + 23)) Q b 84 [some (.inr (.inr 66)), some (.inl 0), some (.inl k), some (.inl o), some (.inl 9), some (.inl 0), some (.inl n7), some (.inl x), some (.inl y), some (.inl z)] [.inl n7] h1
                                  have dd : ¬ (dfE S 2 k o) ((x + 9) * 19 + (y + 9) + z) := by
                                    intro z9
                                    apply z9
                                    rw [pt_2 (by omega) (by omega) (by omega)]
                                    exact g1.symm.trans (c81.trans g2)
                                  refine E_s 4 (i' := 88) (ls' := [some (.inr (.inr 66)), some (.inl 0), some (.inl k), some (.inl o), some (.inl 9), some (.inl 0), some (.inl (n7 + 0)), some (.inl x), some (.inl y), some (.inl (z + 1))]) (sk' := []) (h' := h1) rfl ?_
                                  
                                  refine E_s 1 (i' := 52) (ls' := [some (.inr (.inr 66)), some (.inl 0), some (.inl k), some (.inl o), some (.inl 9), some (.inl 0), some (.inl (n7 + 0)), some (.inl x), some (.inl y), some (.inl (z + 1))]) (sk' := []) (h' := h1) rfl ?_
                                  exact ih52 _ _ (z + 1) (by omega) (by omega) (fun a z1 z2 => (f1 a z1 z2).trans (hfz a z1 z2)) (by
                                    have e8 : (x + 9) * 19 + (y + 9) + (z + 1) = ((x + 9) * 19 + (y + 9) + z) + 1 := by omega
                                    rw [e8, cN_n (by omega) dd, hnz, Int.add_zero]) (by omega)
                                · rw [c_eq (by first | exact w1 | exact w2) (by first | exact w1 | exact w2)] at c81
                                  simp only [decide_eq_true_eq, decide_eq_false_iff_not, Decidable.not_not] at c81
                                  show xEx G0 cdX12_differs (some .int) (xRn G0 MT (d + 23)) Q b 82 [some (.inr (.inr 66)), some (.inl 0), some (.inl k), some (.inl o), some (.inl 9), some (.inl 0), some (.inl n7), some (.inl x), some (.inl y), some (.inl z)] [.inl n7] h1
                                  refine E_s 1 (i' := 83) (ls' := [some (.inr (.inr 66)), some (.inl 0), some (.inl k), some (.inl o), some (.inl 9), some (.inl 0), some (.inl n7), some (.inl x), some (.inl y), some (.inl z)]) (sk' := [.inl 1, .inl n7]) (h' := h1) rfl ?_
                                  have dd : (dfE S 2 k o) ((x + 9) * 19 + (y + 9) + z) := by
                                    show ¬ _ = _
                                    rw [pt_2 (by omega) (by omega) (by omega)]
                                    intro z9
                                    exact c81 (g1.trans (z9.trans g2.symm))
                                  refine E_s 4 (i' := 88) (ls' := [some (.inr (.inr 66)), some (.inl 0), some (.inl k), some (.inl o), some (.inl 9), some (.inl 0), some (.inl (n7 + 1)), some (.inl x), some (.inl y), some (.inl (z + 1))]) (sk' := []) (h' := h1) rfl ?_
                                  
                                  refine E_s 1 (i' := 52) (ls' := [some (.inr (.inr 66)), some (.inl 0), some (.inl k), some (.inl o), some (.inl 9), some (.inl 0), some (.inl (n7 + 1)), some (.inl x), some (.inl y), some (.inl (z + 1))]) (sk' := []) (h' := h1) rfl ?_
                                  exact ih52 _ _ (z + 1) (by omega) (by omega) (fun a z1 z2 => (f1 a z1 z2).trans (hfz a z1 z2)) (by
                                    have e8 : (x + 9) * 19 + (y + 9) + (z + 1) = ((x + 9) * 19 + (y + 9) + z) + 1 := by omega
                                    rw [e8, cN_p (by omega) dd, hnz]) (by omega)
                              · show xEx G0 cdX12_differs (some .int) (xRn G0 MT (d + 23)) Q b 63 [some (.inr (.inr 66)), some (.inl 0), some (.inl k), some (.inl o), some (.inl 9), some (.inl 0), some (.inl n7), some (.inl x), some (.inl y), some (.inl z)] [.inl n7] h1
                                exact absurd c62 (by decide)
                        exact key52 _ _ _ (-0) (by omega) (by omega) hfy (by rw [hny]; congr 2 <;> omega) (Nat.lt_succ_self _)
                  exact key46 _ _ _ (-9) _ (by omega) (by omega) hfx (by rw [hnx]; congr 2 <;> omega) (Nat.lt_succ_self _)
            exact key40 _ _ 0 (-9) none none (by omega) (by omega) (fun _ _ _ => rfl) rfl (Nat.lt_succ_self _)
          · rw [c_le (by first | assumption | (refine ⟨?_, ?_⟩ <;> omega) | (simp only [xr] at *; omega)) (by first | assumption | (refine ⟨?_, ?_⟩ <;> omega) | (simp only [xr] at *; omega))] at c31
            simp only [decide_eq_true_eq, decide_eq_false_iff_not, Decidable.not_not] at c31
            show xEx G0 cdX12_differs (some .int) (xRn G0 MT (d + 23)) Q b 32 [some (.inr (.inr 66)), some (.inl 0), some (.inl k), some (.inl o), some (.inl 9), none, none, none, none, none] [] (xup h 66 0 0)
            omega
      · show xEx G0 cdX12_differs (some .int) (xRn G0 MT (d + 23)) Q b 18 [some (.inr (.inr 66)), some (.inl 0), some (.inl k), some (.inl o), none, none, none, none, none, none] [] (xup h 66 0 0)
        exact absurd c17 (by decide)
set_option maxHeartbeats 1000000 in
theorem m_differs0_3 (d b : Nat) (h S T : xH) (k o n0 : Int) (wt : Int → Int) (hk : xr k) (ho : xr o) (hm : h 66 1 = 3) (hR : RR h S) (hRT : RRT h T) (hF : FW n0 wt 9 S) (hT : FWT S 7 T) (h3 : 0 ≤ S 0 0 ∧ S 0 0 ≤ 300) (h4 : 0 ≤ T 0 0 ∧ T 0 0 ≤ 150) (hM0 : 0 ≤ h 66 8 ∧ h 66 8 ≤ 300) {Q : xO → xH → Prop} (hN : ¬ ((0 ≤ k ∧ k < h 66 8) ∧ (0 ≤ o ∧ o < h 66 8)) → Q (.inl (some (.inl (0)))) (xup h 66 0 1)) (hO : ((0 ≤ k ∧ k < h 66 8) ∧ (0 ≤ o ∧ o < h 66 8)) → ∀ h', (∀ a, a ≠ 94 → a ≠ 95 → h' a = xup h 66 0 0 a) → Q (.inl (some (.inl (cN (dfE S 3 k o) (ptN 3).toNat)))) h') : xRn G0 MT (d + 24) b 201 [.inr (.inr 66), .inl 0, .inl k, .inl o] h Q := by
  refine R_of (M := mX12_differs) rfl (Nat.le_of_ble_eq_true rfl) ?_
  show xEx G0 cdX12_differs (some .int) (xRn G0 MT (d + 23)) Q b 0 [some (.inr (.inr 66)), some (.inl 0), some (.inl k), some (.inl o), none, none, none, none, none, none] [] h
  refine E_s 4 (i' := 4) (ls' := [some (.inr (.inr 66)), some (.inl 0), some (.inl k), some (.inl o), none, none, none, none, none, none]) (sk' := [.inl k, .inl 0, .inr (.inr 66), .inr (.inr 66)]) (h' := h) rfl ?_
  refine E_cp (x := (.invokevirtual 295, 2, [(10, 193)], [0])) (q := fun r1 h9 => ((r1 = 1 ∧ (0 ≤ k ∧ k < h 66 8)) ∨ (r1 = 0 ∧ ¬ (0 ≤ k ∧ k < h 66 8))) ∧ h = h9) rfl rfl (Nat.le_of_ble_eq_true rfl) (m_isKept0 (d + 21) 0 h k hk hM0 (fun z => ⟨_, rfl, Or.inl ⟨rfl, z⟩, rfl⟩) (fun z => ⟨_, rfl, Or.inr ⟨rfl, z⟩, rfl⟩)) (fun r1 h9 q1 => ?_)
  obtain ⟨q1, rfl⟩ := q1
  show xEx G0 cdX12_differs (some .int) (xRn G0 MT (d + 23)) Q b 5 [some (.inr (.inr 66)), some (.inl 0), some (.inl k), some (.inl o), none, none, none, none, none, none] [.inl r1, .inr (.inr 66)] h
  refine E_b (x := (.ifCond .eq 16, 13, [], [])) rfl rfl (fun c5 => ?_) (fun c5 => ?_)
  · rw [c_eq (by first | assumption | (refine ⟨?_, ?_⟩ <;> omega) | (simp only [xr] at *; omega)) (by first | assumption | (refine ⟨?_, ?_⟩ <;> omega) | (simp only [xr] at *; omega))] at c5
    simp only [decide_eq_true_eq, decide_eq_false_iff_not, Decidable.not_not] at c5
    show xEx G0 cdX12_differs (some .int) (xRn G0 MT (d + 23)) Q b 13 [some (.inr (.inr 66)), some (.inl 0), some (.inl k), some (.inl o), none, none, none, none, none, none] [.inr (.inr 66)] h
    refine E_s 4 (i' := 17) (ls' := [some (.inr (.inr 66)), some (.inl 0), some (.inl k), some (.inl o), none, none, none, none, none, none]) (sk' := [.inl 1]) (h' := (xup h 66 0 1)) rfl ?_
    refine E_b (x := (.ifCond .le 5, 20, [], [])) rfl rfl (fun c17 => ?_) (fun c17 => ?_)
    · show xEx G0 cdX12_differs (some .int) (xRn G0 MT (d + 23)) Q b 20 [some (.inr (.inr 66)), some (.inl 0), some (.inl k), some (.inl o), none, none, none, none, none, none] [] (xup h 66 0 1)
      exact absurd c17 (by decide)
    · show xEx G0 cdX12_differs (some .int) (xRn G0 MT (d + 23)) Q b 18 [some (.inr (.inr 66)), some (.inl 0), some (.inl k), some (.inl o), none, none, none, none, none, none] [] (xup h 66 0 1)
      refine E_s 1 (i' := 19) (ls' := [some (.inr (.inr 66)), some (.inl 0), some (.inl k), some (.inl o), none, none, none, none, none, none]) (sk' := [.inl 0]) (h' := (xup h 66 0 1)) rfl ?_
      exact E_ret (x := (.ireturn, 0, [], [])) (v := some (.inl 0)) rfl (Or.inl rfl) (hN (by omega))
  · rw [c_eq (by first | assumption | (refine ⟨?_, ?_⟩ <;> omega) | (simp only [xr] at *; omega)) (by first | assumption | (refine ⟨?_, ?_⟩ <;> omega) | (simp only [xr] at *; omega))] at c5
    simp only [decide_eq_true_eq, decide_eq_false_iff_not, Decidable.not_not] at c5
    show xEx G0 cdX12_differs (some .int) (xRn G0 MT (d + 23)) Q b 6 [some (.inr (.inr 66)), some (.inl 0), some (.inl k), some (.inl o), none, none, none, none, none, none] [.inr (.inr 66)] h
    refine E_s 3 (i' := 9) (ls' := [some (.inr (.inr 66)), some (.inl 0), some (.inl k), some (.inl o), none, none, none, none, none, none]) (sk' := [.inl o, .inl 0, .inr (.inr 66), .inr (.inr 66)]) (h' := h) rfl ?_
    refine E_cp (x := (.invokevirtual 295, 2, [(10, 193)], [0])) (q := fun r2 h9 => ((r2 = 1 ∧ (0 ≤ o ∧ o < h 66 8)) ∨ (r2 = 0 ∧ ¬ (0 ≤ o ∧ o < h 66 8))) ∧ h = h9) rfl rfl (Nat.le_of_ble_eq_true rfl) (m_isKept0 (d + 21) 0 h o ho hM0 (fun z => ⟨_, rfl, Or.inl ⟨rfl, z⟩, rfl⟩) (fun z => ⟨_, rfl, Or.inr ⟨rfl, z⟩, rfl⟩)) (fun r2 h9 q2 => ?_)
    obtain ⟨q2, rfl⟩ := q2
    show xEx G0 cdX12_differs (some .int) (xRn G0 MT (d + 23)) Q b 10 [some (.inr (.inr 66)), some (.inl 0), some (.inl k), some (.inl o), none, none, none, none, none, none] [.inl r2, .inr (.inr 66)] h
    refine E_b (x := (.ifCond .eq 7, 13, [], [])) rfl rfl (fun c10 => ?_) (fun c10 => ?_)
    · rw [c_eq (by first | assumption | (refine ⟨?_, ?_⟩ <;> omega) | (simp only [xr] at *; omega)) (by first | assumption | (refine ⟨?_, ?_⟩ <;> omega) | (simp only [xr] at *; omega))] at c10
      simp only [decide_eq_true_eq, decide_eq_false_iff_not, Decidable.not_not] at c10
      show xEx G0 cdX12_differs (some .int) (xRn G0 MT (d + 23)) Q b 13 [some (.inr (.inr 66)), some (.inl 0), some (.inl k), some (.inl o), none, none, none, none, none, none] [.inr (.inr 66)] h
      refine E_s 4 (i' := 17) (ls' := [some (.inr (.inr 66)), some (.inl 0), some (.inl k), some (.inl o), none, none, none, none, none, none]) (sk' := [.inl 1]) (h' := (xup h 66 0 1)) rfl ?_
      refine E_b (x := (.ifCond .le 5, 20, [], [])) rfl rfl (fun c17 => ?_) (fun c17 => ?_)
      · show xEx G0 cdX12_differs (some .int) (xRn G0 MT (d + 23)) Q b 20 [some (.inr (.inr 66)), some (.inl 0), some (.inl k), some (.inl o), none, none, none, none, none, none] [] (xup h 66 0 1)
        exact absurd c17 (by decide)
      · show xEx G0 cdX12_differs (some .int) (xRn G0 MT (d + 23)) Q b 18 [some (.inr (.inr 66)), some (.inl 0), some (.inl k), some (.inl o), none, none, none, none, none, none] [] (xup h 66 0 1)
        refine E_s 1 (i' := 19) (ls' := [some (.inr (.inr 66)), some (.inl 0), some (.inl k), some (.inl o), none, none, none, none, none, none]) (sk' := [.inl 0]) (h' := (xup h 66 0 1)) rfl ?_
        exact E_ret (x := (.ireturn, 0, [], [])) (v := some (.inl 0)) rfl (Or.inl rfl) (hN (by omega))
    · rw [c_eq (by first | assumption | (refine ⟨?_, ?_⟩ <;> omega) | (simp only [xr] at *; omega)) (by first | assumption | (refine ⟨?_, ?_⟩ <;> omega) | (simp only [xr] at *; omega))] at c10
      simp only [decide_eq_true_eq, decide_eq_false_iff_not, Decidable.not_not] at c10
      show xEx G0 cdX12_differs (some .int) (xRn G0 MT (d + 23)) Q b 11 [some (.inr (.inr 66)), some (.inl 0), some (.inl k), some (.inl o), none, none, none, none, none, none] [.inr (.inr 66)] h
      refine E_s 5 (i' := 17) (ls' := [some (.inr (.inr 66)), some (.inl 0), some (.inl k), some (.inl o), none, none, none, none, none, none]) (sk' := [.inl 0]) (h' := (xup h 66 0 0)) rfl ?_
      refine E_b (x := (.ifCond .le 5, 20, [], [])) rfl rfl (fun c17 => ?_) (fun c17 => ?_)
      · show xEx G0 cdX12_differs (some .int) (xRn G0 MT (d + 23)) Q b 20 [some (.inr (.inr 66)), some (.inl 0), some (.inl k), some (.inl o), none, none, none, none, none, none] [] (xup h 66 0 0)
        have kk : (0 ≤ k ∧ k < h 66 8) ∧ (0 ≤ o ∧ o < h 66 8) := by omega
        refine E_s 3 (i' := 23) (ls' := [some (.inr (.inr 66)), some (.inl 0), some (.inl k), some (.inl o), none, none, none, none, none, none]) (sk' := [.inl 1, .inl (h 66 1)]) (h' := (xup h 66 0 0)) rfl ?_
        refine E_b (x := (.if_icmp .le 8, 26, [], [])) rfl rfl (fun c23 => ?_) (fun c23 => ?_)
        · rw [c_le (by first | assumption | (refine ⟨?_, ?_⟩ <;> omega) | (simp only [xr] at *; omega)) (by first | assumption | (refine ⟨?_, ?_⟩ <;> omega) | (simp only [xr] at *; omega))] at c23
          simp only [decide_eq_true_eq, decide_eq_false_iff_not, Decidable.not_not] at c23
          show xEx G0 cdX12_differs (some .int) (xRn G0 MT (d + 23)) Q b 26 [some (.inr (.inr 66)), some (.inl 0), some (.inl k), some (.inl o), none, none, none, none, none, none] [] (xup h 66 0 0)
          omega
        · rw [c_le (by first | assumption | (refine ⟨?_, ?_⟩ <;> omega) | (simp only [xr] at *; omega)) (by first | assumption | (refine ⟨?_, ?_⟩ <;> omega) | (simp only [xr] at *; omega))] at c23
          simp only [decide_eq_true_eq, decide_eq_false_iff_not, Decidable.not_not] at c23
          show xEx G0 cdX12_differs (some .int) (xRn G0 MT (d + 23)) Q b 24 [some (.inr (.inr 66)), some (.inl 0), some (.inl k), some (.inl o), none, none, none, none, none, none] [] (xup h 66 0 0)
          refine E_s 6 (i' := 31) (ls' := [some (.inr (.inr 66)), some (.inl 0), some (.inl k), some (.inl o), some (.inl 9), none, none, none, none, none]) (sk' := [.inl 2, .inl (h 66 1)]) (h' := (xup h 66 0 0)) rfl ?_
          refine E_b (x := (.if_icmp .le 8, 34, [], [])) rfl rfl (fun c31 => ?_) (fun c31 => ?_)
          · rw [c_le (by first | assumption | (refine ⟨?_, ?_⟩ <;> omega) | (simp only [xr] at *; omega)) (by first | assumption | (refine ⟨?_, ?_⟩ <;> omega) | (simp only [xr] at *; omega))] at c31
            simp only [decide_eq_true_eq, decide_eq_false_iff_not, Decidable.not_not] at c31
            show xEx G0 cdX12_differs (some .int) (xRn G0 MT (d + 23)) Q b 34 [some (.inr (.inr 66)), some (.inl 0), some (.inl k), some (.inl o), some (.inl 9), none, none, none, none, none] [] (xup h 66 0 0)
            omega
          · rw [c_le (by first | assumption | (refine ⟨?_, ?_⟩ <;> omega) | (simp only [xr] at *; omega)) (by first | assumption | (refine ⟨?_, ?_⟩ <;> omega) | (simp only [xr] at *; omega))] at c31
            simp only [decide_eq_true_eq, decide_eq_false_iff_not, Decidable.not_not] at c31
            show xEx G0 cdX12_differs (some .int) (xRn G0 MT (d + 23)) Q b 32 [some (.inr (.inr 66)), some (.inl 0), some (.inl k), some (.inl o), some (.inl 9), none, none, none, none, none] [] (xup h 66 0 0)
            refine E_s 7 (i' := 40) (ls' := [some (.inr (.inr 66)), some (.inl 0), some (.inl k), some (.inl o), some (.inl 9), some (.inl 9), some (.inl 0), some (.inl (-9)), none, none]) (sk' := []) (h' := (xup h 66 0 0)) rfl ?_
            have key40 : ∀ (n : Nat) (hx : xH) (n9 : Int) (x : Int) (v8 v9 : Option xV), (-9 ≤ x) → (x ≤ 10) → (∀ a, a ≠ 94 → a ≠ 95 → hx a = xup h 66 0 0 a) → (n9 = cN (dfE S 3 k o) ((x + 9) * 361 + 0 + 0).toNat) → ((10 - x).toNat) < n → xEx G0 cdX12_differs (some .int) (xRn G0 MT (d + 23)) Q b 40 [some (.inr (.inr 66)), some (.inl 0), some (.inl k), some (.inl o), some (.inl 9), some (.inl 9), some (.inl n9), some (.inl x), v8, v9] [] hx := by
              intro n
              induction n with
              | zero => intro hx n9 x v8 v9 _ _ _ _ hm; exact absurd hm (Nat.not_lt_zero _)
              | succ n ih40 =>
                intro hx n9 x v8 v9 hx0 hx9 hfx hnx hm40
                refine E_s 2 (i' := 42) (ls' := [some (.inr (.inr 66)), some (.inl 0), some (.inl k), some (.inl o), some (.inl 9), some (.inl 9), some (.inl n9), some (.inl x), v8, v9]) (sk' := [.inl 9, .inl x]) (h' := hx) rfl ?_
                refine E_b (x := (.if_icmp .gt 102, 93, [], [])) rfl rfl (fun c42 => ?_) (fun c42 => ?_)
                · rw [c_gt (by first | assumption | (refine ⟨?_, ?_⟩ <;> omega) | (simp only [xr] at *; omega)) (by first | assumption | (refine ⟨?_, ?_⟩ <;> omega) | (simp only [xr] at *; omega))] at c42
                  simp only [decide_eq_true_eq, decide_eq_false_iff_not, Decidable.not_not] at c42
                  show xEx G0 cdX12_differs (some .int) (xRn G0 MT (d + 23)) Q b 93 [some (.inr (.inr 66)), some (.inl 0), some (.inl k), some (.inl o), some (.inl 9), some (.inl 9), some (.inl n9), some (.inl x), v8, v9] [] hx
                  refine E_s 1 (i' := 94) (ls' := [some (.inr (.inr 66)), some (.inl 0), some (.inl k), some (.inl o), some (.inl 9), some (.inl 9), some (.inl n9), some (.inl x), v8, v9]) (sk' := [.inl n9]) (h' := hx) rfl ?_
                  exact E_ret (x := (.ireturn, 0, [], [])) (v := some (.inl n9)) rfl (Or.inl rfl) (by
                    have e9 : ((x + 9) * 361 + 0 + 0).toNat = (ptN 3).toNat := by simp [ptN]; omega
                    rw [hnx, e9]
                    exact hO kk _ hfx)
                · rw [c_gt (by first | assumption | (refine ⟨?_, ?_⟩ <;> omega) | (simp only [xr] at *; omega)) (by first | assumption | (refine ⟨?_, ?_⟩ <;> omega) | (simp only [xr] at *; omega))] at c42
                  simp only [decide_eq_true_eq, decide_eq_false_iff_not, Decidable.not_not] at c42
                  show xEx G0 cdX12_differs (some .int) (xRn G0 MT (d + 23)) Q b 43 [some (.inr (.inr 66)), some (.inl 0), some (.inl k), some (.inl o), some (.inl 9), some (.inl 9), some (.inl n9), some (.inl x), v8, v9] [] hx
                  refine E_s 3 (i' := 46) (ls' := [some (.inr (.inr 66)), some (.inl 0), some (.inl k), some (.inl o), some (.inl 9), some (.inl 9), some (.inl n9), some (.inl x), some (.inl (-9)), v9]) (sk' := []) (h' := hx) rfl ?_
                  have key46 : ∀ (n : Nat) (hy : xH) (n8 : Int) (y : Int) (w9 : Option xV), (-9 ≤ y) → (y ≤ 10) → (∀ a, a ≠ 94 → a ≠ 95 → hy a = xup h 66 0 0 a) → (n8 = cN (dfE S 3 k o) ((x + 9) * 361 + (y + 9) * 19 + 0).toNat) → ((10 - y).toNat) < n → xEx G0 cdX12_differs (some .int) (xRn G0 MT (d + 23)) Q b 46 [some (.inr (.inr 66)), some (.inl 0), some (.inl k), some (.inl o), some (.inl 9), some (.inl 9), some (.inl n8), some (.inl x), some (.inl y), w9] [] hy := by
                    intro n
                    induction n with
                    | zero => intro hy n8 y w9 _ _ _ _ hm; exact absurd hm (Nat.not_lt_zero _)
                    | succ n ih46 =>
                      intro hy n8 y w9 hy0 hy9 hfy hny hm46
                      refine E_s 2 (i' := 48) (ls' := [some (.inr (.inr 66)), some (.inl 0), some (.inl k), some (.inl o), some (.inl 9), some (.inl 9), some (.inl n8), some (.inl x), some (.inl y), w9]) (sk' := [.inl 9, .inl y]) (h' := hy) rfl ?_
                      refine E_b (x := (.if_icmp .gt 84, 91, [], [])) rfl rfl (fun c48 => ?_) (fun c48 => ?_)
                      · rw [c_gt (by first | assumption | (refine ⟨?_, ?_⟩ <;> omega) | (simp only [xr] at *; omega)) (by first | assumption | (refine ⟨?_, ?_⟩ <;> omega) | (simp only [xr] at *; omega))] at c48
                        simp only [decide_eq_true_eq, decide_eq_false_iff_not, Decidable.not_not] at c48
                        show xEx G0 cdX12_differs (some .int) (xRn G0 MT (d + 23)) Q b 91 [some (.inr (.inr 66)), some (.inl 0), some (.inl k), some (.inl o), some (.inl 9), some (.inl 9), some (.inl n8), some (.inl x), some (.inl y), w9] [] hy
                        refine E_s 2 (i' := 40) (ls' := [some (.inr (.inr 66)), some (.inl 0), some (.inl k), some (.inl o), some (.inl 9), some (.inl 9), some (.inl n8), some (.inl (x + 1)), some (.inl y), w9]) (sk' := []) (h' := hy) rfl ?_
                        exact ih40 _ _ (x + 1) _ _ (by omega) (by omega) hfy (by rw [hny]; congr 2 <;> omega) (by omega)
                      · rw [c_gt (by first | assumption | (refine ⟨?_, ?_⟩ <;> omega) | (simp only [xr] at *; omega)) (by first | assumption | (refine ⟨?_, ?_⟩ <;> omega) | (simp only [xr] at *; omega))] at c48
                        simp only [decide_eq_true_eq, decide_eq_false_iff_not, Decidable.not_not] at c48
                        show xEx G0 cdX12_differs (some .int) (xRn G0 MT (d + 23)) Q b 49 [some (.inr (.inr 66)), some (.inl 0), some (.inl k), some (.inl o), some (.inl 9), some (.inl 9), some (.inl n8), some (.inl x), some (.inl y), w9] [] hy
                        refine E_s 3 (i' := 52) (ls' := [some (.inr (.inr 66)), some (.inl 0), some (.inl k), some (.inl o), some (.inl 9), some (.inl 9), some (.inl n8), some (.inl x), some (.inl y), some (.inl (-9))]) (sk' := []) (h' := hy) rfl ?_
                        have key52 : ∀ (n : Nat) (hz : xH) (n7 : Int) (z : Int), (-9 ≤ z) → (z ≤ 10) → (∀ a, a ≠ 94 → a ≠ 95 → hz a = xup h 66 0 0 a) → (n7 = cN (dfE S 3 k o) ((x + 9) * 361 + (y + 9) * 19 + (z + 9)).toNat) → ((10 - z).toNat) < n → xEx G0 cdX12_differs (some .int) (xRn G0 MT (d + 23)) Q b 52 [some (.inr (.inr 66)), some (.inl 0), some (.inl k), some (.inl o), some (.inl 9), some (.inl 9), some (.inl n7), some (.inl x), some (.inl y), some (.inl z)] [] hz := by
                          intro n
                          induction n with
                          | zero => intro hz n7 z _ _ _ _ hm; exact absurd hm (Nat.not_lt_zero _)
                          | succ n ih52 =>
                            intro hz n7 z hz0 hz9 hfz hnz hm52
                            refine E_s 2 (i' := 54) (ls' := [some (.inr (.inr 66)), some (.inl 0), some (.inl k), some (.inl o), some (.inl 9), some (.inl 9), some (.inl n7), some (.inl x), some (.inl y), some (.inl z)]) (sk' := [.inl 9, .inl z]) (h' := hz) rfl ?_
                            refine E_b (x := (.if_icmp .gt 66, 89, [], [])) rfl rfl (fun c54 => ?_) (fun c54 => ?_)
                            · rw [c_gt (by first | assumption | (refine ⟨?_, ?_⟩ <;> omega) | (simp only [xr] at *; omega)) (by first | assumption | (refine ⟨?_, ?_⟩ <;> omega) | (simp only [xr] at *; omega))] at c54
                              simp only [decide_eq_true_eq, decide_eq_false_iff_not, Decidable.not_not] at c54
                              show xEx G0 cdX12_differs (some .int) (xRn G0 MT (d + 23)) Q b 89 [some (.inr (.inr 66)), some (.inl 0), some (.inl k), some (.inl o), some (.inl 9), some (.inl 9), some (.inl n7), some (.inl x), some (.inl y), some (.inl z)] [] hz
                              refine E_s 2 (i' := 46) (ls' := [some (.inr (.inr 66)), some (.inl 0), some (.inl k), some (.inl o), some (.inl 9), some (.inl 9), some (.inl n7), some (.inl x), some (.inl (y + 1)), some (.inl z)]) (sk' := []) (h' := hz) rfl ?_
                              exact ih46 _ _ (y + 1) _ (by omega) (by omega) hfz (by rw [hnz]; congr 2 <;> omega) (by omega)
                            · rw [c_gt (by first | assumption | (refine ⟨?_, ?_⟩ <;> omega) | (simp only [xr] at *; omega)) (by first | assumption | (refine ⟨?_, ?_⟩ <;> omega) | (simp only [xr] at *; omega))] at c54
                              simp only [decide_eq_true_eq, decide_eq_false_iff_not, Decidable.not_not] at c54
                              show xEx G0 cdX12_differs (some .int) (xRn G0 MT (d + 23)) Q b 55 [some (.inr (.inr 66)), some (.inl 0), some (.inl k), some (.inl o), some (.inl 9), some (.inl 9), some (.inl n7), some (.inl x), some (.inl y), some (.inl z)] [] hz
                              refine E_s 4 (i' := 59) (ls' := [some (.inr (.inr 66)), some (.inl 0), some (.inl k), some (.inl o), some (.inl 9), some (.inl 9), some (.inl n7), some (.inl x), some (.inl y), some (.inl z)]) (sk' := [.inl z, .inl y, .inl x, .inr (.inr 66)]) (h' := hz) rfl ?_
                              refine E_cv (x := (.invokevirtual 309, 3, [(10, 198)], [0])) (q := fun h9 => (∀ a, a ≠ 94 → a ≠ 95 → h9 a = hz a) ∧ (∀ k, 0 ≤ k → k < S 0 0 → h9 94 k = VE S (pX x y z) k) ∧ (∀ t, 0 ≤ t → t < T 0 0 → h9 95 t = VU S T (pX x y z) t)) rfl rfl (Nat.le_of_ble_eq_true rfl) (m_reckons (d + 19) 0 hz S T x y z n0 wt ⟨by omega, by omega⟩ ⟨by omega, by omega⟩ ⟨by omega, by omega⟩ (RR_vh hfz hR) (RRT_vh hfz hRT) hF hT h3 h4 (fun h9 z1 z2 z3 => ⟨rfl, z1, z2, z3⟩)) (fun h1 hq => ?_)
                              obtain ⟨f1, f2, f3⟩ := hq
                              show xEx G0 cdX12_differs (some .int) (xRn G0 MT (d + 23)) Q b 60 [some (.inr (.inr 66)), some (.inl 0), some (.inl k), some (.inl o), some (.inl 9), some (.inl 9), some (.inl n7), some (.inl x), some (.inl y), some (.inl z)] [] h1
                              refine E_s 2 (i' := 62) (ls' := [some (.inr (.inr 66)), some (.inl 0), some (.inl k), some (.inl o), some (.inl 9), some (.inl 9), some (.inl n7), some (.inl x), some (.inl y), some (.inl z)]) (sk' := [.inl 0, .inl n7]) (h' := h1) rfl ?_
                              refine E_b (x := (.ifCond .eq 21, 73, [], [])) rfl rfl (fun c62 => ?_) (fun c62 => ?_)
                              · show xEx G0 cdX12_differs (some .int) (xRn G0 MT (d + 23)) Q b 73 [some (.inr (.inr 66)), some (.inl 0), some (.inl k), some (.inl o), some (.inl 9), some (.inl 9), some (.inl n7), some (.inl x), some (.inl y), some (.inl z)] [.inl n7] h1
                                have g1 := f2 k kk.1.1 (by rw [← hR.1]; exact kk.1.2)
                                have g2 := f2 o kk.2.1 (by rw [← hR.1]; exact kk.2.2)
                                have w1 : xr (h1 94 k) := by rw [g1]; exact VE_r hF (pX_r ⟨by omega, by omega⟩ ⟨by omega, by omega⟩ ⟨by omega, by omega⟩) 300 k kk.1.1 (by rw [← hR.1]; exact kk.1.2)
                                have w2 : xr (h1 94 o) := by rw [g2]; exact VE_r hF (pX_r ⟨by omega, by omega⟩ ⟨by omega, by omega⟩ ⟨by omega, by omega⟩) 300 o kk.2.1 (by rw [← hR.1]; exact kk.2.2)
                                refine E_s 3 (i' := 76) (ls' := [some (.inr (.inr 66)), some (.inl 0), some (.inl k), some (.inl o), some (.inl 9), some (.inl 9), some (.inl n7), some (.inl x), some (.inl y), some (.inl z)]) (sk' := [.inl k, .inr (.inr 94), .inl n7]) (h' := h1) rfl ?_
                                refine E_ld (x := (.iaload, 0, [], [])) (ty := .int) (n := 300) rfl rfl rfl (by omega) (by omega) ?_
                                show xEx G0 cdX12_differs (some .int) (xRn G0 MT (d + 23)) Q b 77 [some (.inr (.inr 66)), some (.inl 0), some (.inl k), some (.inl o), some (.inl 9), some (.inl 9), some (.inl n7), some (.inl x), some (.inl y), some (.inl z)] [.inl (h1 94 k), .inl n7] h1
                                refine E_s 3 (i' := 80) (ls' := [some (.inr (.inr 66)), some (.inl 0), some (.inl k), some (.inl o), some (.inl 9), some (.inl 9), some (.inl n7), some (.inl x), some (.inl y), some (.inl z)]) (sk' := [.inl o, .inr (.inr 94), .inl (h1 94 k), .inl n7]) (h' := h1) rfl ?_
                                refine E_ld (x := (.iaload, 0, [], [])) (ty := .int) (n := 300) rfl rfl rfl (by omega) (by omega) ?_
                                show xEx G0 cdX12_differs (some .int) (xRn G0 MT (d + 23)) Q b 81 [some (.inr (.inr 66)), some (.inl 0), some (.inl k), some (.inl o), some (.inl 9), some (.inl 9), some (.inl n7), some (.inl x), some (.inl y), some (.inl z)] [.inl (h1 94 o), .inl (h1 94 k), .inl n7] h1
                                refine E_b (x := (.if_icmp .eq 7, 84, [], [])) rfl rfl (fun c81 => ?_) (fun c81 => ?_)
                                · rw [c_eq (by first | exact w1 | exact w2) (by first | exact w1 | exact w2)] at c81
                                  simp only [decide_eq_true_eq, decide_eq_false_iff_not, Decidable.not_not] at c81
                                  show xEx G0 cdX12_differs (some .int) (xRn G0 MT (d + 23)) Q b 84 [some (.inr (.inr 66)), some (.inl 0), some (.inl k), some (.inl o), some (.inl 9), some (.inl 9), some (.inl n7), some (.inl x), some (.inl y), some (.inl z)] [.inl n7] h1
                                  have dd : ¬ (dfE S 3 k o) ((x + 9) * 361 + (y + 9) * 19 + (z + 9)) := by
                                    intro z9
                                    apply z9
                                    rw [pt_3 (by omega) (by omega) (by omega)]
                                    exact g1.symm.trans (c81.trans g2)
                                  refine E_s 4 (i' := 88) (ls' := [some (.inr (.inr 66)), some (.inl 0), some (.inl k), some (.inl o), some (.inl 9), some (.inl 9), some (.inl (n7 + 0)), some (.inl x), some (.inl y), some (.inl (z + 1))]) (sk' := []) (h' := h1) rfl ?_
                                  
                                  refine E_s 1 (i' := 52) (ls' := [some (.inr (.inr 66)), some (.inl 0), some (.inl k), some (.inl o), some (.inl 9), some (.inl 9), some (.inl (n7 + 0)), some (.inl x), some (.inl y), some (.inl (z + 1))]) (sk' := []) (h' := h1) rfl ?_
                                  exact ih52 _ _ (z + 1) (by omega) (by omega) (fun a z1 z2 => (f1 a z1 z2).trans (hfz a z1 z2)) (by
                                    have e8 : (x + 9) * 361 + (y + 9) * 19 + ((z + 1) + 9) = ((x + 9) * 361 + (y + 9) * 19 + (z + 9)) + 1 := by omega
                                    rw [e8, cN_n (by omega) dd, hnz, Int.add_zero]) (by omega)
                                · rw [c_eq (by first | exact w1 | exact w2) (by first | exact w1 | exact w2)] at c81
                                  simp only [decide_eq_true_eq, decide_eq_false_iff_not, Decidable.not_not] at c81
                                  show xEx G0 cdX12_differs (some .int) (xRn G0 MT (d + 23)) Q b 82 [some (.inr (.inr 66)), some (.inl 0), some (.inl k), some (.inl o), some (.inl 9), some (.inl 9), some (.inl n7), some (.inl x), some (.inl y), some (.inl z)] [.inl n7] h1
                                  refine E_s 1 (i' := 83) (ls' := [some (.inr (.inr 66)), some (.inl 0), some (.inl k), some (.inl o), some (.inl 9), some (.inl 9), some (.inl n7), some (.inl x), some (.inl y), some (.inl z)]) (sk' := [.inl 1, .inl n7]) (h' := h1) rfl ?_
                                  have dd : (dfE S 3 k o) ((x + 9) * 361 + (y + 9) * 19 + (z + 9)) := by
                                    show ¬ _ = _
                                    rw [pt_3 (by omega) (by omega) (by omega)]
                                    intro z9
                                    exact c81 (g1.trans (z9.trans g2.symm))
                                  refine E_s 4 (i' := 88) (ls' := [some (.inr (.inr 66)), some (.inl 0), some (.inl k), some (.inl o), some (.inl 9), some (.inl 9), some (.inl (n7 + 1)), some (.inl x), some (.inl y), some (.inl (z + 1))]) (sk' := []) (h' := h1) rfl ?_
                                  
                                  refine E_s 1 (i' := 52) (ls' := [some (.inr (.inr 66)), some (.inl 0), some (.inl k), some (.inl o), some (.inl 9), some (.inl 9), some (.inl (n7 + 1)), some (.inl x), some (.inl y), some (.inl (z + 1))]) (sk' := []) (h' := h1) rfl ?_
                                  exact ih52 _ _ (z + 1) (by omega) (by omega) (fun a z1 z2 => (f1 a z1 z2).trans (hfz a z1 z2)) (by
                                    have e8 : (x + 9) * 361 + (y + 9) * 19 + ((z + 1) + 9) = ((x + 9) * 361 + (y + 9) * 19 + (z + 9)) + 1 := by omega
                                    rw [e8, cN_p (by omega) dd, hnz]) (by omega)
                              · show xEx G0 cdX12_differs (some .int) (xRn G0 MT (d + 23)) Q b 63 [some (.inr (.inr 66)), some (.inl 0), some (.inl k), some (.inl o), some (.inl 9), some (.inl 9), some (.inl n7), some (.inl x), some (.inl y), some (.inl z)] [.inl n7] h1
                                exact absurd c62 (by decide)
                        exact key52 _ _ _ (-9) (by omega) (by omega) hfy (by rw [hny]; congr 2 <;> omega) (Nat.lt_succ_self _)
                  exact key46 _ _ _ (-9) _ (by omega) (by omega) hfx (by rw [hnx]; congr 2 <;> omega) (Nat.lt_succ_self _)
            exact key40 _ _ 0 (-9) none none (by omega) (by omega) (fun _ _ _ => rfl) rfl (Nat.lt_succ_self _)
      · show xEx G0 cdX12_differs (some .int) (xRn G0 MT (d + 23)) Q b 18 [some (.inr (.inr 66)), some (.inl 0), some (.inl k), some (.inl o), none, none, none, none, none, none] [] (xup h 66 0 0)
        exact absurd c17 (by decide)
set_option maxHeartbeats 1000000 in
theorem m_differs1_1 (d b : Nat) (h S T : xH) (k o n0 : Int) (wt : Int → Int) (hk : xr k) (ho : xr o) (hm : h 66 1 = 1) (hR : RR h S) (hRT : RRT h T) (hF : FW n0 wt 9 S) (hT : FWT S 7 T) (h3 : 0 ≤ S 0 0 ∧ S 0 0 ≤ 300) (h4 : 0 ≤ T 0 0 ∧ T 0 0 ≤ 150) (hM1 : 0 ≤ h 66 19 ∧ h 66 19 ≤ 150) {Q : xO → xH → Prop} (hN : ¬ ((0 ≤ k ∧ k < h 66 19) ∧ (0 ≤ o ∧ o < h 66 19)) → Q (.inl (some (.inl (0)))) (xup h 66 0 1)) (hO : ((0 ≤ k ∧ k < h 66 19) ∧ (0 ≤ o ∧ o < h 66 19)) → ∀ h', (∀ a, a ≠ 94 → a ≠ 95 → h' a = xup h 66 0 0 a) → Q (.inl (some (.inl (cN (dfU S T 1 k o) (ptN 1).toNat)))) h') : xRn G0 MT (d + 24) b 201 [.inr (.inr 66), .inl 1, .inl k, .inl o] h Q := by
  refine R_of (M := mX12_differs) rfl (Nat.le_of_ble_eq_true rfl) ?_
  show xEx G0 cdX12_differs (some .int) (xRn G0 MT (d + 23)) Q b 0 [some (.inr (.inr 66)), some (.inl 1), some (.inl k), some (.inl o), none, none, none, none, none, none] [] h
  refine E_s 4 (i' := 4) (ls' := [some (.inr (.inr 66)), some (.inl 1), some (.inl k), some (.inl o), none, none, none, none, none, none]) (sk' := [.inl k, .inl 1, .inr (.inr 66), .inr (.inr 66)]) (h' := h) rfl ?_
  refine E_cp (x := (.invokevirtual 295, 2, [(10, 193)], [0])) (q := fun r1 h9 => ((r1 = 1 ∧ (0 ≤ k ∧ k < h 66 19)) ∨ (r1 = 0 ∧ ¬ (0 ≤ k ∧ k < h 66 19))) ∧ h = h9) rfl rfl (Nat.le_of_ble_eq_true rfl) (m_isKept1 (d + 21) 0 h k hk hM1 (fun z => ⟨_, rfl, Or.inl ⟨rfl, z⟩, rfl⟩) (fun z => ⟨_, rfl, Or.inr ⟨rfl, z⟩, rfl⟩)) (fun r1 h9 q1 => ?_)
  obtain ⟨q1, rfl⟩ := q1
  show xEx G0 cdX12_differs (some .int) (xRn G0 MT (d + 23)) Q b 5 [some (.inr (.inr 66)), some (.inl 1), some (.inl k), some (.inl o), none, none, none, none, none, none] [.inl r1, .inr (.inr 66)] h
  refine E_b (x := (.ifCond .eq 16, 13, [], [])) rfl rfl (fun c5 => ?_) (fun c5 => ?_)
  · rw [c_eq (by first | assumption | (refine ⟨?_, ?_⟩ <;> omega) | (simp only [xr] at *; omega)) (by first | assumption | (refine ⟨?_, ?_⟩ <;> omega) | (simp only [xr] at *; omega))] at c5
    simp only [decide_eq_true_eq, decide_eq_false_iff_not, Decidable.not_not] at c5
    show xEx G0 cdX12_differs (some .int) (xRn G0 MT (d + 23)) Q b 13 [some (.inr (.inr 66)), some (.inl 1), some (.inl k), some (.inl o), none, none, none, none, none, none] [.inr (.inr 66)] h
    refine E_s 4 (i' := 17) (ls' := [some (.inr (.inr 66)), some (.inl 1), some (.inl k), some (.inl o), none, none, none, none, none, none]) (sk' := [.inl 1]) (h' := (xup h 66 0 1)) rfl ?_
    refine E_b (x := (.ifCond .le 5, 20, [], [])) rfl rfl (fun c17 => ?_) (fun c17 => ?_)
    · show xEx G0 cdX12_differs (some .int) (xRn G0 MT (d + 23)) Q b 20 [some (.inr (.inr 66)), some (.inl 1), some (.inl k), some (.inl o), none, none, none, none, none, none] [] (xup h 66 0 1)
      exact absurd c17 (by decide)
    · show xEx G0 cdX12_differs (some .int) (xRn G0 MT (d + 23)) Q b 18 [some (.inr (.inr 66)), some (.inl 1), some (.inl k), some (.inl o), none, none, none, none, none, none] [] (xup h 66 0 1)
      refine E_s 1 (i' := 19) (ls' := [some (.inr (.inr 66)), some (.inl 1), some (.inl k), some (.inl o), none, none, none, none, none, none]) (sk' := [.inl 0]) (h' := (xup h 66 0 1)) rfl ?_
      exact E_ret (x := (.ireturn, 0, [], [])) (v := some (.inl 0)) rfl (Or.inl rfl) (hN (by omega))
  · rw [c_eq (by first | assumption | (refine ⟨?_, ?_⟩ <;> omega) | (simp only [xr] at *; omega)) (by first | assumption | (refine ⟨?_, ?_⟩ <;> omega) | (simp only [xr] at *; omega))] at c5
    simp only [decide_eq_true_eq, decide_eq_false_iff_not, Decidable.not_not] at c5
    show xEx G0 cdX12_differs (some .int) (xRn G0 MT (d + 23)) Q b 6 [some (.inr (.inr 66)), some (.inl 1), some (.inl k), some (.inl o), none, none, none, none, none, none] [.inr (.inr 66)] h
    refine E_s 3 (i' := 9) (ls' := [some (.inr (.inr 66)), some (.inl 1), some (.inl k), some (.inl o), none, none, none, none, none, none]) (sk' := [.inl o, .inl 1, .inr (.inr 66), .inr (.inr 66)]) (h' := h) rfl ?_
    refine E_cp (x := (.invokevirtual 295, 2, [(10, 193)], [0])) (q := fun r2 h9 => ((r2 = 1 ∧ (0 ≤ o ∧ o < h 66 19)) ∨ (r2 = 0 ∧ ¬ (0 ≤ o ∧ o < h 66 19))) ∧ h = h9) rfl rfl (Nat.le_of_ble_eq_true rfl) (m_isKept1 (d + 21) 0 h o ho hM1 (fun z => ⟨_, rfl, Or.inl ⟨rfl, z⟩, rfl⟩) (fun z => ⟨_, rfl, Or.inr ⟨rfl, z⟩, rfl⟩)) (fun r2 h9 q2 => ?_)
    obtain ⟨q2, rfl⟩ := q2
    show xEx G0 cdX12_differs (some .int) (xRn G0 MT (d + 23)) Q b 10 [some (.inr (.inr 66)), some (.inl 1), some (.inl k), some (.inl o), none, none, none, none, none, none] [.inl r2, .inr (.inr 66)] h
    refine E_b (x := (.ifCond .eq 7, 13, [], [])) rfl rfl (fun c10 => ?_) (fun c10 => ?_)
    · rw [c_eq (by first | assumption | (refine ⟨?_, ?_⟩ <;> omega) | (simp only [xr] at *; omega)) (by first | assumption | (refine ⟨?_, ?_⟩ <;> omega) | (simp only [xr] at *; omega))] at c10
      simp only [decide_eq_true_eq, decide_eq_false_iff_not, Decidable.not_not] at c10
      show xEx G0 cdX12_differs (some .int) (xRn G0 MT (d + 23)) Q b 13 [some (.inr (.inr 66)), some (.inl 1), some (.inl k), some (.inl o), none, none, none, none, none, none] [.inr (.inr 66)] h
      refine E_s 4 (i' := 17) (ls' := [some (.inr (.inr 66)), some (.inl 1), some (.inl k), some (.inl o), none, none, none, none, none, none]) (sk' := [.inl 1]) (h' := (xup h 66 0 1)) rfl ?_
      refine E_b (x := (.ifCond .le 5, 20, [], [])) rfl rfl (fun c17 => ?_) (fun c17 => ?_)
      · show xEx G0 cdX12_differs (some .int) (xRn G0 MT (d + 23)) Q b 20 [some (.inr (.inr 66)), some (.inl 1), some (.inl k), some (.inl o), none, none, none, none, none, none] [] (xup h 66 0 1)
        exact absurd c17 (by decide)
      · show xEx G0 cdX12_differs (some .int) (xRn G0 MT (d + 23)) Q b 18 [some (.inr (.inr 66)), some (.inl 1), some (.inl k), some (.inl o), none, none, none, none, none, none] [] (xup h 66 0 1)
        refine E_s 1 (i' := 19) (ls' := [some (.inr (.inr 66)), some (.inl 1), some (.inl k), some (.inl o), none, none, none, none, none, none]) (sk' := [.inl 0]) (h' := (xup h 66 0 1)) rfl ?_
        exact E_ret (x := (.ireturn, 0, [], [])) (v := some (.inl 0)) rfl (Or.inl rfl) (hN (by omega))
    · rw [c_eq (by first | assumption | (refine ⟨?_, ?_⟩ <;> omega) | (simp only [xr] at *; omega)) (by first | assumption | (refine ⟨?_, ?_⟩ <;> omega) | (simp only [xr] at *; omega))] at c10
      simp only [decide_eq_true_eq, decide_eq_false_iff_not, Decidable.not_not] at c10
      show xEx G0 cdX12_differs (some .int) (xRn G0 MT (d + 23)) Q b 11 [some (.inr (.inr 66)), some (.inl 1), some (.inl k), some (.inl o), none, none, none, none, none, none] [.inr (.inr 66)] h
      refine E_s 5 (i' := 17) (ls' := [some (.inr (.inr 66)), some (.inl 1), some (.inl k), some (.inl o), none, none, none, none, none, none]) (sk' := [.inl 0]) (h' := (xup h 66 0 0)) rfl ?_
      refine E_b (x := (.ifCond .le 5, 20, [], [])) rfl rfl (fun c17 => ?_) (fun c17 => ?_)
      · show xEx G0 cdX12_differs (some .int) (xRn G0 MT (d + 23)) Q b 20 [some (.inr (.inr 66)), some (.inl 1), some (.inl k), some (.inl o), none, none, none, none, none, none] [] (xup h 66 0 0)
        have kk : (0 ≤ k ∧ k < h 66 19) ∧ (0 ≤ o ∧ o < h 66 19) := by omega
        refine E_s 3 (i' := 23) (ls' := [some (.inr (.inr 66)), some (.inl 1), some (.inl k), some (.inl o), none, none, none, none, none, none]) (sk' := [.inl 1, .inl (h 66 1)]) (h' := (xup h 66 0 0)) rfl ?_
        refine E_b (x := (.if_icmp .le 8, 26, [], [])) rfl rfl (fun c23 => ?_) (fun c23 => ?_)
        · rw [c_le (by first | assumption | (refine ⟨?_, ?_⟩ <;> omega) | (simp only [xr] at *; omega)) (by first | assumption | (refine ⟨?_, ?_⟩ <;> omega) | (simp only [xr] at *; omega))] at c23
          simp only [decide_eq_true_eq, decide_eq_false_iff_not, Decidable.not_not] at c23
          show xEx G0 cdX12_differs (some .int) (xRn G0 MT (d + 23)) Q b 26 [some (.inr (.inr 66)), some (.inl 1), some (.inl k), some (.inl o), none, none, none, none, none, none] [] (xup h 66 0 0)
          refine E_s 5 (i' := 31) (ls' := [some (.inr (.inr 66)), some (.inl 1), some (.inl k), some (.inl o), some (.inl 0), none, none, none, none, none]) (sk' := [.inl 2, .inl (h 66 1)]) (h' := (xup h 66 0 0)) rfl ?_
          refine E_b (x := (.if_icmp .le 8, 34, [], [])) rfl rfl (fun c31 => ?_) (fun c31 => ?_)
          · rw [c_le (by first | assumption | (refine ⟨?_, ?_⟩ <;> omega) | (simp only [xr] at *; omega)) (by first | assumption | (refine ⟨?_, ?_⟩ <;> omega) | (simp only [xr] at *; omega))] at c31
            simp only [decide_eq_true_eq, decide_eq_false_iff_not, Decidable.not_not] at c31
            show xEx G0 cdX12_differs (some .int) (xRn G0 MT (d + 23)) Q b 34 [some (.inr (.inr 66)), some (.inl 1), some (.inl k), some (.inl o), some (.inl 0), none, none, none, none, none] [] (xup h 66 0 0)
            refine E_s 6 (i' := 40) (ls' := [some (.inr (.inr 66)), some (.inl 1), some (.inl k), some (.inl o), some (.inl 0), some (.inl 0), some (.inl 0), some (.inl (-9)), none, none]) (sk' := []) (h' := (xup h 66 0 0)) rfl ?_
            have key40 : ∀ (n : Nat) (hx : xH) (n9 : Int) (x : Int) (v8 v9 : Option xV), (-9 ≤ x) → (x ≤ 10) → (∀ a, a ≠ 94 → a ≠ 95 → hx a = xup h 66 0 0 a) → (n9 = cN (dfU S T 1 k o) ((x + 9) + 0 + 0).toNat) → ((10 - x).toNat) < n → xEx G0 cdX12_differs (some .int) (xRn G0 MT (d + 23)) Q b 40 [some (.inr (.inr 66)), some (.inl 1), some (.inl k), some (.inl o), some (.inl 0), some (.inl 0), some (.inl n9), some (.inl x), v8, v9] [] hx := by
              intro n
              induction n with
              | zero => intro hx n9 x v8 v9 _ _ _ _ hm; exact absurd hm (Nat.not_lt_zero _)
              | succ n ih40 =>
                intro hx n9 x v8 v9 hx0 hx9 hfx hnx hm40
                refine E_s 2 (i' := 42) (ls' := [some (.inr (.inr 66)), some (.inl 1), some (.inl k), some (.inl o), some (.inl 0), some (.inl 0), some (.inl n9), some (.inl x), v8, v9]) (sk' := [.inl 9, .inl x]) (h' := hx) rfl ?_
                refine E_b (x := (.if_icmp .gt 102, 93, [], [])) rfl rfl (fun c42 => ?_) (fun c42 => ?_)
                · rw [c_gt (by first | assumption | (refine ⟨?_, ?_⟩ <;> omega) | (simp only [xr] at *; omega)) (by first | assumption | (refine ⟨?_, ?_⟩ <;> omega) | (simp only [xr] at *; omega))] at c42
                  simp only [decide_eq_true_eq, decide_eq_false_iff_not, Decidable.not_not] at c42
                  show xEx G0 cdX12_differs (some .int) (xRn G0 MT (d + 23)) Q b 93 [some (.inr (.inr 66)), some (.inl 1), some (.inl k), some (.inl o), some (.inl 0), some (.inl 0), some (.inl n9), some (.inl x), v8, v9] [] hx
                  refine E_s 1 (i' := 94) (ls' := [some (.inr (.inr 66)), some (.inl 1), some (.inl k), some (.inl o), some (.inl 0), some (.inl 0), some (.inl n9), some (.inl x), v8, v9]) (sk' := [.inl n9]) (h' := hx) rfl ?_
                  exact E_ret (x := (.ireturn, 0, [], [])) (v := some (.inl n9)) rfl (Or.inl rfl) (by
                    have e9 : ((x + 9) + 0 + 0).toNat = (ptN 1).toNat := by simp [ptN]; omega
                    rw [hnx, e9]
                    exact hO kk _ hfx)
                · rw [c_gt (by first | assumption | (refine ⟨?_, ?_⟩ <;> omega) | (simp only [xr] at *; omega)) (by first | assumption | (refine ⟨?_, ?_⟩ <;> omega) | (simp only [xr] at *; omega))] at c42
                  simp only [decide_eq_true_eq, decide_eq_false_iff_not, Decidable.not_not] at c42
                  show xEx G0 cdX12_differs (some .int) (xRn G0 MT (d + 23)) Q b 43 [some (.inr (.inr 66)), some (.inl 1), some (.inl k), some (.inl o), some (.inl 0), some (.inl 0), some (.inl n9), some (.inl x), v8, v9] [] hx
                  refine E_s 3 (i' := 46) (ls' := [some (.inr (.inr 66)), some (.inl 1), some (.inl k), some (.inl o), some (.inl 0), some (.inl 0), some (.inl n9), some (.inl x), some (.inl (-0)), v9]) (sk' := []) (h' := hx) rfl ?_
                  have key46 : ∀ (n : Nat) (hy : xH) (n8 : Int) (y : Int) (w9 : Option xV), (-0 ≤ y) → (y ≤ 1) → (∀ a, a ≠ 94 → a ≠ 95 → hy a = xup h 66 0 0 a) → (n8 = cN (dfU S T 1 k o) ((x + 9) + y + 0).toNat) → ((1 - y).toNat) < n → xEx G0 cdX12_differs (some .int) (xRn G0 MT (d + 23)) Q b 46 [some (.inr (.inr 66)), some (.inl 1), some (.inl k), some (.inl o), some (.inl 0), some (.inl 0), some (.inl n8), some (.inl x), some (.inl y), w9] [] hy := by
                    intro n
                    induction n with
                    | zero => intro hy n8 y w9 _ _ _ _ hm; exact absurd hm (Nat.not_lt_zero _)
                    | succ n ih46 =>
                      intro hy n8 y w9 hy0 hy9 hfy hny hm46
                      refine E_s 2 (i' := 48) (ls' := [some (.inr (.inr 66)), some (.inl 1), some (.inl k), some (.inl o), some (.inl 0), some (.inl 0), some (.inl n8), some (.inl x), some (.inl y), w9]) (sk' := [.inl 0, .inl y]) (h' := hy) rfl ?_
                      refine E_b (x := (.if_icmp .gt 84, 91, [], [])) rfl rfl (fun c48 => ?_) (fun c48 => ?_)
                      · rw [c_gt (by first | assumption | (refine ⟨?_, ?_⟩ <;> omega) | (simp only [xr] at *; omega)) (by first | assumption | (refine ⟨?_, ?_⟩ <;> omega) | (simp only [xr] at *; omega))] at c48
                        simp only [decide_eq_true_eq, decide_eq_false_iff_not, Decidable.not_not] at c48
                        show xEx G0 cdX12_differs (some .int) (xRn G0 MT (d + 23)) Q b 91 [some (.inr (.inr 66)), some (.inl 1), some (.inl k), some (.inl o), some (.inl 0), some (.inl 0), some (.inl n8), some (.inl x), some (.inl y), w9] [] hy
                        refine E_s 2 (i' := 40) (ls' := [some (.inr (.inr 66)), some (.inl 1), some (.inl k), some (.inl o), some (.inl 0), some (.inl 0), some (.inl n8), some (.inl (x + 1)), some (.inl y), w9]) (sk' := []) (h' := hy) rfl ?_
                        exact ih40 _ _ (x + 1) _ _ (by omega) (by omega) hfy (by rw [hny]; congr 2 <;> omega) (by omega)
                      · rw [c_gt (by first | assumption | (refine ⟨?_, ?_⟩ <;> omega) | (simp only [xr] at *; omega)) (by first | assumption | (refine ⟨?_, ?_⟩ <;> omega) | (simp only [xr] at *; omega))] at c48
                        simp only [decide_eq_true_eq, decide_eq_false_iff_not, Decidable.not_not] at c48
                        show xEx G0 cdX12_differs (some .int) (xRn G0 MT (d + 23)) Q b 49 [some (.inr (.inr 66)), some (.inl 1), some (.inl k), some (.inl o), some (.inl 0), some (.inl 0), some (.inl n8), some (.inl x), some (.inl y), w9] [] hy
                        refine E_s 3 (i' := 52) (ls' := [some (.inr (.inr 66)), some (.inl 1), some (.inl k), some (.inl o), some (.inl 0), some (.inl 0), some (.inl n8), some (.inl x), some (.inl y), some (.inl (-0))]) (sk' := []) (h' := hy) rfl ?_
                        have key52 : ∀ (n : Nat) (hz : xH) (n7 : Int) (z : Int), (-0 ≤ z) → (z ≤ 1) → (∀ a, a ≠ 94 → a ≠ 95 → hz a = xup h 66 0 0 a) → (n7 = cN (dfU S T 1 k o) ((x + 9) + y + z).toNat) → ((1 - z).toNat) < n → xEx G0 cdX12_differs (some .int) (xRn G0 MT (d + 23)) Q b 52 [some (.inr (.inr 66)), some (.inl 1), some (.inl k), some (.inl o), some (.inl 0), some (.inl 0), some (.inl n7), some (.inl x), some (.inl y), some (.inl z)] [] hz := by
                          intro n
                          induction n with
                          | zero => intro hz n7 z _ _ _ _ hm; exact absurd hm (Nat.not_lt_zero _)
                          | succ n ih52 =>
                            intro hz n7 z hz0 hz9 hfz hnz hm52
                            refine E_s 2 (i' := 54) (ls' := [some (.inr (.inr 66)), some (.inl 1), some (.inl k), some (.inl o), some (.inl 0), some (.inl 0), some (.inl n7), some (.inl x), some (.inl y), some (.inl z)]) (sk' := [.inl 0, .inl z]) (h' := hz) rfl ?_
                            refine E_b (x := (.if_icmp .gt 66, 89, [], [])) rfl rfl (fun c54 => ?_) (fun c54 => ?_)
                            · rw [c_gt (by first | assumption | (refine ⟨?_, ?_⟩ <;> omega) | (simp only [xr] at *; omega)) (by first | assumption | (refine ⟨?_, ?_⟩ <;> omega) | (simp only [xr] at *; omega))] at c54
                              simp only [decide_eq_true_eq, decide_eq_false_iff_not, Decidable.not_not] at c54
                              show xEx G0 cdX12_differs (some .int) (xRn G0 MT (d + 23)) Q b 89 [some (.inr (.inr 66)), some (.inl 1), some (.inl k), some (.inl o), some (.inl 0), some (.inl 0), some (.inl n7), some (.inl x), some (.inl y), some (.inl z)] [] hz
                              refine E_s 2 (i' := 46) (ls' := [some (.inr (.inr 66)), some (.inl 1), some (.inl k), some (.inl o), some (.inl 0), some (.inl 0), some (.inl n7), some (.inl x), some (.inl (y + 1)), some (.inl z)]) (sk' := []) (h' := hz) rfl ?_
                              exact ih46 _ _ (y + 1) _ (by omega) (by omega) hfz (by rw [hnz]; congr 2 <;> omega) (by omega)
                            · rw [c_gt (by first | assumption | (refine ⟨?_, ?_⟩ <;> omega) | (simp only [xr] at *; omega)) (by first | assumption | (refine ⟨?_, ?_⟩ <;> omega) | (simp only [xr] at *; omega))] at c54
                              simp only [decide_eq_true_eq, decide_eq_false_iff_not, Decidable.not_not] at c54
                              show xEx G0 cdX12_differs (some .int) (xRn G0 MT (d + 23)) Q b 55 [some (.inr (.inr 66)), some (.inl 1), some (.inl k), some (.inl o), some (.inl 0), some (.inl 0), some (.inl n7), some (.inl x), some (.inl y), some (.inl z)] [] hz
                              refine E_s 4 (i' := 59) (ls' := [some (.inr (.inr 66)), some (.inl 1), some (.inl k), some (.inl o), some (.inl 0), some (.inl 0), some (.inl n7), some (.inl x), some (.inl y), some (.inl z)]) (sk' := [.inl z, .inl y, .inl x, .inr (.inr 66)]) (h' := hz) rfl ?_
                              refine E_cv (x := (.invokevirtual 309, 3, [(10, 198)], [0])) (q := fun h9 => (∀ a, a ≠ 94 → a ≠ 95 → h9 a = hz a) ∧ (∀ k, 0 ≤ k → k < S 0 0 → h9 94 k = VE S (pX x y z) k) ∧ (∀ t, 0 ≤ t → t < T 0 0 → h9 95 t = VU S T (pX x y z) t)) rfl rfl (Nat.le_of_ble_eq_true rfl) (m_reckons (d + 19) 0 hz S T x y z n0 wt ⟨by omega, by omega⟩ ⟨by omega, by omega⟩ ⟨by omega, by omega⟩ (RR_vh hfz hR) (RRT_vh hfz hRT) hF hT h3 h4 (fun h9 z1 z2 z3 => ⟨rfl, z1, z2, z3⟩)) (fun h1 hq => ?_)
                              obtain ⟨f1, f2, f3⟩ := hq
                              show xEx G0 cdX12_differs (some .int) (xRn G0 MT (d + 23)) Q b 60 [some (.inr (.inr 66)), some (.inl 1), some (.inl k), some (.inl o), some (.inl 0), some (.inl 0), some (.inl n7), some (.inl x), some (.inl y), some (.inl z)] [] h1
                              refine E_s 2 (i' := 62) (ls' := [some (.inr (.inr 66)), some (.inl 1), some (.inl k), some (.inl o), some (.inl 0), some (.inl 0), some (.inl n7), some (.inl x), some (.inl y), some (.inl z)]) (sk' := [.inl 1, .inl n7]) (h' := h1) rfl ?_
                              refine E_b (x := (.ifCond .eq 21, 73, [], [])) rfl rfl (fun c62 => ?_) (fun c62 => ?_)
                              · show xEx G0 cdX12_differs (some .int) (xRn G0 MT (d + 23)) Q b 73 [some (.inr (.inr 66)), some (.inl 1), some (.inl k), some (.inl o), some (.inl 0), some (.inl 0), some (.inl n7), some (.inl x), some (.inl y), some (.inl z)] [.inl n7] h1
                                exact absurd c62 (by decide)
                              · show xEx G0 cdX12_differs (some .int) (xRn G0 MT (d + 23)) Q b 63 [some (.inr (.inr 66)), some (.inl 1), some (.inl k), some (.inl o), some (.inl 0), some (.inl 0), some (.inl n7), some (.inl x), some (.inl y), some (.inl z)] [.inl n7] h1
                                have g1 := f3 k kk.1.1 (by rw [← hRT.1]; exact kk.1.2)
                                have g2 := f3 o kk.2.1 (by rw [← hRT.1]; exact kk.2.2)
                                have u1 := vU_01 S T (pX x y z) 150 k
                                have u2 := vU_01 S T (pX x y z) 150 o
                                have w1 : h1 95 k = 0 ∨ h1 95 k = 1 := by rw [g1]; exact u1
                                have w2 : h1 95 o = 0 ∨ h1 95 o = 1 := by rw [g2]; exact u2
                                refine E_s 3 (i' := 66) (ls' := [some (.inr (.inr 66)), some (.inl 1), some (.inl k), some (.inl o), some (.inl 0), some (.inl 0), some (.inl n7), some (.inl x), some (.inl y), some (.inl z)]) (sk' := [.inl k, .inr (.inr 95), .inl n7]) (h' := h1) rfl ?_
                                refine E_ld (x := (.iaload, 0, [], [])) (ty := .int) (n := 150) rfl rfl rfl (by omega) (by omega) ?_
                                show xEx G0 cdX12_differs (some .int) (xRn G0 MT (d + 23)) Q b 67 [some (.inr (.inr 66)), some (.inl 1), some (.inl k), some (.inl o), some (.inl 0), some (.inl 0), some (.inl n7), some (.inl x), some (.inl y), some (.inl z)] [.inl (h1 95 k), .inl n7] h1
                                refine E_s 3 (i' := 70) (ls' := [some (.inr (.inr 66)), some (.inl 1), some (.inl k), some (.inl o), some (.inl 0), some (.inl 0), some (.inl n7), some (.inl x), some (.inl y), some (.inl z)]) (sk' := [.inl o, .inr (.inr 95), .inl (h1 95 k), .inl n7]) (h' := h1) rfl ?_
                                refine E_ld (x := (.iaload, 0, [], [])) (ty := .int) (n := 150) rfl rfl rfl (by omega) (by omega) ?_
                                show xEx G0 cdX12_differs (some .int) (xRn G0 MT (d + 23)) Q b 71 [some (.inr (.inr 66)), some (.inl 1), some (.inl k), some (.inl o), some (.inl 0), some (.inl 0), some (.inl n7), some (.inl x), some (.inl y), some (.inl z)] [.inl (h1 95 o), .inl (h1 95 k), .inl n7] h1
                                refine E_b (x := (.if_icmp .eq 25, 84, [], [])) rfl rfl (fun c71 => ?_) (fun c71 => ?_)
                                · rw [c_eq (by first | assumption | (refine ⟨?_, ?_⟩ <;> omega) | (simp only [xr] at *; omega)) (by first | assumption | (refine ⟨?_, ?_⟩ <;> omega) | (simp only [xr] at *; omega))] at c71
                                  simp only [decide_eq_true_eq, decide_eq_false_iff_not, Decidable.not_not] at c71
                                  show xEx G0 cdX12_differs (some .int) (xRn G0 MT (d + 23)) Q b 84 [some (.inr (.inr 66)), some (.inl 1), some (.inl k), some (.inl o), some (.inl 0), some (.inl 0), some (.inl n7), some (.inl x), some (.inl y), some (.inl z)] [.inl n7] h1
                                  have dd : ¬ (dfU S T 1 k o) ((x + 9) + y + z) := by
                                    intro z9
                                    apply z9
                                    rw [pt_1 (by omega) (by omega) (by omega)]
                                    exact g1.symm.trans (c71.trans g2)
                                  refine E_s 4 (i' := 88) (ls' := [some (.inr (.inr 66)), some (.inl 1), some (.inl k), some (.inl o), some (.inl 0), some (.inl 0), some (.inl (n7 + 0)), some (.inl x), some (.inl y), some (.inl (z + 1))]) (sk' := []) (h' := h1) rfl ?_
                                  
                                  refine E_s 1 (i' := 52) (ls' := [some (.inr (.inr 66)), some (.inl 1), some (.inl k), some (.inl o), some (.inl 0), some (.inl 0), some (.inl (n7 + 0)), some (.inl x), some (.inl y), some (.inl (z + 1))]) (sk' := []) (h' := h1) rfl ?_
                                  exact ih52 _ _ (z + 1) (by omega) (by omega) (fun a z1 z2 => (f1 a z1 z2).trans (hfz a z1 z2)) (by
                                    have e8 : (x + 9) + y + (z + 1) = ((x + 9) + y + z) + 1 := by omega
                                    rw [e8, cN_n (by omega) dd, hnz, Int.add_zero]) (by omega)
                                · rw [c_eq (by first | assumption | (refine ⟨?_, ?_⟩ <;> omega) | (simp only [xr] at *; omega)) (by first | assumption | (refine ⟨?_, ?_⟩ <;> omega) | (simp only [xr] at *; omega))] at c71
                                  simp only [decide_eq_true_eq, decide_eq_false_iff_not, Decidable.not_not] at c71
                                  show xEx G0 cdX12_differs (some .int) (xRn G0 MT (d + 23)) Q b 72 [some (.inr (.inr 66)), some (.inl 1), some (.inl k), some (.inl o), some (.inl 0), some (.inl 0), some (.inl n7), some (.inl x), some (.inl y), some (.inl z)] [.inl n7] h1
                                  refine E_s 2 (i' := 83) (ls' := [some (.inr (.inr 66)), some (.inl 1), some (.inl k), some (.inl o), some (.inl 0), some (.inl 0), some (.inl n7), some (.inl x), some (.inl y), some (.inl z)]) (sk' := [.inl 1, .inl n7]) (h' := h1) rfl ?_
                                  have dd : (dfU S T 1 k o) ((x + 9) + y + z) := by
                                    show ¬ _ = _
                                    rw [pt_1 (by omega) (by omega) (by omega)]
                                    intro z9
                                    exact c71 (g1.trans (z9.trans g2.symm))
                                  refine E_s 4 (i' := 88) (ls' := [some (.inr (.inr 66)), some (.inl 1), some (.inl k), some (.inl o), some (.inl 0), some (.inl 0), some (.inl (n7 + 1)), some (.inl x), some (.inl y), some (.inl (z + 1))]) (sk' := []) (h' := h1) rfl ?_
                                  
                                  refine E_s 1 (i' := 52) (ls' := [some (.inr (.inr 66)), some (.inl 1), some (.inl k), some (.inl o), some (.inl 0), some (.inl 0), some (.inl (n7 + 1)), some (.inl x), some (.inl y), some (.inl (z + 1))]) (sk' := []) (h' := h1) rfl ?_
                                  exact ih52 _ _ (z + 1) (by omega) (by omega) (fun a z1 z2 => (f1 a z1 z2).trans (hfz a z1 z2)) (by
                                    have e8 : (x + 9) + y + (z + 1) = ((x + 9) + y + z) + 1 := by omega
                                    rw [e8, cN_p (by omega) dd, hnz]) (by omega)
                        exact key52 _ _ _ (-0) (by omega) (by omega) hfy (by rw [hny]; congr 2 <;> omega) (Nat.lt_succ_self _)
                  exact key46 _ _ _ (-0) _ (by omega) (by omega) hfx (by rw [hnx]; congr 2 <;> omega) (Nat.lt_succ_self _)
            exact key40 _ _ 0 (-9) none none (by omega) (by omega) (fun _ _ _ => rfl) rfl (Nat.lt_succ_self _)
          · rw [c_le (by first | assumption | (refine ⟨?_, ?_⟩ <;> omega) | (simp only [xr] at *; omega)) (by first | assumption | (refine ⟨?_, ?_⟩ <;> omega) | (simp only [xr] at *; omega))] at c31
            simp only [decide_eq_true_eq, decide_eq_false_iff_not, Decidable.not_not] at c31
            show xEx G0 cdX12_differs (some .int) (xRn G0 MT (d + 23)) Q b 32 [some (.inr (.inr 66)), some (.inl 1), some (.inl k), some (.inl o), some (.inl 0), none, none, none, none, none] [] (xup h 66 0 0)
            omega
        · rw [c_le (by first | assumption | (refine ⟨?_, ?_⟩ <;> omega) | (simp only [xr] at *; omega)) (by first | assumption | (refine ⟨?_, ?_⟩ <;> omega) | (simp only [xr] at *; omega))] at c23
          simp only [decide_eq_true_eq, decide_eq_false_iff_not, Decidable.not_not] at c23
          show xEx G0 cdX12_differs (some .int) (xRn G0 MT (d + 23)) Q b 24 [some (.inr (.inr 66)), some (.inl 1), some (.inl k), some (.inl o), none, none, none, none, none, none] [] (xup h 66 0 0)
          omega
      · show xEx G0 cdX12_differs (some .int) (xRn G0 MT (d + 23)) Q b 18 [some (.inr (.inr 66)), some (.inl 1), some (.inl k), some (.inl o), none, none, none, none, none, none] [] (xup h 66 0 0)
        exact absurd c17 (by decide)
set_option maxHeartbeats 1000000 in
theorem m_differs1_2 (d b : Nat) (h S T : xH) (k o n0 : Int) (wt : Int → Int) (hk : xr k) (ho : xr o) (hm : h 66 1 = 2) (hR : RR h S) (hRT : RRT h T) (hF : FW n0 wt 9 S) (hT : FWT S 7 T) (h3 : 0 ≤ S 0 0 ∧ S 0 0 ≤ 300) (h4 : 0 ≤ T 0 0 ∧ T 0 0 ≤ 150) (hM1 : 0 ≤ h 66 19 ∧ h 66 19 ≤ 150) {Q : xO → xH → Prop} (hN : ¬ ((0 ≤ k ∧ k < h 66 19) ∧ (0 ≤ o ∧ o < h 66 19)) → Q (.inl (some (.inl (0)))) (xup h 66 0 1)) (hO : ((0 ≤ k ∧ k < h 66 19) ∧ (0 ≤ o ∧ o < h 66 19)) → ∀ h', (∀ a, a ≠ 94 → a ≠ 95 → h' a = xup h 66 0 0 a) → Q (.inl (some (.inl (cN (dfU S T 2 k o) (ptN 2).toNat)))) h') : xRn G0 MT (d + 24) b 201 [.inr (.inr 66), .inl 1, .inl k, .inl o] h Q := by
  refine R_of (M := mX12_differs) rfl (Nat.le_of_ble_eq_true rfl) ?_
  show xEx G0 cdX12_differs (some .int) (xRn G0 MT (d + 23)) Q b 0 [some (.inr (.inr 66)), some (.inl 1), some (.inl k), some (.inl o), none, none, none, none, none, none] [] h
  refine E_s 4 (i' := 4) (ls' := [some (.inr (.inr 66)), some (.inl 1), some (.inl k), some (.inl o), none, none, none, none, none, none]) (sk' := [.inl k, .inl 1, .inr (.inr 66), .inr (.inr 66)]) (h' := h) rfl ?_
  refine E_cp (x := (.invokevirtual 295, 2, [(10, 193)], [0])) (q := fun r1 h9 => ((r1 = 1 ∧ (0 ≤ k ∧ k < h 66 19)) ∨ (r1 = 0 ∧ ¬ (0 ≤ k ∧ k < h 66 19))) ∧ h = h9) rfl rfl (Nat.le_of_ble_eq_true rfl) (m_isKept1 (d + 21) 0 h k hk hM1 (fun z => ⟨_, rfl, Or.inl ⟨rfl, z⟩, rfl⟩) (fun z => ⟨_, rfl, Or.inr ⟨rfl, z⟩, rfl⟩)) (fun r1 h9 q1 => ?_)
  obtain ⟨q1, rfl⟩ := q1
  show xEx G0 cdX12_differs (some .int) (xRn G0 MT (d + 23)) Q b 5 [some (.inr (.inr 66)), some (.inl 1), some (.inl k), some (.inl o), none, none, none, none, none, none] [.inl r1, .inr (.inr 66)] h
  refine E_b (x := (.ifCond .eq 16, 13, [], [])) rfl rfl (fun c5 => ?_) (fun c5 => ?_)
  · rw [c_eq (by first | assumption | (refine ⟨?_, ?_⟩ <;> omega) | (simp only [xr] at *; omega)) (by first | assumption | (refine ⟨?_, ?_⟩ <;> omega) | (simp only [xr] at *; omega))] at c5
    simp only [decide_eq_true_eq, decide_eq_false_iff_not, Decidable.not_not] at c5
    show xEx G0 cdX12_differs (some .int) (xRn G0 MT (d + 23)) Q b 13 [some (.inr (.inr 66)), some (.inl 1), some (.inl k), some (.inl o), none, none, none, none, none, none] [.inr (.inr 66)] h
    refine E_s 4 (i' := 17) (ls' := [some (.inr (.inr 66)), some (.inl 1), some (.inl k), some (.inl o), none, none, none, none, none, none]) (sk' := [.inl 1]) (h' := (xup h 66 0 1)) rfl ?_
    refine E_b (x := (.ifCond .le 5, 20, [], [])) rfl rfl (fun c17 => ?_) (fun c17 => ?_)
    · show xEx G0 cdX12_differs (some .int) (xRn G0 MT (d + 23)) Q b 20 [some (.inr (.inr 66)), some (.inl 1), some (.inl k), some (.inl o), none, none, none, none, none, none] [] (xup h 66 0 1)
      exact absurd c17 (by decide)
    · show xEx G0 cdX12_differs (some .int) (xRn G0 MT (d + 23)) Q b 18 [some (.inr (.inr 66)), some (.inl 1), some (.inl k), some (.inl o), none, none, none, none, none, none] [] (xup h 66 0 1)
      refine E_s 1 (i' := 19) (ls' := [some (.inr (.inr 66)), some (.inl 1), some (.inl k), some (.inl o), none, none, none, none, none, none]) (sk' := [.inl 0]) (h' := (xup h 66 0 1)) rfl ?_
      exact E_ret (x := (.ireturn, 0, [], [])) (v := some (.inl 0)) rfl (Or.inl rfl) (hN (by omega))
  · rw [c_eq (by first | assumption | (refine ⟨?_, ?_⟩ <;> omega) | (simp only [xr] at *; omega)) (by first | assumption | (refine ⟨?_, ?_⟩ <;> omega) | (simp only [xr] at *; omega))] at c5
    simp only [decide_eq_true_eq, decide_eq_false_iff_not, Decidable.not_not] at c5
    show xEx G0 cdX12_differs (some .int) (xRn G0 MT (d + 23)) Q b 6 [some (.inr (.inr 66)), some (.inl 1), some (.inl k), some (.inl o), none, none, none, none, none, none] [.inr (.inr 66)] h
    refine E_s 3 (i' := 9) (ls' := [some (.inr (.inr 66)), some (.inl 1), some (.inl k), some (.inl o), none, none, none, none, none, none]) (sk' := [.inl o, .inl 1, .inr (.inr 66), .inr (.inr 66)]) (h' := h) rfl ?_
    refine E_cp (x := (.invokevirtual 295, 2, [(10, 193)], [0])) (q := fun r2 h9 => ((r2 = 1 ∧ (0 ≤ o ∧ o < h 66 19)) ∨ (r2 = 0 ∧ ¬ (0 ≤ o ∧ o < h 66 19))) ∧ h = h9) rfl rfl (Nat.le_of_ble_eq_true rfl) (m_isKept1 (d + 21) 0 h o ho hM1 (fun z => ⟨_, rfl, Or.inl ⟨rfl, z⟩, rfl⟩) (fun z => ⟨_, rfl, Or.inr ⟨rfl, z⟩, rfl⟩)) (fun r2 h9 q2 => ?_)
    obtain ⟨q2, rfl⟩ := q2
    show xEx G0 cdX12_differs (some .int) (xRn G0 MT (d + 23)) Q b 10 [some (.inr (.inr 66)), some (.inl 1), some (.inl k), some (.inl o), none, none, none, none, none, none] [.inl r2, .inr (.inr 66)] h
    refine E_b (x := (.ifCond .eq 7, 13, [], [])) rfl rfl (fun c10 => ?_) (fun c10 => ?_)
    · rw [c_eq (by first | assumption | (refine ⟨?_, ?_⟩ <;> omega) | (simp only [xr] at *; omega)) (by first | assumption | (refine ⟨?_, ?_⟩ <;> omega) | (simp only [xr] at *; omega))] at c10
      simp only [decide_eq_true_eq, decide_eq_false_iff_not, Decidable.not_not] at c10
      show xEx G0 cdX12_differs (some .int) (xRn G0 MT (d + 23)) Q b 13 [some (.inr (.inr 66)), some (.inl 1), some (.inl k), some (.inl o), none, none, none, none, none, none] [.inr (.inr 66)] h
      refine E_s 4 (i' := 17) (ls' := [some (.inr (.inr 66)), some (.inl 1), some (.inl k), some (.inl o), none, none, none, none, none, none]) (sk' := [.inl 1]) (h' := (xup h 66 0 1)) rfl ?_
      refine E_b (x := (.ifCond .le 5, 20, [], [])) rfl rfl (fun c17 => ?_) (fun c17 => ?_)
      · show xEx G0 cdX12_differs (some .int) (xRn G0 MT (d + 23)) Q b 20 [some (.inr (.inr 66)), some (.inl 1), some (.inl k), some (.inl o), none, none, none, none, none, none] [] (xup h 66 0 1)
        exact absurd c17 (by decide)
      · show xEx G0 cdX12_differs (some .int) (xRn G0 MT (d + 23)) Q b 18 [some (.inr (.inr 66)), some (.inl 1), some (.inl k), some (.inl o), none, none, none, none, none, none] [] (xup h 66 0 1)
        refine E_s 1 (i' := 19) (ls' := [some (.inr (.inr 66)), some (.inl 1), some (.inl k), some (.inl o), none, none, none, none, none, none]) (sk' := [.inl 0]) (h' := (xup h 66 0 1)) rfl ?_
        exact E_ret (x := (.ireturn, 0, [], [])) (v := some (.inl 0)) rfl (Or.inl rfl) (hN (by omega))
    · rw [c_eq (by first | assumption | (refine ⟨?_, ?_⟩ <;> omega) | (simp only [xr] at *; omega)) (by first | assumption | (refine ⟨?_, ?_⟩ <;> omega) | (simp only [xr] at *; omega))] at c10
      simp only [decide_eq_true_eq, decide_eq_false_iff_not, Decidable.not_not] at c10
      show xEx G0 cdX12_differs (some .int) (xRn G0 MT (d + 23)) Q b 11 [some (.inr (.inr 66)), some (.inl 1), some (.inl k), some (.inl o), none, none, none, none, none, none] [.inr (.inr 66)] h
      refine E_s 5 (i' := 17) (ls' := [some (.inr (.inr 66)), some (.inl 1), some (.inl k), some (.inl o), none, none, none, none, none, none]) (sk' := [.inl 0]) (h' := (xup h 66 0 0)) rfl ?_
      refine E_b (x := (.ifCond .le 5, 20, [], [])) rfl rfl (fun c17 => ?_) (fun c17 => ?_)
      · show xEx G0 cdX12_differs (some .int) (xRn G0 MT (d + 23)) Q b 20 [some (.inr (.inr 66)), some (.inl 1), some (.inl k), some (.inl o), none, none, none, none, none, none] [] (xup h 66 0 0)
        have kk : (0 ≤ k ∧ k < h 66 19) ∧ (0 ≤ o ∧ o < h 66 19) := by omega
        refine E_s 3 (i' := 23) (ls' := [some (.inr (.inr 66)), some (.inl 1), some (.inl k), some (.inl o), none, none, none, none, none, none]) (sk' := [.inl 1, .inl (h 66 1)]) (h' := (xup h 66 0 0)) rfl ?_
        refine E_b (x := (.if_icmp .le 8, 26, [], [])) rfl rfl (fun c23 => ?_) (fun c23 => ?_)
        · rw [c_le (by first | assumption | (refine ⟨?_, ?_⟩ <;> omega) | (simp only [xr] at *; omega)) (by first | assumption | (refine ⟨?_, ?_⟩ <;> omega) | (simp only [xr] at *; omega))] at c23
          simp only [decide_eq_true_eq, decide_eq_false_iff_not, Decidable.not_not] at c23
          show xEx G0 cdX12_differs (some .int) (xRn G0 MT (d + 23)) Q b 26 [some (.inr (.inr 66)), some (.inl 1), some (.inl k), some (.inl o), none, none, none, none, none, none] [] (xup h 66 0 0)
          omega
        · rw [c_le (by first | assumption | (refine ⟨?_, ?_⟩ <;> omega) | (simp only [xr] at *; omega)) (by first | assumption | (refine ⟨?_, ?_⟩ <;> omega) | (simp only [xr] at *; omega))] at c23
          simp only [decide_eq_true_eq, decide_eq_false_iff_not, Decidable.not_not] at c23
          show xEx G0 cdX12_differs (some .int) (xRn G0 MT (d + 23)) Q b 24 [some (.inr (.inr 66)), some (.inl 1), some (.inl k), some (.inl o), none, none, none, none, none, none] [] (xup h 66 0 0)
          refine E_s 6 (i' := 31) (ls' := [some (.inr (.inr 66)), some (.inl 1), some (.inl k), some (.inl o), some (.inl 9), none, none, none, none, none]) (sk' := [.inl 2, .inl (h 66 1)]) (h' := (xup h 66 0 0)) rfl ?_
          refine E_b (x := (.if_icmp .le 8, 34, [], [])) rfl rfl (fun c31 => ?_) (fun c31 => ?_)
          · rw [c_le (by first | assumption | (refine ⟨?_, ?_⟩ <;> omega) | (simp only [xr] at *; omega)) (by first | assumption | (refine ⟨?_, ?_⟩ <;> omega) | (simp only [xr] at *; omega))] at c31
            simp only [decide_eq_true_eq, decide_eq_false_iff_not, Decidable.not_not] at c31
            show xEx G0 cdX12_differs (some .int) (xRn G0 MT (d + 23)) Q b 34 [some (.inr (.inr 66)), some (.inl 1), some (.inl k), some (.inl o), some (.inl 9), none, none, none, none, none] [] (xup h 66 0 0)
            refine E_s 6 (i' := 40) (ls' := [some (.inr (.inr 66)), some (.inl 1), some (.inl k), some (.inl o), some (.inl 9), some (.inl 0), some (.inl 0), some (.inl (-9)), none, none]) (sk' := []) (h' := (xup h 66 0 0)) rfl ?_
            have key40 : ∀ (n : Nat) (hx : xH) (n9 : Int) (x : Int) (v8 v9 : Option xV), (-9 ≤ x) → (x ≤ 10) → (∀ a, a ≠ 94 → a ≠ 95 → hx a = xup h 66 0 0 a) → (n9 = cN (dfU S T 2 k o) ((x + 9) * 19 + 0 + 0).toNat) → ((10 - x).toNat) < n → xEx G0 cdX12_differs (some .int) (xRn G0 MT (d + 23)) Q b 40 [some (.inr (.inr 66)), some (.inl 1), some (.inl k), some (.inl o), some (.inl 9), some (.inl 0), some (.inl n9), some (.inl x), v8, v9] [] hx := by
              intro n
              induction n with
              | zero => intro hx n9 x v8 v9 _ _ _ _ hm; exact absurd hm (Nat.not_lt_zero _)
              | succ n ih40 =>
                intro hx n9 x v8 v9 hx0 hx9 hfx hnx hm40
                refine E_s 2 (i' := 42) (ls' := [some (.inr (.inr 66)), some (.inl 1), some (.inl k), some (.inl o), some (.inl 9), some (.inl 0), some (.inl n9), some (.inl x), v8, v9]) (sk' := [.inl 9, .inl x]) (h' := hx) rfl ?_
                refine E_b (x := (.if_icmp .gt 102, 93, [], [])) rfl rfl (fun c42 => ?_) (fun c42 => ?_)
                · rw [c_gt (by first | assumption | (refine ⟨?_, ?_⟩ <;> omega) | (simp only [xr] at *; omega)) (by first | assumption | (refine ⟨?_, ?_⟩ <;> omega) | (simp only [xr] at *; omega))] at c42
                  simp only [decide_eq_true_eq, decide_eq_false_iff_not, Decidable.not_not] at c42
                  show xEx G0 cdX12_differs (some .int) (xRn G0 MT (d + 23)) Q b 93 [some (.inr (.inr 66)), some (.inl 1), some (.inl k), some (.inl o), some (.inl 9), some (.inl 0), some (.inl n9), some (.inl x), v8, v9] [] hx
                  refine E_s 1 (i' := 94) (ls' := [some (.inr (.inr 66)), some (.inl 1), some (.inl k), some (.inl o), some (.inl 9), some (.inl 0), some (.inl n9), some (.inl x), v8, v9]) (sk' := [.inl n9]) (h' := hx) rfl ?_
                  exact E_ret (x := (.ireturn, 0, [], [])) (v := some (.inl n9)) rfl (Or.inl rfl) (by
                    have e9 : ((x + 9) * 19 + 0 + 0).toNat = (ptN 2).toNat := by simp [ptN]; omega
                    rw [hnx, e9]
                    exact hO kk _ hfx)
                · rw [c_gt (by first | assumption | (refine ⟨?_, ?_⟩ <;> omega) | (simp only [xr] at *; omega)) (by first | assumption | (refine ⟨?_, ?_⟩ <;> omega) | (simp only [xr] at *; omega))] at c42
                  simp only [decide_eq_true_eq, decide_eq_false_iff_not, Decidable.not_not] at c42
                  show xEx G0 cdX12_differs (some .int) (xRn G0 MT (d + 23)) Q b 43 [some (.inr (.inr 66)), some (.inl 1), some (.inl k), some (.inl o), some (.inl 9), some (.inl 0), some (.inl n9), some (.inl x), v8, v9] [] hx
                  refine E_s 3 (i' := 46) (ls' := [some (.inr (.inr 66)), some (.inl 1), some (.inl k), some (.inl o), some (.inl 9), some (.inl 0), some (.inl n9), some (.inl x), some (.inl (-9)), v9]) (sk' := []) (h' := hx) rfl ?_
                  have key46 : ∀ (n : Nat) (hy : xH) (n8 : Int) (y : Int) (w9 : Option xV), (-9 ≤ y) → (y ≤ 10) → (∀ a, a ≠ 94 → a ≠ 95 → hy a = xup h 66 0 0 a) → (n8 = cN (dfU S T 2 k o) ((x + 9) * 19 + (y + 9) + 0).toNat) → ((10 - y).toNat) < n → xEx G0 cdX12_differs (some .int) (xRn G0 MT (d + 23)) Q b 46 [some (.inr (.inr 66)), some (.inl 1), some (.inl k), some (.inl o), some (.inl 9), some (.inl 0), some (.inl n8), some (.inl x), some (.inl y), w9] [] hy := by
                    intro n
                    induction n with
                    | zero => intro hy n8 y w9 _ _ _ _ hm; exact absurd hm (Nat.not_lt_zero _)
                    | succ n ih46 =>
                      intro hy n8 y w9 hy0 hy9 hfy hny hm46
                      refine E_s 2 (i' := 48) (ls' := [some (.inr (.inr 66)), some (.inl 1), some (.inl k), some (.inl o), some (.inl 9), some (.inl 0), some (.inl n8), some (.inl x), some (.inl y), w9]) (sk' := [.inl 9, .inl y]) (h' := hy) rfl ?_
                      refine E_b (x := (.if_icmp .gt 84, 91, [], [])) rfl rfl (fun c48 => ?_) (fun c48 => ?_)
                      · rw [c_gt (by first | assumption | (refine ⟨?_, ?_⟩ <;> omega) | (simp only [xr] at *; omega)) (by first | assumption | (refine ⟨?_, ?_⟩ <;> omega) | (simp only [xr] at *; omega))] at c48
                        simp only [decide_eq_true_eq, decide_eq_false_iff_not, Decidable.not_not] at c48
                        show xEx G0 cdX12_differs (some .int) (xRn G0 MT (d + 23)) Q b 91 [some (.inr (.inr 66)), some (.inl 1), some (.inl k), some (.inl o), some (.inl 9), some (.inl 0), some (.inl n8), some (.inl x), some (.inl y), w9] [] hy
                        refine E_s 2 (i' := 40) (ls' := [some (.inr (.inr 66)), some (.inl 1), some (.inl k), some (.inl o), some (.inl 9), some (.inl 0), some (.inl n8), some (.inl (x + 1)), some (.inl y), w9]) (sk' := []) (h' := hy) rfl ?_
                        exact ih40 _ _ (x + 1) _ _ (by omega) (by omega) hfy (by rw [hny]; congr 2 <;> omega) (by omega)
                      · rw [c_gt (by first | assumption | (refine ⟨?_, ?_⟩ <;> omega) | (simp only [xr] at *; omega)) (by first | assumption | (refine ⟨?_, ?_⟩ <;> omega) | (simp only [xr] at *; omega))] at c48
                        simp only [decide_eq_true_eq, decide_eq_false_iff_not, Decidable.not_not] at c48
                        show xEx G0 cdX12_differs (some .int) (xRn G0 MT (d + 23)) Q b 49 [some (.inr (.inr 66)), some (.inl 1), some (.inl k), some (.inl o), some (.inl 9), some (.inl 0), some (.inl n8), some (.inl x), some (.inl y), w9] [] hy
                        refine E_s 3 (i' := 52) (ls' := [some (.inr (.inr 66)), some (.inl 1), some (.inl k), some (.inl o), some (.inl 9), some (.inl 0), some (.inl n8), some (.inl x), some (.inl y), some (.inl (-0))]) (sk' := []) (h' := hy) rfl ?_
                        have key52 : ∀ (n : Nat) (hz : xH) (n7 : Int) (z : Int), (-0 ≤ z) → (z ≤ 1) → (∀ a, a ≠ 94 → a ≠ 95 → hz a = xup h 66 0 0 a) → (n7 = cN (dfU S T 2 k o) ((x + 9) * 19 + (y + 9) + z).toNat) → ((1 - z).toNat) < n → xEx G0 cdX12_differs (some .int) (xRn G0 MT (d + 23)) Q b 52 [some (.inr (.inr 66)), some (.inl 1), some (.inl k), some (.inl o), some (.inl 9), some (.inl 0), some (.inl n7), some (.inl x), some (.inl y), some (.inl z)] [] hz := by
                          intro n
                          induction n with
                          | zero => intro hz n7 z _ _ _ _ hm; exact absurd hm (Nat.not_lt_zero _)
                          | succ n ih52 =>
                            intro hz n7 z hz0 hz9 hfz hnz hm52
                            refine E_s 2 (i' := 54) (ls' := [some (.inr (.inr 66)), some (.inl 1), some (.inl k), some (.inl o), some (.inl 9), some (.inl 0), some (.inl n7), some (.inl x), some (.inl y), some (.inl z)]) (sk' := [.inl 0, .inl z]) (h' := hz) rfl ?_
                            refine E_b (x := (.if_icmp .gt 66, 89, [], [])) rfl rfl (fun c54 => ?_) (fun c54 => ?_)
                            · rw [c_gt (by first | assumption | (refine ⟨?_, ?_⟩ <;> omega) | (simp only [xr] at *; omega)) (by first | assumption | (refine ⟨?_, ?_⟩ <;> omega) | (simp only [xr] at *; omega))] at c54
                              simp only [decide_eq_true_eq, decide_eq_false_iff_not, Decidable.not_not] at c54
                              show xEx G0 cdX12_differs (some .int) (xRn G0 MT (d + 23)) Q b 89 [some (.inr (.inr 66)), some (.inl 1), some (.inl k), some (.inl o), some (.inl 9), some (.inl 0), some (.inl n7), some (.inl x), some (.inl y), some (.inl z)] [] hz
                              refine E_s 2 (i' := 46) (ls' := [some (.inr (.inr 66)), some (.inl 1), some (.inl k), some (.inl o), some (.inl 9), some (.inl 0), some (.inl n7), some (.inl x), some (.inl (y + 1)), some (.inl z)]) (sk' := []) (h' := hz) rfl ?_
                              exact ih46 _ _ (y + 1) _ (by omega) (by omega) hfz (by rw [hnz]; congr 2 <;> omega) (by omega)
                            · rw [c_gt (by first | assumption | (refine ⟨?_, ?_⟩ <;> omega) | (simp only [xr] at *; omega)) (by first | assumption | (refine ⟨?_, ?_⟩ <;> omega) | (simp only [xr] at *; omega))] at c54
                              simp only [decide_eq_true_eq, decide_eq_false_iff_not, Decidable.not_not] at c54
                              show xEx G0 cdX12_differs (some .int) (xRn G0 MT (d + 23)) Q b 55 [some (.inr (.inr 66)), some (.inl 1), some (.inl k), some (.inl o), some (.inl 9), some (.inl 0), some (.inl n7), some (.inl x), some (.inl y), some (.inl z)] [] hz
                              refine E_s 4 (i' := 59) (ls' := [some (.inr (.inr 66)), some (.inl 1), some (.inl k), some (.inl o), some (.inl 9), some (.inl 0), some (.inl n7), some (.inl x), some (.inl y), some (.inl z)]) (sk' := [.inl z, .inl y, .inl x, .inr (.inr 66)]) (h' := hz) rfl ?_
                              refine E_cv (x := (.invokevirtual 309, 3, [(10, 198)], [0])) (q := fun h9 => (∀ a, a ≠ 94 → a ≠ 95 → h9 a = hz a) ∧ (∀ k, 0 ≤ k → k < S 0 0 → h9 94 k = VE S (pX x y z) k) ∧ (∀ t, 0 ≤ t → t < T 0 0 → h9 95 t = VU S T (pX x y z) t)) rfl rfl (Nat.le_of_ble_eq_true rfl) (m_reckons (d + 19) 0 hz S T x y z n0 wt ⟨by omega, by omega⟩ ⟨by omega, by omega⟩ ⟨by omega, by omega⟩ (RR_vh hfz hR) (RRT_vh hfz hRT) hF hT h3 h4 (fun h9 z1 z2 z3 => ⟨rfl, z1, z2, z3⟩)) (fun h1 hq => ?_)
                              obtain ⟨f1, f2, f3⟩ := hq
                              show xEx G0 cdX12_differs (some .int) (xRn G0 MT (d + 23)) Q b 60 [some (.inr (.inr 66)), some (.inl 1), some (.inl k), some (.inl o), some (.inl 9), some (.inl 0), some (.inl n7), some (.inl x), some (.inl y), some (.inl z)] [] h1
                              refine E_s 2 (i' := 62) (ls' := [some (.inr (.inr 66)), some (.inl 1), some (.inl k), some (.inl o), some (.inl 9), some (.inl 0), some (.inl n7), some (.inl x), some (.inl y), some (.inl z)]) (sk' := [.inl 1, .inl n7]) (h' := h1) rfl ?_
                              refine E_b (x := (.ifCond .eq 21, 73, [], [])) rfl rfl (fun c62 => ?_) (fun c62 => ?_)
                              · show xEx G0 cdX12_differs (some .int) (xRn G0 MT (d + 23)) Q b 73 [some (.inr (.inr 66)), some (.inl 1), some (.inl k), some (.inl o), some (.inl 9), some (.inl 0), some (.inl n7), some (.inl x), some (.inl y), some (.inl z)] [.inl n7] h1
                                exact absurd c62 (by decide)
                              · show xEx G0 cdX12_differs (some .int) (xRn G0 MT (d + 23)) Q b 63 [some (.inr (.inr 66)), some (.inl 1), some (.inl k), some (.inl o), some (.inl 9), some (.inl 0), some (.inl n7), some (.inl x), some (.inl y), some (.inl z)] [.inl n7] h1
                                have g1 := f3 k kk.1.1 (by rw [← hRT.1]; exact kk.1.2)
                                have g2 := f3 o kk.2.1 (by rw [← hRT.1]; exact kk.2.2)
                                have u1 := vU_01 S T (pX x y z) 150 k
                                have u2 := vU_01 S T (pX x y z) 150 o
                                have w1 : h1 95 k = 0 ∨ h1 95 k = 1 := by rw [g1]; exact u1
                                have w2 : h1 95 o = 0 ∨ h1 95 o = 1 := by rw [g2]; exact u2
                                refine E_s 3 (i' := 66) (ls' := [some (.inr (.inr 66)), some (.inl 1), some (.inl k), some (.inl o), some (.inl 9), some (.inl 0), some (.inl n7), some (.inl x), some (.inl y), some (.inl z)]) (sk' := [.inl k, .inr (.inr 95), .inl n7]) (h' := h1) rfl ?_
                                refine E_ld (x := (.iaload, 0, [], [])) (ty := .int) (n := 150) rfl rfl rfl (by omega) (by omega) ?_
                                show xEx G0 cdX12_differs (some .int) (xRn G0 MT (d + 23)) Q b 67 [some (.inr (.inr 66)), some (.inl 1), some (.inl k), some (.inl o), some (.inl 9), some (.inl 0), some (.inl n7), some (.inl x), some (.inl y), some (.inl z)] [.inl (h1 95 k), .inl n7] h1
                                refine E_s 3 (i' := 70) (ls' := [some (.inr (.inr 66)), some (.inl 1), some (.inl k), some (.inl o), some (.inl 9), some (.inl 0), some (.inl n7), some (.inl x), some (.inl y), some (.inl z)]) (sk' := [.inl o, .inr (.inr 95), .inl (h1 95 k), .inl n7]) (h' := h1) rfl ?_
                                refine E_ld (x := (.iaload, 0, [], [])) (ty := .int) (n := 150) rfl rfl rfl (by omega) (by omega) ?_
                                show xEx G0 cdX12_differs (some .int) (xRn G0 MT (d + 23)) Q b 71 [some (.inr (.inr 66)), some (.inl 1), some (.inl k), some (.inl o), some (.inl 9), some (.inl 0), some (.inl n7), some (.inl x), some (.inl y), some (.inl z)] [.inl (h1 95 o), .inl (h1 95 k), .inl n7] h1
                                refine E_b (x := (.if_icmp .eq 25, 84, [], [])) rfl rfl (fun c71 => ?_) (fun c71 => ?_)
                                · rw [c_eq (by first | assumption | (refine ⟨?_, ?_⟩ <;> omega) | (simp only [xr] at *; omega)) (by first | assumption | (refine ⟨?_, ?_⟩ <;> omega) | (simp only [xr] at *; omega))] at c71
                                  simp only [decide_eq_true_eq, decide_eq_false_iff_not, Decidable.not_not] at c71
                                  show xEx G0 cdX12_differs (some .int) (xRn G0 MT (d + 23)) Q b 84 [some (.inr (.inr 66)), some (.inl 1), some (.inl k), some (.inl o), some (.inl 9), some (.inl 0), some (.inl n7), some (.inl x), some (.inl y), some (.inl z)] [.inl n7] h1
                                  have dd : ¬ (dfU S T 2 k o) ((x + 9) * 19 + (y + 9) + z) := by
                                    intro z9
                                    apply z9
                                    rw [pt_2 (by omega) (by omega) (by omega)]
                                    exact g1.symm.trans (c71.trans g2)
                                  refine E_s 4 (i' := 88) (ls' := [some (.inr (.inr 66)), some (.inl 1), some (.inl k), some (.inl o), some (.inl 9), some (.inl 0), some (.inl (n7 + 0)), some (.inl x), some (.inl y), some (.inl (z + 1))]) (sk' := []) (h' := h1) rfl ?_
                                  
                                  refine E_s 1 (i' := 52) (ls' := [some (.inr (.inr 66)), some (.inl 1), some (.inl k), some (.inl o), some (.inl 9), some (.inl 0), some (.inl (n7 + 0)), some (.inl x), some (.inl y), some (.inl (z + 1))]) (sk' := []) (h' := h1) rfl ?_
                                  exact ih52 _ _ (z + 1) (by omega) (by omega) (fun a z1 z2 => (f1 a z1 z2).trans (hfz a z1 z2)) (by
                                    have e8 : (x + 9) * 19 + (y + 9) + (z + 1) = ((x + 9) * 19 + (y + 9) + z) + 1 := by omega
                                    rw [e8, cN_n (by omega) dd, hnz, Int.add_zero]) (by omega)
                                · rw [c_eq (by first | assumption | (refine ⟨?_, ?_⟩ <;> omega) | (simp only [xr] at *; omega)) (by first | assumption | (refine ⟨?_, ?_⟩ <;> omega) | (simp only [xr] at *; omega))] at c71
                                  simp only [decide_eq_true_eq, decide_eq_false_iff_not, Decidable.not_not] at c71
                                  show xEx G0 cdX12_differs (some .int) (xRn G0 MT (d + 23)) Q b 72 [some (.inr (.inr 66)), some (.inl 1), some (.inl k), some (.inl o), some (.inl 9), some (.inl 0), some (.inl n7), some (.inl x), some (.inl y), some (.inl z)] [.inl n7] h1
                                  refine E_s 2 (i' := 83) (ls' := [some (.inr (.inr 66)), some (.inl 1), some (.inl k), some (.inl o), some (.inl 9), some (.inl 0), some (.inl n7), some (.inl x), some (.inl y), some (.inl z)]) (sk' := [.inl 1, .inl n7]) (h' := h1) rfl ?_
                                  have dd : (dfU S T 2 k o) ((x + 9) * 19 + (y + 9) + z) := by
                                    show ¬ _ = _
                                    rw [pt_2 (by omega) (by omega) (by omega)]
                                    intro z9
                                    exact c71 (g1.trans (z9.trans g2.symm))
                                  refine E_s 4 (i' := 88) (ls' := [some (.inr (.inr 66)), some (.inl 1), some (.inl k), some (.inl o), some (.inl 9), some (.inl 0), some (.inl (n7 + 1)), some (.inl x), some (.inl y), some (.inl (z + 1))]) (sk' := []) (h' := h1) rfl ?_
                                  
                                  refine E_s 1 (i' := 52) (ls' := [some (.inr (.inr 66)), some (.inl 1), some (.inl k), some (.inl o), some (.inl 9), some (.inl 0), some (.inl (n7 + 1)), some (.inl x), some (.inl y), some (.inl (z + 1))]) (sk' := []) (h' := h1) rfl ?_
                                  exact ih52 _ _ (z + 1) (by omega) (by omega) (fun a z1 z2 => (f1 a z1 z2).trans (hfz a z1 z2)) (by
                                    have e8 : (x + 9) * 19 + (y + 9) + (z + 1) = ((x + 9) * 19 + (y + 9) + z) + 1 := by omega
                                    rw [e8, cN_p (by omega) dd, hnz]) (by omega)
                        exact key52 _ _ _ (-0) (by omega) (by omega) hfy (by rw [hny]; congr 2 <;> omega) (Nat.lt_succ_self _)
                  exact key46 _ _ _ (-9) _ (by omega) (by omega) hfx (by rw [hnx]; congr 2 <;> omega) (Nat.lt_succ_self _)
            exact key40 _ _ 0 (-9) none none (by omega) (by omega) (fun _ _ _ => rfl) rfl (Nat.lt_succ_self _)
          · rw [c_le (by first | assumption | (refine ⟨?_, ?_⟩ <;> omega) | (simp only [xr] at *; omega)) (by first | assumption | (refine ⟨?_, ?_⟩ <;> omega) | (simp only [xr] at *; omega))] at c31
            simp only [decide_eq_true_eq, decide_eq_false_iff_not, Decidable.not_not] at c31
            show xEx G0 cdX12_differs (some .int) (xRn G0 MT (d + 23)) Q b 32 [some (.inr (.inr 66)), some (.inl 1), some (.inl k), some (.inl o), some (.inl 9), none, none, none, none, none] [] (xup h 66 0 0)
            omega
      · show xEx G0 cdX12_differs (some .int) (xRn G0 MT (d + 23)) Q b 18 [some (.inr (.inr 66)), some (.inl 1), some (.inl k), some (.inl o), none, none, none, none, none, none] [] (xup h 66 0 0)
        exact absurd c17 (by decide)
set_option maxHeartbeats 1000000 in
theorem m_differs1_3 (d b : Nat) (h S T : xH) (k o n0 : Int) (wt : Int → Int) (hk : xr k) (ho : xr o) (hm : h 66 1 = 3) (hR : RR h S) (hRT : RRT h T) (hF : FW n0 wt 9 S) (hT : FWT S 7 T) (h3 : 0 ≤ S 0 0 ∧ S 0 0 ≤ 300) (h4 : 0 ≤ T 0 0 ∧ T 0 0 ≤ 150) (hM1 : 0 ≤ h 66 19 ∧ h 66 19 ≤ 150) {Q : xO → xH → Prop} (hN : ¬ ((0 ≤ k ∧ k < h 66 19) ∧ (0 ≤ o ∧ o < h 66 19)) → Q (.inl (some (.inl (0)))) (xup h 66 0 1)) (hO : ((0 ≤ k ∧ k < h 66 19) ∧ (0 ≤ o ∧ o < h 66 19)) → ∀ h', (∀ a, a ≠ 94 → a ≠ 95 → h' a = xup h 66 0 0 a) → Q (.inl (some (.inl (cN (dfU S T 3 k o) (ptN 3).toNat)))) h') : xRn G0 MT (d + 24) b 201 [.inr (.inr 66), .inl 1, .inl k, .inl o] h Q := by
  refine R_of (M := mX12_differs) rfl (Nat.le_of_ble_eq_true rfl) ?_
  show xEx G0 cdX12_differs (some .int) (xRn G0 MT (d + 23)) Q b 0 [some (.inr (.inr 66)), some (.inl 1), some (.inl k), some (.inl o), none, none, none, none, none, none] [] h
  refine E_s 4 (i' := 4) (ls' := [some (.inr (.inr 66)), some (.inl 1), some (.inl k), some (.inl o), none, none, none, none, none, none]) (sk' := [.inl k, .inl 1, .inr (.inr 66), .inr (.inr 66)]) (h' := h) rfl ?_
  refine E_cp (x := (.invokevirtual 295, 2, [(10, 193)], [0])) (q := fun r1 h9 => ((r1 = 1 ∧ (0 ≤ k ∧ k < h 66 19)) ∨ (r1 = 0 ∧ ¬ (0 ≤ k ∧ k < h 66 19))) ∧ h = h9) rfl rfl (Nat.le_of_ble_eq_true rfl) (m_isKept1 (d + 21) 0 h k hk hM1 (fun z => ⟨_, rfl, Or.inl ⟨rfl, z⟩, rfl⟩) (fun z => ⟨_, rfl, Or.inr ⟨rfl, z⟩, rfl⟩)) (fun r1 h9 q1 => ?_)
  obtain ⟨q1, rfl⟩ := q1
  show xEx G0 cdX12_differs (some .int) (xRn G0 MT (d + 23)) Q b 5 [some (.inr (.inr 66)), some (.inl 1), some (.inl k), some (.inl o), none, none, none, none, none, none] [.inl r1, .inr (.inr 66)] h
  refine E_b (x := (.ifCond .eq 16, 13, [], [])) rfl rfl (fun c5 => ?_) (fun c5 => ?_)
  · rw [c_eq (by first | assumption | (refine ⟨?_, ?_⟩ <;> omega) | (simp only [xr] at *; omega)) (by first | assumption | (refine ⟨?_, ?_⟩ <;> omega) | (simp only [xr] at *; omega))] at c5
    simp only [decide_eq_true_eq, decide_eq_false_iff_not, Decidable.not_not] at c5
    show xEx G0 cdX12_differs (some .int) (xRn G0 MT (d + 23)) Q b 13 [some (.inr (.inr 66)), some (.inl 1), some (.inl k), some (.inl o), none, none, none, none, none, none] [.inr (.inr 66)] h
    refine E_s 4 (i' := 17) (ls' := [some (.inr (.inr 66)), some (.inl 1), some (.inl k), some (.inl o), none, none, none, none, none, none]) (sk' := [.inl 1]) (h' := (xup h 66 0 1)) rfl ?_
    refine E_b (x := (.ifCond .le 5, 20, [], [])) rfl rfl (fun c17 => ?_) (fun c17 => ?_)
    · show xEx G0 cdX12_differs (some .int) (xRn G0 MT (d + 23)) Q b 20 [some (.inr (.inr 66)), some (.inl 1), some (.inl k), some (.inl o), none, none, none, none, none, none] [] (xup h 66 0 1)
      exact absurd c17 (by decide)
    · show xEx G0 cdX12_differs (some .int) (xRn G0 MT (d + 23)) Q b 18 [some (.inr (.inr 66)), some (.inl 1), some (.inl k), some (.inl o), none, none, none, none, none, none] [] (xup h 66 0 1)
      refine E_s 1 (i' := 19) (ls' := [some (.inr (.inr 66)), some (.inl 1), some (.inl k), some (.inl o), none, none, none, none, none, none]) (sk' := [.inl 0]) (h' := (xup h 66 0 1)) rfl ?_
      exact E_ret (x := (.ireturn, 0, [], [])) (v := some (.inl 0)) rfl (Or.inl rfl) (hN (by omega))
  · rw [c_eq (by first | assumption | (refine ⟨?_, ?_⟩ <;> omega) | (simp only [xr] at *; omega)) (by first | assumption | (refine ⟨?_, ?_⟩ <;> omega) | (simp only [xr] at *; omega))] at c5
    simp only [decide_eq_true_eq, decide_eq_false_iff_not, Decidable.not_not] at c5
    show xEx G0 cdX12_differs (some .int) (xRn G0 MT (d + 23)) Q b 6 [some (.inr (.inr 66)), some (.inl 1), some (.inl k), some (.inl o), none, none, none, none, none, none] [.inr (.inr 66)] h
    refine E_s 3 (i' := 9) (ls' := [some (.inr (.inr 66)), some (.inl 1), some (.inl k), some (.inl o), none, none, none, none, none, none]) (sk' := [.inl o, .inl 1, .inr (.inr 66), .inr (.inr 66)]) (h' := h) rfl ?_
    refine E_cp (x := (.invokevirtual 295, 2, [(10, 193)], [0])) (q := fun r2 h9 => ((r2 = 1 ∧ (0 ≤ o ∧ o < h 66 19)) ∨ (r2 = 0 ∧ ¬ (0 ≤ o ∧ o < h 66 19))) ∧ h = h9) rfl rfl (Nat.le_of_ble_eq_true rfl) (m_isKept1 (d + 21) 0 h o ho hM1 (fun z => ⟨_, rfl, Or.inl ⟨rfl, z⟩, rfl⟩) (fun z => ⟨_, rfl, Or.inr ⟨rfl, z⟩, rfl⟩)) (fun r2 h9 q2 => ?_)
    obtain ⟨q2, rfl⟩ := q2
    show xEx G0 cdX12_differs (some .int) (xRn G0 MT (d + 23)) Q b 10 [some (.inr (.inr 66)), some (.inl 1), some (.inl k), some (.inl o), none, none, none, none, none, none] [.inl r2, .inr (.inr 66)] h
    refine E_b (x := (.ifCond .eq 7, 13, [], [])) rfl rfl (fun c10 => ?_) (fun c10 => ?_)
    · rw [c_eq (by first | assumption | (refine ⟨?_, ?_⟩ <;> omega) | (simp only [xr] at *; omega)) (by first | assumption | (refine ⟨?_, ?_⟩ <;> omega) | (simp only [xr] at *; omega))] at c10
      simp only [decide_eq_true_eq, decide_eq_false_iff_not, Decidable.not_not] at c10
      show xEx G0 cdX12_differs (some .int) (xRn G0 MT (d + 23)) Q b 13 [some (.inr (.inr 66)), some (.inl 1), some (.inl k), some (.inl o), none, none, none, none, none, none] [.inr (.inr 66)] h
      refine E_s 4 (i' := 17) (ls' := [some (.inr (.inr 66)), some (.inl 1), some (.inl k), some (.inl o), none, none, none, none, none, none]) (sk' := [.inl 1]) (h' := (xup h 66 0 1)) rfl ?_
      refine E_b (x := (.ifCond .le 5, 20, [], [])) rfl rfl (fun c17 => ?_) (fun c17 => ?_)
      · show xEx G0 cdX12_differs (some .int) (xRn G0 MT (d + 23)) Q b 20 [some (.inr (.inr 66)), some (.inl 1), some (.inl k), some (.inl o), none, none, none, none, none, none] [] (xup h 66 0 1)
        exact absurd c17 (by decide)
      · show xEx G0 cdX12_differs (some .int) (xRn G0 MT (d + 23)) Q b 18 [some (.inr (.inr 66)), some (.inl 1), some (.inl k), some (.inl o), none, none, none, none, none, none] [] (xup h 66 0 1)
        refine E_s 1 (i' := 19) (ls' := [some (.inr (.inr 66)), some (.inl 1), some (.inl k), some (.inl o), none, none, none, none, none, none]) (sk' := [.inl 0]) (h' := (xup h 66 0 1)) rfl ?_
        exact E_ret (x := (.ireturn, 0, [], [])) (v := some (.inl 0)) rfl (Or.inl rfl) (hN (by omega))
    · rw [c_eq (by first | assumption | (refine ⟨?_, ?_⟩ <;> omega) | (simp only [xr] at *; omega)) (by first | assumption | (refine ⟨?_, ?_⟩ <;> omega) | (simp only [xr] at *; omega))] at c10
      simp only [decide_eq_true_eq, decide_eq_false_iff_not, Decidable.not_not] at c10
      show xEx G0 cdX12_differs (some .int) (xRn G0 MT (d + 23)) Q b 11 [some (.inr (.inr 66)), some (.inl 1), some (.inl k), some (.inl o), none, none, none, none, none, none] [.inr (.inr 66)] h
      refine E_s 5 (i' := 17) (ls' := [some (.inr (.inr 66)), some (.inl 1), some (.inl k), some (.inl o), none, none, none, none, none, none]) (sk' := [.inl 0]) (h' := (xup h 66 0 0)) rfl ?_
      refine E_b (x := (.ifCond .le 5, 20, [], [])) rfl rfl (fun c17 => ?_) (fun c17 => ?_)
      · show xEx G0 cdX12_differs (some .int) (xRn G0 MT (d + 23)) Q b 20 [some (.inr (.inr 66)), some (.inl 1), some (.inl k), some (.inl o), none, none, none, none, none, none] [] (xup h 66 0 0)
        have kk : (0 ≤ k ∧ k < h 66 19) ∧ (0 ≤ o ∧ o < h 66 19) := by omega
        refine E_s 3 (i' := 23) (ls' := [some (.inr (.inr 66)), some (.inl 1), some (.inl k), some (.inl o), none, none, none, none, none, none]) (sk' := [.inl 1, .inl (h 66 1)]) (h' := (xup h 66 0 0)) rfl ?_
        refine E_b (x := (.if_icmp .le 8, 26, [], [])) rfl rfl (fun c23 => ?_) (fun c23 => ?_)
        · rw [c_le (by first | assumption | (refine ⟨?_, ?_⟩ <;> omega) | (simp only [xr] at *; omega)) (by first | assumption | (refine ⟨?_, ?_⟩ <;> omega) | (simp only [xr] at *; omega))] at c23
          simp only [decide_eq_true_eq, decide_eq_false_iff_not, Decidable.not_not] at c23
          show xEx G0 cdX12_differs (some .int) (xRn G0 MT (d + 23)) Q b 26 [some (.inr (.inr 66)), some (.inl 1), some (.inl k), some (.inl o), none, none, none, none, none, none] [] (xup h 66 0 0)
          omega
        · rw [c_le (by first | assumption | (refine ⟨?_, ?_⟩ <;> omega) | (simp only [xr] at *; omega)) (by first | assumption | (refine ⟨?_, ?_⟩ <;> omega) | (simp only [xr] at *; omega))] at c23
          simp only [decide_eq_true_eq, decide_eq_false_iff_not, Decidable.not_not] at c23
          show xEx G0 cdX12_differs (some .int) (xRn G0 MT (d + 23)) Q b 24 [some (.inr (.inr 66)), some (.inl 1), some (.inl k), some (.inl o), none, none, none, none, none, none] [] (xup h 66 0 0)
          refine E_s 6 (i' := 31) (ls' := [some (.inr (.inr 66)), some (.inl 1), some (.inl k), some (.inl o), some (.inl 9), none, none, none, none, none]) (sk' := [.inl 2, .inl (h 66 1)]) (h' := (xup h 66 0 0)) rfl ?_
          refine E_b (x := (.if_icmp .le 8, 34, [], [])) rfl rfl (fun c31 => ?_) (fun c31 => ?_)
          · rw [c_le (by first | assumption | (refine ⟨?_, ?_⟩ <;> omega) | (simp only [xr] at *; omega)) (by first | assumption | (refine ⟨?_, ?_⟩ <;> omega) | (simp only [xr] at *; omega))] at c31
            simp only [decide_eq_true_eq, decide_eq_false_iff_not, Decidable.not_not] at c31
            show xEx G0 cdX12_differs (some .int) (xRn G0 MT (d + 23)) Q b 34 [some (.inr (.inr 66)), some (.inl 1), some (.inl k), some (.inl o), some (.inl 9), none, none, none, none, none] [] (xup h 66 0 0)
            omega
          · rw [c_le (by first | assumption | (refine ⟨?_, ?_⟩ <;> omega) | (simp only [xr] at *; omega)) (by first | assumption | (refine ⟨?_, ?_⟩ <;> omega) | (simp only [xr] at *; omega))] at c31
            simp only [decide_eq_true_eq, decide_eq_false_iff_not, Decidable.not_not] at c31
            show xEx G0 cdX12_differs (some .int) (xRn G0 MT (d + 23)) Q b 32 [some (.inr (.inr 66)), some (.inl 1), some (.inl k), some (.inl o), some (.inl 9), none, none, none, none, none] [] (xup h 66 0 0)
            refine E_s 7 (i' := 40) (ls' := [some (.inr (.inr 66)), some (.inl 1), some (.inl k), some (.inl o), some (.inl 9), some (.inl 9), some (.inl 0), some (.inl (-9)), none, none]) (sk' := []) (h' := (xup h 66 0 0)) rfl ?_
            have key40 : ∀ (n : Nat) (hx : xH) (n9 : Int) (x : Int) (v8 v9 : Option xV), (-9 ≤ x) → (x ≤ 10) → (∀ a, a ≠ 94 → a ≠ 95 → hx a = xup h 66 0 0 a) → (n9 = cN (dfU S T 3 k o) ((x + 9) * 361 + 0 + 0).toNat) → ((10 - x).toNat) < n → xEx G0 cdX12_differs (some .int) (xRn G0 MT (d + 23)) Q b 40 [some (.inr (.inr 66)), some (.inl 1), some (.inl k), some (.inl o), some (.inl 9), some (.inl 9), some (.inl n9), some (.inl x), v8, v9] [] hx := by
              intro n
              induction n with
              | zero => intro hx n9 x v8 v9 _ _ _ _ hm; exact absurd hm (Nat.not_lt_zero _)
              | succ n ih40 =>
                intro hx n9 x v8 v9 hx0 hx9 hfx hnx hm40
                refine E_s 2 (i' := 42) (ls' := [some (.inr (.inr 66)), some (.inl 1), some (.inl k), some (.inl o), some (.inl 9), some (.inl 9), some (.inl n9), some (.inl x), v8, v9]) (sk' := [.inl 9, .inl x]) (h' := hx) rfl ?_
                refine E_b (x := (.if_icmp .gt 102, 93, [], [])) rfl rfl (fun c42 => ?_) (fun c42 => ?_)
                · rw [c_gt (by first | assumption | (refine ⟨?_, ?_⟩ <;> omega) | (simp only [xr] at *; omega)) (by first | assumption | (refine ⟨?_, ?_⟩ <;> omega) | (simp only [xr] at *; omega))] at c42
                  simp only [decide_eq_true_eq, decide_eq_false_iff_not, Decidable.not_not] at c42
                  show xEx G0 cdX12_differs (some .int) (xRn G0 MT (d + 23)) Q b 93 [some (.inr (.inr 66)), some (.inl 1), some (.inl k), some (.inl o), some (.inl 9), some (.inl 9), some (.inl n9), some (.inl x), v8, v9] [] hx
                  refine E_s 1 (i' := 94) (ls' := [some (.inr (.inr 66)), some (.inl 1), some (.inl k), some (.inl o), some (.inl 9), some (.inl 9), some (.inl n9), some (.inl x), v8, v9]) (sk' := [.inl n9]) (h' := hx) rfl ?_
                  exact E_ret (x := (.ireturn, 0, [], [])) (v := some (.inl n9)) rfl (Or.inl rfl) (by
                    have e9 : ((x + 9) * 361 + 0 + 0).toNat = (ptN 3).toNat := by simp [ptN]; omega
                    rw [hnx, e9]
                    exact hO kk _ hfx)
                · rw [c_gt (by first | assumption | (refine ⟨?_, ?_⟩ <;> omega) | (simp only [xr] at *; omega)) (by first | assumption | (refine ⟨?_, ?_⟩ <;> omega) | (simp only [xr] at *; omega))] at c42
                  simp only [decide_eq_true_eq, decide_eq_false_iff_not, Decidable.not_not] at c42
                  show xEx G0 cdX12_differs (some .int) (xRn G0 MT (d + 23)) Q b 43 [some (.inr (.inr 66)), some (.inl 1), some (.inl k), some (.inl o), some (.inl 9), some (.inl 9), some (.inl n9), some (.inl x), v8, v9] [] hx
                  refine E_s 3 (i' := 46) (ls' := [some (.inr (.inr 66)), some (.inl 1), some (.inl k), some (.inl o), some (.inl 9), some (.inl 9), some (.inl n9), some (.inl x), some (.inl (-9)), v9]) (sk' := []) (h' := hx) rfl ?_
                  have key46 : ∀ (n : Nat) (hy : xH) (n8 : Int) (y : Int) (w9 : Option xV), (-9 ≤ y) → (y ≤ 10) → (∀ a, a ≠ 94 → a ≠ 95 → hy a = xup h 66 0 0 a) → (n8 = cN (dfU S T 3 k o) ((x + 9) * 361 + (y + 9) * 19 + 0).toNat) → ((10 - y).toNat) < n → xEx G0 cdX12_differs (some .int) (xRn G0 MT (d + 23)) Q b 46 [some (.inr (.inr 66)), some (.inl 1), some (.inl k), some (.inl o), some (.inl 9), some (.inl 9), some (.inl n8), some (.inl x), some (.inl y), w9] [] hy := by
                    intro n
                    induction n with
                    | zero => intro hy n8 y w9 _ _ _ _ hm; exact absurd hm (Nat.not_lt_zero _)
                    | succ n ih46 =>
                      intro hy n8 y w9 hy0 hy9 hfy hny hm46
                      refine E_s 2 (i' := 48) (ls' := [some (.inr (.inr 66)), some (.inl 1), some (.inl k), some (.inl o), some (.inl 9), some (.inl 9), some (.inl n8), some (.inl x), some (.inl y), w9]) (sk' := [.inl 9, .inl y]) (h' := hy) rfl ?_
                      refine E_b (x := (.if_icmp .gt 84, 91, [], [])) rfl rfl (fun c48 => ?_) (fun c48 => ?_)
                      · rw [c_gt (by first | assumption | (refine ⟨?_, ?_⟩ <;> omega) | (simp only [xr] at *; omega)) (by first | assumption | (refine ⟨?_, ?_⟩ <;> omega) | (simp only [xr] at *; omega))] at c48
                        simp only [decide_eq_true_eq, decide_eq_false_iff_not, Decidable.not_not] at c48
                        show xEx G0 cdX12_differs (some .int) (xRn G0 MT (d + 23)) Q b 91 [some (.inr (.inr 66)), some (.inl 1), some (.inl k), some (.inl o), some (.inl 9), some (.inl 9), some (.inl n8), some (.inl x), some (.inl y), w9] [] hy
                        refine E_s 2 (i' := 40) (ls' := [some (.inr (.inr 66)), some (.inl 1), some (.inl k), some (.inl o), some (.inl 9), some (.inl 9), some (.inl n8), some (.inl (x + 1)), some (.inl y), w9]) (sk' := []) (h' := hy) rfl ?_
                        exact ih40 _ _ (x + 1) _ _ (by omega) (by omega) hfy (by rw [hny]; congr 2 <;> omega) (by omega)
                      · rw [c_gt (by first | assumption | (refine ⟨?_, ?_⟩ <;> omega) | (simp only [xr] at *; omega)) (by first | assumption | (refine ⟨?_, ?_⟩ <;> omega) | (simp only [xr] at *; omega))] at c48
                        simp only [decide_eq_true_eq, decide_eq_false_iff_not, Decidable.not_not] at c48
                        show xEx G0 cdX12_differs (some .int) (xRn G0 MT (d + 23)) Q b 49 [some (.inr (.inr 66)), some (.inl 1), some (.inl k), some (.inl o), some (.inl 9), some (.inl 9), some (.inl n8), some (.inl x), some (.inl y), w9] [] hy
                        refine E_s 3 (i' := 52) (ls' := [some (.inr (.inr 66)), some (.inl 1), some (.inl k), some (.inl o), some (.inl 9), some (.inl 9), some (.inl n8), some (.inl x), some (.inl y), some (.inl (-9))]) (sk' := []) (h' := hy) rfl ?_
                        have key52 : ∀ (n : Nat) (hz : xH) (n7 : Int) (z : Int), (-9 ≤ z) → (z ≤ 10) → (∀ a, a ≠ 94 → a ≠ 95 → hz a = xup h 66 0 0 a) → (n7 = cN (dfU S T 3 k o) ((x + 9) * 361 + (y + 9) * 19 + (z + 9)).toNat) → ((10 - z).toNat) < n → xEx G0 cdX12_differs (some .int) (xRn G0 MT (d + 23)) Q b 52 [some (.inr (.inr 66)), some (.inl 1), some (.inl k), some (.inl o), some (.inl 9), some (.inl 9), some (.inl n7), some (.inl x), some (.inl y), some (.inl z)] [] hz := by
                          intro n
                          induction n with
                          | zero => intro hz n7 z _ _ _ _ hm; exact absurd hm (Nat.not_lt_zero _)
                          | succ n ih52 =>
                            intro hz n7 z hz0 hz9 hfz hnz hm52
                            refine E_s 2 (i' := 54) (ls' := [some (.inr (.inr 66)), some (.inl 1), some (.inl k), some (.inl o), some (.inl 9), some (.inl 9), some (.inl n7), some (.inl x), some (.inl y), some (.inl z)]) (sk' := [.inl 9, .inl z]) (h' := hz) rfl ?_
                            refine E_b (x := (.if_icmp .gt 66, 89, [], [])) rfl rfl (fun c54 => ?_) (fun c54 => ?_)
                            · rw [c_gt (by first | assumption | (refine ⟨?_, ?_⟩ <;> omega) | (simp only [xr] at *; omega)) (by first | assumption | (refine ⟨?_, ?_⟩ <;> omega) | (simp only [xr] at *; omega))] at c54
                              simp only [decide_eq_true_eq, decide_eq_false_iff_not, Decidable.not_not] at c54
                              show xEx G0 cdX12_differs (some .int) (xRn G0 MT (d + 23)) Q b 89 [some (.inr (.inr 66)), some (.inl 1), some (.inl k), some (.inl o), some (.inl 9), some (.inl 9), some (.inl n7), some (.inl x), some (.inl y), some (.inl z)] [] hz
                              refine E_s 2 (i' := 46) (ls' := [some (.inr (.inr 66)), some (.inl 1), some (.inl k), some (.inl o), some (.inl 9), some (.inl 9), some (.inl n7), some (.inl x), some (.inl (y + 1)), some (.inl z)]) (sk' := []) (h' := hz) rfl ?_
                              exact ih46 _ _ (y + 1) _ (by omega) (by omega) hfz (by rw [hnz]; congr 2 <;> omega) (by omega)
                            · rw [c_gt (by first | assumption | (refine ⟨?_, ?_⟩ <;> omega) | (simp only [xr] at *; omega)) (by first | assumption | (refine ⟨?_, ?_⟩ <;> omega) | (simp only [xr] at *; omega))] at c54
                              simp only [decide_eq_true_eq, decide_eq_false_iff_not, Decidable.not_not] at c54
                              show xEx G0 cdX12_differs (some .int) (xRn G0 MT (d + 23)) Q b 55 [some (.inr (.inr 66)), some (.inl 1), some (.inl k), some (.inl o), some (.inl 9), some (.inl 9), some (.inl n7), some (.inl x), some (.inl y), some (.inl z)] [] hz
                              refine E_s 4 (i' := 59) (ls' := [some (.inr (.inr 66)), some (.inl 1), some (.inl k), some (.inl o), some (.inl 9), some (.inl 9), some (.inl n7), some (.inl x), some (.inl y), some (.inl z)]) (sk' := [.inl z, .inl y, .inl x, .inr (.inr 66)]) (h' := hz) rfl ?_
                              refine E_cv (x := (.invokevirtual 309, 3, [(10, 198)], [0])) (q := fun h9 => (∀ a, a ≠ 94 → a ≠ 95 → h9 a = hz a) ∧ (∀ k, 0 ≤ k → k < S 0 0 → h9 94 k = VE S (pX x y z) k) ∧ (∀ t, 0 ≤ t → t < T 0 0 → h9 95 t = VU S T (pX x y z) t)) rfl rfl (Nat.le_of_ble_eq_true rfl) (m_reckons (d + 19) 0 hz S T x y z n0 wt ⟨by omega, by omega⟩ ⟨by omega, by omega⟩ ⟨by omega, by omega⟩ (RR_vh hfz hR) (RRT_vh hfz hRT) hF hT h3 h4 (fun h9 z1 z2 z3 => ⟨rfl, z1, z2, z3⟩)) (fun h1 hq => ?_)
                              obtain ⟨f1, f2, f3⟩ := hq
                              show xEx G0 cdX12_differs (some .int) (xRn G0 MT (d + 23)) Q b 60 [some (.inr (.inr 66)), some (.inl 1), some (.inl k), some (.inl o), some (.inl 9), some (.inl 9), some (.inl n7), some (.inl x), some (.inl y), some (.inl z)] [] h1
                              refine E_s 2 (i' := 62) (ls' := [some (.inr (.inr 66)), some (.inl 1), some (.inl k), some (.inl o), some (.inl 9), some (.inl 9), some (.inl n7), some (.inl x), some (.inl y), some (.inl z)]) (sk' := [.inl 1, .inl n7]) (h' := h1) rfl ?_
                              refine E_b (x := (.ifCond .eq 21, 73, [], [])) rfl rfl (fun c62 => ?_) (fun c62 => ?_)
                              · show xEx G0 cdX12_differs (some .int) (xRn G0 MT (d + 23)) Q b 73 [some (.inr (.inr 66)), some (.inl 1), some (.inl k), some (.inl o), some (.inl 9), some (.inl 9), some (.inl n7), some (.inl x), some (.inl y), some (.inl z)] [.inl n7] h1
                                exact absurd c62 (by decide)
                              · show xEx G0 cdX12_differs (some .int) (xRn G0 MT (d + 23)) Q b 63 [some (.inr (.inr 66)), some (.inl 1), some (.inl k), some (.inl o), some (.inl 9), some (.inl 9), some (.inl n7), some (.inl x), some (.inl y), some (.inl z)] [.inl n7] h1
                                have g1 := f3 k kk.1.1 (by rw [← hRT.1]; exact kk.1.2)
                                have g2 := f3 o kk.2.1 (by rw [← hRT.1]; exact kk.2.2)
                                have u1 := vU_01 S T (pX x y z) 150 k
                                have u2 := vU_01 S T (pX x y z) 150 o
                                have w1 : h1 95 k = 0 ∨ h1 95 k = 1 := by rw [g1]; exact u1
                                have w2 : h1 95 o = 0 ∨ h1 95 o = 1 := by rw [g2]; exact u2
                                refine E_s 3 (i' := 66) (ls' := [some (.inr (.inr 66)), some (.inl 1), some (.inl k), some (.inl o), some (.inl 9), some (.inl 9), some (.inl n7), some (.inl x), some (.inl y), some (.inl z)]) (sk' := [.inl k, .inr (.inr 95), .inl n7]) (h' := h1) rfl ?_
                                refine E_ld (x := (.iaload, 0, [], [])) (ty := .int) (n := 150) rfl rfl rfl (by omega) (by omega) ?_
                                show xEx G0 cdX12_differs (some .int) (xRn G0 MT (d + 23)) Q b 67 [some (.inr (.inr 66)), some (.inl 1), some (.inl k), some (.inl o), some (.inl 9), some (.inl 9), some (.inl n7), some (.inl x), some (.inl y), some (.inl z)] [.inl (h1 95 k), .inl n7] h1
                                refine E_s 3 (i' := 70) (ls' := [some (.inr (.inr 66)), some (.inl 1), some (.inl k), some (.inl o), some (.inl 9), some (.inl 9), some (.inl n7), some (.inl x), some (.inl y), some (.inl z)]) (sk' := [.inl o, .inr (.inr 95), .inl (h1 95 k), .inl n7]) (h' := h1) rfl ?_
                                refine E_ld (x := (.iaload, 0, [], [])) (ty := .int) (n := 150) rfl rfl rfl (by omega) (by omega) ?_
                                show xEx G0 cdX12_differs (some .int) (xRn G0 MT (d + 23)) Q b 71 [some (.inr (.inr 66)), some (.inl 1), some (.inl k), some (.inl o), some (.inl 9), some (.inl 9), some (.inl n7), some (.inl x), some (.inl y), some (.inl z)] [.inl (h1 95 o), .inl (h1 95 k), .inl n7] h1
                                refine E_b (x := (.if_icmp .eq 25, 84, [], [])) rfl rfl (fun c71 => ?_) (fun c71 => ?_)
                                · rw [c_eq (by first | assumption | (refine ⟨?_, ?_⟩ <;> omega) | (simp only [xr] at *; omega)) (by first | assumption | (refine ⟨?_, ?_⟩ <;> omega) | (simp only [xr] at *; omega))] at c71
                                  simp only [decide_eq_true_eq, decide_eq_false_iff_not, Decidable.not_not] at c71
                                  show xEx G0 cdX12_differs (some .int) (xRn G0 MT (d + 23)) Q b 84 [some (.inr (.inr 66)), some (.inl 1), some (.inl k), some (.inl o), some (.inl 9), some (.inl 9), some (.inl n7), some (.inl x), some (.inl y), some (.inl z)] [.inl n7] h1
                                  have dd : ¬ (dfU S T 3 k o) ((x + 9) * 361 + (y + 9) * 19 + (z + 9)) := by
                                    intro z9
                                    apply z9
                                    rw [pt_3 (by omega) (by omega) (by omega)]
                                    exact g1.symm.trans (c71.trans g2)
                                  refine E_s 4 (i' := 88) (ls' := [some (.inr (.inr 66)), some (.inl 1), some (.inl k), some (.inl o), some (.inl 9), some (.inl 9), some (.inl (n7 + 0)), some (.inl x), some (.inl y), some (.inl (z + 1))]) (sk' := []) (h' := h1) rfl ?_
                                  
                                  refine E_s 1 (i' := 52) (ls' := [some (.inr (.inr 66)), some (.inl 1), some (.inl k), some (.inl o), some (.inl 9), some (.inl 9), some (.inl (n7 + 0)), some (.inl x), some (.inl y), some (.inl (z + 1))]) (sk' := []) (h' := h1) rfl ?_
                                  exact ih52 _ _ (z + 1) (by omega) (by omega) (fun a z1 z2 => (f1 a z1 z2).trans (hfz a z1 z2)) (by
                                    have e8 : (x + 9) * 361 + (y + 9) * 19 + ((z + 1) + 9) = ((x + 9) * 361 + (y + 9) * 19 + (z + 9)) + 1 := by omega
                                    rw [e8, cN_n (by omega) dd, hnz, Int.add_zero]) (by omega)
                                · rw [c_eq (by first | assumption | (refine ⟨?_, ?_⟩ <;> omega) | (simp only [xr] at *; omega)) (by first | assumption | (refine ⟨?_, ?_⟩ <;> omega) | (simp only [xr] at *; omega))] at c71
                                  simp only [decide_eq_true_eq, decide_eq_false_iff_not, Decidable.not_not] at c71
                                  show xEx G0 cdX12_differs (some .int) (xRn G0 MT (d + 23)) Q b 72 [some (.inr (.inr 66)), some (.inl 1), some (.inl k), some (.inl o), some (.inl 9), some (.inl 9), some (.inl n7), some (.inl x), some (.inl y), some (.inl z)] [.inl n7] h1
                                  refine E_s 2 (i' := 83) (ls' := [some (.inr (.inr 66)), some (.inl 1), some (.inl k), some (.inl o), some (.inl 9), some (.inl 9), some (.inl n7), some (.inl x), some (.inl y), some (.inl z)]) (sk' := [.inl 1, .inl n7]) (h' := h1) rfl ?_
                                  have dd : (dfU S T 3 k o) ((x + 9) * 361 + (y + 9) * 19 + (z + 9)) := by
                                    show ¬ _ = _
                                    rw [pt_3 (by omega) (by omega) (by omega)]
                                    intro z9
                                    exact c71 (g1.trans (z9.trans g2.symm))
                                  refine E_s 4 (i' := 88) (ls' := [some (.inr (.inr 66)), some (.inl 1), some (.inl k), some (.inl o), some (.inl 9), some (.inl 9), some (.inl (n7 + 1)), some (.inl x), some (.inl y), some (.inl (z + 1))]) (sk' := []) (h' := h1) rfl ?_
                                  
                                  refine E_s 1 (i' := 52) (ls' := [some (.inr (.inr 66)), some (.inl 1), some (.inl k), some (.inl o), some (.inl 9), some (.inl 9), some (.inl (n7 + 1)), some (.inl x), some (.inl y), some (.inl (z + 1))]) (sk' := []) (h' := h1) rfl ?_
                                  exact ih52 _ _ (z + 1) (by omega) (by omega) (fun a z1 z2 => (f1 a z1 z2).trans (hfz a z1 z2)) (by
                                    have e8 : (x + 9) * 361 + (y + 9) * 19 + ((z + 1) + 9) = ((x + 9) * 361 + (y + 9) * 19 + (z + 9)) + 1 := by omega
                                    rw [e8, cN_p (by omega) dd, hnz]) (by omega)
                        exact key52 _ _ _ (-9) (by omega) (by omega) hfy (by rw [hny]; congr 2 <;> omega) (Nat.lt_succ_self _)
                  exact key46 _ _ _ (-9) _ (by omega) (by omega) hfx (by rw [hnx]; congr 2 <;> omega) (Nat.lt_succ_self _)
            exact key40 _ _ 0 (-9) none none (by omega) (by omega) (fun _ _ _ => rfl) rfl (Nat.lt_succ_self _)
      · show xEx G0 cdX12_differs (some .int) (xRn G0 MT (d + 23)) Q b 18 [some (.inr (.inr 66)), some (.inl 1), some (.inl k), some (.inl o), none, none, none, none, none, none] [] (xup h 66 0 0)
        exact absurd c17 (by decide)
