set_option maxHeartbeats 1000000 in
theorem m_innermost (d b : Nat) (h : xH) (nn : Int) (hn : 1 ≤ nn ∧ nn < 8) {Q : xO → xH → Prop} (hQ : ∀ r, r + 1 = lvN (nn - 1) → Q (.inl (some (.inl (r)))) h) : xRn G0 MT (d + 1) b 239 [.inr (.inr 66), .inl nn] h Q := by
  refine R_of (M := mX12_innermost) rfl (Nat.le_of_ble_eq_true rfl) ?_
  show xEx G0 cdX12_innermost (some .int) (xRn G0 MT d) Q b 0 [some (.inr (.inr 66)), some (.inl nn)] [] h
  refine E_s 2 (i' := 2) (ls' := [some (.inr (.inr 66)), some (.inl nn)]) (sk' := [.inl 2, .inl nn]) (h' := h) rfl ?_
  refine E_b (x := (.if_icmp .ge 7, 5, [], [])) rfl rfl (fun c2 => ?_) (fun c2 => ?_)
  · rw [c_ge (by first | assumption | (refine ⟨?_, ?_⟩ <;> omega) | (simp only [xr] at *; omega)) (by first | assumption | (refine ⟨?_, ?_⟩ <;> omega) | (simp only [xr] at *; omega))] at c2
    simp only [decide_eq_true_eq, decide_eq_false_iff_not, Decidable.not_not] at c2
    show xEx G0 cdX12_innermost (some .int) (xRn G0 MT d) Q b 5 [some (.inr (.inr 66)), some (.inl nn)] [] h
    refine E_s 2 (i' := 7) (ls' := [some (.inr (.inr 66)), some (.inl nn)]) (sk' := [.inl 4, .inl nn]) (h' := h) rfl ?_
    refine E_b (x := (.if_icmp .ge 7, 10, [], [])) rfl rfl (fun c7 => ?_) (fun c7 => ?_)
    · rw [c_ge (by first | assumption | (refine ⟨?_, ?_⟩ <;> omega) | (simp only [xr] at *; omega)) (by first | assumption | (refine ⟨?_, ?_⟩ <;> omega) | (simp only [xr] at *; omega))] at c7
      simp only [decide_eq_true_eq, decide_eq_false_iff_not, Decidable.not_not] at c7
      show xEx G0 cdX12_innermost (some .int) (xRn G0 MT d) Q b 10 [some (.inr (.inr 66)), some (.inl nn)] [] h
      refine E_s 2 (i' := 12) (ls' := [some (.inr (.inr 66)), some (.inl nn)]) (sk' := [.inl 8, .inl nn]) (h' := h) rfl ?_
      refine E_b (x := (.if_icmp .ge 7, 15, [], [])) rfl rfl (fun c12 => ?_) (fun c12 => ?_)
      · rw [c_ge (by first | assumption | (refine ⟨?_, ?_⟩ <;> omega) | (simp only [xr] at *; omega)) (by first | assumption | (refine ⟨?_, ?_⟩ <;> omega) | (simp only [xr] at *; omega))] at c12
        simp only [decide_eq_true_eq, decide_eq_false_iff_not, Decidable.not_not] at c12
        show xEx G0 cdX12_innermost (some .int) (xRn G0 MT d) Q b 15 [some (.inr (.inr 66)), some (.inl nn)] [] h
        refine E_s 1 (i' := 16) (ls' := [some (.inr (.inr 66)), some (.inl nn)]) (sk' := [.inl 3]) (h' := h) rfl ?_
        exact E_ret (x := (.ireturn, 0, [], [])) (v := some (.inl 3)) rfl (Or.inl rfl) (hQ _ (by unfold lvN; omega))
      · rw [c_ge (by first | assumption | (refine ⟨?_, ?_⟩ <;> omega) | (simp only [xr] at *; omega)) (by first | assumption | (refine ⟨?_, ?_⟩ <;> omega) | (simp only [xr] at *; omega))] at c12
        simp only [decide_eq_true_eq, decide_eq_false_iff_not, Decidable.not_not] at c12
        show xEx G0 cdX12_innermost (some .int) (xRn G0 MT d) Q b 13 [some (.inr (.inr 66)), some (.inl nn)] [] h
        refine E_s 2 (i' := 16) (ls' := [some (.inr (.inr 66)), some (.inl nn)]) (sk' := [.inl 2]) (h' := h) rfl ?_
        exact E_ret (x := (.ireturn, 0, [], [])) (v := some (.inl 2)) rfl (Or.inl rfl) (hQ _ (by unfold lvN; rw [if_neg (by omega), if_neg (by omega)]; rfl))
    · rw [c_ge (by first | assumption | (refine ⟨?_, ?_⟩ <;> omega) | (simp only [xr] at *; omega)) (by first | assumption | (refine ⟨?_, ?_⟩ <;> omega) | (simp only [xr] at *; omega))] at c7
      simp only [decide_eq_true_eq, decide_eq_false_iff_not, Decidable.not_not] at c7
      show xEx G0 cdX12_innermost (some .int) (xRn G0 MT d) Q b 8 [some (.inr (.inr 66)), some (.inl nn)] [] h
      refine E_s 2 (i' := 16) (ls' := [some (.inr (.inr 66)), some (.inl nn)]) (sk' := [.inl 1]) (h' := h) rfl ?_
      exact E_ret (x := (.ireturn, 0, [], [])) (v := some (.inl 1)) rfl (Or.inl rfl) (hQ _ (by unfold lvN; rw [if_neg (by omega), if_pos (by omega)]; rfl))
  · rw [c_ge (by first | assumption | (refine ⟨?_, ?_⟩ <;> omega) | (simp only [xr] at *; omega)) (by first | assumption | (refine ⟨?_, ?_⟩ <;> omega) | (simp only [xr] at *; omega))] at c2
    simp only [decide_eq_true_eq, decide_eq_false_iff_not, Decidable.not_not] at c2
    show xEx G0 cdX12_innermost (some .int) (xRn G0 MT d) Q b 3 [some (.inr (.inr 66)), some (.inl nn)] [] h
    refine E_s 2 (i' := 16) (ls' := [some (.inr (.inr 66)), some (.inl nn)]) (sk' := [.inl 0]) (h' := h) rfl ?_
    exact E_ret (x := (.ireturn, 0, [], [])) (v := some (.inl 0)) rfl (Or.inl rfl) (hQ _ (by unfold lvN; rw [if_pos (by omega)]; rfl))
set_option maxHeartbeats 1000000 in
theorem m_solved (d b : Nat) (h S T : xH) (as le : Int → Int) (w : Int) (hw : xr w) (hS3 : S 0 0 ≤ 300) (hT4 : T 0 0 ≤ 150) (hs : h 66 50 = 0 ∨ h 66 50 = 1) (tn : h 66 50 = 1 → TN h as le) (hr : h 66 50 = 1 → ∀ nd, 0 ≤ nd → nd < 15 → -1 ≤ as nd ∧ as nd < T 0 0 ∧ -1 ≤ le nd ∧ le nd < S 0 0) (tr : h 66 50 = 1 → TRp as le S T 3 0) (h7 : h 66 50 = 1 → ∀ nd, 0 ≤ nd → nd < 15 → 7 ≤ nd → as nd = -1) {Q : xO → xH → Prop} (hN : ¬ (h 66 50 = 1) → Q (.inl (some (.inl (0)))) (xup h 66 0 1)) (hA : (h 66 50 = 1) → ¬ (0 ≤ w ∧ w ≤ 5) → Q (.inl (some (.inl (0)))) (xup h 66 0 2)) (h0 : (h 66 50 = 1) → w = 0 → Q (.inl (some (.inl (h 66 60)))) (xup h 66 0 0)) (h1 : (h 66 50 = 1) → w = 1 → Q (.inl (some (.inl (cN (ifN as) 15)))) (xup h 66 0 0)) (h2 : (h 66 50 = 1) → w = 2 → Q (.inl (some (.inl (dpN as 15)))) (xup h 66 0 0)) (h3 : (h 66 50 = 1) → w = 3 → Q (.inl (some (.inl (cN (lfN le) 15)))) (xup h 66 0 0)) (h4 : (h 66 50 = 1) → w = 4 → Q (.inl (some (.inl (as 0)))) (xup h 66 0 0)) (h5 : (h 66 50 = 1) → w = 5 → Q (.inl (some (.inl (le 0)))) (xup h 66 0 0))  : xRn G0 MT (d + 4) b 240 [.inr (.inr 66), .inl w] h Q := by
  refine R_of (M := mX12_solved) rfl (Nat.le_of_ble_eq_true rfl) ?_
  show xEx G0 cdX12_solved (some .int) (xRn G0 MT (d + 3)) Q b 0 [some (.inr (.inr 66)), some (.inl w), none, none, none, none, none, none] [] h
  refine E_s 3 (i' := 3) (ls' := [some (.inr (.inr 66)), some (.inl w), none, none, none, none, none, none]) (sk' := [.inl (h 66 50), .inr (.inr 66)]) (h' := h) rfl ?_
  refine E_b (x := (.ifCond .ne 7, 6, [], [])) rfl rfl (fun c3 => ?_) (fun c3 => ?_)
  · rw [c_ne (by first | assumption | (refine ⟨?_, ?_⟩ <;> omega) | (simp only [xr] at *; omega)) (by first | assumption | (refine ⟨?_, ?_⟩ <;> omega) | (simp only [xr] at *; omega))] at c3
    simp only [decide_eq_true_eq, decide_eq_false_iff_not, Decidable.not_not] at c3
    show xEx G0 cdX12_solved (some .int) (xRn G0 MT (d + 3)) Q b 6 [some (.inr (.inr 66)), some (.inl w), none, none, none, none, none, none] [.inr (.inr 66)] h
    refine E_s 3 (i' := 9) (ls' := [some (.inr (.inr 66)), some (.inl w), none, none, none, none, none, none]) (sk' := [.inl 5, .inl 0, .inl w, .inr (.inr 66)]) (h' := h) rfl ?_
    refine E_cp (x := (.invokestatic 180, 3, [(0, 155)], [])) (q := fun r2 h9 => ((r2 = 1 ∧ (0 ≤ w ∧ w ≤ 5)) ∨ (r2 = 0 ∧ ¬ (0 ≤ w ∧ w ≤ 5))) ∧ h = h9) rfl rfl (Nat.le_of_ble_eq_true rfl) (m_isIn (d + 2) 0 (h) w 0 5 hw ⟨by omega, by omega⟩ ⟨by omega, by omega⟩ (fun z => ⟨_, rfl, Or.inl ⟨rfl, z⟩, rfl⟩) (fun z => ⟨_, rfl, Or.inr ⟨rfl, z⟩, rfl⟩)) (fun r2 h9 q2 => ?_)
    obtain ⟨q2, rfl⟩ := q2
    show xEx G0 cdX12_solved (some .int) (xRn G0 MT (d + 3)) Q b 10 [some (.inr (.inr 66)), some (.inl w), none, none, none, none, none, none] [.inl r2, .inr (.inr 66)] h
    refine E_b (x := (.ifCond .ne 7, 13, [], [])) rfl rfl (fun c10 => ?_) (fun c10 => ?_)
    · rw [c_ne (by first | assumption | (refine ⟨?_, ?_⟩ <;> omega) | (simp only [xr] at *; omega)) (by first | assumption | (refine ⟨?_, ?_⟩ <;> omega) | (simp only [xr] at *; omega))] at c10
      simp only [decide_eq_true_eq, decide_eq_false_iff_not, Decidable.not_not] at c10
      show xEx G0 cdX12_solved (some .int) (xRn G0 MT (d + 3)) Q b 13 [some (.inr (.inr 66)), some (.inl w), none, none, none, none, none, none] [.inr (.inr 66)] h
      refine E_s 4 (i' := 17) (ls' := [some (.inr (.inr 66)), some (.inl w), none, none, none, none, none, none]) (sk' := [.inl 0]) (h' := (xup h 66 0 0)) rfl ?_
      refine E_b (x := (.ifCond .le 5, 20, [], [])) rfl rfl (fun c17 => ?_) (fun c17 => ?_)
      · show xEx G0 cdX12_solved (some .int) (xRn G0 MT (d + 3)) Q b 20 [some (.inr (.inr 66)), some (.inl w), none, none, none, none, none, none] [] (xup h 66 0 0)
        have qs : h 66 50 = 1 := by omega
        refine E_s 8 (i' := 28) (ls' := [some (.inr (.inr 66)), some (.inl w), some (.inl 0), some (.inl 0), some (.inl 0), some (.inl 1), none, none]) (sk' := []) (h' := (xup h 66 0 0)) rfl ?_
        have key28 : ∀ (n : Nat) (nn wi wd wu : Int) (v6 v7 : Option xV), (1 ≤ nn) → (nn ≤ 16) → (wi = cN (ifN as) (nn - 1).toNat) → (wd = dpN as (nn - 1).toNat) → (wu = cN (lfN le) (nn - 1).toNat) → ((16 - nn).toNat) < n → xEx G0 cdX12_solved (some .int) (xRn G0 MT (d + 3)) Q b 28 [some (.inr (.inr 66)), some (.inl w), some (.inl wi), some (.inl wd), some (.inl wu), some (.inl nn), v6, v7] [] (xup h 66 0 0) := by
          intro n
          induction n with
          | zero => intro nn wi wd wu v6 v7 _ _ _ _ _ hm; exact absurd hm (Nat.not_lt_zero _)
          | succ n ih28 =>
            intro nn wi wd wu v6 v7 hn0 hn9 hwi hwd hwu hm28
            refine E_s 2 (i' := 30) (ls' := [some (.inr (.inr 66)), some (.inl w), some (.inl wi), some (.inl wd), some (.inl wu), some (.inl nn), v6, v7]) (sk' := [.inl 16, .inl nn]) (h' := (xup h 66 0 0)) rfl ?_
            refine E_b (x := (.if_icmp .ge 125, 94, [], [])) rfl rfl (fun c30 => ?_) (fun c30 => ?_)
            · rw [c_ge (by first | assumption | (refine ⟨?_, ?_⟩ <;> omega) | (simp only [xr] at *; omega)) (by first | assumption | (refine ⟨?_, ?_⟩ <;> omega) | (simp only [xr] at *; omega))] at c30
              simp only [decide_eq_true_eq, decide_eq_false_iff_not, Decidable.not_not] at c30
              show xEx G0 cdX12_solved (some .int) (xRn G0 MT (d + 3)) Q b 94 [some (.inr (.inr 66)), some (.inl w), some (.inl wi), some (.inl wd), some (.inl wu), some (.inl nn), v6, v7] [] (xup h 66 0 0)
              have e9 : nn = 16 := by omega
              subst e9
              refine E_s 1 (i' := 95) (ls' := [some (.inr (.inr 66)), some (.inl w), some (.inl wi), some (.inl wd), some (.inl wu), some (.inl nn), v6, v7]) (sk' := [.inl w]) (h' := (xup h 66 0 0)) rfl ?_
              by_cases s95_0 : w = 0
              · refine E_sw (x := (.tableswitch 53 0 4 #[34, 39, 41, 43, 46], 110, [(0, 96), (1, 99), (2, 101), (3, 103), (4, 105)], [])) (t := 96) rfl rfl (by rw [s95_0]; decide +kernel) ?_
                show xEx G0 cdX12_solved (some .int) (xRn G0 MT (d + 3)) Q b 96 [some (.inr (.inr 66)), some (.inl w), some (.inl wi), some (.inl wd), some (.inl wu), some (.inl nn), v6, v7] [] (xup h 66 0 0)
                refine E_s 2 (i' := 98) (ls' := [some (.inr (.inr 66)), some (.inl w), some (.inl wi), some (.inl wd), some (.inl wu), some (.inl nn), v6, v7]) (sk' := [.inl (h 66 60)]) (h' := (xup h 66 0 0)) rfl ?_
                exact E_ret (x := (.ireturn, 0, [], [])) (v := some (.inl (h 66 60))) rfl (Or.inl rfl) (h0 qs s95_0)
              · by_cases s95_1 : w = 1
                · refine E_sw (x := (.tableswitch 53 0 4 #[34, 39, 41, 43, 46], 110, [(0, 96), (1, 99), (2, 101), (3, 103), (4, 105)], [])) (t := 99) rfl rfl (by rw [s95_1]; decide +kernel) ?_
                  show xEx G0 cdX12_solved (some .int) (xRn G0 MT (d + 3)) Q b 99 [some (.inr (.inr 66)), some (.inl w), some (.inl wi), some (.inl wd), some (.inl wu), some (.inl nn), v6, v7] [] (xup h 66 0 0)
                  refine E_s 1 (i' := 100) (ls' := [some (.inr (.inr 66)), some (.inl w), some (.inl wi), some (.inl wd), some (.inl wu), some (.inl nn), v6, v7]) (sk' := [.inl wi]) (h' := (xup h 66 0 0)) rfl ?_
                  exact E_ret (x := (.ireturn, 0, [], [])) (v := some (.inl wi)) rfl (Or.inl rfl) (by
                    have r9 := h1 qs s95_1
                    rw [hwi]
                    exact r9)
                · by_cases s95_2 : w = 2
                  · refine E_sw (x := (.tableswitch 53 0 4 #[34, 39, 41, 43, 46], 110, [(0, 96), (1, 99), (2, 101), (3, 103), (4, 105)], [])) (t := 101) rfl rfl (by rw [s95_2]; decide +kernel) ?_
                    show xEx G0 cdX12_solved (some .int) (xRn G0 MT (d + 3)) Q b 101 [some (.inr (.inr 66)), some (.inl w), some (.inl wi), some (.inl wd), some (.inl wu), some (.inl nn), v6, v7] [] (xup h 66 0 0)
                    refine E_s 1 (i' := 102) (ls' := [some (.inr (.inr 66)), some (.inl w), some (.inl wi), some (.inl wd), some (.inl wu), some (.inl nn), v6, v7]) (sk' := [.inl wd]) (h' := (xup h 66 0 0)) rfl ?_
                    exact E_ret (x := (.ireturn, 0, [], [])) (v := some (.inl wd)) rfl (Or.inl rfl) (by
                      have r9 := h2 qs s95_2
                      rw [hwd]
                      exact r9)
                  · by_cases s95_3 : w = 3
                    · refine E_sw (x := (.tableswitch 53 0 4 #[34, 39, 41, 43, 46], 110, [(0, 96), (1, 99), (2, 101), (3, 103), (4, 105)], [])) (t := 103) rfl rfl (by rw [s95_3]; decide +kernel) ?_
                      show xEx G0 cdX12_solved (some .int) (xRn G0 MT (d + 3)) Q b 103 [some (.inr (.inr 66)), some (.inl w), some (.inl wi), some (.inl wd), some (.inl wu), some (.inl nn), v6, v7] [] (xup h 66 0 0)
                      refine E_s 1 (i' := 104) (ls' := [some (.inr (.inr 66)), some (.inl w), some (.inl wi), some (.inl wd), some (.inl wu), some (.inl nn), v6, v7]) (sk' := [.inl wu]) (h' := (xup h 66 0 0)) rfl ?_
                      exact E_ret (x := (.ireturn, 0, [], [])) (v := some (.inl wu)) rfl (Or.inl rfl) (by
                        have r9 := h3 qs s95_3
                        rw [hwu]
                        exact r9)
                    · by_cases s95_4 : w = 4
                      · refine E_sw (x := (.tableswitch 53 0 4 #[34, 39, 41, 43, 46], 110, [(0, 96), (1, 99), (2, 101), (3, 103), (4, 105)], [])) (t := 105) rfl rfl (by rw [s95_4]; decide +kernel) ?_
                        show xEx G0 cdX12_solved (some .int) (xRn G0 MT (d + 3)) Q b 105 [some (.inr (.inr 66)), some (.inl w), some (.inl wi), some (.inl wd), some (.inl wu), some (.inl nn), v6, v7] [] (xup h 66 0 0)
                        refine E_s 3 (i' := 108) (ls' := [some (.inr (.inr 66)), some (.inl w), some (.inl wi), some (.inl wd), some (.inl wu), some (.inl nn), v6, v7]) (sk' := [.inl 1, .inr (.inr 105)]) (h' := (xup h 66 0 0)) rfl ?_
                        refine E_ld (x := (.iaload, 0, [], [])) (ty := .int) (n := 32) rfl rfl rfl (by omega) (by omega) ?_
                        show xEx G0 cdX12_solved (some .int) (xRn G0 MT (d + 3)) Q b 109 [some (.inr (.inr 66)), some (.inl w), some (.inl wi), some (.inl wd), some (.inl wu), some (.inl nn), v6, v7] [.inl (h 105 1)] (xup h 66 0 0)
                        exact E_ret (x := (.ireturn, 0, [], [])) (v := some (.inl (h 105 1))) rfl (Or.inl rfl) (by
                          have r9 := h4 qs s95_4
                          have g9 := (tn qs 1 (by omega) (by omega)).1
                          rw [show (1 : Int) - 1 = 0 from rfl] at g9
                          rw [← g9] at r9
                          exact r9)
                      · refine E_sw (x := (.tableswitch 53 0 4 #[34, 39, 41, 43, 46], 110, [(0, 96), (1, 99), (2, 101), (3, 103), (4, 105)], [])) (t := 110) rfl rfl (by rw [w32_id hw]; simp only [xsw]; rw [if_neg (by omega)]; rw [if_neg (by omega)]; rw [if_neg (by omega)]; rw [if_neg (by omega)]; rw [if_neg (by omega)]; rfl) ?_
                        show xEx G0 cdX12_solved (some .int) (xRn G0 MT (d + 3)) Q b 110 [some (.inr (.inr 66)), some (.inl w), some (.inl wi), some (.inl wd), some (.inl wu), some (.inl nn), v6, v7] [] (xup h 66 0 0)
                        refine E_s 3 (i' := 113) (ls' := [some (.inr (.inr 66)), some (.inl w), some (.inl wi), some (.inl wd), some (.inl wu), some (.inl nn), v6, v7]) (sk' := [.inl 1, .inr (.inr 106)]) (h' := (xup h 66 0 0)) rfl ?_
                        refine E_ld (x := (.iaload, 0, [], [])) (ty := .int) (n := 32) rfl rfl rfl (by omega) (by omega) ?_
                        show xEx G0 cdX12_solved (some .int) (xRn G0 MT (d + 3)) Q b 114 [some (.inr (.inr 66)), some (.inl w), some (.inl wi), some (.inl wd), some (.inl wu), some (.inl nn), v6, v7] [.inl (h 106 1)] (xup h 66 0 0)
                        exact E_ret (x := (.ireturn, 0, [], [])) (v := some (.inl (h 106 1))) rfl (Or.inl rfl) (by
                          have r9 := h5 qs (by omega)
                          have g9 := (tn qs 1 (by omega) (by omega)).2
                          rw [show (1 : Int) - 1 = 0 from rfl] at g9
                          rw [← g9] at r9
                          exact r9)
            · rw [c_ge (by first | assumption | (refine ⟨?_, ?_⟩ <;> omega) | (simp only [xr] at *; omega)) (by first | assumption | (refine ⟨?_, ?_⟩ <;> omega) | (simp only [xr] at *; omega))] at c30
              simp only [decide_eq_true_eq, decide_eq_false_iff_not, Decidable.not_not] at c30
              show xEx G0 cdX12_solved (some .int) (xRn G0 MT (d + 3)) Q b 31 [some (.inr (.inr 66)), some (.inl w), some (.inl wi), some (.inl wd), some (.inl wu), some (.inl nn), v6, v7] [] (xup h 66 0 0)
              obtain ⟨g1, g2⟩ := tn qs nn hn0 (by omega)
              have hrn := hr qs (nn - 1) (by omega) (by omega)
              have dr := dpN_r as (nn - 1).toNat
              rw [Int.toNat_of_nonneg (show 0 ≤ nn - 1 by omega)] at dr
              have lr := lvN_m (nn - 1) (by omega)
              refine E_s 3 (i' := 34) (ls' := [some (.inr (.inr 66)), some (.inl w), some (.inl wi), some (.inl wd), some (.inl wu), some (.inl nn), v6, v7]) (sk' := [.inl nn, .inr (.inr 105)]) (h' := (xup h 66 0 0)) rfl ?_
              refine E_ld (x := (.iaload, 0, [], [])) (ty := .int) (n := 32) rfl rfl rfl (by omega) (by omega) ?_
              show xEx G0 cdX12_solved (some .int) (xRn G0 MT (d + 3)) Q b 35 [some (.inr (.inr 66)), some (.inl w), some (.inl wi), some (.inl wd), some (.inl wu), some (.inl nn), v6, v7] [.inl (h 105 nn)] (xup h 66 0 0)
              refine E_s 1 (i' := 36) (ls' := [some (.inr (.inr 66)), some (.inl w), some (.inl wi), some (.inl wd), some (.inl wu), some (.inl nn), v6, v7]) (sk' := [.inl (-1), .inl (h 105 nn)]) (h' := (xup h 66 0 0)) rfl ?_
              refine E_b (x := (.if_icmp .eq 31, 53, [], [])) rfl rfl (fun c36 => ?_) (fun c36 => ?_)
              · rw [c_eq (by first | assumption | (refine ⟨?_, ?_⟩ <;> omega) | (simp only [xr] at *; omega)) (by first | assumption | (refine ⟨?_, ?_⟩ <;> omega) | (simp only [xr] at *; omega))] at c36
                simp only [decide_eq_true_eq, decide_eq_false_iff_not, Decidable.not_not] at c36
                show xEx G0 cdX12_solved (some .int) (xRn G0 MT (d + 3)) Q b 53 [some (.inr (.inr 66)), some (.inl w), some (.inl wi), some (.inl wd), some (.inl wu), some (.inl nn), v6, v7] [] (xup h 66 0 0)
                have a0 : as (nn - 1) = -1 := by rw [← g1]; exact c36
                refine E_s 3 (i' := 56) (ls' := [some (.inr (.inr 66)), some (.inl w), some (.inl wi), some (.inl wd), some (.inl wu), some (.inl nn), v6, v7]) (sk' := [.inl nn, .inr (.inr 106)]) (h' := (xup h 66 0 0)) rfl ?_
                refine E_ld (x := (.iaload, 0, [], [])) (ty := .int) (n := 32) rfl rfl rfl (by omega) (by omega) ?_
                show xEx G0 cdX12_solved (some .int) (xRn G0 MT (d + 3)) Q b 57 [some (.inr (.inr 66)), some (.inl w), some (.inl wi), some (.inl wd), some (.inl wu), some (.inl nn), v6, v7] [.inl (h 106 nn)] (xup h 66 0 0)
                refine E_s 1 (i' := 58) (ls' := [some (.inr (.inr 66)), some (.inl w), some (.inl wi), some (.inl wd), some (.inl wu), some (.inl nn), v6, v7]) (sk' := [.inl (-1), .inl (h 106 nn)]) (h' := (xup h 66 0 0)) rfl ?_
                refine E_b (x := (.if_icmp .ne 6, 60, [], [])) rfl rfl (fun c58 => ?_) (fun c58 => ?_)
                · rw [c_ne (by first | assumption | (refine ⟨?_, ?_⟩ <;> omega) | (simp only [xr] at *; omega)) (by first | assumption | (refine ⟨?_, ?_⟩ <;> omega) | (simp only [xr] at *; omega))] at c58
                  simp only [decide_eq_true_eq, decide_eq_false_iff_not, Decidable.not_not] at c58
                  show xEx G0 cdX12_solved (some .int) (xRn G0 MT (d + 3)) Q b 60 [some (.inr (.inr 66)), some (.inl w), some (.inl wi), some (.inl wd), some (.inl wu), some (.inl nn), v6, v7] [] (xup h 66 0 0)
                  have b1 : ¬ le (nn - 1) = -1 := by rw [← g2]; exact c58
                  refine E_s 4 (i' := 64) (ls' := [some (.inr (.inr 66)), some (.inl w), some (.inl wi), some (.inl wd), some (.inl wu), some (.inl nn), some (.inl 1), some (.inl 1)]) (sk' := []) (h' := (xup h 66 0 0)) rfl ?_
                  have key64 : ∀ (n : Nat) (mm ii : Int), (1 ≤ mm) → (mm ≤ nn) → (ii = 0 ∨ ii = 1) → ((ii = 1 ∧ NA le mm (nn - 1)) ∨ (ii = 0 ∧ ¬ NA le mm (nn - 1))) → ((nn - mm).toNat) < n → xEx G0 cdX12_solved (some .int) (xRn G0 MT (d + 3)) Q b 64 [some (.inr (.inr 66)), some (.inl w), some (.inl wi), some (.inl wd), some (.inl wu), some (.inl nn), some (.inl ii), some (.inl mm)] [] (xup h 66 0 0) := by
                    intro n
                    induction n with
                    | zero => intro mm ii _ _ _ _ hm; exact absurd hm (Nat.not_lt_zero _)
                    | succ n ih64 =>
                      intro mm ii hm0 hm9 hii hna hm64
                      refine E_s 2 (i' := 66) (ls' := [some (.inr (.inr 66)), some (.inl w), some (.inl wi), some (.inl wd), some (.inl wu), some (.inl nn), some (.inl ii), some (.inl mm)]) (sk' := [.inl nn, .inl mm]) (h' := (xup h 66 0 0)) rfl ?_
                      refine E_b (x := (.if_icmp .ge 38, 84, [], [])) rfl rfl (fun c66 => ?_) (fun c66 => ?_)
                      · rw [c_ge (by first | assumption | (refine ⟨?_, ?_⟩ <;> omega) | (simp only [xr] at *; omega)) (by first | assumption | (refine ⟨?_, ?_⟩ <;> omega) | (simp only [xr] at *; omega))] at c66
                        simp only [decide_eq_true_eq, decide_eq_false_iff_not, Decidable.not_not] at c66
                        show xEx G0 cdX12_solved (some .int) (xRn G0 MT (d + 3)) Q b 84 [some (.inr (.inr 66)), some (.inl w), some (.inl wi), some (.inl wd), some (.inl wu), some (.inl nn), some (.inl ii), some (.inl mm)] [] (xup h 66 0 0)
                        have em : mm = nn := by omega
                        subst em
                        refine E_s 2 (i' := 86) (ls' := [some (.inr (.inr 66)), some (.inl w), some (.inl wi), some (.inl wd), some (.inl wu), some (.inl nn), some (.inl ii), some (.inl mm)]) (sk' := [.inl ii, .inl wu]) (h' := (xup h 66 0 0)) rfl ?_
                        refine E_b (x := (.ifCond .eq 7, 89, [], [])) rfl rfl (fun c86 => ?_) (fun c86 => ?_)
                        · rw [c_eq (by first | assumption | (refine ⟨?_, ?_⟩ <;> omega) | (simp only [xr] at *; omega)) (by first | assumption | (refine ⟨?_, ?_⟩ <;> omega) | (simp only [xr] at *; omega))] at c86
                          simp only [decide_eq_true_eq, decide_eq_false_iff_not, Decidable.not_not] at c86
                          show xEx G0 cdX12_solved (some .int) (xRn G0 MT (d + 3)) Q b 89 [some (.inr (.inr 66)), some (.inl w), some (.inl wi), some (.inl wd), some (.inl wu), some (.inl nn), some (.inl ii), some (.inl mm)] [.inl wu] (xup h 66 0 0)
                          have lf0 : ¬ ∀ j, 0 ≤ j → j < mm - 1 → ¬ le j = le (mm - 1) := by
                            rcases hna with ⟨z9, -⟩ | ⟨-, z9⟩
                            · omega
                            · exact fun y => z9 (fun j z1 z2 => y j z1 (by omega))
                          refine E_s 5 (i' := 28) (ls' := [some (.inr (.inr 66)), some (.inl w), some (.inl wi), some (.inl wd), some (.inl (wu + 0)), some (.inl (nn + 1)), some (.inl ii), some (.inl mm)]) (sk' := []) (h' := (xup h 66 0 0)) rfl ?_
                          exact ih28 (nn + 1) (wi) (wd) (wu + 0) _ _ (by omega) (by omega) (by
                            rw [show nn + 1 - 1 = nn - 1 + 1 by omega, cN_n (by omega) (fun y => y a0), hwi]) (by
                            rw [show nn + 1 - 1 = nn - 1 + 1 by omega, dpN_0 (by omega) a0, hwd]) (by
                            rw [show nn + 1 - 1 = nn - 1 + 1 by omega, cN_n (by omega) (fun y => lf0 y.2), hwu]
                            omega) (by omega)
                        · rw [c_eq (by first | assumption | (refine ⟨?_, ?_⟩ <;> omega) | (simp only [xr] at *; omega)) (by first | assumption | (refine ⟨?_, ?_⟩ <;> omega) | (simp only [xr] at *; omega))] at c86
                          simp only [decide_eq_true_eq, decide_eq_false_iff_not, Decidable.not_not] at c86
                          show xEx G0 cdX12_solved (some .int) (xRn G0 MT (d + 3)) Q b 87 [some (.inr (.inr 66)), some (.inl w), some (.inl wi), some (.inl wd), some (.inl wu), some (.inl nn), some (.inl ii), some (.inl mm)] [.inl wu] (xup h 66 0 0)
                          have lf9 : ∀ j, 0 ≤ j → j < mm - 1 → ¬ le j = le (mm - 1) := by
                            rcases hna with ⟨-, z9⟩ | ⟨z9, -⟩
                            · exact fun j z1 z2 => z9 j z1 (by omega)
                            · exact absurd z9 c86
                          refine E_s 6 (i' := 28) (ls' := [some (.inr (.inr 66)), some (.inl w), some (.inl wi), some (.inl wd), some (.inl (wu + 1)), some (.inl (nn + 1)), some (.inl ii), some (.inl mm)]) (sk' := []) (h' := (xup h 66 0 0)) rfl ?_
                          exact ih28 (nn + 1) (wi) (wd) (wu + 1) _ _ (by omega) (by omega) (by
                            rw [show nn + 1 - 1 = nn - 1 + 1 by omega, cN_n (by omega) (fun y => y a0), hwi]) (by
                            rw [show nn + 1 - 1 = nn - 1 + 1 by omega, dpN_0 (by omega) a0, hwd]) (by
                            rw [show nn + 1 - 1 = nn - 1 + 1 by omega, cN_p (by omega) ⟨b1, lf9⟩, hwu]) (by omega)
                      · rw [c_ge (by first | assumption | (refine ⟨?_, ?_⟩ <;> omega) | (simp only [xr] at *; omega)) (by first | assumption | (refine ⟨?_, ?_⟩ <;> omega) | (simp only [xr] at *; omega))] at c66
                        simp only [decide_eq_true_eq, decide_eq_false_iff_not, Decidable.not_not] at c66
                        show xEx G0 cdX12_solved (some .int) (xRn G0 MT (d + 3)) Q b 67 [some (.inr (.inr 66)), some (.inl w), some (.inl wi), some (.inl wd), some (.inl wu), some (.inl nn), some (.inl ii), some (.inl mm)] [] (xup h 66 0 0)
                        refine E_s 1 (i' := 68) (ls' := [some (.inr (.inr 66)), some (.inl w), some (.inl wi), some (.inl wd), some (.inl wu), some (.inl nn), some (.inl ii), some (.inl mm)]) (sk' := [.inl ii]) (h' := (xup h 66 0 0)) rfl ?_
                        refine E_b (x := (.ifCond .eq 24, 80, [], [])) rfl rfl (fun c68 => ?_) (fun c68 => ?_)
                        · rw [c_eq (by first | assumption | (refine ⟨?_, ?_⟩ <;> omega) | (simp only [xr] at *; omega)) (by first | assumption | (refine ⟨?_, ?_⟩ <;> omega) | (simp only [xr] at *; omega))] at c68
                          simp only [decide_eq_true_eq, decide_eq_false_iff_not, Decidable.not_not] at c68
                          show xEx G0 cdX12_solved (some .int) (xRn G0 MT (d + 3)) Q b 80 [some (.inr (.inr 66)), some (.inl w), some (.inl wi), some (.inl wd), some (.inl wu), some (.inl nn), some (.inl ii), some (.inl mm)] [] (xup h 66 0 0)
                          have nz : ¬ NA le (mm + 1) (nn - 1) := by
                            first
                            | exact NA_3 hm0 (by rw [← g4, ← g2]; exact c77)
                            | exact NA_2 (by
                                rcases hna with ⟨z9, -⟩ | ⟨-, z9⟩
                                · omega
                                · exact z9)
                          refine E_s 4 (i' := 64) (ls' := [some (.inr (.inr 66)), some (.inl w), some (.inl wi), some (.inl wd), some (.inl wu), some (.inl nn), some (.inl 0), some (.inl (mm + 1))]) (sk' := []) (h' := (xup h 66 0 0)) rfl ?_
                          exact ih64 (mm + 1) 0 (by omega) (by omega) (by omega) (Or.inr ⟨rfl, nz⟩) (by omega)
                        · rw [c_eq (by first | assumption | (refine ⟨?_, ?_⟩ <;> omega) | (simp only [xr] at *; omega)) (by first | assumption | (refine ⟨?_, ?_⟩ <;> omega) | (simp only [xr] at *; omega))] at c68
                          simp only [decide_eq_true_eq, decide_eq_false_iff_not, Decidable.not_not] at c68
                          show xEx G0 cdX12_solved (some .int) (xRn G0 MT (d + 3)) Q b 69 [some (.inr (.inr 66)), some (.inl w), some (.inl wi), some (.inl wd), some (.inl wu), some (.inl nn), some (.inl ii), some (.inl mm)] [] (xup h 66 0 0)
                          obtain ⟨g3, g4⟩ := tn qs mm hm0 (by omega)
                          have hrm := hr qs (mm - 1) (by omega) (by omega)
                          have na1 : NA le mm (nn - 1) := by
                            rcases hna with ⟨-, z9⟩ | ⟨z9, -⟩
                            · exact z9
                            · exact absurd z9 c68
                          refine E_s 3 (i' := 72) (ls' := [some (.inr (.inr 66)), some (.inl w), some (.inl wi), some (.inl wd), some (.inl wu), some (.inl nn), some (.inl ii), some (.inl mm)]) (sk' := [.inl mm, .inr (.inr 106)]) (h' := (xup h 66 0 0)) rfl ?_
                          refine E_ld (x := (.iaload, 0, [], [])) (ty := .int) (n := 32) rfl rfl rfl (by omega) (by omega) ?_
                          show xEx G0 cdX12_solved (some .int) (xRn G0 MT (d + 3)) Q b 73 [some (.inr (.inr 66)), some (.inl w), some (.inl wi), some (.inl wd), some (.inl wu), some (.inl nn), some (.inl ii), some (.inl mm)] [.inl (h 106 mm)] (xup h 66 0 0)
                          refine E_s 3 (i' := 76) (ls' := [some (.inr (.inr 66)), some (.inl w), some (.inl wi), some (.inl wd), some (.inl wu), some (.inl nn), some (.inl ii), some (.inl mm)]) (sk' := [.inl nn, .inr (.inr 106), .inl (h 106 mm)]) (h' := (xup h 66 0 0)) rfl ?_
                          refine E_ld (x := (.iaload, 0, [], [])) (ty := .int) (n := 32) rfl rfl rfl (by omega) (by omega) ?_
                          show xEx G0 cdX12_solved (some .int) (xRn G0 MT (d + 3)) Q b 77 [some (.inr (.inr 66)), some (.inl w), some (.inl wi), some (.inl wd), some (.inl wu), some (.inl nn), some (.inl ii), some (.inl mm)] [.inl (h 106 nn), .inl (h 106 mm)] (xup h 66 0 0)
                          refine E_b (x := (.if_icmp .eq 7, 80, [], [])) rfl rfl (fun c77 => ?_) (fun c77 => ?_)
                          · rw [c_eq (by first | assumption | (refine ⟨?_, ?_⟩ <;> omega) | (simp only [xr] at *; omega)) (by first | assumption | (refine ⟨?_, ?_⟩ <;> omega) | (simp only [xr] at *; omega))] at c77
                            simp only [decide_eq_true_eq, decide_eq_false_iff_not, Decidable.not_not] at c77
                            show xEx G0 cdX12_solved (some .int) (xRn G0 MT (d + 3)) Q b 80 [some (.inr (.inr 66)), some (.inl w), some (.inl wi), some (.inl wd), some (.inl wu), some (.inl nn), some (.inl ii), some (.inl mm)] [] (xup h 66 0 0)
                            have nz : ¬ NA le (mm + 1) (nn - 1) := by
                              first
                              | exact NA_3 hm0 (by rw [← g4, ← g2]; exact c77)
                              | exact NA_2 (by
                                  rcases hna with ⟨z9, -⟩ | ⟨-, z9⟩
                                  · omega
                                  · exact z9)
                            refine E_s 4 (i' := 64) (ls' := [some (.inr (.inr 66)), some (.inl w), some (.inl wi), some (.inl wd), some (.inl wu), some (.inl nn), some (.inl 0), some (.inl (mm + 1))]) (sk' := []) (h' := (xup h 66 0 0)) rfl ?_
                            exact ih64 (mm + 1) 0 (by omega) (by omega) (by omega) (Or.inr ⟨rfl, nz⟩) (by omega)
                          · rw [c_eq (by first | assumption | (refine ⟨?_, ?_⟩ <;> omega) | (simp only [xr] at *; omega)) (by first | assumption | (refine ⟨?_, ?_⟩ <;> omega) | (simp only [xr] at *; omega))] at c77
                            simp only [decide_eq_true_eq, decide_eq_false_iff_not, Decidable.not_not] at c77
                            show xEx G0 cdX12_solved (some .int) (xRn G0 MT (d + 3)) Q b 78 [some (.inr (.inr 66)), some (.inl w), some (.inl wi), some (.inl wd), some (.inl wu), some (.inl nn), some (.inl ii), some (.inl mm)] [] (xup h 66 0 0)
                            have nl : ¬ le (mm - 1) = le (nn - 1) := by rw [← g4, ← g2]; exact c77
                            refine E_s 5 (i' := 64) (ls' := [some (.inr (.inr 66)), some (.inl w), some (.inl wi), some (.inl wd), some (.inl wu), some (.inl nn), some (.inl 1), some (.inl (mm + 1))]) (sk' := []) (h' := (xup h 66 0 0)) rfl ?_
                            exact ih64 (mm + 1) 1 (by omega) (by omega) (by omega) (Or.inl ⟨rfl, NA_1 na1 nl⟩) (by omega)
                  exact key64 _ 1 1 (by omega) (by omega) (by omega) (Or.inl ⟨rfl, fun j z1 z2 => by omega⟩) (Nat.lt_succ_self _)
                · rw [c_ne (by first | assumption | (refine ⟨?_, ?_⟩ <;> omega) | (simp only [xr] at *; omega)) (by first | assumption | (refine ⟨?_, ?_⟩ <;> omega) | (simp only [xr] at *; omega))] at c58
                  simp only [decide_eq_true_eq, decide_eq_false_iff_not, Decidable.not_not] at c58
                  show xEx G0 cdX12_solved (some .int) (xRn G0 MT (d + 3)) Q b 59 [some (.inr (.inr 66)), some (.inl w), some (.inl wi), some (.inl wd), some (.inl wu), some (.inl nn), v6, v7] [] (xup h 66 0 0)
                  have b0 : le (nn - 1) = -1 := by rw [← g2]; exact c58
                  refine E_s 3 (i' := 28) (ls' := [some (.inr (.inr 66)), some (.inl w), some (.inl wi), some (.inl wd), some (.inl wu), some (.inl (nn + 1)), v6, v7]) (sk' := []) (h' := (xup h 66 0 0)) rfl ?_
                  exact ih28 (nn + 1) (wi) (wd) (wu) _ _ (by omega) (by omega) (by
                    rw [show nn + 1 - 1 = nn - 1 + 1 by omega, cN_n (by omega) (fun y => y a0), hwi]) (by
                    rw [show nn + 1 - 1 = nn - 1 + 1 by omega, dpN_0 (by omega) a0, hwd]) (by
                    rw [show nn + 1 - 1 = nn - 1 + 1 by omega, cN_n (by omega) (fun y => y.1 b0), hwu]) (by omega)
              · rw [c_eq (by first | assumption | (refine ⟨?_, ?_⟩ <;> omega) | (simp only [xr] at *; omega)) (by first | assumption | (refine ⟨?_, ?_⟩ <;> omega) | (simp only [xr] at *; omega))] at c36
                simp only [decide_eq_true_eq, decide_eq_false_iff_not, Decidable.not_not] at c36
                show xEx G0 cdX12_solved (some .int) (xRn G0 MT (d + 3)) Q b 37 [some (.inr (.inr 66)), some (.inl w), some (.inl wi), some (.inl wd), some (.inl wu), some (.inl nn), v6, v7] [] (xup h 66 0 0)
                have a1 : ¬ as (nn - 1) = -1 := by rw [← g1]; exact c36
                have n7 : ¬ 7 ≤ nn - 1 := fun z9 => a1 (h7 qs (nn - 1) (by omega) (by omega) z9)
                refine E_s 4 (i' := 41) (ls' := [some (.inr (.inr 66)), some (.inl w), some (.inl (wi + 1)), some (.inl wd), some (.inl wu), some (.inl nn), v6, v7]) (sk' := [.inl nn, .inr (.inr 66), .inl wd]) (h' := (xup h 66 0 0)) rfl ?_
                refine E_cp (x := (.invokevirtual 415, 1, [(10, 239)], [0])) (q := fun r h9 => r + 1 = lvN (nn - 1) ∧ (xup h 66 0 0) = h9) rfl rfl (Nat.le_of_ble_eq_true rfl) (m_innermost (d + 2) 0 (xup h 66 0 0) nn ⟨hn0, by omega⟩ (fun r hr9 => ⟨r, rfl, hr9, rfl⟩)) (fun ra h9 hia => ?_)
                obtain ⟨hia, rfl⟩ := hia
                show xEx G0 cdX12_solved (some .int) (xRn G0 MT (d + 3)) Q b 42 [some (.inr (.inr 66)), some (.inl w), some (.inl (wi + 1)), some (.inl wd), some (.inl wu), some (.inl nn), v6, v7] [.inl ra, .inl wd] (xup h 66 0 0)
                refine E_s 2 (i' := 44) (ls' := [some (.inr (.inr 66)), some (.inl w), some (.inl (wi + 1)), some (.inl wd), some (.inl wu), some (.inl nn), v6, v7]) (sk' := [.inl (ra + 1), .inl wd]) (h' := (xup h 66 0 0)) rfl ?_
                refine E_b (x := (.if_icmp .le 7, 47, [], [])) rfl rfl (fun c44 => ?_) (fun c44 => ?_)
                · rw [c_le (by first | assumption | (refine ⟨?_, ?_⟩ <;> omega) | (simp only [xr] at *; omega)) (by first | assumption | (refine ⟨?_, ?_⟩ <;> omega) | (simp only [xr] at *; omega))] at c44
                  simp only [decide_eq_true_eq, decide_eq_false_iff_not, Decidable.not_not] at c44
                  show xEx G0 cdX12_solved (some .int) (xRn G0 MT (d + 3)) Q b 47 [some (.inr (.inr 66)), some (.inl w), some (.inl (wi + 1)), some (.inl wd), some (.inl wu), some (.inl nn), v6, v7] [] (xup h 66 0 0)
                  refine E_s 2 (i' := 49) (ls' := [some (.inr (.inr 66)), some (.inl w), some (.inl (wi + 1)), some (.inl wd), some (.inl wu), some (.inl nn), v6, v7]) (sk' := [.inl nn, .inr (.inr 66)]) (h' := (xup h 66 0 0)) rfl ?_
                  refine E_cp (x := (.invokevirtual 415, 1, [(10, 239)], [0])) (q := fun r h9 => r + 1 = lvN (nn - 1) ∧ (xup h 66 0 0) = h9) rfl rfl (Nat.le_of_ble_eq_true rfl) (m_innermost (d + 2) 0 (xup h 66 0 0) nn ⟨hn0, by omega⟩ (fun r hr9 => ⟨r, rfl, hr9, rfl⟩)) (fun rb h9 hib => ?_)
                  obtain ⟨hib, rfl⟩ := hib
                  show xEx G0 cdX12_solved (some .int) (xRn G0 MT (d + 3)) Q b 50 [some (.inr (.inr 66)), some (.inl w), some (.inl (wi + 1)), some (.inl wd), some (.inl wu), some (.inl nn), v6, v7] [.inl rb] (xup h 66 0 0)
                  refine E_s 3 (i' := 53) (ls' := [some (.inr (.inr 66)), some (.inl w), some (.inl (wi + 1)), some (.inl (rb + 1)), some (.inl wu), some (.inl nn), v6, v7]) (sk' := []) (h' := (xup h 66 0 0)) rfl ?_
                  skip
                  refine E_s 3 (i' := 56) (ls' := [some (.inr (.inr 66)), some (.inl w), some (.inl (wi + 1)), some (.inl (rb + 1)), some (.inl wu), some (.inl nn), v6, v7]) (sk' := [.inl nn, .inr (.inr 106)]) (h' := (xup h 66 0 0)) rfl ?_
                  refine E_ld (x := (.iaload, 0, [], [])) (ty := .int) (n := 32) rfl rfl rfl (by omega) (by omega) ?_
                  show xEx G0 cdX12_solved (some .int) (xRn G0 MT (d + 3)) Q b 57 [some (.inr (.inr 66)), some (.inl w), some (.inl (wi + 1)), some (.inl (rb + 1)), some (.inl wu), some (.inl nn), v6, v7] [.inl (h 106 nn)] (xup h 66 0 0)
                  refine E_s 1 (i' := 58) (ls' := [some (.inr (.inr 66)), some (.inl w), some (.inl (wi + 1)), some (.inl (rb + 1)), some (.inl wu), some (.inl nn), v6, v7]) (sk' := [.inl (-1), .inl (h 106 nn)]) (h' := (xup h 66 0 0)) rfl ?_
                  refine E_b (x := (.if_icmp .ne 6, 60, [], [])) rfl rfl (fun c58 => ?_) (fun c58 => ?_)
                  · rw [c_ne (by first | assumption | (refine ⟨?_, ?_⟩ <;> omega) | (simp only [xr] at *; omega)) (by first | assumption | (refine ⟨?_, ?_⟩ <;> omega) | (simp only [xr] at *; omega))] at c58
                    simp only [decide_eq_true_eq, decide_eq_false_iff_not, Decidable.not_not] at c58
                    show xEx G0 cdX12_solved (some .int) (xRn G0 MT (d + 3)) Q b 60 [some (.inr (.inr 66)), some (.inl w), some (.inl (wi + 1)), some (.inl (rb + 1)), some (.inl wu), some (.inl nn), v6, v7] [] (xup h 66 0 0)
                    have b1 : ¬ le (nn - 1) = -1 := by rw [← g2]; exact c58
                    refine E_s 4 (i' := 64) (ls' := [some (.inr (.inr 66)), some (.inl w), some (.inl (wi + 1)), some (.inl (rb + 1)), some (.inl wu), some (.inl nn), some (.inl 1), some (.inl 1)]) (sk' := []) (h' := (xup h 66 0 0)) rfl ?_
                    have key64 : ∀ (n : Nat) (mm ii : Int), (1 ≤ mm) → (mm ≤ nn) → (ii = 0 ∨ ii = 1) → ((ii = 1 ∧ NA le mm (nn - 1)) ∨ (ii = 0 ∧ ¬ NA le mm (nn - 1))) → ((nn - mm).toNat) < n → xEx G0 cdX12_solved (some .int) (xRn G0 MT (d + 3)) Q b 64 [some (.inr (.inr 66)), some (.inl w), some (.inl (wi + 1)), some (.inl (rb + 1)), some (.inl wu), some (.inl nn), some (.inl ii), some (.inl mm)] [] (xup h 66 0 0) := by
                      intro n
                      induction n with
                      | zero => intro mm ii _ _ _ _ hm; exact absurd hm (Nat.not_lt_zero _)
                      | succ n ih64 =>
                        intro mm ii hm0 hm9 hii hna hm64
                        refine E_s 2 (i' := 66) (ls' := [some (.inr (.inr 66)), some (.inl w), some (.inl (wi + 1)), some (.inl (rb + 1)), some (.inl wu), some (.inl nn), some (.inl ii), some (.inl mm)]) (sk' := [.inl nn, .inl mm]) (h' := (xup h 66 0 0)) rfl ?_
                        refine E_b (x := (.if_icmp .ge 38, 84, [], [])) rfl rfl (fun c66 => ?_) (fun c66 => ?_)
                        · rw [c_ge (by first | assumption | (refine ⟨?_, ?_⟩ <;> omega) | (simp only [xr] at *; omega)) (by first | assumption | (refine ⟨?_, ?_⟩ <;> omega) | (simp only [xr] at *; omega))] at c66
                          simp only [decide_eq_true_eq, decide_eq_false_iff_not, Decidable.not_not] at c66
                          show xEx G0 cdX12_solved (some .int) (xRn G0 MT (d + 3)) Q b 84 [some (.inr (.inr 66)), some (.inl w), some (.inl (wi + 1)), some (.inl (rb + 1)), some (.inl wu), some (.inl nn), some (.inl ii), some (.inl mm)] [] (xup h 66 0 0)
                          have em : mm = nn := by omega
                          subst em
                          refine E_s 2 (i' := 86) (ls' := [some (.inr (.inr 66)), some (.inl w), some (.inl (wi + 1)), some (.inl (rb + 1)), some (.inl wu), some (.inl nn), some (.inl ii), some (.inl mm)]) (sk' := [.inl ii, .inl wu]) (h' := (xup h 66 0 0)) rfl ?_
                          refine E_b (x := (.ifCond .eq 7, 89, [], [])) rfl rfl (fun c86 => ?_) (fun c86 => ?_)
                          · rw [c_eq (by first | assumption | (refine ⟨?_, ?_⟩ <;> omega) | (simp only [xr] at *; omega)) (by first | assumption | (refine ⟨?_, ?_⟩ <;> omega) | (simp only [xr] at *; omega))] at c86
                            simp only [decide_eq_true_eq, decide_eq_false_iff_not, Decidable.not_not] at c86
                            show xEx G0 cdX12_solved (some .int) (xRn G0 MT (d + 3)) Q b 89 [some (.inr (.inr 66)), some (.inl w), some (.inl (wi + 1)), some (.inl (rb + 1)), some (.inl wu), some (.inl nn), some (.inl ii), some (.inl mm)] [.inl wu] (xup h 66 0 0)
                            have lf0 : ¬ ∀ j, 0 ≤ j → j < mm - 1 → ¬ le j = le (mm - 1) := by
                              rcases hna with ⟨z9, -⟩ | ⟨-, z9⟩
                              · omega
                              · exact fun y => z9 (fun j z1 z2 => y j z1 (by omega))
                            refine E_s 5 (i' := 28) (ls' := [some (.inr (.inr 66)), some (.inl w), some (.inl (wi + 1)), some (.inl (rb + 1)), some (.inl (wu + 0)), some (.inl (nn + 1)), some (.inl ii), some (.inl mm)]) (sk' := []) (h' := (xup h 66 0 0)) rfl ?_
                            exact ih28 (nn + 1) (wi + 1) (rb + 1) (wu + 0) _ _ (by omega) (by omega) (by
                              rw [show nn + 1 - 1 = nn - 1 + 1 by omega, cN_p (by omega) a1, hwi]) (by
                              rw [show nn + 1 - 1 = nn - 1 + 1 by omega, dpN_1 (by omega) a1]
                              omega) (by
                              rw [show nn + 1 - 1 = nn - 1 + 1 by omega, cN_n (by omega) (fun y => lf0 y.2), hwu]
                              omega) (by omega)
                          · rw [c_eq (by first | assumption | (refine ⟨?_, ?_⟩ <;> omega) | (simp only [xr] at *; omega)) (by first | assumption | (refine ⟨?_, ?_⟩ <;> omega) | (simp only [xr] at *; omega))] at c86
                            simp only [decide_eq_true_eq, decide_eq_false_iff_not, Decidable.not_not] at c86
                            show xEx G0 cdX12_solved (some .int) (xRn G0 MT (d + 3)) Q b 87 [some (.inr (.inr 66)), some (.inl w), some (.inl (wi + 1)), some (.inl (rb + 1)), some (.inl wu), some (.inl nn), some (.inl ii), some (.inl mm)] [.inl wu] (xup h 66 0 0)
                            have lf9 : ∀ j, 0 ≤ j → j < mm - 1 → ¬ le j = le (mm - 1) := by
                              rcases hna with ⟨-, z9⟩ | ⟨z9, -⟩
                              · exact fun j z1 z2 => z9 j z1 (by omega)
                              · exact absurd z9 c86
                            refine E_s 6 (i' := 28) (ls' := [some (.inr (.inr 66)), some (.inl w), some (.inl (wi + 1)), some (.inl (rb + 1)), some (.inl (wu + 1)), some (.inl (nn + 1)), some (.inl ii), some (.inl mm)]) (sk' := []) (h' := (xup h 66 0 0)) rfl ?_
                            exact ih28 (nn + 1) (wi + 1) (rb + 1) (wu + 1) _ _ (by omega) (by omega) (by
                              rw [show nn + 1 - 1 = nn - 1 + 1 by omega, cN_p (by omega) a1, hwi]) (by
                              rw [show nn + 1 - 1 = nn - 1 + 1 by omega, dpN_1 (by omega) a1]
                              omega) (by
                              rw [show nn + 1 - 1 = nn - 1 + 1 by omega, cN_p (by omega) ⟨b1, lf9⟩, hwu]) (by omega)
                        · rw [c_ge (by first | assumption | (refine ⟨?_, ?_⟩ <;> omega) | (simp only [xr] at *; omega)) (by first | assumption | (refine ⟨?_, ?_⟩ <;> omega) | (simp only [xr] at *; omega))] at c66
                          simp only [decide_eq_true_eq, decide_eq_false_iff_not, Decidable.not_not] at c66
                          show xEx G0 cdX12_solved (some .int) (xRn G0 MT (d + 3)) Q b 67 [some (.inr (.inr 66)), some (.inl w), some (.inl (wi + 1)), some (.inl (rb + 1)), some (.inl wu), some (.inl nn), some (.inl ii), some (.inl mm)] [] (xup h 66 0 0)
                          refine E_s 1 (i' := 68) (ls' := [some (.inr (.inr 66)), some (.inl w), some (.inl (wi + 1)), some (.inl (rb + 1)), some (.inl wu), some (.inl nn), some (.inl ii), some (.inl mm)]) (sk' := [.inl ii]) (h' := (xup h 66 0 0)) rfl ?_
                          refine E_b (x := (.ifCond .eq 24, 80, [], [])) rfl rfl (fun c68 => ?_) (fun c68 => ?_)
                          · rw [c_eq (by first | assumption | (refine ⟨?_, ?_⟩ <;> omega) | (simp only [xr] at *; omega)) (by first | assumption | (refine ⟨?_, ?_⟩ <;> omega) | (simp only [xr] at *; omega))] at c68
                            simp only [decide_eq_true_eq, decide_eq_false_iff_not, Decidable.not_not] at c68
                            show xEx G0 cdX12_solved (some .int) (xRn G0 MT (d + 3)) Q b 80 [some (.inr (.inr 66)), some (.inl w), some (.inl (wi + 1)), some (.inl (rb + 1)), some (.inl wu), some (.inl nn), some (.inl ii), some (.inl mm)] [] (xup h 66 0 0)
                            have nz : ¬ NA le (mm + 1) (nn - 1) := by
                              first
                              | exact NA_3 hm0 (by rw [← g4, ← g2]; exact c77)
                              | exact NA_2 (by
                                  rcases hna with ⟨z9, -⟩ | ⟨-, z9⟩
                                  · omega
                                  · exact z9)
                            refine E_s 4 (i' := 64) (ls' := [some (.inr (.inr 66)), some (.inl w), some (.inl (wi + 1)), some (.inl (rb + 1)), some (.inl wu), some (.inl nn), some (.inl 0), some (.inl (mm + 1))]) (sk' := []) (h' := (xup h 66 0 0)) rfl ?_
                            exact ih64 (mm + 1) 0 (by omega) (by omega) (by omega) (Or.inr ⟨rfl, nz⟩) (by omega)
                          · rw [c_eq (by first | assumption | (refine ⟨?_, ?_⟩ <;> omega) | (simp only [xr] at *; omega)) (by first | assumption | (refine ⟨?_, ?_⟩ <;> omega) | (simp only [xr] at *; omega))] at c68
                            simp only [decide_eq_true_eq, decide_eq_false_iff_not, Decidable.not_not] at c68
                            show xEx G0 cdX12_solved (some .int) (xRn G0 MT (d + 3)) Q b 69 [some (.inr (.inr 66)), some (.inl w), some (.inl (wi + 1)), some (.inl (rb + 1)), some (.inl wu), some (.inl nn), some (.inl ii), some (.inl mm)] [] (xup h 66 0 0)
                            obtain ⟨g3, g4⟩ := tn qs mm hm0 (by omega)
                            have hrm := hr qs (mm - 1) (by omega) (by omega)
                            have na1 : NA le mm (nn - 1) := by
                              rcases hna with ⟨-, z9⟩ | ⟨z9, -⟩
                              · exact z9
                              · exact absurd z9 c68
                            refine E_s 3 (i' := 72) (ls' := [some (.inr (.inr 66)), some (.inl w), some (.inl (wi + 1)), some (.inl (rb + 1)), some (.inl wu), some (.inl nn), some (.inl ii), some (.inl mm)]) (sk' := [.inl mm, .inr (.inr 106)]) (h' := (xup h 66 0 0)) rfl ?_
                            refine E_ld (x := (.iaload, 0, [], [])) (ty := .int) (n := 32) rfl rfl rfl (by omega) (by omega) ?_
                            show xEx G0 cdX12_solved (some .int) (xRn G0 MT (d + 3)) Q b 73 [some (.inr (.inr 66)), some (.inl w), some (.inl (wi + 1)), some (.inl (rb + 1)), some (.inl wu), some (.inl nn), some (.inl ii), some (.inl mm)] [.inl (h 106 mm)] (xup h 66 0 0)
                            refine E_s 3 (i' := 76) (ls' := [some (.inr (.inr 66)), some (.inl w), some (.inl (wi + 1)), some (.inl (rb + 1)), some (.inl wu), some (.inl nn), some (.inl ii), some (.inl mm)]) (sk' := [.inl nn, .inr (.inr 106), .inl (h 106 mm)]) (h' := (xup h 66 0 0)) rfl ?_
                            refine E_ld (x := (.iaload, 0, [], [])) (ty := .int) (n := 32) rfl rfl rfl (by omega) (by omega) ?_
                            show xEx G0 cdX12_solved (some .int) (xRn G0 MT (d + 3)) Q b 77 [some (.inr (.inr 66)), some (.inl w), some (.inl (wi + 1)), some (.inl (rb + 1)), some (.inl wu), some (.inl nn), some (.inl ii), some (.inl mm)] [.inl (h 106 nn), .inl (h 106 mm)] (xup h 66 0 0)
                            refine E_b (x := (.if_icmp .eq 7, 80, [], [])) rfl rfl (fun c77 => ?_) (fun c77 => ?_)
                            · rw [c_eq (by first | assumption | (refine ⟨?_, ?_⟩ <;> omega) | (simp only [xr] at *; omega)) (by first | assumption | (refine ⟨?_, ?_⟩ <;> omega) | (simp only [xr] at *; omega))] at c77
                              simp only [decide_eq_true_eq, decide_eq_false_iff_not, Decidable.not_not] at c77
                              show xEx G0 cdX12_solved (some .int) (xRn G0 MT (d + 3)) Q b 80 [some (.inr (.inr 66)), some (.inl w), some (.inl (wi + 1)), some (.inl (rb + 1)), some (.inl wu), some (.inl nn), some (.inl ii), some (.inl mm)] [] (xup h 66 0 0)
                              have nz : ¬ NA le (mm + 1) (nn - 1) := by
                                first
                                | exact NA_3 hm0 (by rw [← g4, ← g2]; exact c77)
                                | exact NA_2 (by
                                    rcases hna with ⟨z9, -⟩ | ⟨-, z9⟩
                                    · omega
                                    · exact z9)
                              refine E_s 4 (i' := 64) (ls' := [some (.inr (.inr 66)), some (.inl w), some (.inl (wi + 1)), some (.inl (rb + 1)), some (.inl wu), some (.inl nn), some (.inl 0), some (.inl (mm + 1))]) (sk' := []) (h' := (xup h 66 0 0)) rfl ?_
                              exact ih64 (mm + 1) 0 (by omega) (by omega) (by omega) (Or.inr ⟨rfl, nz⟩) (by omega)
                            · rw [c_eq (by first | assumption | (refine ⟨?_, ?_⟩ <;> omega) | (simp only [xr] at *; omega)) (by first | assumption | (refine ⟨?_, ?_⟩ <;> omega) | (simp only [xr] at *; omega))] at c77
                              simp only [decide_eq_true_eq, decide_eq_false_iff_not, Decidable.not_not] at c77
                              show xEx G0 cdX12_solved (some .int) (xRn G0 MT (d + 3)) Q b 78 [some (.inr (.inr 66)), some (.inl w), some (.inl (wi + 1)), some (.inl (rb + 1)), some (.inl wu), some (.inl nn), some (.inl ii), some (.inl mm)] [] (xup h 66 0 0)
                              have nl : ¬ le (mm - 1) = le (nn - 1) := by rw [← g4, ← g2]; exact c77
                              refine E_s 5 (i' := 64) (ls' := [some (.inr (.inr 66)), some (.inl w), some (.inl (wi + 1)), some (.inl (rb + 1)), some (.inl wu), some (.inl nn), some (.inl 1), some (.inl (mm + 1))]) (sk' := []) (h' := (xup h 66 0 0)) rfl ?_
                              exact ih64 (mm + 1) 1 (by omega) (by omega) (by omega) (Or.inl ⟨rfl, NA_1 na1 nl⟩) (by omega)
                    exact key64 _ 1 1 (by omega) (by omega) (by omega) (Or.inl ⟨rfl, fun j z1 z2 => by omega⟩) (Nat.lt_succ_self _)
                  · rw [c_ne (by first | assumption | (refine ⟨?_, ?_⟩ <;> omega) | (simp only [xr] at *; omega)) (by first | assumption | (refine ⟨?_, ?_⟩ <;> omega) | (simp only [xr] at *; omega))] at c58
                    simp only [decide_eq_true_eq, decide_eq_false_iff_not, Decidable.not_not] at c58
                    show xEx G0 cdX12_solved (some .int) (xRn G0 MT (d + 3)) Q b 59 [some (.inr (.inr 66)), some (.inl w), some (.inl (wi + 1)), some (.inl (rb + 1)), some (.inl wu), some (.inl nn), v6, v7] [] (xup h 66 0 0)
                    have b0 : le (nn - 1) = -1 := by rw [← g2]; exact c58
                    refine E_s 3 (i' := 28) (ls' := [some (.inr (.inr 66)), some (.inl w), some (.inl (wi + 1)), some (.inl (rb + 1)), some (.inl wu), some (.inl (nn + 1)), v6, v7]) (sk' := []) (h' := (xup h 66 0 0)) rfl ?_
                    exact ih28 (nn + 1) (wi + 1) (rb + 1) (wu) _ _ (by omega) (by omega) (by
                      rw [show nn + 1 - 1 = nn - 1 + 1 by omega, cN_p (by omega) a1, hwi]) (by
                      rw [show nn + 1 - 1 = nn - 1 + 1 by omega, dpN_1 (by omega) a1]
                      omega) (by
                      rw [show nn + 1 - 1 = nn - 1 + 1 by omega, cN_n (by omega) (fun y => y.1 b0), hwu]) (by omega)
                · rw [c_le (by first | assumption | (refine ⟨?_, ?_⟩ <;> omega) | (simp only [xr] at *; omega)) (by first | assumption | (refine ⟨?_, ?_⟩ <;> omega) | (simp only [xr] at *; omega))] at c44
                  simp only [decide_eq_true_eq, decide_eq_false_iff_not, Decidable.not_not] at c44
                  show xEx G0 cdX12_solved (some .int) (xRn G0 MT (d + 3)) Q b 45 [some (.inr (.inr 66)), some (.inl w), some (.inl (wi + 1)), some (.inl wd), some (.inl wu), some (.inl nn), v6, v7] [] (xup h 66 0 0)
                  omega
        exact key28 _ 1 0 0 0 _ _ (by omega) (by omega) rfl rfl rfl (Nat.lt_succ_self _)
      · show xEx G0 cdX12_solved (some .int) (xRn G0 MT (d + 3)) Q b 18 [some (.inr (.inr 66)), some (.inl w), none, none, none, none, none, none] [] (xup h 66 0 0)
        exact absurd c17 (by decide)
    · rw [c_ne (by first | assumption | (refine ⟨?_, ?_⟩ <;> omega) | (simp only [xr] at *; omega)) (by first | assumption | (refine ⟨?_, ?_⟩ <;> omega) | (simp only [xr] at *; omega))] at c10
      simp only [decide_eq_true_eq, decide_eq_false_iff_not, Decidable.not_not] at c10
      show xEx G0 cdX12_solved (some .int) (xRn G0 MT (d + 3)) Q b 11 [some (.inr (.inr 66)), some (.inl w), none, none, none, none, none, none] [.inr (.inr 66)] h
      refine E_s 5 (i' := 17) (ls' := [some (.inr (.inr 66)), some (.inl w), none, none, none, none, none, none]) (sk' := [.inl 2]) (h' := (xup h 66 0 2)) rfl ?_
      refine E_b (x := (.ifCond .le 5, 20, [], [])) rfl rfl (fun c17 => ?_) (fun c17 => ?_)
      · show xEx G0 cdX12_solved (some .int) (xRn G0 MT (d + 3)) Q b 20 [some (.inr (.inr 66)), some (.inl w), none, none, none, none, none, none] [] (xup h 66 0 2)
        exact absurd c17 (by decide)
      · show xEx G0 cdX12_solved (some .int) (xRn G0 MT (d + 3)) Q b 18 [some (.inr (.inr 66)), some (.inl w), none, none, none, none, none, none] [] (xup h 66 0 2)
        refine E_s 1 (i' := 19) (ls' := [some (.inr (.inr 66)), some (.inl w), none, none, none, none, none, none]) (sk' := [.inl 0]) (h' := (xup h 66 0 2)) rfl ?_
        exact E_ret (x := (.ireturn, 0, [], [])) (v := some (.inl 0)) rfl (Or.inl rfl) (hA (by omega) (o0 q2 (by omega)))
  · rw [c_ne (by first | assumption | (refine ⟨?_, ?_⟩ <;> omega) | (simp only [xr] at *; omega)) (by first | assumption | (refine ⟨?_, ?_⟩ <;> omega) | (simp only [xr] at *; omega))] at c3
    simp only [decide_eq_true_eq, decide_eq_false_iff_not, Decidable.not_not] at c3
    show xEx G0 cdX12_solved (some .int) (xRn G0 MT (d + 3)) Q b 4 [some (.inr (.inr 66)), some (.inl w), none, none, none, none, none, none] [.inr (.inr 66)] h
    refine E_s 5 (i' := 17) (ls' := [some (.inr (.inr 66)), some (.inl w), none, none, none, none, none, none]) (sk' := [.inl 1]) (h' := (xup h 66 0 1)) rfl ?_
    refine E_b (x := (.ifCond .le 5, 20, [], [])) rfl rfl (fun c17 => ?_) (fun c17 => ?_)
    · show xEx G0 cdX12_solved (some .int) (xRn G0 MT (d + 3)) Q b 20 [some (.inr (.inr 66)), some (.inl w), none, none, none, none, none, none] [] (xup h 66 0 1)
      exact absurd c17 (by decide)
    · show xEx G0 cdX12_solved (some .int) (xRn G0 MT (d + 3)) Q b 18 [some (.inr (.inr 66)), some (.inl w), none, none, none, none, none, none] [] (xup h 66 0 1)
      refine E_s 1 (i' := 19) (ls' := [some (.inr (.inr 66)), some (.inl w), none, none, none, none, none, none]) (sk' := [.inl 0]) (h' := (xup h 66 0 1)) rfl ?_
      exact E_ret (x := (.ireturn, 0, [], [])) (v := some (.inl 0)) rfl (Or.inl rfl) (hN (fun z9 => by omega))
set_option maxHeartbeats 1000000 in
theorem m_apart_1 (d b : Nat) (h S T : xH) (as le : Int → Int) (k i n0 : Int) (wt : Int → Int) (hk : xr k) (hi : xr i) (hm : h 66 1 = 1) (hR : RR h S) (hRT : RRT h T) (hF : FW n0 wt 9 S) (hT : FWT S 7 T) (h3 : 0 ≤ S 0 0 ∧ S 0 0 ≤ 300) (h4 : 0 ≤ T 0 0 ∧ T 0 0 ≤ 150) (hs : h 66 50 = 0 ∨ h 66 50 = 1) (tn : h 66 50 = 1 → TN h as le) (hr : h 66 50 = 1 → ∀ nd, 0 ≤ nd → nd < 15 → -1 ≤ as nd ∧ as nd < T 0 0 ∧ -1 ≤ le nd ∧ le nd < S 0 0) (tr : h 66 50 = 1 → TRp as le S T 3 0)(hM0 : 0 ≤ h 66 8 ∧ h 66 8 ≤ 300) {Q : xO → xH → Prop} (hN : ¬ (h 66 50 = 1) → Q (.inl (some (.inl (0)))) (xup h 66 0 1)) (hA : (h 66 50 = 1) → ¬ ((0 ≤ k ∧ k < h 66 8) ∧ (0 ≤ i ∧ i ≤ 2)) → Q (.inl (some (.inl (0)))) (xup h 66 0 2)) (hF9 : (h 66 50 = 1) → ((0 ≤ k ∧ k < h 66 8) ∧ (0 ≤ i ∧ i ≤ 2)) → ∀ p, 0 ≤ p → p < ptN 1 → (daE as le S T 1 k) p → (∀ q, 0 ≤ q → q < p → ¬ (daE as le S T 1 k) q) → ∀ h', (∀ a, a ≠ 94 → a ≠ 95 → h' a = ((xup h 66 0 0)) a) → Q (.inl (some (.inl (ptX 1 p i)))) h') (hG : (h 66 50 = 1) → ((0 ≤ k ∧ k < h 66 8) ∧ (0 ≤ i ∧ i ≤ 2)) → (∀ q, 0 ≤ q → q < ptN 1 → ¬ (daE as le S T 1 k) q) → ∀ h', (∀ a, a ≠ 94 → a ≠ 95 → h' a = ((xup h 66 0 0)) a) → Q (.inl (some (.inl (-100)))) h') : xRn G0 MT (d + 6) b 245 [.inr (.inr 66), .inl k, .inl i] h Q := by
  refine R_of (M := mX12_apart) rfl (Nat.le_of_ble_eq_true rfl) ?_
  show xEx G0 cdX12_apart (some .int) (xRn G0 MT (d + 5)) Q b 0 [some (.inr (.inr 66)), some (.inl k), some (.inl i), none, none, none, none, none] [] h
  refine E_s 3 (i' := 3) (ls' := [some (.inr (.inr 66)), some (.inl k), some (.inl i), none, none, none, none, none]) (sk' := [.inl (h 66 50), .inr (.inr 66)]) (h' := h) rfl ?_
  refine E_b (x := (.ifCond .ne 7, 6, [], [])) rfl rfl (fun c3 => ?_) (fun c3 => ?_)
  · rw [c_ne (by first | assumption | (refine ⟨?_, ?_⟩ <;> omega) | (simp only [xr] at *; omega)) (by first | assumption | (refine ⟨?_, ?_⟩ <;> omega) | (simp only [xr] at *; omega))] at c3
    simp only [decide_eq_true_eq, decide_eq_false_iff_not, Decidable.not_not] at c3
    show xEx G0 cdX12_apart (some .int) (xRn G0 MT (d + 5)) Q b 6 [some (.inr (.inr 66)), some (.inl k), some (.inl i), none, none, none, none, none] [.inr (.inr 66)] h
    refine E_s 3 (i' := 9) (ls' := [some (.inr (.inr 66)), some (.inl k), some (.inl i), none, none, none, none, none]) (sk' := [.inl k, .inl 0, .inr (.inr 66), .inr (.inr 66)]) (h' := h) rfl ?_
    refine E_cp (x := (.invokevirtual 295, 2, [(10, 193)], [0])) (q := fun r1 h9 => ((r1 = 1 ∧ (0 ≤ k ∧ k < h 66 8)) ∨ (r1 = 0 ∧ ¬ (0 ≤ k ∧ k < h 66 8))) ∧ h = h9) rfl rfl (Nat.le_of_ble_eq_true rfl) (m_isKept0 (d + 3) 0 h k hk hM0 (fun z => ⟨_, rfl, Or.inl ⟨rfl, z⟩, rfl⟩) (fun z => ⟨_, rfl, Or.inr ⟨rfl, z⟩, rfl⟩)) (fun r1 h9 q1 => ?_)
    obtain ⟨q1, rfl⟩ := q1
    show xEx G0 cdX12_apart (some .int) (xRn G0 MT (d + 5)) Q b 10 [some (.inr (.inr 66)), some (.inl k), some (.inl i), none, none, none, none, none] [.inl r1, .inr (.inr 66)] h
    refine E_b (x := (.ifCond .eq 12, 16, [], [])) rfl rfl (fun c10 => ?_) (fun c10 => ?_)
    · rw [c_eq (by first | assumption | (refine ⟨?_, ?_⟩ <;> omega) | (simp only [xr] at *; omega)) (by first | assumption | (refine ⟨?_, ?_⟩ <;> omega) | (simp only [xr] at *; omega))] at c10
      simp only [decide_eq_true_eq, decide_eq_false_iff_not, Decidable.not_not] at c10
      show xEx G0 cdX12_apart (some .int) (xRn G0 MT (d + 5)) Q b 16 [some (.inr (.inr 66)), some (.inl k), some (.inl i), none, none, none, none, none] [.inr (.inr 66)] h
      refine E_s 5 (i' := 22) (ls' := [some (.inr (.inr 66)), some (.inl k), some (.inl i), none, none, none, none, none]) (sk' := [.inl 2]) (h' := (xup h 66 0 2)) rfl ?_
      refine E_b (x := (.ifCond .le 5, 25, [], [])) rfl rfl (fun c22 => ?_) (fun c22 => ?_)
      · show xEx G0 cdX12_apart (some .int) (xRn G0 MT (d + 5)) Q b 25 [some (.inr (.inr 66)), some (.inl k), some (.inl i), none, none, none, none, none] [] (xup h 66 0 2)
        exact absurd c22 (by decide)
      · show xEx G0 cdX12_apart (some .int) (xRn G0 MT (d + 5)) Q b 23 [some (.inr (.inr 66)), some (.inl k), some (.inl i), none, none, none, none, none] [] (xup h 66 0 2)
        refine E_s 1 (i' := 24) (ls' := [some (.inr (.inr 66)), some (.inl k), some (.inl i), none, none, none, none, none]) (sk' := [.inl 0]) (h' := (xup h 66 0 2)) rfl ?_
        exact E_ret (x := (.ireturn, 0, [], [])) (v := some (.inl 0)) rfl (Or.inl rfl) (hA (by omega) (fun y => by
          first
          | exact (o0 q1 c10) y.1
          | exact (o0 q2 c15) y.2))
    · rw [c_eq (by first | assumption | (refine ⟨?_, ?_⟩ <;> omega) | (simp only [xr] at *; omega)) (by first | assumption | (refine ⟨?_, ?_⟩ <;> omega) | (simp only [xr] at *; omega))] at c10
      simp only [decide_eq_true_eq, decide_eq_false_iff_not, Decidable.not_not] at c10
      show xEx G0 cdX12_apart (some .int) (xRn G0 MT (d + 5)) Q b 11 [some (.inr (.inr 66)), some (.inl k), some (.inl i), none, none, none, none, none] [.inr (.inr 66)] h
      refine E_s 3 (i' := 14) (ls' := [some (.inr (.inr 66)), some (.inl k), some (.inl i), none, none, none, none, none]) (sk' := [.inl 2, .inl 0, .inl i, .inr (.inr 66)]) (h' := h) rfl ?_
      refine E_cp (x := (.invokestatic 180, 3, [(0, 155)], [])) (q := fun r2 h9 => ((r2 = 1 ∧ (0 ≤ i ∧ i ≤ 2)) ∨ (r2 = 0 ∧ ¬ (0 ≤ i ∧ i ≤ 2))) ∧ h = h9) rfl rfl (Nat.le_of_ble_eq_true rfl) (m_isIn (d + 4) 0 (h) i 0 2 hi ⟨by omega, by omega⟩ ⟨by omega, by omega⟩ (fun z => ⟨_, rfl, Or.inl ⟨rfl, z⟩, rfl⟩) (fun z => ⟨_, rfl, Or.inr ⟨rfl, z⟩, rfl⟩)) (fun r2 h9 q2 => ?_)
      obtain ⟨q2, rfl⟩ := q2
      show xEx G0 cdX12_apart (some .int) (xRn G0 MT (d + 5)) Q b 15 [some (.inr (.inr 66)), some (.inl k), some (.inl i), none, none, none, none, none] [.inl r2, .inr (.inr 66)] h
      refine E_b (x := (.ifCond .ne 7, 18, [], [])) rfl rfl (fun c15 => ?_) (fun c15 => ?_)
      · rw [c_ne (by first | assumption | (refine ⟨?_, ?_⟩ <;> omega) | (simp only [xr] at *; omega)) (by first | assumption | (refine ⟨?_, ?_⟩ <;> omega) | (simp only [xr] at *; omega))] at c15
        simp only [decide_eq_true_eq, decide_eq_false_iff_not, Decidable.not_not] at c15
        show xEx G0 cdX12_apart (some .int) (xRn G0 MT (d + 5)) Q b 18 [some (.inr (.inr 66)), some (.inl k), some (.inl i), none, none, none, none, none] [.inr (.inr 66)] h
        refine E_s 4 (i' := 22) (ls' := [some (.inr (.inr 66)), some (.inl k), some (.inl i), none, none, none, none, none]) (sk' := [.inl 0]) (h' := (xup h 66 0 0)) rfl ?_
        refine E_b (x := (.ifCond .le 5, 25, [], [])) rfl rfl (fun c22 => ?_) (fun c22 => ?_)
        · show xEx G0 cdX12_apart (some .int) (xRn G0 MT (d + 5)) Q b 25 [some (.inr (.inr 66)), some (.inl k), some (.inl i), none, none, none, none, none] [] (xup h 66 0 0)
          have qs : h 66 50 = 1 := by omega
          have qk : 0 ≤ k ∧ k < h 66 8 := o1 q1 c10
          have qi : 0 ≤ i ∧ i ≤ 2 := o1 q2 c15
          have qk2 : 0 ≤ k ∧ k < S 0 0 := by rw [← hR.1]; exact qk
          refine E_s 3 (i' := 28) (ls' := [some (.inr (.inr 66)), some (.inl k), some (.inl i), none, none, none, none, none]) (sk' := [.inl 1, .inl (h 66 1)]) (h' := (xup h 66 0 0)) rfl ?_
          refine E_b (x := (.if_icmp .le 8, 31, [], [])) rfl rfl (fun c28 => ?_) (fun c28 => ?_)
          · rw [c_le (by first | assumption | (refine ⟨?_, ?_⟩ <;> omega) | (simp only [xr] at *; omega)) (by first | assumption | (refine ⟨?_, ?_⟩ <;> omega) | (simp only [xr] at *; omega))] at c28
            simp only [decide_eq_true_eq, decide_eq_false_iff_not, Decidable.not_not] at c28
            show xEx G0 cdX12_apart (some .int) (xRn G0 MT (d + 5)) Q b 31 [some (.inr (.inr 66)), some (.inl k), some (.inl i), none, none, none, none, none] [] (xup h 66 0 0)
            refine E_s 5 (i' := 36) (ls' := [some (.inr (.inr 66)), some (.inl k), some (.inl i), some (.inl 0), none, none, none, none]) (sk' := [.inl 2, .inl (h 66 1)]) (h' := (xup h 66 0 0)) rfl ?_
            refine E_b (x := (.if_icmp .le 8, 39, [], [])) rfl rfl (fun c36 => ?_) (fun c36 => ?_)
            · rw [c_le (by first | assumption | (refine ⟨?_, ?_⟩ <;> omega) | (simp only [xr] at *; omega)) (by first | assumption | (refine ⟨?_, ?_⟩ <;> omega) | (simp only [xr] at *; omega))] at c36
              simp only [decide_eq_true_eq, decide_eq_false_iff_not, Decidable.not_not] at c36
              show xEx G0 cdX12_apart (some .int) (xRn G0 MT (d + 5)) Q b 39 [some (.inr (.inr 66)), some (.inl k), some (.inl i), some (.inl 0), none, none, none, none] [] (xup h 66 0 0)
              refine E_s 4 (i' := 43) (ls' := [some (.inr (.inr 66)), some (.inl k), some (.inl i), some (.inl 0), some (.inl 0), some (.inl (-9)), none, none]) (sk' := []) (h' := (xup h 66 0 0)) rfl ?_
              have key43 : ∀ (n : Nat) (hx : xH) (x : Int) (v8 v9 : Option xV), (-9 ≤ x) → (x ≤ 10) → (∀ a, a ≠ 94 → a ≠ 95 → hx a = xup h 66 0 0 a) → (∀ q0, 0 ≤ q0 → q0 < (x + 9) + 0 + 0 → ¬ (daE as le S T 1 k) q0) → ((10 - x).toNat) < n → xEx G0 cdX12_apart (some .int) (xRn G0 MT (d + 5)) Q b 43 [some (.inr (.inr 66)), some (.inl k), some (.inl i), some (.inl 0), some (.inl 0), some (.inl x), v8, v9] [] hx := by
                intro n
                induction n with
                | zero => intro hx x v8 v9 _ _ _ _ hm; exact absurd hm (Nat.not_lt_zero _)
                | succ n ih43 =>
                  intro hx x v8 v9 hx0 hx9 hfx hnx hm43
                  refine E_s 2 (i' := 45) (ls' := [some (.inr (.inr 66)), some (.inl k), some (.inl i), some (.inl 0), some (.inl 0), some (.inl x), v8, v9]) (sk' := [.inl 9, .inl x]) (h' := hx) rfl ?_
                  refine E_b (x := (.if_icmp .gt 88, 87, [], [])) rfl rfl (fun c45 => ?_) (fun c45 => ?_)
                  · rw [c_gt (by first | assumption | (refine ⟨?_, ?_⟩ <;> omega) | (simp only [xr] at *; omega)) (by first | assumption | (refine ⟨?_, ?_⟩ <;> omega) | (simp only [xr] at *; omega))] at c45
                    simp only [decide_eq_true_eq, decide_eq_false_iff_not, Decidable.not_not] at c45
                    show xEx G0 cdX12_apart (some .int) (xRn G0 MT (d + 5)) Q b 87 [some (.inr (.inr 66)), some (.inl k), some (.inl i), some (.inl 0), some (.inl 0), some (.inl x), v8, v9] [] hx
                    refine E_s 1 (i' := 88) (ls' := [some (.inr (.inr 66)), some (.inl k), some (.inl i), some (.inl 0), some (.inl 0), some (.inl x), v8, v9]) (sk' := [.inl (-100)]) (h' := hx) rfl ?_
                    exact E_ret (x := (.ireturn, 0, [], [])) (v := some (.inl (-100))) rfl (Or.inl rfl) (hG qs ⟨qk, qi⟩ (fun q z1 z2 => hnx q z1 (by simp [ptN] at z2; omega)) _ hfx)
                  · rw [c_gt (by first | assumption | (refine ⟨?_, ?_⟩ <;> omega) | (simp only [xr] at *; omega)) (by first | assumption | (refine ⟨?_, ?_⟩ <;> omega) | (simp only [xr] at *; omega))] at c45
                    simp only [decide_eq_true_eq, decide_eq_false_iff_not, Decidable.not_not] at c45
                    show xEx G0 cdX12_apart (some .int) (xRn G0 MT (d + 5)) Q b 46 [some (.inr (.inr 66)), some (.inl k), some (.inl i), some (.inl 0), some (.inl 0), some (.inl x), v8, v9] [] hx
                    refine E_s 3 (i' := 49) (ls' := [some (.inr (.inr 66)), some (.inl k), some (.inl i), some (.inl 0), some (.inl 0), some (.inl x), some (.inl (-0)), v9]) (sk' := []) (h' := hx) rfl ?_
                    have key49 : ∀ (n : Nat) (hy : xH) (y : Int) (w9 : Option xV), (-0 ≤ y) → (y ≤ 1) → (∀ a, a ≠ 94 → a ≠ 95 → hy a = xup h 66 0 0 a) → (∀ q0, 0 ≤ q0 → q0 < (x + 9) + y + 0 → ¬ (daE as le S T 1 k) q0) → ((1 - y).toNat) < n → xEx G0 cdX12_apart (some .int) (xRn G0 MT (d + 5)) Q b 49 [some (.inr (.inr 66)), some (.inl k), some (.inl i), some (.inl 0), some (.inl 0), some (.inl x), some (.inl y), w9] [] hy := by
                      intro n
                      induction n with
                      | zero => intro hy y w9 _ _ _ _ hm; exact absurd hm (Nat.not_lt_zero _)
                      | succ n ih49 =>
                        intro hy y w9 hy0 hy9 hfy hny hm49
                        refine E_s 2 (i' := 51) (ls' := [some (.inr (.inr 66)), some (.inl k), some (.inl i), some (.inl 0), some (.inl 0), some (.inl x), some (.inl y), w9]) (sk' := [.inl 0, .inl y]) (h' := hy) rfl ?_
                        refine E_b (x := (.if_icmp .gt 72, 85, [], [])) rfl rfl (fun c51 => ?_) (fun c51 => ?_)
                        · rw [c_gt (by first | assumption | (refine ⟨?_, ?_⟩ <;> omega) | (simp only [xr] at *; omega)) (by first | assumption | (refine ⟨?_, ?_⟩ <;> omega) | (simp only [xr] at *; omega))] at c51
                          simp only [decide_eq_true_eq, decide_eq_false_iff_not, Decidable.not_not] at c51
                          show xEx G0 cdX12_apart (some .int) (xRn G0 MT (d + 5)) Q b 85 [some (.inr (.inr 66)), some (.inl k), some (.inl i), some (.inl 0), some (.inl 0), some (.inl x), some (.inl y), w9] [] hy
                          refine E_s 2 (i' := 43) (ls' := [some (.inr (.inr 66)), some (.inl k), some (.inl i), some (.inl 0), some (.inl 0), some (.inl (x + 1)), some (.inl y), w9]) (sk' := []) (h' := hy) rfl ?_
                          exact ih43 _ (x + 1) _ _ (by omega) (by omega) hfy (fun q0 z1 z2 => hny q0 z1 (by omega)) (by omega)
                        · rw [c_gt (by first | assumption | (refine ⟨?_, ?_⟩ <;> omega) | (simp only [xr] at *; omega)) (by first | assumption | (refine ⟨?_, ?_⟩ <;> omega) | (simp only [xr] at *; omega))] at c51
                          simp only [decide_eq_true_eq, decide_eq_false_iff_not, Decidable.not_not] at c51
                          show xEx G0 cdX12_apart (some .int) (xRn G0 MT (d + 5)) Q b 52 [some (.inr (.inr 66)), some (.inl k), some (.inl i), some (.inl 0), some (.inl 0), some (.inl x), some (.inl y), w9] [] hy
                          refine E_s 3 (i' := 55) (ls' := [some (.inr (.inr 66)), some (.inl k), some (.inl i), some (.inl 0), some (.inl 0), some (.inl x), some (.inl y), some (.inl (-0))]) (sk' := []) (h' := hy) rfl ?_
                          have key55 : ∀ (n : Nat) (hz : xH) (z : Int), (-0 ≤ z) → (z ≤ 1) → (∀ a, a ≠ 94 → a ≠ 95 → hz a = xup h 66 0 0 a) → (∀ q0, 0 ≤ q0 → q0 < (x + 9) + y + z → ¬ (daE as le S T 1 k) q0) → ((1 - z).toNat) < n → xEx G0 cdX12_apart (some .int) (xRn G0 MT (d + 5)) Q b 55 [some (.inr (.inr 66)), some (.inl k), some (.inl i), some (.inl 0), some (.inl 0), some (.inl x), some (.inl y), some (.inl z)] [] hz := by
                            intro n
                            induction n with
                            | zero => intro hz z _ _ _ _ hm; exact absurd hm (Nat.not_lt_zero _)
                            | succ n ih55 =>
                              intro hz z hz0 hz9 hfz hnz hm55
                              refine E_s 2 (i' := 57) (ls' := [some (.inr (.inr 66)), some (.inl k), some (.inl i), some (.inl 0), some (.inl 0), some (.inl x), some (.inl y), some (.inl z)]) (sk' := [.inl 0, .inl z]) (h' := hz) rfl ?_
                              refine E_b (x := (.if_icmp .gt 54, 83, [], [])) rfl rfl (fun c57 => ?_) (fun c57 => ?_)
                              · rw [c_gt (by first | assumption | (refine ⟨?_, ?_⟩ <;> omega) | (simp only [xr] at *; omega)) (by first | assumption | (refine ⟨?_, ?_⟩ <;> omega) | (simp only [xr] at *; omega))] at c57
                                simp only [decide_eq_true_eq, decide_eq_false_iff_not, Decidable.not_not] at c57
                                show xEx G0 cdX12_apart (some .int) (xRn G0 MT (d + 5)) Q b 83 [some (.inr (.inr 66)), some (.inl k), some (.inl i), some (.inl 0), some (.inl 0), some (.inl x), some (.inl y), some (.inl z)] [] hz
                                refine E_s 2 (i' := 49) (ls' := [some (.inr (.inr 66)), some (.inl k), some (.inl i), some (.inl 0), some (.inl 0), some (.inl x), some (.inl (y + 1)), some (.inl z)]) (sk' := []) (h' := hz) rfl ?_
                                exact ih49 _ (y + 1) _ (by omega) (by omega) hfz (fun q0 z1 z2 => hnz q0 z1 (by omega)) (by omega)
                              · rw [c_gt (by first | assumption | (refine ⟨?_, ?_⟩ <;> omega) | (simp only [xr] at *; omega)) (by first | assumption | (refine ⟨?_, ?_⟩ <;> omega) | (simp only [xr] at *; omega))] at c57
                                simp only [decide_eq_true_eq, decide_eq_false_iff_not, Decidable.not_not] at c57
                                show xEx G0 cdX12_apart (some .int) (xRn G0 MT (d + 5)) Q b 58 [some (.inr (.inr 66)), some (.inl k), some (.inl i), some (.inl 0), some (.inl 0), some (.inl x), some (.inl y), some (.inl z)] [] hz
                                refine E_s 4 (i' := 62) (ls' := [some (.inr (.inr 66)), some (.inl k), some (.inl i), some (.inl 0), some (.inl 0), some (.inl x), some (.inl y), some (.inl z)]) (sk' := [.inl z, .inl y, .inl x, .inr (.inr 66)]) (h' := hz) rfl ?_
                                refine E_cv (x := (.invokevirtual 309, 3, [(10, 198)], [0])) (q := fun h9 => (∀ a, a ≠ 94 → a ≠ 95 → h9 a = hz a) ∧ (∀ k, 0 ≤ k → k < S 0 0 → h9 94 k = VE S (pX x y z) k) ∧ (∀ t, 0 ≤ t → t < T 0 0 → h9 95 t = VU S T (pX x y z) t)) rfl rfl (Nat.le_of_ble_eq_true rfl) (m_reckons (d + 1) 0 hz S T x y z n0 wt ⟨by omega, by omega⟩ ⟨by omega, by omega⟩ ⟨by omega, by omega⟩ (RR_vh hfz (RR_vh0 hR)) (RRT_vh hfz (RRT_vh0 hRT)) hF hT h3 h4 (fun h9 z1 z2 z3 => ⟨rfl, z1, z2, z3⟩)) (fun h1 hq => ?_)
                                obtain ⟨f1, f2, f3⟩ := hq
                                have xx : xr x := ⟨by omega, by omega⟩
                                have xy : xr y := ⟨by omega, by omega⟩
                                have xz : xr z := ⟨by omega, by omega⟩
                                have tn1 : TN h1 as le := TN_of ((f1 _ (by decide) (by decide)).trans (hfz _ (by decide) (by decide))) ((f1 _ (by decide) (by decide)).trans (hfz _ (by decide) (by decide))) (tn qs)
                                have l9 := wlk_l (f := VU S T (pX x y z)) 3 0 (tr qs)
                                have ub : xr (VE S (pX x y z) (le (wlk as (VU S T (pX x y z)) 3 0))) := VE_r hF (pX_r xx xy xz) 300 _ l9.2.1 l9.2.2
                                have g1 := f2 k qk2.1 qk2.2
                                have ua : xr (h1 94 k) := by rw [g1]; exact VE_r hF (pX_r xx xy xz) 300 _ qk2.1 qk2.2
                                show xEx G0 cdX12_apart (some .int) (xRn G0 MT (d + 5)) Q b 63 [some (.inr (.inr 66)), some (.inl k), some (.inl i), some (.inl 0), some (.inl 0), some (.inl x), some (.inl y), some (.inl z)] [] h1
                                refine E_s 1 (i' := 64) (ls' := [some (.inr (.inr 66)), some (.inl k), some (.inl i), some (.inl 0), some (.inl 0), some (.inl x), some (.inl y), some (.inl z)]) (sk' := [.inr (.inr 66)]) (h' := h1) rfl ?_
                                refine E_ci (x := (.invokevirtual 418, 0, [(10, 241)], [0])) (r := (VE S (pX x y z) (le (wlk as (VU S T (pX x y z)) 3 0)))) (h' := h1) rfl rfl (Nat.le_of_ble_eq_true rfl) (m_comesNow (d + 4) 0 h1 S T as le (pX x y z) h3 h4 f2 f3 tn1 (hr qs) (tr qs) ⟨rfl, rfl⟩) ?_
                                show xEx G0 cdX12_apart (some .int) (xRn G0 MT (d + 5)) Q b 65 [some (.inr (.inr 66)), some (.inl k), some (.inl i), some (.inl 0), some (.inl 0), some (.inl x), some (.inl y), some (.inl z)] [.inl (VE S (pX x y z) (le (wlk as (VU S T (pX x y z)) 3 0)))] h1
                                refine E_s 3 (i' := 68) (ls' := [some (.inr (.inr 66)), some (.inl k), some (.inl i), some (.inl 0), some (.inl 0), some (.inl x), some (.inl y), some (.inl z)]) (sk' := [.inl k, .inr (.inr 94), .inl (VE S (pX x y z) (le (wlk as (VU S T (pX x y z)) 3 0)))]) (h' := h1) rfl ?_
                                refine E_ld (x := (.iaload, 0, [], [])) (ty := .int) (n := 300) rfl rfl rfl (by omega) (by omega) ?_
                                show xEx G0 cdX12_apart (some .int) (xRn G0 MT (d + 5)) Q b 69 [some (.inr (.inr 66)), some (.inl k), some (.inl i), some (.inl 0), some (.inl 0), some (.inl x), some (.inl y), some (.inl z)] [.inl (h1 94 k), .inl (VE S (pX x y z) (le (wlk as (VU S T (pX x y z)) 3 0)))] h1
                                refine E_b (x := (.if_icmp .eq 25, 81, [], [])) rfl rfl (fun c69 => ?_) (fun c69 => ?_)
                                · rw [c_eq (by first | exact ua | exact ub) (by first | exact ua | exact ub)] at c69
                                  simp only [decide_eq_true_eq, decide_eq_false_iff_not, Decidable.not_not] at c69
                                  show xEx G0 cdX12_apart (some .int) (xRn G0 MT (d + 5)) Q b 81 [some (.inr (.inr 66)), some (.inl k), some (.inl i), some (.inl 0), some (.inl 0), some (.inl x), some (.inl y), some (.inl z)] [] h1
                                  have dd : ¬ (daE as le S T 1 k) ((x + 9) + y + z) := by
                                    intro z9
                                    apply z9
                                    rw [pt_1 (by omega) (by omega) (by omega)]
                                    exact c69.trans g1
                                  refine E_s 2 (i' := 55) (ls' := [some (.inr (.inr 66)), some (.inl k), some (.inl i), some (.inl 0), some (.inl 0), some (.inl x), some (.inl y), some (.inl (z + 1))]) (sk' := []) (h' := h1) rfl ?_
                                  exact ih55 _ (z + 1) (by omega) (by omega) (fun a z1 z2 => (f1 a z1 z2).trans (hfz a z1 z2)) (fun q0 z1 z2 => by
                                    by_cases z9 : q0 = (x + 9) + y + z
                                    · rw [z9]; exact dd
                                    · exact hnz q0 z1 (by omega)) (by omega)
                                · rw [c_eq (by first | exact ua | exact ub) (by first | exact ua | exact ub)] at c69
                                  simp only [decide_eq_true_eq, decide_eq_false_iff_not, Decidable.not_not] at c69
                                  show xEx G0 cdX12_apart (some .int) (xRn G0 MT (d + 5)) Q b 70 [some (.inr (.inr 66)), some (.inl k), some (.inl i), some (.inl 0), some (.inl 0), some (.inl x), some (.inl y), some (.inl z)] [] h1
                                  have ddp : (daE as le S T 1 k) ((x + 9) + y + z) := by
                                    show ¬ _ = _
                                    rw [pt_1 (by omega) (by omega) (by omega)]
                                    intro z9
                                    exact c69 (z9.trans g1.symm)
                                  refine E_s 1 (i' := 71) (ls' := [some (.inr (.inr 66)), some (.inl k), some (.inl i), some (.inl 0), some (.inl 0), some (.inl x), some (.inl y), some (.inl z)]) (sk' := [.inl i]) (h' := h1) rfl ?_
                                  refine E_b (x := (.ifCond .ne 8, 74, [], [])) rfl rfl (fun c71 => ?_) (fun c71 => ?_)
                                  · rw [c_ne (by first | assumption | (refine ⟨?_, ?_⟩ <;> omega) | (simp only [xr] at *; omega)) (by first | assumption | (refine ⟨?_, ?_⟩ <;> omega) | (simp only [xr] at *; omega))] at c71
                                    simp only [decide_eq_true_eq, decide_eq_false_iff_not, Decidable.not_not] at c71
                                    show xEx G0 cdX12_apart (some .int) (xRn G0 MT (d + 5)) Q b 74 [some (.inr (.inr 66)), some (.inl k), some (.inl i), some (.inl 0), some (.inl 0), some (.inl x), some (.inl y), some (.inl z)] [] h1
                                    refine E_s 2 (i' := 76) (ls' := [some (.inr (.inr 66)), some (.inl k), some (.inl i), some (.inl 0), some (.inl 0), some (.inl x), some (.inl y), some (.inl z)]) (sk' := [.inl 1, .inl i]) (h' := h1) rfl ?_
                                    refine E_b (x := (.if_icmp .ne 8, 79, [], [])) rfl rfl (fun c76 => ?_) (fun c76 => ?_)
                                    · rw [c_ne (by first | assumption | (refine ⟨?_, ?_⟩ <;> omega) | (simp only [xr] at *; omega)) (by first | assumption | (refine ⟨?_, ?_⟩ <;> omega) | (simp only [xr] at *; omega))] at c76
                                      simp only [decide_eq_true_eq, decide_eq_false_iff_not, Decidable.not_not] at c76
                                      show xEx G0 cdX12_apart (some .int) (xRn G0 MT (d + 5)) Q b 79 [some (.inr (.inr 66)), some (.inl k), some (.inl i), some (.inl 0), some (.inl 0), some (.inl x), some (.inl y), some (.inl z)] [] h1
                                      refine E_s 1 (i' := 80) (ls' := [some (.inr (.inr 66)), some (.inl k), some (.inl i), some (.inl 0), some (.inl 0), some (.inl x), some (.inl y), some (.inl z)]) (sk' := [.inl z]) (h' := h1) rfl ?_
                                      exact E_ret (x := (.ireturn, 0, [], [])) (v := some (.inl z)) rfl (Or.inl rfl) (by
                                        have r9 := hF9 qs ⟨qk, qi⟩ ((x + 9) + y + z) (by omega) (by simp [ptN]; omega) ddp hnz _ (fun a z1 z2 => (f1 a z1 z2).trans (hfz a z1 z2))
                                        rw [pt_1 (by omega) (by omega) (by omega)] at r9
                                        have e9 : pX x y z i = z := by unfold pX; rw [if_neg (by omega), if_neg (by omega)]
                                        rw [e9] at r9
                                        exact r9)
                                    · rw [c_ne (by first | assumption | (refine ⟨?_, ?_⟩ <;> omega) | (simp only [xr] at *; omega)) (by first | assumption | (refine ⟨?_, ?_⟩ <;> omega) | (simp only [xr] at *; omega))] at c76
                                      simp only [decide_eq_true_eq, decide_eq_false_iff_not, Decidable.not_not] at c76
                                      show xEx G0 cdX12_apart (some .int) (xRn G0 MT (d + 5)) Q b 77 [some (.inr (.inr 66)), some (.inl k), some (.inl i), some (.inl 0), some (.inl 0), some (.inl x), some (.inl y), some (.inl z)] [] h1
                                      refine E_s 2 (i' := 80) (ls' := [some (.inr (.inr 66)), some (.inl k), some (.inl i), some (.inl 0), some (.inl 0), some (.inl x), some (.inl y), some (.inl z)]) (sk' := [.inl y]) (h' := h1) rfl ?_
                                      exact E_ret (x := (.ireturn, 0, [], [])) (v := some (.inl y)) rfl (Or.inl rfl) (by
                                        have r9 := hF9 qs ⟨qk, qi⟩ ((x + 9) + y + z) (by omega) (by simp [ptN]; omega) ddp hnz _ (fun a z1 z2 => (f1 a z1 z2).trans (hfz a z1 z2))
                                        rw [pt_1 (by omega) (by omega) (by omega)] at r9
                                        have e9 : pX x y z i = y := by unfold pX; rw [if_neg (by omega), if_pos (by omega)]
                                        rw [e9] at r9
                                        exact r9)
                                  · rw [c_ne (by first | assumption | (refine ⟨?_, ?_⟩ <;> omega) | (simp only [xr] at *; omega)) (by first | assumption | (refine ⟨?_, ?_⟩ <;> omega) | (simp only [xr] at *; omega))] at c71
                                    simp only [decide_eq_true_eq, decide_eq_false_iff_not, Decidable.not_not] at c71
                                    show xEx G0 cdX12_apart (some .int) (xRn G0 MT (d + 5)) Q b 72 [some (.inr (.inr 66)), some (.inl k), some (.inl i), some (.inl 0), some (.inl 0), some (.inl x), some (.inl y), some (.inl z)] [] h1
                                    refine E_s 2 (i' := 80) (ls' := [some (.inr (.inr 66)), some (.inl k), some (.inl i), some (.inl 0), some (.inl 0), some (.inl x), some (.inl y), some (.inl z)]) (sk' := [.inl x]) (h' := h1) rfl ?_
                                    exact E_ret (x := (.ireturn, 0, [], [])) (v := some (.inl x)) rfl (Or.inl rfl) (by
                                      have r9 := hF9 qs ⟨qk, qi⟩ ((x + 9) + y + z) (by omega) (by simp [ptN]; omega) ddp hnz _ (fun a z1 z2 => (f1 a z1 z2).trans (hfz a z1 z2))
                                      rw [pt_1 (by omega) (by omega) (by omega)] at r9
                                      have e9 : pX x y z i = x := by unfold pX; rw [if_pos (by omega)]
                                      rw [e9] at r9
                                      exact r9)
                          exact key55 _ _ (-0) (by omega) (by omega) hfy (fun q0 z1 z2 => hny q0 z1 (by omega)) (Nat.lt_succ_self _)
                    exact key49 _ _ (-0) _ (by omega) (by omega) hfx (fun q0 z1 z2 => hnx q0 z1 (by omega)) (Nat.lt_succ_self _)
              exact key43 _ _ (-9) none none (by omega) (by omega) (fun _ _ _ => rfl) (fun q0 z1 z2 => by omega) (Nat.lt_succ_self _)
            · rw [c_le (by first | assumption | (refine ⟨?_, ?_⟩ <;> omega) | (simp only [xr] at *; omega)) (by first | assumption | (refine ⟨?_, ?_⟩ <;> omega) | (simp only [xr] at *; omega))] at c36
              simp only [decide_eq_true_eq, decide_eq_false_iff_not, Decidable.not_not] at c36
              show xEx G0 cdX12_apart (some .int) (xRn G0 MT (d + 5)) Q b 37 [some (.inr (.inr 66)), some (.inl k), some (.inl i), some (.inl 0), none, none, none, none] [] (xup h 66 0 0)
              omega
          · rw [c_le (by first | assumption | (refine ⟨?_, ?_⟩ <;> omega) | (simp only [xr] at *; omega)) (by first | assumption | (refine ⟨?_, ?_⟩ <;> omega) | (simp only [xr] at *; omega))] at c28
            simp only [decide_eq_true_eq, decide_eq_false_iff_not, Decidable.not_not] at c28
            show xEx G0 cdX12_apart (some .int) (xRn G0 MT (d + 5)) Q b 29 [some (.inr (.inr 66)), some (.inl k), some (.inl i), none, none, none, none, none] [] (xup h 66 0 0)
            omega
        · show xEx G0 cdX12_apart (some .int) (xRn G0 MT (d + 5)) Q b 23 [some (.inr (.inr 66)), some (.inl k), some (.inl i), none, none, none, none, none] [] (xup h 66 0 0)
          exact absurd c22 (by decide)
      · rw [c_ne (by first | assumption | (refine ⟨?_, ?_⟩ <;> omega) | (simp only [xr] at *; omega)) (by first | assumption | (refine ⟨?_, ?_⟩ <;> omega) | (simp only [xr] at *; omega))] at c15
        simp only [decide_eq_true_eq, decide_eq_false_iff_not, Decidable.not_not] at c15
        show xEx G0 cdX12_apart (some .int) (xRn G0 MT (d + 5)) Q b 16 [some (.inr (.inr 66)), some (.inl k), some (.inl i), none, none, none, none, none] [.inr (.inr 66)] h
        refine E_s 5 (i' := 22) (ls' := [some (.inr (.inr 66)), some (.inl k), some (.inl i), none, none, none, none, none]) (sk' := [.inl 2]) (h' := (xup h 66 0 2)) rfl ?_
        refine E_b (x := (.ifCond .le 5, 25, [], [])) rfl rfl (fun c22 => ?_) (fun c22 => ?_)
        · show xEx G0 cdX12_apart (some .int) (xRn G0 MT (d + 5)) Q b 25 [some (.inr (.inr 66)), some (.inl k), some (.inl i), none, none, none, none, none] [] (xup h 66 0 2)
          exact absurd c22 (by decide)
        · show xEx G0 cdX12_apart (some .int) (xRn G0 MT (d + 5)) Q b 23 [some (.inr (.inr 66)), some (.inl k), some (.inl i), none, none, none, none, none] [] (xup h 66 0 2)
          refine E_s 1 (i' := 24) (ls' := [some (.inr (.inr 66)), some (.inl k), some (.inl i), none, none, none, none, none]) (sk' := [.inl 0]) (h' := (xup h 66 0 2)) rfl ?_
          exact E_ret (x := (.ireturn, 0, [], [])) (v := some (.inl 0)) rfl (Or.inl rfl) (hA (by omega) (fun y => by
            first
            | exact (o0 q1 c10) y.1
            | exact (o0 q2 c15) y.2))
  · rw [c_ne (by first | assumption | (refine ⟨?_, ?_⟩ <;> omega) | (simp only [xr] at *; omega)) (by first | assumption | (refine ⟨?_, ?_⟩ <;> omega) | (simp only [xr] at *; omega))] at c3
    simp only [decide_eq_true_eq, decide_eq_false_iff_not, Decidable.not_not] at c3
    show xEx G0 cdX12_apart (some .int) (xRn G0 MT (d + 5)) Q b 4 [some (.inr (.inr 66)), some (.inl k), some (.inl i), none, none, none, none, none] [.inr (.inr 66)] h
    refine E_s 5 (i' := 22) (ls' := [some (.inr (.inr 66)), some (.inl k), some (.inl i), none, none, none, none, none]) (sk' := [.inl 1]) (h' := (xup h 66 0 1)) rfl ?_
    refine E_b (x := (.ifCond .le 5, 25, [], [])) rfl rfl (fun c22 => ?_) (fun c22 => ?_)
    · show xEx G0 cdX12_apart (some .int) (xRn G0 MT (d + 5)) Q b 25 [some (.inr (.inr 66)), some (.inl k), some (.inl i), none, none, none, none, none] [] (xup h 66 0 1)
      exact absurd c22 (by decide)
    · show xEx G0 cdX12_apart (some .int) (xRn G0 MT (d + 5)) Q b 23 [some (.inr (.inr 66)), some (.inl k), some (.inl i), none, none, none, none, none] [] (xup h 66 0 1)
      refine E_s 1 (i' := 24) (ls' := [some (.inr (.inr 66)), some (.inl k), some (.inl i), none, none, none, none, none]) (sk' := [.inl 0]) (h' := (xup h 66 0 1)) rfl ?_
      exact E_ret (x := (.ireturn, 0, [], [])) (v := some (.inl 0)) rfl (Or.inl rfl) (hN (fun z9 => by omega))
set_option maxHeartbeats 1000000 in
theorem m_apart_2 (d b : Nat) (h S T : xH) (as le : Int → Int) (k i n0 : Int) (wt : Int → Int) (hk : xr k) (hi : xr i) (hm : h 66 1 = 2) (hR : RR h S) (hRT : RRT h T) (hF : FW n0 wt 9 S) (hT : FWT S 7 T) (h3 : 0 ≤ S 0 0 ∧ S 0 0 ≤ 300) (h4 : 0 ≤ T 0 0 ∧ T 0 0 ≤ 150) (hs : h 66 50 = 0 ∨ h 66 50 = 1) (tn : h 66 50 = 1 → TN h as le) (hr : h 66 50 = 1 → ∀ nd, 0 ≤ nd → nd < 15 → -1 ≤ as nd ∧ as nd < T 0 0 ∧ -1 ≤ le nd ∧ le nd < S 0 0) (tr : h 66 50 = 1 → TRp as le S T 3 0)(hM0 : 0 ≤ h 66 8 ∧ h 66 8 ≤ 300) {Q : xO → xH → Prop} (hN : ¬ (h 66 50 = 1) → Q (.inl (some (.inl (0)))) (xup h 66 0 1)) (hA : (h 66 50 = 1) → ¬ ((0 ≤ k ∧ k < h 66 8) ∧ (0 ≤ i ∧ i ≤ 2)) → Q (.inl (some (.inl (0)))) (xup h 66 0 2)) (hF9 : (h 66 50 = 1) → ((0 ≤ k ∧ k < h 66 8) ∧ (0 ≤ i ∧ i ≤ 2)) → ∀ p, 0 ≤ p → p < ptN 2 → (daE as le S T 2 k) p → (∀ q, 0 ≤ q → q < p → ¬ (daE as le S T 2 k) q) → ∀ h', (∀ a, a ≠ 94 → a ≠ 95 → h' a = ((xup h 66 0 0)) a) → Q (.inl (some (.inl (ptX 2 p i)))) h') (hG : (h 66 50 = 1) → ((0 ≤ k ∧ k < h 66 8) ∧ (0 ≤ i ∧ i ≤ 2)) → (∀ q, 0 ≤ q → q < ptN 2 → ¬ (daE as le S T 2 k) q) → ∀ h', (∀ a, a ≠ 94 → a ≠ 95 → h' a = ((xup h 66 0 0)) a) → Q (.inl (some (.inl (-100)))) h') : xRn G0 MT (d + 6) b 245 [.inr (.inr 66), .inl k, .inl i] h Q := by
  refine R_of (M := mX12_apart) rfl (Nat.le_of_ble_eq_true rfl) ?_
  show xEx G0 cdX12_apart (some .int) (xRn G0 MT (d + 5)) Q b 0 [some (.inr (.inr 66)), some (.inl k), some (.inl i), none, none, none, none, none] [] h
  refine E_s 3 (i' := 3) (ls' := [some (.inr (.inr 66)), some (.inl k), some (.inl i), none, none, none, none, none]) (sk' := [.inl (h 66 50), .inr (.inr 66)]) (h' := h) rfl ?_
  refine E_b (x := (.ifCond .ne 7, 6, [], [])) rfl rfl (fun c3 => ?_) (fun c3 => ?_)
  · rw [c_ne (by first | assumption | (refine ⟨?_, ?_⟩ <;> omega) | (simp only [xr] at *; omega)) (by first | assumption | (refine ⟨?_, ?_⟩ <;> omega) | (simp only [xr] at *; omega))] at c3
    simp only [decide_eq_true_eq, decide_eq_false_iff_not, Decidable.not_not] at c3
    show xEx G0 cdX12_apart (some .int) (xRn G0 MT (d + 5)) Q b 6 [some (.inr (.inr 66)), some (.inl k), some (.inl i), none, none, none, none, none] [.inr (.inr 66)] h
    refine E_s 3 (i' := 9) (ls' := [some (.inr (.inr 66)), some (.inl k), some (.inl i), none, none, none, none, none]) (sk' := [.inl k, .inl 0, .inr (.inr 66), .inr (.inr 66)]) (h' := h) rfl ?_
    refine E_cp (x := (.invokevirtual 295, 2, [(10, 193)], [0])) (q := fun r1 h9 => ((r1 = 1 ∧ (0 ≤ k ∧ k < h 66 8)) ∨ (r1 = 0 ∧ ¬ (0 ≤ k ∧ k < h 66 8))) ∧ h = h9) rfl rfl (Nat.le_of_ble_eq_true rfl) (m_isKept0 (d + 3) 0 h k hk hM0 (fun z => ⟨_, rfl, Or.inl ⟨rfl, z⟩, rfl⟩) (fun z => ⟨_, rfl, Or.inr ⟨rfl, z⟩, rfl⟩)) (fun r1 h9 q1 => ?_)
    obtain ⟨q1, rfl⟩ := q1
    show xEx G0 cdX12_apart (some .int) (xRn G0 MT (d + 5)) Q b 10 [some (.inr (.inr 66)), some (.inl k), some (.inl i), none, none, none, none, none] [.inl r1, .inr (.inr 66)] h
    refine E_b (x := (.ifCond .eq 12, 16, [], [])) rfl rfl (fun c10 => ?_) (fun c10 => ?_)
    · rw [c_eq (by first | assumption | (refine ⟨?_, ?_⟩ <;> omega) | (simp only [xr] at *; omega)) (by first | assumption | (refine ⟨?_, ?_⟩ <;> omega) | (simp only [xr] at *; omega))] at c10
      simp only [decide_eq_true_eq, decide_eq_false_iff_not, Decidable.not_not] at c10
      show xEx G0 cdX12_apart (some .int) (xRn G0 MT (d + 5)) Q b 16 [some (.inr (.inr 66)), some (.inl k), some (.inl i), none, none, none, none, none] [.inr (.inr 66)] h
      refine E_s 5 (i' := 22) (ls' := [some (.inr (.inr 66)), some (.inl k), some (.inl i), none, none, none, none, none]) (sk' := [.inl 2]) (h' := (xup h 66 0 2)) rfl ?_
      refine E_b (x := (.ifCond .le 5, 25, [], [])) rfl rfl (fun c22 => ?_) (fun c22 => ?_)
      · show xEx G0 cdX12_apart (some .int) (xRn G0 MT (d + 5)) Q b 25 [some (.inr (.inr 66)), some (.inl k), some (.inl i), none, none, none, none, none] [] (xup h 66 0 2)
        exact absurd c22 (by decide)
      · show xEx G0 cdX12_apart (some .int) (xRn G0 MT (d + 5)) Q b 23 [some (.inr (.inr 66)), some (.inl k), some (.inl i), none, none, none, none, none] [] (xup h 66 0 2)
        refine E_s 1 (i' := 24) (ls' := [some (.inr (.inr 66)), some (.inl k), some (.inl i), none, none, none, none, none]) (sk' := [.inl 0]) (h' := (xup h 66 0 2)) rfl ?_
        exact E_ret (x := (.ireturn, 0, [], [])) (v := some (.inl 0)) rfl (Or.inl rfl) (hA (by omega) (fun y => by
          first
          | exact (o0 q1 c10) y.1
          | exact (o0 q2 c15) y.2))
    · rw [c_eq (by first | assumption | (refine ⟨?_, ?_⟩ <;> omega) | (simp only [xr] at *; omega)) (by first | assumption | (refine ⟨?_, ?_⟩ <;> omega) | (simp only [xr] at *; omega))] at c10
      simp only [decide_eq_true_eq, decide_eq_false_iff_not, Decidable.not_not] at c10
      show xEx G0 cdX12_apart (some .int) (xRn G0 MT (d + 5)) Q b 11 [some (.inr (.inr 66)), some (.inl k), some (.inl i), none, none, none, none, none] [.inr (.inr 66)] h
      refine E_s 3 (i' := 14) (ls' := [some (.inr (.inr 66)), some (.inl k), some (.inl i), none, none, none, none, none]) (sk' := [.inl 2, .inl 0, .inl i, .inr (.inr 66)]) (h' := h) rfl ?_
      refine E_cp (x := (.invokestatic 180, 3, [(0, 155)], [])) (q := fun r2 h9 => ((r2 = 1 ∧ (0 ≤ i ∧ i ≤ 2)) ∨ (r2 = 0 ∧ ¬ (0 ≤ i ∧ i ≤ 2))) ∧ h = h9) rfl rfl (Nat.le_of_ble_eq_true rfl) (m_isIn (d + 4) 0 (h) i 0 2 hi ⟨by omega, by omega⟩ ⟨by omega, by omega⟩ (fun z => ⟨_, rfl, Or.inl ⟨rfl, z⟩, rfl⟩) (fun z => ⟨_, rfl, Or.inr ⟨rfl, z⟩, rfl⟩)) (fun r2 h9 q2 => ?_)
      obtain ⟨q2, rfl⟩ := q2
      show xEx G0 cdX12_apart (some .int) (xRn G0 MT (d + 5)) Q b 15 [some (.inr (.inr 66)), some (.inl k), some (.inl i), none, none, none, none, none] [.inl r2, .inr (.inr 66)] h
      refine E_b (x := (.ifCond .ne 7, 18, [], [])) rfl rfl (fun c15 => ?_) (fun c15 => ?_)
      · rw [c_ne (by first | assumption | (refine ⟨?_, ?_⟩ <;> omega) | (simp only [xr] at *; omega)) (by first | assumption | (refine ⟨?_, ?_⟩ <;> omega) | (simp only [xr] at *; omega))] at c15
        simp only [decide_eq_true_eq, decide_eq_false_iff_not, Decidable.not_not] at c15
        show xEx G0 cdX12_apart (some .int) (xRn G0 MT (d + 5)) Q b 18 [some (.inr (.inr 66)), some (.inl k), some (.inl i), none, none, none, none, none] [.inr (.inr 66)] h
        refine E_s 4 (i' := 22) (ls' := [some (.inr (.inr 66)), some (.inl k), some (.inl i), none, none, none, none, none]) (sk' := [.inl 0]) (h' := (xup h 66 0 0)) rfl ?_
        refine E_b (x := (.ifCond .le 5, 25, [], [])) rfl rfl (fun c22 => ?_) (fun c22 => ?_)
        · show xEx G0 cdX12_apart (some .int) (xRn G0 MT (d + 5)) Q b 25 [some (.inr (.inr 66)), some (.inl k), some (.inl i), none, none, none, none, none] [] (xup h 66 0 0)
          have qs : h 66 50 = 1 := by omega
          have qk : 0 ≤ k ∧ k < h 66 8 := o1 q1 c10
          have qi : 0 ≤ i ∧ i ≤ 2 := o1 q2 c15
          have qk2 : 0 ≤ k ∧ k < S 0 0 := by rw [← hR.1]; exact qk
          refine E_s 3 (i' := 28) (ls' := [some (.inr (.inr 66)), some (.inl k), some (.inl i), none, none, none, none, none]) (sk' := [.inl 1, .inl (h 66 1)]) (h' := (xup h 66 0 0)) rfl ?_
          refine E_b (x := (.if_icmp .le 8, 31, [], [])) rfl rfl (fun c28 => ?_) (fun c28 => ?_)
          · rw [c_le (by first | assumption | (refine ⟨?_, ?_⟩ <;> omega) | (simp only [xr] at *; omega)) (by first | assumption | (refine ⟨?_, ?_⟩ <;> omega) | (simp only [xr] at *; omega))] at c28
            simp only [decide_eq_true_eq, decide_eq_false_iff_not, Decidable.not_not] at c28
            show xEx G0 cdX12_apart (some .int) (xRn G0 MT (d + 5)) Q b 31 [some (.inr (.inr 66)), some (.inl k), some (.inl i), none, none, none, none, none] [] (xup h 66 0 0)
            omega
          · rw [c_le (by first | assumption | (refine ⟨?_, ?_⟩ <;> omega) | (simp only [xr] at *; omega)) (by first | assumption | (refine ⟨?_, ?_⟩ <;> omega) | (simp only [xr] at *; omega))] at c28
            simp only [decide_eq_true_eq, decide_eq_false_iff_not, Decidable.not_not] at c28
            show xEx G0 cdX12_apart (some .int) (xRn G0 MT (d + 5)) Q b 29 [some (.inr (.inr 66)), some (.inl k), some (.inl i), none, none, none, none, none] [] (xup h 66 0 0)
            refine E_s 6 (i' := 36) (ls' := [some (.inr (.inr 66)), some (.inl k), some (.inl i), some (.inl 9), none, none, none, none]) (sk' := [.inl 2, .inl (h 66 1)]) (h' := (xup h 66 0 0)) rfl ?_
            refine E_b (x := (.if_icmp .le 8, 39, [], [])) rfl rfl (fun c36 => ?_) (fun c36 => ?_)
            · rw [c_le (by first | assumption | (refine ⟨?_, ?_⟩ <;> omega) | (simp only [xr] at *; omega)) (by first | assumption | (refine ⟨?_, ?_⟩ <;> omega) | (simp only [xr] at *; omega))] at c36
              simp only [decide_eq_true_eq, decide_eq_false_iff_not, Decidable.not_not] at c36
              show xEx G0 cdX12_apart (some .int) (xRn G0 MT (d + 5)) Q b 39 [some (.inr (.inr 66)), some (.inl k), some (.inl i), some (.inl 9), none, none, none, none] [] (xup h 66 0 0)
              refine E_s 4 (i' := 43) (ls' := [some (.inr (.inr 66)), some (.inl k), some (.inl i), some (.inl 9), some (.inl 0), some (.inl (-9)), none, none]) (sk' := []) (h' := (xup h 66 0 0)) rfl ?_
              have key43 : ∀ (n : Nat) (hx : xH) (x : Int) (v8 v9 : Option xV), (-9 ≤ x) → (x ≤ 10) → (∀ a, a ≠ 94 → a ≠ 95 → hx a = xup h 66 0 0 a) → (∀ q0, 0 ≤ q0 → q0 < (x + 9) * 19 + 0 + 0 → ¬ (daE as le S T 2 k) q0) → ((10 - x).toNat) < n → xEx G0 cdX12_apart (some .int) (xRn G0 MT (d + 5)) Q b 43 [some (.inr (.inr 66)), some (.inl k), some (.inl i), some (.inl 9), some (.inl 0), some (.inl x), v8, v9] [] hx := by
                intro n
                induction n with
                | zero => intro hx x v8 v9 _ _ _ _ hm; exact absurd hm (Nat.not_lt_zero _)
                | succ n ih43 =>
                  intro hx x v8 v9 hx0 hx9 hfx hnx hm43
                  refine E_s 2 (i' := 45) (ls' := [some (.inr (.inr 66)), some (.inl k), some (.inl i), some (.inl 9), some (.inl 0), some (.inl x), v8, v9]) (sk' := [.inl 9, .inl x]) (h' := hx) rfl ?_
                  refine E_b (x := (.if_icmp .gt 88, 87, [], [])) rfl rfl (fun c45 => ?_) (fun c45 => ?_)
                  · rw [c_gt (by first | assumption | (refine ⟨?_, ?_⟩ <;> omega) | (simp only [xr] at *; omega)) (by first | assumption | (refine ⟨?_, ?_⟩ <;> omega) | (simp only [xr] at *; omega))] at c45
                    simp only [decide_eq_true_eq, decide_eq_false_iff_not, Decidable.not_not] at c45
                    show xEx G0 cdX12_apart (some .int) (xRn G0 MT (d + 5)) Q b 87 [some (.inr (.inr 66)), some (.inl k), some (.inl i), some (.inl 9), some (.inl 0), some (.inl x), v8, v9] [] hx
                    refine E_s 1 (i' := 88) (ls' := [some (.inr (.inr 66)), some (.inl k), some (.inl i), some (.inl 9), some (.inl 0), some (.inl x), v8, v9]) (sk' := [.inl (-100)]) (h' := hx) rfl ?_
                    exact E_ret (x := (.ireturn, 0, [], [])) (v := some (.inl (-100))) rfl (Or.inl rfl) (hG qs ⟨qk, qi⟩ (fun q z1 z2 => hnx q z1 (by simp [ptN] at z2; omega)) _ hfx)
                  · rw [c_gt (by first | assumption | (refine ⟨?_, ?_⟩ <;> omega) | (simp only [xr] at *; omega)) (by first | assumption | (refine ⟨?_, ?_⟩ <;> omega) | (simp only [xr] at *; omega))] at c45
                    simp only [decide_eq_true_eq, decide_eq_false_iff_not, Decidable.not_not] at c45
                    show xEx G0 cdX12_apart (some .int) (xRn G0 MT (d + 5)) Q b 46 [some (.inr (.inr 66)), some (.inl k), some (.inl i), some (.inl 9), some (.inl 0), some (.inl x), v8, v9] [] hx
                    refine E_s 3 (i' := 49) (ls' := [some (.inr (.inr 66)), some (.inl k), some (.inl i), some (.inl 9), some (.inl 0), some (.inl x), some (.inl (-9)), v9]) (sk' := []) (h' := hx) rfl ?_
                    have key49 : ∀ (n : Nat) (hy : xH) (y : Int) (w9 : Option xV), (-9 ≤ y) → (y ≤ 10) → (∀ a, a ≠ 94 → a ≠ 95 → hy a = xup h 66 0 0 a) → (∀ q0, 0 ≤ q0 → q0 < (x + 9) * 19 + (y + 9) + 0 → ¬ (daE as le S T 2 k) q0) → ((10 - y).toNat) < n → xEx G0 cdX12_apart (some .int) (xRn G0 MT (d + 5)) Q b 49 [some (.inr (.inr 66)), some (.inl k), some (.inl i), some (.inl 9), some (.inl 0), some (.inl x), some (.inl y), w9] [] hy := by
                      intro n
                      induction n with
                      | zero => intro hy y w9 _ _ _ _ hm; exact absurd hm (Nat.not_lt_zero _)
                      | succ n ih49 =>
                        intro hy y w9 hy0 hy9 hfy hny hm49
                        refine E_s 2 (i' := 51) (ls' := [some (.inr (.inr 66)), some (.inl k), some (.inl i), some (.inl 9), some (.inl 0), some (.inl x), some (.inl y), w9]) (sk' := [.inl 9, .inl y]) (h' := hy) rfl ?_
                        refine E_b (x := (.if_icmp .gt 72, 85, [], [])) rfl rfl (fun c51 => ?_) (fun c51 => ?_)
                        · rw [c_gt (by first | assumption | (refine ⟨?_, ?_⟩ <;> omega) | (simp only [xr] at *; omega)) (by first | assumption | (refine ⟨?_, ?_⟩ <;> omega) | (simp only [xr] at *; omega))] at c51
                          simp only [decide_eq_true_eq, decide_eq_false_iff_not, Decidable.not_not] at c51
                          show xEx G0 cdX12_apart (some .int) (xRn G0 MT (d + 5)) Q b 85 [some (.inr (.inr 66)), some (.inl k), some (.inl i), some (.inl 9), some (.inl 0), some (.inl x), some (.inl y), w9] [] hy
                          refine E_s 2 (i' := 43) (ls' := [some (.inr (.inr 66)), some (.inl k), some (.inl i), some (.inl 9), some (.inl 0), some (.inl (x + 1)), some (.inl y), w9]) (sk' := []) (h' := hy) rfl ?_
                          exact ih43 _ (x + 1) _ _ (by omega) (by omega) hfy (fun q0 z1 z2 => hny q0 z1 (by omega)) (by omega)
                        · rw [c_gt (by first | assumption | (refine ⟨?_, ?_⟩ <;> omega) | (simp only [xr] at *; omega)) (by first | assumption | (refine ⟨?_, ?_⟩ <;> omega) | (simp only [xr] at *; omega))] at c51
                          simp only [decide_eq_true_eq, decide_eq_false_iff_not, Decidable.not_not] at c51
                          show xEx G0 cdX12_apart (some .int) (xRn G0 MT (d + 5)) Q b 52 [some (.inr (.inr 66)), some (.inl k), some (.inl i), some (.inl 9), some (.inl 0), some (.inl x), some (.inl y), w9] [] hy
                          refine E_s 3 (i' := 55) (ls' := [some (.inr (.inr 66)), some (.inl k), some (.inl i), some (.inl 9), some (.inl 0), some (.inl x), some (.inl y), some (.inl (-0))]) (sk' := []) (h' := hy) rfl ?_
                          have key55 : ∀ (n : Nat) (hz : xH) (z : Int), (-0 ≤ z) → (z ≤ 1) → (∀ a, a ≠ 94 → a ≠ 95 → hz a = xup h 66 0 0 a) → (∀ q0, 0 ≤ q0 → q0 < (x + 9) * 19 + (y + 9) + z → ¬ (daE as le S T 2 k) q0) → ((1 - z).toNat) < n → xEx G0 cdX12_apart (some .int) (xRn G0 MT (d + 5)) Q b 55 [some (.inr (.inr 66)), some (.inl k), some (.inl i), some (.inl 9), some (.inl 0), some (.inl x), some (.inl y), some (.inl z)] [] hz := by
                            intro n
                            induction n with
                            | zero => intro hz z _ _ _ _ hm; exact absurd hm (Nat.not_lt_zero _)
                            | succ n ih55 =>
                              intro hz z hz0 hz9 hfz hnz hm55
                              refine E_s 2 (i' := 57) (ls' := [some (.inr (.inr 66)), some (.inl k), some (.inl i), some (.inl 9), some (.inl 0), some (.inl x), some (.inl y), some (.inl z)]) (sk' := [.inl 0, .inl z]) (h' := hz) rfl ?_
                              refine E_b (x := (.if_icmp .gt 54, 83, [], [])) rfl rfl (fun c57 => ?_) (fun c57 => ?_)
                              · rw [c_gt (by first | assumption | (refine ⟨?_, ?_⟩ <;> omega) | (simp only [xr] at *; omega)) (by first | assumption | (refine ⟨?_, ?_⟩ <;> omega) | (simp only [xr] at *; omega))] at c57
                                simp only [decide_eq_true_eq, decide_eq_false_iff_not, Decidable.not_not] at c57
                                show xEx G0 cdX12_apart (some .int) (xRn G0 MT (d + 5)) Q b 83 [some (.inr (.inr 66)), some (.inl k), some (.inl i), some (.inl 9), some (.inl 0), some (.inl x), some (.inl y), some (.inl z)] [] hz
                                refine E_s 2 (i' := 49) (ls' := [some (.inr (.inr 66)), some (.inl k), some (.inl i), some (.inl 9), some (.inl 0), some (.inl x), some (.inl (y + 1)), some (.inl z)]) (sk' := []) (h' := hz) rfl ?_
                                exact ih49 _ (y + 1) _ (by omega) (by omega) hfz (fun q0 z1 z2 => hnz q0 z1 (by omega)) (by omega)
                              · rw [c_gt (by first | assumption | (refine ⟨?_, ?_⟩ <;> omega) | (simp only [xr] at *; omega)) (by first | assumption | (refine ⟨?_, ?_⟩ <;> omega) | (simp only [xr] at *; omega))] at c57
                                simp only [decide_eq_true_eq, decide_eq_false_iff_not, Decidable.not_not] at c57
                                show xEx G0 cdX12_apart (some .int) (xRn G0 MT (d + 5)) Q b 58 [some (.inr (.inr 66)), some (.inl k), some (.inl i), some (.inl 9), some (.inl 0), some (.inl x), some (.inl y), some (.inl z)] [] hz
                                refine E_s 4 (i' := 62) (ls' := [some (.inr (.inr 66)), some (.inl k), some (.inl i), some (.inl 9), some (.inl 0), some (.inl x), some (.inl y), some (.inl z)]) (sk' := [.inl z, .inl y, .inl x, .inr (.inr 66)]) (h' := hz) rfl ?_
                                refine E_cv (x := (.invokevirtual 309, 3, [(10, 198)], [0])) (q := fun h9 => (∀ a, a ≠ 94 → a ≠ 95 → h9 a = hz a) ∧ (∀ k, 0 ≤ k → k < S 0 0 → h9 94 k = VE S (pX x y z) k) ∧ (∀ t, 0 ≤ t → t < T 0 0 → h9 95 t = VU S T (pX x y z) t)) rfl rfl (Nat.le_of_ble_eq_true rfl) (m_reckons (d + 1) 0 hz S T x y z n0 wt ⟨by omega, by omega⟩ ⟨by omega, by omega⟩ ⟨by omega, by omega⟩ (RR_vh hfz (RR_vh0 hR)) (RRT_vh hfz (RRT_vh0 hRT)) hF hT h3 h4 (fun h9 z1 z2 z3 => ⟨rfl, z1, z2, z3⟩)) (fun h1 hq => ?_)
                                obtain ⟨f1, f2, f3⟩ := hq
                                have xx : xr x := ⟨by omega, by omega⟩
                                have xy : xr y := ⟨by omega, by omega⟩
                                have xz : xr z := ⟨by omega, by omega⟩
                                have tn1 : TN h1 as le := TN_of ((f1 _ (by decide) (by decide)).trans (hfz _ (by decide) (by decide))) ((f1 _ (by decide) (by decide)).trans (hfz _ (by decide) (by decide))) (tn qs)
                                have l9 := wlk_l (f := VU S T (pX x y z)) 3 0 (tr qs)
                                have ub : xr (VE S (pX x y z) (le (wlk as (VU S T (pX x y z)) 3 0))) := VE_r hF (pX_r xx xy xz) 300 _ l9.2.1 l9.2.2
                                have g1 := f2 k qk2.1 qk2.2
                                have ua : xr (h1 94 k) := by rw [g1]; exact VE_r hF (pX_r xx xy xz) 300 _ qk2.1 qk2.2
                                show xEx G0 cdX12_apart (some .int) (xRn G0 MT (d + 5)) Q b 63 [some (.inr (.inr 66)), some (.inl k), some (.inl i), some (.inl 9), some (.inl 0), some (.inl x), some (.inl y), some (.inl z)] [] h1
                                refine E_s 1 (i' := 64) (ls' := [some (.inr (.inr 66)), some (.inl k), some (.inl i), some (.inl 9), some (.inl 0), some (.inl x), some (.inl y), some (.inl z)]) (sk' := [.inr (.inr 66)]) (h' := h1) rfl ?_
                                refine E_ci (x := (.invokevirtual 418, 0, [(10, 241)], [0])) (r := (VE S (pX x y z) (le (wlk as (VU S T (pX x y z)) 3 0)))) (h' := h1) rfl rfl (Nat.le_of_ble_eq_true rfl) (m_comesNow (d + 4) 0 h1 S T as le (pX x y z) h3 h4 f2 f3 tn1 (hr qs) (tr qs) ⟨rfl, rfl⟩) ?_
                                show xEx G0 cdX12_apart (some .int) (xRn G0 MT (d + 5)) Q b 65 [some (.inr (.inr 66)), some (.inl k), some (.inl i), some (.inl 9), some (.inl 0), some (.inl x), some (.inl y), some (.inl z)] [.inl (VE S (pX x y z) (le (wlk as (VU S T (pX x y z)) 3 0)))] h1
                                refine E_s 3 (i' := 68) (ls' := [some (.inr (.inr 66)), some (.inl k), some (.inl i), some (.inl 9), some (.inl 0), some (.inl x), some (.inl y), some (.inl z)]) (sk' := [.inl k, .inr (.inr 94), .inl (VE S (pX x y z) (le (wlk as (VU S T (pX x y z)) 3 0)))]) (h' := h1) rfl ?_
                                refine E_ld (x := (.iaload, 0, [], [])) (ty := .int) (n := 300) rfl rfl rfl (by omega) (by omega) ?_
                                show xEx G0 cdX12_apart (some .int) (xRn G0 MT (d + 5)) Q b 69 [some (.inr (.inr 66)), some (.inl k), some (.inl i), some (.inl 9), some (.inl 0), some (.inl x), some (.inl y), some (.inl z)] [.inl (h1 94 k), .inl (VE S (pX x y z) (le (wlk as (VU S T (pX x y z)) 3 0)))] h1
                                refine E_b (x := (.if_icmp .eq 25, 81, [], [])) rfl rfl (fun c69 => ?_) (fun c69 => ?_)
                                · rw [c_eq (by first | exact ua | exact ub) (by first | exact ua | exact ub)] at c69
                                  simp only [decide_eq_true_eq, decide_eq_false_iff_not, Decidable.not_not] at c69
                                  show xEx G0 cdX12_apart (some .int) (xRn G0 MT (d + 5)) Q b 81 [some (.inr (.inr 66)), some (.inl k), some (.inl i), some (.inl 9), some (.inl 0), some (.inl x), some (.inl y), some (.inl z)] [] h1
                                  have dd : ¬ (daE as le S T 2 k) ((x + 9) * 19 + (y + 9) + z) := by
                                    intro z9
                                    apply z9
                                    rw [pt_2 (by omega) (by omega) (by omega)]
                                    exact c69.trans g1
                                  refine E_s 2 (i' := 55) (ls' := [some (.inr (.inr 66)), some (.inl k), some (.inl i), some (.inl 9), some (.inl 0), some (.inl x), some (.inl y), some (.inl (z + 1))]) (sk' := []) (h' := h1) rfl ?_
                                  exact ih55 _ (z + 1) (by omega) (by omega) (fun a z1 z2 => (f1 a z1 z2).trans (hfz a z1 z2)) (fun q0 z1 z2 => by
                                    by_cases z9 : q0 = (x + 9) * 19 + (y + 9) + z
                                    · rw [z9]; exact dd
                                    · exact hnz q0 z1 (by omega)) (by omega)
                                · rw [c_eq (by first | exact ua | exact ub) (by first | exact ua | exact ub)] at c69
                                  simp only [decide_eq_true_eq, decide_eq_false_iff_not, Decidable.not_not] at c69
                                  show xEx G0 cdX12_apart (some .int) (xRn G0 MT (d + 5)) Q b 70 [some (.inr (.inr 66)), some (.inl k), some (.inl i), some (.inl 9), some (.inl 0), some (.inl x), some (.inl y), some (.inl z)] [] h1
                                  have ddp : (daE as le S T 2 k) ((x + 9) * 19 + (y + 9) + z) := by
                                    show ¬ _ = _
                                    rw [pt_2 (by omega) (by omega) (by omega)]
                                    intro z9
                                    exact c69 (z9.trans g1.symm)
                                  refine E_s 1 (i' := 71) (ls' := [some (.inr (.inr 66)), some (.inl k), some (.inl i), some (.inl 9), some (.inl 0), some (.inl x), some (.inl y), some (.inl z)]) (sk' := [.inl i]) (h' := h1) rfl ?_
                                  refine E_b (x := (.ifCond .ne 8, 74, [], [])) rfl rfl (fun c71 => ?_) (fun c71 => ?_)
                                  · rw [c_ne (by first | assumption | (refine ⟨?_, ?_⟩ <;> omega) | (simp only [xr] at *; omega)) (by first | assumption | (refine ⟨?_, ?_⟩ <;> omega) | (simp only [xr] at *; omega))] at c71
                                    simp only [decide_eq_true_eq, decide_eq_false_iff_not, Decidable.not_not] at c71
                                    show xEx G0 cdX12_apart (some .int) (xRn G0 MT (d + 5)) Q b 74 [some (.inr (.inr 66)), some (.inl k), some (.inl i), some (.inl 9), some (.inl 0), some (.inl x), some (.inl y), some (.inl z)] [] h1
                                    refine E_s 2 (i' := 76) (ls' := [some (.inr (.inr 66)), some (.inl k), some (.inl i), some (.inl 9), some (.inl 0), some (.inl x), some (.inl y), some (.inl z)]) (sk' := [.inl 1, .inl i]) (h' := h1) rfl ?_
                                    refine E_b (x := (.if_icmp .ne 8, 79, [], [])) rfl rfl (fun c76 => ?_) (fun c76 => ?_)
                                    · rw [c_ne (by first | assumption | (refine ⟨?_, ?_⟩ <;> omega) | (simp only [xr] at *; omega)) (by first | assumption | (refine ⟨?_, ?_⟩ <;> omega) | (simp only [xr] at *; omega))] at c76
                                      simp only [decide_eq_true_eq, decide_eq_false_iff_not, Decidable.not_not] at c76
                                      show xEx G0 cdX12_apart (some .int) (xRn G0 MT (d + 5)) Q b 79 [some (.inr (.inr 66)), some (.inl k), some (.inl i), some (.inl 9), some (.inl 0), some (.inl x), some (.inl y), some (.inl z)] [] h1
                                      refine E_s 1 (i' := 80) (ls' := [some (.inr (.inr 66)), some (.inl k), some (.inl i), some (.inl 9), some (.inl 0), some (.inl x), some (.inl y), some (.inl z)]) (sk' := [.inl z]) (h' := h1) rfl ?_
                                      exact E_ret (x := (.ireturn, 0, [], [])) (v := some (.inl z)) rfl (Or.inl rfl) (by
                                        have r9 := hF9 qs ⟨qk, qi⟩ ((x + 9) * 19 + (y + 9) + z) (by omega) (by simp [ptN]; omega) ddp hnz _ (fun a z1 z2 => (f1 a z1 z2).trans (hfz a z1 z2))
                                        rw [pt_2 (by omega) (by omega) (by omega)] at r9
                                        have e9 : pX x y z i = z := by unfold pX; rw [if_neg (by omega), if_neg (by omega)]
                                        rw [e9] at r9
                                        exact r9)
                                    · rw [c_ne (by first | assumption | (refine ⟨?_, ?_⟩ <;> omega) | (simp only [xr] at *; omega)) (by first | assumption | (refine ⟨?_, ?_⟩ <;> omega) | (simp only [xr] at *; omega))] at c76
                                      simp only [decide_eq_true_eq, decide_eq_false_iff_not, Decidable.not_not] at c76
                                      show xEx G0 cdX12_apart (some .int) (xRn G0 MT (d + 5)) Q b 77 [some (.inr (.inr 66)), some (.inl k), some (.inl i), some (.inl 9), some (.inl 0), some (.inl x), some (.inl y), some (.inl z)] [] h1
                                      refine E_s 2 (i' := 80) (ls' := [some (.inr (.inr 66)), some (.inl k), some (.inl i), some (.inl 9), some (.inl 0), some (.inl x), some (.inl y), some (.inl z)]) (sk' := [.inl y]) (h' := h1) rfl ?_
                                      exact E_ret (x := (.ireturn, 0, [], [])) (v := some (.inl y)) rfl (Or.inl rfl) (by
                                        have r9 := hF9 qs ⟨qk, qi⟩ ((x + 9) * 19 + (y + 9) + z) (by omega) (by simp [ptN]; omega) ddp hnz _ (fun a z1 z2 => (f1 a z1 z2).trans (hfz a z1 z2))
                                        rw [pt_2 (by omega) (by omega) (by omega)] at r9
                                        have e9 : pX x y z i = y := by unfold pX; rw [if_neg (by omega), if_pos (by omega)]
                                        rw [e9] at r9
                                        exact r9)
                                  · rw [c_ne (by first | assumption | (refine ⟨?_, ?_⟩ <;> omega) | (simp only [xr] at *; omega)) (by first | assumption | (refine ⟨?_, ?_⟩ <;> omega) | (simp only [xr] at *; omega))] at c71
                                    simp only [decide_eq_true_eq, decide_eq_false_iff_not, Decidable.not_not] at c71
                                    show xEx G0 cdX12_apart (some .int) (xRn G0 MT (d + 5)) Q b 72 [some (.inr (.inr 66)), some (.inl k), some (.inl i), some (.inl 9), some (.inl 0), some (.inl x), some (.inl y), some (.inl z)] [] h1
                                    refine E_s 2 (i' := 80) (ls' := [some (.inr (.inr 66)), some (.inl k), some (.inl i), some (.inl 9), some (.inl 0), some (.inl x), some (.inl y), some (.inl z)]) (sk' := [.inl x]) (h' := h1) rfl ?_
                                    exact E_ret (x := (.ireturn, 0, [], [])) (v := some (.inl x)) rfl (Or.inl rfl) (by
                                      have r9 := hF9 qs ⟨qk, qi⟩ ((x + 9) * 19 + (y + 9) + z) (by omega) (by simp [ptN]; omega) ddp hnz _ (fun a z1 z2 => (f1 a z1 z2).trans (hfz a z1 z2))
                                      rw [pt_2 (by omega) (by omega) (by omega)] at r9
                                      have e9 : pX x y z i = x := by unfold pX; rw [if_pos (by omega)]
                                      rw [e9] at r9
                                      exact r9)
                          exact key55 _ _ (-0) (by omega) (by omega) hfy (fun q0 z1 z2 => hny q0 z1 (by omega)) (Nat.lt_succ_self _)
                    exact key49 _ _ (-9) _ (by omega) (by omega) hfx (fun q0 z1 z2 => hnx q0 z1 (by omega)) (Nat.lt_succ_self _)
              exact key43 _ _ (-9) none none (by omega) (by omega) (fun _ _ _ => rfl) (fun q0 z1 z2 => by omega) (Nat.lt_succ_self _)
            · rw [c_le (by first | assumption | (refine ⟨?_, ?_⟩ <;> omega) | (simp only [xr] at *; omega)) (by first | assumption | (refine ⟨?_, ?_⟩ <;> omega) | (simp only [xr] at *; omega))] at c36
              simp only [decide_eq_true_eq, decide_eq_false_iff_not, Decidable.not_not] at c36
              show xEx G0 cdX12_apart (some .int) (xRn G0 MT (d + 5)) Q b 37 [some (.inr (.inr 66)), some (.inl k), some (.inl i), some (.inl 9), none, none, none, none] [] (xup h 66 0 0)
              omega
        · show xEx G0 cdX12_apart (some .int) (xRn G0 MT (d + 5)) Q b 23 [some (.inr (.inr 66)), some (.inl k), some (.inl i), none, none, none, none, none] [] (xup h 66 0 0)
          exact absurd c22 (by decide)
      · rw [c_ne (by first | assumption | (refine ⟨?_, ?_⟩ <;> omega) | (simp only [xr] at *; omega)) (by first | assumption | (refine ⟨?_, ?_⟩ <;> omega) | (simp only [xr] at *; omega))] at c15
        simp only [decide_eq_true_eq, decide_eq_false_iff_not, Decidable.not_not] at c15
        show xEx G0 cdX12_apart (some .int) (xRn G0 MT (d + 5)) Q b 16 [some (.inr (.inr 66)), some (.inl k), some (.inl i), none, none, none, none, none] [.inr (.inr 66)] h
        refine E_s 5 (i' := 22) (ls' := [some (.inr (.inr 66)), some (.inl k), some (.inl i), none, none, none, none, none]) (sk' := [.inl 2]) (h' := (xup h 66 0 2)) rfl ?_
        refine E_b (x := (.ifCond .le 5, 25, [], [])) rfl rfl (fun c22 => ?_) (fun c22 => ?_)
        · show xEx G0 cdX12_apart (some .int) (xRn G0 MT (d + 5)) Q b 25 [some (.inr (.inr 66)), some (.inl k), some (.inl i), none, none, none, none, none] [] (xup h 66 0 2)
          exact absurd c22 (by decide)
        · show xEx G0 cdX12_apart (some .int) (xRn G0 MT (d + 5)) Q b 23 [some (.inr (.inr 66)), some (.inl k), some (.inl i), none, none, none, none, none] [] (xup h 66 0 2)
          refine E_s 1 (i' := 24) (ls' := [some (.inr (.inr 66)), some (.inl k), some (.inl i), none, none, none, none, none]) (sk' := [.inl 0]) (h' := (xup h 66 0 2)) rfl ?_
          exact E_ret (x := (.ireturn, 0, [], [])) (v := some (.inl 0)) rfl (Or.inl rfl) (hA (by omega) (fun y => by
            first
            | exact (o0 q1 c10) y.1
            | exact (o0 q2 c15) y.2))
  · rw [c_ne (by first | assumption | (refine ⟨?_, ?_⟩ <;> omega) | (simp only [xr] at *; omega)) (by first | assumption | (refine ⟨?_, ?_⟩ <;> omega) | (simp only [xr] at *; omega))] at c3
    simp only [decide_eq_true_eq, decide_eq_false_iff_not, Decidable.not_not] at c3
    show xEx G0 cdX12_apart (some .int) (xRn G0 MT (d + 5)) Q b 4 [some (.inr (.inr 66)), some (.inl k), some (.inl i), none, none, none, none, none] [.inr (.inr 66)] h
    refine E_s 5 (i' := 22) (ls' := [some (.inr (.inr 66)), some (.inl k), some (.inl i), none, none, none, none, none]) (sk' := [.inl 1]) (h' := (xup h 66 0 1)) rfl ?_
    refine E_b (x := (.ifCond .le 5, 25, [], [])) rfl rfl (fun c22 => ?_) (fun c22 => ?_)
    · show xEx G0 cdX12_apart (some .int) (xRn G0 MT (d + 5)) Q b 25 [some (.inr (.inr 66)), some (.inl k), some (.inl i), none, none, none, none, none] [] (xup h 66 0 1)
      exact absurd c22 (by decide)
    · show xEx G0 cdX12_apart (some .int) (xRn G0 MT (d + 5)) Q b 23 [some (.inr (.inr 66)), some (.inl k), some (.inl i), none, none, none, none, none] [] (xup h 66 0 1)
      refine E_s 1 (i' := 24) (ls' := [some (.inr (.inr 66)), some (.inl k), some (.inl i), none, none, none, none, none]) (sk' := [.inl 0]) (h' := (xup h 66 0 1)) rfl ?_
      exact E_ret (x := (.ireturn, 0, [], [])) (v := some (.inl 0)) rfl (Or.inl rfl) (hN (fun z9 => by omega))
set_option maxHeartbeats 1000000 in
theorem m_apart_3 (d b : Nat) (h S T : xH) (as le : Int → Int) (k i n0 : Int) (wt : Int → Int) (hk : xr k) (hi : xr i) (hm : h 66 1 = 3) (hR : RR h S) (hRT : RRT h T) (hF : FW n0 wt 9 S) (hT : FWT S 7 T) (h3 : 0 ≤ S 0 0 ∧ S 0 0 ≤ 300) (h4 : 0 ≤ T 0 0 ∧ T 0 0 ≤ 150) (hs : h 66 50 = 0 ∨ h 66 50 = 1) (tn : h 66 50 = 1 → TN h as le) (hr : h 66 50 = 1 → ∀ nd, 0 ≤ nd → nd < 15 → -1 ≤ as nd ∧ as nd < T 0 0 ∧ -1 ≤ le nd ∧ le nd < S 0 0) (tr : h 66 50 = 1 → TRp as le S T 3 0)(hM0 : 0 ≤ h 66 8 ∧ h 66 8 ≤ 300) {Q : xO → xH → Prop} (hN : ¬ (h 66 50 = 1) → Q (.inl (some (.inl (0)))) (xup h 66 0 1)) (hA : (h 66 50 = 1) → ¬ ((0 ≤ k ∧ k < h 66 8) ∧ (0 ≤ i ∧ i ≤ 2)) → Q (.inl (some (.inl (0)))) (xup h 66 0 2)) (hF9 : (h 66 50 = 1) → ((0 ≤ k ∧ k < h 66 8) ∧ (0 ≤ i ∧ i ≤ 2)) → ∀ p, 0 ≤ p → p < ptN 3 → (daE as le S T 3 k) p → (∀ q, 0 ≤ q → q < p → ¬ (daE as le S T 3 k) q) → ∀ h', (∀ a, a ≠ 94 → a ≠ 95 → h' a = ((xup h 66 0 0)) a) → Q (.inl (some (.inl (ptX 3 p i)))) h') (hG : (h 66 50 = 1) → ((0 ≤ k ∧ k < h 66 8) ∧ (0 ≤ i ∧ i ≤ 2)) → (∀ q, 0 ≤ q → q < ptN 3 → ¬ (daE as le S T 3 k) q) → ∀ h', (∀ a, a ≠ 94 → a ≠ 95 → h' a = ((xup h 66 0 0)) a) → Q (.inl (some (.inl (-100)))) h') : xRn G0 MT (d + 6) b 245 [.inr (.inr 66), .inl k, .inl i] h Q := by
  refine R_of (M := mX12_apart) rfl (Nat.le_of_ble_eq_true rfl) ?_
  show xEx G0 cdX12_apart (some .int) (xRn G0 MT (d + 5)) Q b 0 [some (.inr (.inr 66)), some (.inl k), some (.inl i), none, none, none, none, none] [] h
  refine E_s 3 (i' := 3) (ls' := [some (.inr (.inr 66)), some (.inl k), some (.inl i), none, none, none, none, none]) (sk' := [.inl (h 66 50), .inr (.inr 66)]) (h' := h) rfl ?_
  refine E_b (x := (.ifCond .ne 7, 6, [], [])) rfl rfl (fun c3 => ?_) (fun c3 => ?_)
  · rw [c_ne (by first | assumption | (refine ⟨?_, ?_⟩ <;> omega) | (simp only [xr] at *; omega)) (by first | assumption | (refine ⟨?_, ?_⟩ <;> omega) | (simp only [xr] at *; omega))] at c3
    simp only [decide_eq_true_eq, decide_eq_false_iff_not, Decidable.not_not] at c3
    show xEx G0 cdX12_apart (some .int) (xRn G0 MT (d + 5)) Q b 6 [some (.inr (.inr 66)), some (.inl k), some (.inl i), none, none, none, none, none] [.inr (.inr 66)] h
    refine E_s 3 (i' := 9) (ls' := [some (.inr (.inr 66)), some (.inl k), some (.inl i), none, none, none, none, none]) (sk' := [.inl k, .inl 0, .inr (.inr 66), .inr (.inr 66)]) (h' := h) rfl ?_
    refine E_cp (x := (.invokevirtual 295, 2, [(10, 193)], [0])) (q := fun r1 h9 => ((r1 = 1 ∧ (0 ≤ k ∧ k < h 66 8)) ∨ (r1 = 0 ∧ ¬ (0 ≤ k ∧ k < h 66 8))) ∧ h = h9) rfl rfl (Nat.le_of_ble_eq_true rfl) (m_isKept0 (d + 3) 0 h k hk hM0 (fun z => ⟨_, rfl, Or.inl ⟨rfl, z⟩, rfl⟩) (fun z => ⟨_, rfl, Or.inr ⟨rfl, z⟩, rfl⟩)) (fun r1 h9 q1 => ?_)
    obtain ⟨q1, rfl⟩ := q1
    show xEx G0 cdX12_apart (some .int) (xRn G0 MT (d + 5)) Q b 10 [some (.inr (.inr 66)), some (.inl k), some (.inl i), none, none, none, none, none] [.inl r1, .inr (.inr 66)] h
    refine E_b (x := (.ifCond .eq 12, 16, [], [])) rfl rfl (fun c10 => ?_) (fun c10 => ?_)
    · rw [c_eq (by first | assumption | (refine ⟨?_, ?_⟩ <;> omega) | (simp only [xr] at *; omega)) (by first | assumption | (refine ⟨?_, ?_⟩ <;> omega) | (simp only [xr] at *; omega))] at c10
      simp only [decide_eq_true_eq, decide_eq_false_iff_not, Decidable.not_not] at c10
      show xEx G0 cdX12_apart (some .int) (xRn G0 MT (d + 5)) Q b 16 [some (.inr (.inr 66)), some (.inl k), some (.inl i), none, none, none, none, none] [.inr (.inr 66)] h
      refine E_s 5 (i' := 22) (ls' := [some (.inr (.inr 66)), some (.inl k), some (.inl i), none, none, none, none, none]) (sk' := [.inl 2]) (h' := (xup h 66 0 2)) rfl ?_
      refine E_b (x := (.ifCond .le 5, 25, [], [])) rfl rfl (fun c22 => ?_) (fun c22 => ?_)
      · show xEx G0 cdX12_apart (some .int) (xRn G0 MT (d + 5)) Q b 25 [some (.inr (.inr 66)), some (.inl k), some (.inl i), none, none, none, none, none] [] (xup h 66 0 2)
        exact absurd c22 (by decide)
      · show xEx G0 cdX12_apart (some .int) (xRn G0 MT (d + 5)) Q b 23 [some (.inr (.inr 66)), some (.inl k), some (.inl i), none, none, none, none, none] [] (xup h 66 0 2)
        refine E_s 1 (i' := 24) (ls' := [some (.inr (.inr 66)), some (.inl k), some (.inl i), none, none, none, none, none]) (sk' := [.inl 0]) (h' := (xup h 66 0 2)) rfl ?_
        exact E_ret (x := (.ireturn, 0, [], [])) (v := some (.inl 0)) rfl (Or.inl rfl) (hA (by omega) (fun y => by
          first
          | exact (o0 q1 c10) y.1
          | exact (o0 q2 c15) y.2))
    · rw [c_eq (by first | assumption | (refine ⟨?_, ?_⟩ <;> omega) | (simp only [xr] at *; omega)) (by first | assumption | (refine ⟨?_, ?_⟩ <;> omega) | (simp only [xr] at *; omega))] at c10
      simp only [decide_eq_true_eq, decide_eq_false_iff_not, Decidable.not_not] at c10
      show xEx G0 cdX12_apart (some .int) (xRn G0 MT (d + 5)) Q b 11 [some (.inr (.inr 66)), some (.inl k), some (.inl i), none, none, none, none, none] [.inr (.inr 66)] h
      refine E_s 3 (i' := 14) (ls' := [some (.inr (.inr 66)), some (.inl k), some (.inl i), none, none, none, none, none]) (sk' := [.inl 2, .inl 0, .inl i, .inr (.inr 66)]) (h' := h) rfl ?_
      refine E_cp (x := (.invokestatic 180, 3, [(0, 155)], [])) (q := fun r2 h9 => ((r2 = 1 ∧ (0 ≤ i ∧ i ≤ 2)) ∨ (r2 = 0 ∧ ¬ (0 ≤ i ∧ i ≤ 2))) ∧ h = h9) rfl rfl (Nat.le_of_ble_eq_true rfl) (m_isIn (d + 4) 0 (h) i 0 2 hi ⟨by omega, by omega⟩ ⟨by omega, by omega⟩ (fun z => ⟨_, rfl, Or.inl ⟨rfl, z⟩, rfl⟩) (fun z => ⟨_, rfl, Or.inr ⟨rfl, z⟩, rfl⟩)) (fun r2 h9 q2 => ?_)
      obtain ⟨q2, rfl⟩ := q2
      show xEx G0 cdX12_apart (some .int) (xRn G0 MT (d + 5)) Q b 15 [some (.inr (.inr 66)), some (.inl k), some (.inl i), none, none, none, none, none] [.inl r2, .inr (.inr 66)] h
      refine E_b (x := (.ifCond .ne 7, 18, [], [])) rfl rfl (fun c15 => ?_) (fun c15 => ?_)
      · rw [c_ne (by first | assumption | (refine ⟨?_, ?_⟩ <;> omega) | (simp only [xr] at *; omega)) (by first | assumption | (refine ⟨?_, ?_⟩ <;> omega) | (simp only [xr] at *; omega))] at c15
        simp only [decide_eq_true_eq, decide_eq_false_iff_not, Decidable.not_not] at c15
        show xEx G0 cdX12_apart (some .int) (xRn G0 MT (d + 5)) Q b 18 [some (.inr (.inr 66)), some (.inl k), some (.inl i), none, none, none, none, none] [.inr (.inr 66)] h
        refine E_s 4 (i' := 22) (ls' := [some (.inr (.inr 66)), some (.inl k), some (.inl i), none, none, none, none, none]) (sk' := [.inl 0]) (h' := (xup h 66 0 0)) rfl ?_
        refine E_b (x := (.ifCond .le 5, 25, [], [])) rfl rfl (fun c22 => ?_) (fun c22 => ?_)
        · show xEx G0 cdX12_apart (some .int) (xRn G0 MT (d + 5)) Q b 25 [some (.inr (.inr 66)), some (.inl k), some (.inl i), none, none, none, none, none] [] (xup h 66 0 0)
          have qs : h 66 50 = 1 := by omega
          have qk : 0 ≤ k ∧ k < h 66 8 := o1 q1 c10
          have qi : 0 ≤ i ∧ i ≤ 2 := o1 q2 c15
          have qk2 : 0 ≤ k ∧ k < S 0 0 := by rw [← hR.1]; exact qk
          refine E_s 3 (i' := 28) (ls' := [some (.inr (.inr 66)), some (.inl k), some (.inl i), none, none, none, none, none]) (sk' := [.inl 1, .inl (h 66 1)]) (h' := (xup h 66 0 0)) rfl ?_
          refine E_b (x := (.if_icmp .le 8, 31, [], [])) rfl rfl (fun c28 => ?_) (fun c28 => ?_)
          · rw [c_le (by first | assumption | (refine ⟨?_, ?_⟩ <;> omega) | (simp only [xr] at *; omega)) (by first | assumption | (refine ⟨?_, ?_⟩ <;> omega) | (simp only [xr] at *; omega))] at c28
            simp only [decide_eq_true_eq, decide_eq_false_iff_not, Decidable.not_not] at c28
            show xEx G0 cdX12_apart (some .int) (xRn G0 MT (d + 5)) Q b 31 [some (.inr (.inr 66)), some (.inl k), some (.inl i), none, none, none, none, none] [] (xup h 66 0 0)
            omega
          · rw [c_le (by first | assumption | (refine ⟨?_, ?_⟩ <;> omega) | (simp only [xr] at *; omega)) (by first | assumption | (refine ⟨?_, ?_⟩ <;> omega) | (simp only [xr] at *; omega))] at c28
            simp only [decide_eq_true_eq, decide_eq_false_iff_not, Decidable.not_not] at c28
            show xEx G0 cdX12_apart (some .int) (xRn G0 MT (d + 5)) Q b 29 [some (.inr (.inr 66)), some (.inl k), some (.inl i), none, none, none, none, none] [] (xup h 66 0 0)
            refine E_s 6 (i' := 36) (ls' := [some (.inr (.inr 66)), some (.inl k), some (.inl i), some (.inl 9), none, none, none, none]) (sk' := [.inl 2, .inl (h 66 1)]) (h' := (xup h 66 0 0)) rfl ?_
            refine E_b (x := (.if_icmp .le 8, 39, [], [])) rfl rfl (fun c36 => ?_) (fun c36 => ?_)
            · rw [c_le (by first | assumption | (refine ⟨?_, ?_⟩ <;> omega) | (simp only [xr] at *; omega)) (by first | assumption | (refine ⟨?_, ?_⟩ <;> omega) | (simp only [xr] at *; omega))] at c36
              simp only [decide_eq_true_eq, decide_eq_false_iff_not, Decidable.not_not] at c36
              show xEx G0 cdX12_apart (some .int) (xRn G0 MT (d + 5)) Q b 39 [some (.inr (.inr 66)), some (.inl k), some (.inl i), some (.inl 9), none, none, none, none] [] (xup h 66 0 0)
              omega
            · rw [c_le (by first | assumption | (refine ⟨?_, ?_⟩ <;> omega) | (simp only [xr] at *; omega)) (by first | assumption | (refine ⟨?_, ?_⟩ <;> omega) | (simp only [xr] at *; omega))] at c36
              simp only [decide_eq_true_eq, decide_eq_false_iff_not, Decidable.not_not] at c36
              show xEx G0 cdX12_apart (some .int) (xRn G0 MT (d + 5)) Q b 37 [some (.inr (.inr 66)), some (.inl k), some (.inl i), some (.inl 9), none, none, none, none] [] (xup h 66 0 0)
              refine E_s 5 (i' := 43) (ls' := [some (.inr (.inr 66)), some (.inl k), some (.inl i), some (.inl 9), some (.inl 9), some (.inl (-9)), none, none]) (sk' := []) (h' := (xup h 66 0 0)) rfl ?_
              have key43 : ∀ (n : Nat) (hx : xH) (x : Int) (v8 v9 : Option xV), (-9 ≤ x) → (x ≤ 10) → (∀ a, a ≠ 94 → a ≠ 95 → hx a = xup h 66 0 0 a) → (∀ q0, 0 ≤ q0 → q0 < (x + 9) * 361 + 0 + 0 → ¬ (daE as le S T 3 k) q0) → ((10 - x).toNat) < n → xEx G0 cdX12_apart (some .int) (xRn G0 MT (d + 5)) Q b 43 [some (.inr (.inr 66)), some (.inl k), some (.inl i), some (.inl 9), some (.inl 9), some (.inl x), v8, v9] [] hx := by
                intro n
                induction n with
                | zero => intro hx x v8 v9 _ _ _ _ hm; exact absurd hm (Nat.not_lt_zero _)
                | succ n ih43 =>
                  intro hx x v8 v9 hx0 hx9 hfx hnx hm43
                  refine E_s 2 (i' := 45) (ls' := [some (.inr (.inr 66)), some (.inl k), some (.inl i), some (.inl 9), some (.inl 9), some (.inl x), v8, v9]) (sk' := [.inl 9, .inl x]) (h' := hx) rfl ?_
                  refine E_b (x := (.if_icmp .gt 88, 87, [], [])) rfl rfl (fun c45 => ?_) (fun c45 => ?_)
                  · rw [c_gt (by first | assumption | (refine ⟨?_, ?_⟩ <;> omega) | (simp only [xr] at *; omega)) (by first | assumption | (refine ⟨?_, ?_⟩ <;> omega) | (simp only [xr] at *; omega))] at c45
                    simp only [decide_eq_true_eq, decide_eq_false_iff_not, Decidable.not_not] at c45
                    show xEx G0 cdX12_apart (some .int) (xRn G0 MT (d + 5)) Q b 87 [some (.inr (.inr 66)), some (.inl k), some (.inl i), some (.inl 9), some (.inl 9), some (.inl x), v8, v9] [] hx
                    refine E_s 1 (i' := 88) (ls' := [some (.inr (.inr 66)), some (.inl k), some (.inl i), some (.inl 9), some (.inl 9), some (.inl x), v8, v9]) (sk' := [.inl (-100)]) (h' := hx) rfl ?_
                    exact E_ret (x := (.ireturn, 0, [], [])) (v := some (.inl (-100))) rfl (Or.inl rfl) (hG qs ⟨qk, qi⟩ (fun q z1 z2 => hnx q z1 (by simp [ptN] at z2; omega)) _ hfx)
                  · rw [c_gt (by first | assumption | (refine ⟨?_, ?_⟩ <;> omega) | (simp only [xr] at *; omega)) (by first | assumption | (refine ⟨?_, ?_⟩ <;> omega) | (simp only [xr] at *; omega))] at c45
                    simp only [decide_eq_true_eq, decide_eq_false_iff_not, Decidable.not_not] at c45
                    show xEx G0 cdX12_apart (some .int) (xRn G0 MT (d + 5)) Q b 46 [some (.inr (.inr 66)), some (.inl k), some (.inl i), some (.inl 9), some (.inl 9), some (.inl x), v8, v9] [] hx
                    refine E_s 3 (i' := 49) (ls' := [some (.inr (.inr 66)), some (.inl k), some (.inl i), some (.inl 9), some (.inl 9), some (.inl x), some (.inl (-9)), v9]) (sk' := []) (h' := hx) rfl ?_
                    have key49 : ∀ (n : Nat) (hy : xH) (y : Int) (w9 : Option xV), (-9 ≤ y) → (y ≤ 10) → (∀ a, a ≠ 94 → a ≠ 95 → hy a = xup h 66 0 0 a) → (∀ q0, 0 ≤ q0 → q0 < (x + 9) * 361 + (y + 9) * 19 + 0 → ¬ (daE as le S T 3 k) q0) → ((10 - y).toNat) < n → xEx G0 cdX12_apart (some .int) (xRn G0 MT (d + 5)) Q b 49 [some (.inr (.inr 66)), some (.inl k), some (.inl i), some (.inl 9), some (.inl 9), some (.inl x), some (.inl y), w9] [] hy := by
                      intro n
                      induction n with
                      | zero => intro hy y w9 _ _ _ _ hm; exact absurd hm (Nat.not_lt_zero _)
                      | succ n ih49 =>
                        intro hy y w9 hy0 hy9 hfy hny hm49
                        refine E_s 2 (i' := 51) (ls' := [some (.inr (.inr 66)), some (.inl k), some (.inl i), some (.inl 9), some (.inl 9), some (.inl x), some (.inl y), w9]) (sk' := [.inl 9, .inl y]) (h' := hy) rfl ?_
                        refine E_b (x := (.if_icmp .gt 72, 85, [], [])) rfl rfl (fun c51 => ?_) (fun c51 => ?_)
                        · rw [c_gt (by first | assumption | (refine ⟨?_, ?_⟩ <;> omega) | (simp only [xr] at *; omega)) (by first | assumption | (refine ⟨?_, ?_⟩ <;> omega) | (simp only [xr] at *; omega))] at c51
                          simp only [decide_eq_true_eq, decide_eq_false_iff_not, Decidable.not_not] at c51
                          show xEx G0 cdX12_apart (some .int) (xRn G0 MT (d + 5)) Q b 85 [some (.inr (.inr 66)), some (.inl k), some (.inl i), some (.inl 9), some (.inl 9), some (.inl x), some (.inl y), w9] [] hy
                          refine E_s 2 (i' := 43) (ls' := [some (.inr (.inr 66)), some (.inl k), some (.inl i), some (.inl 9), some (.inl 9), some (.inl (x + 1)), some (.inl y), w9]) (sk' := []) (h' := hy) rfl ?_
                          exact ih43 _ (x + 1) _ _ (by omega) (by omega) hfy (fun q0 z1 z2 => hny q0 z1 (by omega)) (by omega)
                        · rw [c_gt (by first | assumption | (refine ⟨?_, ?_⟩ <;> omega) | (simp only [xr] at *; omega)) (by first | assumption | (refine ⟨?_, ?_⟩ <;> omega) | (simp only [xr] at *; omega))] at c51
                          simp only [decide_eq_true_eq, decide_eq_false_iff_not, Decidable.not_not] at c51
                          show xEx G0 cdX12_apart (some .int) (xRn G0 MT (d + 5)) Q b 52 [some (.inr (.inr 66)), some (.inl k), some (.inl i), some (.inl 9), some (.inl 9), some (.inl x), some (.inl y), w9] [] hy
                          refine E_s 3 (i' := 55) (ls' := [some (.inr (.inr 66)), some (.inl k), some (.inl i), some (.inl 9), some (.inl 9), some (.inl x), some (.inl y), some (.inl (-9))]) (sk' := []) (h' := hy) rfl ?_
                          have key55 : ∀ (n : Nat) (hz : xH) (z : Int), (-9 ≤ z) → (z ≤ 10) → (∀ a, a ≠ 94 → a ≠ 95 → hz a = xup h 66 0 0 a) → (∀ q0, 0 ≤ q0 → q0 < (x + 9) * 361 + (y + 9) * 19 + (z + 9) → ¬ (daE as le S T 3 k) q0) → ((10 - z).toNat) < n → xEx G0 cdX12_apart (some .int) (xRn G0 MT (d + 5)) Q b 55 [some (.inr (.inr 66)), some (.inl k), some (.inl i), some (.inl 9), some (.inl 9), some (.inl x), some (.inl y), some (.inl z)] [] hz := by
                            intro n
                            induction n with
                            | zero => intro hz z _ _ _ _ hm; exact absurd hm (Nat.not_lt_zero _)
                            | succ n ih55 =>
                              intro hz z hz0 hz9 hfz hnz hm55
                              refine E_s 2 (i' := 57) (ls' := [some (.inr (.inr 66)), some (.inl k), some (.inl i), some (.inl 9), some (.inl 9), some (.inl x), some (.inl y), some (.inl z)]) (sk' := [.inl 9, .inl z]) (h' := hz) rfl ?_
                              refine E_b (x := (.if_icmp .gt 54, 83, [], [])) rfl rfl (fun c57 => ?_) (fun c57 => ?_)
                              · rw [c_gt (by first | assumption | (refine ⟨?_, ?_⟩ <;> omega) | (simp only [xr] at *; omega)) (by first | assumption | (refine ⟨?_, ?_⟩ <;> omega) | (simp only [xr] at *; omega))] at c57
                                simp only [decide_eq_true_eq, decide_eq_false_iff_not, Decidable.not_not] at c57
                                show xEx G0 cdX12_apart (some .int) (xRn G0 MT (d + 5)) Q b 83 [some (.inr (.inr 66)), some (.inl k), some (.inl i), some (.inl 9), some (.inl 9), some (.inl x), some (.inl y), some (.inl z)] [] hz
                                refine E_s 2 (i' := 49) (ls' := [some (.inr (.inr 66)), some (.inl k), some (.inl i), some (.inl 9), some (.inl 9), some (.inl x), some (.inl (y + 1)), some (.inl z)]) (sk' := []) (h' := hz) rfl ?_
                                exact ih49 _ (y + 1) _ (by omega) (by omega) hfz (fun q0 z1 z2 => hnz q0 z1 (by omega)) (by omega)
                              · rw [c_gt (by first | assumption | (refine ⟨?_, ?_⟩ <;> omega) | (simp only [xr] at *; omega)) (by first | assumption | (refine ⟨?_, ?_⟩ <;> omega) | (simp only [xr] at *; omega))] at c57
                                simp only [decide_eq_true_eq, decide_eq_false_iff_not, Decidable.not_not] at c57
                                show xEx G0 cdX12_apart (some .int) (xRn G0 MT (d + 5)) Q b 58 [some (.inr (.inr 66)), some (.inl k), some (.inl i), some (.inl 9), some (.inl 9), some (.inl x), some (.inl y), some (.inl z)] [] hz
                                refine E_s 4 (i' := 62) (ls' := [some (.inr (.inr 66)), some (.inl k), some (.inl i), some (.inl 9), some (.inl 9), some (.inl x), some (.inl y), some (.inl z)]) (sk' := [.inl z, .inl y, .inl x, .inr (.inr 66)]) (h' := hz) rfl ?_
                                refine E_cv (x := (.invokevirtual 309, 3, [(10, 198)], [0])) (q := fun h9 => (∀ a, a ≠ 94 → a ≠ 95 → h9 a = hz a) ∧ (∀ k, 0 ≤ k → k < S 0 0 → h9 94 k = VE S (pX x y z) k) ∧ (∀ t, 0 ≤ t → t < T 0 0 → h9 95 t = VU S T (pX x y z) t)) rfl rfl (Nat.le_of_ble_eq_true rfl) (m_reckons (d + 1) 0 hz S T x y z n0 wt ⟨by omega, by omega⟩ ⟨by omega, by omega⟩ ⟨by omega, by omega⟩ (RR_vh hfz (RR_vh0 hR)) (RRT_vh hfz (RRT_vh0 hRT)) hF hT h3 h4 (fun h9 z1 z2 z3 => ⟨rfl, z1, z2, z3⟩)) (fun h1 hq => ?_)
                                obtain ⟨f1, f2, f3⟩ := hq
                                have xx : xr x := ⟨by omega, by omega⟩
                                have xy : xr y := ⟨by omega, by omega⟩
                                have xz : xr z := ⟨by omega, by omega⟩
                                have tn1 : TN h1 as le := TN_of ((f1 _ (by decide) (by decide)).trans (hfz _ (by decide) (by decide))) ((f1 _ (by decide) (by decide)).trans (hfz _ (by decide) (by decide))) (tn qs)
                                have l9 := wlk_l (f := VU S T (pX x y z)) 3 0 (tr qs)
                                have ub : xr (VE S (pX x y z) (le (wlk as (VU S T (pX x y z)) 3 0))) := VE_r hF (pX_r xx xy xz) 300 _ l9.2.1 l9.2.2
                                have g1 := f2 k qk2.1 qk2.2
                                have ua : xr (h1 94 k) := by rw [g1]; exact VE_r hF (pX_r xx xy xz) 300 _ qk2.1 qk2.2
                                show xEx G0 cdX12_apart (some .int) (xRn G0 MT (d + 5)) Q b 63 [some (.inr (.inr 66)), some (.inl k), some (.inl i), some (.inl 9), some (.inl 9), some (.inl x), some (.inl y), some (.inl z)] [] h1
                                refine E_s 1 (i' := 64) (ls' := [some (.inr (.inr 66)), some (.inl k), some (.inl i), some (.inl 9), some (.inl 9), some (.inl x), some (.inl y), some (.inl z)]) (sk' := [.inr (.inr 66)]) (h' := h1) rfl ?_
                                refine E_ci (x := (.invokevirtual 418, 0, [(10, 241)], [0])) (r := (VE S (pX x y z) (le (wlk as (VU S T (pX x y z)) 3 0)))) (h' := h1) rfl rfl (Nat.le_of_ble_eq_true rfl) (m_comesNow (d + 4) 0 h1 S T as le (pX x y z) h3 h4 f2 f3 tn1 (hr qs) (tr qs) ⟨rfl, rfl⟩) ?_
                                show xEx G0 cdX12_apart (some .int) (xRn G0 MT (d + 5)) Q b 65 [some (.inr (.inr 66)), some (.inl k), some (.inl i), some (.inl 9), some (.inl 9), some (.inl x), some (.inl y), some (.inl z)] [.inl (VE S (pX x y z) (le (wlk as (VU S T (pX x y z)) 3 0)))] h1
                                refine E_s 3 (i' := 68) (ls' := [some (.inr (.inr 66)), some (.inl k), some (.inl i), some (.inl 9), some (.inl 9), some (.inl x), some (.inl y), some (.inl z)]) (sk' := [.inl k, .inr (.inr 94), .inl (VE S (pX x y z) (le (wlk as (VU S T (pX x y z)) 3 0)))]) (h' := h1) rfl ?_
                                refine E_ld (x := (.iaload, 0, [], [])) (ty := .int) (n := 300) rfl rfl rfl (by omega) (by omega) ?_
                                show xEx G0 cdX12_apart (some .int) (xRn G0 MT (d + 5)) Q b 69 [some (.inr (.inr 66)), some (.inl k), some (.inl i), some (.inl 9), some (.inl 9), some (.inl x), some (.inl y), some (.inl z)] [.inl (h1 94 k), .inl (VE S (pX x y z) (le (wlk as (VU S T (pX x y z)) 3 0)))] h1
                                refine E_b (x := (.if_icmp .eq 25, 81, [], [])) rfl rfl (fun c69 => ?_) (fun c69 => ?_)
                                · rw [c_eq (by first | exact ua | exact ub) (by first | exact ua | exact ub)] at c69
                                  simp only [decide_eq_true_eq, decide_eq_false_iff_not, Decidable.not_not] at c69
                                  show xEx G0 cdX12_apart (some .int) (xRn G0 MT (d + 5)) Q b 81 [some (.inr (.inr 66)), some (.inl k), some (.inl i), some (.inl 9), some (.inl 9), some (.inl x), some (.inl y), some (.inl z)] [] h1
                                  have dd : ¬ (daE as le S T 3 k) ((x + 9) * 361 + (y + 9) * 19 + (z + 9)) := by
                                    intro z9
                                    apply z9
                                    rw [pt_3 (by omega) (by omega) (by omega)]
                                    exact c69.trans g1
                                  refine E_s 2 (i' := 55) (ls' := [some (.inr (.inr 66)), some (.inl k), some (.inl i), some (.inl 9), some (.inl 9), some (.inl x), some (.inl y), some (.inl (z + 1))]) (sk' := []) (h' := h1) rfl ?_
                                  exact ih55 _ (z + 1) (by omega) (by omega) (fun a z1 z2 => (f1 a z1 z2).trans (hfz a z1 z2)) (fun q0 z1 z2 => by
                                    by_cases z9 : q0 = (x + 9) * 361 + (y + 9) * 19 + (z + 9)
                                    · rw [z9]; exact dd
                                    · exact hnz q0 z1 (by omega)) (by omega)
                                · rw [c_eq (by first | exact ua | exact ub) (by first | exact ua | exact ub)] at c69
                                  simp only [decide_eq_true_eq, decide_eq_false_iff_not, Decidable.not_not] at c69
                                  show xEx G0 cdX12_apart (some .int) (xRn G0 MT (d + 5)) Q b 70 [some (.inr (.inr 66)), some (.inl k), some (.inl i), some (.inl 9), some (.inl 9), some (.inl x), some (.inl y), some (.inl z)] [] h1
                                  have ddp : (daE as le S T 3 k) ((x + 9) * 361 + (y + 9) * 19 + (z + 9)) := by
                                    show ¬ _ = _
                                    rw [pt_3 (by omega) (by omega) (by omega)]
                                    intro z9
                                    exact c69 (z9.trans g1.symm)
                                  refine E_s 1 (i' := 71) (ls' := [some (.inr (.inr 66)), some (.inl k), some (.inl i), some (.inl 9), some (.inl 9), some (.inl x), some (.inl y), some (.inl z)]) (sk' := [.inl i]) (h' := h1) rfl ?_
                                  refine E_b (x := (.ifCond .ne 8, 74, [], [])) rfl rfl (fun c71 => ?_) (fun c71 => ?_)
                                  · rw [c_ne (by first | assumption | (refine ⟨?_, ?_⟩ <;> omega) | (simp only [xr] at *; omega)) (by first | assumption | (refine ⟨?_, ?_⟩ <;> omega) | (simp only [xr] at *; omega))] at c71
                                    simp only [decide_eq_true_eq, decide_eq_false_iff_not, Decidable.not_not] at c71
                                    show xEx G0 cdX12_apart (some .int) (xRn G0 MT (d + 5)) Q b 74 [some (.inr (.inr 66)), some (.inl k), some (.inl i), some (.inl 9), some (.inl 9), some (.inl x), some (.inl y), some (.inl z)] [] h1
                                    refine E_s 2 (i' := 76) (ls' := [some (.inr (.inr 66)), some (.inl k), some (.inl i), some (.inl 9), some (.inl 9), some (.inl x), some (.inl y), some (.inl z)]) (sk' := [.inl 1, .inl i]) (h' := h1) rfl ?_
                                    refine E_b (x := (.if_icmp .ne 8, 79, [], [])) rfl rfl (fun c76 => ?_) (fun c76 => ?_)
                                    · rw [c_ne (by first | assumption | (refine ⟨?_, ?_⟩ <;> omega) | (simp only [xr] at *; omega)) (by first | assumption | (refine ⟨?_, ?_⟩ <;> omega) | (simp only [xr] at *; omega))] at c76
                                      simp only [decide_eq_true_eq, decide_eq_false_iff_not, Decidable.not_not] at c76
                                      show xEx G0 cdX12_apart (some .int) (xRn G0 MT (d + 5)) Q b 79 [some (.inr (.inr 66)), some (.inl k), some (.inl i), some (.inl 9), some (.inl 9), some (.inl x), some (.inl y), some (.inl z)] [] h1
                                      refine E_s 1 (i' := 80) (ls' := [some (.inr (.inr 66)), some (.inl k), some (.inl i), some (.inl 9), some (.inl 9), some (.inl x), some (.inl y), some (.inl z)]) (sk' := [.inl z]) (h' := h1) rfl ?_
                                      exact E_ret (x := (.ireturn, 0, [], [])) (v := some (.inl z)) rfl (Or.inl rfl) (by
                                        have r9 := hF9 qs ⟨qk, qi⟩ ((x + 9) * 361 + (y + 9) * 19 + (z + 9)) (by omega) (by simp [ptN]; omega) ddp hnz _ (fun a z1 z2 => (f1 a z1 z2).trans (hfz a z1 z2))
                                        rw [pt_3 (by omega) (by omega) (by omega)] at r9
                                        have e9 : pX x y z i = z := by unfold pX; rw [if_neg (by omega), if_neg (by omega)]
                                        rw [e9] at r9
                                        exact r9)
                                    · rw [c_ne (by first | assumption | (refine ⟨?_, ?_⟩ <;> omega) | (simp only [xr] at *; omega)) (by first | assumption | (refine ⟨?_, ?_⟩ <;> omega) | (simp only [xr] at *; omega))] at c76
                                      simp only [decide_eq_true_eq, decide_eq_false_iff_not, Decidable.not_not] at c76
                                      show xEx G0 cdX12_apart (some .int) (xRn G0 MT (d + 5)) Q b 77 [some (.inr (.inr 66)), some (.inl k), some (.inl i), some (.inl 9), some (.inl 9), some (.inl x), some (.inl y), some (.inl z)] [] h1
                                      refine E_s 2 (i' := 80) (ls' := [some (.inr (.inr 66)), some (.inl k), some (.inl i), some (.inl 9), some (.inl 9), some (.inl x), some (.inl y), some (.inl z)]) (sk' := [.inl y]) (h' := h1) rfl ?_
                                      exact E_ret (x := (.ireturn, 0, [], [])) (v := some (.inl y)) rfl (Or.inl rfl) (by
                                        have r9 := hF9 qs ⟨qk, qi⟩ ((x + 9) * 361 + (y + 9) * 19 + (z + 9)) (by omega) (by simp [ptN]; omega) ddp hnz _ (fun a z1 z2 => (f1 a z1 z2).trans (hfz a z1 z2))
                                        rw [pt_3 (by omega) (by omega) (by omega)] at r9
                                        have e9 : pX x y z i = y := by unfold pX; rw [if_neg (by omega), if_pos (by omega)]
                                        rw [e9] at r9
                                        exact r9)
                                  · rw [c_ne (by first | assumption | (refine ⟨?_, ?_⟩ <;> omega) | (simp only [xr] at *; omega)) (by first | assumption | (refine ⟨?_, ?_⟩ <;> omega) | (simp only [xr] at *; omega))] at c71
                                    simp only [decide_eq_true_eq, decide_eq_false_iff_not, Decidable.not_not] at c71
                                    show xEx G0 cdX12_apart (some .int) (xRn G0 MT (d + 5)) Q b 72 [some (.inr (.inr 66)), some (.inl k), some (.inl i), some (.inl 9), some (.inl 9), some (.inl x), some (.inl y), some (.inl z)] [] h1
                                    refine E_s 2 (i' := 80) (ls' := [some (.inr (.inr 66)), some (.inl k), some (.inl i), some (.inl 9), some (.inl 9), some (.inl x), some (.inl y), some (.inl z)]) (sk' := [.inl x]) (h' := h1) rfl ?_
                                    exact E_ret (x := (.ireturn, 0, [], [])) (v := some (.inl x)) rfl (Or.inl rfl) (by
                                      have r9 := hF9 qs ⟨qk, qi⟩ ((x + 9) * 361 + (y + 9) * 19 + (z + 9)) (by omega) (by simp [ptN]; omega) ddp hnz _ (fun a z1 z2 => (f1 a z1 z2).trans (hfz a z1 z2))
                                      rw [pt_3 (by omega) (by omega) (by omega)] at r9
                                      have e9 : pX x y z i = x := by unfold pX; rw [if_pos (by omega)]
                                      rw [e9] at r9
                                      exact r9)
                          exact key55 _ _ (-9) (by omega) (by omega) hfy (fun q0 z1 z2 => hny q0 z1 (by omega)) (Nat.lt_succ_self _)
                    exact key49 _ _ (-9) _ (by omega) (by omega) hfx (fun q0 z1 z2 => hnx q0 z1 (by omega)) (Nat.lt_succ_self _)
              exact key43 _ _ (-9) none none (by omega) (by omega) (fun _ _ _ => rfl) (fun q0 z1 z2 => by omega) (Nat.lt_succ_self _)
        · show xEx G0 cdX12_apart (some .int) (xRn G0 MT (d + 5)) Q b 23 [some (.inr (.inr 66)), some (.inl k), some (.inl i), none, none, none, none, none] [] (xup h 66 0 0)
          exact absurd c22 (by decide)
      · rw [c_ne (by first | assumption | (refine ⟨?_, ?_⟩ <;> omega) | (simp only [xr] at *; omega)) (by first | assumption | (refine ⟨?_, ?_⟩ <;> omega) | (simp only [xr] at *; omega))] at c15
        simp only [decide_eq_true_eq, decide_eq_false_iff_not, Decidable.not_not] at c15
        show xEx G0 cdX12_apart (some .int) (xRn G0 MT (d + 5)) Q b 16 [some (.inr (.inr 66)), some (.inl k), some (.inl i), none, none, none, none, none] [.inr (.inr 66)] h
        refine E_s 5 (i' := 22) (ls' := [some (.inr (.inr 66)), some (.inl k), some (.inl i), none, none, none, none, none]) (sk' := [.inl 2]) (h' := (xup h 66 0 2)) rfl ?_
        refine E_b (x := (.ifCond .le 5, 25, [], [])) rfl rfl (fun c22 => ?_) (fun c22 => ?_)
        · show xEx G0 cdX12_apart (some .int) (xRn G0 MT (d + 5)) Q b 25 [some (.inr (.inr 66)), some (.inl k), some (.inl i), none, none, none, none, none] [] (xup h 66 0 2)
          exact absurd c22 (by decide)
        · show xEx G0 cdX12_apart (some .int) (xRn G0 MT (d + 5)) Q b 23 [some (.inr (.inr 66)), some (.inl k), some (.inl i), none, none, none, none, none] [] (xup h 66 0 2)
          refine E_s 1 (i' := 24) (ls' := [some (.inr (.inr 66)), some (.inl k), some (.inl i), none, none, none, none, none]) (sk' := [.inl 0]) (h' := (xup h 66 0 2)) rfl ?_
          exact E_ret (x := (.ireturn, 0, [], [])) (v := some (.inl 0)) rfl (Or.inl rfl) (hA (by omega) (fun y => by
            first
            | exact (o0 q1 c10) y.1
            | exact (o0 q2 c15) y.2))
  · rw [c_ne (by first | assumption | (refine ⟨?_, ?_⟩ <;> omega) | (simp only [xr] at *; omega)) (by first | assumption | (refine ⟨?_, ?_⟩ <;> omega) | (simp only [xr] at *; omega))] at c3
    simp only [decide_eq_true_eq, decide_eq_false_iff_not, Decidable.not_not] at c3
    show xEx G0 cdX12_apart (some .int) (xRn G0 MT (d + 5)) Q b 4 [some (.inr (.inr 66)), some (.inl k), some (.inl i), none, none, none, none, none] [.inr (.inr 66)] h
    refine E_s 5 (i' := 22) (ls' := [some (.inr (.inr 66)), some (.inl k), some (.inl i), none, none, none, none, none]) (sk' := [.inl 1]) (h' := (xup h 66 0 1)) rfl ?_
    refine E_b (x := (.ifCond .le 5, 25, [], [])) rfl rfl (fun c22 => ?_) (fun c22 => ?_)
    · show xEx G0 cdX12_apart (some .int) (xRn G0 MT (d + 5)) Q b 25 [some (.inr (.inr 66)), some (.inl k), some (.inl i), none, none, none, none, none] [] (xup h 66 0 1)
      exact absurd c22 (by decide)
    · show xEx G0 cdX12_apart (some .int) (xRn G0 MT (d + 5)) Q b 23 [some (.inr (.inr 66)), some (.inl k), some (.inl i), none, none, none, none, none] [] (xup h 66 0 1)
      refine E_s 1 (i' := 24) (ls' := [some (.inr (.inr 66)), some (.inl k), some (.inl i), none, none, none, none, none]) (sk' := [.inl 0]) (h' := (xup h 66 0 1)) rfl ?_
      exact E_ret (x := (.ireturn, 0, [], [])) (v := some (.inl 0)) rfl (Or.inl rfl) (hN (fun z9 => by omega))
