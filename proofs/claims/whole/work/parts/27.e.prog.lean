set_option maxHeartbeats 1000000 in
theorem m_innermost (d b : Nat) (h : xH) (nn : Int) (hn : 1 ≤ nn ∧ nn < 8) {Q : xO → xH → Prop} (hQ : ∀ r, r + 1 = lvN (nn - 1) → Q (.inl (some (.inl (r)))) h) : xRn G0 MT (d + 1) b 239 [.inr (.inr 66), .inl nn] h Q := by
  refine R_of (M := mX12_innermost) rfl (Nat.le_of_ble_eq_true rfl) ?_
  show xEx G0 cdX12_innermost (some .int) (xRn G0 MT d) Q b 0 [some (.inr (.inr 66)), some (.inl nn)] [] h
  refine E_s 2 (i' := 2) (ls' := [some (.inr (.inr 66)), some (.inl nn)]) (sk' := [.inl 2, .inl nn]) (h' := h) rfl ?_
  refine E_b (x := (.if_icmp .ge 7, 5, [], [])) rfl rfl (fun c2 => ?_) (fun c2 => ?_)
  · rw [c_ge (by first | assumption | (refine ⟨?_, ?_⟩ <;> omega) | (simp only [xr] at *; omega)) (by first | assumption | (refine ⟨?_, ?_⟩ <;> omega) | (simp only [xr] at *; omega))] at c2
    simp only [decide_eq_true_eq, decide_eq_false_iff_not, Decidable.not_not] at c2
    show xEx G0 cdX12_innermost (some .int) (xRn G0 MT d) Q b 5 [some (.inr (.inr 66)), some (.inl nn)] [] h
    refine E_s 2 (i' := 7) (ls' := [some (.inr (.inr 66)), some (.inl nn)]) (sk' := [.inl 4, .inl nn]) (h' := h) rfl ?_
    refine E_b (x := (.if_icmp .ge 7, 10, [], [])) rfl rfl (fun c7 => ?_) (fun c7 => ?_)
    · rw [c_ge (by first | assumption | (refine ⟨?_, ?_⟩ <;> omega) | (simp only [xr] at *; omega)) (by first | assumption | (refine ⟨?_, ?_⟩ <;> omega) | (simp only [xr] at *; omega))] at c7
      simp only [decide_eq_true_eq, decide_eq_false_iff_not, Decidable.not_not] at c7
      show xEx G0 cdX12_innermost (some .int) (xRn G0 MT d) Q b 10 [some (.inr (.inr 66)), some (.inl nn)] [] h
      refine E_s 2 (i' := 12) (ls' := [some (.inr (.inr 66)), some (.inl nn)]) (sk' := [.inl 8, .inl nn]) (h' := h) rfl ?_
      refine E_b (x := (.if_icmp .ge 7, 15, [], [])) rfl rfl (fun c12 => ?_) (fun c12 => ?_)
      · rw [c_ge (by first | assumption | (refine ⟨?_, ?_⟩ <;> omega) | (simp only [xr] at *; omega)) (by first | assumption | (refine ⟨?_, ?_⟩ <;> omega) | (simp only [xr] at *; omega))] at c12
        simp only [decide_eq_true_eq, decide_eq_false_iff_not, Decidable.not_not] at c12
        show xEx G0 cdX12_innermost (some .int) (xRn G0 MT d) Q b 15 [some (.inr (.inr 66)), some (.inl nn)] [] h
        refine E_s 1 (i' := 16) (ls' := [some (.inr (.inr 66)), some (.inl nn)]) (sk' := [.inl 3]) (h' := h) rfl ?_
        exact E_ret (x := (.ireturn, 0, [], [])) (v := some (.inl 3)) rfl (Or.inl rfl) (hQ _ (by unfold lvN; omega))
      · rw [c_ge (by first | assumption | (refine ⟨?_, ?_⟩ <;> omega) | (simp only [xr] at *; omega)) (by first | assumption | (refine ⟨?_, ?_⟩ <;> omega) | (simp only [xr] at *; omega))] at c12
        simp only [decide_eq_true_eq, decide_eq_false_iff_not, Decidable.not_not] at c12
        show xEx G0 cdX12_innermost (some .int) (xRn G0 MT d) Q b 13 [some (.inr (.inr 66)), some (.inl nn)] [] h
        refine E_s 2 (i' := 16) (ls' := [some (.inr (.inr 66)), some (.inl nn)]) (sk' := [.inl 2]) (h' := h) rfl ?_
        exact E_ret (x := (.ireturn, 0, [], [])) (v := some (.inl 2)) rfl (Or.inl rfl) (hQ _ (by unfold lvN; rw [if_neg (by omega), if_neg (by omega)]; rfl))
    · rw [c_ge (by first | assumption | (refine ⟨?_, ?_⟩ <;> omega) | (simp only [xr] at *; omega)) (by first | assumption | (refine ⟨?_, ?_⟩ <;> omega) | (simp only [xr] at *; omega))] at c7
      simp only [decide_eq_true_eq, decide_eq_false_iff_not, Decidable.not_not] at c7
      show xEx G0 cdX12_innermost (some .int) (xRn G0 MT d) Q b 8 [some (.inr (.inr 66)), some (.inl nn)] [] h
      refine E_s 2 (i' := 16) (ls' := [some (.inr (.inr 66)), some (.inl nn)]) (sk' := [.inl 1]) (h' := h) rfl ?_
      exact E_ret (x := (.ireturn, 0, [], [])) (v := some (.inl 1)) rfl (Or.inl rfl) (hQ _ (by unfold lvN; rw [if_neg (by omega), if_pos (by omega)]; rfl))
  · rw [c_ge (by first | assumption | (refine ⟨?_, ?_⟩ <;> omega) | (simp only [xr] at *; omega)) (by first | assumption | (refine ⟨?_, ?_⟩ <;> omega) | (simp only [xr] at *; omega))] at c2
    simp only [decide_eq_true_eq, decide_eq_false_iff_not, Decidable.not_not] at c2
    show xEx G0 cdX12_innermost (some .int) (xRn G0 MT d) Q b 3 [some (.inr (.inr 66)), some (.inl nn)] [] h
    refine E_s 2 (i' := 16) (ls' := [some (.inr (.inr 66)), some (.inl nn)]) (sk' := [.inl 0]) (h' := h) rfl ?_
    exact E_ret (x := (.ireturn, 0, [], [])) (v := some (.inl 0)) rfl (Or.inl rfl) (hQ _ (by unfold lvN; rw [if_pos (by omega)]; rfl))
def slv (w r v0 v1 v2 v3 v4 v5 : Int) : Prop := (w = 0 ∧ r = v0) ∨ (w = 1 ∧ r = v1) ∨ (w = 2 ∧ r = v2) ∨ (w = 3 ∧ r = v3) ∨ (w = 4 ∧ r = v4) ∨ (w = 5 ∧ r = v5)
set_option maxHeartbeats 1000000 in
theorem m_solved (d b : Nat) (h S T : xH) (as le : Int → Int) (w : Int) (hw : xr w) (hS3 : S 0 0 ≤ 300) (hT4 : T 0 0 ≤ 150) (hs : h 66 50 = 0 ∨ h 66 50 = 1) (tn : h 66 50 = 1 → TN h as le) (hr : h 66 50 = 1 → ∀ nd, 0 ≤ nd → nd < 15 → -1 ≤ as nd ∧ as nd < T 0 0 ∧ -1 ≤ le nd ∧ le nd < S 0 0) (tr : h 66 50 = 1 → TRp as le S T 3 0) (h7 : h 66 50 = 1 → ∀ nd, 0 ≤ nd → nd < 15 → 7 ≤ nd → as nd = -1) {Q : xO → xH → Prop} (hN : ¬ (h 66 50 = 1) → Q (.inl (some (.inl (0)))) (xup h 66 0 1)) (hA : (h 66 50 = 1) → ¬ (0 ≤ w ∧ w ≤ 5) → Q (.inl (some (.inl (0)))) (xup h 66 0 2)) (hW : (h 66 50 = 1) → ∀ r, slv w r (h 66 60) (cN (ifN as) 15) (dpN as 15) (cN (lfN le) 15) (as 0) (le 0) → Q (.inl (some (.inl (r)))) (xup h 66 0 0)) : xRn G0 MT (d + 4) b 240 [.inr (.inr 66), .inl w] h Q := by
  refine R_of (M := mX12_solved) rfl (Nat.le_of_ble_eq_true rfl) ?_
  show xEx G0 cdX12_solved (some .int) (xRn G0 MT (d + 3)) Q b 0 [some (.inr (.inr 66)), some (.inl w), none, none, none, none, none, none] [] h
  refine E_s 3 (i' := 3) (ls' := [some (.inr (.inr 66)), some (.inl w), none, none, none, none, none, none]) (sk' := [.inl (h 66 50), .inr (.inr 66)]) (h' := h) rfl ?_
  refine E_b (x := (.ifCond .ne 7, 6, [], [])) rfl rfl (fun c3 => ?_) (fun c3 => ?_)
  · rw [c_ne (by first | assumption | (refine ⟨?_, ?_⟩ <;> omega) | (simp only [xr] at *; omega)) (by first | assumption | (refine ⟨?_, ?_⟩ <;> omega) | (simp only [xr] at *; omega))] at c3
    simp only [decide_eq_true_eq, decide_eq_false_iff_not, Decidable.not_not] at c3
    show xEx G0 cdX12_solved (some .int) (xRn G0 MT (d + 3)) Q b 6 [some (.inr (.inr 66)), some (.inl w), none, none, none, none, none, none] [.inr (.inr 66)] h
    refine E_s 3 (i' := 9) (ls' := [some (.inr (.inr 66)), some (.inl w), none, none, none, none, none, none]) (sk' := [.inl 5, .inl 0, .inl w, .inr (.inr 66)]) (h' := h) rfl ?_
    refine E_cp (x := (.invokestatic 180, 3, [(0, 155)], [])) (q := fun r2 h9 => ((r2 = 1 ∧ (0 ≤ w ∧ w ≤ 5)) ∨ (r2 = 0 ∧ ¬ (0 ≤ w ∧ w ≤ 5))) ∧ h = h9) rfl rfl (Nat.le_of_ble_eq_true rfl) (m_isIn (d + 2) 0 (h) w 0 5 hw ⟨by omega, by omega⟩ ⟨by omega, by omega⟩ (fun z => ⟨_, rfl, Or.inl ⟨rfl, z⟩, rfl⟩) (fun z => ⟨_, rfl, Or.inr ⟨rfl, z⟩, rfl⟩)) (fun r2 h9 q2 => ?_)
    obtain ⟨q2, rfl⟩ := q2
    show xEx G0 cdX12_solved (some .int) (xRn G0 MT (d + 3)) Q b 10 [some (.inr (.inr 66)), some (.inl w), none, none, none, none, none, none] [.inl r2, .inr (.inr 66)] h
    refine E_b (x := (.ifCond .ne 7, 13, [], [])) rfl rfl (fun c10 => ?_) (fun c10 => ?_)
    · rw [c_ne (by first | assumption | (refine ⟨?_, ?_⟩ <;> omega) | (simp only [xr] at *; omega)) (by first | assumption | (refine ⟨?_, ?_⟩ <;> omega) | (simp only [xr] at *; omega))] at c10
      simp only [decide_eq_true_eq, decide_eq_false_iff_not, Decidable.not_not] at c10
      show xEx G0 cdX12_solved (some .int) (xRn G0 MT (d + 3)) Q b 13 [some (.inr (.inr 66)), some (.inl w), none, none, none, none, none, none] [.inr (.inr 66)] h
      refine E_s 4 (i' := 17) (ls' := [some (.inr (.inr 66)), some (.inl w), none, none, none, none, none, none]) (sk' := [.inl 0]) (h' := (xup h 66 0 0)) rfl ?_
      refine E_b (x := (.ifCond .le 5, 20, [], [])) rfl rfl (fun c17 => ?_) (fun c17 => ?_)
      · show xEx G0 cdX12_solved (some .int) (xRn G0 MT (d + 3)) Q b 20 [some (.inr (.inr 66)), some (.inl w), none, none, none, none, none, none] [] (xup h 66 0 0)
        have qs : h 66 50 = 1 := by omega
        refine E_s 8 (i' := 28) (ls' := [some (.inr (.inr 66)), some (.inl w), some (.inl 0), some (.inl 0), some (.inl 0), some (.inl 1), none, none]) (sk' := []) (h' := (xup h 66 0 0)) rfl ?_
        have key28 : ∀ (n : Nat) (nn wi wd wu : Int) (v6 v7 : Option xV), (1 ≤ nn) → (nn ≤ 16) → (wi = cN (ifN as) (nn - 1).toNat) → (wd = dpN as (nn - 1).toNat) → (wu = cN (lfN le) (nn - 1).toNat) → ((16 - nn).toNat) < n → xEx G0 cdX12_solved (some .int) (xRn G0 MT (d + 3)) Q b 28 [some (.inr (.inr 66)), some (.inl w), some (.inl wi), some (.inl wd), some (.inl wu), some (.inl nn), v6, v7] [] (xup h 66 0 0) := by
          intro n
          induction n with
          | zero => intro nn wi wd wu v6 v7 _ _ _ _ _ hm; exact absurd hm (Nat.not_lt_zero _)
          | succ n ih28 =>
            intro nn wi wd wu v6 v7 hn0 hn9 hwi hwd hwu hm28
            refine E_s 2 (i' := 30) (ls' := [some (.inr (.inr 66)), some (.inl w), some (.inl wi), some (.inl wd), some (.inl wu), some (.inl nn), v6, v7]) (sk' := [.inl 16, .inl nn]) (h' := (xup h 66 0 0)) rfl ?_
            refine E_b (x := (.if_icmp .ge 125, 94, [], [])) rfl rfl (fun c30 => ?_) (fun c30 => ?_)
            · rw [c_ge (by first | assumption | (refine ⟨?_, ?_⟩ <;> omega) | (simp only [xr] at *; omega)) (by first | assumption | (refine ⟨?_, ?_⟩ <;> omega) | (simp only [xr] at *; omega))] at c30
              simp only [decide_eq_true_eq, decide_eq_false_iff_not, Decidable.not_not] at c30
              show xEx G0 cdX12_solved (some .int) (xRn G0 MT (d + 3)) Q b 94 [some (.inr (.inr 66)), some (.inl w), some (.inl wi), some (.inl wd), some (.inl wu), some (.inl nn), v6, v7] [] (xup h 66 0 0)
              have e15 : (nn - 1).toNat = 15 := by omega
              rw [e15] at hwi hwd hwu
              refine E_s 1 (i' := 95) (ls' := [some (.inr (.inr 66)), some (.inl w), some (.inl wi), some (.inl wd), some (.inl wu), some (.inl nn), v6, v7]) (sk' := [.inl w]) (h' := (xup h 66 0 0)) rfl ?_
              by_cases s95_0 : w = 0
              · refine E_sw (x := (.tableswitch 53 0 4 #[34, 39, 41, 43, 46], 110, [(0, 96), (1, 99), (2, 101), (3, 103), (4, 105)], [])) (t := 96) rfl rfl (by rw [s95_0]; decide +kernel) ?_
                show xEx G0 cdX12_solved (some .int) (xRn G0 MT (d + 3)) Q b 96 [some (.inr (.inr 66)), some (.inl w), some (.inl wi), some (.inl wd), some (.inl wu), some (.inl nn), v6, v7] [] (xup h 66 0 0)
                refine E_s 2 (i' := 98) (ls' := [some (.inr (.inr 66)), some (.inl w), some (.inl wi), some (.inl wd), some (.inl wu), some (.inl nn), v6, v7]) (sk' := [.inl (h 66 60)]) (h' := (xup h 66 0 0)) rfl ?_
                exact E_ret (x := (.ireturn, 0, [], [])) (v := some (.inl (h 66 60))) rfl (Or.inl rfl) (hW qs _ (Or.inl ⟨s95_0, rfl⟩))
              · by_cases s95_1 : w = 1
                · refine E_sw (x := (.tableswitch 53 0 4 #[34, 39, 41, 43, 46], 110, [(0, 96), (1, 99), (2, 101), (3, 103), (4, 105)], [])) (t := 99) rfl rfl (by rw [s95_1]; decide +kernel) ?_
                  show xEx G0 cdX12_solved (some .int) (xRn G0 MT (d + 3)) Q b 99 [some (.inr (.inr 66)), some (.inl w), some (.inl wi), some (.inl wd), some (.inl wu), some (.inl nn), v6, v7] [] (xup h 66 0 0)
                  refine E_s 1 (i' := 100) (ls' := [some (.inr (.inr 66)), some (.inl w), some (.inl wi), some (.inl wd), some (.inl wu), some (.inl nn), v6, v7]) (sk' := [.inl wi]) (h' := (xup h 66 0 0)) rfl ?_
                  exact E_ret (x := (.ireturn, 0, [], [])) (v := some (.inl wi)) rfl (Or.inl rfl) (hW qs _ (Or.inr (Or.inl ⟨s95_1, hwi⟩)))
                · by_cases s95_2 : w = 2
                  · refine E_sw (x := (.tableswitch 53 0 4 #[34, 39, 41, 43, 46], 110, [(0, 96), (1, 99), (2, 101), (3, 103), (4, 105)], [])) (t := 101) rfl rfl (by rw [s95_2]; decide +kernel) ?_
                    show xEx G0 cdX12_solved (some .int) (xRn G0 MT (d + 3)) Q b 101 [some (.inr (.inr 66)), some (.inl w), some (.inl wi), some (.inl wd), some (.inl wu), some (.inl nn), v6, v7] [] (xup h 66 0 0)
                    refine E_s 1 (i' := 102) (ls' := [some (.inr (.inr 66)), some (.inl w), some (.inl wi), some (.inl wd), some (.inl wu), some (.inl nn), v6, v7]) (sk' := [.inl wd]) (h' := (xup h 66 0 0)) rfl ?_
                    exact E_ret (x := (.ireturn, 0, [], [])) (v := some (.inl wd)) rfl (Or.inl rfl) (hW qs _ (Or.inr (Or.inr (Or.inl ⟨s95_2, hwd⟩))))
                  · by_cases s95_3 : w = 3
                    · refine E_sw (x := (.tableswitch 53 0 4 #[34, 39, 41, 43, 46], 110, [(0, 96), (1, 99), (2, 101), (3, 103), (4, 105)], [])) (t := 103) rfl rfl (by rw [s95_3]; decide +kernel) ?_
                      show xEx G0 cdX12_solved (some .int) (xRn G0 MT (d + 3)) Q b 103 [some (.inr (.inr 66)), some (.inl w), some (.inl wi), some (.inl wd), some (.inl wu), some (.inl nn), v6, v7] [] (xup h 66 0 0)
                      refine E_s 1 (i' := 104) (ls' := [some (.inr (.inr 66)), some (.inl w), some (.inl wi), some (.inl wd), some (.inl wu), some (.inl nn), v6, v7]) (sk' := [.inl wu]) (h' := (xup h 66 0 0)) rfl ?_
                      exact E_ret (x := (.ireturn, 0, [], [])) (v := some (.inl wu)) rfl (Or.inl rfl) (hW qs _ (Or.inr (Or.inr (Or.inr (Or.inl ⟨s95_3, hwu⟩)))))
                    · by_cases s95_4 : w = 4
                      · refine E_sw (x := (.tableswitch 53 0 4 #[34, 39, 41, 43, 46], 110, [(0, 96), (1, 99), (2, 101), (3, 103), (4, 105)], [])) (t := 105) rfl rfl (by rw [s95_4]; decide +kernel) ?_
                        show xEx G0 cdX12_solved (some .int) (xRn G0 MT (d + 3)) Q b 105 [some (.inr (.inr 66)), some (.inl w), some (.inl wi), some (.inl wd), some (.inl wu), some (.inl nn), v6, v7] [] (xup h 66 0 0)
                        refine E_s 3 (i' := 108) (ls' := [some (.inr (.inr 66)), some (.inl w), some (.inl wi), some (.inl wd), some (.inl wu), some (.inl nn), v6, v7]) (sk' := [.inl 1, .inr (.inr 105)]) (h' := (xup h 66 0 0)) rfl ?_
                        refine E_ld (x := (.iaload, 0, [], [])) (ty := .int) (n := 32) rfl rfl rfl (by omega) (by omega) ?_
                        show xEx G0 cdX12_solved (some .int) (xRn G0 MT (d + 3)) Q b 109 [some (.inr (.inr 66)), some (.inl w), some (.inl wi), some (.inl wd), some (.inl wu), some (.inl nn), v6, v7] [.inl (h 105 1)] (xup h 66 0 0)
                        exact E_ret (x := (.ireturn, 0, [], [])) (v := some (.inl (h 105 1))) rfl (Or.inl rfl) (hW qs _ (Or.inr (Or.inr (Or.inr (Or.inr (Or.inl ⟨s95_4, (tn qs 1 (by omega) (by omega)).1⟩))))))
                      · refine E_sw (x := (.tableswitch 53 0 4 #[34, 39, 41, 43, 46], 110, [(0, 96), (1, 99), (2, 101), (3, 103), (4, 105)], [])) (t := 110) rfl rfl (by rw [w32_id hw]; simp only [xsw]; rw [if_neg (by omega)]; rw [if_neg (by omega)]; rw [if_neg (by omega)]; rw [if_neg (by omega)]; rw [if_neg (by omega)]; rfl) ?_
                        show xEx G0 cdX12_solved (some .int) (xRn G0 MT (d + 3)) Q b 110 [some (.inr (.inr 66)), some (.inl w), some (.inl wi), some (.inl wd), some (.inl wu), some (.inl nn), v6, v7] [] (xup h 66 0 0)
                        refine E_s 3 (i' := 113) (ls' := [some (.inr (.inr 66)), some (.inl w), some (.inl wi), some (.inl wd), some (.inl wu), some (.inl nn), v6, v7]) (sk' := [.inl 1, .inr (.inr 106)]) (h' := (xup h 66 0 0)) rfl ?_
                        refine E_ld (x := (.iaload, 0, [], [])) (ty := .int) (n := 32) rfl rfl rfl (by omega) (by omega) ?_
                        show xEx G0 cdX12_solved (some .int) (xRn G0 MT (d + 3)) Q b 114 [some (.inr (.inr 66)), some (.inl w), some (.inl wi), some (.inl wd), some (.inl wu), some (.inl nn), v6, v7] [.inl (h 106 1)] (xup h 66 0 0)
                        exact E_ret (x := (.ireturn, 0, [], [])) (v := some (.inl (h 106 1))) rfl (Or.inl rfl) (hW qs _ (Or.inr (Or.inr (Or.inr (Or.inr (Or.inr ⟨(by omega), (tn qs 1 (by omega) (by omega)).2⟩))))))
            · rw [c_ge (by first | assumption | (refine ⟨?_, ?_⟩ <;> omega) | (simp only [xr] at *; omega)) (by first | assumption | (refine ⟨?_, ?_⟩ <;> omega) | (simp only [xr] at *; omega))] at c30
              simp only [decide_eq_true_eq, decide_eq_false_iff_not, Decidable.not_not] at c30
              show xEx G0 cdX12_solved (some .int) (xRn G0 MT (d + 3)) Q b 31 [some (.inr (.inr 66)), some (.inl w), some (.inl wi), some (.inl wd), some (.inl wu), some (.inl nn), v6, v7] [] (xup h 66 0 0)
              obtain ⟨g1, g2⟩ := tn qs nn hn0 (by omega)
              have hrn := hr qs (nn - 1) (by omega) (by omega)
              have dr := dpN_r as (nn - 1).toNat
              rw [Int.toNat_of_nonneg (show 0 ≤ nn - 1 by omega)] at dr
              have lr := lvN_m (nn - 1) (by omega)
              refine E_s 1 (i' := 32) (ls' := [some (.inr (.inr 66)), some (.inl w), some (.inl wi), some (.inl wd), some (.inl wu), some (.inl nn), v6, v7]) (sk' := [.inr (.inr 66)]) (h' := (xup h 66 0 0)) rfl ?_
              have cut53 : ∀ (wi2 wd2 : Int), (wi2 = cN (ifN as) (nn - 1 + 1).toNat) → (wd2 = dpN as (nn - 1 + 1).toNat) → xEx G0 cdX12_solved (some .int) (xRn G0 MT (d + 3)) Q b 53 [some (.inr (.inr 66)), some (.inl w), some (.inl wi2), some (.inl wd2), some (.inl wu), some (.inl nn), v6, v7] [] (xup h 66 0 0) := by
                intro wi2 wd2 hwi2 hwd2
                refine E_s 3 (i' := 56) (ls' := [some (.inr (.inr 66)), some (.inl w), some (.inl wi2), some (.inl wd2), some (.inl wu), some (.inl nn), v6, v7]) (sk' := [.inl nn, .inr (.inr 106)]) (h' := (xup h 66 0 0)) rfl ?_
                refine E_ld (x := (.iaload, 0, [], [])) (ty := .int) (n := 32) rfl rfl rfl (by omega) (by omega) ?_
                show xEx G0 cdX12_solved (some .int) (xRn G0 MT (d + 3)) Q b 57 [some (.inr (.inr 66)), some (.inl w), some (.inl wi2), some (.inl wd2), some (.inl wu), some (.inl nn), v6, v7] [.inl (h 106 nn)] (xup h 66 0 0)
                refine E_s 1 (i' := 58) (ls' := [some (.inr (.inr 66)), some (.inl w), some (.inl wi2), some (.inl wd2), some (.inl wu), some (.inl nn), v6, v7]) (sk' := [.inl (-1), .inl (h 106 nn)]) (h' := (xup h 66 0 0)) rfl ?_
                refine E_b (x := (.if_icmp .ne 6, 60, [], [])) rfl rfl (fun c58 => ?_) (fun c58 => ?_)
                · rw [c_ne (by first | assumption | (refine ⟨?_, ?_⟩ <;> omega) | (simp only [xr] at *; omega)) (by first | assumption | (refine ⟨?_, ?_⟩ <;> omega) | (simp only [xr] at *; omega))] at c58
                  simp only [decide_eq_true_eq, decide_eq_false_iff_not, Decidable.not_not] at c58
                  show xEx G0 cdX12_solved (some .int) (xRn G0 MT (d + 3)) Q b 60 [some (.inr (.inr 66)), some (.inl w), some (.inl wi2), some (.inl wd2), some (.inl wu), some (.inl nn), v6, v7] [] (xup h 66 0 0)
                  have b1 : ¬ le (nn - 1) = -1 := by rw [← g2]; exact c58
                  refine E_s 4 (i' := 64) (ls' := [some (.inr (.inr 66)), some (.inl w), some (.inl wi2), some (.inl wd2), some (.inl wu), some (.inl nn), some (.inl 1), some (.inl 1)]) (sk' := []) (h' := (xup h 66 0 0)) rfl ?_
                  have key64 : ∀ (n : Nat) (mm ii : Int), (1 ≤ mm) → (mm ≤ nn) → (ii = 0 ∨ ii = 1) → ((ii = 1 ∧ NA le mm (nn - 1)) ∨ (ii = 0 ∧ ¬ NA le mm (nn - 1))) → ((nn - mm).toNat) < n → xEx G0 cdX12_solved (some .int) (xRn G0 MT (d + 3)) Q b 64 [some (.inr (.inr 66)), some (.inl w), some (.inl wi2), some (.inl wd2), some (.inl wu), some (.inl nn), some (.inl ii), some (.inl mm)] [] (xup h 66 0 0) := by
                    intro n
                    induction n with
                    | zero => intro mm ii _ _ _ _ hm; exact absurd hm (Nat.not_lt_zero _)
                    | succ n ih64 =>
                      intro mm ii hm0 hm9 hii hna hm64
                      refine E_s 2 (i' := 66) (ls' := [some (.inr (.inr 66)), some (.inl w), some (.inl wi2), some (.inl wd2), some (.inl wu), some (.inl nn), some (.inl ii), some (.inl mm)]) (sk' := [.inl nn, .inl mm]) (h' := (xup h 66 0 0)) rfl ?_
                      refine E_b (x := (.if_icmp .ge 38, 84, [], [])) rfl rfl (fun c66 => ?_) (fun c66 => ?_)
                      · rw [c_ge (by first | assumption | (refine ⟨?_, ?_⟩ <;> omega) | (simp only [xr] at *; omega)) (by first | assumption | (refine ⟨?_, ?_⟩ <;> omega) | (simp only [xr] at *; omega))] at c66
                        simp only [decide_eq_true_eq, decide_eq_false_iff_not, Decidable.not_not] at c66
                        show xEx G0 cdX12_solved (some .int) (xRn G0 MT (d + 3)) Q b 84 [some (.inr (.inr 66)), some (.inl w), some (.inl wi2), some (.inl wd2), some (.inl wu), some (.inl nn), some (.inl ii), some (.inl mm)] [] (xup h 66 0 0)
                        have em : mm = nn := by omega
                        rw [em] at hna
                        refine E_s 2 (i' := 86) (ls' := [some (.inr (.inr 66)), some (.inl w), some (.inl wi2), some (.inl wd2), some (.inl wu), some (.inl nn), some (.inl ii), some (.inl mm)]) (sk' := [.inl ii, .inl wu]) (h' := (xup h 66 0 0)) rfl ?_
                        refine E_b (x := (.ifCond .eq 7, 89, [], [])) rfl rfl (fun c86 => ?_) (fun c86 => ?_)
                        · rw [c_eq (by first | assumption | (refine ⟨?_, ?_⟩ <;> omega) | (simp only [xr] at *; omega)) (by first | assumption | (refine ⟨?_, ?_⟩ <;> omega) | (simp only [xr] at *; omega))] at c86
                          simp only [decide_eq_true_eq, decide_eq_false_iff_not, Decidable.not_not] at c86
                          show xEx G0 cdX12_solved (some .int) (xRn G0 MT (d + 3)) Q b 89 [some (.inr (.inr 66)), some (.inl w), some (.inl wi2), some (.inl wd2), some (.inl wu), some (.inl nn), some (.inl ii), some (.inl mm)] [.inl wu] (xup h 66 0 0)
                          have lf0 : ¬ ∀ j, 0 ≤ j → j < nn - 1 → ¬ le j = le (nn - 1) := by
                            rcases hna with ⟨z9, -⟩ | ⟨-, z9⟩
                            · omega
                            · exact fun y => z9 (fun j z1 z2 => y j z1 (by omega))
                          refine E_s 5 (i' := 28) (ls' := [some (.inr (.inr 66)), some (.inl w), some (.inl wi2), some (.inl wd2), some (.inl (wu + 0)), some (.inl (nn + 1)), some (.inl ii), some (.inl mm)]) (sk' := []) (h' := (xup h 66 0 0)) rfl ?_
                          exact ih28 (nn + 1) (wi2) (wd2) (wu + 0) _ _ (by omega) (by omega) (by
                            rw [show nn + 1 - 1 = nn - 1 + 1 by omega]; exact hwi2) (by
                            rw [show nn + 1 - 1 = nn - 1 + 1 by omega]; exact hwd2) (by
                            rw [show nn + 1 - 1 = nn - 1 + 1 by omega, cN_n (by omega) (fun y => lf0 y.2), hwu]
                            omega) (by omega)
                        · rw [c_eq (by first | assumption | (refine ⟨?_, ?_⟩ <;> omega) | (simp only [xr] at *; omega)) (by first | assumption | (refine ⟨?_, ?_⟩ <;> omega) | (simp only [xr] at *; omega))] at c86
                          simp only [decide_eq_true_eq, decide_eq_false_iff_not, Decidable.not_not] at c86
                          show xEx G0 cdX12_solved (some .int) (xRn G0 MT (d + 3)) Q b 87 [some (.inr (.inr 66)), some (.inl w), some (.inl wi2), some (.inl wd2), some (.inl wu), some (.inl nn), some (.inl ii), some (.inl mm)] [.inl wu] (xup h 66 0 0)
                          have lf9 : ∀ j, 0 ≤ j → j < nn - 1 → ¬ le j = le (nn - 1) := by
                            rcases hna with ⟨-, z9⟩ | ⟨z9, -⟩
                            · exact fun j z1 z2 => z9 j z1 (by omega)
                            · exact absurd z9 c86
                          refine E_s 6 (i' := 28) (ls' := [some (.inr (.inr 66)), some (.inl w), some (.inl wi2), some (.inl wd2), some (.inl (wu + 1)), some (.inl (nn + 1)), some (.inl ii), some (.inl mm)]) (sk' := []) (h' := (xup h 66 0 0)) rfl ?_
                          exact ih28 (nn + 1) (wi2) (wd2) (wu + 1) _ _ (by omega) (by omega) (by
                            rw [show nn + 1 - 1 = nn - 1 + 1 by omega]; exact hwi2) (by
                            rw [show nn + 1 - 1 = nn - 1 + 1 by omega]; exact hwd2) (by
                            rw [show nn + 1 - 1 = nn - 1 + 1 by omega, cN_p (by omega) ⟨b1, lf9⟩, hwu]) (by omega)
                      · rw [c_ge (by first | assumption | (refine ⟨?_, ?_⟩ <;> omega) | (simp only [xr] at *; omega)) (by first | assumption | (refine ⟨?_, ?_⟩ <;> omega) | (simp only [xr] at *; omega))] at c66
                        simp only [decide_eq_true_eq, decide_eq_false_iff_not, Decidable.not_not] at c66
                        show xEx G0 cdX12_solved (some .int) (xRn G0 MT (d + 3)) Q b 67 [some (.inr (.inr 66)), some (.inl w), some (.inl wi2), some (.inl wd2), some (.inl wu), some (.inl nn), some (.inl ii), some (.inl mm)] [] (xup h 66 0 0)
                        refine E_s 1 (i' := 68) (ls' := [some (.inr (.inr 66)), some (.inl w), some (.inl wi2), some (.inl wd2), some (.inl wu), some (.inl nn), some (.inl ii), some (.inl mm)]) (sk' := [.inl ii]) (h' := (xup h 66 0 0)) rfl ?_
                        refine E_b (x := (.ifCond .eq 24, 80, [], [])) rfl rfl (fun c68 => ?_) (fun c68 => ?_)
                        · rw [c_eq (by first | assumption | (refine ⟨?_, ?_⟩ <;> omega) | (simp only [xr] at *; omega)) (by first | assumption | (refine ⟨?_, ?_⟩ <;> omega) | (simp only [xr] at *; omega))] at c68
                          simp only [decide_eq_true_eq, decide_eq_false_iff_not, Decidable.not_not] at c68
                          show xEx G0 cdX12_solved (some .int) (xRn G0 MT (d + 3)) Q b 80 [some (.inr (.inr 66)), some (.inl w), some (.inl wi2), some (.inl wd2), some (.inl wu), some (.inl nn), some (.inl ii), some (.inl mm)] [] (xup h 66 0 0)
                          have nz : ¬ NA le (mm + 1) (nn - 1) := by
                            first
                            | exact NA_3 hm0 (by rw [← g4, ← g2]; exact c77)
                            | exact NA_2 (by
                                rcases hna with ⟨z9, -⟩ | ⟨-, z9⟩
                                · omega
                                · exact z9)
                          refine E_s 4 (i' := 64) (ls' := [some (.inr (.inr 66)), some (.inl w), some (.inl wi2), some (.inl wd2), some (.inl wu), some (.inl nn), some (.inl 0), some (.inl (mm + 1))]) (sk' := []) (h' := (xup h 66 0 0)) rfl ?_
                          exact ih64 (mm + 1) 0 (by omega) (by omega) (by omega) (Or.inr ⟨rfl, nz⟩) (by omega)
                        · rw [c_eq (by first | assumption | (refine ⟨?_, ?_⟩ <;> omega) | (simp only [xr] at *; omega)) (by first | assumption | (refine ⟨?_, ?_⟩ <;> omega) | (simp only [xr] at *; omega))] at c68
                          simp only [decide_eq_true_eq, decide_eq_false_iff_not, Decidable.not_not] at c68
                          show xEx G0 cdX12_solved (some .int) (xRn G0 MT (d + 3)) Q b 69 [some (.inr (.inr 66)), some (.inl w), some (.inl wi2), some (.inl wd2), some (.inl wu), some (.inl nn), some (.inl ii), some (.inl mm)] [] (xup h 66 0 0)
                          obtain ⟨g3, g4⟩ := tn qs mm hm0 (by omega)
                          have hrm := hr qs (mm - 1) (by omega) (by omega)
                          have na1 : NA le mm (nn - 1) := by
                            rcases hna with ⟨-, z9⟩ | ⟨z9, -⟩
                            · exact z9
                            · exact absurd z9 c68
                          refine E_s 3 (i' := 72) (ls' := [some (.inr (.inr 66)), some (.inl w), some (.inl wi2), some (.inl wd2), some (.inl wu), some (.inl nn), some (.inl ii), some (.inl mm)]) (sk' := [.inl mm, .inr (.inr 106)]) (h' := (xup h 66 0 0)) rfl ?_
                          refine E_ld (x := (.iaload, 0, [], [])) (ty := .int) (n := 32) rfl rfl rfl (by omega) (by omega) ?_
                          show xEx G0 cdX12_solved (some .int) (xRn G0 MT (d + 3)) Q b 73 [some (.inr (.inr 66)), some (.inl w), some (.inl wi2), some (.inl wd2), some (.inl wu), some (.inl nn), some (.inl ii), some (.inl mm)] [.inl (h 106 mm)] (xup h 66 0 0)
                          refine E_s 3 (i' := 76) (ls' := [some (.inr (.inr 66)), some (.inl w), some (.inl wi2), some (.inl wd2), some (.inl wu), some (.inl nn), some (.inl ii), some (.inl mm)]) (sk' := [.inl nn, .inr (.inr 106), .inl (h 106 mm)]) (h' := (xup h 66 0 0)) rfl ?_
                          refine E_ld (x := (.iaload, 0, [], [])) (ty := .int) (n := 32) rfl rfl rfl (by omega) (by omega) ?_
                          show xEx G0 cdX12_solved (some .int) (xRn G0 MT (d + 3)) Q b 77 [some (.inr (.inr 66)), some (.inl w), some (.inl wi2), some (.inl wd2), some (.inl wu), some (.inl nn), some (.inl ii), some (.inl mm)] [.inl (h 106 nn), .inl (h 106 mm)] (xup h 66 0 0)
                          refine E_b (x := (.if_icmp .eq 7, 80, [], [])) rfl rfl (fun c77 => ?_) (fun c77 => ?_)
                          · rw [c_eq (by first | assumption | (refine ⟨?_, ?_⟩ <;> omega) | (simp only [xr] at *; omega)) (by first | assumption | (refine ⟨?_, ?_⟩ <;> omega) | (simp only [xr] at *; omega))] at c77
                            simp only [decide_eq_true_eq, decide_eq_false_iff_not, Decidable.not_not] at c77
                            show xEx G0 cdX12_solved (some .int) (xRn G0 MT (d + 3)) Q b 80 [some (.inr (.inr 66)), some (.inl w), some (.inl wi2), some (.inl wd2), some (.inl wu), some (.inl nn), some (.inl ii), some (.inl mm)] [] (xup h 66 0 0)
                            have nz : ¬ NA le (mm + 1) (nn - 1) := by
                              first
                              | exact NA_3 hm0 (by rw [← g4, ← g2]; exact c77)
                              | exact NA_2 (by
                                  rcases hna with ⟨z9, -⟩ | ⟨-, z9⟩
                                  · omega
                                  · exact z9)
                            refine E_s 4 (i' := 64) (ls' := [some (.inr (.inr 66)), some (.inl w), some (.inl wi2), some (.inl wd2), some (.inl wu), some (.inl nn), some (.inl 0), some (.inl (mm + 1))]) (sk' := []) (h' := (xup h 66 0 0)) rfl ?_
                            exact ih64 (mm + 1) 0 (by omega) (by omega) (by omega) (Or.inr ⟨rfl, nz⟩) (by omega)
                          · rw [c_eq (by first | assumption | (refine ⟨?_, ?_⟩ <;> omega) | (simp only [xr] at *; omega)) (by first | assumption | (refine ⟨?_, ?_⟩ <;> omega) | (simp only [xr] at *; omega))] at c77
                            simp only [decide_eq_true_eq, decide_eq_false_iff_not, Decidable.not_not] at c77
                            show xEx G0 cdX12_solved (some .int) (xRn G0 MT (d + 3)) Q b 78 [some (.inr (.inr 66)), some (.inl w), some (.inl wi2), some (.inl wd2), some (.inl wu), some (.inl nn), some (.inl ii), some (.inl mm)] [] (xup h 66 0 0)
                            have nl : ¬ le (mm - 1) = le (nn - 1) := by rw [← g4, ← g2]; exact c77
                            refine E_s 5 (i' := 64) (ls' := [some (.inr (.inr 66)), some (.inl w), some (.inl wi2), some (.inl wd2), some (.inl wu), some (.inl nn), some (.inl 1), some (.inl (mm + 1))]) (sk' := []) (h' := (xup h 66 0 0)) rfl ?_
                            exact ih64 (mm + 1) 1 (by omega) (by omega) (by omega) (Or.inl ⟨rfl, NA_1 na1 nl⟩) (by omega)
                  exact key64 _ 1 1 (by omega) (by omega) (by omega) (Or.inl ⟨rfl, fun j z1 z2 => by omega⟩) (Nat.lt_succ_self _)
                · rw [c_ne (by first | assumption | (refine ⟨?_, ?_⟩ <;> omega) | (simp only [xr] at *; omega)) (by first | assumption | (refine ⟨?_, ?_⟩ <;> omega) | (simp only [xr] at *; omega))] at c58
                  simp only [decide_eq_true_eq, decide_eq_false_iff_not, Decidable.not_not] at c58
                  show xEx G0 cdX12_solved (some .int) (xRn G0 MT (d + 3)) Q b 59 [some (.inr (.inr 66)), some (.inl w), some (.inl wi2), some (.inl wd2), some (.inl wu), some (.inl nn), v6, v7] [] (xup h 66 0 0)
                  have b0 : le (nn - 1) = -1 := by rw [← g2]; exact c58
                  refine E_s 3 (i' := 28) (ls' := [some (.inr (.inr 66)), some (.inl w), some (.inl wi2), some (.inl wd2), some (.inl wu), some (.inl (nn + 1)), v6, v7]) (sk' := []) (h' := (xup h 66 0 0)) rfl ?_
                  exact ih28 (nn + 1) (wi2) (wd2) (wu) _ _ (by omega) (by omega) (by
                    rw [show nn + 1 - 1 = nn - 1 + 1 by omega]; exact hwi2) (by
                    rw [show nn + 1 - 1 = nn - 1 + 1 by omega]; exact hwd2) (by
                    rw [show nn + 1 - 1 = nn - 1 + 1 by omega, cN_n (by omega) (fun y => y.1 b0), hwu]) (by omega)
              refine E_s 2 (i' := 34) (ls' := [some (.inr (.inr 66)), some (.inl w), some (.inl wi), some (.inl wd), some (.inl wu), some (.inl nn), v6, v7]) (sk' := [.inl nn, .inr (.inr 105)]) (h' := (xup h 66 0 0)) rfl ?_
              refine E_ld (x := (.iaload, 0, [], [])) (ty := .int) (n := 32) rfl rfl rfl (by omega) (by omega) ?_
              show xEx G0 cdX12_solved (some .int) (xRn G0 MT (d + 3)) Q b 35 [some (.inr (.inr 66)), some (.inl w), some (.inl wi), some (.inl wd), some (.inl wu), some (.inl nn), v6, v7] [.inl (h 105 nn)] (xup h 66 0 0)
              refine E_s 1 (i' := 36) (ls' := [some (.inr (.inr 66)), some (.inl w), some (.inl wi), some (.inl wd), some (.inl wu), some (.inl nn), v6, v7]) (sk' := [.inl (-1), .inl (h 105 nn)]) (h' := (xup h 66 0 0)) rfl ?_
              refine E_b (x := (.if_icmp .eq 31, 53, [], [])) rfl rfl (fun c36 => ?_) (fun c36 => ?_)
              · rw [c_eq (by first | assumption | (refine ⟨?_, ?_⟩ <;> omega) | (simp only [xr] at *; omega)) (by first | assumption | (refine ⟨?_, ?_⟩ <;> omega) | (simp only [xr] at *; omega))] at c36
                simp only [decide_eq_true_eq, decide_eq_false_iff_not, Decidable.not_not] at c36
                show xEx G0 cdX12_solved (some .int) (xRn G0 MT (d + 3)) Q b 53 [some (.inr (.inr 66)), some (.inl w), some (.inl wi), some (.inl wd), some (.inl wu), some (.inl nn), v6, v7] [] (xup h 66 0 0)
                exact cut53 wi wd (by rw [cN_n (by omega) (fun y => y (by rw [← g1]; exact c36)), hwi]) (by rw [dpN_0 (by omega) (by rw [← g1]; exact c36), hwd])
              · rw [c_eq (by first | assumption | (refine ⟨?_, ?_⟩ <;> omega) | (simp only [xr] at *; omega)) (by first | assumption | (refine ⟨?_, ?_⟩ <;> omega) | (simp only [xr] at *; omega))] at c36
                simp only [decide_eq_true_eq, decide_eq_false_iff_not, Decidable.not_not] at c36
                show xEx G0 cdX12_solved (some .int) (xRn G0 MT (d + 3)) Q b 37 [some (.inr (.inr 66)), some (.inl w), some (.inl wi), some (.inl wd), some (.inl wu), some (.inl nn), v6, v7] [] (xup h 66 0 0)
                have a1 : ¬ as (nn - 1) = -1 := by rw [← g1]; exact c36
                have n7 : ¬ 7 ≤ nn - 1 := fun z9 => a1 (h7 qs (nn - 1) (by omega) (by omega) z9)
                refine E_s 4 (i' := 41) (ls' := [some (.inr (.inr 66)), some (.inl w), some (.inl (wi + 1)), some (.inl wd), some (.inl wu), some (.inl nn), v6, v7]) (sk' := [.inl nn, .inr (.inr 66), .inl wd]) (h' := (xup h 66 0 0)) rfl ?_
                refine E_cp (x := (.invokevirtual 415, 1, [(10, 239)], [0])) (q := fun r h9 => r + 1 = lvN (nn - 1) ∧ (xup h 66 0 0) = h9) rfl rfl (Nat.le_of_ble_eq_true rfl) (m_innermost (d + 2) 0 (xup h 66 0 0) nn ⟨hn0, by omega⟩ (fun r hr9 => ⟨r, rfl, hr9, rfl⟩)) (fun ra h9 hia => ?_)
                obtain ⟨hia, rfl⟩ := hia
                show xEx G0 cdX12_solved (some .int) (xRn G0 MT (d + 3)) Q b 42 [some (.inr (.inr 66)), some (.inl w), some (.inl (wi + 1)), some (.inl wd), some (.inl wu), some (.inl nn), v6, v7] [.inl ra, .inl wd] (xup h 66 0 0)
                refine E_s 2 (i' := 44) (ls' := [some (.inr (.inr 66)), some (.inl w), some (.inl (wi + 1)), some (.inl wd), some (.inl wu), some (.inl nn), v6, v7]) (sk' := [.inl (ra + 1), .inl wd]) (h' := (xup h 66 0 0)) rfl ?_
                refine E_b (x := (.if_icmp .le 7, 47, [], [])) rfl rfl (fun c44 => ?_) (fun c44 => ?_)
                · rw [c_le (by first | assumption | (refine ⟨?_, ?_⟩ <;> omega) | (simp only [xr] at *; omega)) (by first | assumption | (refine ⟨?_, ?_⟩ <;> omega) | (simp only [xr] at *; omega))] at c44
                  simp only [decide_eq_true_eq, decide_eq_false_iff_not, Decidable.not_not] at c44
                  show xEx G0 cdX12_solved (some .int) (xRn G0 MT (d + 3)) Q b 47 [some (.inr (.inr 66)), some (.inl w), some (.inl (wi + 1)), some (.inl wd), some (.inl wu), some (.inl nn), v6, v7] [] (xup h 66 0 0)
                  refine E_s 2 (i' := 49) (ls' := [some (.inr (.inr 66)), some (.inl w), some (.inl (wi + 1)), some (.inl wd), some (.inl wu), some (.inl nn), v6, v7]) (sk' := [.inl nn, .inr (.inr 66)]) (h' := (xup h 66 0 0)) rfl ?_
                  refine E_cp (x := (.invokevirtual 415, 1, [(10, 239)], [0])) (q := fun r h9 => r + 1 = lvN (nn - 1) ∧ (xup h 66 0 0) = h9) rfl rfl (Nat.le_of_ble_eq_true rfl) (m_innermost (d + 2) 0 (xup h 66 0 0) nn ⟨hn0, by omega⟩ (fun r hr9 => ⟨r, rfl, hr9, rfl⟩)) (fun rb h9 hib => ?_)
                  obtain ⟨hib, rfl⟩ := hib
                  show xEx G0 cdX12_solved (some .int) (xRn G0 MT (d + 3)) Q b 50 [some (.inr (.inr 66)), some (.inl w), some (.inl (wi + 1)), some (.inl wd), some (.inl wu), some (.inl nn), v6, v7] [.inl rb] (xup h 66 0 0)
                  refine E_s 3 (i' := 53) (ls' := [some (.inr (.inr 66)), some (.inl w), some (.inl (wi + 1)), some (.inl (rb + 1)), some (.inl wu), some (.inl nn), v6, v7]) (sk' := []) (h' := (xup h 66 0 0)) rfl ?_
                  exact cut53 (wi + 1) (rb + 1) (by rw [cN_p (by omega) a1, hwi]) (by rw [dpN_1 (by omega) a1]; omega)
                · rw [c_le (by first | assumption | (refine ⟨?_, ?_⟩ <;> omega) | (simp only [xr] at *; omega)) (by first | assumption | (refine ⟨?_, ?_⟩ <;> omega) | (simp only [xr] at *; omega))] at c44
                  simp only [decide_eq_true_eq, decide_eq_false_iff_not, Decidable.not_not] at c44
                  show xEx G0 cdX12_solved (some .int) (xRn G0 MT (d + 3)) Q b 45 [some (.inr (.inr 66)), some (.inl w), some (.inl (wi + 1)), some (.inl wd), some (.inl wu), some (.inl nn), v6, v7] [] (xup h 66 0 0)
                  omega
        exact key28 _ 1 0 0 0 _ _ (by omega) (by omega) rfl rfl rfl (Nat.lt_succ_self _)
      · show xEx G0 cdX12_solved (some .int) (xRn G0 MT (d + 3)) Q b 18 [some (.inr (.inr 66)), some (.inl w), none, none, none, none, none, none] [] (xup h 66 0 0)
        exact absurd c17 (by decide)
    · rw [c_ne (by first | assumption | (refine ⟨?_, ?_⟩ <;> omega) | (simp only [xr] at *; omega)) (by first | assumption | (refine ⟨?_, ?_⟩ <;> omega) | (simp only [xr] at *; omega))] at c10
      simp only [decide_eq_true_eq, decide_eq_false_iff_not, Decidable.not_not] at c10
      show xEx G0 cdX12_solved (some .int) (xRn G0 MT (d + 3)) Q b 11 [some (.inr (.inr 66)), some (.inl w), none, none, none, none, none, none] [.inr (.inr 66)] h
      refine E_s 5 (i' := 17) (ls' := [some (.inr (.inr 66)), some (.inl w), none, none, none, none, none, none]) (sk' := [.inl 2]) (h' := (xup h 66 0 2)) rfl ?_
      refine E_b (x := (.ifCond .le 5, 20, [], [])) rfl rfl (fun c17 => ?_) (fun c17 => ?_)
      · show xEx G0 cdX12_solved (some .int) (xRn G0 MT (d + 3)) Q b 20 [some (.inr (.inr 66)), some (.inl w), none, none, none, none, none, none] [] (xup h 66 0 2)
        exact absurd c17 (by decide)
      · show xEx G0 cdX12_solved (some .int) (xRn G0 MT (d + 3)) Q b 18 [some (.inr (.inr 66)), some (.inl w), none, none, none, none, none, none] [] (xup h 66 0 2)
        refine E_s 1 (i' := 19) (ls' := [some (.inr (.inr 66)), some (.inl w), none, none, none, none, none, none]) (sk' := [.inl 0]) (h' := (xup h 66 0 2)) rfl ?_
        exact E_ret (x := (.ireturn, 0, [], [])) (v := some (.inl 0)) rfl (Or.inl rfl) (hA (by omega) (o0 q2 (by omega)))
  · rw [c_ne (by first | assumption | (refine ⟨?_, ?_⟩ <;> omega) | (simp only [xr] at *; omega)) (by first | assumption | (refine ⟨?_, ?_⟩ <;> omega) | (simp only [xr] at *; omega))] at c3
    simp only [decide_eq_true_eq, decide_eq_false_iff_not, Decidable.not_not] at c3
    show xEx G0 cdX12_solved (some .int) (xRn G0 MT (d + 3)) Q b 4 [some (.inr (.inr 66)), some (.inl w), none, none, none, none, none, none] [.inr (.inr 66)] h
    refine E_s 5 (i' := 17) (ls' := [some (.inr (.inr 66)), some (.inl w), none, none, none, none, none, none]) (sk' := [.inl 1]) (h' := (xup h 66 0 1)) rfl ?_
    refine E_b (x := (.ifCond .le 5, 20, [], [])) rfl rfl (fun c17 => ?_) (fun c17 => ?_)
    · show xEx G0 cdX12_solved (some .int) (xRn G0 MT (d + 3)) Q b 20 [some (.inr (.inr 66)), some (.inl w), none, none, none, none, none, none] [] (xup h 66 0 1)
      exact absurd c17 (by decide)
    · show xEx G0 cdX12_solved (some .int) (xRn G0 MT (d + 3)) Q b 18 [some (.inr (.inr 66)), some (.inl w), none, none, none, none, none, none] [] (xup h 66 0 1)
      refine E_s 1 (i' := 19) (ls' := [some (.inr (.inr 66)), some (.inl w), none, none, none, none, none, none]) (sk' := [.inl 0]) (h' := (xup h 66 0 1)) rfl ?_
      exact E_ret (x := (.ireturn, 0, [], [])) (v := some (.inl 0)) rfl (Or.inl rfl) (hN (fun z9 => by omega))
