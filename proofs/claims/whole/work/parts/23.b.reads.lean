set_option maxHeartbeats 1000000 in
theorem o_grown0 (d  : Nat) (h : xH) (w : Int) (hw : xr w) (hF : 0 ≤ h 9 14 ∧ h 9 14 ≤ 1) {Q : xO → xH → Prop} (h0 : w = 0 → Q (.inl (some (.inl (h 9 9)))) h) (h1 : w = 1 → Q (.inl (some (.inl (h 9 10)))) h) (h2 : w = 2 → Q (.inl (some (.inl (h 9 13)))) h) (h3 : w = 3 → Q (.inl (some (.inl (h 9 14)))) h) (h4 : w = 4 → Q (.inl (some (.inl (h 9 11)))) h) (h5 : w = 5 → Q (.inl (some (.inl (h 9 12)))) h) (hX : ¬ (0 ≤ w ∧ w ≤ 5) → Q (.inr "java/util/NoSuchElementException") h) : xRn G0 MT (d + 2) 1 105 [.inr (.inr 0), .inl 0, .inl w] h Q := by
  refine R_of (M := mX11_grown) rfl (Nat.le_of_ble_eq_true rfl) ?_
  show xEx G0 cdX11_grown (some .int) (xRn G0 MT (d + 1)) Q 1 0 [some (.inr (.inr 0)), some (.inl 0), some (.inl w), none] [] h
  refine E_s 2 (i' := 2) (ls' := [some (.inr (.inr 0)), some (.inl 0), some (.inl w), none]) (sk' := [.inl 0, .inr (.inr 0)]) (h' := h) rfl ?_
  refine E_cx (x := (.invokevirtual 161, 1, [(9, 142)], [0])) (b1 := 0) (b2 := 1) (v := (some (.inr (.inr 9)))) (q := fun h9 => (True) ∧ h = h9) rfl rfl (Nat.le_of_ble_eq_true rfl) (fun z => by cases z) (c_growthOf0 d 0 h (Or.inl ⟨rfl, trivial, rfl⟩)) (fun h9 hq9 => ?_)
  obtain ⟨_t, rfl⟩ := hq9
  show xEx G0 cdX11_grown (some .int) (xRn G0 MT (d + 1)) Q 1 3 [some (.inr (.inr 0)), some (.inl 0), some (.inl w), none] [.inr (.inr 9)] h
  refine E_s 2 (i' := 5) (ls' := [some (.inr (.inr 0)), some (.inl 0), some (.inl w), some (.inr (.inr 9))]) (sk' := [.inl w]) (h' := h) rfl ?_
  by_cases s5_0 : w = 0
  · refine E_sw (x := (.tableswitch 75 0 5 #[37, 42, 47, 52, 65, 70], 28, [(0, 6), (1, 9), (2, 12), (3, 15), (4, 22), (5, 25)], [])) (t := 6) rfl rfl (by rw [s5_0]; decide +kernel) ?_
    show xEx G0 cdX11_grown (some .int) (xRn G0 MT (d + 1)) Q 1 6 [some (.inr (.inr 0)), some (.inl 0), some (.inl w), some (.inr (.inr 9))] [] h
    refine E_s 2 (i' := 8) (ls' := [some (.inr (.inr 0)), some (.inl 0), some (.inl w), some (.inr (.inr 9))]) (sk' := [.inl (h 9 9)]) (h' := h) rfl ?_
    exact E_ret (x := (.ireturn, 0, [], [])) (v := some (.inl (h 9 9))) rfl (Or.inl rfl) (h0 s5_0)
  · by_cases s5_1 : w = 1
    · refine E_sw (x := (.tableswitch 75 0 5 #[37, 42, 47, 52, 65, 70], 28, [(0, 6), (1, 9), (2, 12), (3, 15), (4, 22), (5, 25)], [])) (t := 9) rfl rfl (by rw [s5_1]; decide +kernel) ?_
      show xEx G0 cdX11_grown (some .int) (xRn G0 MT (d + 1)) Q 1 9 [some (.inr (.inr 0)), some (.inl 0), some (.inl w), some (.inr (.inr 9))] [] h
      refine E_s 2 (i' := 11) (ls' := [some (.inr (.inr 0)), some (.inl 0), some (.inl w), some (.inr (.inr 9))]) (sk' := [.inl (h 9 10)]) (h' := h) rfl ?_
      exact E_ret (x := (.ireturn, 0, [], [])) (v := some (.inl (h 9 10))) rfl (Or.inl rfl) (h1 s5_1)
    · by_cases s5_2 : w = 2
      · refine E_sw (x := (.tableswitch 75 0 5 #[37, 42, 47, 52, 65, 70], 28, [(0, 6), (1, 9), (2, 12), (3, 15), (4, 22), (5, 25)], [])) (t := 12) rfl rfl (by rw [s5_2]; decide +kernel) ?_
        show xEx G0 cdX11_grown (some .int) (xRn G0 MT (d + 1)) Q 1 12 [some (.inr (.inr 0)), some (.inl 0), some (.inl w), some (.inr (.inr 9))] [] h
        refine E_s 2 (i' := 14) (ls' := [some (.inr (.inr 0)), some (.inl 0), some (.inl w), some (.inr (.inr 9))]) (sk' := [.inl (h 9 13)]) (h' := h) rfl ?_
        exact E_ret (x := (.ireturn, 0, [], [])) (v := some (.inl (h 9 13))) rfl (Or.inl rfl) (h2 s5_2)
      · by_cases s5_3 : w = 3
        · refine E_sw (x := (.tableswitch 75 0 5 #[37, 42, 47, 52, 65, 70], 28, [(0, 6), (1, 9), (2, 12), (3, 15), (4, 22), (5, 25)], [])) (t := 15) rfl rfl (by rw [s5_3]; decide +kernel) ?_
          show xEx G0 cdX11_grown (some .int) (xRn G0 MT (d + 1)) Q 1 15 [some (.inr (.inr 0)), some (.inl 0), some (.inl w), some (.inr (.inr 9))] [] h
          refine E_s 2 (i' := 17) (ls' := [some (.inr (.inr 0)), some (.inl 0), some (.inl w), some (.inr (.inr 9))]) (sk' := [.inl (h 9 14)]) (h' := h) rfl ?_
          refine E_b (x := (.ifCond .eq 7, 20, [], [])) rfl rfl (fun c17 => ?_) (fun c17 => ?_)
          · rw [c_eq (by first | assumption | (refine ⟨?_, ?_⟩ <;> omega) | (simp only [xr] at *; omega)) (by first | assumption | (refine ⟨?_, ?_⟩ <;> omega) | (simp only [xr] at *; omega))] at c17
            simp only [decide_eq_true_eq, decide_eq_false_iff_not, Decidable.not_not] at c17
            show xEx G0 cdX11_grown (some .int) (xRn G0 MT (d + 1)) Q 1 20 [some (.inr (.inr 0)), some (.inl 0), some (.inl w), some (.inr (.inr 9))] [] h
            refine E_s 1 (i' := 21) (ls' := [some (.inr (.inr 0)), some (.inl 0), some (.inl w), some (.inr (.inr 9))]) (sk' := [.inl 0]) (h' := h) rfl ?_
            exact E_ret (x := (.ireturn, 0, [], [])) (v := some (.inl 0)) rfl (Or.inl rfl) (by
              have e9 : h 9 14 = 0 := by omega
              have r9 := h3 s5_3
              rw [e9] at r9
              exact r9)
          · rw [c_eq (by first | assumption | (refine ⟨?_, ?_⟩ <;> omega) | (simp only [xr] at *; omega)) (by first | assumption | (refine ⟨?_, ?_⟩ <;> omega) | (simp only [xr] at *; omega))] at c17
            simp only [decide_eq_true_eq, decide_eq_false_iff_not, Decidable.not_not] at c17
            show xEx G0 cdX11_grown (some .int) (xRn G0 MT (d + 1)) Q 1 18 [some (.inr (.inr 0)), some (.inl 0), some (.inl w), some (.inr (.inr 9))] [] h
            refine E_s 2 (i' := 21) (ls' := [some (.inr (.inr 0)), some (.inl 0), some (.inl w), some (.inr (.inr 9))]) (sk' := [.inl 1]) (h' := h) rfl ?_
            exact E_ret (x := (.ireturn, 0, [], [])) (v := some (.inl 1)) rfl (Or.inl rfl) (by
              have e9 : h 9 14 = 1 := by omega
              have r9 := h3 s5_3
              rw [e9] at r9
              exact r9)
        · by_cases s5_4 : w = 4
          · refine E_sw (x := (.tableswitch 75 0 5 #[37, 42, 47, 52, 65, 70], 28, [(0, 6), (1, 9), (2, 12), (3, 15), (4, 22), (5, 25)], [])) (t := 22) rfl rfl (by rw [s5_4]; decide +kernel) ?_
            show xEx G0 cdX11_grown (some .int) (xRn G0 MT (d + 1)) Q 1 22 [some (.inr (.inr 0)), some (.inl 0), some (.inl w), some (.inr (.inr 9))] [] h
            refine E_s 2 (i' := 24) (ls' := [some (.inr (.inr 0)), some (.inl 0), some (.inl w), some (.inr (.inr 9))]) (sk' := [.inl (h 9 11)]) (h' := h) rfl ?_
            exact E_ret (x := (.ireturn, 0, [], [])) (v := some (.inl (h 9 11))) rfl (Or.inl rfl) (h4 s5_4)
          · by_cases s5_5 : w = 5
            · refine E_sw (x := (.tableswitch 75 0 5 #[37, 42, 47, 52, 65, 70], 28, [(0, 6), (1, 9), (2, 12), (3, 15), (4, 22), (5, 25)], [])) (t := 25) rfl rfl (by rw [s5_5]; decide +kernel) ?_
              show xEx G0 cdX11_grown (some .int) (xRn G0 MT (d + 1)) Q 1 25 [some (.inr (.inr 0)), some (.inl 0), some (.inl w), some (.inr (.inr 9))] [] h
              refine E_s 2 (i' := 27) (ls' := [some (.inr (.inr 0)), some (.inl 0), some (.inl w), some (.inr (.inr 9))]) (sk' := [.inl (h 9 12)]) (h' := h) rfl ?_
              exact E_ret (x := (.ireturn, 0, [], [])) (v := some (.inl (h 9 12))) rfl (Or.inl rfl) (h5 s5_5)
            · refine E_sw (x := (.tableswitch 75 0 5 #[37, 42, 47, 52, 65, 70], 28, [(0, 6), (1, 9), (2, 12), (3, 15), (4, 22), (5, 25)], [])) (t := 28) rfl rfl (by rw [w32_id hw]; simp only [xsw]; rw [if_neg (by omega)]; rw [if_neg (by omega)]; rw [if_neg (by omega)]; rw [if_neg (by omega)]; rw [if_neg (by omega)]; rw [if_neg (by omega)]; rfl) ?_
              show xEx G0 cdX11_grown (some .int) (xRn G0 MT (d + 1)) Q 1 28 [some (.inr (.inr 0)), some (.inl 0), some (.inl w), some (.inr (.inr 9))] [] h
              exact E_thr (x := (.new 189, 0, [(2, 0)], [])) rfl rfl rfl (Nat.le_of_ble_eq_true rfl) (hX (by omega))
set_option maxHeartbeats 1000000 in
theorem m_grown0 (d b : Nat) (h : xH) (w : Int) (hw : xr w) (hF : 0 ≤ h 91 0 ∧ h 91 0 ≤ 1) {Q : xO → xH → Prop} (h0 : w = 0 → Q (.inl (some (.inl (h 66 8)))) (xup h 66 0 0)) (h1 : w = 1 → Q (.inl (some (.inl (h 89 0)))) (xup h 66 0 0)) (h2 : w = 2 → Q (.inl (some (.inl (h 88 0)))) (xup h 66 0 0)) (h3 : w = 3 → Q (.inl (some (.inl (h 91 0)))) (xup h 66 0 0)) (h4 : w = 4 → Q (.inl (some (.inl (0)))) (xup h 66 0 0)) (h5 : w = 5 → Q (.inl (some (.inl (h 90 0)))) (xup h 66 0 0)) (hX : ¬ (0 ≤ w ∧ w ≤ 5) → Q (.inl (some (.inl (0)))) (xup h 66 0 1)) : xRn G0 MT (d + 2) b 192 [.inr (.inr 66), .inl 0, .inl w] h Q := by
  refine R_of (M := mX12_grown) rfl (Nat.le_of_ble_eq_true rfl) ?_
  show xEx G0 cdX12_grown (some .int) (xRn G0 MT (d + 1)) Q b 0 [some (.inr (.inr 66)), some (.inl 0), some (.inl w), none] [] h
  refine E_s 4 (i' := 4) (ls' := [some (.inr (.inr 66)), some (.inl 0), some (.inl w), none]) (sk' := [.inl 5, .inl 0, .inl w, .inr (.inr 66)]) (h' := h) rfl ?_
  refine E_cp (x := (.invokestatic 180, 3, [(0, 155)], [])) (q := fun r h9 => ((r = 1 ∧ (0 ≤ w ∧ w ≤ 5)) ∨ (r = 0 ∧ ¬ (0 ≤ w ∧ w ≤ 5))) ∧ h = h9) rfl rfl (Nat.le_of_ble_eq_true rfl) (m_isIn d 0 (h) w 0 5 hw ⟨by omega, by omega⟩ ⟨by omega, by omega⟩ (fun z => ⟨_, rfl, Or.inl ⟨rfl, z⟩, rfl⟩) (fun z => ⟨_, rfl, Or.inr ⟨rfl, z⟩, rfl⟩)) (fun r h9 q1 => ?_)
  obtain ⟨q1, rfl⟩ := q1
  show xEx G0 cdX12_grown (some .int) (xRn G0 MT (d + 1)) Q b 5 [some (.inr (.inr 66)), some (.inl 0), some (.inl w), none] [.inl r, .inr (.inr 66)] h
  refine E_b (x := (.ifCond .eq 7, 8, [], [])) rfl rfl (fun c5 => ?_) (fun c5 => ?_)
  · rw [c_eq (by first | assumption | (refine ⟨?_, ?_⟩ <;> omega) | (simp only [xr] at *; omega)) (by first | assumption | (refine ⟨?_, ?_⟩ <;> omega) | (simp only [xr] at *; omega))] at c5
    simp only [decide_eq_true_eq, decide_eq_false_iff_not, Decidable.not_not] at c5
    show xEx G0 cdX12_grown (some .int) (xRn G0 MT (d + 1)) Q b 8 [some (.inr (.inr 66)), some (.inl 0), some (.inl w), none] [.inr (.inr 66)] h
    refine E_s 4 (i' := 12) (ls' := [some (.inr (.inr 66)), some (.inl 0), some (.inl w), none]) (sk' := [.inl 1]) (h' := (xup h 66 0 1)) rfl ?_
    refine E_b (x := (.ifCond .le 5, 15, [], [])) rfl rfl (fun c12 => ?_) (fun c12 => ?_)
    · show xEx G0 cdX12_grown (some .int) (xRn G0 MT (d + 1)) Q b 15 [some (.inr (.inr 66)), some (.inl 0), some (.inl w), none] [] (xup h 66 0 1)
      exact absurd c12 (by decide)
    · show xEx G0 cdX12_grown (some .int) (xRn G0 MT (d + 1)) Q b 13 [some (.inr (.inr 66)), some (.inl 0), some (.inl w), none] [] (xup h 66 0 1)
      refine E_s 1 (i' := 14) (ls' := [some (.inr (.inr 66)), some (.inl 0), some (.inl w), none]) (sk' := [.inl 0]) (h' := (xup h 66 0 1)) rfl ?_
      exact E_ret (x := (.ireturn, 0, [], [])) (v := some (.inl 0)) rfl (Or.inl rfl) (hX (by omega))
  · rw [c_eq (by first | assumption | (refine ⟨?_, ?_⟩ <;> omega) | (simp only [xr] at *; omega)) (by first | assumption | (refine ⟨?_, ?_⟩ <;> omega) | (simp only [xr] at *; omega))] at c5
    simp only [decide_eq_true_eq, decide_eq_false_iff_not, Decidable.not_not] at c5
    show xEx G0 cdX12_grown (some .int) (xRn G0 MT (d + 1)) Q b 6 [some (.inr (.inr 66)), some (.inl 0), some (.inl w), none] [.inr (.inr 66)] h
    refine E_s 5 (i' := 12) (ls' := [some (.inr (.inr 66)), some (.inl 0), some (.inl w), none]) (sk' := [.inl 0]) (h' := (xup h 66 0 0)) rfl ?_
    refine E_b (x := (.ifCond .le 5, 15, [], [])) rfl rfl (fun c12 => ?_) (fun c12 => ?_)
    · show xEx G0 cdX12_grown (some .int) (xRn G0 MT (d + 1)) Q b 15 [some (.inr (.inr 66)), some (.inl 0), some (.inl w), none] [] (xup h 66 0 0)
      refine E_s 1 (i' := 16) (ls' := [some (.inr (.inr 66)), some (.inl 0), some (.inl w), none]) (sk' := [.inl 0]) (h' := (xup h 66 0 0)) rfl ?_
      refine E_b (x := (.ifCond .eq 7, 19, [], [])) rfl rfl (fun c16 => ?_) (fun c16 => ?_)
      · show xEx G0 cdX12_grown (some .int) (xRn G0 MT (d + 1)) Q b 19 [some (.inr (.inr 66)), some (.inl 0), some (.inl w), none] [] (xup h 66 0 0)
        refine E_s 3 (i' := 22) (ls' := [some (.inr (.inr 66)), some (.inl 0), some (.inl w), some (.inl 0)]) (sk' := [.inl w]) (h' := (xup h 66 0 0)) rfl ?_
        by_cases s22_0 : w = 0
        · refine E_sw (x := (.tableswitch 92 0 4 #[34, 50, 57, 64, 79], 57, [(0, 23), (1, 31), (2, 36), (3, 41), (4, 50)], [])) (t := 23) rfl rfl (by rw [s22_0]; decide +kernel) ?_
          show xEx G0 cdX12_grown (some .int) (xRn G0 MT (d + 1)) Q b 23 [some (.inr (.inr 66)), some (.inl 0), some (.inl w), some (.inl 0)] [] (xup h 66 0 0)
          refine E_s 1 (i' := 24) (ls' := [some (.inr (.inr 66)), some (.inl 0), some (.inl w), some (.inl 0)]) (sk' := [.inl 0]) (h' := (xup h 66 0 0)) rfl ?_
          refine E_b (x := (.ifCond .eq 10, 28, [], [])) rfl rfl (fun c24 => ?_) (fun c24 => ?_)
          · show xEx G0 cdX12_grown (some .int) (xRn G0 MT (d + 1)) Q b 28 [some (.inr (.inr 66)), some (.inl 0), some (.inl w), some (.inl 0)] [] (xup h 66 0 0)
            refine E_s 2 (i' := 30) (ls' := [some (.inr (.inr 66)), some (.inl 0), some (.inl w), some (.inl 0)]) (sk' := [.inl (h 66 8)]) (h' := (xup h 66 0 0)) rfl ?_
            exact E_ret (x := (.ireturn, 0, [], [])) (v := some (.inl (h 66 8))) rfl (Or.inl rfl) (h0 s22_0)
          · show xEx G0 cdX12_grown (some .int) (xRn G0 MT (d + 1)) Q b 25 [some (.inr (.inr 66)), some (.inl 0), some (.inl w), some (.inl 0)] [] (xup h 66 0 0)
            exact absurd c24 (by decide)
        · by_cases s22_1 : w = 1
          · refine E_sw (x := (.tableswitch 92 0 4 #[34, 50, 57, 64, 79], 57, [(0, 23), (1, 31), (2, 36), (3, 41), (4, 50)], [])) (t := 31) rfl rfl (by rw [s22_1]; decide +kernel) ?_
            show xEx G0 cdX12_grown (some .int) (xRn G0 MT (d + 1)) Q b 31 [some (.inr (.inr 66)), some (.inl 0), some (.inl w), some (.inl 0)] [] (xup h 66 0 0)
            refine E_s 3 (i' := 34) (ls' := [some (.inr (.inr 66)), some (.inl 0), some (.inl w), some (.inl 0)]) (sk' := [.inl 0, .inr (.inr 89)]) (h' := (xup h 66 0 0)) rfl ?_
            refine E_ld (x := (.iaload, 0, [], [])) (ty := .int) (n := 2) rfl rfl rfl (by omega) (by omega) ?_
            show xEx G0 cdX12_grown (some .int) (xRn G0 MT (d + 1)) Q b 35 [some (.inr (.inr 66)), some (.inl 0), some (.inl w), some (.inl 0)] [.inl (h 89 0)] (xup h 66 0 0)
            exact E_ret (x := (.ireturn, 0, [], [])) (v := some (.inl (h 89 0))) rfl (Or.inl rfl) (h1 s22_1)
          · by_cases s22_2 : w = 2
            · refine E_sw (x := (.tableswitch 92 0 4 #[34, 50, 57, 64, 79], 57, [(0, 23), (1, 31), (2, 36), (3, 41), (4, 50)], [])) (t := 36) rfl rfl (by rw [s22_2]; decide +kernel) ?_
              show xEx G0 cdX12_grown (some .int) (xRn G0 MT (d + 1)) Q b 36 [some (.inr (.inr 66)), some (.inl 0), some (.inl w), some (.inl 0)] [] (xup h 66 0 0)
              refine E_s 3 (i' := 39) (ls' := [some (.inr (.inr 66)), some (.inl 0), some (.inl w), some (.inl 0)]) (sk' := [.inl 0, .inr (.inr 88)]) (h' := (xup h 66 0 0)) rfl ?_
              refine E_ld (x := (.iaload, 0, [], [])) (ty := .int) (n := 2) rfl rfl rfl (by omega) (by omega) ?_
              show xEx G0 cdX12_grown (some .int) (xRn G0 MT (d + 1)) Q b 40 [some (.inr (.inr 66)), some (.inl 0), some (.inl w), some (.inl 0)] [.inl (h 88 0)] (xup h 66 0 0)
              exact E_ret (x := (.ireturn, 0, [], [])) (v := some (.inl (h 88 0))) rfl (Or.inl rfl) (h2 s22_2)
            · by_cases s22_3 : w = 3
              · refine E_sw (x := (.tableswitch 92 0 4 #[34, 50, 57, 64, 79], 57, [(0, 23), (1, 31), (2, 36), (3, 41), (4, 50)], [])) (t := 41) rfl rfl (by rw [s22_3]; decide +kernel) ?_
                show xEx G0 cdX12_grown (some .int) (xRn G0 MT (d + 1)) Q b 41 [some (.inr (.inr 66)), some (.inl 0), some (.inl w), some (.inl 0)] [] (xup h 66 0 0)
                refine E_s 3 (i' := 44) (ls' := [some (.inr (.inr 66)), some (.inl 0), some (.inl w), some (.inl 0)]) (sk' := [.inl 0, .inr (.inr 91)]) (h' := (xup h 66 0 0)) rfl ?_
                refine E_ld (x := (.baload, 0, [], [])) (ty := .boolean) (n := 2) rfl rfl rfl (by omega) (by omega) ?_
                show xEx G0 cdX12_grown (some .int) (xRn G0 MT (d + 1)) Q b 45 [some (.inr (.inr 66)), some (.inl 0), some (.inl w), some (.inl 0)] [.inl (h 91 0)] (xup h 66 0 0)
                refine E_b (x := (.ifCond .eq 7, 48, [], [])) rfl rfl (fun c45 => ?_) (fun c45 => ?_)
                · rw [c_eq (by first | assumption | (refine ⟨?_, ?_⟩ <;> omega) | (simp only [xr] at *; omega)) (by first | assumption | (refine ⟨?_, ?_⟩ <;> omega) | (simp only [xr] at *; omega))] at c45
                  simp only [decide_eq_true_eq, decide_eq_false_iff_not, Decidable.not_not] at c45
                  show xEx G0 cdX12_grown (some .int) (xRn G0 MT (d + 1)) Q b 48 [some (.inr (.inr 66)), some (.inl 0), some (.inl w), some (.inl 0)] [] (xup h 66 0 0)
                  refine E_s 1 (i' := 49) (ls' := [some (.inr (.inr 66)), some (.inl 0), some (.inl w), some (.inl 0)]) (sk' := [.inl 0]) (h' := (xup h 66 0 0)) rfl ?_
                  exact E_ret (x := (.ireturn, 0, [], [])) (v := some (.inl 0)) rfl (Or.inl rfl) (by
                    have e9 : h 91 0 = 0 := by omega
                    have r9 := h3 s22_3
                    rw [e9] at r9
                    exact r9)
                · rw [c_eq (by first | assumption | (refine ⟨?_, ?_⟩ <;> omega) | (simp only [xr] at *; omega)) (by first | assumption | (refine ⟨?_, ?_⟩ <;> omega) | (simp only [xr] at *; omega))] at c45
                  simp only [decide_eq_true_eq, decide_eq_false_iff_not, Decidable.not_not] at c45
                  show xEx G0 cdX12_grown (some .int) (xRn G0 MT (d + 1)) Q b 46 [some (.inr (.inr 66)), some (.inl 0), some (.inl w), some (.inl 0)] [] (xup h 66 0 0)
                  refine E_s 2 (i' := 49) (ls' := [some (.inr (.inr 66)), some (.inl 0), some (.inl w), some (.inl 0)]) (sk' := [.inl 1]) (h' := (xup h 66 0 0)) rfl ?_
                  exact E_ret (x := (.ireturn, 0, [], [])) (v := some (.inl 1)) rfl (Or.inl rfl) (by
                    have e9 : h 91 0 = 1 := by omega
                    have r9 := h3 s22_3
                    rw [e9] at r9
                    exact r9)
              · by_cases s22_4 : w = 4
                · refine E_sw (x := (.tableswitch 92 0 4 #[34, 50, 57, 64, 79], 57, [(0, 23), (1, 31), (2, 36), (3, 41), (4, 50)], [])) (t := 50) rfl rfl (by rw [s22_4]; decide +kernel) ?_
                  show xEx G0 cdX12_grown (some .int) (xRn G0 MT (d + 1)) Q b 50 [some (.inr (.inr 66)), some (.inl 0), some (.inl w), some (.inl 0)] [] (xup h 66 0 0)
                  refine E_s 1 (i' := 51) (ls' := [some (.inr (.inr 66)), some (.inl 0), some (.inl w), some (.inl 0)]) (sk' := [.inl 0]) (h' := (xup h 66 0 0)) rfl ?_
                  refine E_b (x := (.ifCond .eq 10, 55, [], [])) rfl rfl (fun c51 => ?_) (fun c51 => ?_)
                  · show xEx G0 cdX12_grown (some .int) (xRn G0 MT (d + 1)) Q b 55 [some (.inr (.inr 66)), some (.inl 0), some (.inl w), some (.inl 0)] [] (xup h 66 0 0)
                    refine E_s 1 (i' := 56) (ls' := [some (.inr (.inr 66)), some (.inl 0), some (.inl w), some (.inl 0)]) (sk' := [.inl 0]) (h' := (xup h 66 0 0)) rfl ?_
                    exact E_ret (x := (.ireturn, 0, [], [])) (v := some (.inl 0)) rfl (Or.inl rfl) (h4 s22_4)
                  · show xEx G0 cdX12_grown (some .int) (xRn G0 MT (d + 1)) Q b 52 [some (.inr (.inr 66)), some (.inl 0), some (.inl w), some (.inl 0)] [] (xup h 66 0 0)
                    exact absurd c51 (by decide)
                · refine E_sw (x := (.tableswitch 92 0 4 #[34, 50, 57, 64, 79], 57, [(0, 23), (1, 31), (2, 36), (3, 41), (4, 50)], [])) (t := 57) rfl rfl (by rw [w32_id hw]; simp only [xsw]; rw [if_neg (by omega)]; rw [if_neg (by omega)]; rw [if_neg (by omega)]; rw [if_neg (by omega)]; rw [if_neg (by omega)]; rfl) ?_
                  show xEx G0 cdX12_grown (some .int) (xRn G0 MT (d + 1)) Q b 57 [some (.inr (.inr 66)), some (.inl 0), some (.inl w), some (.inl 0)] [] (xup h 66 0 0)
                  refine E_s 3 (i' := 60) (ls' := [some (.inr (.inr 66)), some (.inl 0), some (.inl w), some (.inl 0)]) (sk' := [.inl 0, .inr (.inr 90)]) (h' := (xup h 66 0 0)) rfl ?_
                  refine E_ld (x := (.iaload, 0, [], [])) (ty := .int) (n := 2) rfl rfl rfl (by omega) (by omega) ?_
                  show xEx G0 cdX12_grown (some .int) (xRn G0 MT (d + 1)) Q b 61 [some (.inr (.inr 66)), some (.inl 0), some (.inl w), some (.inl 0)] [.inl (h 90 0)] (xup h 66 0 0)
                  exact E_ret (x := (.ireturn, 0, [], [])) (v := some (.inl (h 90 0))) rfl (Or.inl rfl) (h5 (by omega))
      · show xEx G0 cdX12_grown (some .int) (xRn G0 MT (d + 1)) Q b 17 [some (.inr (.inr 66)), some (.inl 0), some (.inl w), none] [] (xup h 66 0 0)
        exact absurd c16 (by decide)
    · show xEx G0 cdX12_grown (some .int) (xRn G0 MT (d + 1)) Q b 13 [some (.inr (.inr 66)), some (.inl 0), some (.inl w), none] [] (xup h 66 0 0)
      exact absurd c12 (by decide)
set_option maxHeartbeats 1000000 in
theorem CO_grown0 (d : Nat) {h : xH} (hI : Inv h) (w : Int) (hw : xr w) : CO (d + 6) 1 105 192 [.inl 0, .inl w] ["java/util/NoSuchElementException"] h := by
  obtain ⟨b0, b1, b2, b3, b4, b5, b6, b7, -⟩ := Inv_e hI
  have b8 : 0 ≤ h 91 0 ∧ h 91 0 ≤ 1 := by rw [b5]; exact b7
  have mm := fun u Q => m_grown0 (d + 4) 0 (xup h 112 0 u) w hw b8 (Q := Q)
  refine o_grown0 (d + 4) h w hw b7 (fun q u => ?_) (fun q u => ?_) (fun q u => ?_) (fun q u => ?_) (fun q u => ?_) (fun q u => ?_) (fun q u => ?_)
  · exact mm u _ (fun z => CO_v hI u b1.symm) (fun z => by omega) (fun z => by omega) (fun z => by omega) (fun z => by omega) (fun z => by omega) (fun z => absurd (show 0 ≤ w ∧ w ≤ 5 by omega) z)
  · exact mm u _ (fun z => by omega) (fun z => CO_v hI u b2.symm) (fun z => by omega) (fun z => by omega) (fun z => by omega) (fun z => by omega) (fun z => absurd (show 0 ≤ w ∧ w ≤ 5 by omega) z)
  · exact mm u _ (fun z => by omega) (fun z => by omega) (fun z => CO_v hI u b4.symm) (fun z => by omega) (fun z => by omega) (fun z => by omega) (fun z => absurd (show 0 ≤ w ∧ w ≤ 5 by omega) z)
  · exact mm u _ (fun z => by omega) (fun z => by omega) (fun z => by omega) (fun z => CO_v hI u b5.symm) (fun z => by omega) (fun z => by omega) (fun z => absurd (show 0 ≤ w ∧ w ≤ 5 by omega) z)
  · exact mm u _ (fun z => by omega) (fun z => by omega) (fun z => by omega) (fun z => by omega) (fun z => CO_v hI u b6) (fun z => by omega) (fun z => absurd (show 0 ≤ w ∧ w ≤ 5 by omega) z)
  · exact mm u _ (fun z => by omega) (fun z => by omega) (fun z => by omega) (fun z => by omega) (fun z => by omega) (fun z => CO_v hI u b3.symm) (fun z => absurd (show 0 ≤ w ∧ w ≤ 5 by omega) z)
  · exact mm u _ (fun z => absurd (show 0 ≤ w ∧ w ≤ 5 by omega) q) (fun z => absurd (show 0 ≤ w ∧ w ≤ 5 by omega) q) (fun z => absurd (show 0 ≤ w ∧ w ≤ 5 by omega) q) (fun z => absurd (show 0 ≤ w ∧ w ≤ 5 by omega) q) (fun z => absurd (show 0 ≤ w ∧ w ≤ 5 by omega) q) (fun z => absurd (show 0 ≤ w ∧ w ≤ 5 by omega) q) (fun _ => CO_x hI 0 rfl u 0)
set_option maxHeartbeats 1000000 in
theorem o_grown1 (d  : Nat) (h : xH) (w : Int) (hw : xr w) (hF : 0 ≤ h 28 14 ∧ h 28 14 ≤ 1) {Q : xO → xH → Prop} (h0 : w = 0 → Q (.inl (some (.inl (h 28 9)))) h) (h1 : w = 1 → Q (.inl (some (.inl (h 28 10)))) h) (h2 : w = 2 → Q (.inl (some (.inl (h 28 13)))) h) (h3 : w = 3 → Q (.inl (some (.inl (h 28 14)))) h) (h4 : w = 4 → Q (.inl (some (.inl (h 28 11)))) h) (h5 : w = 5 → Q (.inl (some (.inl (h 28 12)))) h) (hX : ¬ (0 ≤ w ∧ w ≤ 5) → Q (.inr "java/util/NoSuchElementException") h) : xRn G0 MT (d + 2) 1 105 [.inr (.inr 0), .inl 1, .inl w] h Q := by
  refine R_of (M := mX11_grown) rfl (Nat.le_of_ble_eq_true rfl) ?_
  show xEx G0 cdX11_grown (some .int) (xRn G0 MT (d + 1)) Q 1 0 [some (.inr (.inr 0)), some (.inl 1), some (.inl w), none] [] h
  refine E_s 2 (i' := 2) (ls' := [some (.inr (.inr 0)), some (.inl 1), some (.inl w), none]) (sk' := [.inl 1, .inr (.inr 0)]) (h' := h) rfl ?_
  refine E_cx (x := (.invokevirtual 161, 1, [(9, 142)], [0])) (b1 := 0) (b2 := 1) (v := (some (.inr (.inr 28)))) (q := fun h9 => (True) ∧ h = h9) rfl rfl (Nat.le_of_ble_eq_true rfl) (fun z => by cases z) (c_growthOf1 d 0 h (Or.inl ⟨rfl, trivial, rfl⟩)) (fun h9 hq9 => ?_)
  obtain ⟨_t, rfl⟩ := hq9
  show xEx G0 cdX11_grown (some .int) (xRn G0 MT (d + 1)) Q 1 3 [some (.inr (.inr 0)), some (.inl 1), some (.inl w), none] [.inr (.inr 28)] h
  refine E_s 2 (i' := 5) (ls' := [some (.inr (.inr 0)), some (.inl 1), some (.inl w), some (.inr (.inr 28))]) (sk' := [.inl w]) (h' := h) rfl ?_
  by_cases s5_0 : w = 0
  · refine E_sw (x := (.tableswitch 75 0 5 #[37, 42, 47, 52, 65, 70], 28, [(0, 6), (1, 9), (2, 12), (3, 15), (4, 22), (5, 25)], [])) (t := 6) rfl rfl (by rw [s5_0]; decide +kernel) ?_
    show xEx G0 cdX11_grown (some .int) (xRn G0 MT (d + 1)) Q 1 6 [some (.inr (.inr 0)), some (.inl 1), some (.inl w), some (.inr (.inr 28))] [] h
    refine E_s 2 (i' := 8) (ls' := [some (.inr (.inr 0)), some (.inl 1), some (.inl w), some (.inr (.inr 28))]) (sk' := [.inl (h 28 9)]) (h' := h) rfl ?_
    exact E_ret (x := (.ireturn, 0, [], [])) (v := some (.inl (h 28 9))) rfl (Or.inl rfl) (h0 s5_0)
  · by_cases s5_1 : w = 1
    · refine E_sw (x := (.tableswitch 75 0 5 #[37, 42, 47, 52, 65, 70], 28, [(0, 6), (1, 9), (2, 12), (3, 15), (4, 22), (5, 25)], [])) (t := 9) rfl rfl (by rw [s5_1]; decide +kernel) ?_
      show xEx G0 cdX11_grown (some .int) (xRn G0 MT (d + 1)) Q 1 9 [some (.inr (.inr 0)), some (.inl 1), some (.inl w), some (.inr (.inr 28))] [] h
      refine E_s 2 (i' := 11) (ls' := [some (.inr (.inr 0)), some (.inl 1), some (.inl w), some (.inr (.inr 28))]) (sk' := [.inl (h 28 10)]) (h' := h) rfl ?_
      exact E_ret (x := (.ireturn, 0, [], [])) (v := some (.inl (h 28 10))) rfl (Or.inl rfl) (h1 s5_1)
    · by_cases s5_2 : w = 2
      · refine E_sw (x := (.tableswitch 75 0 5 #[37, 42, 47, 52, 65, 70], 28, [(0, 6), (1, 9), (2, 12), (3, 15), (4, 22), (5, 25)], [])) (t := 12) rfl rfl (by rw [s5_2]; decide +kernel) ?_
        show xEx G0 cdX11_grown (some .int) (xRn G0 MT (d + 1)) Q 1 12 [some (.inr (.inr 0)), some (.inl 1), some (.inl w), some (.inr (.inr 28))] [] h
        refine E_s 2 (i' := 14) (ls' := [some (.inr (.inr 0)), some (.inl 1), some (.inl w), some (.inr (.inr 28))]) (sk' := [.inl (h 28 13)]) (h' := h) rfl ?_
        exact E_ret (x := (.ireturn, 0, [], [])) (v := some (.inl (h 28 13))) rfl (Or.inl rfl) (h2 s5_2)
      · by_cases s5_3 : w = 3
        · refine E_sw (x := (.tableswitch 75 0 5 #[37, 42, 47, 52, 65, 70], 28, [(0, 6), (1, 9), (2, 12), (3, 15), (4, 22), (5, 25)], [])) (t := 15) rfl rfl (by rw [s5_3]; decide +kernel) ?_
          show xEx G0 cdX11_grown (some .int) (xRn G0 MT (d + 1)) Q 1 15 [some (.inr (.inr 0)), some (.inl 1), some (.inl w), some (.inr (.inr 28))] [] h
          refine E_s 2 (i' := 17) (ls' := [some (.inr (.inr 0)), some (.inl 1), some (.inl w), some (.inr (.inr 28))]) (sk' := [.inl (h 28 14)]) (h' := h) rfl ?_
          refine E_b (x := (.ifCond .eq 7, 20, [], [])) rfl rfl (fun c17 => ?_) (fun c17 => ?_)
          · rw [c_eq (by first | assumption | (refine ⟨?_, ?_⟩ <;> omega) | (simp only [xr] at *; omega)) (by first | assumption | (refine ⟨?_, ?_⟩ <;> omega) | (simp only [xr] at *; omega))] at c17
            simp only [decide_eq_true_eq, decide_eq_false_iff_not, Decidable.not_not] at c17
            show xEx G0 cdX11_grown (some .int) (xRn G0 MT (d + 1)) Q 1 20 [some (.inr (.inr 0)), some (.inl 1), some (.inl w), some (.inr (.inr 28))] [] h
            refine E_s 1 (i' := 21) (ls' := [some (.inr (.inr 0)), some (.inl 1), some (.inl w), some (.inr (.inr 28))]) (sk' := [.inl 0]) (h' := h) rfl ?_
            exact E_ret (x := (.ireturn, 0, [], [])) (v := some (.inl 0)) rfl (Or.inl rfl) (by
              have e9 : h 28 14 = 0 := by omega
              have r9 := h3 s5_3
              rw [e9] at r9
              exact r9)
          · rw [c_eq (by first | assumption | (refine ⟨?_, ?_⟩ <;> omega) | (simp only [xr] at *; omega)) (by first | assumption | (refine ⟨?_, ?_⟩ <;> omega) | (simp only [xr] at *; omega))] at c17
            simp only [decide_eq_true_eq, decide_eq_false_iff_not, Decidable.not_not] at c17
            show xEx G0 cdX11_grown (some .int) (xRn G0 MT (d + 1)) Q 1 18 [some (.inr (.inr 0)), some (.inl 1), some (.inl w), some (.inr (.inr 28))] [] h
            refine E_s 2 (i' := 21) (ls' := [some (.inr (.inr 0)), some (.inl 1), some (.inl w), some (.inr (.inr 28))]) (sk' := [.inl 1]) (h' := h) rfl ?_
            exact E_ret (x := (.ireturn, 0, [], [])) (v := some (.inl 1)) rfl (Or.inl rfl) (by
              have e9 : h 28 14 = 1 := by omega
              have r9 := h3 s5_3
              rw [e9] at r9
              exact r9)
        · by_cases s5_4 : w = 4
          · refine E_sw (x := (.tableswitch 75 0 5 #[37, 42, 47, 52, 65, 70], 28, [(0, 6), (1, 9), (2, 12), (3, 15), (4, 22), (5, 25)], [])) (t := 22) rfl rfl (by rw [s5_4]; decide +kernel) ?_
            show xEx G0 cdX11_grown (some .int) (xRn G0 MT (d + 1)) Q 1 22 [some (.inr (.inr 0)), some (.inl 1), some (.inl w), some (.inr (.inr 28))] [] h
            refine E_s 2 (i' := 24) (ls' := [some (.inr (.inr 0)), some (.inl 1), some (.inl w), some (.inr (.inr 28))]) (sk' := [.inl (h 28 11)]) (h' := h) rfl ?_
            exact E_ret (x := (.ireturn, 0, [], [])) (v := some (.inl (h 28 11))) rfl (Or.inl rfl) (h4 s5_4)
          · by_cases s5_5 : w = 5
            · refine E_sw (x := (.tableswitch 75 0 5 #[37, 42, 47, 52, 65, 70], 28, [(0, 6), (1, 9), (2, 12), (3, 15), (4, 22), (5, 25)], [])) (t := 25) rfl rfl (by rw [s5_5]; decide +kernel) ?_
              show xEx G0 cdX11_grown (some .int) (xRn G0 MT (d + 1)) Q 1 25 [some (.inr (.inr 0)), some (.inl 1), some (.inl w), some (.inr (.inr 28))] [] h
              refine E_s 2 (i' := 27) (ls' := [some (.inr (.inr 0)), some (.inl 1), some (.inl w), some (.inr (.inr 28))]) (sk' := [.inl (h 28 12)]) (h' := h) rfl ?_
              exact E_ret (x := (.ireturn, 0, [], [])) (v := some (.inl (h 28 12))) rfl (Or.inl rfl) (h5 s5_5)
            · refine E_sw (x := (.tableswitch 75 0 5 #[37, 42, 47, 52, 65, 70], 28, [(0, 6), (1, 9), (2, 12), (3, 15), (4, 22), (5, 25)], [])) (t := 28) rfl rfl (by rw [w32_id hw]; simp only [xsw]; rw [if_neg (by omega)]; rw [if_neg (by omega)]; rw [if_neg (by omega)]; rw [if_neg (by omega)]; rw [if_neg (by omega)]; rw [if_neg (by omega)]; rfl) ?_
              show xEx G0 cdX11_grown (some .int) (xRn G0 MT (d + 1)) Q 1 28 [some (.inr (.inr 0)), some (.inl 1), some (.inl w), some (.inr (.inr 28))] [] h
              exact E_thr (x := (.new 189, 0, [(2, 0)], [])) rfl rfl rfl (Nat.le_of_ble_eq_true rfl) (hX (by omega))
set_option maxHeartbeats 1000000 in
theorem m_grown1 (d b : Nat) (h : xH) (w : Int) (hw : xr w) (hF : 0 ≤ h 91 1 ∧ h 91 1 ≤ 1) {Q : xO → xH → Prop} (h0 : w = 0 → Q (.inl (some (.inl (h 66 19)))) (xup h 66 0 0)) (h1 : w = 1 → Q (.inl (some (.inl (h 89 1)))) (xup h 66 0 0)) (h2 : w = 2 → Q (.inl (some (.inl (h 88 1)))) (xup h 66 0 0)) (h3 : w = 3 → Q (.inl (some (.inl (h 91 1)))) (xup h 66 0 0)) (h4 : w = 4 → Q (.inl (some (.inl (h 66 33)))) (xup h 66 0 0)) (h5 : w = 5 → Q (.inl (some (.inl (h 90 1)))) (xup h 66 0 0)) (hX : ¬ (0 ≤ w ∧ w ≤ 5) → Q (.inl (some (.inl (0)))) (xup h 66 0 1)) : xRn G0 MT (d + 2) b 192 [.inr (.inr 66), .inl 1, .inl w] h Q := by
  refine R_of (M := mX12_grown) rfl (Nat.le_of_ble_eq_true rfl) ?_
  show xEx G0 cdX12_grown (some .int) (xRn G0 MT (d + 1)) Q b 0 [some (.inr (.inr 66)), some (.inl 1), some (.inl w), none] [] h
  refine E_s 4 (i' := 4) (ls' := [some (.inr (.inr 66)), some (.inl 1), some (.inl w), none]) (sk' := [.inl 5, .inl 0, .inl w, .inr (.inr 66)]) (h' := h) rfl ?_
  refine E_cp (x := (.invokestatic 180, 3, [(0, 155)], [])) (q := fun r h9 => ((r = 1 ∧ (0 ≤ w ∧ w ≤ 5)) ∨ (r = 0 ∧ ¬ (0 ≤ w ∧ w ≤ 5))) ∧ h = h9) rfl rfl (Nat.le_of_ble_eq_true rfl) (m_isIn d 0 (h) w 0 5 hw ⟨by omega, by omega⟩ ⟨by omega, by omega⟩ (fun z => ⟨_, rfl, Or.inl ⟨rfl, z⟩, rfl⟩) (fun z => ⟨_, rfl, Or.inr ⟨rfl, z⟩, rfl⟩)) (fun r h9 q1 => ?_)
  obtain ⟨q1, rfl⟩ := q1
  show xEx G0 cdX12_grown (some .int) (xRn G0 MT (d + 1)) Q b 5 [some (.inr (.inr 66)), some (.inl 1), some (.inl w), none] [.inl r, .inr (.inr 66)] h
  refine E_b (x := (.ifCond .eq 7, 8, [], [])) rfl rfl (fun c5 => ?_) (fun c5 => ?_)
  · rw [c_eq (by first | assumption | (refine ⟨?_, ?_⟩ <;> omega) | (simp only [xr] at *; omega)) (by first | assumption | (refine ⟨?_, ?_⟩ <;> omega) | (simp only [xr] at *; omega))] at c5
    simp only [decide_eq_true_eq, decide_eq_false_iff_not, Decidable.not_not] at c5
    show xEx G0 cdX12_grown (some .int) (xRn G0 MT (d + 1)) Q b 8 [some (.inr (.inr 66)), some (.inl 1), some (.inl w), none] [.inr (.inr 66)] h
    refine E_s 4 (i' := 12) (ls' := [some (.inr (.inr 66)), some (.inl 1), some (.inl w), none]) (sk' := [.inl 1]) (h' := (xup h 66 0 1)) rfl ?_
    refine E_b (x := (.ifCond .le 5, 15, [], [])) rfl rfl (fun c12 => ?_) (fun c12 => ?_)
    · show xEx G0 cdX12_grown (some .int) (xRn G0 MT (d + 1)) Q b 15 [some (.inr (.inr 66)), some (.inl 1), some (.inl w), none] [] (xup h 66 0 1)
      exact absurd c12 (by decide)
    · show xEx G0 cdX12_grown (some .int) (xRn G0 MT (d + 1)) Q b 13 [some (.inr (.inr 66)), some (.inl 1), some (.inl w), none] [] (xup h 66 0 1)
      refine E_s 1 (i' := 14) (ls' := [some (.inr (.inr 66)), some (.inl 1), some (.inl w), none]) (sk' := [.inl 0]) (h' := (xup h 66 0 1)) rfl ?_
      exact E_ret (x := (.ireturn, 0, [], [])) (v := some (.inl 0)) rfl (Or.inl rfl) (hX (by omega))
  · rw [c_eq (by first | assumption | (refine ⟨?_, ?_⟩ <;> omega) | (simp only [xr] at *; omega)) (by first | assumption | (refine ⟨?_, ?_⟩ <;> omega) | (simp only [xr] at *; omega))] at c5
    simp only [decide_eq_true_eq, decide_eq_false_iff_not, Decidable.not_not] at c5
    show xEx G0 cdX12_grown (some .int) (xRn G0 MT (d + 1)) Q b 6 [some (.inr (.inr 66)), some (.inl 1), some (.inl w), none] [.inr (.inr 66)] h
    refine E_s 5 (i' := 12) (ls' := [some (.inr (.inr 66)), some (.inl 1), some (.inl w), none]) (sk' := [.inl 0]) (h' := (xup h 66 0 0)) rfl ?_
    refine E_b (x := (.ifCond .le 5, 15, [], [])) rfl rfl (fun c12 => ?_) (fun c12 => ?_)
    · show xEx G0 cdX12_grown (some .int) (xRn G0 MT (d + 1)) Q b 15 [some (.inr (.inr 66)), some (.inl 1), some (.inl w), none] [] (xup h 66 0 0)
      refine E_s 1 (i' := 16) (ls' := [some (.inr (.inr 66)), some (.inl 1), some (.inl w), none]) (sk' := [.inl 1]) (h' := (xup h 66 0 0)) rfl ?_
      refine E_b (x := (.ifCond .eq 7, 19, [], [])) rfl rfl (fun c16 => ?_) (fun c16 => ?_)
      · show xEx G0 cdX12_grown (some .int) (xRn G0 MT (d + 1)) Q b 19 [some (.inr (.inr 66)), some (.inl 1), some (.inl w), none] [] (xup h 66 0 0)
        exact absurd c16 (by decide)
      · show xEx G0 cdX12_grown (some .int) (xRn G0 MT (d + 1)) Q b 17 [some (.inr (.inr 66)), some (.inl 1), some (.inl w), none] [] (xup h 66 0 0)
        refine E_s 4 (i' := 22) (ls' := [some (.inr (.inr 66)), some (.inl 1), some (.inl w), some (.inl 1)]) (sk' := [.inl w]) (h' := (xup h 66 0 0)) rfl ?_
        by_cases s22_0 : w = 0
        · refine E_sw (x := (.tableswitch 92 0 4 #[34, 50, 57, 64, 79], 57, [(0, 23), (1, 31), (2, 36), (3, 41), (4, 50)], [])) (t := 23) rfl rfl (by rw [s22_0]; decide +kernel) ?_
          show xEx G0 cdX12_grown (some .int) (xRn G0 MT (d + 1)) Q b 23 [some (.inr (.inr 66)), some (.inl 1), some (.inl w), some (.inl 1)] [] (xup h 66 0 0)
          refine E_s 1 (i' := 24) (ls' := [some (.inr (.inr 66)), some (.inl 1), some (.inl w), some (.inl 1)]) (sk' := [.inl 1]) (h' := (xup h 66 0 0)) rfl ?_
          refine E_b (x := (.ifCond .eq 10, 28, [], [])) rfl rfl (fun c24 => ?_) (fun c24 => ?_)
          · show xEx G0 cdX12_grown (some .int) (xRn G0 MT (d + 1)) Q b 28 [some (.inr (.inr 66)), some (.inl 1), some (.inl w), some (.inl 1)] [] (xup h 66 0 0)
            exact absurd c24 (by decide)
          · show xEx G0 cdX12_grown (some .int) (xRn G0 MT (d + 1)) Q b 25 [some (.inr (.inr 66)), some (.inl 1), some (.inl w), some (.inl 1)] [] (xup h 66 0 0)
            refine E_s 3 (i' := 30) (ls' := [some (.inr (.inr 66)), some (.inl 1), some (.inl w), some (.inl 1)]) (sk' := [.inl (h 66 19)]) (h' := (xup h 66 0 0)) rfl ?_
            exact E_ret (x := (.ireturn, 0, [], [])) (v := some (.inl (h 66 19))) rfl (Or.inl rfl) (h0 s22_0)
        · by_cases s22_1 : w = 1
          · refine E_sw (x := (.tableswitch 92 0 4 #[34, 50, 57, 64, 79], 57, [(0, 23), (1, 31), (2, 36), (3, 41), (4, 50)], [])) (t := 31) rfl rfl (by rw [s22_1]; decide +kernel) ?_
            show xEx G0 cdX12_grown (some .int) (xRn G0 MT (d + 1)) Q b 31 [some (.inr (.inr 66)), some (.inl 1), some (.inl w), some (.inl 1)] [] (xup h 66 0 0)
            refine E_s 3 (i' := 34) (ls' := [some (.inr (.inr 66)), some (.inl 1), some (.inl w), some (.inl 1)]) (sk' := [.inl 1, .inr (.inr 89)]) (h' := (xup h 66 0 0)) rfl ?_
            refine E_ld (x := (.iaload, 0, [], [])) (ty := .int) (n := 2) rfl rfl rfl (by omega) (by omega) ?_
            show xEx G0 cdX12_grown (some .int) (xRn G0 MT (d + 1)) Q b 35 [some (.inr (.inr 66)), some (.inl 1), some (.inl w), some (.inl 1)] [.inl (h 89 1)] (xup h 66 0 0)
            exact E_ret (x := (.ireturn, 0, [], [])) (v := some (.inl (h 89 1))) rfl (Or.inl rfl) (h1 s22_1)
          · by_cases s22_2 : w = 2
            · refine E_sw (x := (.tableswitch 92 0 4 #[34, 50, 57, 64, 79], 57, [(0, 23), (1, 31), (2, 36), (3, 41), (4, 50)], [])) (t := 36) rfl rfl (by rw [s22_2]; decide +kernel) ?_
              show xEx G0 cdX12_grown (some .int) (xRn G0 MT (d + 1)) Q b 36 [some (.inr (.inr 66)), some (.inl 1), some (.inl w), some (.inl 1)] [] (xup h 66 0 0)
              refine E_s 3 (i' := 39) (ls' := [some (.inr (.inr 66)), some (.inl 1), some (.inl w), some (.inl 1)]) (sk' := [.inl 1, .inr (.inr 88)]) (h' := (xup h 66 0 0)) rfl ?_
              refine E_ld (x := (.iaload, 0, [], [])) (ty := .int) (n := 2) rfl rfl rfl (by omega) (by omega) ?_
              show xEx G0 cdX12_grown (some .int) (xRn G0 MT (d + 1)) Q b 40 [some (.inr (.inr 66)), some (.inl 1), some (.inl w), some (.inl 1)] [.inl (h 88 1)] (xup h 66 0 0)
              exact E_ret (x := (.ireturn, 0, [], [])) (v := some (.inl (h 88 1))) rfl (Or.inl rfl) (h2 s22_2)
            · by_cases s22_3 : w = 3
              · refine E_sw (x := (.tableswitch 92 0 4 #[34, 50, 57, 64, 79], 57, [(0, 23), (1, 31), (2, 36), (3, 41), (4, 50)], [])) (t := 41) rfl rfl (by rw [s22_3]; decide +kernel) ?_
                show xEx G0 cdX12_grown (some .int) (xRn G0 MT (d + 1)) Q b 41 [some (.inr (.inr 66)), some (.inl 1), some (.inl w), some (.inl 1)] [] (xup h 66 0 0)
                refine E_s 3 (i' := 44) (ls' := [some (.inr (.inr 66)), some (.inl 1), some (.inl w), some (.inl 1)]) (sk' := [.inl 1, .inr (.inr 91)]) (h' := (xup h 66 0 0)) rfl ?_
                refine E_ld (x := (.baload, 0, [], [])) (ty := .boolean) (n := 2) rfl rfl rfl (by omega) (by omega) ?_
                show xEx G0 cdX12_grown (some .int) (xRn G0 MT (d + 1)) Q b 45 [some (.inr (.inr 66)), some (.inl 1), some (.inl w), some (.inl 1)] [.inl (h 91 1)] (xup h 66 0 0)
                refine E_b (x := (.ifCond .eq 7, 48, [], [])) rfl rfl (fun c45 => ?_) (fun c45 => ?_)
                · rw [c_eq (by first | assumption | (refine ⟨?_, ?_⟩ <;> omega) | (simp only [xr] at *; omega)) (by first | assumption | (refine ⟨?_, ?_⟩ <;> omega) | (simp only [xr] at *; omega))] at c45
                  simp only [decide_eq_true_eq, decide_eq_false_iff_not, Decidable.not_not] at c45
                  show xEx G0 cdX12_grown (some .int) (xRn G0 MT (d + 1)) Q b 48 [some (.inr (.inr 66)), some (.inl 1), some (.inl w), some (.inl 1)] [] (xup h 66 0 0)
                  refine E_s 1 (i' := 49) (ls' := [some (.inr (.inr 66)), some (.inl 1), some (.inl w), some (.inl 1)]) (sk' := [.inl 0]) (h' := (xup h 66 0 0)) rfl ?_
                  exact E_ret (x := (.ireturn, 0, [], [])) (v := some (.inl 0)) rfl (Or.inl rfl) (by
                    have e9 : h 91 1 = 0 := by omega
                    have r9 := h3 s22_3
                    rw [e9] at r9
                    exact r9)
                · rw [c_eq (by first | assumption | (refine ⟨?_, ?_⟩ <;> omega) | (simp only [xr] at *; omega)) (by first | assumption | (refine ⟨?_, ?_⟩ <;> omega) | (simp only [xr] at *; omega))] at c45
                  simp only [decide_eq_true_eq, decide_eq_false_iff_not, Decidable.not_not] at c45
                  show xEx G0 cdX12_grown (some .int) (xRn G0 MT (d + 1)) Q b 46 [some (.inr (.inr 66)), some (.inl 1), some (.inl w), some (.inl 1)] [] (xup h 66 0 0)
                  refine E_s 2 (i' := 49) (ls' := [some (.inr (.inr 66)), some (.inl 1), some (.inl w), some (.inl 1)]) (sk' := [.inl 1]) (h' := (xup h 66 0 0)) rfl ?_
                  exact E_ret (x := (.ireturn, 0, [], [])) (v := some (.inl 1)) rfl (Or.inl rfl) (by
                    have e9 : h 91 1 = 1 := by omega
                    have r9 := h3 s22_3
                    rw [e9] at r9
                    exact r9)
              · by_cases s22_4 : w = 4
                · refine E_sw (x := (.tableswitch 92 0 4 #[34, 50, 57, 64, 79], 57, [(0, 23), (1, 31), (2, 36), (3, 41), (4, 50)], [])) (t := 50) rfl rfl (by rw [s22_4]; decide +kernel) ?_
                  show xEx G0 cdX12_grown (some .int) (xRn G0 MT (d + 1)) Q b 50 [some (.inr (.inr 66)), some (.inl 1), some (.inl w), some (.inl 1)] [] (xup h 66 0 0)
                  refine E_s 1 (i' := 51) (ls' := [some (.inr (.inr 66)), some (.inl 1), some (.inl w), some (.inl 1)]) (sk' := [.inl 1]) (h' := (xup h 66 0 0)) rfl ?_
                  refine E_b (x := (.ifCond .eq 10, 55, [], [])) rfl rfl (fun c51 => ?_) (fun c51 => ?_)
                  · show xEx G0 cdX12_grown (some .int) (xRn G0 MT (d + 1)) Q b 55 [some (.inr (.inr 66)), some (.inl 1), some (.inl w), some (.inl 1)] [] (xup h 66 0 0)
                    exact absurd c51 (by decide)
                  · show xEx G0 cdX12_grown (some .int) (xRn G0 MT (d + 1)) Q b 52 [some (.inr (.inr 66)), some (.inl 1), some (.inl w), some (.inl 1)] [] (xup h 66 0 0)
                    refine E_s 3 (i' := 56) (ls' := [some (.inr (.inr 66)), some (.inl 1), some (.inl w), some (.inl 1)]) (sk' := [.inl (h 66 33)]) (h' := (xup h 66 0 0)) rfl ?_
                    exact E_ret (x := (.ireturn, 0, [], [])) (v := some (.inl (h 66 33))) rfl (Or.inl rfl) (h4 s22_4)
                · refine E_sw (x := (.tableswitch 92 0 4 #[34, 50, 57, 64, 79], 57, [(0, 23), (1, 31), (2, 36), (3, 41), (4, 50)], [])) (t := 57) rfl rfl (by rw [w32_id hw]; simp only [xsw]; rw [if_neg (by omega)]; rw [if_neg (by omega)]; rw [if_neg (by omega)]; rw [if_neg (by omega)]; rw [if_neg (by omega)]; rfl) ?_
                  show xEx G0 cdX12_grown (some .int) (xRn G0 MT (d + 1)) Q b 57 [some (.inr (.inr 66)), some (.inl 1), some (.inl w), some (.inl 1)] [] (xup h 66 0 0)
                  refine E_s 3 (i' := 60) (ls' := [some (.inr (.inr 66)), some (.inl 1), some (.inl w), some (.inl 1)]) (sk' := [.inl 1, .inr (.inr 90)]) (h' := (xup h 66 0 0)) rfl ?_
                  refine E_ld (x := (.iaload, 0, [], [])) (ty := .int) (n := 2) rfl rfl rfl (by omega) (by omega) ?_
                  show xEx G0 cdX12_grown (some .int) (xRn G0 MT (d + 1)) Q b 61 [some (.inr (.inr 66)), some (.inl 1), some (.inl w), some (.inl 1)] [.inl (h 90 1)] (xup h 66 0 0)
                  exact E_ret (x := (.ireturn, 0, [], [])) (v := some (.inl (h 90 1))) rfl (Or.inl rfl) (h5 (by omega))
    · show xEx G0 cdX12_grown (some .int) (xRn G0 MT (d + 1)) Q b 13 [some (.inr (.inr 66)), some (.inl 1), some (.inl w), none] [] (xup h 66 0 0)
      exact absurd c12 (by decide)
set_option maxHeartbeats 1000000 in
theorem CO_grown1 (d : Nat) {h : xH} (hI : Inv h) (w : Int) (hw : xr w) : CO (d + 6) 1 105 192 [.inl 1, .inl w] ["java/util/NoSuchElementException"] h := by
  obtain ⟨b0, b1, b2, b3, b4, b5, b6, b7, -⟩ := Inv_t hI
  have b8 : 0 ≤ h 91 1 ∧ h 91 1 ≤ 1 := by rw [b5]; exact b7
  have mm := fun u Q => m_grown1 (d + 4) 0 (xup h 112 0 u) w hw b8 (Q := Q)
  refine o_grown1 (d + 4) h w hw b7 (fun q u => ?_) (fun q u => ?_) (fun q u => ?_) (fun q u => ?_) (fun q u => ?_) (fun q u => ?_) (fun q u => ?_)
  · exact mm u _ (fun z => CO_v hI u b1.symm) (fun z => by omega) (fun z => by omega) (fun z => by omega) (fun z => by omega) (fun z => by omega) (fun z => absurd (show 0 ≤ w ∧ w ≤ 5 by omega) z)
  · exact mm u _ (fun z => by omega) (fun z => CO_v hI u b2.symm) (fun z => by omega) (fun z => by omega) (fun z => by omega) (fun z => by omega) (fun z => absurd (show 0 ≤ w ∧ w ≤ 5 by omega) z)
  · exact mm u _ (fun z => by omega) (fun z => by omega) (fun z => CO_v hI u b4.symm) (fun z => by omega) (fun z => by omega) (fun z => by omega) (fun z => absurd (show 0 ≤ w ∧ w ≤ 5 by omega) z)
  · exact mm u _ (fun z => by omega) (fun z => by omega) (fun z => by omega) (fun z => CO_v hI u b5.symm) (fun z => by omega) (fun z => by omega) (fun z => absurd (show 0 ≤ w ∧ w ≤ 5 by omega) z)
  · exact mm u _ (fun z => by omega) (fun z => by omega) (fun z => by omega) (fun z => by omega) (fun z => CO_v hI u b6.symm) (fun z => by omega) (fun z => absurd (show 0 ≤ w ∧ w ≤ 5 by omega) z)
  · exact mm u _ (fun z => by omega) (fun z => by omega) (fun z => by omega) (fun z => by omega) (fun z => by omega) (fun z => CO_v hI u b3.symm) (fun z => absurd (show 0 ≤ w ∧ w ≤ 5 by omega) z)
  · exact mm u _ (fun z => absurd (show 0 ≤ w ∧ w ≤ 5 by omega) q) (fun z => absurd (show 0 ≤ w ∧ w ≤ 5 by omega) q) (fun z => absurd (show 0 ≤ w ∧ w ≤ 5 by omega) q) (fun z => absurd (show 0 ≤ w ∧ w ≤ 5 by omega) q) (fun z => absurd (show 0 ≤ w ∧ w ≤ 5 by omega) q) (fun z => absurd (show 0 ≤ w ∧ w ≤ 5 by omega) q) (fun _ => CO_x hI 0 rfl u 0)
set_option maxHeartbeats 1000000 in
theorem o_kept0 (d  : Nat) (h : xH) (k w : Int) (hk : xr k) (hw : xr w) (hK0 : 0 ≤ h 9 9 ∧ h 9 9 ≤ 300) {Q : xO → xH → Prop} (h0 : (0 ≤ k ∧ k < h 9 9) → w = 0 → Q (.inl (some (.inl (h 18 k)))) h) (h1 : (0 ≤ k ∧ k < h 9 9) → w = 1 → Q (.inl (some (.inl (h 21 k)))) h) (h2 : (0 ≤ k ∧ k < h 9 9) → w = 2 → Q (.inl (some (.inl (h 20 k)))) h) (hX : ¬ ((0 ≤ k ∧ k < h 9 9) ∧ 0 ≤ w ∧ w ≤ 2) → Q (.inr "java/util/NoSuchElementException") h) : xRn G0 MT (d + 4) 2 106 [.inr (.inr 0), .inl 0, .inl k, .inl w] h Q := by
  refine R_of (M := mX11_kept) rfl (Nat.le_of_ble_eq_true rfl) ?_
  show xEx G0 cdX11_kept (some .int) (xRn G0 MT (d + 3)) Q 2 0 [some (.inr (.inr 0)), some (.inl 0), some (.inl k), some (.inl w), none] [] h
  refine E_s 3 (i' := 3) (ls' := [some (.inr (.inr 0)), some (.inl 0), some (.inl k), some (.inl w), none]) (sk' := [.inl k, .inl 0, .inr (.inr 0)]) (h' := h) rfl ?_
  refine E_cx (x := (.invokevirtual 194, 2, [(9, 143)], [0])) (b1 := 1) (b2 := 1) (v := (some (.inr (.inr 9)))) (q := fun h9 => (0 ≤ k ∧ k < h 9 9) ∧ h = h9) rfl rfl (Nat.le_of_ble_eq_true rfl) (fun z => by cases z) (c_growthWith0 d h k hk hK0 (fun z => Or.inl ⟨rfl, z, rfl⟩) (fun z => Or.inr ⟨_, rfl, hX (fun y => z y.1)⟩)) (fun h9 hq9 => ?_)
  obtain ⟨qk, rfl⟩ := hq9
  show xEx G0 cdX11_kept (some .int) (xRn G0 MT (d + 3)) Q 1 4 [some (.inr (.inr 0)), some (.inl 0), some (.inl k), some (.inl w), none] [.inr (.inr 9)] h
  refine E_s 2 (i' := 6) (ls' := [some (.inr (.inr 0)), some (.inl 0), some (.inl k), some (.inl w), some (.inr (.inr 9))]) (sk' := [.inl w]) (h' := h) rfl ?_
  by_cases s6_0 : w = 0
  · refine E_sw (x := (.tableswitch 51 0 2 #[27, 35, 43], 22, [(0, 7), (1, 12), (2, 17)], [])) (t := 7) rfl rfl (by rw [s6_0]; decide +kernel) ?_
    show xEx G0 cdX11_kept (some .int) (xRn G0 MT (d + 3)) Q 1 7 [some (.inr (.inr 0)), some (.inl 0), some (.inl k), some (.inl w), some (.inr (.inr 9))] [] h
    refine E_s 3 (i' := 10) (ls' := [some (.inr (.inr 0)), some (.inl 0), some (.inl k), some (.inl w), some (.inr (.inr 9))]) (sk' := [.inl k, .inr (.inr 18)]) (h' := h) rfl ?_
    refine E_ld (x := (.iaload, 0, [], [])) (ty := .int) (n := 300) rfl rfl rfl (by omega) (by omega) ?_
    show xEx G0 cdX11_kept (some .int) (xRn G0 MT (d + 3)) Q 1 11 [some (.inr (.inr 0)), some (.inl 0), some (.inl k), some (.inl w), some (.inr (.inr 9))] [.inl (h 18 k)] h
    exact E_ret (x := (.ireturn, 0, [], [])) (v := some (.inl (h 18 k))) rfl (Or.inl rfl) (h0 qk s6_0)
  · by_cases s6_1 : w = 1
    · refine E_sw (x := (.tableswitch 51 0 2 #[27, 35, 43], 22, [(0, 7), (1, 12), (2, 17)], [])) (t := 12) rfl rfl (by rw [s6_1]; decide +kernel) ?_
      show xEx G0 cdX11_kept (some .int) (xRn G0 MT (d + 3)) Q 1 12 [some (.inr (.inr 0)), some (.inl 0), some (.inl k), some (.inl w), some (.inr (.inr 9))] [] h
      refine E_s 3 (i' := 15) (ls' := [some (.inr (.inr 0)), some (.inl 0), some (.inl k), some (.inl w), some (.inr (.inr 9))]) (sk' := [.inl k, .inr (.inr 21)]) (h' := h) rfl ?_
      refine E_ld (x := (.iaload, 0, [], [])) (ty := .int) (n := 300) rfl rfl rfl (by omega) (by omega) ?_
      show xEx G0 cdX11_kept (some .int) (xRn G0 MT (d + 3)) Q 1 16 [some (.inr (.inr 0)), some (.inl 0), some (.inl k), some (.inl w), some (.inr (.inr 9))] [.inl (h 21 k)] h
      exact E_ret (x := (.ireturn, 0, [], [])) (v := some (.inl (h 21 k))) rfl (Or.inl rfl) (h1 qk s6_1)
    · by_cases s6_2 : w = 2
      · refine E_sw (x := (.tableswitch 51 0 2 #[27, 35, 43], 22, [(0, 7), (1, 12), (2, 17)], [])) (t := 17) rfl rfl (by rw [s6_2]; decide +kernel) ?_
        show xEx G0 cdX11_kept (some .int) (xRn G0 MT (d + 3)) Q 1 17 [some (.inr (.inr 0)), some (.inl 0), some (.inl k), some (.inl w), some (.inr (.inr 9))] [] h
        refine E_s 3 (i' := 20) (ls' := [some (.inr (.inr 0)), some (.inl 0), some (.inl k), some (.inl w), some (.inr (.inr 9))]) (sk' := [.inl k, .inr (.inr 20)]) (h' := h) rfl ?_
        refine E_ld (x := (.iaload, 0, [], [])) (ty := .int) (n := 300) rfl rfl rfl (by omega) (by omega) ?_
        show xEx G0 cdX11_kept (some .int) (xRn G0 MT (d + 3)) Q 1 21 [some (.inr (.inr 0)), some (.inl 0), some (.inl k), some (.inl w), some (.inr (.inr 9))] [.inl (h 20 k)] h
        exact E_ret (x := (.ireturn, 0, [], [])) (v := some (.inl (h 20 k))) rfl (Or.inl rfl) (h2 qk s6_2)
      · refine E_sw (x := (.tableswitch 51 0 2 #[27, 35, 43], 22, [(0, 7), (1, 12), (2, 17)], [])) (t := 22) rfl rfl (by rw [w32_id hw]; simp only [xsw]; rw [if_neg (by omega)]; rw [if_neg (by omega)]; rw [if_neg (by omega)]; rfl) ?_
        show xEx G0 cdX11_kept (some .int) (xRn G0 MT (d + 3)) Q 1 22 [some (.inr (.inr 0)), some (.inl 0), some (.inl k), some (.inl w), some (.inr (.inr 9))] [] h
        exact E_thr (x := (.new 189, 0, [(2, 0)], [])) rfl rfl rfl (Nat.le_of_ble_eq_true rfl) (hX (by omega))
set_option maxHeartbeats 1000000 in
theorem m_kept0 (d b : Nat) (h : xH) (k w : Int) (hk : xr k) (hw : xr w) (hM0 : 0 ≤ h 66 8 ∧ h 66 8 ≤ 300) {Q : xO → xH → Prop} (h0 : (0 ≤ k ∧ k < h 66 8) → w = 0 → Q (.inl (some (.inl (h 75 k)))) (xup h 66 0 0)) (h1 : (0 ≤ k ∧ k < h 66 8) → w = 1 → Q (.inl (some (.inl (h 76 k)))) (xup h 66 0 0)) (h2 : (0 ≤ k ∧ k < h 66 8) → w = 2 → Q (.inl (some (.inl (h 78 k)))) (xup h 66 0 0)) (hX : ¬ ((0 ≤ k ∧ k < h 66 8) ∧ 0 ≤ w ∧ w ≤ 2) → Q (.inl (some (.inl (0)))) (xup h 66 0 1)) : xRn G0 MT (d + 3) b 194 [.inr (.inr 66), .inl 0, .inl k, .inl w] h Q := by
  refine R_of (M := mX12_kept) rfl (Nat.le_of_ble_eq_true rfl) ?_
  show xEx G0 cdX12_kept (some .int) (xRn G0 MT (d + 2)) Q b 0 [some (.inr (.inr 66)), some (.inl 0), some (.inl k), some (.inl w)] [] h
  refine E_s 4 (i' := 4) (ls' := [some (.inr (.inr 66)), some (.inl 0), some (.inl k), some (.inl w)]) (sk' := [.inl k, .inl 0, .inr (.inr 66), .inr (.inr 66)]) (h' := h) rfl ?_
  refine E_cp (x := (.invokevirtual 295, 2, [(10, 193)], [0])) (q := fun r1 h9 => ((r1 = 1 ∧ (0 ≤ k ∧ k < h 66 8)) ∨ (r1 = 0 ∧ ¬ (0 ≤ k ∧ k < h 66 8))) ∧ h = h9) rfl rfl (Nat.le_of_ble_eq_true rfl) (m_isKept0 d 0 h k hk hM0 (fun z => ⟨_, rfl, Or.inl ⟨rfl, z⟩, rfl⟩) (fun z => ⟨_, rfl, Or.inr ⟨rfl, z⟩, rfl⟩)) (fun r1 h9 q1 => ?_)
  obtain ⟨q1, rfl⟩ := q1
  show xEx G0 cdX12_kept (some .int) (xRn G0 MT (d + 2)) Q b 5 [some (.inr (.inr 66)), some (.inl 0), some (.inl k), some (.inl w)] [.inl r1, .inr (.inr 66)] h
  refine E_b (x := (.ifCond .eq 12, 11, [], [])) rfl rfl (fun c5 => ?_) (fun c5 => ?_)
  · rw [c_eq (by first | assumption | (refine ⟨?_, ?_⟩ <;> omega) | (simp only [xr] at *; omega)) (by first | assumption | (refine ⟨?_, ?_⟩ <;> omega) | (simp only [xr] at *; omega))] at c5
    simp only [decide_eq_true_eq, decide_eq_false_iff_not, Decidable.not_not] at c5
    show xEx G0 cdX12_kept (some .int) (xRn G0 MT (d + 2)) Q b 11 [some (.inr (.inr 66)), some (.inl 0), some (.inl k), some (.inl w)] [.inr (.inr 66)] h
    refine E_s 5 (i' := 17) (ls' := [some (.inr (.inr 66)), some (.inl 0), some (.inl k), some (.inl w)]) (sk' := [.inl 1]) (h' := (xup h 66 0 1)) rfl ?_
    refine E_b (x := (.ifCond .le 5, 20, [], [])) rfl rfl (fun c17 => ?_) (fun c17 => ?_)
    · show xEx G0 cdX12_kept (some .int) (xRn G0 MT (d + 2)) Q b 20 [some (.inr (.inr 66)), some (.inl 0), some (.inl k), some (.inl w)] [] (xup h 66 0 1)
      exact absurd c17 (by decide)
    · show xEx G0 cdX12_kept (some .int) (xRn G0 MT (d + 2)) Q b 18 [some (.inr (.inr 66)), some (.inl 0), some (.inl k), some (.inl w)] [] (xup h 66 0 1)
      refine E_s 1 (i' := 19) (ls' := [some (.inr (.inr 66)), some (.inl 0), some (.inl k), some (.inl w)]) (sk' := [.inl 0]) (h' := (xup h 66 0 1)) rfl ?_
      exact E_ret (x := (.ireturn, 0, [], [])) (v := some (.inl 0)) rfl (Or.inl rfl) (hX (by omega))
  · rw [c_eq (by first | assumption | (refine ⟨?_, ?_⟩ <;> omega) | (simp only [xr] at *; omega)) (by first | assumption | (refine ⟨?_, ?_⟩ <;> omega) | (simp only [xr] at *; omega))] at c5
    simp only [decide_eq_true_eq, decide_eq_false_iff_not, Decidable.not_not] at c5
    show xEx G0 cdX12_kept (some .int) (xRn G0 MT (d + 2)) Q b 6 [some (.inr (.inr 66)), some (.inl 0), some (.inl k), some (.inl w)] [.inr (.inr 66)] h
    refine E_s 3 (i' := 9) (ls' := [some (.inr (.inr 66)), some (.inl 0), some (.inl k), some (.inl w)]) (sk' := [.inl 2, .inl 0, .inl w, .inr (.inr 66)]) (h' := h) rfl ?_
    refine E_cp (x := (.invokestatic 180, 3, [(0, 155)], [])) (q := fun r2 h9 => ((r2 = 1 ∧ (0 ≤ w ∧ w ≤ 2)) ∨ (r2 = 0 ∧ ¬ (0 ≤ w ∧ w ≤ 2))) ∧ h = h9) rfl rfl (Nat.le_of_ble_eq_true rfl) (m_isIn (d + 1) 0 (h) w 0 2 hw ⟨by omega, by omega⟩ ⟨by omega, by omega⟩ (fun z => ⟨_, rfl, Or.inl ⟨rfl, z⟩, rfl⟩) (fun z => ⟨_, rfl, Or.inr ⟨rfl, z⟩, rfl⟩)) (fun r2 h9 q2 => ?_)
    obtain ⟨q2, rfl⟩ := q2
    show xEx G0 cdX12_kept (some .int) (xRn G0 MT (d + 2)) Q b 10 [some (.inr (.inr 66)), some (.inl 0), some (.inl k), some (.inl w)] [.inl r2, .inr (.inr 66)] h
    refine E_b (x := (.ifCond .ne 7, 13, [], [])) rfl rfl (fun c10 => ?_) (fun c10 => ?_)
    · rw [c_ne (by first | assumption | (refine ⟨?_, ?_⟩ <;> omega) | (simp only [xr] at *; omega)) (by first | assumption | (refine ⟨?_, ?_⟩ <;> omega) | (simp only [xr] at *; omega))] at c10
      simp only [decide_eq_true_eq, decide_eq_false_iff_not, Decidable.not_not] at c10
      show xEx G0 cdX12_kept (some .int) (xRn G0 MT (d + 2)) Q b 13 [some (.inr (.inr 66)), some (.inl 0), some (.inl k), some (.inl w)] [.inr (.inr 66)] h
      refine E_s 4 (i' := 17) (ls' := [some (.inr (.inr 66)), some (.inl 0), some (.inl k), some (.inl w)]) (sk' := [.inl 0]) (h' := (xup h 66 0 0)) rfl ?_
      refine E_b (x := (.ifCond .le 5, 20, [], [])) rfl rfl (fun c17 => ?_) (fun c17 => ?_)
      · show xEx G0 cdX12_kept (some .int) (xRn G0 MT (d + 2)) Q b 20 [some (.inr (.inr 66)), some (.inl 0), some (.inl k), some (.inl w)] [] (xup h 66 0 0)
        refine E_s 1 (i' := 21) (ls' := [some (.inr (.inr 66)), some (.inl 0), some (.inl k), some (.inl w)]) (sk' := [.inl w]) (h' := (xup h 66 0 0)) rfl ?_
        refine E_b (x := (.ifCond .ne 23, 34, [], [])) rfl rfl (fun c21 => ?_) (fun c21 => ?_)
        · rw [c_ne (by first | assumption | (refine ⟨?_, ?_⟩ <;> omega) | (simp only [xr] at *; omega)) (by first | assumption | (refine ⟨?_, ?_⟩ <;> omega) | (simp only [xr] at *; omega))] at c21
          simp only [decide_eq_true_eq, decide_eq_false_iff_not, Decidable.not_not] at c21
          show xEx G0 cdX12_kept (some .int) (xRn G0 MT (d + 2)) Q b 34 [some (.inr (.inr 66)), some (.inl 0), some (.inl k), some (.inl w)] [] (xup h 66 0 0)
          refine E_s 2 (i' := 36) (ls' := [some (.inr (.inr 66)), some (.inl 0), some (.inl k), some (.inl w)]) (sk' := [.inl 1, .inl w]) (h' := (xup h 66 0 0)) rfl ?_
          refine E_b (x := (.if_icmp .ne 23, 49, [], [])) rfl rfl (fun c36 => ?_) (fun c36 => ?_)
          · rw [c_ne (by first | assumption | (refine ⟨?_, ?_⟩ <;> omega) | (simp only [xr] at *; omega)) (by first | assumption | (refine ⟨?_, ?_⟩ <;> omega) | (simp only [xr] at *; omega))] at c36
            simp only [decide_eq_true_eq, decide_eq_false_iff_not, Decidable.not_not] at c36
            show xEx G0 cdX12_kept (some .int) (xRn G0 MT (d + 2)) Q b 49 [some (.inr (.inr 66)), some (.inl 0), some (.inl k), some (.inl w)] [] (xup h 66 0 0)
            refine E_s 1 (i' := 50) (ls' := [some (.inr (.inr 66)), some (.inl 0), some (.inl k), some (.inl w)]) (sk' := [.inl 0]) (h' := (xup h 66 0 0)) rfl ?_
            refine E_b (x := (.ifCond .eq 12, 56, [], [])) rfl rfl (fun c50 => ?_) (fun c50 => ?_)
            · show xEx G0 cdX12_kept (some .int) (xRn G0 MT (d + 2)) Q b 56 [some (.inr (.inr 66)), some (.inl 0), some (.inl k), some (.inl w)] [] (xup h 66 0 0)
              refine E_s 3 (i' := 59) (ls' := [some (.inr (.inr 66)), some (.inl 0), some (.inl k), some (.inl w)]) (sk' := [.inl k, .inr (.inr 78)]) (h' := (xup h 66 0 0)) rfl ?_
              refine E_ld (x := (.iaload, 0, [], [])) (ty := .int) (n := 300) rfl rfl rfl (by omega) (by omega) ?_
              show xEx G0 cdX12_kept (some .int) (xRn G0 MT (d + 2)) Q b 60 [some (.inr (.inr 66)), some (.inl 0), some (.inl k), some (.inl w)] [.inl (h 78 k)] (xup h 66 0 0)
              exact E_ret (x := (.ireturn, 0, [], [])) (v := some (.inl (h 78 k))) rfl (Or.inl rfl) (h2 (by omega) (by omega))
            · show xEx G0 cdX12_kept (some .int) (xRn G0 MT (d + 2)) Q b 51 [some (.inr (.inr 66)), some (.inl 0), some (.inl k), some (.inl w)] [] (xup h 66 0 0)
              exact absurd c50 (by decide)
          · rw [c_ne (by first | assumption | (refine ⟨?_, ?_⟩ <;> omega) | (simp only [xr] at *; omega)) (by first | assumption | (refine ⟨?_, ?_⟩ <;> omega) | (simp only [xr] at *; omega))] at c36
            simp only [decide_eq_true_eq, decide_eq_false_iff_not, Decidable.not_not] at c36
            show xEx G0 cdX12_kept (some .int) (xRn G0 MT (d + 2)) Q b 37 [some (.inr (.inr 66)), some (.inl 0), some (.inl k), some (.inl w)] [] (xup h 66 0 0)
            refine E_s 1 (i' := 38) (ls' := [some (.inr (.inr 66)), some (.inl 0), some (.inl k), some (.inl w)]) (sk' := [.inl 0]) (h' := (xup h 66 0 0)) rfl ?_
            refine E_b (x := (.ifCond .eq 12, 44, [], [])) rfl rfl (fun c38 => ?_) (fun c38 => ?_)
            · show xEx G0 cdX12_kept (some .int) (xRn G0 MT (d + 2)) Q b 44 [some (.inr (.inr 66)), some (.inl 0), some (.inl k), some (.inl w)] [] (xup h 66 0 0)
              refine E_s 3 (i' := 47) (ls' := [some (.inr (.inr 66)), some (.inl 0), some (.inl k), some (.inl w)]) (sk' := [.inl k, .inr (.inr 76)]) (h' := (xup h 66 0 0)) rfl ?_
              refine E_ld (x := (.iaload, 0, [], [])) (ty := .int) (n := 300) rfl rfl rfl (by omega) (by omega) ?_
              show xEx G0 cdX12_kept (some .int) (xRn G0 MT (d + 2)) Q b 48 [some (.inr (.inr 66)), some (.inl 0), some (.inl k), some (.inl w)] [.inl (h 76 k)] (xup h 66 0 0)
              exact E_ret (x := (.ireturn, 0, [], [])) (v := some (.inl (h 76 k))) rfl (Or.inl rfl) (h1 (by omega) (by omega))
            · show xEx G0 cdX12_kept (some .int) (xRn G0 MT (d + 2)) Q b 39 [some (.inr (.inr 66)), some (.inl 0), some (.inl k), some (.inl w)] [] (xup h 66 0 0)
              exact absurd c38 (by decide)
        · rw [c_ne (by first | assumption | (refine ⟨?_, ?_⟩ <;> omega) | (simp only [xr] at *; omega)) (by first | assumption | (refine ⟨?_, ?_⟩ <;> omega) | (simp only [xr] at *; omega))] at c21
          simp only [decide_eq_true_eq, decide_eq_false_iff_not, Decidable.not_not] at c21
          show xEx G0 cdX12_kept (some .int) (xRn G0 MT (d + 2)) Q b 22 [some (.inr (.inr 66)), some (.inl 0), some (.inl k), some (.inl w)] [] (xup h 66 0 0)
          refine E_s 1 (i' := 23) (ls' := [some (.inr (.inr 66)), some (.inl 0), some (.inl k), some (.inl w)]) (sk' := [.inl 0]) (h' := (xup h 66 0 0)) rfl ?_
          refine E_b (x := (.ifCond .eq 12, 29, [], [])) rfl rfl (fun c23 => ?_) (fun c23 => ?_)
          · show xEx G0 cdX12_kept (some .int) (xRn G0 MT (d + 2)) Q b 29 [some (.inr (.inr 66)), some (.inl 0), some (.inl k), some (.inl w)] [] (xup h 66 0 0)
            refine E_s 3 (i' := 32) (ls' := [some (.inr (.inr 66)), some (.inl 0), some (.inl k), some (.inl w)]) (sk' := [.inl k, .inr (.inr 75)]) (h' := (xup h 66 0 0)) rfl ?_
            refine E_ld (x := (.iaload, 0, [], [])) (ty := .int) (n := 300) rfl rfl rfl (by omega) (by omega) ?_
            show xEx G0 cdX12_kept (some .int) (xRn G0 MT (d + 2)) Q b 33 [some (.inr (.inr 66)), some (.inl 0), some (.inl k), some (.inl w)] [.inl (h 75 k)] (xup h 66 0 0)
            exact E_ret (x := (.ireturn, 0, [], [])) (v := some (.inl (h 75 k))) rfl (Or.inl rfl) (h0 (by omega) (by omega))
          · show xEx G0 cdX12_kept (some .int) (xRn G0 MT (d + 2)) Q b 24 [some (.inr (.inr 66)), some (.inl 0), some (.inl k), some (.inl w)] [] (xup h 66 0 0)
            exact absurd c23 (by decide)
      · show xEx G0 cdX12_kept (some .int) (xRn G0 MT (d + 2)) Q b 18 [some (.inr (.inr 66)), some (.inl 0), some (.inl k), some (.inl w)] [] (xup h 66 0 0)
        exact absurd c17 (by decide)
    · rw [c_ne (by first | assumption | (refine ⟨?_, ?_⟩ <;> omega) | (simp only [xr] at *; omega)) (by first | assumption | (refine ⟨?_, ?_⟩ <;> omega) | (simp only [xr] at *; omega))] at c10
      simp only [decide_eq_true_eq, decide_eq_false_iff_not, Decidable.not_not] at c10
      show xEx G0 cdX12_kept (some .int) (xRn G0 MT (d + 2)) Q b 11 [some (.inr (.inr 66)), some (.inl 0), some (.inl k), some (.inl w)] [.inr (.inr 66)] h
      refine E_s 5 (i' := 17) (ls' := [some (.inr (.inr 66)), some (.inl 0), some (.inl k), some (.inl w)]) (sk' := [.inl 1]) (h' := (xup h 66 0 1)) rfl ?_
      refine E_b (x := (.ifCond .le 5, 20, [], [])) rfl rfl (fun c17 => ?_) (fun c17 => ?_)
      · show xEx G0 cdX12_kept (some .int) (xRn G0 MT (d + 2)) Q b 20 [some (.inr (.inr 66)), some (.inl 0), some (.inl k), some (.inl w)] [] (xup h 66 0 1)
        exact absurd c17 (by decide)
      · show xEx G0 cdX12_kept (some .int) (xRn G0 MT (d + 2)) Q b 18 [some (.inr (.inr 66)), some (.inl 0), some (.inl k), some (.inl w)] [] (xup h 66 0 1)
        refine E_s 1 (i' := 19) (ls' := [some (.inr (.inr 66)), some (.inl 0), some (.inl k), some (.inl w)]) (sk' := [.inl 0]) (h' := (xup h 66 0 1)) rfl ?_
        exact E_ret (x := (.ireturn, 0, [], [])) (v := some (.inl 0)) rfl (Or.inl rfl) (hX (by omega))
set_option maxHeartbeats 1000000 in
theorem CO_kept0 (d : Nat) {h : xH} (hI : Inv h) (k w : Int) (hk : xr k) (hw : xr w) : CO (d + 6) 2 106 194 [.inl 0, .inl k, .inl w] ["java/util/NoSuchElementException"] h := by
  obtain ⟨b0, b1, -, -, -, -, -, -, b9⟩ := Inv_e hI
  have b8 : 0 ≤ h 66 8 ∧ h 66 8 ≤ 300 := by rw [b1]; exact b0
  have cc : ∀ u : Int, (0 ≤ k ∧ k < xup h 112 0 u 66 8) ↔ (0 ≤ k ∧ k < h 9 9) := fun u => by show (0 ≤ k ∧ k < h 66 8) ↔ _; rw [b1]
  have mm := fun u Q => m_kept0 (d + 3) 0 (xup h 112 0 u) k w hk hw b8 (Q := Q)
  refine o_kept0 (d + 2) h k w hk hw b0 (fun q q2 u => ?_) (fun q q2 u => ?_) (fun q q2 u => ?_) (fun q u => ?_)
  · exact mm u _ (fun z _ => CO_v hI u (b9 k q.1 q.2).1.symm) (fun _ z => by omega) (fun _ z => by omega) (fun z => absurd (show (0 ≤ k ∧ k < xup h 112 0 u 66 8) ∧ 0 ≤ w ∧ w ≤ 2 from ⟨(cc u).mpr q, by omega⟩) z)
  · exact mm u _ (fun _ z => by omega) (fun z _ => CO_v hI u (b9 k q.1 q.2).2.1.symm) (fun _ z => by omega) (fun z => absurd (show (0 ≤ k ∧ k < xup h 112 0 u 66 8) ∧ 0 ≤ w ∧ w ≤ 2 from ⟨(cc u).mpr q, by omega⟩) z)
  · exact mm u _ (fun _ z => by omega) (fun _ z => by omega) (fun z _ => CO_v hI u (b9 k q.1 q.2).2.2.1.symm) (fun z => absurd (show (0 ≤ k ∧ k < xup h 112 0 u 66 8) ∧ 0 ≤ w ∧ w ≤ 2 from ⟨(cc u).mpr q, by omega⟩) z)
  · exact mm u _ (fun z1 z2 => absurd ⟨(cc u).mp z1, by omega⟩ q) (fun z1 z2 => absurd ⟨(cc u).mp z1, by omega⟩ q) (fun z1 z2 => absurd ⟨(cc u).mp z1, by omega⟩ q) (fun _ => CO_x hI 0 rfl u 0)
set_option maxHeartbeats 1000000 in
theorem o_kept1 (d  : Nat) (h : xH) (k w : Int) (hk : xr k) (hw : xr w) (hK1 : 0 ≤ h 28 9 ∧ h 28 9 ≤ 150) {Q : xO → xH → Prop} (h0 : (0 ≤ k ∧ k < h 28 9) → w = 0 → Q (.inl (some (.inl (h 37 k)))) h) (h1 : (0 ≤ k ∧ k < h 28 9) → w = 1 → Q (.inl (some (.inl (h 40 k)))) h) (h2 : (0 ≤ k ∧ k < h 28 9) → w = 2 → Q (.inl (some (.inl (h 39 k)))) h) (hX : ¬ ((0 ≤ k ∧ k < h 28 9) ∧ 0 ≤ w ∧ w ≤ 2) → Q (.inr "java/util/NoSuchElementException") h) : xRn G0 MT (d + 4) 2 106 [.inr (.inr 0), .inl 1, .inl k, .inl w] h Q := by
  refine R_of (M := mX11_kept) rfl (Nat.le_of_ble_eq_true rfl) ?_
  show xEx G0 cdX11_kept (some .int) (xRn G0 MT (d + 3)) Q 2 0 [some (.inr (.inr 0)), some (.inl 1), some (.inl k), some (.inl w), none] [] h
  refine E_s 3 (i' := 3) (ls' := [some (.inr (.inr 0)), some (.inl 1), some (.inl k), some (.inl w), none]) (sk' := [.inl k, .inl 1, .inr (.inr 0)]) (h' := h) rfl ?_
  refine E_cx (x := (.invokevirtual 194, 2, [(9, 143)], [0])) (b1 := 1) (b2 := 1) (v := (some (.inr (.inr 28)))) (q := fun h9 => (0 ≤ k ∧ k < h 28 9) ∧ h = h9) rfl rfl (Nat.le_of_ble_eq_true rfl) (fun z => by cases z) (c_growthWith1 d h k hk hK1 (fun z => Or.inl ⟨rfl, z, rfl⟩) (fun z => Or.inr ⟨_, rfl, hX (fun y => z y.1)⟩)) (fun h9 hq9 => ?_)
  obtain ⟨qk, rfl⟩ := hq9
  show xEx G0 cdX11_kept (some .int) (xRn G0 MT (d + 3)) Q 1 4 [some (.inr (.inr 0)), some (.inl 1), some (.inl k), some (.inl w), none] [.inr (.inr 28)] h
  refine E_s 2 (i' := 6) (ls' := [some (.inr (.inr 0)), some (.inl 1), some (.inl k), some (.inl w), some (.inr (.inr 28))]) (sk' := [.inl w]) (h' := h) rfl ?_
  by_cases s6_0 : w = 0
  · refine E_sw (x := (.tableswitch 51 0 2 #[27, 35, 43], 22, [(0, 7), (1, 12), (2, 17)], [])) (t := 7) rfl rfl (by rw [s6_0]; decide +kernel) ?_
    show xEx G0 cdX11_kept (some .int) (xRn G0 MT (d + 3)) Q 1 7 [some (.inr (.inr 0)), some (.inl 1), some (.inl k), some (.inl w), some (.inr (.inr 28))] [] h
    refine E_s 3 (i' := 10) (ls' := [some (.inr (.inr 0)), some (.inl 1), some (.inl k), some (.inl w), some (.inr (.inr 28))]) (sk' := [.inl k, .inr (.inr 37)]) (h' := h) rfl ?_
    refine E_ld (x := (.iaload, 0, [], [])) (ty := .int) (n := 150) rfl rfl rfl (by omega) (by omega) ?_
    show xEx G0 cdX11_kept (some .int) (xRn G0 MT (d + 3)) Q 1 11 [some (.inr (.inr 0)), some (.inl 1), some (.inl k), some (.inl w), some (.inr (.inr 28))] [.inl (h 37 k)] h
    exact E_ret (x := (.ireturn, 0, [], [])) (v := some (.inl (h 37 k))) rfl (Or.inl rfl) (h0 qk s6_0)
  · by_cases s6_1 : w = 1
    · refine E_sw (x := (.tableswitch 51 0 2 #[27, 35, 43], 22, [(0, 7), (1, 12), (2, 17)], [])) (t := 12) rfl rfl (by rw [s6_1]; decide +kernel) ?_
      show xEx G0 cdX11_kept (some .int) (xRn G0 MT (d + 3)) Q 1 12 [some (.inr (.inr 0)), some (.inl 1), some (.inl k), some (.inl w), some (.inr (.inr 28))] [] h
      refine E_s 3 (i' := 15) (ls' := [some (.inr (.inr 0)), some (.inl 1), some (.inl k), some (.inl w), some (.inr (.inr 28))]) (sk' := [.inl k, .inr (.inr 40)]) (h' := h) rfl ?_
      refine E_ld (x := (.iaload, 0, [], [])) (ty := .int) (n := 150) rfl rfl rfl (by omega) (by omega) ?_
      show xEx G0 cdX11_kept (some .int) (xRn G0 MT (d + 3)) Q 1 16 [some (.inr (.inr 0)), some (.inl 1), some (.inl k), some (.inl w), some (.inr (.inr 28))] [.inl (h 40 k)] h
      exact E_ret (x := (.ireturn, 0, [], [])) (v := some (.inl (h 40 k))) rfl (Or.inl rfl) (h1 qk s6_1)
    · by_cases s6_2 : w = 2
      · refine E_sw (x := (.tableswitch 51 0 2 #[27, 35, 43], 22, [(0, 7), (1, 12), (2, 17)], [])) (t := 17) rfl rfl (by rw [s6_2]; decide +kernel) ?_
        show xEx G0 cdX11_kept (some .int) (xRn G0 MT (d + 3)) Q 1 17 [some (.inr (.inr 0)), some (.inl 1), some (.inl k), some (.inl w), some (.inr (.inr 28))] [] h
        refine E_s 3 (i' := 20) (ls' := [some (.inr (.inr 0)), some (.inl 1), some (.inl k), some (.inl w), some (.inr (.inr 28))]) (sk' := [.inl k, .inr (.inr 39)]) (h' := h) rfl ?_
        refine E_ld (x := (.iaload, 0, [], [])) (ty := .int) (n := 150) rfl rfl rfl (by omega) (by omega) ?_
        show xEx G0 cdX11_kept (some .int) (xRn G0 MT (d + 3)) Q 1 21 [some (.inr (.inr 0)), some (.inl 1), some (.inl k), some (.inl w), some (.inr (.inr 28))] [.inl (h 39 k)] h
        exact E_ret (x := (.ireturn, 0, [], [])) (v := some (.inl (h 39 k))) rfl (Or.inl rfl) (h2 qk s6_2)
      · refine E_sw (x := (.tableswitch 51 0 2 #[27, 35, 43], 22, [(0, 7), (1, 12), (2, 17)], [])) (t := 22) rfl rfl (by rw [w32_id hw]; simp only [xsw]; rw [if_neg (by omega)]; rw [if_neg (by omega)]; rw [if_neg (by omega)]; rfl) ?_
        show xEx G0 cdX11_kept (some .int) (xRn G0 MT (d + 3)) Q 1 22 [some (.inr (.inr 0)), some (.inl 1), some (.inl k), some (.inl w), some (.inr (.inr 28))] [] h
        exact E_thr (x := (.new 189, 0, [(2, 0)], [])) rfl rfl rfl (Nat.le_of_ble_eq_true rfl) (hX (by omega))
set_option maxHeartbeats 1000000 in
theorem m_kept1 (d b : Nat) (h : xH) (k w : Int) (hk : xr k) (hw : xr w) (hM1 : 0 ≤ h 66 19 ∧ h 66 19 ≤ 150) {Q : xO → xH → Prop} (h0 : (0 ≤ k ∧ k < h 66 19) → w = 0 → Q (.inl (some (.inl (h 85 k)))) (xup h 66 0 0)) (h1 : (0 ≤ k ∧ k < h 66 19) → w = 1 → Q (.inl (some (.inl (h 86 k)))) (xup h 66 0 0)) (h2 : (0 ≤ k ∧ k < h 66 19) → w = 2 → Q (.inl (some (.inl (h 87 k)))) (xup h 66 0 0)) (hX : ¬ ((0 ≤ k ∧ k < h 66 19) ∧ 0 ≤ w ∧ w ≤ 2) → Q (.inl (some (.inl (0)))) (xup h 66 0 1)) : xRn G0 MT (d + 3) b 194 [.inr (.inr 66), .inl 1, .inl k, .inl w] h Q := by
  refine R_of (M := mX12_kept) rfl (Nat.le_of_ble_eq_true rfl) ?_
  show xEx G0 cdX12_kept (some .int) (xRn G0 MT (d + 2)) Q b 0 [some (.inr (.inr 66)), some (.inl 1), some (.inl k), some (.inl w)] [] h
  refine E_s 4 (i' := 4) (ls' := [some (.inr (.inr 66)), some (.inl 1), some (.inl k), some (.inl w)]) (sk' := [.inl k, .inl 1, .inr (.inr 66), .inr (.inr 66)]) (h' := h) rfl ?_
  refine E_cp (x := (.invokevirtual 295, 2, [(10, 193)], [0])) (q := fun r1 h9 => ((r1 = 1 ∧ (0 ≤ k ∧ k < h 66 19)) ∨ (r1 = 0 ∧ ¬ (0 ≤ k ∧ k < h 66 19))) ∧ h = h9) rfl rfl (Nat.le_of_ble_eq_true rfl) (m_isKept1 d 0 h k hk hM1 (fun z => ⟨_, rfl, Or.inl ⟨rfl, z⟩, rfl⟩) (fun z => ⟨_, rfl, Or.inr ⟨rfl, z⟩, rfl⟩)) (fun r1 h9 q1 => ?_)
  obtain ⟨q1, rfl⟩ := q1
  show xEx G0 cdX12_kept (some .int) (xRn G0 MT (d + 2)) Q b 5 [some (.inr (.inr 66)), some (.inl 1), some (.inl k), some (.inl w)] [.inl r1, .inr (.inr 66)] h
  refine E_b (x := (.ifCond .eq 12, 11, [], [])) rfl rfl (fun c5 => ?_) (fun c5 => ?_)
  · rw [c_eq (by first | assumption | (refine ⟨?_, ?_⟩ <;> omega) | (simp only [xr] at *; omega)) (by first | assumption | (refine ⟨?_, ?_⟩ <;> omega) | (simp only [xr] at *; omega))] at c5
    simp only [decide_eq_true_eq, decide_eq_false_iff_not, Decidable.not_not] at c5
    show xEx G0 cdX12_kept (some .int) (xRn G0 MT (d + 2)) Q b 11 [some (.inr (.inr 66)), some (.inl 1), some (.inl k), some (.inl w)] [.inr (.inr 66)] h
    refine E_s 5 (i' := 17) (ls' := [some (.inr (.inr 66)), some (.inl 1), some (.inl k), some (.inl w)]) (sk' := [.inl 1]) (h' := (xup h 66 0 1)) rfl ?_
    refine E_b (x := (.ifCond .le 5, 20, [], [])) rfl rfl (fun c17 => ?_) (fun c17 => ?_)
    · show xEx G0 cdX12_kept (some .int) (xRn G0 MT (d + 2)) Q b 20 [some (.inr (.inr 66)), some (.inl 1), some (.inl k), some (.inl w)] [] (xup h 66 0 1)
      exact absurd c17 (by decide)
    · show xEx G0 cdX12_kept (some .int) (xRn G0 MT (d + 2)) Q b 18 [some (.inr (.inr 66)), some (.inl 1), some (.inl k), some (.inl w)] [] (xup h 66 0 1)
      refine E_s 1 (i' := 19) (ls' := [some (.inr (.inr 66)), some (.inl 1), some (.inl k), some (.inl w)]) (sk' := [.inl 0]) (h' := (xup h 66 0 1)) rfl ?_
      exact E_ret (x := (.ireturn, 0, [], [])) (v := some (.inl 0)) rfl (Or.inl rfl) (hX (by omega))
  · rw [c_eq (by first | assumption | (refine ⟨?_, ?_⟩ <;> omega) | (simp only [xr] at *; omega)) (by first | assumption | (refine ⟨?_, ?_⟩ <;> omega) | (simp only [xr] at *; omega))] at c5
    simp only [decide_eq_true_eq, decide_eq_false_iff_not, Decidable.not_not] at c5
    show xEx G0 cdX12_kept (some .int) (xRn G0 MT (d + 2)) Q b 6 [some (.inr (.inr 66)), some (.inl 1), some (.inl k), some (.inl w)] [.inr (.inr 66)] h
    refine E_s 3 (i' := 9) (ls' := [some (.inr (.inr 66)), some (.inl 1), some (.inl k), some (.inl w)]) (sk' := [.inl 2, .inl 0, .inl w, .inr (.inr 66)]) (h' := h) rfl ?_
    refine E_cp (x := (.invokestatic 180, 3, [(0, 155)], [])) (q := fun r2 h9 => ((r2 = 1 ∧ (0 ≤ w ∧ w ≤ 2)) ∨ (r2 = 0 ∧ ¬ (0 ≤ w ∧ w ≤ 2))) ∧ h = h9) rfl rfl (Nat.le_of_ble_eq_true rfl) (m_isIn (d + 1) 0 (h) w 0 2 hw ⟨by omega, by omega⟩ ⟨by omega, by omega⟩ (fun z => ⟨_, rfl, Or.inl ⟨rfl, z⟩, rfl⟩) (fun z => ⟨_, rfl, Or.inr ⟨rfl, z⟩, rfl⟩)) (fun r2 h9 q2 => ?_)
    obtain ⟨q2, rfl⟩ := q2
    show xEx G0 cdX12_kept (some .int) (xRn G0 MT (d + 2)) Q b 10 [some (.inr (.inr 66)), some (.inl 1), some (.inl k), some (.inl w)] [.inl r2, .inr (.inr 66)] h
    refine E_b (x := (.ifCond .ne 7, 13, [], [])) rfl rfl (fun c10 => ?_) (fun c10 => ?_)
    · rw [c_ne (by first | assumption | (refine ⟨?_, ?_⟩ <;> omega) | (simp only [xr] at *; omega)) (by first | assumption | (refine ⟨?_, ?_⟩ <;> omega) | (simp only [xr] at *; omega))] at c10
      simp only [decide_eq_true_eq, decide_eq_false_iff_not, Decidable.not_not] at c10
      show xEx G0 cdX12_kept (some .int) (xRn G0 MT (d + 2)) Q b 13 [some (.inr (.inr 66)), some (.inl 1), some (.inl k), some (.inl w)] [.inr (.inr 66)] h
      refine E_s 4 (i' := 17) (ls' := [some (.inr (.inr 66)), some (.inl 1), some (.inl k), some (.inl w)]) (sk' := [.inl 0]) (h' := (xup h 66 0 0)) rfl ?_
      refine E_b (x := (.ifCond .le 5, 20, [], [])) rfl rfl (fun c17 => ?_) (fun c17 => ?_)
      · show xEx G0 cdX12_kept (some .int) (xRn G0 MT (d + 2)) Q b 20 [some (.inr (.inr 66)), some (.inl 1), some (.inl k), some (.inl w)] [] (xup h 66 0 0)
        refine E_s 1 (i' := 21) (ls' := [some (.inr (.inr 66)), some (.inl 1), some (.inl k), some (.inl w)]) (sk' := [.inl w]) (h' := (xup h 66 0 0)) rfl ?_
        refine E_b (x := (.ifCond .ne 23, 34, [], [])) rfl rfl (fun c21 => ?_) (fun c21 => ?_)
        · rw [c_ne (by first | assumption | (refine ⟨?_, ?_⟩ <;> omega) | (simp only [xr] at *; omega)) (by first | assumption | (refine ⟨?_, ?_⟩ <;> omega) | (simp only [xr] at *; omega))] at c21
          simp only [decide_eq_true_eq, decide_eq_false_iff_not, Decidable.not_not] at c21
          show xEx G0 cdX12_kept (some .int) (xRn G0 MT (d + 2)) Q b 34 [some (.inr (.inr 66)), some (.inl 1), some (.inl k), some (.inl w)] [] (xup h 66 0 0)
          refine E_s 2 (i' := 36) (ls' := [some (.inr (.inr 66)), some (.inl 1), some (.inl k), some (.inl w)]) (sk' := [.inl 1, .inl w]) (h' := (xup h 66 0 0)) rfl ?_
          refine E_b (x := (.if_icmp .ne 23, 49, [], [])) rfl rfl (fun c36 => ?_) (fun c36 => ?_)
          · rw [c_ne (by first | assumption | (refine ⟨?_, ?_⟩ <;> omega) | (simp only [xr] at *; omega)) (by first | assumption | (refine ⟨?_, ?_⟩ <;> omega) | (simp only [xr] at *; omega))] at c36
            simp only [decide_eq_true_eq, decide_eq_false_iff_not, Decidable.not_not] at c36
            show xEx G0 cdX12_kept (some .int) (xRn G0 MT (d + 2)) Q b 49 [some (.inr (.inr 66)), some (.inl 1), some (.inl k), some (.inl w)] [] (xup h 66 0 0)
            refine E_s 1 (i' := 50) (ls' := [some (.inr (.inr 66)), some (.inl 1), some (.inl k), some (.inl w)]) (sk' := [.inl 1]) (h' := (xup h 66 0 0)) rfl ?_
            refine E_b (x := (.ifCond .eq 12, 56, [], [])) rfl rfl (fun c50 => ?_) (fun c50 => ?_)
            · show xEx G0 cdX12_kept (some .int) (xRn G0 MT (d + 2)) Q b 56 [some (.inr (.inr 66)), some (.inl 1), some (.inl k), some (.inl w)] [] (xup h 66 0 0)
              exact absurd c50 (by decide)
            · show xEx G0 cdX12_kept (some .int) (xRn G0 MT (d + 2)) Q b 51 [some (.inr (.inr 66)), some (.inl 1), some (.inl k), some (.inl w)] [] (xup h 66 0 0)
              refine E_s 3 (i' := 54) (ls' := [some (.inr (.inr 66)), some (.inl 1), some (.inl k), some (.inl w)]) (sk' := [.inl k, .inr (.inr 87)]) (h' := (xup h 66 0 0)) rfl ?_
              refine E_ld (x := (.iaload, 0, [], [])) (ty := .int) (n := 150) rfl rfl rfl (by omega) (by omega) ?_
              show xEx G0 cdX12_kept (some .int) (xRn G0 MT (d + 2)) Q b 55 [some (.inr (.inr 66)), some (.inl 1), some (.inl k), some (.inl w)] [.inl (h 87 k)] (xup h 66 0 0)
              refine E_s 1 (i' := 60) (ls' := [some (.inr (.inr 66)), some (.inl 1), some (.inl k), some (.inl w)]) (sk' := [.inl (h 87 k)]) (h' := (xup h 66 0 0)) rfl ?_
              exact E_ret (x := (.ireturn, 0, [], [])) (v := some (.inl (h 87 k))) rfl (Or.inl rfl) (h2 (by omega) (by omega))
          · rw [c_ne (by first | assumption | (refine ⟨?_, ?_⟩ <;> omega) | (simp only [xr] at *; omega)) (by first | assumption | (refine ⟨?_, ?_⟩ <;> omega) | (simp only [xr] at *; omega))] at c36
            simp only [decide_eq_true_eq, decide_eq_false_iff_not, Decidable.not_not] at c36
            show xEx G0 cdX12_kept (some .int) (xRn G0 MT (d + 2)) Q b 37 [some (.inr (.inr 66)), some (.inl 1), some (.inl k), some (.inl w)] [] (xup h 66 0 0)
            refine E_s 1 (i' := 38) (ls' := [some (.inr (.inr 66)), some (.inl 1), some (.inl k), some (.inl w)]) (sk' := [.inl 1]) (h' := (xup h 66 0 0)) rfl ?_
            refine E_b (x := (.ifCond .eq 12, 44, [], [])) rfl rfl (fun c38 => ?_) (fun c38 => ?_)
            · show xEx G0 cdX12_kept (some .int) (xRn G0 MT (d + 2)) Q b 44 [some (.inr (.inr 66)), some (.inl 1), some (.inl k), some (.inl w)] [] (xup h 66 0 0)
              exact absurd c38 (by decide)
            · show xEx G0 cdX12_kept (some .int) (xRn G0 MT (d + 2)) Q b 39 [some (.inr (.inr 66)), some (.inl 1), some (.inl k), some (.inl w)] [] (xup h 66 0 0)
              refine E_s 3 (i' := 42) (ls' := [some (.inr (.inr 66)), some (.inl 1), some (.inl k), some (.inl w)]) (sk' := [.inl k, .inr (.inr 86)]) (h' := (xup h 66 0 0)) rfl ?_
              refine E_ld (x := (.iaload, 0, [], [])) (ty := .int) (n := 150) rfl rfl rfl (by omega) (by omega) ?_
              show xEx G0 cdX12_kept (some .int) (xRn G0 MT (d + 2)) Q b 43 [some (.inr (.inr 66)), some (.inl 1), some (.inl k), some (.inl w)] [.inl (h 86 k)] (xup h 66 0 0)
              refine E_s 1 (i' := 48) (ls' := [some (.inr (.inr 66)), some (.inl 1), some (.inl k), some (.inl w)]) (sk' := [.inl (h 86 k)]) (h' := (xup h 66 0 0)) rfl ?_
              exact E_ret (x := (.ireturn, 0, [], [])) (v := some (.inl (h 86 k))) rfl (Or.inl rfl) (h1 (by omega) (by omega))
        · rw [c_ne (by first | assumption | (refine ⟨?_, ?_⟩ <;> omega) | (simp only [xr] at *; omega)) (by first | assumption | (refine ⟨?_, ?_⟩ <;> omega) | (simp only [xr] at *; omega))] at c21
          simp only [decide_eq_true_eq, decide_eq_false_iff_not, Decidable.not_not] at c21
          show xEx G0 cdX12_kept (some .int) (xRn G0 MT (d + 2)) Q b 22 [some (.inr (.inr 66)), some (.inl 1), some (.inl k), some (.inl w)] [] (xup h 66 0 0)
          refine E_s 1 (i' := 23) (ls' := [some (.inr (.inr 66)), some (.inl 1), some (.inl k), some (.inl w)]) (sk' := [.inl 1]) (h' := (xup h 66 0 0)) rfl ?_
          refine E_b (x := (.ifCond .eq 12, 29, [], [])) rfl rfl (fun c23 => ?_) (fun c23 => ?_)
          · show xEx G0 cdX12_kept (some .int) (xRn G0 MT (d + 2)) Q b 29 [some (.inr (.inr 66)), some (.inl 1), some (.inl k), some (.inl w)] [] (xup h 66 0 0)
            exact absurd c23 (by decide)
          · show xEx G0 cdX12_kept (some .int) (xRn G0 MT (d + 2)) Q b 24 [some (.inr (.inr 66)), some (.inl 1), some (.inl k), some (.inl w)] [] (xup h 66 0 0)
            refine E_s 3 (i' := 27) (ls' := [some (.inr (.inr 66)), some (.inl 1), some (.inl k), some (.inl w)]) (sk' := [.inl k, .inr (.inr 85)]) (h' := (xup h 66 0 0)) rfl ?_
            refine E_ld (x := (.iaload, 0, [], [])) (ty := .int) (n := 150) rfl rfl rfl (by omega) (by omega) ?_
            show xEx G0 cdX12_kept (some .int) (xRn G0 MT (d + 2)) Q b 28 [some (.inr (.inr 66)), some (.inl 1), some (.inl k), some (.inl w)] [.inl (h 85 k)] (xup h 66 0 0)
            refine E_s 1 (i' := 33) (ls' := [some (.inr (.inr 66)), some (.inl 1), some (.inl k), some (.inl w)]) (sk' := [.inl (h 85 k)]) (h' := (xup h 66 0 0)) rfl ?_
            exact E_ret (x := (.ireturn, 0, [], [])) (v := some (.inl (h 85 k))) rfl (Or.inl rfl) (h0 (by omega) (by omega))
      · show xEx G0 cdX12_kept (some .int) (xRn G0 MT (d + 2)) Q b 18 [some (.inr (.inr 66)), some (.inl 1), some (.inl k), some (.inl w)] [] (xup h 66 0 0)
        exact absurd c17 (by decide)
    · rw [c_ne (by first | assumption | (refine ⟨?_, ?_⟩ <;> omega) | (simp only [xr] at *; omega)) (by first | assumption | (refine ⟨?_, ?_⟩ <;> omega) | (simp only [xr] at *; omega))] at c10
      simp only [decide_eq_true_eq, decide_eq_false_iff_not, Decidable.not_not] at c10
      show xEx G0 cdX12_kept (some .int) (xRn G0 MT (d + 2)) Q b 11 [some (.inr (.inr 66)), some (.inl 1), some (.inl k), some (.inl w)] [.inr (.inr 66)] h
      refine E_s 5 (i' := 17) (ls' := [some (.inr (.inr 66)), some (.inl 1), some (.inl k), some (.inl w)]) (sk' := [.inl 1]) (h' := (xup h 66 0 1)) rfl ?_
      refine E_b (x := (.ifCond .le 5, 20, [], [])) rfl rfl (fun c17 => ?_) (fun c17 => ?_)
      · show xEx G0 cdX12_kept (some .int) (xRn G0 MT (d + 2)) Q b 20 [some (.inr (.inr 66)), some (.inl 1), some (.inl k), some (.inl w)] [] (xup h 66 0 1)
        exact absurd c17 (by decide)
      · show xEx G0 cdX12_kept (some .int) (xRn G0 MT (d + 2)) Q b 18 [some (.inr (.inr 66)), some (.inl 1), some (.inl k), some (.inl w)] [] (xup h 66 0 1)
        refine E_s 1 (i' := 19) (ls' := [some (.inr (.inr 66)), some (.inl 1), some (.inl k), some (.inl w)]) (sk' := [.inl 0]) (h' := (xup h 66 0 1)) rfl ?_
        exact E_ret (x := (.ireturn, 0, [], [])) (v := some (.inl 0)) rfl (Or.inl rfl) (hX (by omega))
set_option maxHeartbeats 1000000 in
theorem CO_kept1 (d : Nat) {h : xH} (hI : Inv h) (k w : Int) (hk : xr k) (hw : xr w) : CO (d + 6) 2 106 194 [.inl 1, .inl k, .inl w] ["java/util/NoSuchElementException"] h := by
  obtain ⟨b0, b1, -, -, -, -, -, -, b9⟩ := Inv_t hI
  have b8 : 0 ≤ h 66 19 ∧ h 66 19 ≤ 150 := by rw [b1]; exact b0
  have cc : ∀ u : Int, (0 ≤ k ∧ k < xup h 112 0 u 66 19) ↔ (0 ≤ k ∧ k < h 28 9) := fun u => by show (0 ≤ k ∧ k < h 66 19) ↔ _; rw [b1]
  have mm := fun u Q => m_kept1 (d + 3) 0 (xup h 112 0 u) k w hk hw b8 (Q := Q)
  refine o_kept1 (d + 2) h k w hk hw b0 (fun q q2 u => ?_) (fun q q2 u => ?_) (fun q q2 u => ?_) (fun q u => ?_)
  · exact mm u _ (fun z _ => CO_v hI u (b9 k q.1 q.2).1.symm) (fun _ z => by omega) (fun _ z => by omega) (fun z => absurd (show (0 ≤ k ∧ k < xup h 112 0 u 66 19) ∧ 0 ≤ w ∧ w ≤ 2 from ⟨(cc u).mpr q, by omega⟩) z)
  · exact mm u _ (fun _ z => by omega) (fun z _ => CO_v hI u (b9 k q.1 q.2).2.1.symm) (fun _ z => by omega) (fun z => absurd (show (0 ≤ k ∧ k < xup h 112 0 u 66 19) ∧ 0 ≤ w ∧ w ≤ 2 from ⟨(cc u).mpr q, by omega⟩) z)
  · exact mm u _ (fun _ z => by omega) (fun _ z => by omega) (fun z _ => CO_v hI u (b9 k q.1 q.2).2.2.1.symm) (fun z => absurd (show (0 ≤ k ∧ k < xup h 112 0 u 66 19) ∧ 0 ≤ w ∧ w ≤ 2 from ⟨(cc u).mpr q, by omega⟩) z)
  · exact mm u _ (fun z1 z2 => absurd ⟨(cc u).mp z1, by omega⟩ q) (fun z1 z2 => absurd ⟨(cc u).mp z1, by omega⟩ q) (fun z1 z2 => absurd ⟨(cc u).mp z1, by omega⟩ q) (fun _ => CO_x hI 0 rfl u 0)
