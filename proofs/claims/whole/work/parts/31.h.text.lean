def wxT (h : xH) (k u w : Int) : xH := if k = 2 then ppshs h ([3041, 1000 + u] ++ wrd [33, 40]) else if k = 3 then ppshs h [3041, 1000 + w, 3000 + 38, 1000 + u, 3000 + 40] else ppshs h [3041, w, 3000 + (if k = 0 then 60 else 61), u, 3000 + 40]
def wxN (h : xH) (a l nd : Int) : xH := if a = -1 then ppsh h l else ppshs h [3093, 2000 + 2 * nd + 1, 3058, 2000 + 2 * nd, 3063, 1000 + a, 3091]
set_option maxHeartbeats 1000000 in
theorem m_wrT (d b : Nat) (h : xH) (k : Int) (hk : 0 ≤ k ∧ k < 151) (h1 : 0 ≤ h 79 k ∧ h 79 k ≤ 3) (hp : 0 ≤ h 66 47 ∧ h 66 47 + 8 ≤ 400) {Q : xO → xH → Prop} (hQ : Q (.inl none) (wxT h (h 79 k) (h 80 k) (h 81 k))) : xRn2 G0 MT (d + 3) b 210 [.inr (.inr 66), .inl k] h Q := by
  refine R2_of (M := mX12_writesTest) rfl (Nat.le_of_ble_eq_true rfl) ?_
  show xEx2 RX12 G0 cdX12_writesTest none (xRn2 G0 MT (d + 2)) Q b 0 [some (.inr (.inr 66)), some (.inl k)] [] h
  refine E2_s 3 (i' := 3) (ls' := [some (.inr (.inr 66)), some (.inl k)]) (sk' := [.inl k, .inr (.inr 79)]) (h' := h) rfl ?_
  refine E2_ld (x := (.iaload, 0, [], [])) (ty := .int) (n := 151) rfl rfl rfl (by omega) (by omega) ?_
  show xEx2 RX12 G0 cdX12_writesTest none (xRn2 G0 MT (d + 2)) Q b 4 [some (.inr (.inr 66)), some (.inl k)] [.inl (h 79 k)] h
  refine E2_s 1 (i' := 5) (ls' := [some (.inr (.inr 66)), some (.inl k)]) (sk' := [.inl 2, .inl (h 79 k)]) (h' := h) rfl ?_
  refine E2_b (x := (.if_icmp .ne 34, 21, [], [])) rfl rfl (fun c5 => ?_) (fun c5 => ?_)
  · rw [c_ne (by first | assumption | (refine ⟨?_, ?_⟩ <;> omega) | (simp only [xr] at *; omega)) (by first | assumption | (refine ⟨?_, ?_⟩ <;> omega) | (simp only [xr] at *; omega))] at c5
    simp only [decide_eq_true_eq, decide_eq_false_iff_not, Decidable.not_not] at c5
    show xEx2 RX12 G0 cdX12_writesTest none (xRn2 G0 MT (d + 2)) Q b 21 [some (.inr (.inr 66)), some (.inl k)] [] h
    refine E2_s 3 (i' := 24) (ls' := [some (.inr (.inr 66)), some (.inl k)]) (sk' := [.inl k, .inr (.inr 79)]) (h' := h) rfl ?_
    refine E2_ld (x := (.iaload, 0, [], [])) (ty := .int) (n := 151) rfl rfl rfl (by omega) (by omega) ?_
    show xEx2 RX12 G0 cdX12_writesTest none (xRn2 G0 MT (d + 2)) Q b 25 [some (.inr (.inr 66)), some (.inl k)] [.inl (h 79 k)] h
    refine E2_s 1 (i' := 26) (ls' := [some (.inr (.inr 66)), some (.inl k)]) (sk' := [.inl 3, .inl (h 79 k)]) (h' := h) rfl ?_
    refine E2_b (x := (.if_icmp .ne 34, 44, [], [])) rfl rfl (fun c26 => ?_) (fun c26 => ?_)
    · rw [c_ne (by first | assumption | (refine ⟨?_, ?_⟩ <;> omega) | (simp only [xr] at *; omega)) (by first | assumption | (refine ⟨?_, ?_⟩ <;> omega) | (simp only [xr] at *; omega))] at c26
      simp only [decide_eq_true_eq, decide_eq_false_iff_not, Decidable.not_not] at c26
      show xEx2 RX12 G0 cdX12_writesTest none (xRn2 G0 MT (d + 2)) Q b 44 [some (.inr (.inr 66)), some (.inl k)] [] h
      refine E2_s 5 (i' := 49) (ls' := [some (.inr (.inr 66)), some (.inl k)]) (sk' := [.inl k, .inr (.inr 80), .inl 40, .inr (.inr 66)]) (h' := h) rfl ?_
      refine E2_ld (x := (.iaload, 0, [], [])) (ty := .int) (n := 151) rfl rfl rfl (by omega) (by omega) ?_
      show xEx2 RX12 G0 cdX12_writesTest none (xRn2 G0 MT (d + 2)) Q b 50 [some (.inr (.inr 66)), some (.inl k)] [.inl (h 80 k), .inl 40, .inr (.inr 66)] h
      refine E2_s 3 (i' := 53) (ls' := [some (.inr (.inr 66)), some (.inl k)]) (sk' := [.inl k, .inr (.inr 79), .inl (h 80 k), .inl 40, .inr (.inr 66)]) (h' := h) rfl ?_
      refine E2_ld (x := (.iaload, 0, [], [])) (ty := .int) (n := 151) rfl rfl rfl (by omega) (by omega) ?_
      show xEx2 RX12 G0 cdX12_writesTest none (xRn2 G0 MT (d + 2)) Q b 54 [some (.inr (.inr 66)), some (.inl k)] [.inl (h 79 k), .inl (h 80 k), .inl 40, .inr (.inr 66)] h
      refine E2_b (x := (.ifCond .ne 8, 57, [], [])) rfl rfl (fun c54 => ?_) (fun c54 => ?_)
      · rw [c_ne (by first | assumption | (refine ⟨?_, ?_⟩ <;> omega) | (simp only [xr] at *; omega)) (by first | assumption | (refine ⟨?_, ?_⟩ <;> omega) | (simp only [xr] at *; omega))] at c54
        simp only [decide_eq_true_eq, decide_eq_false_iff_not, Decidable.not_not] at c54
        show xEx2 RX12 G0 cdX12_writesTest none (xRn2 G0 MT (d + 2)) Q b 57 [some (.inr (.inr 66)), some (.inl k)] [.inl (h 80 k), .inl 40, .inr (.inr 66)] h
        refine E2_s 4 (i' := 61) (ls' := [some (.inr (.inr 66)), some (.inl k)]) (sk' := [.inl k, .inr (.inr 81), .inl 61, .inl (h 80 k), .inl 40, .inr (.inr 66)]) (h' := h) rfl ?_
        refine E2_ld (x := (.iaload, 0, [], [])) (ty := .int) (n := 151) rfl rfl rfl (by omega) (by omega) ?_
        show xEx2 RX12 G0 cdX12_writesTest none (xRn2 G0 MT (d + 2)) Q b 62 [some (.inr (.inr 66)), some (.inl k)] [.inl (h 81 k), .inl 61, .inl (h 80 k), .inl 40, .inr (.inr 66)] h
        refine E2_cv (x := (.invokevirtual 350, 4, [(10, 207)], [0])) (q := fun h9 => h9 = (ppshs h [3041, h 81 k, 3000 + 61, h 80 k, 3000 + 40])) rfl rfl (Nat.le_of_ble_eq_true rfl) (xRn_2 _ _ _ _ _ _ (m_two d 0 h 40 (h 80 k) 61 (h 81 k) ⟨by omega, by omega⟩ ⟨rfl, rfl⟩)) (fun h9 e9 => ?_)
        subst e9
        show xEx2 RX12 G0 cdX12_writesTest none (xRn2 G0 MT (d + 2)) Q b 63 [some (.inr (.inr 66)), some (.inl k)] [] (ppshs h [3041, h 81 k, 3000 + 61, h 80 k, 3000 + 40])
        exact E2_ret (x := (.return_, 0, [], [])) (v := none) rfl (trivial) (by
          have r9 := hQ
          unfold wxT at r9
          first
          | (exfalso; omega)
          | (rw [if_pos (by omega), ppshs_a] at r9; exact r9)
          | (rw [if_neg (by omega), if_pos (by omega)] at r9; exact r9)
          | (rw [if_neg (by omega), if_neg (by omega), if_pos (by omega)] at r9; exact r9)
          | (rw [if_neg (by omega), if_neg (by omega), if_neg (by omega)] at r9; exact r9))
      · rw [c_ne (by first | assumption | (refine ⟨?_, ?_⟩ <;> omega) | (simp only [xr] at *; omega)) (by first | assumption | (refine ⟨?_, ?_⟩ <;> omega) | (simp only [xr] at *; omega))] at c54
        simp only [decide_eq_true_eq, decide_eq_false_iff_not, Decidable.not_not] at c54
        show xEx2 RX12 G0 cdX12_writesTest none (xRn2 G0 MT (d + 2)) Q b 55 [some (.inr (.inr 66)), some (.inl k)] [.inl (h 80 k), .inl 40, .inr (.inr 66)] h
        refine E2_s 5 (i' := 61) (ls' := [some (.inr (.inr 66)), some (.inl k)]) (sk' := [.inl k, .inr (.inr 81), .inl 60, .inl (h 80 k), .inl 40, .inr (.inr 66)]) (h' := h) rfl ?_
        refine E2_ld (x := (.iaload, 0, [], [])) (ty := .int) (n := 151) rfl rfl rfl (by omega) (by omega) ?_
        show xEx2 RX12 G0 cdX12_writesTest none (xRn2 G0 MT (d + 2)) Q b 62 [some (.inr (.inr 66)), some (.inl k)] [.inl (h 81 k), .inl 60, .inl (h 80 k), .inl 40, .inr (.inr 66)] h
        refine E2_cv (x := (.invokevirtual 350, 4, [(10, 207)], [0])) (q := fun h9 => h9 = (ppshs h [3041, h 81 k, 3000 + 60, h 80 k, 3000 + 40])) rfl rfl (Nat.le_of_ble_eq_true rfl) (xRn_2 _ _ _ _ _ _ (m_two d 0 h 40 (h 80 k) 60 (h 81 k) ⟨by omega, by omega⟩ ⟨rfl, rfl⟩)) (fun h9 e9 => ?_)
        subst e9
        show xEx2 RX12 G0 cdX12_writesTest none (xRn2 G0 MT (d + 2)) Q b 63 [some (.inr (.inr 66)), some (.inl k)] [] (ppshs h [3041, h 81 k, 3000 + 60, h 80 k, 3000 + 40])
        exact E2_ret (x := (.return_, 0, [], [])) (v := none) rfl (trivial) (by
          have r9 := hQ
          unfold wxT at r9
          first
          | (exfalso; omega)
          | (rw [if_pos (by omega), ppshs_a] at r9; exact r9)
          | (rw [if_neg (by omega), if_pos (by omega)] at r9; exact r9)
          | (rw [if_neg (by omega), if_neg (by omega), if_pos (by omega)] at r9; exact r9)
          | (rw [if_neg (by omega), if_neg (by omega), if_neg (by omega)] at r9; exact r9))
    · rw [c_ne (by first | assumption | (refine ⟨?_, ?_⟩ <;> omega) | (simp only [xr] at *; omega)) (by first | assumption | (refine ⟨?_, ?_⟩ <;> omega) | (simp only [xr] at *; omega))] at c26
      simp only [decide_eq_true_eq, decide_eq_false_iff_not, Decidable.not_not] at c26
      show xEx2 RX12 G0 cdX12_writesTest none (xRn2 G0 MT (d + 2)) Q b 27 [some (.inr (.inr 66)), some (.inl k)] [] h
      refine E2_s 6 (i' := 33) (ls' := [some (.inr (.inr 66)), some (.inl k)]) (sk' := [.inl k, .inr (.inr 80), .inl 1000, .inl 40, .inr (.inr 66)]) (h' := h) rfl ?_
      refine E2_ld (x := (.iaload, 0, [], [])) (ty := .int) (n := 151) rfl rfl rfl (by omega) (by omega) ?_
      show xEx2 RX12 G0 cdX12_writesTest none (xRn2 G0 MT (d + 2)) Q b 34 [some (.inr (.inr 66)), some (.inl k)] [.inl (h 80 k), .inl 1000, .inl 40, .inr (.inr 66)] h
      refine E2_s 6 (i' := 40) (ls' := [some (.inr (.inr 66)), some (.inl k)]) (sk' := [.inl k, .inr (.inr 81), .inl 1000, .inl 38, .inl (1000 + (h 80 k)), .inl 40, .inr (.inr 66)]) (h' := h) rfl ?_
      refine E2_ld (x := (.iaload, 0, [], [])) (ty := .int) (n := 151) rfl rfl rfl (by omega) (by omega) ?_
      show xEx2 RX12 G0 cdX12_writesTest none (xRn2 G0 MT (d + 2)) Q b 41 [some (.inr (.inr 66)), some (.inl k)] [.inl (h 81 k), .inl 1000, .inl 38, .inl (1000 + (h 80 k)), .inl 40, .inr (.inr 66)] h
      refine E2_s 1 (i' := 42) (ls' := [some (.inr (.inr 66)), some (.inl k)]) (sk' := [.inl (1000 + (h 81 k)), .inl 38, .inl (1000 + (h 80 k)), .inl 40, .inr (.inr 66)]) (h' := h) rfl ?_
      refine E2_cv (x := (.invokevirtual 350, 4, [(10, 207)], [0])) (q := fun h9 => h9 = (ppshs h [3041, 1000 + (h 81 k), 3000 + 38, 1000 + (h 80 k), 3000 + 40])) rfl rfl (Nat.le_of_ble_eq_true rfl) (xRn_2 _ _ _ _ _ _ (m_two d 0 h 40 (1000 + (h 80 k)) 38 (1000 + (h 81 k)) ⟨by omega, by omega⟩ ⟨rfl, rfl⟩)) (fun h9 e9 => ?_)
      subst e9
      show xEx2 RX12 G0 cdX12_writesTest none (xRn2 G0 MT (d + 2)) Q b 43 [some (.inr (.inr 66)), some (.inl k)] [] (ppshs h [3041, 1000 + (h 81 k), 3000 + 38, 1000 + (h 80 k), 3000 + 40])
      refine E2_s 1 (i' := 63) (ls' := [some (.inr (.inr 66)), some (.inl k)]) (sk' := []) (h' := (ppshs h [3041, 1000 + (h 81 k), 3000 + 38, 1000 + (h 80 k), 3000 + 40])) rfl ?_
      exact E2_ret (x := (.return_, 0, [], [])) (v := none) rfl (trivial) (by
        have r9 := hQ
        unfold wxT at r9
        first
        | (exfalso; omega)
        | (rw [if_pos (by omega), ppshs_a] at r9; exact r9)
        | (rw [if_neg (by omega), if_pos (by omega)] at r9; exact r9)
        | (rw [if_neg (by omega), if_neg (by omega), if_pos (by omega)] at r9; exact r9)
        | (rw [if_neg (by omega), if_neg (by omega), if_neg (by omega)] at r9; exact r9))
  · rw [c_ne (by first | assumption | (refine ⟨?_, ?_⟩ <;> omega) | (simp only [xr] at *; omega)) (by first | assumption | (refine ⟨?_, ?_⟩ <;> omega) | (simp only [xr] at *; omega))] at c5
    simp only [decide_eq_true_eq, decide_eq_false_iff_not, Decidable.not_not] at c5
    show xEx2 RX12 G0 cdX12_writesTest none (xRn2 G0 MT (d + 2)) Q b 6 [some (.inr (.inr 66)), some (.inl k)] [] h
    refine E2_s 2 (i' := 8) (ls' := [some (.inr (.inr 66)), some (.inl k)]) (sk' := [.inl 3041, .inr (.inr 66)]) (h' := h) rfl ?_
    refine E2_cv (x := (.invokevirtual 325, 1, [(10, 203)], [0])) (q := fun h9 => h9 = (ppsh h (3041))) rfl rfl (Nat.le_of_ble_eq_true rfl) (xRn_2 _ _ _ _ _ _ (m_push (d + 1) 0 h (3041) (by omega) ⟨rfl, rfl⟩)) (fun h9 e9 => ?_)
    subst e9
    show xEx2 RX12 G0 cdX12_writesTest none (xRn2 G0 MT (d + 2)) Q b 9 [some (.inr (.inr 66)), some (.inl k)] [] (ppsh h (3041))
    refine E2_s 5 (i' := 14) (ls' := [some (.inr (.inr 66)), some (.inl k)]) (sk' := [.inl k, .inr (.inr 80), .inl 1000, .inr (.inr 66)]) (h' := (ppsh h (3041))) rfl ?_
    refine E2_ld (x := (.iaload, 0, [], [])) (ty := .int) (n := 151) rfl rfl rfl (by omega) (by omega) ?_
    show xEx2 RX12 G0 cdX12_writesTest none (xRn2 G0 MT (d + 2)) Q b 15 [some (.inr (.inr 66)), some (.inl k)] [.inl ((ppsh h (3041)) 80 k), .inl 1000, .inr (.inr 66)] (ppsh h (3041))
    refine E2_s 1 (i' := 16) (ls' := [some (.inr (.inr 66)), some (.inl k)]) (sk' := [.inl (1000 + ((ppsh h (3041)) 80 k)), .inr (.inr 66)]) (h' := (ppsh h (3041))) rfl ?_
    refine E2_cv (x := (.invokevirtual 325, 1, [(10, 203)], [0])) (q := fun h9 => h9 = (ppsh (ppsh h (3041)) (1000 + ((ppsh h (3041)) 80 k)))) rfl rfl (Nat.le_of_ble_eq_true rfl) (xRn_2 _ _ _ _ _ _ (m_push (d + 1) 0 (ppsh h (3041)) (1000 + ((ppsh h (3041)) 80 k)) (by simp only [ppsh_l]; omega) ⟨rfl, rfl⟩)) (fun h9 e9 => ?_)
    subst e9
    show xEx2 RX12 G0 cdX12_writesTest none (xRn2 G0 MT (d + 2)) Q b 17 [some (.inr (.inr 66)), some (.inl k)] [] (ppsh (ppsh h (3041)) (1000 + ((ppsh h (3041)) 80 k)))
    refine E2_s 1 (i' := 18) (ls' := [some (.inr (.inr 66)), some (.inl k)]) (sk' := [.inr (.inr 66)]) (h' := (ppsh (ppsh h (3041)) (1000 + ((ppsh h (3041)) 80 k)))) rfl ?_
    refine E2_str (x := (.ldc_w 358, 0, [(1, 0)], [])) 13 rfl (Or.inr rfl) rfl ?_
    show xEx2 RX12 G0 cdX12_writesTest none (xRn2 G0 MT (d + 2)) Q b 19 [some (.inr (.inr 66)), some (.inl k)] [.inr (.inr (1000 + 13)), .inr (.inr 66)] (ppsh (ppsh h (3041)) (1000 + ((ppsh h (3041)) 80 k)))
    refine E2_cv (x := (.invokevirtual 343, 1, [(10, 204)], [0])) (q := fun h9 => h9 = (ppshs (ppsh (ppsh h (3041)) (1000 + ((ppsh h (3041)) 80 k))) (wrd [33, 40]))) rfl rfl (Nat.le_of_ble_eq_true rfl) (m_word d 0 (ppsh (ppsh h (3041)) (1000 + ((ppsh h (3041)) 80 k))) 13 (RX12, 358, [33, 40]) rfl (by simp only [ppsh_l, ppshs_l, List.length_cons, List.length_nil]; omega) ⟨rfl, rfl⟩) (fun h9 e9 => ?_)
    subst e9
    show xEx2 RX12 G0 cdX12_writesTest none (xRn2 G0 MT (d + 2)) Q b 20 [some (.inr (.inr 66)), some (.inl k)] [] (ppshs (ppsh (ppsh h (3041)) (1000 + ((ppsh h (3041)) 80 k))) (wrd [33, 40]))
    refine E2_s 1 (i' := 63) (ls' := [some (.inr (.inr 66)), some (.inl k)]) (sk' := []) (h' := (ppshs (ppsh (ppsh h (3041)) (1000 + ((ppsh h (3041)) 80 k))) (wrd [33, 40]))) rfl ?_
    exact E2_ret (x := (.return_, 0, [], [])) (v := none) rfl (trivial) (by
      have r9 := hQ
      unfold wxT at r9
      first
      | (exfalso; omega)
      | (rw [if_pos (by omega), ppshs_a] at r9; exact r9)
      | (rw [if_neg (by omega), if_pos (by omega)] at r9; exact r9)
      | (rw [if_neg (by omega), if_neg (by omega), if_pos (by omega)] at r9; exact r9)
      | (rw [if_neg (by omega), if_neg (by omega), if_neg (by omega)] at r9; exact r9))
set_option maxHeartbeats 1000000 in
theorem m_wrN (d b : Nat) (h : xH) (nd : Int) (hk : 0 ≤ nd ∧ nd < 16) (h1 : xr (h 105 nd)) (hp : 0 ≤ h 66 47 ∧ h 66 47 + 8 ≤ 400) {Q : xO → xH → Prop} (hQ : Q (.inl none) (wxN h (h 105 nd) (h 106 nd) nd)) : xRn G0 MT (d + 2) b 211 [.inr (.inr 66), .inl nd] h Q := by
  refine R_of (M := mX12_writesNode) rfl (Nat.le_of_ble_eq_true rfl) ?_
  show xEx G0 cdX12_writesNode none (xRn G0 MT (d + 1)) Q b 0 [some (.inr (.inr 66)), some (.inl nd)] [] h
  refine E_s 3 (i' := 3) (ls' := [some (.inr (.inr 66)), some (.inl nd)]) (sk' := [.inl nd, .inr (.inr 105)]) (h' := h) rfl ?_
  refine E_ld (x := (.iaload, 0, [], [])) (ty := .int) (n := 32) rfl rfl rfl (by omega) (by omega) ?_
  show xEx G0 cdX12_writesNode none (xRn G0 MT (d + 1)) Q b 4 [some (.inr (.inr 66)), some (.inl nd)] [.inl (h 105 nd)] h
  refine E_s 1 (i' := 5) (ls' := [some (.inr (.inr 66)), some (.inl nd)]) (sk' := [.inl (-1), .inl (h 105 nd)]) (h' := h) rfl ?_
  refine E_b (x := (.if_icmp .ne 14, 13, [], [])) rfl rfl (fun c5 => ?_) (fun c5 => ?_)
  · rw [c_ne (by first | assumption | (refine ⟨?_, ?_⟩ <;> omega) | (simp only [xr] at *; omega)) (by first | assumption | (refine ⟨?_, ?_⟩ <;> omega) | (simp only [xr] at *; omega))] at c5
    simp only [decide_eq_true_eq, decide_eq_false_iff_not, Decidable.not_not] at c5
    show xEx G0 cdX12_writesNode none (xRn G0 MT (d + 1)) Q b 13 [some (.inr (.inr 66)), some (.inl nd)] [] h
    refine E_s 2 (i' := 15) (ls' := [some (.inr (.inr 66)), some (.inl nd)]) (sk' := [.inl 3093, .inr (.inr 66)]) (h' := h) rfl ?_
    refine E_cv (x := (.invokevirtual 325, 1, [(10, 203)], [0])) (q := fun h9 => h9 = (ppsh h (3093))) rfl rfl (Nat.le_of_ble_eq_true rfl) (m_push d 0 h (3093) (by omega) ⟨rfl, rfl⟩) (fun h9 e9 => ?_)
    subst e9
    show xEx G0 cdX12_writesNode none (xRn G0 MT (d + 1)) Q b 16 [some (.inr (.inr 66)), some (.inl nd)] [] (ppsh h (3093))
    refine E_s 8 (i' := 24) (ls' := [some (.inr (.inr 66)), some (.inl nd)]) (sk' := [.inl ((2000 + (2 * nd)) + 1), .inr (.inr 66)]) (h' := (ppsh h (3093))) rfl ?_
    refine E_cv (x := (.invokevirtual 325, 1, [(10, 203)], [0])) (q := fun h9 => h9 = (ppsh (ppsh h (3093)) ((2000 + (2 * nd)) + 1))) rfl rfl (Nat.le_of_ble_eq_true rfl) (m_push d 0 (ppsh h (3093)) ((2000 + (2 * nd)) + 1) (by simp only [ppsh_l]; omega) ⟨rfl, rfl⟩) (fun h9 e9 => ?_)
    subst e9
    show xEx G0 cdX12_writesNode none (xRn G0 MT (d + 1)) Q b 25 [some (.inr (.inr 66)), some (.inl nd)] [] (ppsh (ppsh h (3093)) ((2000 + (2 * nd)) + 1))
    refine E_s 2 (i' := 27) (ls' := [some (.inr (.inr 66)), some (.inl nd)]) (sk' := [.inl 3058, .inr (.inr 66)]) (h' := (ppsh (ppsh h (3093)) ((2000 + (2 * nd)) + 1))) rfl ?_
    refine E_cv (x := (.invokevirtual 325, 1, [(10, 203)], [0])) (q := fun h9 => h9 = (ppsh (ppsh (ppsh h (3093)) ((2000 + (2 * nd)) + 1)) (3058))) rfl rfl (Nat.le_of_ble_eq_true rfl) (m_push d 0 (ppsh (ppsh h (3093)) ((2000 + (2 * nd)) + 1)) (3058) (by simp only [ppsh_l]; omega) ⟨rfl, rfl⟩) (fun h9 e9 => ?_)
    subst e9
    show xEx G0 cdX12_writesNode none (xRn G0 MT (d + 1)) Q b 28 [some (.inr (.inr 66)), some (.inl nd)] [] (ppsh (ppsh (ppsh h (3093)) ((2000 + (2 * nd)) + 1)) (3058))
    refine E_s 6 (i' := 34) (ls' := [some (.inr (.inr 66)), some (.inl nd)]) (sk' := [.inl (2000 + (2 * nd)), .inr (.inr 66)]) (h' := (ppsh (ppsh (ppsh h (3093)) ((2000 + (2 * nd)) + 1)) (3058))) rfl ?_
    refine E_cv (x := (.invokevirtual 325, 1, [(10, 203)], [0])) (q := fun h9 => h9 = (ppsh (ppsh (ppsh (ppsh h (3093)) ((2000 + (2 * nd)) + 1)) (3058)) (2000 + (2 * nd)))) rfl rfl (Nat.le_of_ble_eq_true rfl) (m_push d 0 (ppsh (ppsh (ppsh h (3093)) ((2000 + (2 * nd)) + 1)) (3058)) (2000 + (2 * nd)) (by simp only [ppsh_l]; omega) ⟨rfl, rfl⟩) (fun h9 e9 => ?_)
    subst e9
    show xEx G0 cdX12_writesNode none (xRn G0 MT (d + 1)) Q b 35 [some (.inr (.inr 66)), some (.inl nd)] [] (ppsh (ppsh (ppsh (ppsh h (3093)) ((2000 + (2 * nd)) + 1)) (3058)) (2000 + (2 * nd)))
    refine E_s 2 (i' := 37) (ls' := [some (.inr (.inr 66)), some (.inl nd)]) (sk' := [.inl 3063, .inr (.inr 66)]) (h' := (ppsh (ppsh (ppsh (ppsh h (3093)) ((2000 + (2 * nd)) + 1)) (3058)) (2000 + (2 * nd)))) rfl ?_
    refine E_cv (x := (.invokevirtual 325, 1, [(10, 203)], [0])) (q := fun h9 => h9 = (ppsh (ppsh (ppsh (ppsh (ppsh h (3093)) ((2000 + (2 * nd)) + 1)) (3058)) (2000 + (2 * nd))) (3063))) rfl rfl (Nat.le_of_ble_eq_true rfl) (m_push d 0 (ppsh (ppsh (ppsh (ppsh h (3093)) ((2000 + (2 * nd)) + 1)) (3058)) (2000 + (2 * nd))) (3063) (by simp only [ppsh_l]; omega) ⟨rfl, rfl⟩) (fun h9 e9 => ?_)
    subst e9
    show xEx G0 cdX12_writesNode none (xRn G0 MT (d + 1)) Q b 38 [some (.inr (.inr 66)), some (.inl nd)] [] (ppsh (ppsh (ppsh (ppsh (ppsh h (3093)) ((2000 + (2 * nd)) + 1)) (3058)) (2000 + (2 * nd))) (3063))
    refine E_s 5 (i' := 43) (ls' := [some (.inr (.inr 66)), some (.inl nd)]) (sk' := [.inl nd, .inr (.inr 105), .inl 1000, .inr (.inr 66)]) (h' := (ppsh (ppsh (ppsh (ppsh (ppsh h (3093)) ((2000 + (2 * nd)) + 1)) (3058)) (2000 + (2 * nd))) (3063))) rfl ?_
    refine E_ld (x := (.iaload, 0, [], [])) (ty := .int) (n := 32) rfl rfl rfl (by omega) (by omega) ?_
    show xEx G0 cdX12_writesNode none (xRn G0 MT (d + 1)) Q b 44 [some (.inr (.inr 66)), some (.inl nd)] [.inl ((ppsh (ppsh (ppsh (ppsh (ppsh h (3093)) ((2000 + (2 * nd)) + 1)) (3058)) (2000 + (2 * nd))) (3063)) 105 nd), .inl 1000, .inr (.inr 66)] (ppsh (ppsh (ppsh (ppsh (ppsh h (3093)) ((2000 + (2 * nd)) + 1)) (3058)) (2000 + (2 * nd))) (3063))
    refine E_s 1 (i' := 45) (ls' := [some (.inr (.inr 66)), some (.inl nd)]) (sk' := [.inl (1000 + ((ppsh (ppsh (ppsh (ppsh (ppsh h (3093)) ((2000 + (2 * nd)) + 1)) (3058)) (2000 + (2 * nd))) (3063)) 105 nd)), .inr (.inr 66)]) (h' := (ppsh (ppsh (ppsh (ppsh (ppsh h (3093)) ((2000 + (2 * nd)) + 1)) (3058)) (2000 + (2 * nd))) (3063))) rfl ?_
    refine E_cv (x := (.invokevirtual 325, 1, [(10, 203)], [0])) (q := fun h9 => h9 = (ppsh (ppsh (ppsh (ppsh (ppsh (ppsh h (3093)) ((2000 + (2 * nd)) + 1)) (3058)) (2000 + (2 * nd))) (3063)) (1000 + ((ppsh (ppsh (ppsh (ppsh (ppsh h (3093)) ((2000 + (2 * nd)) + 1)) (3058)) (2000 + (2 * nd))) (3063)) 105 nd)))) rfl rfl (Nat.le_of_ble_eq_true rfl) (m_push d 0 (ppsh (ppsh (ppsh (ppsh (ppsh h (3093)) ((2000 + (2 * nd)) + 1)) (3058)) (2000 + (2 * nd))) (3063)) (1000 + ((ppsh (ppsh (ppsh (ppsh (ppsh h (3093)) ((2000 + (2 * nd)) + 1)) (3058)) (2000 + (2 * nd))) (3063)) 105 nd)) (by simp only [ppsh_l]; omega) ⟨rfl, rfl⟩) (fun h9 e9 => ?_)
    subst e9
    show xEx G0 cdX12_writesNode none (xRn G0 MT (d + 1)) Q b 46 [some (.inr (.inr 66)), some (.inl nd)] [] (ppsh (ppsh (ppsh (ppsh (ppsh (ppsh h (3093)) ((2000 + (2 * nd)) + 1)) (3058)) (2000 + (2 * nd))) (3063)) (1000 + ((ppsh (ppsh (ppsh (ppsh (ppsh h (3093)) ((2000 + (2 * nd)) + 1)) (3058)) (2000 + (2 * nd))) (3063)) 105 nd)))
    refine E_s 2 (i' := 48) (ls' := [some (.inr (.inr 66)), some (.inl nd)]) (sk' := [.inl 3091, .inr (.inr 66)]) (h' := (ppsh (ppsh (ppsh (ppsh (ppsh (ppsh h (3093)) ((2000 + (2 * nd)) + 1)) (3058)) (2000 + (2 * nd))) (3063)) (1000 + ((ppsh (ppsh (ppsh (ppsh (ppsh h (3093)) ((2000 + (2 * nd)) + 1)) (3058)) (2000 + (2 * nd))) (3063)) 105 nd)))) rfl ?_
    refine E_cv (x := (.invokevirtual 325, 1, [(10, 203)], [0])) (q := fun h9 => h9 = (ppsh (ppsh (ppsh (ppsh (ppsh (ppsh (ppsh h (3093)) ((2000 + (2 * nd)) + 1)) (3058)) (2000 + (2 * nd))) (3063)) (1000 + ((ppsh (ppsh (ppsh (ppsh (ppsh h (3093)) ((2000 + (2 * nd)) + 1)) (3058)) (2000 + (2 * nd))) (3063)) 105 nd))) (3091))) rfl rfl (Nat.le_of_ble_eq_true rfl) (m_push d 0 (ppsh (ppsh (ppsh (ppsh (ppsh (ppsh h (3093)) ((2000 + (2 * nd)) + 1)) (3058)) (2000 + (2 * nd))) (3063)) (1000 + ((ppsh (ppsh (ppsh (ppsh (ppsh h (3093)) ((2000 + (2 * nd)) + 1)) (3058)) (2000 + (2 * nd))) (3063)) 105 nd))) (3091) (by simp only [ppsh_l]; omega) ⟨rfl, rfl⟩) (fun h9 e9 => ?_)
    subst e9
    show xEx G0 cdX12_writesNode none (xRn G0 MT (d + 1)) Q b 49 [some (.inr (.inr 66)), some (.inl nd)] [] (ppsh (ppsh (ppsh (ppsh (ppsh (ppsh (ppsh h (3093)) ((2000 + (2 * nd)) + 1)) (3058)) (2000 + (2 * nd))) (3063)) (1000 + ((ppsh (ppsh (ppsh (ppsh (ppsh h (3093)) ((2000 + (2 * nd)) + 1)) (3058)) (2000 + (2 * nd))) (3063)) 105 nd))) (3091))
    exact E_ret (x := (.return_, 0, [], [])) (v := none) rfl (trivial) (by
      have r9 := hQ
      unfold wxN at r9
      rw [if_neg (by omega)] at r9
      exact r9)
  · rw [c_ne (by first | assumption | (refine ⟨?_, ?_⟩ <;> omega) | (simp only [xr] at *; omega)) (by first | assumption | (refine ⟨?_, ?_⟩ <;> omega) | (simp only [xr] at *; omega))] at c5
    simp only [decide_eq_true_eq, decide_eq_false_iff_not, Decidable.not_not] at c5
    show xEx G0 cdX12_writesNode none (xRn G0 MT (d + 1)) Q b 6 [some (.inr (.inr 66)), some (.inl nd)] [] h
    refine E_s 4 (i' := 10) (ls' := [some (.inr (.inr 66)), some (.inl nd)]) (sk' := [.inl nd, .inr (.inr 106), .inr (.inr 66)]) (h' := h) rfl ?_
    refine E_ld (x := (.iaload, 0, [], [])) (ty := .int) (n := 32) rfl rfl rfl (by omega) (by omega) ?_
    show xEx G0 cdX12_writesNode none (xRn G0 MT (d + 1)) Q b 11 [some (.inr (.inr 66)), some (.inl nd)] [.inl (h 106 nd), .inr (.inr 66)] h
    refine E_cv (x := (.invokevirtual 325, 1, [(10, 203)], [0])) (q := fun h9 => h9 = (ppsh h (h 106 nd))) rfl rfl (Nat.le_of_ble_eq_true rfl) (m_push d 0 h (h 106 nd) (by omega) ⟨rfl, rfl⟩) (fun h9 e9 => ?_)
    subst e9
    show xEx G0 cdX12_writesNode none (xRn G0 MT (d + 1)) Q b 12 [some (.inr (.inr 66)), some (.inl nd)] [] (ppsh h (h 106 nd))
    exact E_ret (x := (.return_, 0, [], [])) (v := none) rfl (trivial) (by
      have r9 := hQ
      unfold wxN at r9
      rw [if_pos (by omega)] at r9
      exact r9)
