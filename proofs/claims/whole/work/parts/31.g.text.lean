/-- what the reference does with an EXPRESSION's code -/
def wrU (k : Int) : List Int := if k = 5 then [45, 40] else if k = 8 then [97, 98, 115, 40] else [115, 103, 110, 40]
def wrB (k : Int) : List Int := if k = 3 then wrd [109, 105, 110] else if k = 4 then wrd [109, 97, 120] else []
def sgB (k : Int) : Int := if k = 3 ∨ k = 4 then 44 else sgc k
def wxE (h : xH) (k u w : Int) : xH := if k = 10 then padd h (120 + u) else if k = 11 then padds h (dgt u) else if k = 5 ∨ k = 8 ∨ k = 9 then ppshs h ([3041, u] ++ wrd (wrU k)) else ppshs h ([3041, w, 3000 + sgB k, u, 3040] ++ wrB k)
set_option maxHeartbeats 1000000 in
theorem m_wrE (d b : Nat) (h : xH) (k : Int) (hk : 0 ≤ k ∧ k < 301) (h1 : 0 ≤ h 69 k ∧ h 69 k ≤ 11) (h2 : h 69 k = 10 → 0 ≤ h 70 k ∧ h 70 k ≤ 2) (h3 : h 69 k = 11 → -99 ≤ h 70 k ∧ h 70 k ≤ 99) (hp : 0 ≤ h 66 47 ∧ h 66 47 + 8 ≤ 400) (hw : 0 ≤ h 66 45 ∧ h 66 45 + 3 ≤ 1024) {Q : xO → xH → Prop} (hQ : Q (.inl none) (wxE h (h 69 k) (h 70 k) (h 71 k))) : xRn2 G0 MT (d + 3) b 209 [.inr (.inr 66), .inl k] h Q := by
  refine R2_of (M := mX12_writesExpression) rfl (Nat.le_of_ble_eq_true rfl) ?_
  show xEx2 RX12 G0 cdX12_writesExpression none (xRn2 G0 MT (d + 2)) Q b 0 [some (.inr (.inr 66)), some (.inl k), none] [] h
  refine E2_s 3 (i' := 3) (ls' := [some (.inr (.inr 66)), some (.inl k), none]) (sk' := [.inl k, .inr (.inr 69)]) (h' := h) rfl ?_
  refine E2_ld (x := (.iaload, 0, [], [])) (ty := .int) (n := 301) rfl rfl rfl (by omega) (by omega) ?_
  show xEx2 RX12 G0 cdX12_writesExpression none (xRn2 G0 MT (d + 2)) Q b 4 [some (.inr (.inr 66)), some (.inl k), none] [.inl (h 69 k)] h
  refine E2_s 3 (i' := 7) (ls' := [some (.inr (.inr 66)), some (.inl k), some (.inl (h 69 k))]) (sk' := [.inl 10, .inl (h 69 k)]) (h' := h) rfl ?_
  refine E2_b (x := (.if_icmp .ne 19, 17, [], [])) rfl rfl (fun c7 => ?_) (fun c7 => ?_)
  · rw [c_ne (by first | assumption | (refine ⟨?_, ?_⟩ <;> omega) | (simp only [xr] at *; omega)) (by first | assumption | (refine ⟨?_, ?_⟩ <;> omega) | (simp only [xr] at *; omega))] at c7
    simp only [decide_eq_true_eq, decide_eq_false_iff_not, Decidable.not_not] at c7
    show xEx2 RX12 G0 cdX12_writesExpression none (xRn2 G0 MT (d + 2)) Q b 17 [some (.inr (.inr 66)), some (.inl k), some (.inl (h 69 k))] [] h
    refine E2_s 2 (i' := 19) (ls' := [some (.inr (.inr 66)), some (.inl k), some (.inl (h 69 k))]) (sk' := [.inl 11, .inl (h 69 k)]) (h' := h) rfl ?_
    refine E2_b (x := (.if_icmp .ne 16, 27, [], [])) rfl rfl (fun c19 => ?_) (fun c19 => ?_)
    · rw [c_ne (by first | assumption | (refine ⟨?_, ?_⟩ <;> omega) | (simp only [xr] at *; omega)) (by first | assumption | (refine ⟨?_, ?_⟩ <;> omega) | (simp only [xr] at *; omega))] at c19
      simp only [decide_eq_true_eq, decide_eq_false_iff_not, Decidable.not_not] at c19
      show xEx2 RX12 G0 cdX12_writesExpression none (xRn2 G0 MT (d + 2)) Q b 27 [some (.inr (.inr 66)), some (.inl k), some (.inl (h 69 k))] [] h
      refine E2_s 1 (i' := 28) (ls' := [some (.inr (.inr 66)), some (.inl k), some (.inl (h 69 k))]) (sk' := [.inl (h 69 k)]) (h' := h) rfl ?_
      refine E2_cp (x := (.invokestatic 242, 1, [(0, 174)], [])) (q := fun r h9 => ((r = 1 ∧ (h 69 k = 5 ∨ h 69 k = 8 ∨ h 69 k = 9)) ∨ (r = 0 ∧ ¬ (h 69 k = 5 ∨ h 69 k = 8 ∨ h 69 k = 9))) ∧ h = h9) rfl rfl (Nat.le_of_ble_eq_true rfl) (xRn_2 _ _ _ _ _ _ (m_isOfOne (d + 1) 0 h (h 69 k) ⟨by omega, by omega⟩ (fun z => ⟨_, rfl, Or.inl ⟨rfl, z⟩, rfl⟩) (fun z => ⟨_, rfl, Or.inr ⟨rfl, z⟩, rfl⟩))) (fun r1 h9 hq1 => ?_)
      obtain ⟨hq1, rfl⟩ := hq1
      show xEx2 RX12 G0 cdX12_writesExpression none (xRn2 G0 MT (d + 2)) Q b 29 [some (.inr (.inr 66)), some (.inl k), some (.inl (h 69 k))] [.inl r1] h
      refine E2_b (x := (.ifCond .eq 53, 53, [], [])) rfl rfl (fun c29 => ?_) (fun c29 => ?_)
      · rw [c_eq (by first | assumption | (refine ⟨?_, ?_⟩ <;> omega) | (simp only [xr] at *; omega)) (by first | assumption | (refine ⟨?_, ?_⟩ <;> omega) | (simp only [xr] at *; omega))] at c29
        simp only [decide_eq_true_eq, decide_eq_false_iff_not, Decidable.not_not] at c29
        show xEx2 RX12 G0 cdX12_writesExpression none (xRn2 G0 MT (d + 2)) Q b 53 [some (.inr (.inr 66)), some (.inl k), some (.inl (h 69 k))] [] h
        refine E2_s 5 (i' := 58) (ls' := [some (.inr (.inr 66)), some (.inl k), some (.inl (h 69 k))]) (sk' := [.inl k, .inr (.inr 70), .inl 40, .inr (.inr 66)]) (h' := h) rfl ?_
        refine E2_ld (x := (.iaload, 0, [], [])) (ty := .int) (n := 301) rfl rfl rfl (by omega) (by omega) ?_
        show xEx2 RX12 G0 cdX12_writesExpression none (xRn2 G0 MT (d + 2)) Q b 59 [some (.inr (.inr 66)), some (.inl k), some (.inl (h 69 k))] [.inl (h 70 k), .inl 40, .inr (.inr 66)] h
        refine E2_s 2 (i' := 61) (ls' := [some (.inr (.inr 66)), some (.inl k), some (.inl (h 69 k))]) (sk' := [.inl 3, .inl (h 69 k), .inl (h 70 k), .inl 40, .inr (.inr 66)]) (h' := h) rfl ?_
        refine E2_b (x := (.if_icmp .eq 8, 65, [], [])) rfl rfl (fun c61 => ?_) (fun c61 => ?_)
        · rw [c_eq (by first | assumption | (refine ⟨?_, ?_⟩ <;> omega) | (simp only [xr] at *; omega)) (by first | assumption | (refine ⟨?_, ?_⟩ <;> omega) | (simp only [xr] at *; omega))] at c61
          simp only [decide_eq_true_eq, decide_eq_false_iff_not, Decidable.not_not] at c61
          show xEx2 RX12 G0 cdX12_writesExpression none (xRn2 G0 MT (d + 2)) Q b 65 [some (.inr (.inr 66)), some (.inl k), some (.inl (h 69 k))] [.inl (h 70 k), .inl 40, .inr (.inr 66)] h
          refine E2_s 5 (i' := 72) (ls' := [some (.inr (.inr 66)), some (.inl k), some (.inl (h 69 k))]) (sk' := [.inl k, .inr (.inr 71), .inl 44, .inl (h 70 k), .inl 40, .inr (.inr 66)]) (h' := h) rfl ?_
          refine E2_ld (x := (.iaload, 0, [], [])) (ty := .int) (n := 301) rfl rfl rfl (by omega) (by omega) ?_
          show xEx2 RX12 G0 cdX12_writesExpression none (xRn2 G0 MT (d + 2)) Q b 73 [some (.inr (.inr 66)), some (.inl k), some (.inl (h 69 k))] [.inl (h 71 k), .inl 44, .inl (h 70 k), .inl 40, .inr (.inr 66)] h
          refine E2_cv (x := (.invokevirtual 350, 4, [(10, 207)], [0])) (q := fun h9 => h9 = (ppshs h [3041, h 71 k, 3000 + 44, h 70 k, 3000 + 40])) rfl rfl (Nat.le_of_ble_eq_true rfl) (xRn_2 _ _ _ _ _ _ (m_two d 0 h 40 (h 70 k) 44 (h 71 k) ⟨by omega, by omega⟩ ⟨rfl, rfl⟩)) (fun h9 e9 => ?_)
          subst e9
          show xEx2 RX12 G0 cdX12_writesExpression none (xRn2 G0 MT (d + 2)) Q b 74 [some (.inr (.inr 66)), some (.inl k), some (.inl (h 69 k))] [] (ppshs h [3041, h 71 k, 3000 + 44, h 70 k, 3000 + 40])
          refine E2_s 2 (i' := 76) (ls' := [some (.inr (.inr 66)), some (.inl k), some (.inl (h 69 k))]) (sk' := [.inl 3, .inl (h 69 k)]) (h' := (ppshs h [3041, h 71 k, 3000 + 44, h 70 k, 3000 + 40])) rfl ?_
          refine E2_b (x := (.if_icmp .ne 10, 80, [], [])) rfl rfl (fun c76 => ?_) (fun c76 => ?_)
          · rw [c_ne (by first | assumption | (refine ⟨?_, ?_⟩ <;> omega) | (simp only [xr] at *; omega)) (by first | assumption | (refine ⟨?_, ?_⟩ <;> omega) | (simp only [xr] at *; omega))] at c76
            simp only [decide_eq_true_eq, decide_eq_false_iff_not, Decidable.not_not] at c76
            show xEx2 RX12 G0 cdX12_writesExpression none (xRn2 G0 MT (d + 2)) Q b 80 [some (.inr (.inr 66)), some (.inl k), some (.inl (h 69 k))] [] (ppshs h [3041, h 71 k, 3000 + 44, h 70 k, 3000 + 40])
            refine E2_s 2 (i' := 82) (ls' := [some (.inr (.inr 66)), some (.inl k), some (.inl (h 69 k))]) (sk' := [.inl 4, .inl (h 69 k)]) (h' := (ppshs h [3041, h 71 k, 3000 + 44, h 70 k, 3000 + 40])) rfl ?_
            refine E2_b (x := (.if_icmp .ne 10, 86, [], [])) rfl rfl (fun c82 => ?_) (fun c82 => ?_)
            · rw [c_ne (by first | assumption | (refine ⟨?_, ?_⟩ <;> omega) | (simp only [xr] at *; omega)) (by first | assumption | (refine ⟨?_, ?_⟩ <;> omega) | (simp only [xr] at *; omega))] at c82
              simp only [decide_eq_true_eq, decide_eq_false_iff_not, Decidable.not_not] at c82
              show xEx2 RX12 G0 cdX12_writesExpression none (xRn2 G0 MT (d + 2)) Q b 86 [some (.inr (.inr 66)), some (.inl k), some (.inl (h 69 k))] [] (ppshs h [3041, h 71 k, 3000 + 44, h 70 k, 3000 + 40])
              exact E2_ret (x := (.return_, 0, [], [])) (v := none) rfl (trivial) (by
                have r9 := hQ
                unfold wxE at r9
                first
                | (exfalso; omega)
                | (rw [if_pos (by omega)] at r9; exact r9)
                | (rw [if_neg (by omega), if_pos (by omega)] at r9; exact r9)
                | (rw [if_neg (by omega), if_neg (by omega), if_pos (by omega), ppshs_a] at r9
                   unfold wrU at r9
                   first
                   | (rw [if_pos (by omega)] at r9; exact r9)
                   | (rw [if_neg (by omega), if_pos (by omega)] at r9; exact r9)
                   | (rw [if_neg (by omega), if_neg (by omega)] at r9; exact r9))
                | (rw [if_neg (by omega), if_neg (by omega), if_neg (by omega), ppshs_a] at r9
                   unfold wrB sgB at r9
                   first
                   | (rw [if_pos (by omega), if_pos (by omega)] at r9; exact r9)
                   | (rw [if_pos (by omega), if_neg (by omega), if_pos (by omega)] at r9; exact r9)
                   | (rw [if_neg (by omega), if_neg (by omega), if_neg (by omega)] at r9; exact r9)))
            · rw [c_ne (by first | assumption | (refine ⟨?_, ?_⟩ <;> omega) | (simp only [xr] at *; omega)) (by first | assumption | (refine ⟨?_, ?_⟩ <;> omega) | (simp only [xr] at *; omega))] at c82
              simp only [decide_eq_true_eq, decide_eq_false_iff_not, Decidable.not_not] at c82
              show xEx2 RX12 G0 cdX12_writesExpression none (xRn2 G0 MT (d + 2)) Q b 83 [some (.inr (.inr 66)), some (.inl k), some (.inl (h 69 k))] [] (ppshs h [3041, h 71 k, 3000 + 44, h 70 k, 3000 + 40])
              refine E2_s 1 (i' := 84) (ls' := [some (.inr (.inr 66)), some (.inl k), some (.inl (h 69 k))]) (sk' := [.inr (.inr 66)]) (h' := (ppshs h [3041, h 71 k, 3000 + 44, h 70 k, 3000 + 40])) rfl ?_
              refine E2_str (x := (.ldc_w 356, 0, [(1, 0)], [])) 12 rfl (Or.inr rfl) rfl ?_
              show xEx2 RX12 G0 cdX12_writesExpression none (xRn2 G0 MT (d + 2)) Q b 85 [some (.inr (.inr 66)), some (.inl k), some (.inl (h 69 k))] [.inr (.inr (1000 + 12)), .inr (.inr 66)] (ppshs h [3041, h 71 k, 3000 + 44, h 70 k, 3000 + 40])
              refine E2_cv (x := (.invokevirtual 343, 1, [(10, 204)], [0])) (q := fun h9 => h9 = (ppshs (ppshs h [3041, h 71 k, 3000 + 44, h 70 k, 3000 + 40]) (wrd [109, 97, 120]))) rfl rfl (Nat.le_of_ble_eq_true rfl) (m_word d 0 (ppshs h [3041, h 71 k, 3000 + 44, h 70 k, 3000 + 40]) 12 (RX12, 356, [109, 97, 120]) rfl (by simp only [ppsh_l, ppshs_l, List.length_cons, List.length_nil]; omega) ⟨rfl, rfl⟩) (fun h9 e9 => ?_)
              subst e9
              show xEx2 RX12 G0 cdX12_writesExpression none (xRn2 G0 MT (d + 2)) Q b 86 [some (.inr (.inr 66)), some (.inl k), some (.inl (h 69 k))] [] (ppshs (ppshs h [3041, h 71 k, 3000 + 44, h 70 k, 3000 + 40]) (wrd [109, 97, 120]))
              exact E2_ret (x := (.return_, 0, [], [])) (v := none) rfl (trivial) (by
                have r9 := hQ
                unfold wxE at r9
                first
                | (exfalso; omega)
                | (rw [if_pos (by omega)] at r9; exact r9)
                | (rw [if_neg (by omega), if_pos (by omega)] at r9; exact r9)
                | (rw [if_neg (by omega), if_neg (by omega), if_pos (by omega), ppshs_a] at r9
                   unfold wrU at r9
                   first
                   | (rw [if_pos (by omega)] at r9; exact r9)
                   | (rw [if_neg (by omega), if_pos (by omega)] at r9; exact r9)
                   | (rw [if_neg (by omega), if_neg (by omega)] at r9; exact r9))
                | (rw [if_neg (by omega), if_neg (by omega), if_neg (by omega), ppshs_a] at r9
                   unfold wrB sgB at r9
                   first
                   | (rw [if_pos (by omega), if_pos (by omega)] at r9; exact r9)
                   | (rw [if_pos (by omega), if_neg (by omega), if_pos (by omega)] at r9; exact r9)
                   | (rw [if_neg (by omega), if_neg (by omega), if_neg (by omega)] at r9; exact r9)))
          · rw [c_ne (by first | assumption | (refine ⟨?_, ?_⟩ <;> omega) | (simp only [xr] at *; omega)) (by first | assumption | (refine ⟨?_, ?_⟩ <;> omega) | (simp only [xr] at *; omega))] at c76
            simp only [decide_eq_true_eq, decide_eq_false_iff_not, Decidable.not_not] at c76
            show xEx2 RX12 G0 cdX12_writesExpression none (xRn2 G0 MT (d + 2)) Q b 77 [some (.inr (.inr 66)), some (.inl k), some (.inl (h 69 k))] [] (ppshs h [3041, h 71 k, 3000 + 44, h 70 k, 3000 + 40])
            refine E2_s 1 (i' := 78) (ls' := [some (.inr (.inr 66)), some (.inl k), some (.inl (h 69 k))]) (sk' := [.inr (.inr 66)]) (h' := (ppshs h [3041, h 71 k, 3000 + 44, h 70 k, 3000 + 40])) rfl ?_
            refine E2_str (x := (.ldc_w 354, 0, [(1, 0)], [])) 11 rfl (Or.inr rfl) rfl ?_
            show xEx2 RX12 G0 cdX12_writesExpression none (xRn2 G0 MT (d + 2)) Q b 79 [some (.inr (.inr 66)), some (.inl k), some (.inl (h 69 k))] [.inr (.inr (1000 + 11)), .inr (.inr 66)] (ppshs h [3041, h 71 k, 3000 + 44, h 70 k, 3000 + 40])
            refine E2_cv (x := (.invokevirtual 343, 1, [(10, 204)], [0])) (q := fun h9 => h9 = (ppshs (ppshs h [3041, h 71 k, 3000 + 44, h 70 k, 3000 + 40]) (wrd [109, 105, 110]))) rfl rfl (Nat.le_of_ble_eq_true rfl) (m_word d 0 (ppshs h [3041, h 71 k, 3000 + 44, h 70 k, 3000 + 40]) 11 (RX12, 354, [109, 105, 110]) rfl (by simp only [ppsh_l, ppshs_l, List.length_cons, List.length_nil]; omega) ⟨rfl, rfl⟩) (fun h9 e9 => ?_)
            subst e9
            show xEx2 RX12 G0 cdX12_writesExpression none (xRn2 G0 MT (d + 2)) Q b 80 [some (.inr (.inr 66)), some (.inl k), some (.inl (h 69 k))] [] (ppshs (ppshs h [3041, h 71 k, 3000 + 44, h 70 k, 3000 + 40]) (wrd [109, 105, 110]))
            refine E2_s 2 (i' := 82) (ls' := [some (.inr (.inr 66)), some (.inl k), some (.inl (h 69 k))]) (sk' := [.inl 4, .inl (h 69 k)]) (h' := (ppshs (ppshs h [3041, h 71 k, 3000 + 44, h 70 k, 3000 + 40]) (wrd [109, 105, 110]))) rfl ?_
            refine E2_b (x := (.if_icmp .ne 10, 86, [], [])) rfl rfl (fun c82 => ?_) (fun c82 => ?_)
            · rw [c_ne (by first | assumption | (refine ⟨?_, ?_⟩ <;> omega) | (simp only [xr] at *; omega)) (by first | assumption | (refine ⟨?_, ?_⟩ <;> omega) | (simp only [xr] at *; omega))] at c82
              simp only [decide_eq_true_eq, decide_eq_false_iff_not, Decidable.not_not] at c82
              show xEx2 RX12 G0 cdX12_writesExpression none (xRn2 G0 MT (d + 2)) Q b 86 [some (.inr (.inr 66)), some (.inl k), some (.inl (h 69 k))] [] (ppshs (ppshs h [3041, h 71 k, 3000 + 44, h 70 k, 3000 + 40]) (wrd [109, 105, 110]))
              exact E2_ret (x := (.return_, 0, [], [])) (v := none) rfl (trivial) (by
                have r9 := hQ
                unfold wxE at r9
                first
                | (exfalso; omega)
                | (rw [if_pos (by omega)] at r9; exact r9)
                | (rw [if_neg (by omega), if_pos (by omega)] at r9; exact r9)
                | (rw [if_neg (by omega), if_neg (by omega), if_pos (by omega), ppshs_a] at r9
                   unfold wrU at r9
                   first
                   | (rw [if_pos (by omega)] at r9; exact r9)
                   | (rw [if_neg (by omega), if_pos (by omega)] at r9; exact r9)
                   | (rw [if_neg (by omega), if_neg (by omega)] at r9; exact r9))
                | (rw [if_neg (by omega), if_neg (by omega), if_neg (by omega), ppshs_a] at r9
                   unfold wrB sgB at r9
                   first
                   | (rw [if_pos (by omega), if_pos (by omega)] at r9; exact r9)
                   | (rw [if_pos (by omega), if_neg (by omega), if_pos (by omega)] at r9; exact r9)
                   | (rw [if_neg (by omega), if_neg (by omega), if_neg (by omega)] at r9; exact r9)))
            · rw [c_ne (by first | assumption | (refine ⟨?_, ?_⟩ <;> omega) | (simp only [xr] at *; omega)) (by first | assumption | (refine ⟨?_, ?_⟩ <;> omega) | (simp only [xr] at *; omega))] at c82
              simp only [decide_eq_true_eq, decide_eq_false_iff_not, Decidable.not_not] at c82
              show xEx2 RX12 G0 cdX12_writesExpression none (xRn2 G0 MT (d + 2)) Q b 83 [some (.inr (.inr 66)), some (.inl k), some (.inl (h 69 k))] [] (ppshs (ppshs h [3041, h 71 k, 3000 + 44, h 70 k, 3000 + 40]) (wrd [109, 105, 110]))
              refine E2_s 1 (i' := 84) (ls' := [some (.inr (.inr 66)), some (.inl k), some (.inl (h 69 k))]) (sk' := [.inr (.inr 66)]) (h' := (ppshs (ppshs h [3041, h 71 k, 3000 + 44, h 70 k, 3000 + 40]) (wrd [109, 105, 110]))) rfl ?_
              refine E2_str (x := (.ldc_w 356, 0, [(1, 0)], [])) 12 rfl (Or.inr rfl) rfl ?_
              show xEx2 RX12 G0 cdX12_writesExpression none (xRn2 G0 MT (d + 2)) Q b 85 [some (.inr (.inr 66)), some (.inl k), some (.inl (h 69 k))] [.inr (.inr (1000 + 12)), .inr (.inr 66)] (ppshs (ppshs h [3041, h 71 k, 3000 + 44, h 70 k, 3000 + 40]) (wrd [109, 105, 110]))
              refine E2_cv (x := (.invokevirtual 343, 1, [(10, 204)], [0])) (q := fun h9 => h9 = (ppshs (ppshs (ppshs h [3041, h 71 k, 3000 + 44, h 70 k, 3000 + 40]) (wrd [109, 105, 110])) (wrd [109, 97, 120]))) rfl rfl (Nat.le_of_ble_eq_true rfl) (m_word d 0 (ppshs (ppshs h [3041, h 71 k, 3000 + 44, h 70 k, 3000 + 40]) (wrd [109, 105, 110])) 12 (RX12, 356, [109, 97, 120]) rfl (by simp only [ppsh_l, ppshs_l, List.length_cons, List.length_nil]; omega) ⟨rfl, rfl⟩) (fun h9 e9 => ?_)
              subst e9
              show xEx2 RX12 G0 cdX12_writesExpression none (xRn2 G0 MT (d + 2)) Q b 86 [some (.inr (.inr 66)), some (.inl k), some (.inl (h 69 k))] [] (ppshs (ppshs (ppshs h [3041, h 71 k, 3000 + 44, h 70 k, 3000 + 40]) (wrd [109, 105, 110])) (wrd [109, 97, 120]))
              exact E2_ret (x := (.return_, 0, [], [])) (v := none) rfl (trivial) (by
                have r9 := hQ
                unfold wxE at r9
                first
                | (exfalso; omega)
                | (rw [if_pos (by omega)] at r9; exact r9)
                | (rw [if_neg (by omega), if_pos (by omega)] at r9; exact r9)
                | (rw [if_neg (by omega), if_neg (by omega), if_pos (by omega), ppshs_a] at r9
                   unfold wrU at r9
                   first
                   | (rw [if_pos (by omega)] at r9; exact r9)
                   | (rw [if_neg (by omega), if_pos (by omega)] at r9; exact r9)
                   | (rw [if_neg (by omega), if_neg (by omega)] at r9; exact r9))
                | (rw [if_neg (by omega), if_neg (by omega), if_neg (by omega), ppshs_a] at r9
                   unfold wrB sgB at r9
                   first
                   | (rw [if_pos (by omega), if_pos (by omega)] at r9; exact r9)
                   | (rw [if_pos (by omega), if_neg (by omega), if_pos (by omega)] at r9; exact r9)
                   | (rw [if_neg (by omega), if_neg (by omega), if_neg (by omega)] at r9; exact r9)))
        · rw [c_eq (by first | assumption | (refine ⟨?_, ?_⟩ <;> omega) | (simp only [xr] at *; omega)) (by first | assumption | (refine ⟨?_, ?_⟩ <;> omega) | (simp only [xr] at *; omega))] at c61
          simp only [decide_eq_true_eq, decide_eq_false_iff_not, Decidable.not_not] at c61
          show xEx2 RX12 G0 cdX12_writesExpression none (xRn2 G0 MT (d + 2)) Q b 62 [some (.inr (.inr 66)), some (.inl k), some (.inl (h 69 k))] [.inl (h 70 k), .inl 40, .inr (.inr 66)] h
          refine E2_s 2 (i' := 64) (ls' := [some (.inr (.inr 66)), some (.inl k), some (.inl (h 69 k))]) (sk' := [.inl 4, .inl (h 69 k), .inl (h 70 k), .inl 40, .inr (.inr 66)]) (h' := h) rfl ?_
          refine E2_b (x := (.if_icmp .ne 8, 67, [], [])) rfl rfl (fun c64 => ?_) (fun c64 => ?_)
          · rw [c_ne (by first | assumption | (refine ⟨?_, ?_⟩ <;> omega) | (simp only [xr] at *; omega)) (by first | assumption | (refine ⟨?_, ?_⟩ <;> omega) | (simp only [xr] at *; omega))] at c64
            simp only [decide_eq_true_eq, decide_eq_false_iff_not, Decidable.not_not] at c64
            show xEx2 RX12 G0 cdX12_writesExpression none (xRn2 G0 MT (d + 2)) Q b 67 [some (.inr (.inr 66)), some (.inl k), some (.inl (h 69 k))] [.inl (h 70 k), .inl 40, .inr (.inr 66)] h
            refine E2_s 1 (i' := 68) (ls' := [some (.inr (.inr 66)), some (.inl k), some (.inl (h 69 k))]) (sk' := [.inl (h 69 k), .inl (h 70 k), .inl 40, .inr (.inr 66)]) (h' := h) rfl ?_
            refine E2_ci (x := (.invokestatic 347, 1, [(0, 208)], [])) (r := (sgc (h 69 k))) (h' := h) rfl rfl (Nat.le_of_ble_eq_true rfl) (xRn_2 _ _ _ _ _ _ (m_sgn (d + 1) 0 h (h 69 k) ⟨by omega, by omega⟩ ⟨rfl, rfl⟩)) ?_
            show xEx2 RX12 G0 cdX12_writesExpression none (xRn2 G0 MT (d + 2)) Q b 69 [some (.inr (.inr 66)), some (.inl k), some (.inl (h 69 k))] [.inl (sgc (h 69 k)), .inl (h 70 k), .inl 40, .inr (.inr 66)] h
            refine E2_s 3 (i' := 72) (ls' := [some (.inr (.inr 66)), some (.inl k), some (.inl (h 69 k))]) (sk' := [.inl k, .inr (.inr 71), .inl (sgc (h 69 k)), .inl (h 70 k), .inl 40, .inr (.inr 66)]) (h' := h) rfl ?_
            refine E2_ld (x := (.iaload, 0, [], [])) (ty := .int) (n := 301) rfl rfl rfl (by omega) (by omega) ?_
            show xEx2 RX12 G0 cdX12_writesExpression none (xRn2 G0 MT (d + 2)) Q b 73 [some (.inr (.inr 66)), some (.inl k), some (.inl (h 69 k))] [.inl (h 71 k), .inl (sgc (h 69 k)), .inl (h 70 k), .inl 40, .inr (.inr 66)] h
            refine E2_cv (x := (.invokevirtual 350, 4, [(10, 207)], [0])) (q := fun h9 => h9 = (ppshs h [3041, h 71 k, 3000 + (sgc (h 69 k)), h 70 k, 3000 + 40])) rfl rfl (Nat.le_of_ble_eq_true rfl) (xRn_2 _ _ _ _ _ _ (m_two d 0 h 40 (h 70 k) (sgc (h 69 k)) (h 71 k) ⟨by omega, by omega⟩ ⟨rfl, rfl⟩)) (fun h9 e9 => ?_)
            subst e9
            show xEx2 RX12 G0 cdX12_writesExpression none (xRn2 G0 MT (d + 2)) Q b 74 [some (.inr (.inr 66)), some (.inl k), some (.inl (h 69 k))] [] (ppshs h [3041, h 71 k, 3000 + (sgc (h 69 k)), h 70 k, 3000 + 40])
            refine E2_s 2 (i' := 76) (ls' := [some (.inr (.inr 66)), some (.inl k), some (.inl (h 69 k))]) (sk' := [.inl 3, .inl (h 69 k)]) (h' := (ppshs h [3041, h 71 k, 3000 + (sgc (h 69 k)), h 70 k, 3000 + 40])) rfl ?_
            refine E2_b (x := (.if_icmp .ne 10, 80, [], [])) rfl rfl (fun c76 => ?_) (fun c76 => ?_)
            · rw [c_ne (by first | assumption | (refine ⟨?_, ?_⟩ <;> omega) | (simp only [xr] at *; omega)) (by first | assumption | (refine ⟨?_, ?_⟩ <;> omega) | (simp only [xr] at *; omega))] at c76
              simp only [decide_eq_true_eq, decide_eq_false_iff_not, Decidable.not_not] at c76
              show xEx2 RX12 G0 cdX12_writesExpression none (xRn2 G0 MT (d + 2)) Q b 80 [some (.inr (.inr 66)), some (.inl k), some (.inl (h 69 k))] [] (ppshs h [3041, h 71 k, 3000 + (sgc (h 69 k)), h 70 k, 3000 + 40])
              refine E2_s 2 (i' := 82) (ls' := [some (.inr (.inr 66)), some (.inl k), some (.inl (h 69 k))]) (sk' := [.inl 4, .inl (h 69 k)]) (h' := (ppshs h [3041, h 71 k, 3000 + (sgc (h 69 k)), h 70 k, 3000 + 40])) rfl ?_
              refine E2_b (x := (.if_icmp .ne 10, 86, [], [])) rfl rfl (fun c82 => ?_) (fun c82 => ?_)
              · rw [c_ne (by first | assumption | (refine ⟨?_, ?_⟩ <;> omega) | (simp only [xr] at *; omega)) (by first | assumption | (refine ⟨?_, ?_⟩ <;> omega) | (simp only [xr] at *; omega))] at c82
                simp only [decide_eq_true_eq, decide_eq_false_iff_not, Decidable.not_not] at c82
                show xEx2 RX12 G0 cdX12_writesExpression none (xRn2 G0 MT (d + 2)) Q b 86 [some (.inr (.inr 66)), some (.inl k), some (.inl (h 69 k))] [] (ppshs h [3041, h 71 k, 3000 + (sgc (h 69 k)), h 70 k, 3000 + 40])
                exact E2_ret (x := (.return_, 0, [], [])) (v := none) rfl (trivial) (by
                  have r9 := hQ
                  unfold wxE at r9
                  first
                  | (exfalso; omega)
                  | (rw [if_pos (by omega)] at r9; exact r9)
                  | (rw [if_neg (by omega), if_pos (by omega)] at r9; exact r9)
                  | (rw [if_neg (by omega), if_neg (by omega), if_pos (by omega), ppshs_a] at r9
                     unfold wrU at r9
                     first
                     | (rw [if_pos (by omega)] at r9; exact r9)
                     | (rw [if_neg (by omega), if_pos (by omega)] at r9; exact r9)
                     | (rw [if_neg (by omega), if_neg (by omega)] at r9; exact r9))
                  | (rw [if_neg (by omega), if_neg (by omega), if_neg (by omega), ppshs_a] at r9
                     unfold wrB sgB at r9
                     first
                     | (rw [if_pos (by omega), if_pos (by omega)] at r9; exact r9)
                     | (rw [if_pos (by omega), if_neg (by omega), if_pos (by omega)] at r9; exact r9)
                     | (rw [if_neg (by omega), if_neg (by omega), if_neg (by omega)] at r9; exact r9)))
              · rw [c_ne (by first | assumption | (refine ⟨?_, ?_⟩ <;> omega) | (simp only [xr] at *; omega)) (by first | assumption | (refine ⟨?_, ?_⟩ <;> omega) | (simp only [xr] at *; omega))] at c82
                simp only [decide_eq_true_eq, decide_eq_false_iff_not, Decidable.not_not] at c82
                show xEx2 RX12 G0 cdX12_writesExpression none (xRn2 G0 MT (d + 2)) Q b 83 [some (.inr (.inr 66)), some (.inl k), some (.inl (h 69 k))] [] (ppshs h [3041, h 71 k, 3000 + (sgc (h 69 k)), h 70 k, 3000 + 40])
                refine E2_s 1 (i' := 84) (ls' := [some (.inr (.inr 66)), some (.inl k), some (.inl (h 69 k))]) (sk' := [.inr (.inr 66)]) (h' := (ppshs h [3041, h 71 k, 3000 + (sgc (h 69 k)), h 70 k, 3000 + 40])) rfl ?_
                refine E2_str (x := (.ldc_w 356, 0, [(1, 0)], [])) 12 rfl (Or.inr rfl) rfl ?_
                show xEx2 RX12 G0 cdX12_writesExpression none (xRn2 G0 MT (d + 2)) Q b 85 [some (.inr (.inr 66)), some (.inl k), some (.inl (h 69 k))] [.inr (.inr (1000 + 12)), .inr (.inr 66)] (ppshs h [3041, h 71 k, 3000 + (sgc (h 69 k)), h 70 k, 3000 + 40])
                refine E2_cv (x := (.invokevirtual 343, 1, [(10, 204)], [0])) (q := fun h9 => h9 = (ppshs (ppshs h [3041, h 71 k, 3000 + (sgc (h 69 k)), h 70 k, 3000 + 40]) (wrd [109, 97, 120]))) rfl rfl (Nat.le_of_ble_eq_true rfl) (m_word d 0 (ppshs h [3041, h 71 k, 3000 + (sgc (h 69 k)), h 70 k, 3000 + 40]) 12 (RX12, 356, [109, 97, 120]) rfl (by simp only [ppsh_l, ppshs_l, List.length_cons, List.length_nil]; omega) ⟨rfl, rfl⟩) (fun h9 e9 => ?_)
                subst e9
                show xEx2 RX12 G0 cdX12_writesExpression none (xRn2 G0 MT (d + 2)) Q b 86 [some (.inr (.inr 66)), some (.inl k), some (.inl (h 69 k))] [] (ppshs (ppshs h [3041, h 71 k, 3000 + (sgc (h 69 k)), h 70 k, 3000 + 40]) (wrd [109, 97, 120]))
                exact E2_ret (x := (.return_, 0, [], [])) (v := none) rfl (trivial) (by
                  have r9 := hQ
                  unfold wxE at r9
                  first
                  | (exfalso; omega)
                  | (rw [if_pos (by omega)] at r9; exact r9)
                  | (rw [if_neg (by omega), if_pos (by omega)] at r9; exact r9)
                  | (rw [if_neg (by omega), if_neg (by omega), if_pos (by omega), ppshs_a] at r9
                     unfold wrU at r9
                     first
                     | (rw [if_pos (by omega)] at r9; exact r9)
                     | (rw [if_neg (by omega), if_pos (by omega)] at r9; exact r9)
                     | (rw [if_neg (by omega), if_neg (by omega)] at r9; exact r9))
                  | (rw [if_neg (by omega), if_neg (by omega), if_neg (by omega), ppshs_a] at r9
                     unfold wrB sgB at r9
                     first
                     | (rw [if_pos (by omega), if_pos (by omega)] at r9; exact r9)
                     | (rw [if_pos (by omega), if_neg (by omega), if_pos (by omega)] at r9; exact r9)
                     | (rw [if_neg (by omega), if_neg (by omega), if_neg (by omega)] at r9; exact r9)))
            · rw [c_ne (by first | assumption | (refine ⟨?_, ?_⟩ <;> omega) | (simp only [xr] at *; omega)) (by first | assumption | (refine ⟨?_, ?_⟩ <;> omega) | (simp only [xr] at *; omega))] at c76
              simp only [decide_eq_true_eq, decide_eq_false_iff_not, Decidable.not_not] at c76
              show xEx2 RX12 G0 cdX12_writesExpression none (xRn2 G0 MT (d + 2)) Q b 77 [some (.inr (.inr 66)), some (.inl k), some (.inl (h 69 k))] [] (ppshs h [3041, h 71 k, 3000 + (sgc (h 69 k)), h 70 k, 3000 + 40])
              refine E2_s 1 (i' := 78) (ls' := [some (.inr (.inr 66)), some (.inl k), some (.inl (h 69 k))]) (sk' := [.inr (.inr 66)]) (h' := (ppshs h [3041, h 71 k, 3000 + (sgc (h 69 k)), h 70 k, 3000 + 40])) rfl ?_
              refine E2_str (x := (.ldc_w 354, 0, [(1, 0)], [])) 11 rfl (Or.inr rfl) rfl ?_
              show xEx2 RX12 G0 cdX12_writesExpression none (xRn2 G0 MT (d + 2)) Q b 79 [some (.inr (.inr 66)), some (.inl k), some (.inl (h 69 k))] [.inr (.inr (1000 + 11)), .inr (.inr 66)] (ppshs h [3041, h 71 k, 3000 + (sgc (h 69 k)), h 70 k, 3000 + 40])
              refine E2_cv (x := (.invokevirtual 343, 1, [(10, 204)], [0])) (q := fun h9 => h9 = (ppshs (ppshs h [3041, h 71 k, 3000 + (sgc (h 69 k)), h 70 k, 3000 + 40]) (wrd [109, 105, 110]))) rfl rfl (Nat.le_of_ble_eq_true rfl) (m_word d 0 (ppshs h [3041, h 71 k, 3000 + (sgc (h 69 k)), h 70 k, 3000 + 40]) 11 (RX12, 354, [109, 105, 110]) rfl (by simp only [ppsh_l, ppshs_l, List.length_cons, List.length_nil]; omega) ⟨rfl, rfl⟩) (fun h9 e9 => ?_)
              subst e9
              show xEx2 RX12 G0 cdX12_writesExpression none (xRn2 G0 MT (d + 2)) Q b 80 [some (.inr (.inr 66)), some (.inl k), some (.inl (h 69 k))] [] (ppshs (ppshs h [3041, h 71 k, 3000 + (sgc (h 69 k)), h 70 k, 3000 + 40]) (wrd [109, 105, 110]))
              refine E2_s 2 (i' := 82) (ls' := [some (.inr (.inr 66)), some (.inl k), some (.inl (h 69 k))]) (sk' := [.inl 4, .inl (h 69 k)]) (h' := (ppshs (ppshs h [3041, h 71 k, 3000 + (sgc (h 69 k)), h 70 k, 3000 + 40]) (wrd [109, 105, 110]))) rfl ?_
              refine E2_b (x := (.if_icmp .ne 10, 86, [], [])) rfl rfl (fun c82 => ?_) (fun c82 => ?_)
              · rw [c_ne (by first | assumption | (refine ⟨?_, ?_⟩ <;> omega) | (simp only [xr] at *; omega)) (by first | assumption | (refine ⟨?_, ?_⟩ <;> omega) | (simp only [xr] at *; omega))] at c82
                simp only [decide_eq_true_eq, decide_eq_false_iff_not, Decidable.not_not] at c82
                show xEx2 RX12 G0 cdX12_writesExpression none (xRn2 G0 MT (d + 2)) Q b 86 [some (.inr (.inr 66)), some (.inl k), some (.inl (h 69 k))] [] (ppshs (ppshs h [3041, h 71 k, 3000 + (sgc (h 69 k)), h 70 k, 3000 + 40]) (wrd [109, 105, 110]))
                exact E2_ret (x := (.return_, 0, [], [])) (v := none) rfl (trivial) (by
                  have r9 := hQ
                  unfold wxE at r9
                  first
                  | (exfalso; omega)
                  | (rw [if_pos (by omega)] at r9; exact r9)
                  | (rw [if_neg (by omega), if_pos (by omega)] at r9; exact r9)
                  | (rw [if_neg (by omega), if_neg (by omega), if_pos (by omega), ppshs_a] at r9
                     unfold wrU at r9
                     first
                     | (rw [if_pos (by omega)] at r9; exact r9)
                     | (rw [if_neg (by omega), if_pos (by omega)] at r9; exact r9)
                     | (rw [if_neg (by omega), if_neg (by omega)] at r9; exact r9))
                  | (rw [if_neg (by omega), if_neg (by omega), if_neg (by omega), ppshs_a] at r9
                     unfold wrB sgB at r9
                     first
                     | (rw [if_pos (by omega), if_pos (by omega)] at r9; exact r9)
                     | (rw [if_pos (by omega), if_neg (by omega), if_pos (by omega)] at r9; exact r9)
                     | (rw [if_neg (by omega), if_neg (by omega), if_neg (by omega)] at r9; exact r9)))
              · rw [c_ne (by first | assumption | (refine ⟨?_, ?_⟩ <;> omega) | (simp only [xr] at *; omega)) (by first | assumption | (refine ⟨?_, ?_⟩ <;> omega) | (simp only [xr] at *; omega))] at c82
                simp only [decide_eq_true_eq, decide_eq_false_iff_not, Decidable.not_not] at c82
                show xEx2 RX12 G0 cdX12_writesExpression none (xRn2 G0 MT (d + 2)) Q b 83 [some (.inr (.inr 66)), some (.inl k), some (.inl (h 69 k))] [] (ppshs (ppshs h [3041, h 71 k, 3000 + (sgc (h 69 k)), h 70 k, 3000 + 40]) (wrd [109, 105, 110]))
                refine E2_s 1 (i' := 84) (ls' := [some (.inr (.inr 66)), some (.inl k), some (.inl (h 69 k))]) (sk' := [.inr (.inr 66)]) (h' := (ppshs (ppshs h [3041, h 71 k, 3000 + (sgc (h 69 k)), h 70 k, 3000 + 40]) (wrd [109, 105, 110]))) rfl ?_
                refine E2_str (x := (.ldc_w 356, 0, [(1, 0)], [])) 12 rfl (Or.inr rfl) rfl ?_
                show xEx2 RX12 G0 cdX12_writesExpression none (xRn2 G0 MT (d + 2)) Q b 85 [some (.inr (.inr 66)), some (.inl k), some (.inl (h 69 k))] [.inr (.inr (1000 + 12)), .inr (.inr 66)] (ppshs (ppshs h [3041, h 71 k, 3000 + (sgc (h 69 k)), h 70 k, 3000 + 40]) (wrd [109, 105, 110]))
                refine E2_cv (x := (.invokevirtual 343, 1, [(10, 204)], [0])) (q := fun h9 => h9 = (ppshs (ppshs (ppshs h [3041, h 71 k, 3000 + (sgc (h 69 k)), h 70 k, 3000 + 40]) (wrd [109, 105, 110])) (wrd [109, 97, 120]))) rfl rfl (Nat.le_of_ble_eq_true rfl) (m_word d 0 (ppshs (ppshs h [3041, h 71 k, 3000 + (sgc (h 69 k)), h 70 k, 3000 + 40]) (wrd [109, 105, 110])) 12 (RX12, 356, [109, 97, 120]) rfl (by simp only [ppsh_l, ppshs_l, List.length_cons, List.length_nil]; omega) ⟨rfl, rfl⟩) (fun h9 e9 => ?_)
                subst e9
                show xEx2 RX12 G0 cdX12_writesExpression none (xRn2 G0 MT (d + 2)) Q b 86 [some (.inr (.inr 66)), some (.inl k), some (.inl (h 69 k))] [] (ppshs (ppshs (ppshs h [3041, h 71 k, 3000 + (sgc (h 69 k)), h 70 k, 3000 + 40]) (wrd [109, 105, 110])) (wrd [109, 97, 120]))
                exact E2_ret (x := (.return_, 0, [], [])) (v := none) rfl (trivial) (by
                  have r9 := hQ
                  unfold wxE at r9
                  first
                  | (exfalso; omega)
                  | (rw [if_pos (by omega)] at r9; exact r9)
                  | (rw [if_neg (by omega), if_pos (by omega)] at r9; exact r9)
                  | (rw [if_neg (by omega), if_neg (by omega), if_pos (by omega), ppshs_a] at r9
                     unfold wrU at r9
                     first
                     | (rw [if_pos (by omega)] at r9; exact r9)
                     | (rw [if_neg (by omega), if_pos (by omega)] at r9; exact r9)
                     | (rw [if_neg (by omega), if_neg (by omega)] at r9; exact r9))
                  | (rw [if_neg (by omega), if_neg (by omega), if_neg (by omega), ppshs_a] at r9
                     unfold wrB sgB at r9
                     first
                     | (rw [if_pos (by omega), if_pos (by omega)] at r9; exact r9)
                     | (rw [if_pos (by omega), if_neg (by omega), if_pos (by omega)] at r9; exact r9)
                     | (rw [if_neg (by omega), if_neg (by omega), if_neg (by omega)] at r9; exact r9)))
          · rw [c_ne (by first | assumption | (refine ⟨?_, ?_⟩ <;> omega) | (simp only [xr] at *; omega)) (by first | assumption | (refine ⟨?_, ?_⟩ <;> omega) | (simp only [xr] at *; omega))] at c64
            simp only [decide_eq_true_eq, decide_eq_false_iff_not, Decidable.not_not] at c64
            show xEx2 RX12 G0 cdX12_writesExpression none (xRn2 G0 MT (d + 2)) Q b 65 [some (.inr (.inr 66)), some (.inl k), some (.inl (h 69 k))] [.inl (h 70 k), .inl 40, .inr (.inr 66)] h
            refine E2_s 5 (i' := 72) (ls' := [some (.inr (.inr 66)), some (.inl k), some (.inl (h 69 k))]) (sk' := [.inl k, .inr (.inr 71), .inl 44, .inl (h 70 k), .inl 40, .inr (.inr 66)]) (h' := h) rfl ?_
            refine E2_ld (x := (.iaload, 0, [], [])) (ty := .int) (n := 301) rfl rfl rfl (by omega) (by omega) ?_
            show xEx2 RX12 G0 cdX12_writesExpression none (xRn2 G0 MT (d + 2)) Q b 73 [some (.inr (.inr 66)), some (.inl k), some (.inl (h 69 k))] [.inl (h 71 k), .inl 44, .inl (h 70 k), .inl 40, .inr (.inr 66)] h
            refine E2_cv (x := (.invokevirtual 350, 4, [(10, 207)], [0])) (q := fun h9 => h9 = (ppshs h [3041, h 71 k, 3000 + 44, h 70 k, 3000 + 40])) rfl rfl (Nat.le_of_ble_eq_true rfl) (xRn_2 _ _ _ _ _ _ (m_two d 0 h 40 (h 70 k) 44 (h 71 k) ⟨by omega, by omega⟩ ⟨rfl, rfl⟩)) (fun h9 e9 => ?_)
            subst e9
            show xEx2 RX12 G0 cdX12_writesExpression none (xRn2 G0 MT (d + 2)) Q b 74 [some (.inr (.inr 66)), some (.inl k), some (.inl (h 69 k))] [] (ppshs h [3041, h 71 k, 3000 + 44, h 70 k, 3000 + 40])
            refine E2_s 2 (i' := 76) (ls' := [some (.inr (.inr 66)), some (.inl k), some (.inl (h 69 k))]) (sk' := [.inl 3, .inl (h 69 k)]) (h' := (ppshs h [3041, h 71 k, 3000 + 44, h 70 k, 3000 + 40])) rfl ?_
            refine E2_b (x := (.if_icmp .ne 10, 80, [], [])) rfl rfl (fun c76 => ?_) (fun c76 => ?_)
            · rw [c_ne (by first | assumption | (refine ⟨?_, ?_⟩ <;> omega) | (simp only [xr] at *; omega)) (by first | assumption | (refine ⟨?_, ?_⟩ <;> omega) | (simp only [xr] at *; omega))] at c76
              simp only [decide_eq_true_eq, decide_eq_false_iff_not, Decidable.not_not] at c76
              show xEx2 RX12 G0 cdX12_writesExpression none (xRn2 G0 MT (d + 2)) Q b 80 [some (.inr (.inr 66)), some (.inl k), some (.inl (h 69 k))] [] (ppshs h [3041, h 71 k, 3000 + 44, h 70 k, 3000 + 40])
              refine E2_s 2 (i' := 82) (ls' := [some (.inr (.inr 66)), some (.inl k), some (.inl (h 69 k))]) (sk' := [.inl 4, .inl (h 69 k)]) (h' := (ppshs h [3041, h 71 k, 3000 + 44, h 70 k, 3000 + 40])) rfl ?_
              refine E2_b (x := (.if_icmp .ne 10, 86, [], [])) rfl rfl (fun c82 => ?_) (fun c82 => ?_)
              · rw [c_ne (by first | assumption | (refine ⟨?_, ?_⟩ <;> omega) | (simp only [xr] at *; omega)) (by first | assumption | (refine ⟨?_, ?_⟩ <;> omega) | (simp only [xr] at *; omega))] at c82
                simp only [decide_eq_true_eq, decide_eq_false_iff_not, Decidable.not_not] at c82
                show xEx2 RX12 G0 cdX12_writesExpression none (xRn2 G0 MT (d + 2)) Q b 86 [some (.inr (.inr 66)), some (.inl k), some (.inl (h 69 k))] [] (ppshs h [3041, h 71 k, 3000 + 44, h 70 k, 3000 + 40])
                exact E2_ret (x := (.return_, 0, [], [])) (v := none) rfl (trivial) (by
                  have r9 := hQ
                  unfold wxE at r9
                  first
                  | (exfalso; omega)
                  | (rw [if_pos (by omega)] at r9; exact r9)
                  | (rw [if_neg (by omega), if_pos (by omega)] at r9; exact r9)
                  | (rw [if_neg (by omega), if_neg (by omega), if_pos (by omega), ppshs_a] at r9
                     unfold wrU at r9
                     first
                     | (rw [if_pos (by omega)] at r9; exact r9)
                     | (rw [if_neg (by omega), if_pos (by omega)] at r9; exact r9)
                     | (rw [if_neg (by omega), if_neg (by omega)] at r9; exact r9))
                  | (rw [if_neg (by omega), if_neg (by omega), if_neg (by omega), ppshs_a] at r9
                     unfold wrB sgB at r9
                     first
                     | (rw [if_pos (by omega), if_pos (by omega)] at r9; exact r9)
                     | (rw [if_pos (by omega), if_neg (by omega), if_pos (by omega)] at r9; exact r9)
                     | (rw [if_neg (by omega), if_neg (by omega), if_neg (by omega)] at r9; exact r9)))
              · rw [c_ne (by first | assumption | (refine ⟨?_, ?_⟩ <;> omega) | (simp only [xr] at *; omega)) (by first | assumption | (refine ⟨?_, ?_⟩ <;> omega) | (simp only [xr] at *; omega))] at c82
                simp only [decide_eq_true_eq, decide_eq_false_iff_not, Decidable.not_not] at c82
                show xEx2 RX12 G0 cdX12_writesExpression none (xRn2 G0 MT (d + 2)) Q b 83 [some (.inr (.inr 66)), some (.inl k), some (.inl (h 69 k))] [] (ppshs h [3041, h 71 k, 3000 + 44, h 70 k, 3000 + 40])
                refine E2_s 1 (i' := 84) (ls' := [some (.inr (.inr 66)), some (.inl k), some (.inl (h 69 k))]) (sk' := [.inr (.inr 66)]) (h' := (ppshs h [3041, h 71 k, 3000 + 44, h 70 k, 3000 + 40])) rfl ?_
                refine E2_str (x := (.ldc_w 356, 0, [(1, 0)], [])) 12 rfl (Or.inr rfl) rfl ?_
                show xEx2 RX12 G0 cdX12_writesExpression none (xRn2 G0 MT (d + 2)) Q b 85 [some (.inr (.inr 66)), some (.inl k), some (.inl (h 69 k))] [.inr (.inr (1000 + 12)), .inr (.inr 66)] (ppshs h [3041, h 71 k, 3000 + 44, h 70 k, 3000 + 40])
                refine E2_cv (x := (.invokevirtual 343, 1, [(10, 204)], [0])) (q := fun h9 => h9 = (ppshs (ppshs h [3041, h 71 k, 3000 + 44, h 70 k, 3000 + 40]) (wrd [109, 97, 120]))) rfl rfl (Nat.le_of_ble_eq_true rfl) (m_word d 0 (ppshs h [3041, h 71 k, 3000 + 44, h 70 k, 3000 + 40]) 12 (RX12, 356, [109, 97, 120]) rfl (by simp only [ppsh_l, ppshs_l, List.length_cons, List.length_nil]; omega) ⟨rfl, rfl⟩) (fun h9 e9 => ?_)
                subst e9
                show xEx2 RX12 G0 cdX12_writesExpression none (xRn2 G0 MT (d + 2)) Q b 86 [some (.inr (.inr 66)), some (.inl k), some (.inl (h 69 k))] [] (ppshs (ppshs h [3041, h 71 k, 3000 + 44, h 70 k, 3000 + 40]) (wrd [109, 97, 120]))
                exact E2_ret (x := (.return_, 0, [], [])) (v := none) rfl (trivial) (by
                  have r9 := hQ
                  unfold wxE at r9
                  first
                  | (exfalso; omega)
                  | (rw [if_pos (by omega)] at r9; exact r9)
                  | (rw [if_neg (by omega), if_pos (by omega)] at r9; exact r9)
                  | (rw [if_neg (by omega), if_neg (by omega), if_pos (by omega), ppshs_a] at r9
                     unfold wrU at r9
                     first
                     | (rw [if_pos (by omega)] at r9; exact r9)
                     | (rw [if_neg (by omega), if_pos (by omega)] at r9; exact r9)
                     | (rw [if_neg (by omega), if_neg (by omega)] at r9; exact r9))
                  | (rw [if_neg (by omega), if_neg (by omega), if_neg (by omega), ppshs_a] at r9
                     unfold wrB sgB at r9
                     first
                     | (rw [if_pos (by omega), if_pos (by omega)] at r9; exact r9)
                     | (rw [if_pos (by omega), if_neg (by omega), if_pos (by omega)] at r9; exact r9)
                     | (rw [if_neg (by omega), if_neg (by omega), if_neg (by omega)] at r9; exact r9)))
            · rw [c_ne (by first | assumption | (refine ⟨?_, ?_⟩ <;> omega) | (simp only [xr] at *; omega)) (by first | assumption | (refine ⟨?_, ?_⟩ <;> omega) | (simp only [xr] at *; omega))] at c76
              simp only [decide_eq_true_eq, decide_eq_false_iff_not, Decidable.not_not] at c76
              show xEx2 RX12 G0 cdX12_writesExpression none (xRn2 G0 MT (d + 2)) Q b 77 [some (.inr (.inr 66)), some (.inl k), some (.inl (h 69 k))] [] (ppshs h [3041, h 71 k, 3000 + 44, h 70 k, 3000 + 40])
              refine E2_s 1 (i' := 78) (ls' := [some (.inr (.inr 66)), some (.inl k), some (.inl (h 69 k))]) (sk' := [.inr (.inr 66)]) (h' := (ppshs h [3041, h 71 k, 3000 + 44, h 70 k, 3000 + 40])) rfl ?_
              refine E2_str (x := (.ldc_w 354, 0, [(1, 0)], [])) 11 rfl (Or.inr rfl) rfl ?_
              show xEx2 RX12 G0 cdX12_writesExpression none (xRn2 G0 MT (d + 2)) Q b 79 [some (.inr (.inr 66)), some (.inl k), some (.inl (h 69 k))] [.inr (.inr (1000 + 11)), .inr (.inr 66)] (ppshs h [3041, h 71 k, 3000 + 44, h 70 k, 3000 + 40])
              refine E2_cv (x := (.invokevirtual 343, 1, [(10, 204)], [0])) (q := fun h9 => h9 = (ppshs (ppshs h [3041, h 71 k, 3000 + 44, h 70 k, 3000 + 40]) (wrd [109, 105, 110]))) rfl rfl (Nat.le_of_ble_eq_true rfl) (m_word d 0 (ppshs h [3041, h 71 k, 3000 + 44, h 70 k, 3000 + 40]) 11 (RX12, 354, [109, 105, 110]) rfl (by simp only [ppsh_l, ppshs_l, List.length_cons, List.length_nil]; omega) ⟨rfl, rfl⟩) (fun h9 e9 => ?_)
              subst e9
              show xEx2 RX12 G0 cdX12_writesExpression none (xRn2 G0 MT (d + 2)) Q b 80 [some (.inr (.inr 66)), some (.inl k), some (.inl (h 69 k))] [] (ppshs (ppshs h [3041, h 71 k, 3000 + 44, h 70 k, 3000 + 40]) (wrd [109, 105, 110]))
              refine E2_s 2 (i' := 82) (ls' := [some (.inr (.inr 66)), some (.inl k), some (.inl (h 69 k))]) (sk' := [.inl 4, .inl (h 69 k)]) (h' := (ppshs (ppshs h [3041, h 71 k, 3000 + 44, h 70 k, 3000 + 40]) (wrd [109, 105, 110]))) rfl ?_
              refine E2_b (x := (.if_icmp .ne 10, 86, [], [])) rfl rfl (fun c82 => ?_) (fun c82 => ?_)
              · rw [c_ne (by first | assumption | (refine ⟨?_, ?_⟩ <;> omega) | (simp only [xr] at *; omega)) (by first | assumption | (refine ⟨?_, ?_⟩ <;> omega) | (simp only [xr] at *; omega))] at c82
                simp only [decide_eq_true_eq, decide_eq_false_iff_not, Decidable.not_not] at c82
                show xEx2 RX12 G0 cdX12_writesExpression none (xRn2 G0 MT (d + 2)) Q b 86 [some (.inr (.inr 66)), some (.inl k), some (.inl (h 69 k))] [] (ppshs (ppshs h [3041, h 71 k, 3000 + 44, h 70 k, 3000 + 40]) (wrd [109, 105, 110]))
                exact E2_ret (x := (.return_, 0, [], [])) (v := none) rfl (trivial) (by
                  have r9 := hQ
                  unfold wxE at r9
                  first
                  | (exfalso; omega)
                  | (rw [if_pos (by omega)] at r9; exact r9)
                  | (rw [if_neg (by omega), if_pos (by omega)] at r9; exact r9)
                  | (rw [if_neg (by omega), if_neg (by omega), if_pos (by omega), ppshs_a] at r9
                     unfold wrU at r9
                     first
                     | (rw [if_pos (by omega)] at r9; exact r9)
                     | (rw [if_neg (by omega), if_pos (by omega)] at r9; exact r9)
                     | (rw [if_neg (by omega), if_neg (by omega)] at r9; exact r9))
                  | (rw [if_neg (by omega), if_neg (by omega), if_neg (by omega), ppshs_a] at r9
                     unfold wrB sgB at r9
                     first
                     | (rw [if_pos (by omega), if_pos (by omega)] at r9; exact r9)
                     | (rw [if_pos (by omega), if_neg (by omega), if_pos (by omega)] at r9; exact r9)
                     | (rw [if_neg (by omega), if_neg (by omega), if_neg (by omega)] at r9; exact r9)))
              · rw [c_ne (by first | assumption | (refine ⟨?_, ?_⟩ <;> omega) | (simp only [xr] at *; omega)) (by first | assumption | (refine ⟨?_, ?_⟩ <;> omega) | (simp only [xr] at *; omega))] at c82
                simp only [decide_eq_true_eq, decide_eq_false_iff_not, Decidable.not_not] at c82
                show xEx2 RX12 G0 cdX12_writesExpression none (xRn2 G0 MT (d + 2)) Q b 83 [some (.inr (.inr 66)), some (.inl k), some (.inl (h 69 k))] [] (ppshs (ppshs h [3041, h 71 k, 3000 + 44, h 70 k, 3000 + 40]) (wrd [109, 105, 110]))
                refine E2_s 1 (i' := 84) (ls' := [some (.inr (.inr 66)), some (.inl k), some (.inl (h 69 k))]) (sk' := [.inr (.inr 66)]) (h' := (ppshs (ppshs h [3041, h 71 k, 3000 + 44, h 70 k, 3000 + 40]) (wrd [109, 105, 110]))) rfl ?_
                refine E2_str (x := (.ldc_w 356, 0, [(1, 0)], [])) 12 rfl (Or.inr rfl) rfl ?_
                show xEx2 RX12 G0 cdX12_writesExpression none (xRn2 G0 MT (d + 2)) Q b 85 [some (.inr (.inr 66)), some (.inl k), some (.inl (h 69 k))] [.inr (.inr (1000 + 12)), .inr (.inr 66)] (ppshs (ppshs h [3041, h 71 k, 3000 + 44, h 70 k, 3000 + 40]) (wrd [109, 105, 110]))
                refine E2_cv (x := (.invokevirtual 343, 1, [(10, 204)], [0])) (q := fun h9 => h9 = (ppshs (ppshs (ppshs h [3041, h 71 k, 3000 + 44, h 70 k, 3000 + 40]) (wrd [109, 105, 110])) (wrd [109, 97, 120]))) rfl rfl (Nat.le_of_ble_eq_true rfl) (m_word d 0 (ppshs (ppshs h [3041, h 71 k, 3000 + 44, h 70 k, 3000 + 40]) (wrd [109, 105, 110])) 12 (RX12, 356, [109, 97, 120]) rfl (by simp only [ppsh_l, ppshs_l, List.length_cons, List.length_nil]; omega) ⟨rfl, rfl⟩) (fun h9 e9 => ?_)
                subst e9
                show xEx2 RX12 G0 cdX12_writesExpression none (xRn2 G0 MT (d + 2)) Q b 86 [some (.inr (.inr 66)), some (.inl k), some (.inl (h 69 k))] [] (ppshs (ppshs (ppshs h [3041, h 71 k, 3000 + 44, h 70 k, 3000 + 40]) (wrd [109, 105, 110])) (wrd [109, 97, 120]))
                exact E2_ret (x := (.return_, 0, [], [])) (v := none) rfl (trivial) (by
                  have r9 := hQ
                  unfold wxE at r9
                  first
                  | (exfalso; omega)
                  | (rw [if_pos (by omega)] at r9; exact r9)
                  | (rw [if_neg (by omega), if_pos (by omega)] at r9; exact r9)
                  | (rw [if_neg (by omega), if_neg (by omega), if_pos (by omega), ppshs_a] at r9
                     unfold wrU at r9
                     first
                     | (rw [if_pos (by omega)] at r9; exact r9)
                     | (rw [if_neg (by omega), if_pos (by omega)] at r9; exact r9)
                     | (rw [if_neg (by omega), if_neg (by omega)] at r9; exact r9))
                  | (rw [if_neg (by omega), if_neg (by omega), if_neg (by omega), ppshs_a] at r9
                     unfold wrB sgB at r9
                     first
                     | (rw [if_pos (by omega), if_pos (by omega)] at r9; exact r9)
                     | (rw [if_pos (by omega), if_neg (by omega), if_pos (by omega)] at r9; exact r9)
                     | (rw [if_neg (by omega), if_neg (by omega), if_neg (by omega)] at r9; exact r9)))
      · rw [c_eq (by first | assumption | (refine ⟨?_, ?_⟩ <;> omega) | (simp only [xr] at *; omega)) (by first | assumption | (refine ⟨?_, ?_⟩ <;> omega) | (simp only [xr] at *; omega))] at c29
        simp only [decide_eq_true_eq, decide_eq_false_iff_not, Decidable.not_not] at c29
        show xEx2 RX12 G0 cdX12_writesExpression none (xRn2 G0 MT (d + 2)) Q b 30 [some (.inr (.inr 66)), some (.inl k), some (.inl (h 69 k))] [] h
        refine E2_s 2 (i' := 32) (ls' := [some (.inr (.inr 66)), some (.inl k), some (.inl (h 69 k))]) (sk' := [.inl 3041, .inr (.inr 66)]) (h' := h) rfl ?_
        refine E2_cv (x := (.invokevirtual 325, 1, [(10, 203)], [0])) (q := fun h9 => h9 = (ppsh h (3041))) rfl rfl (Nat.le_of_ble_eq_true rfl) (xRn_2 _ _ _ _ _ _ (m_push (d + 1) 0 h (3041) (by omega) ⟨rfl, rfl⟩)) (fun h9 e9 => ?_)
        subst e9
        show xEx2 RX12 G0 cdX12_writesExpression none (xRn2 G0 MT (d + 2)) Q b 33 [some (.inr (.inr 66)), some (.inl k), some (.inl (h 69 k))] [] (ppsh h (3041))
        refine E2_s 4 (i' := 37) (ls' := [some (.inr (.inr 66)), some (.inl k), some (.inl (h 69 k))]) (sk' := [.inl k, .inr (.inr 70), .inr (.inr 66)]) (h' := (ppsh h (3041))) rfl ?_
        refine E2_ld (x := (.iaload, 0, [], [])) (ty := .int) (n := 301) rfl rfl rfl (by omega) (by omega) ?_
        show xEx2 RX12 G0 cdX12_writesExpression none (xRn2 G0 MT (d + 2)) Q b 38 [some (.inr (.inr 66)), some (.inl k), some (.inl (h 69 k))] [.inl ((ppsh h (3041)) 70 k), .inr (.inr 66)] (ppsh h (3041))
        refine E2_cv (x := (.invokevirtual 325, 1, [(10, 203)], [0])) (q := fun h9 => h9 = (ppsh (ppsh h (3041)) ((ppsh h (3041)) 70 k))) rfl rfl (Nat.le_of_ble_eq_true rfl) (xRn_2 _ _ _ _ _ _ (m_push (d + 1) 0 (ppsh h (3041)) ((ppsh h (3041)) 70 k) (by simp only [ppsh_l]; omega) ⟨rfl, rfl⟩)) (fun h9 e9 => ?_)
        subst e9
        show xEx2 RX12 G0 cdX12_writesExpression none (xRn2 G0 MT (d + 2)) Q b 39 [some (.inr (.inr 66)), some (.inl k), some (.inl (h 69 k))] [] (ppsh (ppsh h (3041)) ((ppsh h (3041)) 70 k))
        refine E2_s 3 (i' := 42) (ls' := [some (.inr (.inr 66)), some (.inl k), some (.inl (h 69 k))]) (sk' := [.inl 5, .inl (h 69 k), .inr (.inr 66)]) (h' := (ppsh (ppsh h (3041)) ((ppsh h (3041)) 70 k))) rfl ?_
        refine E2_b (x := (.if_icmp .ne 9, 45, [], [])) rfl rfl (fun c42 => ?_) (fun c42 => ?_)
        · rw [c_ne (by first | assumption | (refine ⟨?_, ?_⟩ <;> omega) | (simp only [xr] at *; omega)) (by first | assumption | (refine ⟨?_, ?_⟩ <;> omega) | (simp only [xr] at *; omega))] at c42
          simp only [decide_eq_true_eq, decide_eq_false_iff_not, Decidable.not_not] at c42
          show xEx2 RX12 G0 cdX12_writesExpression none (xRn2 G0 MT (d + 2)) Q b 45 [some (.inr (.inr 66)), some (.inl k), some (.inl (h 69 k))] [.inr (.inr 66)] (ppsh (ppsh h (3041)) ((ppsh h (3041)) 70 k))
          refine E2_s 2 (i' := 47) (ls' := [some (.inr (.inr 66)), some (.inl k), some (.inl (h 69 k))]) (sk' := [.inl 8, .inl (h 69 k), .inr (.inr 66)]) (h' := (ppsh (ppsh h (3041)) ((ppsh h (3041)) 70 k))) rfl ?_
          refine E2_b (x := (.if_icmp .ne 9, 50, [], [])) rfl rfl (fun c47 => ?_) (fun c47 => ?_)
          · rw [c_ne (by first | assumption | (refine ⟨?_, ?_⟩ <;> omega) | (simp only [xr] at *; omega)) (by first | assumption | (refine ⟨?_, ?_⟩ <;> omega) | (simp only [xr] at *; omega))] at c47
            simp only [decide_eq_true_eq, decide_eq_false_iff_not, Decidable.not_not] at c47
            show xEx2 RX12 G0 cdX12_writesExpression none (xRn2 G0 MT (d + 2)) Q b 50 [some (.inr (.inr 66)), some (.inl k), some (.inl (h 69 k))] [.inr (.inr 66)] (ppsh (ppsh h (3041)) ((ppsh h (3041)) 70 k))
            refine E2_str (x := (.ldc_w 341, 0, [(1, 0)], [])) 10 rfl (Or.inr rfl) rfl ?_
            show xEx2 RX12 G0 cdX12_writesExpression none (xRn2 G0 MT (d + 2)) Q b 51 [some (.inr (.inr 66)), some (.inl k), some (.inl (h 69 k))] [.inr (.inr (1000 + 10)), .inr (.inr 66)] (ppsh (ppsh h (3041)) ((ppsh h (3041)) 70 k))
            refine E2_cv (x := (.invokevirtual 343, 1, [(10, 204)], [0])) (q := fun h9 => h9 = (ppshs (ppsh (ppsh h (3041)) ((ppsh h (3041)) 70 k)) (wrd [115, 103, 110, 40]))) rfl rfl (Nat.le_of_ble_eq_true rfl) (m_word d 0 (ppsh (ppsh h (3041)) ((ppsh h (3041)) 70 k)) 10 (RX12, 341, [115, 103, 110, 40]) rfl (by simp only [ppsh_l, ppshs_l, List.length_cons, List.length_nil]; omega) ⟨rfl, rfl⟩) (fun h9 e9 => ?_)
            subst e9
            show xEx2 RX12 G0 cdX12_writesExpression none (xRn2 G0 MT (d + 2)) Q b 52 [some (.inr (.inr 66)), some (.inl k), some (.inl (h 69 k))] [] (ppshs (ppsh (ppsh h (3041)) ((ppsh h (3041)) 70 k)) (wrd [115, 103, 110, 40]))
            refine E2_s 1 (i' := 86) (ls' := [some (.inr (.inr 66)), some (.inl k), some (.inl (h 69 k))]) (sk' := []) (h' := (ppshs (ppsh (ppsh h (3041)) ((ppsh h (3041)) 70 k)) (wrd [115, 103, 110, 40]))) rfl ?_
            exact E2_ret (x := (.return_, 0, [], [])) (v := none) rfl (trivial) (by
              have r9 := hQ
              unfold wxE at r9
              first
              | (exfalso; omega)
              | (rw [if_pos (by omega)] at r9; exact r9)
              | (rw [if_neg (by omega), if_pos (by omega)] at r9; exact r9)
              | (rw [if_neg (by omega), if_neg (by omega), if_pos (by omega), ppshs_a] at r9
                 unfold wrU at r9
                 first
                 | (rw [if_pos (by omega)] at r9; exact r9)
                 | (rw [if_neg (by omega), if_pos (by omega)] at r9; exact r9)
                 | (rw [if_neg (by omega), if_neg (by omega)] at r9; exact r9))
              | (rw [if_neg (by omega), if_neg (by omega), if_neg (by omega), ppshs_a] at r9
                 unfold wrB sgB at r9
                 first
                 | (rw [if_pos (by omega), if_pos (by omega)] at r9; exact r9)
                 | (rw [if_pos (by omega), if_neg (by omega), if_pos (by omega)] at r9; exact r9)
                 | (rw [if_neg (by omega), if_neg (by omega), if_neg (by omega)] at r9; exact r9)))
          · rw [c_ne (by first | assumption | (refine ⟨?_, ?_⟩ <;> omega) | (simp only [xr] at *; omega)) (by first | assumption | (refine ⟨?_, ?_⟩ <;> omega) | (simp only [xr] at *; omega))] at c47
            simp only [decide_eq_true_eq, decide_eq_false_iff_not, Decidable.not_not] at c47
            show xEx2 RX12 G0 cdX12_writesExpression none (xRn2 G0 MT (d + 2)) Q b 48 [some (.inr (.inr 66)), some (.inl k), some (.inl (h 69 k))] [.inr (.inr 66)] (ppsh (ppsh h (3041)) ((ppsh h (3041)) 70 k))
            refine E2_str (x := (.ldc_w 339, 0, [(1, 0)], [])) 9 rfl (Or.inr rfl) rfl ?_
            show xEx2 RX12 G0 cdX12_writesExpression none (xRn2 G0 MT (d + 2)) Q b 49 [some (.inr (.inr 66)), some (.inl k), some (.inl (h 69 k))] [.inr (.inr (1000 + 9)), .inr (.inr 66)] (ppsh (ppsh h (3041)) ((ppsh h (3041)) 70 k))
            refine E2_s 1 (i' := 51) (ls' := [some (.inr (.inr 66)), some (.inl k), some (.inl (h 69 k))]) (sk' := [.inr (.inr (1000 + 9)), .inr (.inr 66)]) (h' := (ppsh (ppsh h (3041)) ((ppsh h (3041)) 70 k))) rfl ?_
            refine E2_cv (x := (.invokevirtual 343, 1, [(10, 204)], [0])) (q := fun h9 => h9 = (ppshs (ppsh (ppsh h (3041)) ((ppsh h (3041)) 70 k)) (wrd [97, 98, 115, 40]))) rfl rfl (Nat.le_of_ble_eq_true rfl) (m_word d 0 (ppsh (ppsh h (3041)) ((ppsh h (3041)) 70 k)) 9 (RX12, 339, [97, 98, 115, 40]) rfl (by simp only [ppsh_l, ppshs_l, List.length_cons, List.length_nil]; omega) ⟨rfl, rfl⟩) (fun h9 e9 => ?_)
            subst e9
            show xEx2 RX12 G0 cdX12_writesExpression none (xRn2 G0 MT (d + 2)) Q b 52 [some (.inr (.inr 66)), some (.inl k), some (.inl (h 69 k))] [] (ppshs (ppsh (ppsh h (3041)) ((ppsh h (3041)) 70 k)) (wrd [97, 98, 115, 40]))
            refine E2_s 1 (i' := 86) (ls' := [some (.inr (.inr 66)), some (.inl k), some (.inl (h 69 k))]) (sk' := []) (h' := (ppshs (ppsh (ppsh h (3041)) ((ppsh h (3041)) 70 k)) (wrd [97, 98, 115, 40]))) rfl ?_
            exact E2_ret (x := (.return_, 0, [], [])) (v := none) rfl (trivial) (by
              have r9 := hQ
              unfold wxE at r9
              first
              | (exfalso; omega)
              | (rw [if_pos (by omega)] at r9; exact r9)
              | (rw [if_neg (by omega), if_pos (by omega)] at r9; exact r9)
              | (rw [if_neg (by omega), if_neg (by omega), if_pos (by omega), ppshs_a] at r9
                 unfold wrU at r9
                 first
                 | (rw [if_pos (by omega)] at r9; exact r9)
                 | (rw [if_neg (by omega), if_pos (by omega)] at r9; exact r9)
                 | (rw [if_neg (by omega), if_neg (by omega)] at r9; exact r9))
              | (rw [if_neg (by omega), if_neg (by omega), if_neg (by omega), ppshs_a] at r9
                 unfold wrB sgB at r9
                 first
                 | (rw [if_pos (by omega), if_pos (by omega)] at r9; exact r9)
                 | (rw [if_pos (by omega), if_neg (by omega), if_pos (by omega)] at r9; exact r9)
                 | (rw [if_neg (by omega), if_neg (by omega), if_neg (by omega)] at r9; exact r9)))
        · rw [c_ne (by first | assumption | (refine ⟨?_, ?_⟩ <;> omega) | (simp only [xr] at *; omega)) (by first | assumption | (refine ⟨?_, ?_⟩ <;> omega) | (simp only [xr] at *; omega))] at c42
          simp only [decide_eq_true_eq, decide_eq_false_iff_not, Decidable.not_not] at c42
          show xEx2 RX12 G0 cdX12_writesExpression none (xRn2 G0 MT (d + 2)) Q b 43 [some (.inr (.inr 66)), some (.inl k), some (.inl (h 69 k))] [.inr (.inr 66)] (ppsh (ppsh h (3041)) ((ppsh h (3041)) 70 k))
          refine E2_str (x := (.ldc_w 337, 0, [(1, 0)], [])) 8 rfl (Or.inr rfl) rfl ?_
          show xEx2 RX12 G0 cdX12_writesExpression none (xRn2 G0 MT (d + 2)) Q b 44 [some (.inr (.inr 66)), some (.inl k), some (.inl (h 69 k))] [.inr (.inr (1000 + 8)), .inr (.inr 66)] (ppsh (ppsh h (3041)) ((ppsh h (3041)) 70 k))
          refine E2_s 1 (i' := 51) (ls' := [some (.inr (.inr 66)), some (.inl k), some (.inl (h 69 k))]) (sk' := [.inr (.inr (1000 + 8)), .inr (.inr 66)]) (h' := (ppsh (ppsh h (3041)) ((ppsh h (3041)) 70 k))) rfl ?_
          refine E2_cv (x := (.invokevirtual 343, 1, [(10, 204)], [0])) (q := fun h9 => h9 = (ppshs (ppsh (ppsh h (3041)) ((ppsh h (3041)) 70 k)) (wrd [45, 40]))) rfl rfl (Nat.le_of_ble_eq_true rfl) (m_word d 0 (ppsh (ppsh h (3041)) ((ppsh h (3041)) 70 k)) 8 (RX12, 337, [45, 40]) rfl (by simp only [ppsh_l, ppshs_l, List.length_cons, List.length_nil]; omega) ⟨rfl, rfl⟩) (fun h9 e9 => ?_)
          subst e9
          show xEx2 RX12 G0 cdX12_writesExpression none (xRn2 G0 MT (d + 2)) Q b 52 [some (.inr (.inr 66)), some (.inl k), some (.inl (h 69 k))] [] (ppshs (ppsh (ppsh h (3041)) ((ppsh h (3041)) 70 k)) (wrd [45, 40]))
          refine E2_s 1 (i' := 86) (ls' := [some (.inr (.inr 66)), some (.inl k), some (.inl (h 69 k))]) (sk' := []) (h' := (ppshs (ppsh (ppsh h (3041)) ((ppsh h (3041)) 70 k)) (wrd [45, 40]))) rfl ?_
          exact E2_ret (x := (.return_, 0, [], [])) (v := none) rfl (trivial) (by
            have r9 := hQ
            unfold wxE at r9
            first
            | (exfalso; omega)
            | (rw [if_pos (by omega)] at r9; exact r9)
            | (rw [if_neg (by omega), if_pos (by omega)] at r9; exact r9)
            | (rw [if_neg (by omega), if_neg (by omega), if_pos (by omega), ppshs_a] at r9
               unfold wrU at r9
               first
               | (rw [if_pos (by omega)] at r9; exact r9)
               | (rw [if_neg (by omega), if_pos (by omega)] at r9; exact r9)
               | (rw [if_neg (by omega), if_neg (by omega)] at r9; exact r9))
            | (rw [if_neg (by omega), if_neg (by omega), if_neg (by omega), ppshs_a] at r9
               unfold wrB sgB at r9
               first
               | (rw [if_pos (by omega), if_pos (by omega)] at r9; exact r9)
               | (rw [if_pos (by omega), if_neg (by omega), if_pos (by omega)] at r9; exact r9)
               | (rw [if_neg (by omega), if_neg (by omega), if_neg (by omega)] at r9; exact r9)))
    · rw [c_ne (by first | assumption | (refine ⟨?_, ?_⟩ <;> omega) | (simp only [xr] at *; omega)) (by first | assumption | (refine ⟨?_, ?_⟩ <;> omega) | (simp only [xr] at *; omega))] at c19
      simp only [decide_eq_true_eq, decide_eq_false_iff_not, Decidable.not_not] at c19
      show xEx2 RX12 G0 cdX12_writesExpression none (xRn2 G0 MT (d + 2)) Q b 20 [some (.inr (.inr 66)), some (.inl k), some (.inl (h 69 k))] [] h
      refine E2_s 4 (i' := 24) (ls' := [some (.inr (.inr 66)), some (.inl k), some (.inl (h 69 k))]) (sk' := [.inl k, .inr (.inr 70), .inr (.inr 66)]) (h' := h) rfl ?_
      refine E2_ld (x := (.iaload, 0, [], [])) (ty := .int) (n := 301) rfl rfl rfl (by omega) (by omega) ?_
      show xEx2 RX12 G0 cdX12_writesExpression none (xRn2 G0 MT (d + 2)) Q b 25 [some (.inr (.inr 66)), some (.inl k), some (.inl (h 69 k))] [.inl (h 70 k), .inr (.inr 66)] h
      refine E2_cv (x := (.invokevirtual 334, 1, [(10, 206)], [0])) (q := fun h9 => h9 = (padds h (dgt (h 70 k)))) rfl rfl (Nat.le_of_ble_eq_true rfl) (xRn_2 _ _ _ _ _ _ (m_pnum d 0 h (h 70 k) ⟨by omega, by omega⟩ ⟨by omega, by omega⟩ ⟨rfl, rfl⟩)) (fun h9 e9 => ?_)
      subst e9
      show xEx2 RX12 G0 cdX12_writesExpression none (xRn2 G0 MT (d + 2)) Q b 26 [some (.inr (.inr 66)), some (.inl k), some (.inl (h 69 k))] [] (padds h (dgt (h 70 k)))
      refine E2_s 1 (i' := 86) (ls' := [some (.inr (.inr 66)), some (.inl k), some (.inl (h 69 k))]) (sk' := []) (h' := (padds h (dgt (h 70 k)))) rfl ?_
      exact E2_ret (x := (.return_, 0, [], [])) (v := none) rfl (trivial) (by
        have r9 := hQ
        unfold wxE at r9
        first
        | (exfalso; omega)
        | (rw [if_pos (by omega)] at r9; exact r9)
        | (rw [if_neg (by omega), if_pos (by omega)] at r9; exact r9)
        | (rw [if_neg (by omega), if_neg (by omega), if_pos (by omega), ppshs_a] at r9
           unfold wrU at r9
           first
           | (rw [if_pos (by omega)] at r9; exact r9)
           | (rw [if_neg (by omega), if_pos (by omega)] at r9; exact r9)
           | (rw [if_neg (by omega), if_neg (by omega)] at r9; exact r9))
        | (rw [if_neg (by omega), if_neg (by omega), if_neg (by omega), ppshs_a] at r9
           unfold wrB sgB at r9
           first
           | (rw [if_pos (by omega), if_pos (by omega)] at r9; exact r9)
           | (rw [if_pos (by omega), if_neg (by omega), if_pos (by omega)] at r9; exact r9)
           | (rw [if_neg (by omega), if_neg (by omega), if_neg (by omega)] at r9; exact r9)))
  · rw [c_ne (by first | assumption | (refine ⟨?_, ?_⟩ <;> omega) | (simp only [xr] at *; omega)) (by first | assumption | (refine ⟨?_, ?_⟩ <;> omega) | (simp only [xr] at *; omega))] at c7
    simp only [decide_eq_true_eq, decide_eq_false_iff_not, Decidable.not_not] at c7
    show xEx2 RX12 G0 cdX12_writesExpression none (xRn2 G0 MT (d + 2)) Q b 8 [some (.inr (.inr 66)), some (.inl k), some (.inl (h 69 k))] [] h
    refine E2_s 5 (i' := 13) (ls' := [some (.inr (.inr 66)), some (.inl k), some (.inl (h 69 k))]) (sk' := [.inl k, .inr (.inr 70), .inl 120, .inr (.inr 66)]) (h' := h) rfl ?_
    refine E2_ld (x := (.iaload, 0, [], [])) (ty := .int) (n := 301) rfl rfl rfl (by omega) (by omega) ?_
    show xEx2 RX12 G0 cdX12_writesExpression none (xRn2 G0 MT (d + 2)) Q b 14 [some (.inr (.inr 66)), some (.inl k), some (.inl (h 69 k))] [.inl (h 70 k), .inl 120, .inr (.inr 66)] h
    refine E2_s 1 (i' := 15) (ls' := [some (.inr (.inr 66)), some (.inl k), some (.inl (h 69 k))]) (sk' := [.inl (120 + (h 70 k)), .inr (.inr 66)]) (h' := h) rfl ?_
    refine E2_cv (x := (.invokevirtual 331, 1, [(10, 205)], [0])) (q := fun h9 => h9 = (padd h (120 + (h 70 k)))) rfl rfl (Nat.le_of_ble_eq_true rfl) (xRn_2 _ _ _ _ _ _ (m_puts (d + 1) 0 h (120 + (h 70 k)) ⟨by omega, by omega⟩ ⟨by omega, by omega⟩ ⟨rfl, rfl⟩)) (fun h9 e9 => ?_)
    subst e9
    show xEx2 RX12 G0 cdX12_writesExpression none (xRn2 G0 MT (d + 2)) Q b 16 [some (.inr (.inr 66)), some (.inl k), some (.inl (h 69 k))] [] (padd h (120 + (h 70 k)))
    refine E2_s 1 (i' := 86) (ls' := [some (.inr (.inr 66)), some (.inl k), some (.inl (h 69 k))]) (sk' := []) (h' := (padd h (120 + (h 70 k)))) rfl ?_
    exact E2_ret (x := (.return_, 0, [], [])) (v := none) rfl (trivial) (by
      have r9 := hQ
      unfold wxE at r9
      first
      | (exfalso; omega)
      | (rw [if_pos (by omega)] at r9; exact r9)
      | (rw [if_neg (by omega), if_pos (by omega)] at r9; exact r9)
      | (rw [if_neg (by omega), if_neg (by omega), if_pos (by omega), ppshs_a] at r9
         unfold wrU at r9
         first
         | (rw [if_pos (by omega)] at r9; exact r9)
         | (rw [if_neg (by omega), if_pos (by omega)] at r9; exact r9)
         | (rw [if_neg (by omega), if_neg (by omega)] at r9; exact r9))
      | (rw [if_neg (by omega), if_neg (by omega), if_neg (by omega), ppshs_a] at r9
         unfold wrB sgB at r9
         first
         | (rw [if_pos (by omega), if_pos (by omega)] at r9; exact r9)
         | (rw [if_pos (by omega), if_neg (by omega), if_pos (by omega)] at r9; exact r9)
         | (rw [if_neg (by omega), if_neg (by omega), if_neg (by omega)] at r9; exact r9)))
