/-- which word opens a PART -/
def opn (k : Int) : Nat := if k = 3 then 0 else if k = 4 then 1 else if k = 5 then 2 else if k = 8 then 3 else if k = 9 then 4 else 5
/-- one more on the pile -/
def ppsh (h : xH) (v : Int) : xH := xup (xup h 97 (h 66 47) v) 66 47 (h 66 47 + 1)
def ppshs (h : xH) : List Int → xH
  | [] => h
  | v :: t => ppshs (ppsh h v) t
theorem ppsh_l {h : xH} {v : Int} : ppsh h v 66 47 = h 66 47 + 1 := xup_s
set_option maxHeartbeats 1000000 in
theorem c_open (d b : Nat) (h : xH) (k : Int) (hk : 0 ≤ k ∧ k ≤ 11) {Q : xO → xH → Prop} (hQ : Q (.inl (some (.inr (.inr (1000 + opn k))))) h) : xRn2 G0 MT (d + 1) b 41 [.inl k] h Q := by
  refine R2_of (M := mX4_opening) rfl (Nat.le_of_ble_eq_true rfl) ?_
  show xEx2 RX4 G0 cdX4_opening (some (.object "java/lang/String")) (xRn2 G0 MT d) Q b 0 [some (.inl k)] [] h
  refine E2_s 1 (i' := 1) (ls' := [some (.inl k)]) (sk' := [.inl k]) (h' := h) rfl ?_
  by_cases s1_3 : k = 3
  · refine E2_sw (x := (.tableswitch 58 3 9 #[43, 46, 49, 58, 58, 52, 55], 12, [(3, 2), (4, 4), (5, 6), (6, 12), (7, 12), (8, 8), (9, 10)], [])) (t := 2) rfl rfl (by rw [s1_3]; decide +kernel) ?_
    show xEx2 RX4 G0 cdX4_opening (some (.object "java/lang/String")) (xRn2 G0 MT d) Q b 2 [some (.inl k)] [] h
    refine E2_str (x := (.ldc 9, 0, [(1, 0)], [])) 0 rfl (Or.inl rfl) rfl ?_
    show xEx2 RX4 G0 cdX4_opening (some (.object "java/lang/String")) (xRn2 G0 MT d) Q b 3 [some (.inl k)] [.inr (.inr (1000 + 0))] h
    exact E2_ret (x := (.areturn, 0, [], [])) (v := some (.inr (.inr (1000 + 0)))) rfl (Or.inl ⟨_, rfl⟩) (by
      have r9 := hQ
      unfold opn at r9
      rw [if_pos (by omega)] at r9
      exact r9)
  · by_cases s1_4 : k = 4
    · refine E2_sw (x := (.tableswitch 58 3 9 #[43, 46, 49, 58, 58, 52, 55], 12, [(3, 2), (4, 4), (5, 6), (6, 12), (7, 12), (8, 8), (9, 10)], [])) (t := 4) rfl rfl (by rw [s1_4]; decide +kernel) ?_
      show xEx2 RX4 G0 cdX4_opening (some (.object "java/lang/String")) (xRn2 G0 MT d) Q b 4 [some (.inl k)] [] h
      refine E2_str (x := (.ldc 11, 0, [(1, 0)], [])) 1 rfl (Or.inl rfl) rfl ?_
      show xEx2 RX4 G0 cdX4_opening (some (.object "java/lang/String")) (xRn2 G0 MT d) Q b 5 [some (.inl k)] [.inr (.inr (1000 + 1))] h
      exact E2_ret (x := (.areturn, 0, [], [])) (v := some (.inr (.inr (1000 + 1)))) rfl (Or.inl ⟨_, rfl⟩) (by
        have r9 := hQ
        unfold opn at r9
        rw [if_neg (by omega), if_pos (by omega)] at r9
        exact r9)
    · by_cases s1_5 : k = 5
      · refine E2_sw (x := (.tableswitch 58 3 9 #[43, 46, 49, 58, 58, 52, 55], 12, [(3, 2), (4, 4), (5, 6), (6, 12), (7, 12), (8, 8), (9, 10)], [])) (t := 6) rfl rfl (by rw [s1_5]; decide +kernel) ?_
        show xEx2 RX4 G0 cdX4_opening (some (.object "java/lang/String")) (xRn2 G0 MT d) Q b 6 [some (.inl k)] [] h
        refine E2_str (x := (.ldc 13, 0, [(1, 0)], [])) 2 rfl (Or.inl rfl) rfl ?_
        show xEx2 RX4 G0 cdX4_opening (some (.object "java/lang/String")) (xRn2 G0 MT d) Q b 7 [some (.inl k)] [.inr (.inr (1000 + 2))] h
        exact E2_ret (x := (.areturn, 0, [], [])) (v := some (.inr (.inr (1000 + 2)))) rfl (Or.inl ⟨_, rfl⟩) (by
          have r9 := hQ
          unfold opn at r9
          rw [if_neg (by omega), if_neg (by omega), if_pos (by omega)] at r9
          exact r9)
      · by_cases s1_6 : k = 6
        · refine E2_sw (x := (.tableswitch 58 3 9 #[43, 46, 49, 58, 58, 52, 55], 12, [(3, 2), (4, 4), (5, 6), (6, 12), (7, 12), (8, 8), (9, 10)], [])) (t := 12) rfl rfl (by rw [s1_6]; decide +kernel) ?_
          show xEx2 RX4 G0 cdX4_opening (some (.object "java/lang/String")) (xRn2 G0 MT d) Q b 12 [some (.inl k)] [] h
          refine E2_str (x := (.ldc 19, 0, [(1, 0)], [])) 5 rfl (Or.inl rfl) rfl ?_
          show xEx2 RX4 G0 cdX4_opening (some (.object "java/lang/String")) (xRn2 G0 MT d) Q b 13 [some (.inl k)] [.inr (.inr (1000 + 5))] h
          exact E2_ret (x := (.areturn, 0, [], [])) (v := some (.inr (.inr (1000 + 5)))) rfl (Or.inl ⟨_, rfl⟩) (by
            have r9 := hQ
            unfold opn at r9
            rw [if_neg (by omega), if_neg (by omega), if_neg (by omega), if_neg (by omega), if_neg (by omega)] at r9
            exact r9)
        · by_cases s1_7 : k = 7
          · refine E2_sw (x := (.tableswitch 58 3 9 #[43, 46, 49, 58, 58, 52, 55], 12, [(3, 2), (4, 4), (5, 6), (6, 12), (7, 12), (8, 8), (9, 10)], [])) (t := 12) rfl rfl (by rw [s1_7]; decide +kernel) ?_
            show xEx2 RX4 G0 cdX4_opening (some (.object "java/lang/String")) (xRn2 G0 MT d) Q b 12 [some (.inl k)] [] h
            refine E2_str (x := (.ldc 19, 0, [(1, 0)], [])) 5 rfl (Or.inl rfl) rfl ?_
            show xEx2 RX4 G0 cdX4_opening (some (.object "java/lang/String")) (xRn2 G0 MT d) Q b 13 [some (.inl k)] [.inr (.inr (1000 + 5))] h
            exact E2_ret (x := (.areturn, 0, [], [])) (v := some (.inr (.inr (1000 + 5)))) rfl (Or.inl ⟨_, rfl⟩) (by
              have r9 := hQ
              unfold opn at r9
              rw [if_neg (by omega), if_neg (by omega), if_neg (by omega), if_neg (by omega), if_neg (by omega)] at r9
              exact r9)
          · by_cases s1_8 : k = 8
            · refine E2_sw (x := (.tableswitch 58 3 9 #[43, 46, 49, 58, 58, 52, 55], 12, [(3, 2), (4, 4), (5, 6), (6, 12), (7, 12), (8, 8), (9, 10)], [])) (t := 8) rfl rfl (by rw [s1_8]; decide +kernel) ?_
              show xEx2 RX4 G0 cdX4_opening (some (.object "java/lang/String")) (xRn2 G0 MT d) Q b 8 [some (.inl k)] [] h
              refine E2_str (x := (.ldc 15, 0, [(1, 0)], [])) 3 rfl (Or.inl rfl) rfl ?_
              show xEx2 RX4 G0 cdX4_opening (some (.object "java/lang/String")) (xRn2 G0 MT d) Q b 9 [some (.inl k)] [.inr (.inr (1000 + 3))] h
              exact E2_ret (x := (.areturn, 0, [], [])) (v := some (.inr (.inr (1000 + 3)))) rfl (Or.inl ⟨_, rfl⟩) (by
                have r9 := hQ
                unfold opn at r9
                rw [if_neg (by omega), if_neg (by omega), if_neg (by omega), if_pos (by omega)] at r9
                exact r9)
            · by_cases s1_9 : k = 9
              · refine E2_sw (x := (.tableswitch 58 3 9 #[43, 46, 49, 58, 58, 52, 55], 12, [(3, 2), (4, 4), (5, 6), (6, 12), (7, 12), (8, 8), (9, 10)], [])) (t := 10) rfl rfl (by rw [s1_9]; decide +kernel) ?_
                show xEx2 RX4 G0 cdX4_opening (some (.object "java/lang/String")) (xRn2 G0 MT d) Q b 10 [some (.inl k)] [] h
                refine E2_str (x := (.ldc 17, 0, [(1, 0)], [])) 4 rfl (Or.inl rfl) rfl ?_
                show xEx2 RX4 G0 cdX4_opening (some (.object "java/lang/String")) (xRn2 G0 MT d) Q b 11 [some (.inl k)] [.inr (.inr (1000 + 4))] h
                exact E2_ret (x := (.areturn, 0, [], [])) (v := some (.inr (.inr (1000 + 4)))) rfl (Or.inl ⟨_, rfl⟩) (by
                  have r9 := hQ
                  unfold opn at r9
                  rw [if_neg (by omega), if_neg (by omega), if_neg (by omega), if_neg (by omega), if_pos (by omega)] at r9
                  exact r9)
              · refine E2_sw (x := (.tableswitch 58 3 9 #[43, 46, 49, 58, 58, 52, 55], 12, [(3, 2), (4, 4), (5, 6), (6, 12), (7, 12), (8, 8), (9, 10)], [])) (t := 12) rfl rfl (by rw [w32_id (show xr k from ⟨by omega, by omega⟩)]; simp only [xsw]; rw [if_neg (by omega)]; rw [if_neg (by omega)]; rw [if_neg (by omega)]; rw [if_neg (by omega)]; rw [if_neg (by omega)]; rw [if_neg (by omega)]; rw [if_neg (by omega)]; rfl) ?_
                show xEx2 RX4 G0 cdX4_opening (some (.object "java/lang/String")) (xRn2 G0 MT d) Q b 12 [some (.inl k)] [] h
                refine E2_str (x := (.ldc 19, 0, [(1, 0)], [])) 5 rfl (Or.inl rfl) rfl ?_
                show xEx2 RX4 G0 cdX4_opening (some (.object "java/lang/String")) (xRn2 G0 MT d) Q b 13 [some (.inl k)] [.inr (.inr (1000 + 5))] h
                exact E2_ret (x := (.areturn, 0, [], [])) (v := some (.inr (.inr (1000 + 5)))) rfl (Or.inl ⟨_, rfl⟩) (by
                  have r9 := hQ
                  unfold opn at r9
                  rw [if_neg (by omega), if_neg (by omega), if_neg (by omega), if_neg (by omega), if_neg (by omega)] at r9
                  exact r9)
set_option maxHeartbeats 1000000 in
theorem m_push (d b : Nat) (h : xH) (v : Int) (hl : 0 ≤ h 66 47 ∧ h 66 47 < 400) {Q : xO → xH → Prop} (hQ : Q (.inl none) (ppsh h v)) : xRn G0 MT (d + 1) b 203 [.inr (.inr 66), .inl v] h Q := by
  refine R_of (M := mX12_pushes) rfl (Nat.le_of_ble_eq_true rfl) ?_
  show xEx G0 cdX12_pushes none (xRn G0 MT d) Q b 0 [some (.inr (.inr 66)), some (.inl v)] [] h
  refine E_s 5 (i' := 5) (ls' := [some (.inr (.inr 66)), some (.inl v)]) (sk' := [.inl v, .inl (h 66 47), .inr (.inr 97)]) (h' := h) rfl ?_
  refine E_sd (x := (.iastore, 0, [], [])) (ty := .int) (n := 400) (y := v) rfl rfl rfl (by omega) (by omega) (trivial) ?_
  show xEx G0 cdX12_pushes none (xRn G0 MT d) Q b 6 [some (.inr (.inr 66)), some (.inl v)] [] (xup h 97 (h 66 47) v)
  refine E_s 6 (i' := 12) (ls' := [some (.inr (.inr 66)), some (.inl v)]) (sk' := []) (h' := (xup (xup h 97 (h 66 47) v) 66 47 ((h 66 47) + 1))) rfl ?_
  exact E_ret (x := (.return_, 0, [], [])) (v := none) rfl (trivial) (hQ)
