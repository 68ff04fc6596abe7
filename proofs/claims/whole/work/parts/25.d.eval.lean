set_option maxHeartbeats 1000000 in
theorem m_holdsNow (d b : Nat) (h S T : xH) (t x y z c3 : Int) (ht : 0 ≤ t ∧ t ≤ 150) (e3 : h 79 t ≠ 2 → h 81 t = c3) (ch : (0 ≤ h 79 t ∧ h 79 t ≤ 1 ∧ 0 ≤ h 80 t ∧ h 80 t < 300 ∧ 0 ≤ c3 ∧ c3 < 300) ∨ (h 79 t = 2 ∧ 0 ≤ h 80 t ∧ h 80 t < 150) ∨ (h 79 t = 3 ∧ 0 ≤ h 80 t ∧ h 80 t < 150 ∧ 0 ≤ c3 ∧ c3 < 150)) (hv2 : h 79 t ≤ 1 → h 94 (h 80 t) = VE S (pX x y z) (h 80 t) ∧ xr (VE S (pX x y z) (h 80 t))) (hv3 : h 79 t ≤ 1 → h 94 c3 = VE S (pX x y z) c3 ∧ xr (VE S (pX x y z) c3)) (hu2 : 2 ≤ h 79 t → h 95 (h 80 t) = VU S T (pX x y z) (h 80 t)) (hu3 : h 79 t = 3 → h 95 c3 = VU S T (pX x y z) c3) {Q : xO → xH → Prop} (hQ : ∀ v, w32 v = fU S T (pX x y z) (h 79 t) (h 80 t) c3 → Q (.inl (some (.inl v))) h) : xRn G0 MT (d + 1) b 197 [.inr (.inr 66), .inl t] h Q := by
  refine R_of (M := mX12_holdsNow) rfl (Nat.le_of_ble_eq_true rfl) ?_
  show xEx G0 cdX12_holdsNow (some .int) (xRn G0 MT d) Q b 0 [some (.inr (.inr 66)), some (.inl t), none] [] h
  refine E_s 3 (i' := 3) (ls' := [some (.inr (.inr 66)), some (.inl t), none]) (sk' := [.inl t, .inr (.inr 79)]) (h' := h) rfl ?_
  refine E_ld (x := (.iaload, 0, [], [])) (ty := .int) (n := 151) rfl rfl rfl (by omega) (by omega) ?_
  show xEx G0 cdX12_holdsNow (some .int) (xRn G0 MT d) Q b 4 [some (.inr (.inr 66)), some (.inl t), none] [.inl (h 79 t)] h
  refine E_b (x := (.ifCond .ne 36, 24, [], [])) rfl rfl (fun c4 => ?_) (fun c4 => ?_)
  · rw [c_ne (by first | assumption | (refine ⟨?_, ?_⟩ <;> omega) | (simp only [xr] at *; omega)) (by first | assumption | (refine ⟨?_, ?_⟩ <;> omega) | (simp only [xr] at *; omega))] at c4
    simp only [decide_eq_true_eq, decide_eq_false_iff_not, Decidable.not_not] at c4
    show xEx G0 cdX12_holdsNow (some .int) (xRn G0 MT d) Q b 24 [some (.inr (.inr 66)), some (.inl t), none] [] h
    refine E_s 3 (i' := 27) (ls' := [some (.inr (.inr 66)), some (.inl t), none]) (sk' := [.inl t, .inr (.inr 79)]) (h' := h) rfl ?_
    refine E_ld (x := (.iaload, 0, [], [])) (ty := .int) (n := 151) rfl rfl rfl (by omega) (by omega) ?_
    show xEx G0 cdX12_holdsNow (some .int) (xRn G0 MT d) Q b 28 [some (.inr (.inr 66)), some (.inl t), none] [.inl (h 79 t)] h
    refine E_s 1 (i' := 29) (ls' := [some (.inr (.inr 66)), some (.inl t), none]) (sk' := [.inl 1, .inl (h 79 t)]) (h' := h) rfl ?_
    refine E_b (x := (.if_icmp .ne 36, 49, [], [])) rfl rfl (fun c29 => ?_) (fun c29 => ?_)
    · rw [c_ne (by first | assumption | (refine ⟨?_, ?_⟩ <;> omega) | (simp only [xr] at *; omega)) (by first | assumption | (refine ⟨?_, ?_⟩ <;> omega) | (simp only [xr] at *; omega))] at c29
      simp only [decide_eq_true_eq, decide_eq_false_iff_not, Decidable.not_not] at c29
      show xEx G0 cdX12_holdsNow (some .int) (xRn G0 MT d) Q b 49 [some (.inr (.inr 66)), some (.inl t), none] [] h
      refine E_s 3 (i' := 52) (ls' := [some (.inr (.inr 66)), some (.inl t), none]) (sk' := [.inl t, .inr (.inr 79)]) (h' := h) rfl ?_
      refine E_ld (x := (.iaload, 0, [], [])) (ty := .int) (n := 151) rfl rfl rfl (by omega) (by omega) ?_
      show xEx G0 cdX12_holdsNow (some .int) (xRn G0 MT d) Q b 53 [some (.inr (.inr 66)), some (.inl t), none] [.inl (h 79 t)] h
      refine E_s 1 (i' := 54) (ls' := [some (.inr (.inr 66)), some (.inl t), none]) (sk' := [.inl 2, .inl (h 79 t)]) (h' := h) rfl ?_
      refine E_b (x := (.if_icmp .ne 25, 67, [], [])) rfl rfl (fun c54 => ?_) (fun c54 => ?_)
      · rw [c_ne (by first | assumption | (refine ⟨?_, ?_⟩ <;> omega) | (simp only [xr] at *; omega)) (by first | assumption | (refine ⟨?_, ?_⟩ <;> omega) | (simp only [xr] at *; omega))] at c54
        simp only [decide_eq_true_eq, decide_eq_false_iff_not, Decidable.not_not] at c54
        show xEx G0 cdX12_holdsNow (some .int) (xRn G0 MT d) Q b 67 [some (.inr (.inr 66)), some (.inl t), none] [] h
        obtain rfl : h 81 t = c3 := e3 (by omega)
        have y1 := hu2 (by omega)
        have y2 := hu3 (by omega)
        have z1 : VU S T (pX x y z) (h 80 t) = 0 ∨ VU S T (pX x y z) (h 80 t) = 1 := vU_01 S T _ 150 _
        have z2 : VU S T (pX x y z) (h 81 t) = 0 ∨ VU S T (pX x y z) (h 81 t) = 1 := vU_01 S T _ 150 _
        refine E_s 5 (i' := 72) (ls' := [some (.inr (.inr 66)), some (.inl t), none]) (sk' := [.inl t, .inr (.inr 80), .inr (.inr 95)]) (h' := h) rfl ?_
        refine E_ld (x := (.iaload, 0, [], [])) (ty := .int) (n := 151) rfl rfl rfl (by omega) (by omega) ?_
        show xEx G0 cdX12_holdsNow (some .int) (xRn G0 MT d) Q b 73 [some (.inr (.inr 66)), some (.inl t), none] [.inl (h 80 t), .inr (.inr 95)] h
        refine E_ld (x := (.iaload, 0, [], [])) (ty := .int) (n := 150) rfl rfl rfl (by omega) (by omega) ?_
        show xEx G0 cdX12_holdsNow (some .int) (xRn G0 MT d) Q b 74 [some (.inr (.inr 66)), some (.inl t), none] [.inl (h 95 (h 80 t))] h
        refine E_s 5 (i' := 79) (ls' := [some (.inr (.inr 66)), some (.inl t), none]) (sk' := [.inl t, .inr (.inr 81), .inr (.inr 95), .inl (h 95 (h 80 t))]) (h' := h) rfl ?_
        refine E_ld (x := (.iaload, 0, [], [])) (ty := .int) (n := 151) rfl rfl rfl (by omega) (by omega) ?_
        show xEx G0 cdX12_holdsNow (some .int) (xRn G0 MT d) Q b 80 [some (.inr (.inr 66)), some (.inl t), none] [.inl (h 81 t), .inr (.inr 95), .inl (h 95 (h 80 t))] h
        refine E_ld (x := (.iaload, 0, [], [])) (ty := .int) (n := 150) rfl rfl rfl (by omega) (by omega) ?_
        show xEx G0 cdX12_holdsNow (some .int) (xRn G0 MT d) Q b 81 [some (.inr (.inr 66)), some (.inl t), none] [.inl (h 95 (h 81 t)), .inl (h 95 (h 80 t))] h
        refine E_s 2 (i' := 83) (ls' := [some (.inr (.inr 66)), some (.inl t), none]) (sk' := [.inl 2, .inl ((h 95 (h 80 t)) + (h 95 (h 81 t)))]) (h' := h) rfl ?_
        refine E_b (x := (.if_icmp .ne 7, 86, [], [])) rfl rfl (fun c83 => ?_) (fun c83 => ?_)
        · rw [c_ne (by first | assumption | (refine ⟨?_, ?_⟩ <;> omega) | (simp only [xr] at *; omega)) (by first | assumption | (refine ⟨?_, ?_⟩ <;> omega) | (simp only [xr] at *; omega))] at c83
          simp only [decide_eq_true_eq, decide_eq_false_iff_not, Decidable.not_not] at c83
          show xEx G0 cdX12_holdsNow (some .int) (xRn G0 MT d) Q b 86 [some (.inr (.inr 66)), some (.inl t), none] [] h
          refine E_s 3 (i' := 89) (ls' := [some (.inr (.inr 66)), some (.inl t), some (.inl 0)]) (sk' := [.inl 0]) (h' := h) rfl ?_
          refine E_b (x := (.ifCond .eq 7, 92, [], [])) rfl rfl (fun c89 => ?_) (fun c89 => ?_)
          · show xEx G0 cdX12_holdsNow (some .int) (xRn G0 MT d) Q b 92 [some (.inr (.inr 66)), some (.inl t), some (.inl 0)] [] h
            refine E_s 1 (i' := 93) (ls' := [some (.inr (.inr 66)), some (.inl t), some (.inl 0)]) (sk' := [.inl 0]) (h' := h) rfl ?_
            exact E_ret (x := (.ireturn, 0, [], [])) (v := some (.inl 0)) rfl (Or.inl rfl) (hQ _ (by
              unfold fU
              first
              | (rw [if_pos (show h 79 t = 0 by omega), if_neg (by omega)]; rfl)
              | (rw [if_neg (show ¬ h 79 t = 0 by omega), if_pos (show h 79 t = 1 by omega), if_neg (by omega)]; rfl)
              | (rw [if_neg (show ¬ h 79 t = 0 by omega), if_neg (show ¬ h 79 t = 1 by omega), if_pos (show h 79 t = 2 by omega)]; show (0 : Int) = _; omega)
              | (rw [if_neg (show ¬ h 79 t = 0 by omega), if_neg (show ¬ h 79 t = 1 by omega), if_neg (show ¬ h 79 t = 2 by omega)]; split; rfl; show (0 : Int) = _; omega)))
          · show xEx G0 cdX12_holdsNow (some .int) (xRn G0 MT d) Q b 90 [some (.inr (.inr 66)), some (.inl t), some (.inl 0)] [] h
            exact absurd c89 (by decide)
        · rw [c_ne (by first | assumption | (refine ⟨?_, ?_⟩ <;> omega) | (simp only [xr] at *; omega)) (by first | assumption | (refine ⟨?_, ?_⟩ <;> omega) | (simp only [xr] at *; omega))] at c83
          simp only [decide_eq_true_eq, decide_eq_false_iff_not, Decidable.not_not] at c83
          show xEx G0 cdX12_holdsNow (some .int) (xRn G0 MT d) Q b 84 [some (.inr (.inr 66)), some (.inl t), none] [] h
          refine E_s 4 (i' := 89) (ls' := [some (.inr (.inr 66)), some (.inl t), some (.inl 1)]) (sk' := [.inl 1]) (h' := h) rfl ?_
          refine E_b (x := (.ifCond .eq 7, 92, [], [])) rfl rfl (fun c89 => ?_) (fun c89 => ?_)
          · show xEx G0 cdX12_holdsNow (some .int) (xRn G0 MT d) Q b 92 [some (.inr (.inr 66)), some (.inl t), some (.inl 1)] [] h
            exact absurd c89 (by decide)
          · show xEx G0 cdX12_holdsNow (some .int) (xRn G0 MT d) Q b 90 [some (.inr (.inr 66)), some (.inl t), some (.inl 1)] [] h
            refine E_s 2 (i' := 93) (ls' := [some (.inr (.inr 66)), some (.inl t), some (.inl 1)]) (sk' := [.inl 1]) (h' := h) rfl ?_
            exact E_ret (x := (.ireturn, 0, [], [])) (v := some (.inl 1)) rfl (Or.inl rfl) (hQ _ (by
              unfold fU
              first
              | (rw [if_pos (show h 79 t = 0 by omega), if_pos (by omega)]; rfl)
              | (rw [if_neg (show ¬ h 79 t = 0 by omega), if_pos (show h 79 t = 1 by omega), if_pos (by omega)]; rfl)
              | (rw [if_neg (show ¬ h 79 t = 0 by omega), if_neg (show ¬ h 79 t = 1 by omega), if_pos (show h 79 t = 2 by omega), ← hu2 (by omega), c62]; rfl)
              | (rw [if_neg (show ¬ h 79 t = 0 by omega), if_neg (show ¬ h 79 t = 1 by omega), if_neg (show ¬ h 79 t = 2 by omega), if_neg (by omega)]; show (1 : Int) = _; omega)))
      · rw [c_ne (by first | assumption | (refine ⟨?_, ?_⟩ <;> omega) | (simp only [xr] at *; omega)) (by first | assumption | (refine ⟨?_, ?_⟩ <;> omega) | (simp only [xr] at *; omega))] at c54
        simp only [decide_eq_true_eq, decide_eq_false_iff_not, Decidable.not_not] at c54
        show xEx G0 cdX12_holdsNow (some .int) (xRn G0 MT d) Q b 55 [some (.inr (.inr 66)), some (.inl t), none] [] h
        have y1 := hu2 (by omega)
        have z1 : VU S T (pX x y z) (h 80 t) = 0 ∨ VU S T (pX x y z) (h 80 t) = 1 := vU_01 S T _ 150 _
        refine E_s 5 (i' := 60) (ls' := [some (.inr (.inr 66)), some (.inl t), none]) (sk' := [.inl t, .inr (.inr 80), .inr (.inr 95)]) (h' := h) rfl ?_
        refine E_ld (x := (.iaload, 0, [], [])) (ty := .int) (n := 151) rfl rfl rfl (by omega) (by omega) ?_
        show xEx G0 cdX12_holdsNow (some .int) (xRn G0 MT d) Q b 61 [some (.inr (.inr 66)), some (.inl t), none] [.inl (h 80 t), .inr (.inr 95)] h
        refine E_ld (x := (.iaload, 0, [], [])) (ty := .int) (n := 150) rfl rfl rfl (by omega) (by omega) ?_
        show xEx G0 cdX12_holdsNow (some .int) (xRn G0 MT d) Q b 62 [some (.inr (.inr 66)), some (.inl t), none] [.inl (h 95 (h 80 t))] h
        refine E_b (x := (.ifCond .ne 7, 65, [], [])) rfl rfl (fun c62 => ?_) (fun c62 => ?_)
        · rw [c_ne (by first | assumption | (refine ⟨?_, ?_⟩ <;> omega) | (simp only [xr] at *; omega)) (by first | assumption | (refine ⟨?_, ?_⟩ <;> omega) | (simp only [xr] at *; omega))] at c62
          simp only [decide_eq_true_eq, decide_eq_false_iff_not, Decidable.not_not] at c62
          show xEx G0 cdX12_holdsNow (some .int) (xRn G0 MT d) Q b 65 [some (.inr (.inr 66)), some (.inl t), none] [] h
          refine E_s 4 (i' := 89) (ls' := [some (.inr (.inr 66)), some (.inl t), some (.inl 0)]) (sk' := [.inl 0]) (h' := h) rfl ?_
          refine E_b (x := (.ifCond .eq 7, 92, [], [])) rfl rfl (fun c89 => ?_) (fun c89 => ?_)
          · show xEx G0 cdX12_holdsNow (some .int) (xRn G0 MT d) Q b 92 [some (.inr (.inr 66)), some (.inl t), some (.inl 0)] [] h
            refine E_s 1 (i' := 93) (ls' := [some (.inr (.inr 66)), some (.inl t), some (.inl 0)]) (sk' := [.inl 0]) (h' := h) rfl ?_
            exact E_ret (x := (.ireturn, 0, [], [])) (v := some (.inl 0)) rfl (Or.inl rfl) (hQ _ (by
              unfold fU
              first
              | (rw [if_pos (show h 79 t = 0 by omega), if_neg (by omega)]; rfl)
              | (rw [if_neg (show ¬ h 79 t = 0 by omega), if_pos (show h 79 t = 1 by omega), if_neg (by omega)]; rfl)
              | (rw [if_neg (show ¬ h 79 t = 0 by omega), if_neg (show ¬ h 79 t = 1 by omega), if_pos (show h 79 t = 2 by omega)]; show (0 : Int) = _; omega)
              | (rw [if_neg (show ¬ h 79 t = 0 by omega), if_neg (show ¬ h 79 t = 1 by omega), if_neg (show ¬ h 79 t = 2 by omega)]; split; rfl; show (0 : Int) = _; omega)))
          · show xEx G0 cdX12_holdsNow (some .int) (xRn G0 MT d) Q b 90 [some (.inr (.inr 66)), some (.inl t), some (.inl 0)] [] h
            exact absurd c89 (by decide)
        · rw [c_ne (by first | assumption | (refine ⟨?_, ?_⟩ <;> omega) | (simp only [xr] at *; omega)) (by first | assumption | (refine ⟨?_, ?_⟩ <;> omega) | (simp only [xr] at *; omega))] at c62
          simp only [decide_eq_true_eq, decide_eq_false_iff_not, Decidable.not_not] at c62
          show xEx G0 cdX12_holdsNow (some .int) (xRn G0 MT d) Q b 63 [some (.inr (.inr 66)), some (.inl t), none] [] h
          refine E_s 4 (i' := 89) (ls' := [some (.inr (.inr 66)), some (.inl t), some (.inl 1)]) (sk' := [.inl 1]) (h' := h) rfl ?_
          refine E_b (x := (.ifCond .eq 7, 92, [], [])) rfl rfl (fun c89 => ?_) (fun c89 => ?_)
          · show xEx G0 cdX12_holdsNow (some .int) (xRn G0 MT d) Q b 92 [some (.inr (.inr 66)), some (.inl t), some (.inl 1)] [] h
            exact absurd c89 (by decide)
          · show xEx G0 cdX12_holdsNow (some .int) (xRn G0 MT d) Q b 90 [some (.inr (.inr 66)), some (.inl t), some (.inl 1)] [] h
            refine E_s 2 (i' := 93) (ls' := [some (.inr (.inr 66)), some (.inl t), some (.inl 1)]) (sk' := [.inl 1]) (h' := h) rfl ?_
            exact E_ret (x := (.ireturn, 0, [], [])) (v := some (.inl 1)) rfl (Or.inl rfl) (hQ _ (by
              unfold fU
              first
              | (rw [if_pos (show h 79 t = 0 by omega), if_pos (by omega)]; rfl)
              | (rw [if_neg (show ¬ h 79 t = 0 by omega), if_pos (show h 79 t = 1 by omega), if_pos (by omega)]; rfl)
              | (rw [if_neg (show ¬ h 79 t = 0 by omega), if_neg (show ¬ h 79 t = 1 by omega), if_pos (show h 79 t = 2 by omega), ← hu2 (by omega), c62]; rfl)
              | (rw [if_neg (show ¬ h 79 t = 0 by omega), if_neg (show ¬ h 79 t = 1 by omega), if_neg (show ¬ h 79 t = 2 by omega), if_neg (by omega)]; show (1 : Int) = _; omega)))
    · rw [c_ne (by first | assumption | (refine ⟨?_, ?_⟩ <;> omega) | (simp only [xr] at *; omega)) (by first | assumption | (refine ⟨?_, ?_⟩ <;> omega) | (simp only [xr] at *; omega))] at c29
      simp only [decide_eq_true_eq, decide_eq_false_iff_not, Decidable.not_not] at c29
      show xEx G0 cdX12_holdsNow (some .int) (xRn G0 MT d) Q b 30 [some (.inr (.inr 66)), some (.inl t), none] [] h
      obtain rfl : h 81 t = c3 := e3 (by omega)
      obtain ⟨y1, w1⟩ := hv2 (by omega)
      obtain ⟨y2, w2⟩ := hv3 (by omega)
      have w3 : xr (h 94 (h 80 t)) := by rw [y1]; exact w1
      have w4 : xr (h 94 (h 81 t)) := by rw [y2]; exact w2
      refine E_s 5 (i' := 35) (ls' := [some (.inr (.inr 66)), some (.inl t), none]) (sk' := [.inl t, .inr (.inr 80), .inr (.inr 94)]) (h' := h) rfl ?_
      refine E_ld (x := (.iaload, 0, [], [])) (ty := .int) (n := 151) rfl rfl rfl (by omega) (by omega) ?_
      show xEx G0 cdX12_holdsNow (some .int) (xRn G0 MT d) Q b 36 [some (.inr (.inr 66)), some (.inl t), none] [.inl (h 80 t), .inr (.inr 94)] h
      refine E_ld (x := (.iaload, 0, [], [])) (ty := .int) (n := 300) rfl rfl rfl (by omega) (by omega) ?_
      show xEx G0 cdX12_holdsNow (some .int) (xRn G0 MT d) Q b 37 [some (.inr (.inr 66)), some (.inl t), none] [.inl (h 94 (h 80 t))] h
      refine E_s 5 (i' := 42) (ls' := [some (.inr (.inr 66)), some (.inl t), none]) (sk' := [.inl t, .inr (.inr 81), .inr (.inr 94), .inl (h 94 (h 80 t))]) (h' := h) rfl ?_
      refine E_ld (x := (.iaload, 0, [], [])) (ty := .int) (n := 151) rfl rfl rfl (by omega) (by omega) ?_
      show xEx G0 cdX12_holdsNow (some .int) (xRn G0 MT d) Q b 43 [some (.inr (.inr 66)), some (.inl t), none] [.inl (h 81 t), .inr (.inr 94), .inl (h 94 (h 80 t))] h
      refine E_ld (x := (.iaload, 0, [], [])) (ty := .int) (n := 300) rfl rfl rfl (by omega) (by omega) ?_
      show xEx G0 cdX12_holdsNow (some .int) (xRn G0 MT d) Q b 44 [some (.inr (.inr 66)), some (.inl t), none] [.inl (h 94 (h 81 t)), .inl (h 94 (h 80 t))] h
      refine E_b (x := (.if_icmp .ne 7, 47, [], [])) rfl rfl (fun c44 => ?_) (fun c44 => ?_)
      · rw [c_ne (by first | assumption | (refine ⟨?_, ?_⟩ <;> omega) | (simp only [xr] at *; omega)) (by first | assumption | (refine ⟨?_, ?_⟩ <;> omega) | (simp only [xr] at *; omega))] at c44
        simp only [decide_eq_true_eq, decide_eq_false_iff_not, Decidable.not_not] at c44
        show xEx G0 cdX12_holdsNow (some .int) (xRn G0 MT d) Q b 47 [some (.inr (.inr 66)), some (.inl t), none] [] h
        refine E_s 4 (i' := 89) (ls' := [some (.inr (.inr 66)), some (.inl t), some (.inl 0)]) (sk' := [.inl 0]) (h' := h) rfl ?_
        refine E_b (x := (.ifCond .eq 7, 92, [], [])) rfl rfl (fun c89 => ?_) (fun c89 => ?_)
        · show xEx G0 cdX12_holdsNow (some .int) (xRn G0 MT d) Q b 92 [some (.inr (.inr 66)), some (.inl t), some (.inl 0)] [] h
          refine E_s 1 (i' := 93) (ls' := [some (.inr (.inr 66)), some (.inl t), some (.inl 0)]) (sk' := [.inl 0]) (h' := h) rfl ?_
          exact E_ret (x := (.ireturn, 0, [], [])) (v := some (.inl 0)) rfl (Or.inl rfl) (hQ _ (by
            unfold fU
            first
            | (rw [if_pos (show h 79 t = 0 by omega), if_neg (by omega)]; rfl)
            | (rw [if_neg (show ¬ h 79 t = 0 by omega), if_pos (show h 79 t = 1 by omega), if_neg (by omega)]; rfl)
            | (rw [if_neg (show ¬ h 79 t = 0 by omega), if_neg (show ¬ h 79 t = 1 by omega), if_pos (show h 79 t = 2 by omega)]; show (0 : Int) = _; omega)
            | (rw [if_neg (show ¬ h 79 t = 0 by omega), if_neg (show ¬ h 79 t = 1 by omega), if_neg (show ¬ h 79 t = 2 by omega)]; split; rfl; show (0 : Int) = _; omega)))
        · show xEx G0 cdX12_holdsNow (some .int) (xRn G0 MT d) Q b 90 [some (.inr (.inr 66)), some (.inl t), some (.inl 0)] [] h
          exact absurd c89 (by decide)
      · rw [c_ne (by first | assumption | (refine ⟨?_, ?_⟩ <;> omega) | (simp only [xr] at *; omega)) (by first | assumption | (refine ⟨?_, ?_⟩ <;> omega) | (simp only [xr] at *; omega))] at c44
        simp only [decide_eq_true_eq, decide_eq_false_iff_not, Decidable.not_not] at c44
        show xEx G0 cdX12_holdsNow (some .int) (xRn G0 MT d) Q b 45 [some (.inr (.inr 66)), some (.inl t), none] [] h
        refine E_s 4 (i' := 89) (ls' := [some (.inr (.inr 66)), some (.inl t), some (.inl 1)]) (sk' := [.inl 1]) (h' := h) rfl ?_
        refine E_b (x := (.ifCond .eq 7, 92, [], [])) rfl rfl (fun c89 => ?_) (fun c89 => ?_)
        · show xEx G0 cdX12_holdsNow (some .int) (xRn G0 MT d) Q b 92 [some (.inr (.inr 66)), some (.inl t), some (.inl 1)] [] h
          exact absurd c89 (by decide)
        · show xEx G0 cdX12_holdsNow (some .int) (xRn G0 MT d) Q b 90 [some (.inr (.inr 66)), some (.inl t), some (.inl 1)] [] h
          refine E_s 2 (i' := 93) (ls' := [some (.inr (.inr 66)), some (.inl t), some (.inl 1)]) (sk' := [.inl 1]) (h' := h) rfl ?_
          exact E_ret (x := (.ireturn, 0, [], [])) (v := some (.inl 1)) rfl (Or.inl rfl) (hQ _ (by
            unfold fU
            first
            | (rw [if_pos (show h 79 t = 0 by omega), if_pos (by omega)]; rfl)
            | (rw [if_neg (show ¬ h 79 t = 0 by omega), if_pos (show h 79 t = 1 by omega), if_pos (by omega)]; rfl)
            | (rw [if_neg (show ¬ h 79 t = 0 by omega), if_neg (show ¬ h 79 t = 1 by omega), if_pos (show h 79 t = 2 by omega), ← hu2 (by omega), c62]; rfl)
            | (rw [if_neg (show ¬ h 79 t = 0 by omega), if_neg (show ¬ h 79 t = 1 by omega), if_neg (show ¬ h 79 t = 2 by omega), if_neg (by omega)]; show (1 : Int) = _; omega)))
  · rw [c_ne (by first | assumption | (refine ⟨?_, ?_⟩ <;> omega) | (simp only [xr] at *; omega)) (by first | assumption | (refine ⟨?_, ?_⟩ <;> omega) | (simp only [xr] at *; omega))] at c4
    simp only [decide_eq_true_eq, decide_eq_false_iff_not, Decidable.not_not] at c4
    show xEx G0 cdX12_holdsNow (some .int) (xRn G0 MT d) Q b 5 [some (.inr (.inr 66)), some (.inl t), none] [] h
    obtain rfl : h 81 t = c3 := e3 (by omega)
    obtain ⟨y1, w1⟩ := hv2 (by omega)
    obtain ⟨y2, w2⟩ := hv3 (by omega)
    have w3 : xr (h 94 (h 80 t)) := by rw [y1]; exact w1
    have w4 : xr (h 94 (h 81 t)) := by rw [y2]; exact w2
    refine E_s 5 (i' := 10) (ls' := [some (.inr (.inr 66)), some (.inl t), none]) (sk' := [.inl t, .inr (.inr 80), .inr (.inr 94)]) (h' := h) rfl ?_
    refine E_ld (x := (.iaload, 0, [], [])) (ty := .int) (n := 151) rfl rfl rfl (by omega) (by omega) ?_
    show xEx G0 cdX12_holdsNow (some .int) (xRn G0 MT d) Q b 11 [some (.inr (.inr 66)), some (.inl t), none] [.inl (h 80 t), .inr (.inr 94)] h
    refine E_ld (x := (.iaload, 0, [], [])) (ty := .int) (n := 300) rfl rfl rfl (by omega) (by omega) ?_
    show xEx G0 cdX12_holdsNow (some .int) (xRn G0 MT d) Q b 12 [some (.inr (.inr 66)), some (.inl t), none] [.inl (h 94 (h 80 t))] h
    refine E_s 5 (i' := 17) (ls' := [some (.inr (.inr 66)), some (.inl t), none]) (sk' := [.inl t, .inr (.inr 81), .inr (.inr 94), .inl (h 94 (h 80 t))]) (h' := h) rfl ?_
    refine E_ld (x := (.iaload, 0, [], [])) (ty := .int) (n := 151) rfl rfl rfl (by omega) (by omega) ?_
    show xEx G0 cdX12_holdsNow (some .int) (xRn G0 MT d) Q b 18 [some (.inr (.inr 66)), some (.inl t), none] [.inl (h 81 t), .inr (.inr 94), .inl (h 94 (h 80 t))] h
    refine E_ld (x := (.iaload, 0, [], [])) (ty := .int) (n := 300) rfl rfl rfl (by omega) (by omega) ?_
    show xEx G0 cdX12_holdsNow (some .int) (xRn G0 MT d) Q b 19 [some (.inr (.inr 66)), some (.inl t), none] [.inl (h 94 (h 81 t)), .inl (h 94 (h 80 t))] h
    refine E_b (x := (.if_icmp .ge 7, 22, [], [])) rfl rfl (fun c19 => ?_) (fun c19 => ?_)
    · rw [c_ge (by first | assumption | (refine ⟨?_, ?_⟩ <;> omega) | (simp only [xr] at *; omega)) (by first | assumption | (refine ⟨?_, ?_⟩ <;> omega) | (simp only [xr] at *; omega))] at c19
      simp only [decide_eq_true_eq, decide_eq_false_iff_not, Decidable.not_not] at c19
      show xEx G0 cdX12_holdsNow (some .int) (xRn G0 MT d) Q b 22 [some (.inr (.inr 66)), some (.inl t), none] [] h
      refine E_s 4 (i' := 89) (ls' := [some (.inr (.inr 66)), some (.inl t), some (.inl 0)]) (sk' := [.inl 0]) (h' := h) rfl ?_
      refine E_b (x := (.ifCond .eq 7, 92, [], [])) rfl rfl (fun c89 => ?_) (fun c89 => ?_)
      · show xEx G0 cdX12_holdsNow (some .int) (xRn G0 MT d) Q b 92 [some (.inr (.inr 66)), some (.inl t), some (.inl 0)] [] h
        refine E_s 1 (i' := 93) (ls' := [some (.inr (.inr 66)), some (.inl t), some (.inl 0)]) (sk' := [.inl 0]) (h' := h) rfl ?_
        exact E_ret (x := (.ireturn, 0, [], [])) (v := some (.inl 0)) rfl (Or.inl rfl) (hQ _ (by
          unfold fU
          first
          | (rw [if_pos (show h 79 t = 0 by omega), if_neg (by omega)]; rfl)
          | (rw [if_neg (show ¬ h 79 t = 0 by omega), if_pos (show h 79 t = 1 by omega), if_neg (by omega)]; rfl)
          | (rw [if_neg (show ¬ h 79 t = 0 by omega), if_neg (show ¬ h 79 t = 1 by omega), if_pos (show h 79 t = 2 by omega)]; show (0 : Int) = _; omega)
          | (rw [if_neg (show ¬ h 79 t = 0 by omega), if_neg (show ¬ h 79 t = 1 by omega), if_neg (show ¬ h 79 t = 2 by omega)]; split; rfl; show (0 : Int) = _; omega)))
      · show xEx G0 cdX12_holdsNow (some .int) (xRn G0 MT d) Q b 90 [some (.inr (.inr 66)), some (.inl t), some (.inl 0)] [] h
        exact absurd c89 (by decide)
    · rw [c_ge (by first | assumption | (refine ⟨?_, ?_⟩ <;> omega) | (simp only [xr] at *; omega)) (by first | assumption | (refine ⟨?_, ?_⟩ <;> omega) | (simp only [xr] at *; omega))] at c19
      simp only [decide_eq_true_eq, decide_eq_false_iff_not, Decidable.not_not] at c19
      show xEx G0 cdX12_holdsNow (some .int) (xRn G0 MT d) Q b 20 [some (.inr (.inr 66)), some (.inl t), none] [] h
      refine E_s 4 (i' := 89) (ls' := [some (.inr (.inr 66)), some (.inl t), some (.inl 1)]) (sk' := [.inl 1]) (h' := h) rfl ?_
      refine E_b (x := (.ifCond .eq 7, 92, [], [])) rfl rfl (fun c89 => ?_) (fun c89 => ?_)
      · show xEx G0 cdX12_holdsNow (some .int) (xRn G0 MT d) Q b 92 [some (.inr (.inr 66)), some (.inl t), some (.inl 1)] [] h
        exact absurd c89 (by decide)
      · show xEx G0 cdX12_holdsNow (some .int) (xRn G0 MT d) Q b 90 [some (.inr (.inr 66)), some (.inl t), some (.inl 1)] [] h
        refine E_s 2 (i' := 93) (ls' := [some (.inr (.inr 66)), some (.inl t), some (.inl 1)]) (sk' := [.inl 1]) (h' := h) rfl ?_
        exact E_ret (x := (.ireturn, 0, [], [])) (v := some (.inl 1)) rfl (Or.inl rfl) (hQ _ (by
          unfold fU
          first
          | (rw [if_pos (show h 79 t = 0 by omega), if_pos (by omega)]; rfl)
          | (rw [if_neg (show ¬ h 79 t = 0 by omega), if_pos (show h 79 t = 1 by omega), if_pos (by omega)]; rfl)
          | (rw [if_neg (show ¬ h 79 t = 0 by omega), if_neg (show ¬ h 79 t = 1 by omega), if_pos (show h 79 t = 2 by omega), ← hu2 (by omega), c62]; rfl)
          | (rw [if_neg (show ¬ h 79 t = 0 by omega), if_neg (show ¬ h 79 t = 1 by omega), if_neg (show ¬ h 79 t = 2 by omega), if_neg (by omega)]; show (1 : Int) = _; omega)))
set_option maxHeartbeats 1000000 in
theorem m_reckons (d b : Nat) (h S T : xH) (x y z n0 : Int) (wt : Int → Int) (hx : xr x) (hy : xr y) (hz : xr z) (hR : RR h S) (hRT : RRT h T) (hF : FW n0 wt 9 S) (hT : FWT S 7 T) (h3 : 0 ≤ S 0 0 ∧ S 0 0 ≤ 300) (h4 : 0 ≤ T 0 0 ∧ T 0 0 ≤ 150) {Q : xO → xH → Prop} (hQ : ∀ h', (∀ a, a ≠ 94 → a ≠ 95 → h' a = h a) → (∀ k, 0 ≤ k → k < S 0 0 → h' 94 k = VE S (pX x y z) k) → (∀ t, 0 ≤ t → t < T 0 0 → h' 95 t = VU S T (pX x y z) t) → Q (.inl none) h') : xRn G0 MT (d + 4) b 198 [.inr (.inr 66), .inl x, .inl y, .inl z] h Q := by
  refine R_of (M := mX12_reckons) rfl (Nat.le_of_ble_eq_true rfl) ?_
  show xEx G0 cdX12_reckons none (xRn G0 MT (d + 3)) Q b 0 [some (.inr (.inr 66)), some (.inl x), some (.inl y), some (.inl z), none] [] h
  refine E_s 2 (i' := 2) (ls' := [some (.inr (.inr 66)), some (.inl x), some (.inl y), some (.inl z), some (.inl 0)]) (sk' := []) (h' := h) rfl ?_
  have key2 : ∀ (n : Nat) (hw : xH) (k : Int), (0 ≤ k) → (k ≤ S 0 0) → (∀ a, a ≠ 94 → hw a = h a) → (∀ j, 0 ≤ j → j < k → hw 94 j = VE S (pX x y z) j) → ((S 0 0 - k).toNat) < n → xEx G0 cdX12_reckons none (xRn G0 MT (d + 3)) Q b 2 [some (.inr (.inr 66)), some (.inl x), some (.inl y), some (.inl z), some (.inl k)] [] hw := by
    intro n
    induction n with
    | zero => intro hw k _ _ _ _ hm; exact absurd hm (Nat.not_lt_zero _)
    | succ n ih2 =>
      intro hw k hk0 hk9 hfr hval hm2
      have e8 : hw 66 8 = S 0 0 := by rw [hfr _ (by decide)]; exact hR.1
      have e19 : hw 66 19 = T 0 0 := by rw [hfr _ (by decide)]; exact hRT.1
      refine E_s 3 (i' := 5) (ls' := [some (.inr (.inr 66)), some (.inl x), some (.inl y), some (.inl z), some (.inl k)]) (sk' := [.inl (hw 66 8), .inl k]) (h' := hw) rfl ?_
      refine E_b (x := (.if_icmp .ge 25, 18, [], [])) rfl rfl (fun c5 => ?_) (fun c5 => ?_)
      · rw [c_ge (by first | assumption | (refine ⟨?_, ?_⟩ <;> omega) | (simp only [xr] at *; omega)) (by first | assumption | (refine ⟨?_, ?_⟩ <;> omega) | (simp only [xr] at *; omega))] at c5
        simp only [decide_eq_true_eq, decide_eq_false_iff_not, Decidable.not_not] at c5
        show xEx G0 cdX12_reckons none (xRn G0 MT (d + 3)) Q b 18 [some (.inr (.inr 66)), some (.inl x), some (.inl y), some (.inl z), some (.inl k)] [] hw
        refine E_s 2 (i' := 20) (ls' := [some (.inr (.inr 66)), some (.inl x), some (.inl y), some (.inl z), some (.inl 0)]) (sk' := []) (h' := hw) rfl ?_
        have key20 : ∀ (n : Nat) (hv : xH) (t : Int), (0 ≤ t) → (t ≤ T 0 0) → (∀ a, a ≠ 95 → hv a = hw a) → (∀ j, 0 ≤ j → j < t → hv 95 j = VU S T (pX x y z) j) → ((T 0 0 - t).toNat) < n → xEx G0 cdX12_reckons none (xRn G0 MT (d + 3)) Q b 20 [some (.inr (.inr 66)), some (.inl x), some (.inl y), some (.inl z), some (.inl t)] [] hv := by
          intro n
          induction n with
          | zero => intro hv t _ _ _ _ hm; exact absurd hm (Nat.not_lt_zero _)
          | succ n ih20 =>
            intro hv t ht0 ht9 hfr2 hhol hm20
            have f19 : hv 66 19 = T 0 0 := by rw [hfr2 _ (by decide)]; exact e19
            refine E_s 3 (i' := 23) (ls' := [some (.inr (.inr 66)), some (.inl x), some (.inl y), some (.inl z), some (.inl t)]) (sk' := [.inl (hv 66 19), .inl t]) (h' := hv) rfl ?_
            refine E_b (x := (.if_icmp .ge 22, 33, [], [])) rfl rfl (fun c23 => ?_) (fun c23 => ?_)
            · rw [c_ge (by first | assumption | (refine ⟨?_, ?_⟩ <;> omega) | (simp only [xr] at *; omega)) (by first | assumption | (refine ⟨?_, ?_⟩ <;> omega) | (simp only [xr] at *; omega))] at c23
              simp only [decide_eq_true_eq, decide_eq_false_iff_not, Decidable.not_not] at c23
              show xEx G0 cdX12_reckons none (xRn G0 MT (d + 3)) Q b 33 [some (.inr (.inr 66)), some (.inl x), some (.inl y), some (.inl z), some (.inl t)] [] hv
              exact E_ret (x := (.return_, 0, [], [])) (v := none) rfl (trivial) (hQ _ (fun a z1 z2 => by rw [hfr2 a z2]; exact hfr a z1) (fun j z1 z2 => by rw [hfr2 _ (by decide)]; exact hval j z1 (by omega)) (fun j z1 z2 => hhol j z1 (by omega)))
            · rw [c_ge (by first | assumption | (refine ⟨?_, ?_⟩ <;> omega) | (simp only [xr] at *; omega)) (by first | assumption | (refine ⟨?_, ?_⟩ <;> omega) | (simp only [xr] at *; omega))] at c23
              simp only [decide_eq_true_eq, decide_eq_false_iff_not, Decidable.not_not] at c23
              show xEx G0 cdX12_reckons none (xRn G0 MT (d + 3)) Q b 24 [some (.inr (.inr 66)), some (.inl x), some (.inl y), some (.inl z), some (.inl t)] [] hv
              refine E_s 5 (i' := 29) (ls' := [some (.inr (.inr 66)), some (.inl x), some (.inl y), some (.inl z), some (.inl t)]) (sk' := [.inl t, .inr (.inr 66), .inl t, .inr (.inr 95)]) (h' := hv) rfl ?_
              obtain ⟨b1, b2, b3, -⟩ := hRT.2.2.2 t ht0 (by omega)
              have tw := tw_ch hT (K := t) (by omega) (hT t ht0 (by omega)).1
              have i1 : hv 79 t = T 1 t := by rw [hfr2 _ (by decide), hfr _ (by decide)]; exact b1
              have i2 : hv 80 t = T 2 t := by rw [hfr2 _ (by decide), hfr _ (by decide)]; exact b2
              have i3 : hv 81 t = otT (T 1 t) (T 3 t) := by rw [hfr2 _ (by decide), hfr _ (by decide)]; exact b3
              have hv8 : ∀ j, 0 ≤ j → j < S 0 0 → hv 94 j = VE S (pX x y z) j ∧ xr (VE S (pX x y z) j) := fun j z1 z2 => ⟨by rw [hfr2 _ (by decide)]; exact hval j z1 (by omega), VE_r hF (pX_r hx hy hz) 300 j z1 z2⟩
              refine E_cp (x := (.invokevirtual 303, 1, [(10, 197)], [0])) (q := fun r h9 => w32 r = fU S T (pX x y z) (hv 79 t) (hv 80 t) (T 3 t) ∧ hv = h9) rfl rfl (Nat.le_of_ble_eq_true rfl) (m_holdsNow (d + 2) 0 hv S T t x y z (T 3 t) ⟨by omega, by omega⟩ (fun z9 => by rw [i3]; unfold otT; rw [if_neg (by omega)]) (by rw [i1, i2]; omega) (fun z9 => by rw [i2]; exact hv8 _ (by omega) (by omega)) (fun z9 => hv8 _ (by omega) (by omega)) (fun z9 => by rw [i2]; exact hhol _ (by omega) (by omega)) (fun z9 => hhol _ (by omega) (by omega)) (fun v hv9 => ⟨v, rfl, hv9, rfl⟩)) (fun r h9 hq => ?_)
              obtain ⟨hq, rfl⟩ := hq
              show xEx G0 cdX12_reckons none (xRn G0 MT (d + 3)) Q b 30 [some (.inr (.inr 66)), some (.inl x), some (.inl y), some (.inl z), some (.inl t)] [.inl r, .inl t, .inr (.inr 95)] hv
              refine E_ti (y := (VU S T (pX x y z) t)) (by rw [hq, i1, i2, VU_eq _ hT h4.2 ht0 (by omega), w32_id]; have := fU_01 S T (pX x y z) (T 1 t) (T 2 t) (T 3 t); exact ⟨by omega, by omega⟩) ?_
              refine E_sd (x := (.iastore, 0, [], [])) (ty := .int) (n := 150) (y := (VU S T (pX x y z) t)) rfl rfl rfl (by omega) (by omega) (trivial) ?_
              show xEx G0 cdX12_reckons none (xRn G0 MT (d + 3)) Q b 31 [some (.inr (.inr 66)), some (.inl x), some (.inl y), some (.inl z), some (.inl t)] [] (xup hv 95 t (VU S T (pX x y z) t))
              refine E_s 2 (i' := 20) (ls' := [some (.inr (.inr 66)), some (.inl x), some (.inl y), some (.inl z), some (.inl (t + 1))]) (sk' := []) (h' := (xup hv 95 t (VU S T (pX x y z) t))) rfl ?_
              exact ih20 _ (t + 1) (by omega) (by omega) (fun a z => by rw [xup_o _ _ _ _ a z]; exact hfr2 a z) (fun j z1 z2 => by
                by_cases e : j = t
                · subst e; rw [xup_s]
                · rw [xup_j e]; exact hhol j z1 (by omega)) (by omega)
        exact key20 _ hw 0 (by omega) (by omega) (fun _ _ => rfl) (fun j z1 z2 => by omega) (Nat.lt_succ_self _)
      · rw [c_ge (by first | assumption | (refine ⟨?_, ?_⟩ <;> omega) | (simp only [xr] at *; omega)) (by first | assumption | (refine ⟨?_, ?_⟩ <;> omega) | (simp only [xr] at *; omega))] at c5
        simp only [decide_eq_true_eq, decide_eq_false_iff_not, Decidable.not_not] at c5
        show xEx G0 cdX12_reckons none (xRn G0 MT (d + 3)) Q b 6 [some (.inr (.inr 66)), some (.inl x), some (.inl y), some (.inl z), some (.inl k)] [] hw
        refine E_s 8 (i' := 14) (ls' := [some (.inr (.inr 66)), some (.inl x), some (.inl y), some (.inl z), some (.inl k)]) (sk' := [.inl z, .inl y, .inl x, .inl k, .inr (.inr 66), .inl k, .inr (.inr 94)]) (h' := hw) rfl ?_
        obtain ⟨b1, b2, b3, -⟩ := hR.2.2.1 k hk0 (by omega)
        have cw := cw_ch hF (K := k) (by omega) (hF k hk0 (by omega)).1
        have hv9 : ∀ j, 0 ≤ j → j < k → hw 94 j = VE S (pX x y z) j ∧ xr (VE S (pX x y z) j) := fun j z1 z2 => ⟨hval j z1 z2, VE_r hF (pX_r hx hy hz) 300 j z1 (by omega)⟩
        refine E_cp (x := (.invokevirtual 299, 4, [(10, 196)], [0])) (q := fun r h9 => w32 r = fE S (pX x y z) (S 1 k) (S 2 k) (S 3 k) ∧ hw = h9) rfl rfl (Nat.le_of_ble_eq_true rfl) (m_valueOf d 0 hw S k x y z (S 1 k) (S 2 k) (S 3 k) hx hy hz ⟨by omega, by omega⟩ (by rw [hfr _ (by decide)]; exact b1) (by rw [hfr _ (by decide)]; exact b2) (by rw [hfr _ (by decide)]; exact b3) (by omega) (fun z9 => hv9 _ (by omega) (by omega)) (fun z9 _ => hv9 _ (by omega) (by omega)) (fun v hv => ⟨v, rfl, hv, rfl⟩)) (fun r h9 hv => ?_)
        obtain ⟨hv, rfl⟩ := hv
        show xEx G0 cdX12_reckons none (xRn G0 MT (d + 3)) Q b 15 [some (.inr (.inr 66)), some (.inl x), some (.inl y), some (.inl z), some (.inl k)] [.inl r, .inl k, .inr (.inr 94)] hw
        refine E_ti (y := (VE S (pX x y z) k)) (by rw [hv, VE_eq _ hF h3.2 hk0 (by omega), w32_id]; rw [← VE_eq _ hF h3.2 hk0 (by omega)]; exact VE_r hF (pX_r hx hy hz) 300 k hk0 (by omega)) ?_
        refine E_sd (x := (.iastore, 0, [], [])) (ty := .int) (n := 300) (y := (VE S (pX x y z) k)) rfl rfl rfl (by omega) (by omega) (trivial) ?_
        show xEx G0 cdX12_reckons none (xRn G0 MT (d + 3)) Q b 16 [some (.inr (.inr 66)), some (.inl x), some (.inl y), some (.inl z), some (.inl k)] [] (xup hw 94 k (VE S (pX x y z) k))
        refine E_s 2 (i' := 2) (ls' := [some (.inr (.inr 66)), some (.inl x), some (.inl y), some (.inl z), some (.inl (k + 1))]) (sk' := []) (h' := (xup hw 94 k (VE S (pX x y z) k))) rfl ?_
        exact ih2 _ (k + 1) (by omega) (by omega) (fun a z => by rw [xup_o _ _ _ _ a z]; exact hfr a z) (fun j z1 z2 => by
          by_cases e : j = k
          · subst e; rw [xup_s]
          · rw [xup_j e]; exact hval j z1 (by omega)) (by omega)
  exact key2 _ h 0 (by omega) (by omega) (fun _ _ => rfl) (fun j z1 z2 => by omega) (Nat.lt_succ_self _)
