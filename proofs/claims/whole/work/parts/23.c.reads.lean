set_option maxHeartbeats 1000000 in
theorem o_output0 (d  : Nat) (h : xH) (k e : Int) (hk : xr k) (he : xr e) (hn : 0 ≤ h 1 2 ∧ h 1 2 ≤ 12) (hK0 : 0 ≤ h 9 9 ∧ h 9 9 ≤ 300) {Q : xO → xH → Prop} (h1 : (0 ≤ k ∧ k < h 9 9) ∧ (0 ≤ e ∧ e < h 1 2) → Q (.inl (some (.inl (h 24 (k * 12 + e))))) h) (hX : ¬ ((0 ≤ k ∧ k < h 9 9) ∧ (0 ≤ e ∧ e < h 1 2)) → Q (.inr "java/util/NoSuchElementException") h) : xRn G0 MT (d + 5) 2 107 [.inr (.inr 0), .inl 0, .inl k, .inl e] h Q := by
  refine R_of (M := mX11_output) rfl (Nat.le_of_ble_eq_true rfl) ?_
  show xEx G0 cdX11_output (some .int) (xRn G0 MT (d + 4)) Q 2 0 [some (.inr (.inr 0)), some (.inl 0), some (.inl k), some (.inl e), none] [] h
  refine E_s 3 (i' := 3) (ls' := [some (.inr (.inr 0)), some (.inl 0), some (.inl k), some (.inl e), none]) (sk' := [.inl k, .inl 0, .inr (.inr 0)]) (h' := h) rfl ?_
  refine E_cx (x := (.invokevirtual 194, 2, [(9, 143)], [0])) (b1 := 1) (b2 := 1) (v := (some (.inr (.inr 9)))) (q := fun h9 => (0 ≤ k ∧ k < h 9 9) ∧ h = h9) rfl rfl (Nat.le_of_ble_eq_true rfl) (fun z => by cases z) (c_growthWith0 (d + 1) h k hk hK0 (fun z => Or.inl ⟨rfl, z, rfl⟩) (fun z => Or.inr ⟨_, rfl, hX (fun y => z y.1)⟩)) (fun h9 hq9 => ?_)
  obtain ⟨qk, rfl⟩ := hq9
  show xEx G0 cdX11_output (some .int) (xRn G0 MT (d + 4)) Q 1 4 [some (.inr (.inr 0)), some (.inl 0), some (.inl k), some (.inl e), none] [.inr (.inr 9)] h
  refine E_s 3 (i' := 7) (ls' := [some (.inr (.inr 0)), some (.inl 0), some (.inl k), some (.inl e), some (.inr (.inr 9))]) (sk' := [.inl e, .inr (.inr 0)]) (h' := h) rfl ?_
  refine E_cx (x := (.invokevirtual 115, 1, [(9, 145)], [0])) (b1 := 1) (b2 := 0) (v := none) (q := fun h9 => (0 ≤ e ∧ e < h 1 2) ∧ h = h9) rfl rfl (Nat.le_of_ble_eq_true rfl) (fun z => by cases z) (c_refNoExample (d + 3) h e he hn (fun z => Or.inl ⟨rfl, z, rfl⟩) (fun z => Or.inr ⟨_, rfl, hX (fun y => z y.2)⟩)) (fun h9 hq9 => ?_)
  obtain ⟨qe, rfl⟩ := hq9
  show xEx G0 cdX11_output (some .int) (xRn G0 MT (d + 4)) Q 0 8 [some (.inr (.inr 0)), some (.inl 0), some (.inl k), some (.inl e), some (.inr (.inr 9))] [] h
  refine E_s 3 (i' := 11) (ls' := [some (.inr (.inr 0)), some (.inl 0), some (.inl k), some (.inl e), some (.inr (.inr 9))]) (sk' := [.inl e, .inl k, .inr (.inr 9)]) (h' := h) rfl ?_
  refine E_ci (x := (.invokevirtual 210, 2, [(1, 19), (7, 90)], [1])) (r := (h 24 (k * 12 + e))) (h' := h) rfl rfl (Nat.le_of_ble_eq_true rfl) (c_outputOn (d + 3) 0 h k e ⟨by omega, by omega⟩ ⟨by omega, by omega⟩ ⟨rfl, rfl⟩) ?_
  show xEx G0 cdX11_output (some .int) (xRn G0 MT (d + 4)) Q 0 12 [some (.inr (.inr 0)), some (.inl 0), some (.inl k), some (.inl e), some (.inr (.inr 9))] [.inl (h 24 (k * 12 + e))] h
  exact E_ret (x := (.ireturn, 0, [], [])) (v := some (.inl (h 24 (k * 12 + e)))) rfl (Or.inl rfl) (h1 ⟨qk, qe⟩)
set_option maxHeartbeats 1000000 in
theorem m_output0 (d b : Nat) (h : xH) (k e : Int) (hk : xr k) (he : xr e) (hn : 0 ≤ h 66 4 ∧ h 66 4 ≤ 12) (hM0 : 0 ≤ h 66 8 ∧ h 66 8 ≤ 300) {Q : xO → xH → Prop} (h1 : (0 ≤ k ∧ k < h 66 8) ∧ (0 ≤ e ∧ e < h 66 4) → Q (.inl (some (.inl (h 77 (12 * k + e))))) (xup h 66 0 0)) (hX : ¬ ((0 ≤ k ∧ k < h 66 8) ∧ (0 ≤ e ∧ e < h 66 4)) → Q (.inl (some (.inl (0)))) (xup h 66 0 1)) : xRn G0 MT (d + 4) b 195 [.inr (.inr 66), .inl 0, .inl k, .inl e] h Q := by
  refine R_of (M := mX12_output) rfl (Nat.le_of_ble_eq_true rfl) ?_
  show xEx G0 cdX12_output (some .int) (xRn G0 MT (d + 3)) Q b 0 [some (.inr (.inr 66)), some (.inl 0), some (.inl k), some (.inl e)] [] h
  refine E_s 4 (i' := 4) (ls' := [some (.inr (.inr 66)), some (.inl 0), some (.inl k), some (.inl e)]) (sk' := [.inl k, .inl 0, .inr (.inr 66), .inr (.inr 66)]) (h' := h) rfl ?_
  refine E_cp (x := (.invokevirtual 295, 2, [(10, 193)], [0])) (q := fun r1 h9 => ((r1 = 1 ∧ (0 ≤ k ∧ k < h 66 8)) ∨ (r1 = 0 ∧ ¬ (0 ≤ k ∧ k < h 66 8))) ∧ h = h9) rfl rfl (Nat.le_of_ble_eq_true rfl) (m_isKept0 (d + 1) 0 h k hk hM0 (fun z => ⟨_, rfl, Or.inl ⟨rfl, z⟩, rfl⟩) (fun z => ⟨_, rfl, Or.inr ⟨rfl, z⟩, rfl⟩)) (fun r1 h9 q1 => ?_)
  obtain ⟨q1, rfl⟩ := q1
  show xEx G0 cdX12_output (some .int) (xRn G0 MT (d + 3)) Q b 5 [some (.inr (.inr 66)), some (.inl 0), some (.inl k), some (.inl e)] [.inl r1, .inr (.inr 66)] h
  refine E_b (x := (.ifCond .eq 11, 10, [], [])) rfl rfl (fun c5 => ?_) (fun c5 => ?_)
  · rw [c_eq (by first | assumption | (refine ⟨?_, ?_⟩ <;> omega) | (simp only [xr] at *; omega)) (by first | assumption | (refine ⟨?_, ?_⟩ <;> omega) | (simp only [xr] at *; omega))] at c5
    simp only [decide_eq_true_eq, decide_eq_false_iff_not, Decidable.not_not] at c5
    show xEx G0 cdX12_output (some .int) (xRn G0 MT (d + 3)) Q b 10 [some (.inr (.inr 66)), some (.inl 0), some (.inl k), some (.inl e)] [.inr (.inr 66)] h
    refine E_s 5 (i' := 16) (ls' := [some (.inr (.inr 66)), some (.inl 0), some (.inl k), some (.inl e)]) (sk' := [.inl 1]) (h' := (xup h 66 0 1)) rfl ?_
    refine E_b (x := (.ifCond .le 5, 19, [], [])) rfl rfl (fun c16 => ?_) (fun c16 => ?_)
    · show xEx G0 cdX12_output (some .int) (xRn G0 MT (d + 3)) Q b 19 [some (.inr (.inr 66)), some (.inl 0), some (.inl k), some (.inl e)] [] (xup h 66 0 1)
      exact absurd c16 (by decide)
    · show xEx G0 cdX12_output (some .int) (xRn G0 MT (d + 3)) Q b 17 [some (.inr (.inr 66)), some (.inl 0), some (.inl k), some (.inl e)] [] (xup h 66 0 1)
      refine E_s 1 (i' := 18) (ls' := [some (.inr (.inr 66)), some (.inl 0), some (.inl k), some (.inl e)]) (sk' := [.inl 0]) (h' := (xup h 66 0 1)) rfl ?_
      exact E_ret (x := (.ireturn, 0, [], [])) (v := some (.inl 0)) rfl (Or.inl rfl) (hX (by omega))
  · rw [c_eq (by first | assumption | (refine ⟨?_, ?_⟩ <;> omega) | (simp only [xr] at *; omega)) (by first | assumption | (refine ⟨?_, ?_⟩ <;> omega) | (simp only [xr] at *; omega))] at c5
    simp only [decide_eq_true_eq, decide_eq_false_iff_not, Decidable.not_not] at c5
    show xEx G0 cdX12_output (some .int) (xRn G0 MT (d + 3)) Q b 6 [some (.inr (.inr 66)), some (.inl 0), some (.inl k), some (.inl e)] [.inr (.inr 66)] h
    refine E_s 2 (i' := 8) (ls' := [some (.inr (.inr 66)), some (.inl 0), some (.inl k), some (.inl e)]) (sk' := [.inl e, .inr (.inr 66), .inr (.inr 66)]) (h' := h) rfl ?_
    refine E_cp (x := (.invokevirtual 193, 1, [(10, 162)], [0])) (q := fun r2 h9 => ((r2 = 1 ∧ (0 ≤ e ∧ e < h 66 4)) ∨ (r2 = 0 ∧ ¬ (0 ≤ e ∧ e < h 66 4))) ∧ h = h9) rfl rfl (Nat.le_of_ble_eq_true rfl) (m_isExample (d + 1) 0 h e he hn (fun z => ⟨_, rfl, Or.inl ⟨rfl, z⟩, rfl⟩) (fun z => ⟨_, rfl, Or.inr ⟨rfl, z⟩, rfl⟩)) (fun r2 h9 q2 => ?_)
    obtain ⟨q2, rfl⟩ := q2
    show xEx G0 cdX12_output (some .int) (xRn G0 MT (d + 3)) Q b 9 [some (.inr (.inr 66)), some (.inl 0), some (.inl k), some (.inl e)] [.inl r2, .inr (.inr 66)] h
    refine E_b (x := (.ifCond .ne 7, 12, [], [])) rfl rfl (fun c9 => ?_) (fun c9 => ?_)
    · rw [c_ne (by first | assumption | (refine ⟨?_, ?_⟩ <;> omega) | (simp only [xr] at *; omega)) (by first | assumption | (refine ⟨?_, ?_⟩ <;> omega) | (simp only [xr] at *; omega))] at c9
      simp only [decide_eq_true_eq, decide_eq_false_iff_not, Decidable.not_not] at c9
      show xEx G0 cdX12_output (some .int) (xRn G0 MT (d + 3)) Q b 12 [some (.inr (.inr 66)), some (.inl 0), some (.inl k), some (.inl e)] [.inr (.inr 66)] h
      refine E_s 4 (i' := 16) (ls' := [some (.inr (.inr 66)), some (.inl 0), some (.inl k), some (.inl e)]) (sk' := [.inl 0]) (h' := (xup h 66 0 0)) rfl ?_
      refine E_b (x := (.ifCond .le 5, 19, [], [])) rfl rfl (fun c16 => ?_) (fun c16 => ?_)
      · show xEx G0 cdX12_output (some .int) (xRn G0 MT (d + 3)) Q b 19 [some (.inr (.inr 66)), some (.inl 0), some (.inl k), some (.inl e)] [] (xup h 66 0 0)
        refine E_s 1 (i' := 20) (ls' := [some (.inr (.inr 66)), some (.inl 0), some (.inl k), some (.inl e)]) (sk' := [.inl 0]) (h' := (xup h 66 0 0)) rfl ?_
        refine E_b (x := (.ifCond .eq 16, 30, [], [])) rfl rfl (fun c20 => ?_) (fun c20 => ?_)
        · show xEx G0 cdX12_output (some .int) (xRn G0 MT (d + 3)) Q b 30 [some (.inr (.inr 66)), some (.inl 0), some (.inl k), some (.inl e)] [] (xup h 66 0 0)
          refine E_s 7 (i' := 37) (ls' := [some (.inr (.inr 66)), some (.inl 0), some (.inl k), some (.inl e)]) (sk' := [.inl ((12 * k) + e), .inr (.inr 77)]) (h' := (xup h 66 0 0)) rfl ?_
          refine E_ld (x := (.iaload, 0, [], [])) (ty := .int) (n := 3600) rfl rfl rfl (by omega) (by omega) ?_
          show xEx G0 cdX12_output (some .int) (xRn G0 MT (d + 3)) Q b 38 [some (.inr (.inr 66)), some (.inl 0), some (.inl k), some (.inl e)] [.inl (h 77 ((12 * k) + e))] (xup h 66 0 0)
          exact E_ret (x := (.ireturn, 0, [], [])) (v := some (.inl (h 77 ((12 * k) + e)))) rfl (Or.inl rfl) (h1 (by omega))
        · show xEx G0 cdX12_output (some .int) (xRn G0 MT (d + 3)) Q b 21 [some (.inr (.inr 66)), some (.inl 0), some (.inl k), some (.inl e)] [] (xup h 66 0 0)
          exact absurd c20 (by decide)
      · show xEx G0 cdX12_output (some .int) (xRn G0 MT (d + 3)) Q b 17 [some (.inr (.inr 66)), some (.inl 0), some (.inl k), some (.inl e)] [] (xup h 66 0 0)
        exact absurd c16 (by decide)
    · rw [c_ne (by first | assumption | (refine ⟨?_, ?_⟩ <;> omega) | (simp only [xr] at *; omega)) (by first | assumption | (refine ⟨?_, ?_⟩ <;> omega) | (simp only [xr] at *; omega))] at c9
      simp only [decide_eq_true_eq, decide_eq_false_iff_not, Decidable.not_not] at c9
      show xEx G0 cdX12_output (some .int) (xRn G0 MT (d + 3)) Q b 10 [some (.inr (.inr 66)), some (.inl 0), some (.inl k), some (.inl e)] [.inr (.inr 66)] h
      refine E_s 5 (i' := 16) (ls' := [some (.inr (.inr 66)), some (.inl 0), some (.inl k), some (.inl e)]) (sk' := [.inl 1]) (h' := (xup h 66 0 1)) rfl ?_
      refine E_b (x := (.ifCond .le 5, 19, [], [])) rfl rfl (fun c16 => ?_) (fun c16 => ?_)
      · show xEx G0 cdX12_output (some .int) (xRn G0 MT (d + 3)) Q b 19 [some (.inr (.inr 66)), some (.inl 0), some (.inl k), some (.inl e)] [] (xup h 66 0 1)
        exact absurd c16 (by decide)
      · show xEx G0 cdX12_output (some .int) (xRn G0 MT (d + 3)) Q b 17 [some (.inr (.inr 66)), some (.inl 0), some (.inl k), some (.inl e)] [] (xup h 66 0 1)
        refine E_s 1 (i' := 18) (ls' := [some (.inr (.inr 66)), some (.inl 0), some (.inl k), some (.inl e)]) (sk' := [.inl 0]) (h' := (xup h 66 0 1)) rfl ?_
        exact E_ret (x := (.ireturn, 0, [], [])) (v := some (.inl 0)) rfl (Or.inl rfl) (hX (by omega))
set_option maxHeartbeats 1000000 in
theorem CO_output0 (d : Nat) {h : xH} (hI : Inv h) (k e : Int) (hk : xr k) (he : xr e) : CO (d + 6) 2 107 195 [.inl 0, .inl k, .inl e] ["java/util/NoSuchElementException"] h := by
  obtain ⟨b0, b1, -, -, -, -, -, -, b9⟩ := Inv_e hI
  obtain ⟨c1, -, -, -, -, -, m4, -⟩ := Inv_b hI
  have b8 : 0 ≤ h 66 8 ∧ h 66 8 ≤ 300 := by rw [b1]; exact b0
  have c8 : 0 ≤ h 66 4 ∧ h 66 4 ≤ 12 := by rw [m4]; exact c1
  have cc : ∀ u : Int, ((0 ≤ k ∧ k < xup h 112 0 u 66 8) ∧ (0 ≤ e ∧ e < xup h 112 0 u 66 4)) ↔ ((0 ≤ k ∧ k < h 9 9) ∧ (0 ≤ e ∧ e < h 1 2)) := fun u => by show ((0 ≤ k ∧ k < h 66 8) ∧ (0 ≤ e ∧ e < h 66 4)) ↔ _; rw [b1, m4]
  refine o_output0 (d + 1) h k e hk he c1 b0 (fun q u => ?_) (fun q u => ?_)
  · exact m_output0 (d + 2) 0 (xup h 112 0 u) k e hk he c8 b8 (fun z => CO_v hI u ((b9 k q.1.1 q.1.2).2.2.2.2.2.2 e q.2.1 q.2.2).1.symm) (fun z => absurd ((cc u).mpr q) z)
  · exact m_output0 (d + 2) 0 (xup h 112 0 u) k e hk he c8 b8 (fun z => absurd ((cc u).mp z) q) (fun _ => CO_x hI 0 rfl u 0)
set_option maxHeartbeats 1000000 in
theorem o_output1 (d  : Nat) (h : xH) (k e : Int) (hk : xr k) (he : xr e) (hn : 0 ≤ h 1 2 ∧ h 1 2 ≤ 12) (hK1 : 0 ≤ h 28 9 ∧ h 28 9 ≤ 150) {Q : xO → xH → Prop} (h1 : (0 ≤ k ∧ k < h 28 9) ∧ (0 ≤ e ∧ e < h 1 2) → Q (.inl (some (.inl (xand (xshr (h 39 k) e) 1)))) h) (hX : ¬ ((0 ≤ k ∧ k < h 28 9) ∧ (0 ≤ e ∧ e < h 1 2)) → Q (.inr "java/util/NoSuchElementException") h) : xRn G0 MT (d + 5) 2 107 [.inr (.inr 0), .inl 1, .inl k, .inl e] h Q := by
  refine R_of (M := mX11_output) rfl (Nat.le_of_ble_eq_true rfl) ?_
  show xEx G0 cdX11_output (some .int) (xRn G0 MT (d + 4)) Q 2 0 [some (.inr (.inr 0)), some (.inl 1), some (.inl k), some (.inl e), none] [] h
  refine E_s 3 (i' := 3) (ls' := [some (.inr (.inr 0)), some (.inl 1), some (.inl k), some (.inl e), none]) (sk' := [.inl k, .inl 1, .inr (.inr 0)]) (h' := h) rfl ?_
  refine E_cx (x := (.invokevirtual 194, 2, [(9, 143)], [0])) (b1 := 1) (b2 := 1) (v := (some (.inr (.inr 28)))) (q := fun h9 => (0 ≤ k ∧ k < h 28 9) ∧ h = h9) rfl rfl (Nat.le_of_ble_eq_true rfl) (fun z => by cases z) (c_growthWith1 (d + 1) h k hk hK1 (fun z => Or.inl ⟨rfl, z, rfl⟩) (fun z => Or.inr ⟨_, rfl, hX (fun y => z y.1)⟩)) (fun h9 hq9 => ?_)
  obtain ⟨qk, rfl⟩ := hq9
  show xEx G0 cdX11_output (some .int) (xRn G0 MT (d + 4)) Q 1 4 [some (.inr (.inr 0)), some (.inl 1), some (.inl k), some (.inl e), none] [.inr (.inr 28)] h
  refine E_s 3 (i' := 7) (ls' := [some (.inr (.inr 0)), some (.inl 1), some (.inl k), some (.inl e), some (.inr (.inr 28))]) (sk' := [.inl e, .inr (.inr 0)]) (h' := h) rfl ?_
  refine E_cx (x := (.invokevirtual 115, 1, [(9, 145)], [0])) (b1 := 1) (b2 := 0) (v := none) (q := fun h9 => (0 ≤ e ∧ e < h 1 2) ∧ h = h9) rfl rfl (Nat.le_of_ble_eq_true rfl) (fun z => by cases z) (c_refNoExample (d + 3) h e he hn (fun z => Or.inl ⟨rfl, z, rfl⟩) (fun z => Or.inr ⟨_, rfl, hX (fun y => z y.2)⟩)) (fun h9 hq9 => ?_)
  obtain ⟨qe, rfl⟩ := hq9
  show xEx G0 cdX11_output (some .int) (xRn G0 MT (d + 4)) Q 0 8 [some (.inr (.inr 0)), some (.inl 1), some (.inl k), some (.inl e), some (.inr (.inr 28))] [] h
  refine E_s 3 (i' := 11) (ls' := [some (.inr (.inr 0)), some (.inl 1), some (.inl k), some (.inl e), some (.inr (.inr 28))]) (sk' := [.inl e, .inl k, .inr (.inr 28)]) (h' := h) rfl ?_
  refine E_ci (x := (.invokevirtual 210, 2, [(1, 19), (7, 90)], [1])) (r := (xand (xshr (h 39 k) e) 1)) (h' := h) rfl rfl (Nat.le_of_ble_eq_true rfl) (c_outputOnT (d + 3) 0 h k e ⟨by omega, by omega⟩ ⟨rfl, rfl⟩) ?_
  show xEx G0 cdX11_output (some .int) (xRn G0 MT (d + 4)) Q 0 12 [some (.inr (.inr 0)), some (.inl 1), some (.inl k), some (.inl e), some (.inr (.inr 28))] [.inl (xand (xshr (h 39 k) e) 1)] h
  exact E_ret (x := (.ireturn, 0, [], [])) (v := some (.inl (xand (xshr (h 39 k) e) 1))) rfl (Or.inl rfl) (h1 ⟨qk, qe⟩)
set_option maxHeartbeats 1000000 in
theorem m_output1 (d b : Nat) (h : xH) (k e : Int) (hk : xr k) (he : xr e) (hn : 0 ≤ h 66 4 ∧ h 66 4 ≤ 12) (hM1 : 0 ≤ h 66 19 ∧ h 66 19 ≤ 150) {Q : xO → xH → Prop} (h1 : (0 ≤ k ∧ k < h 66 19) ∧ (0 ≤ e ∧ e < h 66 4) → Q (.inl (some (.inl (xand (xshr (h 87 k) e) 1)))) (xup h 66 0 0)) (hX : ¬ ((0 ≤ k ∧ k < h 66 19) ∧ (0 ≤ e ∧ e < h 66 4)) → Q (.inl (some (.inl (0)))) (xup h 66 0 1)) : xRn G0 MT (d + 4) b 195 [.inr (.inr 66), .inl 1, .inl k, .inl e] h Q := by
  refine R_of (M := mX12_output) rfl (Nat.le_of_ble_eq_true rfl) ?_
  show xEx G0 cdX12_output (some .int) (xRn G0 MT (d + 3)) Q b 0 [some (.inr (.inr 66)), some (.inl 1), some (.inl k), some (.inl e)] [] h
  refine E_s 4 (i' := 4) (ls' := [some (.inr (.inr 66)), some (.inl 1), some (.inl k), some (.inl e)]) (sk' := [.inl k, .inl 1, .inr (.inr 66), .inr (.inr 66)]) (h' := h) rfl ?_
  refine E_cp (x := (.invokevirtual 295, 2, [(10, 193)], [0])) (q := fun r1 h9 => ((r1 = 1 ∧ (0 ≤ k ∧ k < h 66 19)) ∨ (r1 = 0 ∧ ¬ (0 ≤ k ∧ k < h 66 19))) ∧ h = h9) rfl rfl (Nat.le_of_ble_eq_true rfl) (m_isKept1 (d + 1) 0 h k hk hM1 (fun z => ⟨_, rfl, Or.inl ⟨rfl, z⟩, rfl⟩) (fun z => ⟨_, rfl, Or.inr ⟨rfl, z⟩, rfl⟩)) (fun r1 h9 q1 => ?_)
  obtain ⟨q1, rfl⟩ := q1
  show xEx G0 cdX12_output (some .int) (xRn G0 MT (d + 3)) Q b 5 [some (.inr (.inr 66)), some (.inl 1), some (.inl k), some (.inl e)] [.inl r1, .inr (.inr 66)] h
  refine E_b (x := (.ifCond .eq 11, 10, [], [])) rfl rfl (fun c5 => ?_) (fun c5 => ?_)
  · rw [c_eq (by first | assumption | (refine ⟨?_, ?_⟩ <;> omega) | (simp only [xr] at *; omega)) (by first | assumption | (refine ⟨?_, ?_⟩ <;> omega) | (simp only [xr] at *; omega))] at c5
    simp only [decide_eq_true_eq, decide_eq_false_iff_not, Decidable.not_not] at c5
    show xEx G0 cdX12_output (some .int) (xRn G0 MT (d + 3)) Q b 10 [some (.inr (.inr 66)), some (.inl 1), some (.inl k), some (.inl e)] [.inr (.inr 66)] h
    refine E_s 5 (i' := 16) (ls' := [some (.inr (.inr 66)), some (.inl 1), some (.inl k), some (.inl e)]) (sk' := [.inl 1]) (h' := (xup h 66 0 1)) rfl ?_
    refine E_b (x := (.ifCond .le 5, 19, [], [])) rfl rfl (fun c16 => ?_) (fun c16 => ?_)
    · show xEx G0 cdX12_output (some .int) (xRn G0 MT (d + 3)) Q b 19 [some (.inr (.inr 66)), some (.inl 1), some (.inl k), some (.inl e)] [] (xup h 66 0 1)
      exact absurd c16 (by decide)
    · show xEx G0 cdX12_output (some .int) (xRn G0 MT (d + 3)) Q b 17 [some (.inr (.inr 66)), some (.inl 1), some (.inl k), some (.inl e)] [] (xup h 66 0 1)
      refine E_s 1 (i' := 18) (ls' := [some (.inr (.inr 66)), some (.inl 1), some (.inl k), some (.inl e)]) (sk' := [.inl 0]) (h' := (xup h 66 0 1)) rfl ?_
      exact E_ret (x := (.ireturn, 0, [], [])) (v := some (.inl 0)) rfl (Or.inl rfl) (hX (by omega))
  · rw [c_eq (by first | assumption | (refine ⟨?_, ?_⟩ <;> omega) | (simp only [xr] at *; omega)) (by first | assumption | (refine ⟨?_, ?_⟩ <;> omega) | (simp only [xr] at *; omega))] at c5
    simp only [decide_eq_true_eq, decide_eq_false_iff_not, Decidable.not_not] at c5
    show xEx G0 cdX12_output (some .int) (xRn G0 MT (d + 3)) Q b 6 [some (.inr (.inr 66)), some (.inl 1), some (.inl k), some (.inl e)] [.inr (.inr 66)] h
    refine E_s 2 (i' := 8) (ls' := [some (.inr (.inr 66)), some (.inl 1), some (.inl k), some (.inl e)]) (sk' := [.inl e, .inr (.inr 66), .inr (.inr 66)]) (h' := h) rfl ?_
    refine E_cp (x := (.invokevirtual 193, 1, [(10, 162)], [0])) (q := fun r2 h9 => ((r2 = 1 ∧ (0 ≤ e ∧ e < h 66 4)) ∨ (r2 = 0 ∧ ¬ (0 ≤ e ∧ e < h 66 4))) ∧ h = h9) rfl rfl (Nat.le_of_ble_eq_true rfl) (m_isExample (d + 1) 0 h e he hn (fun z => ⟨_, rfl, Or.inl ⟨rfl, z⟩, rfl⟩) (fun z => ⟨_, rfl, Or.inr ⟨rfl, z⟩, rfl⟩)) (fun r2 h9 q2 => ?_)
    obtain ⟨q2, rfl⟩ := q2
    show xEx G0 cdX12_output (some .int) (xRn G0 MT (d + 3)) Q b 9 [some (.inr (.inr 66)), some (.inl 1), some (.inl k), some (.inl e)] [.inl r2, .inr (.inr 66)] h
    refine E_b (x := (.ifCond .ne 7, 12, [], [])) rfl rfl (fun c9 => ?_) (fun c9 => ?_)
    · rw [c_ne (by first | assumption | (refine ⟨?_, ?_⟩ <;> omega) | (simp only [xr] at *; omega)) (by first | assumption | (refine ⟨?_, ?_⟩ <;> omega) | (simp only [xr] at *; omega))] at c9
      simp only [decide_eq_true_eq, decide_eq_false_iff_not, Decidable.not_not] at c9
      show xEx G0 cdX12_output (some .int) (xRn G0 MT (d + 3)) Q b 12 [some (.inr (.inr 66)), some (.inl 1), some (.inl k), some (.inl e)] [.inr (.inr 66)] h
      refine E_s 4 (i' := 16) (ls' := [some (.inr (.inr 66)), some (.inl 1), some (.inl k), some (.inl e)]) (sk' := [.inl 0]) (h' := (xup h 66 0 0)) rfl ?_
      refine E_b (x := (.ifCond .le 5, 19, [], [])) rfl rfl (fun c16 => ?_) (fun c16 => ?_)
      · show xEx G0 cdX12_output (some .int) (xRn G0 MT (d + 3)) Q b 19 [some (.inr (.inr 66)), some (.inl 1), some (.inl k), some (.inl e)] [] (xup h 66 0 0)
        refine E_s 1 (i' := 20) (ls' := [some (.inr (.inr 66)), some (.inl 1), some (.inl k), some (.inl e)]) (sk' := [.inl 1]) (h' := (xup h 66 0 0)) rfl ?_
        refine E_b (x := (.ifCond .eq 16, 30, [], [])) rfl rfl (fun c20 => ?_) (fun c20 => ?_)
        · show xEx G0 cdX12_output (some .int) (xRn G0 MT (d + 3)) Q b 30 [some (.inr (.inr 66)), some (.inl 1), some (.inl k), some (.inl e)] [] (xup h 66 0 0)
          exact absurd c20 (by decide)
        · show xEx G0 cdX12_output (some .int) (xRn G0 MT (d + 3)) Q b 21 [some (.inr (.inr 66)), some (.inl 1), some (.inl k), some (.inl e)] [] (xup h 66 0 0)
          refine E_s 3 (i' := 24) (ls' := [some (.inr (.inr 66)), some (.inl 1), some (.inl k), some (.inl e)]) (sk' := [.inl k, .inr (.inr 87)]) (h' := (xup h 66 0 0)) rfl ?_
          refine E_ld (x := (.iaload, 0, [], [])) (ty := .int) (n := 150) rfl rfl rfl (by omega) (by omega) ?_
          show xEx G0 cdX12_output (some .int) (xRn G0 MT (d + 3)) Q b 25 [some (.inr (.inr 66)), some (.inl 1), some (.inl k), some (.inl e)] [.inl (h 87 k)] (xup h 66 0 0)
          refine E_s 5 (i' := 38) (ls' := [some (.inr (.inr 66)), some (.inl 1), some (.inl k), some (.inl e)]) (sk' := [.inl (xand (xshr (h 87 k) e) 1)]) (h' := (xup h 66 0 0)) rfl ?_
          exact E_ret (x := (.ireturn, 0, [], [])) (v := some (.inl (xand (xshr (h 87 k) e) 1))) rfl (Or.inl rfl) (h1 (by omega))
      · show xEx G0 cdX12_output (some .int) (xRn G0 MT (d + 3)) Q b 17 [some (.inr (.inr 66)), some (.inl 1), some (.inl k), some (.inl e)] [] (xup h 66 0 0)
        exact absurd c16 (by decide)
    · rw [c_ne (by first | assumption | (refine ⟨?_, ?_⟩ <;> omega) | (simp only [xr] at *; omega)) (by first | assumption | (refine ⟨?_, ?_⟩ <;> omega) | (simp only [xr] at *; omega))] at c9
      simp only [decide_eq_true_eq, decide_eq_false_iff_not, Decidable.not_not] at c9
      show xEx G0 cdX12_output (some .int) (xRn G0 MT (d + 3)) Q b 10 [some (.inr (.inr 66)), some (.inl 1), some (.inl k), some (.inl e)] [.inr (.inr 66)] h
      refine E_s 5 (i' := 16) (ls' := [some (.inr (.inr 66)), some (.inl 1), some (.inl k), some (.inl e)]) (sk' := [.inl 1]) (h' := (xup h 66 0 1)) rfl ?_
      refine E_b (x := (.ifCond .le 5, 19, [], [])) rfl rfl (fun c16 => ?_) (fun c16 => ?_)
      · show xEx G0 cdX12_output (some .int) (xRn G0 MT (d + 3)) Q b 19 [some (.inr (.inr 66)), some (.inl 1), some (.inl k), some (.inl e)] [] (xup h 66 0 1)
        exact absurd c16 (by decide)
      · show xEx G0 cdX12_output (some .int) (xRn G0 MT (d + 3)) Q b 17 [some (.inr (.inr 66)), some (.inl 1), some (.inl k), some (.inl e)] [] (xup h 66 0 1)
        refine E_s 1 (i' := 18) (ls' := [some (.inr (.inr 66)), some (.inl 1), some (.inl k), some (.inl e)]) (sk' := [.inl 0]) (h' := (xup h 66 0 1)) rfl ?_
        exact E_ret (x := (.ireturn, 0, [], [])) (v := some (.inl 0)) rfl (Or.inl rfl) (hX (by omega))
set_option maxHeartbeats 1000000 in
theorem CO_output1 (d : Nat) {h : xH} (hI : Inv h) (k e : Int) (hk : xr k) (he : xr e) : CO (d + 6) 2 107 195 [.inl 1, .inl k, .inl e] ["java/util/NoSuchElementException"] h := by
  obtain ⟨b0, b1, -, -, -, -, -, -, b9⟩ := Inv_t hI
  obtain ⟨c1, -, -, -, -, -, m4, -⟩ := Inv_b hI
  have b8 : 0 ≤ h 66 19 ∧ h 66 19 ≤ 150 := by rw [b1]; exact b0
  have c8 : 0 ≤ h 66 4 ∧ h 66 4 ≤ 12 := by rw [m4]; exact c1
  have cc : ∀ u : Int, ((0 ≤ k ∧ k < xup h 112 0 u 66 19) ∧ (0 ≤ e ∧ e < xup h 112 0 u 66 4)) ↔ ((0 ≤ k ∧ k < h 28 9) ∧ (0 ≤ e ∧ e < h 1 2)) := fun u => by show ((0 ≤ k ∧ k < h 66 19) ∧ (0 ≤ e ∧ e < h 66 4)) ↔ _; rw [b1, m4]
  refine o_output1 (d + 1) h k e hk he c1 b0 (fun q u => ?_) (fun q u => ?_)
  · exact m_output1 (d + 2) 0 (xup h 112 0 u) k e hk he c8 b8 (fun z => CO_v hI u (by show _ = xand (xshr (h 87 k) e) 1; rw [(b9 k q.1.1 q.1.2).2.2.1])) (fun z => absurd ((cc u).mpr q) z)
  · exact m_output1 (d + 2) 0 (xup h 112 0 u) k e hk he c8 b8 (fun z => absurd ((cc u).mp z) q) (fun _ => CO_x hI 0 rfl u 0)
set_option maxHeartbeats 1000000 in
theorem o_count (d b : Nat) (h : xH) (w : Int) (hw : xr w) (hs : h 56 4 = 0 ∨ h 56 4 = 1) {Q : xO → xH → Prop} (h0 : w = 0 → Q (.inl (some (.inl (h 1 1)))) h) (h1 : w = 1 → Q (.inl (some (.inl (h 1 2)))) h) (h2 : w = 2 → Q (.inl (some (.inl (h 7 1)))) h) (h3 : w = 3 → Q (.inl (some (.inl (h 7 2)))) h) (h4 : w = 4 → Q (.inl (some (.inl (h 0 9)))) h) (h5 : w = 5 → Q (.inl (some (.inl (h 64 1)))) h) (h6 : w = 6 → Q (.inl (some (.inl (h 56 4)))) h) (hX : ¬ (0 ≤ w ∧ w ≤ 6) → Q (.inl (some (.inl (-1)))) h) : xRn G0 MT (d + 1) b 137 [.inr (.inr 0), .inl w] h Q := by
  refine R_of (M := mX11_count) rfl (Nat.le_of_ble_eq_true rfl) ?_
  show xEx G0 cdX11_count (some .int) (xRn G0 MT d) Q b 0 [some (.inr (.inr 0)), some (.inl w)] [] h
  refine E_s 1 (i' := 1) (ls' := [some (.inr (.inr 0)), some (.inl w)]) (sk' := [.inl w]) (h' := h) rfl ?_
  by_cases s1_0 : w = 0
  · refine E_sw (x := (.tableswitch 104 0 6 #[43, 51, 59, 67, 75, 80, 88], 33, [(0, 2), (1, 6), (2, 10), (3, 14), (4, 18), (5, 21), (6, 25)], [])) (t := 2) rfl rfl (by rw [s1_0]; decide +kernel) ?_
    show xEx G0 cdX11_count (some .int) (xRn G0 MT d) Q b 2 [some (.inr (.inr 0)), some (.inl w)] [] h
    refine E_s 3 (i' := 5) (ls' := [some (.inr (.inr 0)), some (.inl w)]) (sk' := [.inl (h 1 1)]) (h' := h) rfl ?_
    exact E_ret (x := (.ireturn, 0, [], [])) (v := some (.inl (h 1 1))) rfl (Or.inl rfl) (h0 s1_0)
  · by_cases s1_1 : w = 1
    · refine E_sw (x := (.tableswitch 104 0 6 #[43, 51, 59, 67, 75, 80, 88], 33, [(0, 2), (1, 6), (2, 10), (3, 14), (4, 18), (5, 21), (6, 25)], [])) (t := 6) rfl rfl (by rw [s1_1]; decide +kernel) ?_
      show xEx G0 cdX11_count (some .int) (xRn G0 MT d) Q b 6 [some (.inr (.inr 0)), some (.inl w)] [] h
      refine E_s 3 (i' := 9) (ls' := [some (.inr (.inr 0)), some (.inl w)]) (sk' := [.inl (h 1 2)]) (h' := h) rfl ?_
      exact E_ret (x := (.ireturn, 0, [], [])) (v := some (.inl (h 1 2))) rfl (Or.inl rfl) (h1 s1_1)
    · by_cases s1_2 : w = 2
      · refine E_sw (x := (.tableswitch 104 0 6 #[43, 51, 59, 67, 75, 80, 88], 33, [(0, 2), (1, 6), (2, 10), (3, 14), (4, 18), (5, 21), (6, 25)], [])) (t := 10) rfl rfl (by rw [s1_2]; decide +kernel) ?_
        show xEx G0 cdX11_count (some .int) (xRn G0 MT d) Q b 10 [some (.inr (.inr 0)), some (.inl w)] [] h
        refine E_s 3 (i' := 13) (ls' := [some (.inr (.inr 0)), some (.inl w)]) (sk' := [.inl (h 7 1)]) (h' := h) rfl ?_
        exact E_ret (x := (.ireturn, 0, [], [])) (v := some (.inl (h 7 1))) rfl (Or.inl rfl) (h2 s1_2)
      · by_cases s1_3 : w = 3
        · refine E_sw (x := (.tableswitch 104 0 6 #[43, 51, 59, 67, 75, 80, 88], 33, [(0, 2), (1, 6), (2, 10), (3, 14), (4, 18), (5, 21), (6, 25)], [])) (t := 14) rfl rfl (by rw [s1_3]; decide +kernel) ?_
          show xEx G0 cdX11_count (some .int) (xRn G0 MT d) Q b 14 [some (.inr (.inr 0)), some (.inl w)] [] h
          refine E_s 3 (i' := 17) (ls' := [some (.inr (.inr 0)), some (.inl w)]) (sk' := [.inl (h 7 2)]) (h' := h) rfl ?_
          exact E_ret (x := (.ireturn, 0, [], [])) (v := some (.inl (h 7 2))) rfl (Or.inl rfl) (h3 s1_3)
        · by_cases s1_4 : w = 4
          · refine E_sw (x := (.tableswitch 104 0 6 #[43, 51, 59, 67, 75, 80, 88], 33, [(0, 2), (1, 6), (2, 10), (3, 14), (4, 18), (5, 21), (6, 25)], [])) (t := 18) rfl rfl (by rw [s1_4]; decide +kernel) ?_
            show xEx G0 cdX11_count (some .int) (xRn G0 MT d) Q b 18 [some (.inr (.inr 0)), some (.inl w)] [] h
            refine E_s 2 (i' := 20) (ls' := [some (.inr (.inr 0)), some (.inl w)]) (sk' := [.inl (h 0 9)]) (h' := h) rfl ?_
            exact E_ret (x := (.ireturn, 0, [], [])) (v := some (.inl (h 0 9))) rfl (Or.inl rfl) (h4 s1_4)
          · by_cases s1_5 : w = 5
            · refine E_sw (x := (.tableswitch 104 0 6 #[43, 51, 59, 67, 75, 80, 88], 33, [(0, 2), (1, 6), (2, 10), (3, 14), (4, 18), (5, 21), (6, 25)], [])) (t := 21) rfl rfl (by rw [s1_5]; decide +kernel) ?_
              show xEx G0 cdX11_count (some .int) (xRn G0 MT d) Q b 21 [some (.inr (.inr 0)), some (.inl w)] [] h
              refine E_s 3 (i' := 24) (ls' := [some (.inr (.inr 0)), some (.inl w)]) (sk' := [.inl (h 64 1)]) (h' := h) rfl ?_
              exact E_ret (x := (.ireturn, 0, [], [])) (v := some (.inl (h 64 1))) rfl (Or.inl rfl) (h5 s1_5)
            · by_cases s1_6 : w = 6
              · refine E_sw (x := (.tableswitch 104 0 6 #[43, 51, 59, 67, 75, 80, 88], 33, [(0, 2), (1, 6), (2, 10), (3, 14), (4, 18), (5, 21), (6, 25)], [])) (t := 25) rfl rfl (by rw [s1_6]; decide +kernel) ?_
                show xEx G0 cdX11_count (some .int) (xRn G0 MT d) Q b 25 [some (.inr (.inr 0)), some (.inl w)] [] h
                refine E_s 3 (i' := 28) (ls' := [some (.inr (.inr 0)), some (.inl w)]) (sk' := [.inl (h 56 4)]) (h' := h) rfl ?_
                refine E_b (x := (.ifCond .eq 7, 31, [], [])) rfl rfl (fun c28 => ?_) (fun c28 => ?_)
                · rw [c_eq (by first | assumption | (refine ⟨?_, ?_⟩ <;> omega) | (simp only [xr] at *; omega)) (by first | assumption | (refine ⟨?_, ?_⟩ <;> omega) | (simp only [xr] at *; omega))] at c28
                  simp only [decide_eq_true_eq, decide_eq_false_iff_not, Decidable.not_not] at c28
                  show xEx G0 cdX11_count (some .int) (xRn G0 MT d) Q b 31 [some (.inr (.inr 0)), some (.inl w)] [] h
                  refine E_s 1 (i' := 32) (ls' := [some (.inr (.inr 0)), some (.inl w)]) (sk' := [.inl 0]) (h' := h) rfl ?_
                  exact E_ret (x := (.ireturn, 0, [], [])) (v := some (.inl 0)) rfl (Or.inl rfl) (by
                    have e9 : h 56 4 = 0 := by omega
                    have r9 := h6 s1_6
                    rw [e9] at r9
                    exact r9)
                · rw [c_eq (by first | assumption | (refine ⟨?_, ?_⟩ <;> omega) | (simp only [xr] at *; omega)) (by first | assumption | (refine ⟨?_, ?_⟩ <;> omega) | (simp only [xr] at *; omega))] at c28
                  simp only [decide_eq_true_eq, decide_eq_false_iff_not, Decidable.not_not] at c28
                  show xEx G0 cdX11_count (some .int) (xRn G0 MT d) Q b 29 [some (.inr (.inr 0)), some (.inl w)] [] h
                  refine E_s 2 (i' := 32) (ls' := [some (.inr (.inr 0)), some (.inl w)]) (sk' := [.inl 1]) (h' := h) rfl ?_
                  exact E_ret (x := (.ireturn, 0, [], [])) (v := some (.inl 1)) rfl (Or.inl rfl) (by
                    have e9 : h 56 4 = 1 := by omega
                    have r9 := h6 s1_6
                    rw [e9] at r9
                    exact r9)
              · refine E_sw (x := (.tableswitch 104 0 6 #[43, 51, 59, 67, 75, 80, 88], 33, [(0, 2), (1, 6), (2, 10), (3, 14), (4, 18), (5, 21), (6, 25)], [])) (t := 33) rfl rfl (by rw [w32_id hw]; simp only [xsw]; rw [if_neg (by omega)]; rw [if_neg (by omega)]; rw [if_neg (by omega)]; rw [if_neg (by omega)]; rw [if_neg (by omega)]; rw [if_neg (by omega)]; rw [if_neg (by omega)]; rfl) ?_
                show xEx G0 cdX11_count (some .int) (xRn G0 MT d) Q b 33 [some (.inr (.inr 0)), some (.inl w)] [] h
                refine E_s 1 (i' := 34) (ls' := [some (.inr (.inr 0)), some (.inl w)]) (sk' := [.inl (-1)]) (h' := h) rfl ?_
                exact E_ret (x := (.ireturn, 0, [], [])) (v := some (.inl (-1))) rfl (Or.inl rfl) (hX (by omega))
set_option maxHeartbeats 1000000 in
theorem m_count (d b : Nat) (h : xH) (w : Int) (hw : xr w) (hs : h 66 50 = 0 ∨ h 66 50 = 1) {Q : xO → xH → Prop} (h0 : w = 0 → Q (.inl (some (.inl (h 66 1)))) (xup h 66 0 0)) (h1 : w = 1 → Q (.inl (some (.inl (h 66 4)))) (xup h 66 0 0)) (h2 : w = 2 → Q (.inl (some (.inl (h 66 6)))) (xup h 66 0 0)) (h3 : w = 3 → Q (.inl (some (.inl (h 66 3)))) (xup h 66 0 0)) (h4 : w = 4 → Q (.inl (some (.inl (h 66 2)))) (xup h 66 0 0)) (h5 : w = 5 → Q (.inl (some (.inl (h 66 45)))) (xup h 66 0 0)) (h6 : w = 6 → Q (.inl (some (.inl (h 66 50)))) (xup h 66 0 0)) (hX : ¬ (0 ≤ w ∧ w ≤ 6) → Q (.inl (some (.inl (-1)))) (xup h 66 0 0)) : xRn G0 MT (d + 1) b 251 [.inr (.inr 66), .inl w] h Q := by
  refine R_of (M := mX12_count) rfl (Nat.le_of_ble_eq_true rfl) ?_
  show xEx G0 cdX12_count (some .int) (xRn G0 MT d) Q b 0 [some (.inr (.inr 66)), some (.inl w)] [] h
  refine E_s 4 (i' := 4) (ls' := [some (.inr (.inr 66)), some (.inl w)]) (sk' := [.inl w]) (h' := (xup h 66 0 0)) rfl ?_
  by_cases s4_0 : w = 0
  · refine E_sw (x := (.tableswitch 85 0 6 #[42, 47, 52, 57, 62, 67, 72], 30, [(0, 5), (1, 8), (2, 11), (3, 14), (4, 17), (5, 20), (6, 23)], [])) (t := 5) rfl rfl (by rw [s4_0]; decide +kernel) ?_
    show xEx G0 cdX12_count (some .int) (xRn G0 MT d) Q b 5 [some (.inr (.inr 66)), some (.inl w)] [] (xup h 66 0 0)
    refine E_s 2 (i' := 7) (ls' := [some (.inr (.inr 66)), some (.inl w)]) (sk' := [.inl (h 66 1)]) (h' := (xup h 66 0 0)) rfl ?_
    exact E_ret (x := (.ireturn, 0, [], [])) (v := some (.inl (h 66 1))) rfl (Or.inl rfl) (h0 s4_0)
  · by_cases s4_1 : w = 1
    · refine E_sw (x := (.tableswitch 85 0 6 #[42, 47, 52, 57, 62, 67, 72], 30, [(0, 5), (1, 8), (2, 11), (3, 14), (4, 17), (5, 20), (6, 23)], [])) (t := 8) rfl rfl (by rw [s4_1]; decide +kernel) ?_
      show xEx G0 cdX12_count (some .int) (xRn G0 MT d) Q b 8 [some (.inr (.inr 66)), some (.inl w)] [] (xup h 66 0 0)
      refine E_s 2 (i' := 10) (ls' := [some (.inr (.inr 66)), some (.inl w)]) (sk' := [.inl (h 66 4)]) (h' := (xup h 66 0 0)) rfl ?_
      exact E_ret (x := (.ireturn, 0, [], [])) (v := some (.inl (h 66 4))) rfl (Or.inl rfl) (h1 s4_1)
    · by_cases s4_2 : w = 2
      · refine E_sw (x := (.tableswitch 85 0 6 #[42, 47, 52, 57, 62, 67, 72], 30, [(0, 5), (1, 8), (2, 11), (3, 14), (4, 17), (5, 20), (6, 23)], [])) (t := 11) rfl rfl (by rw [s4_2]; decide +kernel) ?_
        show xEx G0 cdX12_count (some .int) (xRn G0 MT d) Q b 11 [some (.inr (.inr 66)), some (.inl w)] [] (xup h 66 0 0)
        refine E_s 2 (i' := 13) (ls' := [some (.inr (.inr 66)), some (.inl w)]) (sk' := [.inl (h 66 6)]) (h' := (xup h 66 0 0)) rfl ?_
        exact E_ret (x := (.ireturn, 0, [], [])) (v := some (.inl (h 66 6))) rfl (Or.inl rfl) (h2 s4_2)
      · by_cases s4_3 : w = 3
        · refine E_sw (x := (.tableswitch 85 0 6 #[42, 47, 52, 57, 62, 67, 72], 30, [(0, 5), (1, 8), (2, 11), (3, 14), (4, 17), (5, 20), (6, 23)], [])) (t := 14) rfl rfl (by rw [s4_3]; decide +kernel) ?_
          show xEx G0 cdX12_count (some .int) (xRn G0 MT d) Q b 14 [some (.inr (.inr 66)), some (.inl w)] [] (xup h 66 0 0)
          refine E_s 2 (i' := 16) (ls' := [some (.inr (.inr 66)), some (.inl w)]) (sk' := [.inl (h 66 3)]) (h' := (xup h 66 0 0)) rfl ?_
          exact E_ret (x := (.ireturn, 0, [], [])) (v := some (.inl (h 66 3))) rfl (Or.inl rfl) (h3 s4_3)
        · by_cases s4_4 : w = 4
          · refine E_sw (x := (.tableswitch 85 0 6 #[42, 47, 52, 57, 62, 67, 72], 30, [(0, 5), (1, 8), (2, 11), (3, 14), (4, 17), (5, 20), (6, 23)], [])) (t := 17) rfl rfl (by rw [s4_4]; decide +kernel) ?_
            show xEx G0 cdX12_count (some .int) (xRn G0 MT d) Q b 17 [some (.inr (.inr 66)), some (.inl w)] [] (xup h 66 0 0)
            refine E_s 2 (i' := 19) (ls' := [some (.inr (.inr 66)), some (.inl w)]) (sk' := [.inl (h 66 2)]) (h' := (xup h 66 0 0)) rfl ?_
            exact E_ret (x := (.ireturn, 0, [], [])) (v := some (.inl (h 66 2))) rfl (Or.inl rfl) (h4 s4_4)
          · by_cases s4_5 : w = 5
            · refine E_sw (x := (.tableswitch 85 0 6 #[42, 47, 52, 57, 62, 67, 72], 30, [(0, 5), (1, 8), (2, 11), (3, 14), (4, 17), (5, 20), (6, 23)], [])) (t := 20) rfl rfl (by rw [s4_5]; decide +kernel) ?_
              show xEx G0 cdX12_count (some .int) (xRn G0 MT d) Q b 20 [some (.inr (.inr 66)), some (.inl w)] [] (xup h 66 0 0)
              refine E_s 2 (i' := 22) (ls' := [some (.inr (.inr 66)), some (.inl w)]) (sk' := [.inl (h 66 45)]) (h' := (xup h 66 0 0)) rfl ?_
              exact E_ret (x := (.ireturn, 0, [], [])) (v := some (.inl (h 66 45))) rfl (Or.inl rfl) (h5 s4_5)
            · by_cases s4_6 : w = 6
              · refine E_sw (x := (.tableswitch 85 0 6 #[42, 47, 52, 57, 62, 67, 72], 30, [(0, 5), (1, 8), (2, 11), (3, 14), (4, 17), (5, 20), (6, 23)], [])) (t := 23) rfl rfl (by rw [s4_6]; decide +kernel) ?_
                show xEx G0 cdX12_count (some .int) (xRn G0 MT d) Q b 23 [some (.inr (.inr 66)), some (.inl w)] [] (xup h 66 0 0)
                refine E_s 2 (i' := 25) (ls' := [some (.inr (.inr 66)), some (.inl w)]) (sk' := [.inl (h 66 50)]) (h' := (xup h 66 0 0)) rfl ?_
                refine E_b (x := (.ifCond .eq 7, 28, [], [])) rfl rfl (fun c25 => ?_) (fun c25 => ?_)
                · rw [c_eq (by first | assumption | (refine ⟨?_, ?_⟩ <;> omega) | (simp only [xr] at *; omega)) (by first | assumption | (refine ⟨?_, ?_⟩ <;> omega) | (simp only [xr] at *; omega))] at c25
                  simp only [decide_eq_true_eq, decide_eq_false_iff_not, Decidable.not_not] at c25
                  show xEx G0 cdX12_count (some .int) (xRn G0 MT d) Q b 28 [some (.inr (.inr 66)), some (.inl w)] [] (xup h 66 0 0)
                  refine E_s 1 (i' := 29) (ls' := [some (.inr (.inr 66)), some (.inl w)]) (sk' := [.inl 0]) (h' := (xup h 66 0 0)) rfl ?_
                  exact E_ret (x := (.ireturn, 0, [], [])) (v := some (.inl 0)) rfl (Or.inl rfl) (by
                    have e9 : h 66 50 = 0 := by omega
                    have r9 := h6 s4_6
                    rw [e9] at r9
                    exact r9)
                · rw [c_eq (by first | assumption | (refine ⟨?_, ?_⟩ <;> omega) | (simp only [xr] at *; omega)) (by first | assumption | (refine ⟨?_, ?_⟩ <;> omega) | (simp only [xr] at *; omega))] at c25
                  simp only [decide_eq_true_eq, decide_eq_false_iff_not, Decidable.not_not] at c25
                  show xEx G0 cdX12_count (some .int) (xRn G0 MT d) Q b 26 [some (.inr (.inr 66)), some (.inl w)] [] (xup h 66 0 0)
                  refine E_s 2 (i' := 29) (ls' := [some (.inr (.inr 66)), some (.inl w)]) (sk' := [.inl 1]) (h' := (xup h 66 0 0)) rfl ?_
                  exact E_ret (x := (.ireturn, 0, [], [])) (v := some (.inl 1)) rfl (Or.inl rfl) (by
                    have e9 : h 66 50 = 1 := by omega
                    have r9 := h6 s4_6
                    rw [e9] at r9
                    exact r9)
              · refine E_sw (x := (.tableswitch 85 0 6 #[42, 47, 52, 57, 62, 67, 72], 30, [(0, 5), (1, 8), (2, 11), (3, 14), (4, 17), (5, 20), (6, 23)], [])) (t := 30) rfl rfl (by rw [w32_id hw]; simp only [xsw]; rw [if_neg (by omega)]; rw [if_neg (by omega)]; rw [if_neg (by omega)]; rw [if_neg (by omega)]; rw [if_neg (by omega)]; rw [if_neg (by omega)]; rw [if_neg (by omega)]; rfl) ?_
                show xEx G0 cdX12_count (some .int) (xRn G0 MT d) Q b 30 [some (.inr (.inr 66)), some (.inl w)] [] (xup h 66 0 0)
                refine E_s 1 (i' := 31) (ls' := [some (.inr (.inr 66)), some (.inl w)]) (sk' := [.inl (-1)]) (h' := (xup h 66 0 0)) rfl ?_
                exact E_ret (x := (.ireturn, 0, [], [])) (v := some (.inl (-1))) rfl (Or.inl rfl) (hX (by omega))
set_option maxHeartbeats 1000000 in
theorem CO_count (d : Nat) {h : xH} (hI : Inv h) (w : Int) (hw : xr w) : CO (d + 6) 0 137 251 [.inl w] [] h := by
  obtain ⟨S, T, ib, -, -, ip, -, ix⟩ := id hI
  obtain ⟨c1, c2, c3, c4, c5, c6, m4, m1, m6, m3, m2, tt, kk⟩ := ib
  obtain ⟨p1, p2, -⟩ := ip
  have p3 : h 66 50 = 0 ∨ h 66 50 = 1 := by rw [p2]; exact p1
  have mm := fun u Q => m_count (d + 5) 0 (xup h 112 0 u) w hw p3 (Q := Q)
  refine o_count (d + 5) 0 h w hw p1 (fun q u => ?_) (fun q u => ?_) (fun q u => ?_) (fun q u => ?_) (fun q u => ?_) (fun q u => ?_) (fun q u => ?_) (fun q u => ?_)
  · exact mm u _ (fun z => CO_v hI u m1.symm) (fun z => by omega) (fun z => by omega) (fun z => by omega) (fun z => by omega) (fun z => by omega) (fun z => by omega) (fun z => by omega)
  · exact mm u _ (fun z => by omega) (fun z => CO_v hI u m4.symm) (fun z => by omega) (fun z => by omega) (fun z => by omega) (fun z => by omega) (fun z => by omega) (fun z => by omega)
  · exact mm u _ (fun z => by omega) (fun z => by omega) (fun z => CO_v hI u m6.symm) (fun z => by omega) (fun z => by omega) (fun z => by omega) (fun z => by omega) (fun z => by omega)
  · exact mm u _ (fun z => by omega) (fun z => by omega) (fun z => by omega) (fun z => CO_v hI u m3.symm) (fun z => by omega) (fun z => by omega) (fun z => by omega) (fun z => by omega)
  · exact mm u _ (fun z => by omega) (fun z => by omega) (fun z => by omega) (fun z => by omega) (fun z => CO_v hI u m2.symm) (fun z => by omega) (fun z => by omega) (fun z => by omega)
  · exact mm u _ (fun z => by omega) (fun z => by omega) (fun z => by omega) (fun z => by omega) (fun z => by omega) (fun z => CO_v hI u ix.2.1.symm) (fun z => by omega) (fun z => by omega)
  · exact mm u _ (fun z => by omega) (fun z => by omega) (fun z => by omega) (fun z => by omega) (fun z => by omega) (fun z => by omega) (fun z => CO_v hI u p2.symm) (fun z => by omega)
  · exact mm u _ (fun z => by omega) (fun z => by omega) (fun z => by omega) (fun z => by omega) (fun z => by omega) (fun z => by omega) (fun z => by omega) (fun _ => CO_v hI u rfl)
set_option maxHeartbeats 1000000 in
theorem o_told0 (d  : Nat) (h : xH) (e : Int) (he : xr e) (hn : 0 ≤ h 1 2 ∧ h 1 2 ≤ 12) {Q : xO → xH → Prop} (h1 : 0 ≤ e ∧ e < h 1 2 → Q (.inl (some (.inl (h 3 e)))) h) (hX : ¬ (0 ≤ e ∧ e < h 1 2) → Q (.inr "java/util/NoSuchElementException") h) : xRn G0 MT (d + 6) 2 138 [.inr (.inr 0), .inl e, .inl 0] h Q := by
  refine R_of (M := mX11_told) rfl (Nat.le_of_ble_eq_true rfl) ?_
  show xEx G0 cdX11_told (some .int) (xRn G0 MT (d + 5)) Q 2 0 [some (.inr (.inr 0)), some (.inl e), some (.inl 0)] [] h
  refine E_s 2 (i' := 2) (ls' := [some (.inr (.inr 0)), some (.inl e), some (.inl 0)]) (sk' := [.inl e, .inr (.inr 0)]) (h' := h) rfl ?_
  refine E_cx (x := (.invokevirtual 115, 1, [(9, 145)], [0])) (b1 := 1) (b2 := 1) (v := none) (q := fun h9 => (0 ≤ e ∧ e < h 1 2) ∧ h = h9) rfl rfl (Nat.le_of_ble_eq_true rfl) (fun z => by cases z) (c_refNoExample (d + 4) h e he hn (fun z => Or.inl ⟨rfl, z, rfl⟩) (fun z => Or.inr ⟨_, rfl, hX (by omega)⟩)) (fun h9 hq9 => ?_)
  obtain ⟨qe, rfl⟩ := hq9
  show xEx G0 cdX11_told (some .int) (xRn G0 MT (d + 5)) Q 1 3 [some (.inr (.inr 0)), some (.inl e), some (.inl 0)] [] h
  refine E_s 1 (i' := 4) (ls' := [some (.inr (.inr 0)), some (.inl e), some (.inl 0)]) (sk' := [.inl 0]) (h' := h) rfl ?_
  refine E_b (x := (.ifCond .lt 8, 8, [], [])) rfl rfl (fun c4 => ?_) (fun c4 => ?_)
  · show xEx G0 cdX11_told (some .int) (xRn G0 MT (d + 5)) Q 1 8 [some (.inr (.inr 0)), some (.inl e), some (.inl 0)] [] h
    exact absurd c4 (by decide)
  · show xEx G0 cdX11_told (some .int) (xRn G0 MT (d + 5)) Q 1 5 [some (.inr (.inr 0)), some (.inl e), some (.inl 0)] [] h
    refine E_s 2 (i' := 7) (ls' := [some (.inr (.inr 0)), some (.inl e), some (.inl 0)]) (sk' := [.inl 3, .inl 0]) (h' := h) rfl ?_
    refine E_b (x := (.if_icmp .le 14, 13, [], [])) rfl rfl (fun c7 => ?_) (fun c7 => ?_)
    · show xEx G0 cdX11_told (some .int) (xRn G0 MT (d + 5)) Q 1 13 [some (.inr (.inr 0)), some (.inl e), some (.inl 0)] [] h
      refine E_s 4 (i' := 17) (ls' := [some (.inr (.inr 0)), some (.inl e), some (.inl 0)]) (sk' := [.inl 0, .inr (.inr 2)]) (h' := h) rfl ?_
      refine E_ald (x := (.aaload, 0, [], [])) 0 rfl rfl rfl (rfl) rfl ?_
      show xEx G0 cdX11_told (some .int) (xRn G0 MT (d + 5)) Q 1 18 [some (.inr (.inr 0)), some (.inl e), some (.inl 0)] [.inr (.inr 3)] h
      refine E_s 1 (i' := 19) (ls' := [some (.inr (.inr 0)), some (.inl e), some (.inl 0)]) (sk' := [.inl e, .inr (.inr 3)]) (h' := h) rfl ?_
      refine E_ld (x := (.iaload, 0, [], [])) (ty := .int) (n := 12) rfl rfl rfl (by omega) (by omega) ?_
      show xEx G0 cdX11_told (some .int) (xRn G0 MT (d + 5)) Q 1 20 [some (.inr (.inr 0)), some (.inl e), some (.inl 0)] [.inl (h 3 e)] h
      exact E_ret (x := (.ireturn, 0, [], [])) (v := some (.inl (h 3 e))) rfl (Or.inl rfl) (h1 qe)
    · show xEx G0 cdX11_told (some .int) (xRn G0 MT (d + 5)) Q 1 8 [some (.inr (.inr 0)), some (.inl e), some (.inl 0)] [] h
      exact absurd c7 (by decide)
set_option maxHeartbeats 1000000 in
theorem m_told0 (d b : Nat) (h : xH) (e : Int) (he : xr e) (hn : 0 ≤ h 66 4 ∧ h 66 4 ≤ 12) {Q : xO → xH → Prop} (h1 : 0 ≤ e ∧ e < h 66 4 → Q (.inl (some (.inl (h 67 (4 * e + 0))))) (xup h 66 0 0)) (hX : ¬ (0 ≤ e ∧ e < h 66 4) → Q (.inl (some (.inl (0)))) (xup h 66 0 1)) : xRn G0 MT (d + 6) b 252 [.inr (.inr 66), .inl e, .inl 0] h Q := by
  refine R_of (M := mX12_told) rfl (Nat.le_of_ble_eq_true rfl) ?_
  show xEx G0 cdX12_told (some .int) (xRn G0 MT (d + 5)) Q b 0 [some (.inr (.inr 66)), some (.inl e), some (.inl 0)] [] h
  refine E_s 3 (i' := 3) (ls' := [some (.inr (.inr 66)), some (.inl e), some (.inl 0)]) (sk' := [.inl e, .inr (.inr 66), .inr (.inr 66)]) (h' := h) rfl ?_
  refine E_cp (x := (.invokevirtual 193, 1, [(10, 162)], [0])) (q := fun r1 h9 => ((r1 = 1 ∧ (0 ≤ e ∧ e < h 66 4)) ∨ (r1 = 0 ∧ ¬ (0 ≤ e ∧ e < h 66 4))) ∧ h = h9) rfl rfl (Nat.le_of_ble_eq_true rfl) (m_isExample (d + 3) 0 h e he hn (fun z => ⟨_, rfl, Or.inl ⟨rfl, z⟩, rfl⟩) (fun z => ⟨_, rfl, Or.inr ⟨rfl, z⟩, rfl⟩)) (fun r1 h9 q1 => ?_)
  obtain ⟨q1, rfl⟩ := q1
  show xEx G0 cdX12_told (some .int) (xRn G0 MT (d + 5)) Q b 4 [some (.inr (.inr 66)), some (.inl e), some (.inl 0)] [.inl r1, .inr (.inr 66)] h
  refine E_b (x := (.ifCond .eq 12, 10, [], [])) rfl rfl (fun c4 => ?_) (fun c4 => ?_)
  · rw [c_eq (by first | assumption | (refine ⟨?_, ?_⟩ <;> omega) | (simp only [xr] at *; omega)) (by first | assumption | (refine ⟨?_, ?_⟩ <;> omega) | (simp only [xr] at *; omega))] at c4
    simp only [decide_eq_true_eq, decide_eq_false_iff_not, Decidable.not_not] at c4
    show xEx G0 cdX12_told (some .int) (xRn G0 MT (d + 5)) Q b 10 [some (.inr (.inr 66)), some (.inl e), some (.inl 0)] [.inr (.inr 66)] h
    refine E_s 5 (i' := 16) (ls' := [some (.inr (.inr 66)), some (.inl e), some (.inl 0)]) (sk' := [.inl 1]) (h' := (xup h 66 0 1)) rfl ?_
    refine E_b (x := (.ifCond .le 7, 19, [], [])) rfl rfl (fun c16 => ?_) (fun c16 => ?_)
    · show xEx G0 cdX12_told (some .int) (xRn G0 MT (d + 5)) Q b 19 [some (.inr (.inr 66)), some (.inl e), some (.inl 0)] [] (xup h 66 0 1)
      exact absurd c16 (by decide)
    · show xEx G0 cdX12_told (some .int) (xRn G0 MT (d + 5)) Q b 17 [some (.inr (.inr 66)), some (.inl e), some (.inl 0)] [] (xup h 66 0 1)
      refine E_s 2 (i' := 27) (ls' := [some (.inr (.inr 66)), some (.inl e), some (.inl 0)]) (sk' := [.inl 0]) (h' := (xup h 66 0 1)) rfl ?_
      exact E_ret (x := (.ireturn, 0, [], [])) (v := some (.inl 0)) rfl (Or.inl rfl) (hX (by omega))
  · rw [c_eq (by first | assumption | (refine ⟨?_, ?_⟩ <;> omega) | (simp only [xr] at *; omega)) (by first | assumption | (refine ⟨?_, ?_⟩ <;> omega) | (simp only [xr] at *; omega))] at c4
    simp only [decide_eq_true_eq, decide_eq_false_iff_not, Decidable.not_not] at c4
    show xEx G0 cdX12_told (some .int) (xRn G0 MT (d + 5)) Q b 5 [some (.inr (.inr 66)), some (.inl e), some (.inl 0)] [.inr (.inr 66)] h
    refine E_s 3 (i' := 8) (ls' := [some (.inr (.inr 66)), some (.inl e), some (.inl 0)]) (sk' := [.inl 3, .inl 0, .inl 0, .inr (.inr 66)]) (h' := h) rfl ?_
    refine E_cp (x := (.invokestatic 180, 3, [(0, 155)], [])) (q := fun r2 h9 => ((r2 = 1 ∧ ((0 : Int) ≤ 0 ∧ (0 : Int) ≤ 3)) ∨ (r2 = 0 ∧ ¬ ((0 : Int) ≤ 0 ∧ (0 : Int) ≤ 3))) ∧ h = h9) rfl rfl (Nat.le_of_ble_eq_true rfl) (m_isIn (d + 4) 0 h 0 0 3 ⟨by omega, by omega⟩ ⟨by omega, by omega⟩ ⟨by omega, by omega⟩ (fun z => ⟨_, rfl, Or.inl ⟨rfl, z⟩, rfl⟩) (fun z => ⟨_, rfl, Or.inr ⟨rfl, z⟩, rfl⟩)) (fun r2 h9 q2 => ?_)
    obtain ⟨q2, rfl⟩ := q2
    show xEx G0 cdX12_told (some .int) (xRn G0 MT (d + 5)) Q b 9 [some (.inr (.inr 66)), some (.inl e), some (.inl 0)] [.inl r2, .inr (.inr 66)] h
    refine E_b (x := (.ifCond .ne 7, 12, [], [])) rfl rfl (fun c9 => ?_) (fun c9 => ?_)
    · rw [c_ne (by first | assumption | (refine ⟨?_, ?_⟩ <;> omega) | (simp only [xr] at *; omega)) (by first | assumption | (refine ⟨?_, ?_⟩ <;> omega) | (simp only [xr] at *; omega))] at c9
      simp only [decide_eq_true_eq, decide_eq_false_iff_not, Decidable.not_not] at c9
      show xEx G0 cdX12_told (some .int) (xRn G0 MT (d + 5)) Q b 12 [some (.inr (.inr 66)), some (.inl e), some (.inl 0)] [.inr (.inr 66)] h
      refine E_s 4 (i' := 16) (ls' := [some (.inr (.inr 66)), some (.inl e), some (.inl 0)]) (sk' := [.inl 0]) (h' := (xup h 66 0 0)) rfl ?_
      refine E_b (x := (.ifCond .le 7, 19, [], [])) rfl rfl (fun c16 => ?_) (fun c16 => ?_)
      · show xEx G0 cdX12_told (some .int) (xRn G0 MT (d + 5)) Q b 19 [some (.inr (.inr 66)), some (.inl e), some (.inl 0)] [] (xup h 66 0 0)
        refine E_s 7 (i' := 26) (ls' := [some (.inr (.inr 66)), some (.inl e), some (.inl 0)]) (sk' := [.inl ((4 * e) + 0), .inr (.inr 67)]) (h' := (xup h 66 0 0)) rfl ?_
        refine E_ld (x := (.iaload, 0, [], [])) (ty := .int) (n := 48) rfl rfl rfl (by omega) (by omega) ?_
        show xEx G0 cdX12_told (some .int) (xRn G0 MT (d + 5)) Q b 27 [some (.inr (.inr 66)), some (.inl e), some (.inl 0)] [.inl (h 67 ((4 * e) + 0))] (xup h 66 0 0)
        exact E_ret (x := (.ireturn, 0, [], [])) (v := some (.inl (h 67 ((4 * e) + 0)))) rfl (Or.inl rfl) (h1 (by omega))
      · show xEx G0 cdX12_told (some .int) (xRn G0 MT (d + 5)) Q b 17 [some (.inr (.inr 66)), some (.inl e), some (.inl 0)] [] (xup h 66 0 0)
        exact absurd c16 (by decide)
    · rw [c_ne (by first | assumption | (refine ⟨?_, ?_⟩ <;> omega) | (simp only [xr] at *; omega)) (by first | assumption | (refine ⟨?_, ?_⟩ <;> omega) | (simp only [xr] at *; omega))] at c9
      simp only [decide_eq_true_eq, decide_eq_false_iff_not, Decidable.not_not] at c9
      show xEx G0 cdX12_told (some .int) (xRn G0 MT (d + 5)) Q b 10 [some (.inr (.inr 66)), some (.inl e), some (.inl 0)] [.inr (.inr 66)] h
      refine E_s 5 (i' := 16) (ls' := [some (.inr (.inr 66)), some (.inl e), some (.inl 0)]) (sk' := [.inl 1]) (h' := (xup h 66 0 1)) rfl ?_
      refine E_b (x := (.ifCond .le 7, 19, [], [])) rfl rfl (fun c16 => ?_) (fun c16 => ?_)
      · show xEx G0 cdX12_told (some .int) (xRn G0 MT (d + 5)) Q b 19 [some (.inr (.inr 66)), some (.inl e), some (.inl 0)] [] (xup h 66 0 1)
        exact absurd c16 (by decide)
      · show xEx G0 cdX12_told (some .int) (xRn G0 MT (d + 5)) Q b 17 [some (.inr (.inr 66)), some (.inl e), some (.inl 0)] [] (xup h 66 0 1)
        refine E_s 2 (i' := 27) (ls' := [some (.inr (.inr 66)), some (.inl e), some (.inl 0)]) (sk' := [.inl 0]) (h' := (xup h 66 0 1)) rfl ?_
        exact E_ret (x := (.ireturn, 0, [], [])) (v := some (.inl 0)) rfl (Or.inl rfl) (hX (by omega))
set_option maxHeartbeats 1000000 in
theorem CO_told0 (d : Nat) {h : xH} (hI : Inv h) (e : Int) (he : xr e) : CO (d + 6) 2 138 252 [.inl e, .inl 0] ["java/util/NoSuchElementException"] h := by
  obtain ⟨c1, c2, c3, c4, c5, c6, m4, m1, m6, m3, m2, tt, kk⟩ := Inv_b hI
  have c8 : 0 ≤ h 66 4 ∧ h 66 4 ≤ 12 := by rw [m4]; exact c1
  refine o_told0 d h e he c1 (fun q u => ?_) (fun q u => ?_)
  · exact m_told0 d 0 (xup h 112 0 u) e he c8 (fun z => CO_v hI u (by show _ = h 67 (4 * e + 0); rw [Int.add_zero]; exact (tt e q.1 q.2).1.symm)) (fun z => absurd (show 0 ≤ e ∧ e < h 66 4 by omega) z)
  · exact m_told0 d 0 (xup h 112 0 u) e he c8 (fun z => absurd (show 0 ≤ e ∧ e < h 1 2 by have z : 0 ≤ e ∧ e < h 66 4 := z; omega) q) (fun _ => CO_x hI 0 rfl u 0)
set_option maxHeartbeats 1000000 in
theorem o_told1 (d  : Nat) (h : xH) (e : Int) (he : xr e) (hn : 0 ≤ h 1 2 ∧ h 1 2 ≤ 12) {Q : xO → xH → Prop} (h1 : 0 ≤ e ∧ e < h 1 2 → Q (.inl (some (.inl (h 4 e)))) h) (hX : ¬ (0 ≤ e ∧ e < h 1 2) → Q (.inr "java/util/NoSuchElementException") h) : xRn G0 MT (d + 6) 2 138 [.inr (.inr 0), .inl e, .inl 1] h Q := by
  refine R_of (M := mX11_told) rfl (Nat.le_of_ble_eq_true rfl) ?_
  show xEx G0 cdX11_told (some .int) (xRn G0 MT (d + 5)) Q 2 0 [some (.inr (.inr 0)), some (.inl e), some (.inl 1)] [] h
  refine E_s 2 (i' := 2) (ls' := [some (.inr (.inr 0)), some (.inl e), some (.inl 1)]) (sk' := [.inl e, .inr (.inr 0)]) (h' := h) rfl ?_
  refine E_cx (x := (.invokevirtual 115, 1, [(9, 145)], [0])) (b1 := 1) (b2 := 1) (v := none) (q := fun h9 => (0 ≤ e ∧ e < h 1 2) ∧ h = h9) rfl rfl (Nat.le_of_ble_eq_true rfl) (fun z => by cases z) (c_refNoExample (d + 4) h e he hn (fun z => Or.inl ⟨rfl, z, rfl⟩) (fun z => Or.inr ⟨_, rfl, hX (by omega)⟩)) (fun h9 hq9 => ?_)
  obtain ⟨qe, rfl⟩ := hq9
  show xEx G0 cdX11_told (some .int) (xRn G0 MT (d + 5)) Q 1 3 [some (.inr (.inr 0)), some (.inl e), some (.inl 1)] [] h
  refine E_s 1 (i' := 4) (ls' := [some (.inr (.inr 0)), some (.inl e), some (.inl 1)]) (sk' := [.inl 1]) (h' := h) rfl ?_
  refine E_b (x := (.ifCond .lt 8, 8, [], [])) rfl rfl (fun c4 => ?_) (fun c4 => ?_)
  · show xEx G0 cdX11_told (some .int) (xRn G0 MT (d + 5)) Q 1 8 [some (.inr (.inr 0)), some (.inl e), some (.inl 1)] [] h
    exact absurd c4 (by decide)
  · show xEx G0 cdX11_told (some .int) (xRn G0 MT (d + 5)) Q 1 5 [some (.inr (.inr 0)), some (.inl e), some (.inl 1)] [] h
    refine E_s 2 (i' := 7) (ls' := [some (.inr (.inr 0)), some (.inl e), some (.inl 1)]) (sk' := [.inl 3, .inl 1]) (h' := h) rfl ?_
    refine E_b (x := (.if_icmp .le 14, 13, [], [])) rfl rfl (fun c7 => ?_) (fun c7 => ?_)
    · show xEx G0 cdX11_told (some .int) (xRn G0 MT (d + 5)) Q 1 13 [some (.inr (.inr 0)), some (.inl e), some (.inl 1)] [] h
      refine E_s 4 (i' := 17) (ls' := [some (.inr (.inr 0)), some (.inl e), some (.inl 1)]) (sk' := [.inl 1, .inr (.inr 2)]) (h' := h) rfl ?_
      refine E_ald (x := (.aaload, 0, [], [])) 1 rfl rfl rfl (rfl) rfl ?_
      show xEx G0 cdX11_told (some .int) (xRn G0 MT (d + 5)) Q 1 18 [some (.inr (.inr 0)), some (.inl e), some (.inl 1)] [.inr (.inr 4)] h
      refine E_s 1 (i' := 19) (ls' := [some (.inr (.inr 0)), some (.inl e), some (.inl 1)]) (sk' := [.inl e, .inr (.inr 4)]) (h' := h) rfl ?_
      refine E_ld (x := (.iaload, 0, [], [])) (ty := .int) (n := 12) rfl rfl rfl (by omega) (by omega) ?_
      show xEx G0 cdX11_told (some .int) (xRn G0 MT (d + 5)) Q 1 20 [some (.inr (.inr 0)), some (.inl e), some (.inl 1)] [.inl (h 4 e)] h
      exact E_ret (x := (.ireturn, 0, [], [])) (v := some (.inl (h 4 e))) rfl (Or.inl rfl) (h1 qe)
    · show xEx G0 cdX11_told (some .int) (xRn G0 MT (d + 5)) Q 1 8 [some (.inr (.inr 0)), some (.inl e), some (.inl 1)] [] h
      exact absurd c7 (by decide)
set_option maxHeartbeats 1000000 in
theorem m_told1 (d b : Nat) (h : xH) (e : Int) (he : xr e) (hn : 0 ≤ h 66 4 ∧ h 66 4 ≤ 12) {Q : xO → xH → Prop} (h1 : 0 ≤ e ∧ e < h 66 4 → Q (.inl (some (.inl (h 67 (4 * e + 1))))) (xup h 66 0 0)) (hX : ¬ (0 ≤ e ∧ e < h 66 4) → Q (.inl (some (.inl (0)))) (xup h 66 0 1)) : xRn G0 MT (d + 6) b 252 [.inr (.inr 66), .inl e, .inl 1] h Q := by
  refine R_of (M := mX12_told) rfl (Nat.le_of_ble_eq_true rfl) ?_
  show xEx G0 cdX12_told (some .int) (xRn G0 MT (d + 5)) Q b 0 [some (.inr (.inr 66)), some (.inl e), some (.inl 1)] [] h
  refine E_s 3 (i' := 3) (ls' := [some (.inr (.inr 66)), some (.inl e), some (.inl 1)]) (sk' := [.inl e, .inr (.inr 66), .inr (.inr 66)]) (h' := h) rfl ?_
  refine E_cp (x := (.invokevirtual 193, 1, [(10, 162)], [0])) (q := fun r1 h9 => ((r1 = 1 ∧ (0 ≤ e ∧ e < h 66 4)) ∨ (r1 = 0 ∧ ¬ (0 ≤ e ∧ e < h 66 4))) ∧ h = h9) rfl rfl (Nat.le_of_ble_eq_true rfl) (m_isExample (d + 3) 0 h e he hn (fun z => ⟨_, rfl, Or.inl ⟨rfl, z⟩, rfl⟩) (fun z => ⟨_, rfl, Or.inr ⟨rfl, z⟩, rfl⟩)) (fun r1 h9 q1 => ?_)
  obtain ⟨q1, rfl⟩ := q1
  show xEx G0 cdX12_told (some .int) (xRn G0 MT (d + 5)) Q b 4 [some (.inr (.inr 66)), some (.inl e), some (.inl 1)] [.inl r1, .inr (.inr 66)] h
  refine E_b (x := (.ifCond .eq 12, 10, [], [])) rfl rfl (fun c4 => ?_) (fun c4 => ?_)
  · rw [c_eq (by first | assumption | (refine ⟨?_, ?_⟩ <;> omega) | (simp only [xr] at *; omega)) (by first | assumption | (refine ⟨?_, ?_⟩ <;> omega) | (simp only [xr] at *; omega))] at c4
    simp only [decide_eq_true_eq, decide_eq_false_iff_not, Decidable.not_not] at c4
    show xEx G0 cdX12_told (some .int) (xRn G0 MT (d + 5)) Q b 10 [some (.inr (.inr 66)), some (.inl e), some (.inl 1)] [.inr (.inr 66)] h
    refine E_s 5 (i' := 16) (ls' := [some (.inr (.inr 66)), some (.inl e), some (.inl 1)]) (sk' := [.inl 1]) (h' := (xup h 66 0 1)) rfl ?_
    refine E_b (x := (.ifCond .le 7, 19, [], [])) rfl rfl (fun c16 => ?_) (fun c16 => ?_)
    · show xEx G0 cdX12_told (some .int) (xRn G0 MT (d + 5)) Q b 19 [some (.inr (.inr 66)), some (.inl e), some (.inl 1)] [] (xup h 66 0 1)
      exact absurd c16 (by decide)
    · show xEx G0 cdX12_told (some .int) (xRn G0 MT (d + 5)) Q b 17 [some (.inr (.inr 66)), some (.inl e), some (.inl 1)] [] (xup h 66 0 1)
      refine E_s 2 (i' := 27) (ls' := [some (.inr (.inr 66)), some (.inl e), some (.inl 1)]) (sk' := [.inl 0]) (h' := (xup h 66 0 1)) rfl ?_
      exact E_ret (x := (.ireturn, 0, [], [])) (v := some (.inl 0)) rfl (Or.inl rfl) (hX (by omega))
  · rw [c_eq (by first | assumption | (refine ⟨?_, ?_⟩ <;> omega) | (simp only [xr] at *; omega)) (by first | assumption | (refine ⟨?_, ?_⟩ <;> omega) | (simp only [xr] at *; omega))] at c4
    simp only [decide_eq_true_eq, decide_eq_false_iff_not, Decidable.not_not] at c4
    show xEx G0 cdX12_told (some .int) (xRn G0 MT (d + 5)) Q b 5 [some (.inr (.inr 66)), some (.inl e), some (.inl 1)] [.inr (.inr 66)] h
    refine E_s 3 (i' := 8) (ls' := [some (.inr (.inr 66)), some (.inl e), some (.inl 1)]) (sk' := [.inl 3, .inl 0, .inl 1, .inr (.inr 66)]) (h' := h) rfl ?_
    refine E_cp (x := (.invokestatic 180, 3, [(0, 155)], [])) (q := fun r2 h9 => ((r2 = 1 ∧ ((0 : Int) ≤ 1 ∧ (1 : Int) ≤ 3)) ∨ (r2 = 0 ∧ ¬ ((0 : Int) ≤ 1 ∧ (1 : Int) ≤ 3))) ∧ h = h9) rfl rfl (Nat.le_of_ble_eq_true rfl) (m_isIn (d + 4) 0 h 1 0 3 ⟨by omega, by omega⟩ ⟨by omega, by omega⟩ ⟨by omega, by omega⟩ (fun z => ⟨_, rfl, Or.inl ⟨rfl, z⟩, rfl⟩) (fun z => ⟨_, rfl, Or.inr ⟨rfl, z⟩, rfl⟩)) (fun r2 h9 q2 => ?_)
    obtain ⟨q2, rfl⟩ := q2
    show xEx G0 cdX12_told (some .int) (xRn G0 MT (d + 5)) Q b 9 [some (.inr (.inr 66)), some (.inl e), some (.inl 1)] [.inl r2, .inr (.inr 66)] h
    refine E_b (x := (.ifCond .ne 7, 12, [], [])) rfl rfl (fun c9 => ?_) (fun c9 => ?_)
    · rw [c_ne (by first | assumption | (refine ⟨?_, ?_⟩ <;> omega) | (simp only [xr] at *; omega)) (by first | assumption | (refine ⟨?_, ?_⟩ <;> omega) | (simp only [xr] at *; omega))] at c9
      simp only [decide_eq_true_eq, decide_eq_false_iff_not, Decidable.not_not] at c9
      show xEx G0 cdX12_told (some .int) (xRn G0 MT (d + 5)) Q b 12 [some (.inr (.inr 66)), some (.inl e), some (.inl 1)] [.inr (.inr 66)] h
      refine E_s 4 (i' := 16) (ls' := [some (.inr (.inr 66)), some (.inl e), some (.inl 1)]) (sk' := [.inl 0]) (h' := (xup h 66 0 0)) rfl ?_
      refine E_b (x := (.ifCond .le 7, 19, [], [])) rfl rfl (fun c16 => ?_) (fun c16 => ?_)
      · show xEx G0 cdX12_told (some .int) (xRn G0 MT (d + 5)) Q b 19 [some (.inr (.inr 66)), some (.inl e), some (.inl 1)] [] (xup h 66 0 0)
        refine E_s 7 (i' := 26) (ls' := [some (.inr (.inr 66)), some (.inl e), some (.inl 1)]) (sk' := [.inl ((4 * e) + 1), .inr (.inr 67)]) (h' := (xup h 66 0 0)) rfl ?_
        refine E_ld (x := (.iaload, 0, [], [])) (ty := .int) (n := 48) rfl rfl rfl (by omega) (by omega) ?_
        show xEx G0 cdX12_told (some .int) (xRn G0 MT (d + 5)) Q b 27 [some (.inr (.inr 66)), some (.inl e), some (.inl 1)] [.inl (h 67 ((4 * e) + 1))] (xup h 66 0 0)
        exact E_ret (x := (.ireturn, 0, [], [])) (v := some (.inl (h 67 ((4 * e) + 1)))) rfl (Or.inl rfl) (h1 (by omega))
      · show xEx G0 cdX12_told (some .int) (xRn G0 MT (d + 5)) Q b 17 [some (.inr (.inr 66)), some (.inl e), some (.inl 1)] [] (xup h 66 0 0)
        exact absurd c16 (by decide)
    · rw [c_ne (by first | assumption | (refine ⟨?_, ?_⟩ <;> omega) | (simp only [xr] at *; omega)) (by first | assumption | (refine ⟨?_, ?_⟩ <;> omega) | (simp only [xr] at *; omega))] at c9
      simp only [decide_eq_true_eq, decide_eq_false_iff_not, Decidable.not_not] at c9
      show xEx G0 cdX12_told (some .int) (xRn G0 MT (d + 5)) Q b 10 [some (.inr (.inr 66)), some (.inl e), some (.inl 1)] [.inr (.inr 66)] h
      refine E_s 5 (i' := 16) (ls' := [some (.inr (.inr 66)), some (.inl e), some (.inl 1)]) (sk' := [.inl 1]) (h' := (xup h 66 0 1)) rfl ?_
      refine E_b (x := (.ifCond .le 7, 19, [], [])) rfl rfl (fun c16 => ?_) (fun c16 => ?_)
      · show xEx G0 cdX12_told (some .int) (xRn G0 MT (d + 5)) Q b 19 [some (.inr (.inr 66)), some (.inl e), some (.inl 1)] [] (xup h 66 0 1)
        exact absurd c16 (by decide)
      · show xEx G0 cdX12_told (some .int) (xRn G0 MT (d + 5)) Q b 17 [some (.inr (.inr 66)), some (.inl e), some (.inl 1)] [] (xup h 66 0 1)
        refine E_s 2 (i' := 27) (ls' := [some (.inr (.inr 66)), some (.inl e), some (.inl 1)]) (sk' := [.inl 0]) (h' := (xup h 66 0 1)) rfl ?_
        exact E_ret (x := (.ireturn, 0, [], [])) (v := some (.inl 0)) rfl (Or.inl rfl) (hX (by omega))
set_option maxHeartbeats 1000000 in
theorem CO_told1 (d : Nat) {h : xH} (hI : Inv h) (e : Int) (he : xr e) : CO (d + 6) 2 138 252 [.inl e, .inl 1] ["java/util/NoSuchElementException"] h := by
  obtain ⟨c1, c2, c3, c4, c5, c6, m4, m1, m6, m3, m2, tt, kk⟩ := Inv_b hI
  have c8 : 0 ≤ h 66 4 ∧ h 66 4 ≤ 12 := by rw [m4]; exact c1
  refine o_told1 d h e he c1 (fun q u => ?_) (fun q u => ?_)
  · exact m_told1 d 0 (xup h 112 0 u) e he c8 (fun z => CO_v hI u (by exact (tt e q.1 q.2).2.1.symm)) (fun z => absurd (show 0 ≤ e ∧ e < h 66 4 by omega) z)
  · exact m_told1 d 0 (xup h 112 0 u) e he c8 (fun z => absurd (show 0 ≤ e ∧ e < h 1 2 by have z : 0 ≤ e ∧ e < h 66 4 := z; omega) q) (fun _ => CO_x hI 0 rfl u 0)
set_option maxHeartbeats 1000000 in
theorem o_told2 (d  : Nat) (h : xH) (e : Int) (he : xr e) (hn : 0 ≤ h 1 2 ∧ h 1 2 ≤ 12) {Q : xO → xH → Prop} (h1 : 0 ≤ e ∧ e < h 1 2 → Q (.inl (some (.inl (h 5 e)))) h) (hX : ¬ (0 ≤ e ∧ e < h 1 2) → Q (.inr "java/util/NoSuchElementException") h) : xRn G0 MT (d + 6) 2 138 [.inr (.inr 0), .inl e, .inl 2] h Q := by
  refine R_of (M := mX11_told) rfl (Nat.le_of_ble_eq_true rfl) ?_
  show xEx G0 cdX11_told (some .int) (xRn G0 MT (d + 5)) Q 2 0 [some (.inr (.inr 0)), some (.inl e), some (.inl 2)] [] h
  refine E_s 2 (i' := 2) (ls' := [some (.inr (.inr 0)), some (.inl e), some (.inl 2)]) (sk' := [.inl e, .inr (.inr 0)]) (h' := h) rfl ?_
  refine E_cx (x := (.invokevirtual 115, 1, [(9, 145)], [0])) (b1 := 1) (b2 := 1) (v := none) (q := fun h9 => (0 ≤ e ∧ e < h 1 2) ∧ h = h9) rfl rfl (Nat.le_of_ble_eq_true rfl) (fun z => by cases z) (c_refNoExample (d + 4) h e he hn (fun z => Or.inl ⟨rfl, z, rfl⟩) (fun z => Or.inr ⟨_, rfl, hX (by omega)⟩)) (fun h9 hq9 => ?_)
  obtain ⟨qe, rfl⟩ := hq9
  show xEx G0 cdX11_told (some .int) (xRn G0 MT (d + 5)) Q 1 3 [some (.inr (.inr 0)), some (.inl e), some (.inl 2)] [] h
  refine E_s 1 (i' := 4) (ls' := [some (.inr (.inr 0)), some (.inl e), some (.inl 2)]) (sk' := [.inl 2]) (h' := h) rfl ?_
  refine E_b (x := (.ifCond .lt 8, 8, [], [])) rfl rfl (fun c4 => ?_) (fun c4 => ?_)
  · show xEx G0 cdX11_told (some .int) (xRn G0 MT (d + 5)) Q 1 8 [some (.inr (.inr 0)), some (.inl e), some (.inl 2)] [] h
    exact absurd c4 (by decide)
  · show xEx G0 cdX11_told (some .int) (xRn G0 MT (d + 5)) Q 1 5 [some (.inr (.inr 0)), some (.inl e), some (.inl 2)] [] h
    refine E_s 2 (i' := 7) (ls' := [some (.inr (.inr 0)), some (.inl e), some (.inl 2)]) (sk' := [.inl 3, .inl 2]) (h' := h) rfl ?_
    refine E_b (x := (.if_icmp .le 14, 13, [], [])) rfl rfl (fun c7 => ?_) (fun c7 => ?_)
    · show xEx G0 cdX11_told (some .int) (xRn G0 MT (d + 5)) Q 1 13 [some (.inr (.inr 0)), some (.inl e), some (.inl 2)] [] h
      refine E_s 4 (i' := 17) (ls' := [some (.inr (.inr 0)), some (.inl e), some (.inl 2)]) (sk' := [.inl 2, .inr (.inr 2)]) (h' := h) rfl ?_
      refine E_ald (x := (.aaload, 0, [], [])) 2 rfl rfl rfl (rfl) rfl ?_
      show xEx G0 cdX11_told (some .int) (xRn G0 MT (d + 5)) Q 1 18 [some (.inr (.inr 0)), some (.inl e), some (.inl 2)] [.inr (.inr 5)] h
      refine E_s 1 (i' := 19) (ls' := [some (.inr (.inr 0)), some (.inl e), some (.inl 2)]) (sk' := [.inl e, .inr (.inr 5)]) (h' := h) rfl ?_
      refine E_ld (x := (.iaload, 0, [], [])) (ty := .int) (n := 12) rfl rfl rfl (by omega) (by omega) ?_
      show xEx G0 cdX11_told (some .int) (xRn G0 MT (d + 5)) Q 1 20 [some (.inr (.inr 0)), some (.inl e), some (.inl 2)] [.inl (h 5 e)] h
      exact E_ret (x := (.ireturn, 0, [], [])) (v := some (.inl (h 5 e))) rfl (Or.inl rfl) (h1 qe)
    · show xEx G0 cdX11_told (some .int) (xRn G0 MT (d + 5)) Q 1 8 [some (.inr (.inr 0)), some (.inl e), some (.inl 2)] [] h
      exact absurd c7 (by decide)
set_option maxHeartbeats 1000000 in
theorem m_told2 (d b : Nat) (h : xH) (e : Int) (he : xr e) (hn : 0 ≤ h 66 4 ∧ h 66 4 ≤ 12) {Q : xO → xH → Prop} (h1 : 0 ≤ e ∧ e < h 66 4 → Q (.inl (some (.inl (h 67 (4 * e + 2))))) (xup h 66 0 0)) (hX : ¬ (0 ≤ e ∧ e < h 66 4) → Q (.inl (some (.inl (0)))) (xup h 66 0 1)) : xRn G0 MT (d + 6) b 252 [.inr (.inr 66), .inl e, .inl 2] h Q := by
  refine R_of (M := mX12_told) rfl (Nat.le_of_ble_eq_true rfl) ?_
  show xEx G0 cdX12_told (some .int) (xRn G0 MT (d + 5)) Q b 0 [some (.inr (.inr 66)), some (.inl e), some (.inl 2)] [] h
  refine E_s 3 (i' := 3) (ls' := [some (.inr (.inr 66)), some (.inl e), some (.inl 2)]) (sk' := [.inl e, .inr (.inr 66), .inr (.inr 66)]) (h' := h) rfl ?_
  refine E_cp (x := (.invokevirtual 193, 1, [(10, 162)], [0])) (q := fun r1 h9 => ((r1 = 1 ∧ (0 ≤ e ∧ e < h 66 4)) ∨ (r1 = 0 ∧ ¬ (0 ≤ e ∧ e < h 66 4))) ∧ h = h9) rfl rfl (Nat.le_of_ble_eq_true rfl) (m_isExample (d + 3) 0 h e he hn (fun z => ⟨_, rfl, Or.inl ⟨rfl, z⟩, rfl⟩) (fun z => ⟨_, rfl, Or.inr ⟨rfl, z⟩, rfl⟩)) (fun r1 h9 q1 => ?_)
  obtain ⟨q1, rfl⟩ := q1
  show xEx G0 cdX12_told (some .int) (xRn G0 MT (d + 5)) Q b 4 [some (.inr (.inr 66)), some (.inl e), some (.inl 2)] [.inl r1, .inr (.inr 66)] h
  refine E_b (x := (.ifCond .eq 12, 10, [], [])) rfl rfl (fun c4 => ?_) (fun c4 => ?_)
  · rw [c_eq (by first | assumption | (refine ⟨?_, ?_⟩ <;> omega) | (simp only [xr] at *; omega)) (by first | assumption | (refine ⟨?_, ?_⟩ <;> omega) | (simp only [xr] at *; omega))] at c4
    simp only [decide_eq_true_eq, decide_eq_false_iff_not, Decidable.not_not] at c4
    show xEx G0 cdX12_told (some .int) (xRn G0 MT (d + 5)) Q b 10 [some (.inr (.inr 66)), some (.inl e), some (.inl 2)] [.inr (.inr 66)] h
    refine E_s 5 (i' := 16) (ls' := [some (.inr (.inr 66)), some (.inl e), some (.inl 2)]) (sk' := [.inl 1]) (h' := (xup h 66 0 1)) rfl ?_
    refine E_b (x := (.ifCond .le 7, 19, [], [])) rfl rfl (fun c16 => ?_) (fun c16 => ?_)
    · show xEx G0 cdX12_told (some .int) (xRn G0 MT (d + 5)) Q b 19 [some (.inr (.inr 66)), some (.inl e), some (.inl 2)] [] (xup h 66 0 1)
      exact absurd c16 (by decide)
    · show xEx G0 cdX12_told (some .int) (xRn G0 MT (d + 5)) Q b 17 [some (.inr (.inr 66)), some (.inl e), some (.inl 2)] [] (xup h 66 0 1)
      refine E_s 2 (i' := 27) (ls' := [some (.inr (.inr 66)), some (.inl e), some (.inl 2)]) (sk' := [.inl 0]) (h' := (xup h 66 0 1)) rfl ?_
      exact E_ret (x := (.ireturn, 0, [], [])) (v := some (.inl 0)) rfl (Or.inl rfl) (hX (by omega))
  · rw [c_eq (by first | assumption | (refine ⟨?_, ?_⟩ <;> omega) | (simp only [xr] at *; omega)) (by first | assumption | (refine ⟨?_, ?_⟩ <;> omega) | (simp only [xr] at *; omega))] at c4
    simp only [decide_eq_true_eq, decide_eq_false_iff_not, Decidable.not_not] at c4
    show xEx G0 cdX12_told (some .int) (xRn G0 MT (d + 5)) Q b 5 [some (.inr (.inr 66)), some (.inl e), some (.inl 2)] [.inr (.inr 66)] h
    refine E_s 3 (i' := 8) (ls' := [some (.inr (.inr 66)), some (.inl e), some (.inl 2)]) (sk' := [.inl 3, .inl 0, .inl 2, .inr (.inr 66)]) (h' := h) rfl ?_
    refine E_cp (x := (.invokestatic 180, 3, [(0, 155)], [])) (q := fun r2 h9 => ((r2 = 1 ∧ ((0 : Int) ≤ 2 ∧ (2 : Int) ≤ 3)) ∨ (r2 = 0 ∧ ¬ ((0 : Int) ≤ 2 ∧ (2 : Int) ≤ 3))) ∧ h = h9) rfl rfl (Nat.le_of_ble_eq_true rfl) (m_isIn (d + 4) 0 h 2 0 3 ⟨by omega, by omega⟩ ⟨by omega, by omega⟩ ⟨by omega, by omega⟩ (fun z => ⟨_, rfl, Or.inl ⟨rfl, z⟩, rfl⟩) (fun z => ⟨_, rfl, Or.inr ⟨rfl, z⟩, rfl⟩)) (fun r2 h9 q2 => ?_)
    obtain ⟨q2, rfl⟩ := q2
    show xEx G0 cdX12_told (some .int) (xRn G0 MT (d + 5)) Q b 9 [some (.inr (.inr 66)), some (.inl e), some (.inl 2)] [.inl r2, .inr (.inr 66)] h
    refine E_b (x := (.ifCond .ne 7, 12, [], [])) rfl rfl (fun c9 => ?_) (fun c9 => ?_)
    · rw [c_ne (by first | assumption | (refine ⟨?_, ?_⟩ <;> omega) | (simp only [xr] at *; omega)) (by first | assumption | (refine ⟨?_, ?_⟩ <;> omega) | (simp only [xr] at *; omega))] at c9
      simp only [decide_eq_true_eq, decide_eq_false_iff_not, Decidable.not_not] at c9
      show xEx G0 cdX12_told (some .int) (xRn G0 MT (d + 5)) Q b 12 [some (.inr (.inr 66)), some (.inl e), some (.inl 2)] [.inr (.inr 66)] h
      refine E_s 4 (i' := 16) (ls' := [some (.inr (.inr 66)), some (.inl e), some (.inl 2)]) (sk' := [.inl 0]) (h' := (xup h 66 0 0)) rfl ?_
      refine E_b (x := (.ifCond .le 7, 19, [], [])) rfl rfl (fun c16 => ?_) (fun c16 => ?_)
      · show xEx G0 cdX12_told (some .int) (xRn G0 MT (d + 5)) Q b 19 [some (.inr (.inr 66)), some (.inl e), some (.inl 2)] [] (xup h 66 0 0)
        refine E_s 7 (i' := 26) (ls' := [some (.inr (.inr 66)), some (.inl e), some (.inl 2)]) (sk' := [.inl ((4 * e) + 2), .inr (.inr 67)]) (h' := (xup h 66 0 0)) rfl ?_
        refine E_ld (x := (.iaload, 0, [], [])) (ty := .int) (n := 48) rfl rfl rfl (by omega) (by omega) ?_
        show xEx G0 cdX12_told (some .int) (xRn G0 MT (d + 5)) Q b 27 [some (.inr (.inr 66)), some (.inl e), some (.inl 2)] [.inl (h 67 ((4 * e) + 2))] (xup h 66 0 0)
        exact E_ret (x := (.ireturn, 0, [], [])) (v := some (.inl (h 67 ((4 * e) + 2)))) rfl (Or.inl rfl) (h1 (by omega))
      · show xEx G0 cdX12_told (some .int) (xRn G0 MT (d + 5)) Q b 17 [some (.inr (.inr 66)), some (.inl e), some (.inl 2)] [] (xup h 66 0 0)
        exact absurd c16 (by decide)
    · rw [c_ne (by first | assumption | (refine ⟨?_, ?_⟩ <;> omega) | (simp only [xr] at *; omega)) (by first | assumption | (refine ⟨?_, ?_⟩ <;> omega) | (simp only [xr] at *; omega))] at c9
      simp only [decide_eq_true_eq, decide_eq_false_iff_not, Decidable.not_not] at c9
      show xEx G0 cdX12_told (some .int) (xRn G0 MT (d + 5)) Q b 10 [some (.inr (.inr 66)), some (.inl e), some (.inl 2)] [.inr (.inr 66)] h
      refine E_s 5 (i' := 16) (ls' := [some (.inr (.inr 66)), some (.inl e), some (.inl 2)]) (sk' := [.inl 1]) (h' := (xup h 66 0 1)) rfl ?_
      refine E_b (x := (.ifCond .le 7, 19, [], [])) rfl rfl (fun c16 => ?_) (fun c16 => ?_)
      · show xEx G0 cdX12_told (some .int) (xRn G0 MT (d + 5)) Q b 19 [some (.inr (.inr 66)), some (.inl e), some (.inl 2)] [] (xup h 66 0 1)
        exact absurd c16 (by decide)
      · show xEx G0 cdX12_told (some .int) (xRn G0 MT (d + 5)) Q b 17 [some (.inr (.inr 66)), some (.inl e), some (.inl 2)] [] (xup h 66 0 1)
        refine E_s 2 (i' := 27) (ls' := [some (.inr (.inr 66)), some (.inl e), some (.inl 2)]) (sk' := [.inl 0]) (h' := (xup h 66 0 1)) rfl ?_
        exact E_ret (x := (.ireturn, 0, [], [])) (v := some (.inl 0)) rfl (Or.inl rfl) (hX (by omega))
set_option maxHeartbeats 1000000 in
theorem CO_told2 (d : Nat) {h : xH} (hI : Inv h) (e : Int) (he : xr e) : CO (d + 6) 2 138 252 [.inl e, .inl 2] ["java/util/NoSuchElementException"] h := by
  obtain ⟨c1, c2, c3, c4, c5, c6, m4, m1, m6, m3, m2, tt, kk⟩ := Inv_b hI
  have c8 : 0 ≤ h 66 4 ∧ h 66 4 ≤ 12 := by rw [m4]; exact c1
  refine o_told2 d h e he c1 (fun q u => ?_) (fun q u => ?_)
  · exact m_told2 d 0 (xup h 112 0 u) e he c8 (fun z => CO_v hI u (by exact (tt e q.1 q.2).2.2.1.symm)) (fun z => absurd (show 0 ≤ e ∧ e < h 66 4 by omega) z)
  · exact m_told2 d 0 (xup h 112 0 u) e he c8 (fun z => absurd (show 0 ≤ e ∧ e < h 1 2 by have z : 0 ≤ e ∧ e < h 66 4 := z; omega) q) (fun _ => CO_x hI 0 rfl u 0)
set_option maxHeartbeats 1000000 in
theorem o_told3 (d  : Nat) (h : xH) (e : Int) (he : xr e) (hn : 0 ≤ h 1 2 ∧ h 1 2 ≤ 12) {Q : xO → xH → Prop} (h1 : 0 ≤ e ∧ e < h 1 2 → Q (.inl (some (.inl (h 6 e)))) h) (hX : ¬ (0 ≤ e ∧ e < h 1 2) → Q (.inr "java/util/NoSuchElementException") h) : xRn G0 MT (d + 6) 2 138 [.inr (.inr 0), .inl e, .inl 3] h Q := by
  refine R_of (M := mX11_told) rfl (Nat.le_of_ble_eq_true rfl) ?_
  show xEx G0 cdX11_told (some .int) (xRn G0 MT (d + 5)) Q 2 0 [some (.inr (.inr 0)), some (.inl e), some (.inl 3)] [] h
  refine E_s 2 (i' := 2) (ls' := [some (.inr (.inr 0)), some (.inl e), some (.inl 3)]) (sk' := [.inl e, .inr (.inr 0)]) (h' := h) rfl ?_
  refine E_cx (x := (.invokevirtual 115, 1, [(9, 145)], [0])) (b1 := 1) (b2 := 1) (v := none) (q := fun h9 => (0 ≤ e ∧ e < h 1 2) ∧ h = h9) rfl rfl (Nat.le_of_ble_eq_true rfl) (fun z => by cases z) (c_refNoExample (d + 4) h e he hn (fun z => Or.inl ⟨rfl, z, rfl⟩) (fun z => Or.inr ⟨_, rfl, hX (by omega)⟩)) (fun h9 hq9 => ?_)
  obtain ⟨qe, rfl⟩ := hq9
  show xEx G0 cdX11_told (some .int) (xRn G0 MT (d + 5)) Q 1 3 [some (.inr (.inr 0)), some (.inl e), some (.inl 3)] [] h
  refine E_s 1 (i' := 4) (ls' := [some (.inr (.inr 0)), some (.inl e), some (.inl 3)]) (sk' := [.inl 3]) (h' := h) rfl ?_
  refine E_b (x := (.ifCond .lt 8, 8, [], [])) rfl rfl (fun c4 => ?_) (fun c4 => ?_)
  · show xEx G0 cdX11_told (some .int) (xRn G0 MT (d + 5)) Q 1 8 [some (.inr (.inr 0)), some (.inl e), some (.inl 3)] [] h
    exact absurd c4 (by decide)
  · show xEx G0 cdX11_told (some .int) (xRn G0 MT (d + 5)) Q 1 5 [some (.inr (.inr 0)), some (.inl e), some (.inl 3)] [] h
    refine E_s 2 (i' := 7) (ls' := [some (.inr (.inr 0)), some (.inl e), some (.inl 3)]) (sk' := [.inl 3, .inl 3]) (h' := h) rfl ?_
    refine E_b (x := (.if_icmp .le 14, 13, [], [])) rfl rfl (fun c7 => ?_) (fun c7 => ?_)
    · show xEx G0 cdX11_told (some .int) (xRn G0 MT (d + 5)) Q 1 13 [some (.inr (.inr 0)), some (.inl e), some (.inl 3)] [] h
      refine E_s 4 (i' := 17) (ls' := [some (.inr (.inr 0)), some (.inl e), some (.inl 3)]) (sk' := [.inl 3, .inr (.inr 2)]) (h' := h) rfl ?_
      refine E_ald (x := (.aaload, 0, [], [])) 3 rfl rfl rfl (rfl) rfl ?_
      show xEx G0 cdX11_told (some .int) (xRn G0 MT (d + 5)) Q 1 18 [some (.inr (.inr 0)), some (.inl e), some (.inl 3)] [.inr (.inr 6)] h
      refine E_s 1 (i' := 19) (ls' := [some (.inr (.inr 0)), some (.inl e), some (.inl 3)]) (sk' := [.inl e, .inr (.inr 6)]) (h' := h) rfl ?_
      refine E_ld (x := (.iaload, 0, [], [])) (ty := .int) (n := 12) rfl rfl rfl (by omega) (by omega) ?_
      show xEx G0 cdX11_told (some .int) (xRn G0 MT (d + 5)) Q 1 20 [some (.inr (.inr 0)), some (.inl e), some (.inl 3)] [.inl (h 6 e)] h
      exact E_ret (x := (.ireturn, 0, [], [])) (v := some (.inl (h 6 e))) rfl (Or.inl rfl) (h1 qe)
    · show xEx G0 cdX11_told (some .int) (xRn G0 MT (d + 5)) Q 1 8 [some (.inr (.inr 0)), some (.inl e), some (.inl 3)] [] h
      exact absurd c7 (by decide)
set_option maxHeartbeats 1000000 in
theorem m_told3 (d b : Nat) (h : xH) (e : Int) (he : xr e) (hn : 0 ≤ h 66 4 ∧ h 66 4 ≤ 12) {Q : xO → xH → Prop} (h1 : 0 ≤ e ∧ e < h 66 4 → Q (.inl (some (.inl (h 67 (4 * e + 3))))) (xup h 66 0 0)) (hX : ¬ (0 ≤ e ∧ e < h 66 4) → Q (.inl (some (.inl (0)))) (xup h 66 0 1)) : xRn G0 MT (d + 6) b 252 [.inr (.inr 66), .inl e, .inl 3] h Q := by
  refine R_of (M := mX12_told) rfl (Nat.le_of_ble_eq_true rfl) ?_
  show xEx G0 cdX12_told (some .int) (xRn G0 MT (d + 5)) Q b 0 [some (.inr (.inr 66)), some (.inl e), some (.inl 3)] [] h
  refine E_s 3 (i' := 3) (ls' := [some (.inr (.inr 66)), some (.inl e), some (.inl 3)]) (sk' := [.inl e, .inr (.inr 66), .inr (.inr 66)]) (h' := h) rfl ?_
  refine E_cp (x := (.invokevirtual 193, 1, [(10, 162)], [0])) (q := fun r1 h9 => ((r1 = 1 ∧ (0 ≤ e ∧ e < h 66 4)) ∨ (r1 = 0 ∧ ¬ (0 ≤ e ∧ e < h 66 4))) ∧ h = h9) rfl rfl (Nat.le_of_ble_eq_true rfl) (m_isExample (d + 3) 0 h e he hn (fun z => ⟨_, rfl, Or.inl ⟨rfl, z⟩, rfl⟩) (fun z => ⟨_, rfl, Or.inr ⟨rfl, z⟩, rfl⟩)) (fun r1 h9 q1 => ?_)
  obtain ⟨q1, rfl⟩ := q1
  show xEx G0 cdX12_told (some .int) (xRn G0 MT (d + 5)) Q b 4 [some (.inr (.inr 66)), some (.inl e), some (.inl 3)] [.inl r1, .inr (.inr 66)] h
  refine E_b (x := (.ifCond .eq 12, 10, [], [])) rfl rfl (fun c4 => ?_) (fun c4 => ?_)
  · rw [c_eq (by first | assumption | (refine ⟨?_, ?_⟩ <;> omega) | (simp only [xr] at *; omega)) (by first | assumption | (refine ⟨?_, ?_⟩ <;> omega) | (simp only [xr] at *; omega))] at c4
    simp only [decide_eq_true_eq, decide_eq_false_iff_not, Decidable.not_not] at c4
    show xEx G0 cdX12_told (some .int) (xRn G0 MT (d + 5)) Q b 10 [some (.inr (.inr 66)), some (.inl e), some (.inl 3)] [.inr (.inr 66)] h
    refine E_s 5 (i' := 16) (ls' := [some (.inr (.inr 66)), some (.inl e), some (.inl 3)]) (sk' := [.inl 1]) (h' := (xup h 66 0 1)) rfl ?_
    refine E_b (x := (.ifCond .le 7, 19, [], [])) rfl rfl (fun c16 => ?_) (fun c16 => ?_)
    · show xEx G0 cdX12_told (some .int) (xRn G0 MT (d + 5)) Q b 19 [some (.inr (.inr 66)), some (.inl e), some (.inl 3)] [] (xup h 66 0 1)
      exact absurd c16 (by decide)
    · show xEx G0 cdX12_told (some .int) (xRn G0 MT (d + 5)) Q b 17 [some (.inr (.inr 66)), some (.inl e), some (.inl 3)] [] (xup h 66 0 1)
      refine E_s 2 (i' := 27) (ls' := [some (.inr (.inr 66)), some (.inl e), some (.inl 3)]) (sk' := [.inl 0]) (h' := (xup h 66 0 1)) rfl ?_
      exact E_ret (x := (.ireturn, 0, [], [])) (v := some (.inl 0)) rfl (Or.inl rfl) (hX (by omega))
  · rw [c_eq (by first | assumption | (refine ⟨?_, ?_⟩ <;> omega) | (simp only [xr] at *; omega)) (by first | assumption | (refine ⟨?_, ?_⟩ <;> omega) | (simp only [xr] at *; omega))] at c4
    simp only [decide_eq_true_eq, decide_eq_false_iff_not, Decidable.not_not] at c4
    show xEx G0 cdX12_told (some .int) (xRn G0 MT (d + 5)) Q b 5 [some (.inr (.inr 66)), some (.inl e), some (.inl 3)] [.inr (.inr 66)] h
    refine E_s 3 (i' := 8) (ls' := [some (.inr (.inr 66)), some (.inl e), some (.inl 3)]) (sk' := [.inl 3, .inl 0, .inl 3, .inr (.inr 66)]) (h' := h) rfl ?_
    refine E_cp (x := (.invokestatic 180, 3, [(0, 155)], [])) (q := fun r2 h9 => ((r2 = 1 ∧ ((0 : Int) ≤ 3 ∧ (3 : Int) ≤ 3)) ∨ (r2 = 0 ∧ ¬ ((0 : Int) ≤ 3 ∧ (3 : Int) ≤ 3))) ∧ h = h9) rfl rfl (Nat.le_of_ble_eq_true rfl) (m_isIn (d + 4) 0 h 3 0 3 ⟨by omega, by omega⟩ ⟨by omega, by omega⟩ ⟨by omega, by omega⟩ (fun z => ⟨_, rfl, Or.inl ⟨rfl, z⟩, rfl⟩) (fun z => ⟨_, rfl, Or.inr ⟨rfl, z⟩, rfl⟩)) (fun r2 h9 q2 => ?_)
    obtain ⟨q2, rfl⟩ := q2
    show xEx G0 cdX12_told (some .int) (xRn G0 MT (d + 5)) Q b 9 [some (.inr (.inr 66)), some (.inl e), some (.inl 3)] [.inl r2, .inr (.inr 66)] h
    refine E_b (x := (.ifCond .ne 7, 12, [], [])) rfl rfl (fun c9 => ?_) (fun c9 => ?_)
    · rw [c_ne (by first | assumption | (refine ⟨?_, ?_⟩ <;> omega) | (simp only [xr] at *; omega)) (by first | assumption | (refine ⟨?_, ?_⟩ <;> omega) | (simp only [xr] at *; omega))] at c9
      simp only [decide_eq_true_eq, decide_eq_false_iff_not, Decidable.not_not] at c9
      show xEx G0 cdX12_told (some .int) (xRn G0 MT (d + 5)) Q b 12 [some (.inr (.inr 66)), some (.inl e), some (.inl 3)] [.inr (.inr 66)] h
      refine E_s 4 (i' := 16) (ls' := [some (.inr (.inr 66)), some (.inl e), some (.inl 3)]) (sk' := [.inl 0]) (h' := (xup h 66 0 0)) rfl ?_
      refine E_b (x := (.ifCond .le 7, 19, [], [])) rfl rfl (fun c16 => ?_) (fun c16 => ?_)
      · show xEx G0 cdX12_told (some .int) (xRn G0 MT (d + 5)) Q b 19 [some (.inr (.inr 66)), some (.inl e), some (.inl 3)] [] (xup h 66 0 0)
        refine E_s 7 (i' := 26) (ls' := [some (.inr (.inr 66)), some (.inl e), some (.inl 3)]) (sk' := [.inl ((4 * e) + 3), .inr (.inr 67)]) (h' := (xup h 66 0 0)) rfl ?_
        refine E_ld (x := (.iaload, 0, [], [])) (ty := .int) (n := 48) rfl rfl rfl (by omega) (by omega) ?_
        show xEx G0 cdX12_told (some .int) (xRn G0 MT (d + 5)) Q b 27 [some (.inr (.inr 66)), some (.inl e), some (.inl 3)] [.inl (h 67 ((4 * e) + 3))] (xup h 66 0 0)
        exact E_ret (x := (.ireturn, 0, [], [])) (v := some (.inl (h 67 ((4 * e) + 3)))) rfl (Or.inl rfl) (h1 (by omega))
      · show xEx G0 cdX12_told (some .int) (xRn G0 MT (d + 5)) Q b 17 [some (.inr (.inr 66)), some (.inl e), some (.inl 3)] [] (xup h 66 0 0)
        exact absurd c16 (by decide)
    · rw [c_ne (by first | assumption | (refine ⟨?_, ?_⟩ <;> omega) | (simp only [xr] at *; omega)) (by first | assumption | (refine ⟨?_, ?_⟩ <;> omega) | (simp only [xr] at *; omega))] at c9
      simp only [decide_eq_true_eq, decide_eq_false_iff_not, Decidable.not_not] at c9
      show xEx G0 cdX12_told (some .int) (xRn G0 MT (d + 5)) Q b 10 [some (.inr (.inr 66)), some (.inl e), some (.inl 3)] [.inr (.inr 66)] h
      refine E_s 5 (i' := 16) (ls' := [some (.inr (.inr 66)), some (.inl e), some (.inl 3)]) (sk' := [.inl 1]) (h' := (xup h 66 0 1)) rfl ?_
      refine E_b (x := (.ifCond .le 7, 19, [], [])) rfl rfl (fun c16 => ?_) (fun c16 => ?_)
      · show xEx G0 cdX12_told (some .int) (xRn G0 MT (d + 5)) Q b 19 [some (.inr (.inr 66)), some (.inl e), some (.inl 3)] [] (xup h 66 0 1)
        exact absurd c16 (by decide)
      · show xEx G0 cdX12_told (some .int) (xRn G0 MT (d + 5)) Q b 17 [some (.inr (.inr 66)), some (.inl e), some (.inl 3)] [] (xup h 66 0 1)
        refine E_s 2 (i' := 27) (ls' := [some (.inr (.inr 66)), some (.inl e), some (.inl 3)]) (sk' := [.inl 0]) (h' := (xup h 66 0 1)) rfl ?_
        exact E_ret (x := (.ireturn, 0, [], [])) (v := some (.inl 0)) rfl (Or.inl rfl) (hX (by omega))
set_option maxHeartbeats 1000000 in
theorem CO_told3 (d : Nat) {h : xH} (hI : Inv h) (e : Int) (he : xr e) : CO (d + 6) 2 138 252 [.inl e, .inl 3] ["java/util/NoSuchElementException"] h := by
  obtain ⟨c1, c2, c3, c4, c5, c6, m4, m1, m6, m3, m2, tt, kk⟩ := Inv_b hI
  have c8 : 0 ≤ h 66 4 ∧ h 66 4 ≤ 12 := by rw [m4]; exact c1
  refine o_told3 d h e he c1 (fun q u => ?_) (fun q u => ?_)
  · exact m_told3 d 0 (xup h 112 0 u) e he c8 (fun z => CO_v hI u (by exact (tt e q.1 q.2).2.2.2.symm)) (fun z => absurd (show 0 ≤ e ∧ e < h 66 4 by omega) z)
  · exact m_told3 d 0 (xup h 112 0 u) e he c8 (fun z => absurd (show 0 ≤ e ∧ e < h 1 2 by have z : 0 ≤ e ∧ e < h 66 4 := z; omega) q) (fun _ => CO_x hI 0 rfl u 0)
set_option maxHeartbeats 1000000 in
theorem o_toldX (d  : Nat) (h : xH) (e w : Int) (he : xr e) (hw : xr w) (hb : ¬ (0 ≤ w ∧ w ≤ 3)) (hn : 0 ≤ h 1 2 ∧ h 1 2 ≤ 12) {Q : xO → xH → Prop} (hX : Q (.inr "java/util/NoSuchElementException") h) : xRn G0 MT (d + 6) 2 138 [.inr (.inr 0), .inl e, .inl w] h Q := by
  refine R_of (M := mX11_told) rfl (Nat.le_of_ble_eq_true rfl) ?_
  show xEx G0 cdX11_told (some .int) (xRn G0 MT (d + 5)) Q 2 0 [some (.inr (.inr 0)), some (.inl e), some (.inl w)] [] h
  refine E_s 2 (i' := 2) (ls' := [some (.inr (.inr 0)), some (.inl e), some (.inl w)]) (sk' := [.inl e, .inr (.inr 0)]) (h' := h) rfl ?_
  refine E_cx (x := (.invokevirtual 115, 1, [(9, 145)], [0])) (b1 := 1) (b2 := 1) (v := none) (q := fun h9 => (0 ≤ e ∧ e < h 1 2) ∧ h = h9) rfl rfl (Nat.le_of_ble_eq_true rfl) (fun z => by cases z) (c_refNoExample (d + 4) h e he hn (fun z => Or.inl ⟨rfl, z, rfl⟩) (fun z => Or.inr ⟨_, rfl, hX⟩)) (fun h9 hq9 => ?_)
  obtain ⟨qe, rfl⟩ := hq9
  show xEx G0 cdX11_told (some .int) (xRn G0 MT (d + 5)) Q 1 3 [some (.inr (.inr 0)), some (.inl e), some (.inl w)] [] h
  refine E_s 1 (i' := 4) (ls' := [some (.inr (.inr 0)), some (.inl e), some (.inl w)]) (sk' := [.inl w]) (h' := h) rfl ?_
  refine E_b (x := (.ifCond .lt 8, 8, [], [])) rfl rfl (fun c4 => ?_) (fun c4 => ?_)
  · rw [c_lt (by first | assumption | (refine ⟨?_, ?_⟩ <;> omega) | (simp only [xr] at *; omega)) (by first | assumption | (refine ⟨?_, ?_⟩ <;> omega) | (simp only [xr] at *; omega))] at c4
    simp only [decide_eq_true_eq, decide_eq_false_iff_not, Decidable.not_not] at c4
    show xEx G0 cdX11_told (some .int) (xRn G0 MT (d + 5)) Q 1 8 [some (.inr (.inr 0)), some (.inl e), some (.inl w)] [] h
    exact E_thr (x := (.new 189, 0, [(2, 1)], [])) rfl rfl rfl (Nat.le_of_ble_eq_true rfl) (by exact hX)
  · rw [c_lt (by first | assumption | (refine ⟨?_, ?_⟩ <;> omega) | (simp only [xr] at *; omega)) (by first | assumption | (refine ⟨?_, ?_⟩ <;> omega) | (simp only [xr] at *; omega))] at c4
    simp only [decide_eq_true_eq, decide_eq_false_iff_not, Decidable.not_not] at c4
    show xEx G0 cdX11_told (some .int) (xRn G0 MT (d + 5)) Q 1 5 [some (.inr (.inr 0)), some (.inl e), some (.inl w)] [] h
    refine E_s 2 (i' := 7) (ls' := [some (.inr (.inr 0)), some (.inl e), some (.inl w)]) (sk' := [.inl 3, .inl w]) (h' := h) rfl ?_
    refine E_b (x := (.if_icmp .le 14, 13, [], [])) rfl rfl (fun c7 => ?_) (fun c7 => ?_)
    · rw [c_le (by first | assumption | (refine ⟨?_, ?_⟩ <;> omega) | (simp only [xr] at *; omega)) (by first | assumption | (refine ⟨?_, ?_⟩ <;> omega) | (simp only [xr] at *; omega))] at c7
      simp only [decide_eq_true_eq, decide_eq_false_iff_not, Decidable.not_not] at c7
      show xEx G0 cdX11_told (some .int) (xRn G0 MT (d + 5)) Q 1 13 [some (.inr (.inr 0)), some (.inl e), some (.inl w)] [] h
      omega
    · rw [c_le (by first | assumption | (refine ⟨?_, ?_⟩ <;> omega) | (simp only [xr] at *; omega)) (by first | assumption | (refine ⟨?_, ?_⟩ <;> omega) | (simp only [xr] at *; omega))] at c7
      simp only [decide_eq_true_eq, decide_eq_false_iff_not, Decidable.not_not] at c7
      show xEx G0 cdX11_told (some .int) (xRn G0 MT (d + 5)) Q 1 8 [some (.inr (.inr 0)), some (.inl e), some (.inl w)] [] h
      exact E_thr (x := (.new 189, 0, [(2, 1)], [])) rfl rfl rfl (Nat.le_of_ble_eq_true rfl) (by exact hX)
set_option maxHeartbeats 1000000 in
theorem m_toldX (d b : Nat) (h : xH) (e w : Int) (he : xr e) (hw : xr w) (hb : ¬ (0 ≤ w ∧ w ≤ 3)) (hn : 0 ≤ h 66 4 ∧ h 66 4 ≤ 12) {Q : xO → xH → Prop} (hX : Q (.inl (some (.inl (0)))) (xup h 66 0 1)) : xRn G0 MT (d + 6) b 252 [.inr (.inr 66), .inl e, .inl w] h Q := by
  refine R_of (M := mX12_told) rfl (Nat.le_of_ble_eq_true rfl) ?_
  show xEx G0 cdX12_told (some .int) (xRn G0 MT (d + 5)) Q b 0 [some (.inr (.inr 66)), some (.inl e), some (.inl w)] [] h
  refine E_s 3 (i' := 3) (ls' := [some (.inr (.inr 66)), some (.inl e), some (.inl w)]) (sk' := [.inl e, .inr (.inr 66), .inr (.inr 66)]) (h' := h) rfl ?_
  refine E_cp (x := (.invokevirtual 193, 1, [(10, 162)], [0])) (q := fun r1 h9 => ((r1 = 1 ∧ (0 ≤ e ∧ e < h 66 4)) ∨ (r1 = 0 ∧ ¬ (0 ≤ e ∧ e < h 66 4))) ∧ h = h9) rfl rfl (Nat.le_of_ble_eq_true rfl) (m_isExample (d + 3) 0 h e he hn (fun z => ⟨_, rfl, Or.inl ⟨rfl, z⟩, rfl⟩) (fun z => ⟨_, rfl, Or.inr ⟨rfl, z⟩, rfl⟩)) (fun r1 h9 q1 => ?_)
  obtain ⟨q1, rfl⟩ := q1
  show xEx G0 cdX12_told (some .int) (xRn G0 MT (d + 5)) Q b 4 [some (.inr (.inr 66)), some (.inl e), some (.inl w)] [.inl r1, .inr (.inr 66)] h
  refine E_b (x := (.ifCond .eq 12, 10, [], [])) rfl rfl (fun c4 => ?_) (fun c4 => ?_)
  · rw [c_eq (by first | assumption | (refine ⟨?_, ?_⟩ <;> omega) | (simp only [xr] at *; omega)) (by first | assumption | (refine ⟨?_, ?_⟩ <;> omega) | (simp only [xr] at *; omega))] at c4
    simp only [decide_eq_true_eq, decide_eq_false_iff_not, Decidable.not_not] at c4
    show xEx G0 cdX12_told (some .int) (xRn G0 MT (d + 5)) Q b 10 [some (.inr (.inr 66)), some (.inl e), some (.inl w)] [.inr (.inr 66)] h
    refine E_s 5 (i' := 16) (ls' := [some (.inr (.inr 66)), some (.inl e), some (.inl w)]) (sk' := [.inl 1]) (h' := (xup h 66 0 1)) rfl ?_
    refine E_b (x := (.ifCond .le 7, 19, [], [])) rfl rfl (fun c16 => ?_) (fun c16 => ?_)
    · show xEx G0 cdX12_told (some .int) (xRn G0 MT (d + 5)) Q b 19 [some (.inr (.inr 66)), some (.inl e), some (.inl w)] [] (xup h 66 0 1)
      exact absurd c16 (by decide)
    · show xEx G0 cdX12_told (some .int) (xRn G0 MT (d + 5)) Q b 17 [some (.inr (.inr 66)), some (.inl e), some (.inl w)] [] (xup h 66 0 1)
      refine E_s 2 (i' := 27) (ls' := [some (.inr (.inr 66)), some (.inl e), some (.inl w)]) (sk' := [.inl 0]) (h' := (xup h 66 0 1)) rfl ?_
      exact E_ret (x := (.ireturn, 0, [], [])) (v := some (.inl 0)) rfl (Or.inl rfl) (hX)
  · rw [c_eq (by first | assumption | (refine ⟨?_, ?_⟩ <;> omega) | (simp only [xr] at *; omega)) (by first | assumption | (refine ⟨?_, ?_⟩ <;> omega) | (simp only [xr] at *; omega))] at c4
    simp only [decide_eq_true_eq, decide_eq_false_iff_not, Decidable.not_not] at c4
    show xEx G0 cdX12_told (some .int) (xRn G0 MT (d + 5)) Q b 5 [some (.inr (.inr 66)), some (.inl e), some (.inl w)] [.inr (.inr 66)] h
    refine E_s 3 (i' := 8) (ls' := [some (.inr (.inr 66)), some (.inl e), some (.inl w)]) (sk' := [.inl 3, .inl 0, .inl w, .inr (.inr 66)]) (h' := h) rfl ?_
    refine E_cp (x := (.invokestatic 180, 3, [(0, 155)], [])) (q := fun r2 h9 => ((r2 = 1 ∧ (0 ≤ w ∧ w ≤ 3)) ∨ (r2 = 0 ∧ ¬ (0 ≤ w ∧ w ≤ 3))) ∧ h = h9) rfl rfl (Nat.le_of_ble_eq_true rfl) (m_isIn (d + 4) 0 (h) w 0 3 hw ⟨by omega, by omega⟩ ⟨by omega, by omega⟩ (fun z => ⟨_, rfl, Or.inl ⟨rfl, z⟩, rfl⟩) (fun z => ⟨_, rfl, Or.inr ⟨rfl, z⟩, rfl⟩)) (fun r2 h9 q2 => ?_)
    obtain ⟨q2, rfl⟩ := q2
    show xEx G0 cdX12_told (some .int) (xRn G0 MT (d + 5)) Q b 9 [some (.inr (.inr 66)), some (.inl e), some (.inl w)] [.inl r2, .inr (.inr 66)] h
    refine E_b (x := (.ifCond .ne 7, 12, [], [])) rfl rfl (fun c9 => ?_) (fun c9 => ?_)
    · rw [c_ne (by first | assumption | (refine ⟨?_, ?_⟩ <;> omega) | (simp only [xr] at *; omega)) (by first | assumption | (refine ⟨?_, ?_⟩ <;> omega) | (simp only [xr] at *; omega))] at c9
      simp only [decide_eq_true_eq, decide_eq_false_iff_not, Decidable.not_not] at c9
      show xEx G0 cdX12_told (some .int) (xRn G0 MT (d + 5)) Q b 12 [some (.inr (.inr 66)), some (.inl e), some (.inl w)] [.inr (.inr 66)] h
      omega
    · rw [c_ne (by first | assumption | (refine ⟨?_, ?_⟩ <;> omega) | (simp only [xr] at *; omega)) (by first | assumption | (refine ⟨?_, ?_⟩ <;> omega) | (simp only [xr] at *; omega))] at c9
      simp only [decide_eq_true_eq, decide_eq_false_iff_not, Decidable.not_not] at c9
      show xEx G0 cdX12_told (some .int) (xRn G0 MT (d + 5)) Q b 10 [some (.inr (.inr 66)), some (.inl e), some (.inl w)] [.inr (.inr 66)] h
      refine E_s 5 (i' := 16) (ls' := [some (.inr (.inr 66)), some (.inl e), some (.inl w)]) (sk' := [.inl 1]) (h' := (xup h 66 0 1)) rfl ?_
      refine E_b (x := (.ifCond .le 7, 19, [], [])) rfl rfl (fun c16 => ?_) (fun c16 => ?_)
      · show xEx G0 cdX12_told (some .int) (xRn G0 MT (d + 5)) Q b 19 [some (.inr (.inr 66)), some (.inl e), some (.inl w)] [] (xup h 66 0 1)
        exact absurd c16 (by decide)
      · show xEx G0 cdX12_told (some .int) (xRn G0 MT (d + 5)) Q b 17 [some (.inr (.inr 66)), some (.inl e), some (.inl w)] [] (xup h 66 0 1)
        refine E_s 2 (i' := 27) (ls' := [some (.inr (.inr 66)), some (.inl e), some (.inl w)]) (sk' := [.inl 0]) (h' := (xup h 66 0 1)) rfl ?_
        exact E_ret (x := (.ireturn, 0, [], [])) (v := some (.inl 0)) rfl (Or.inl rfl) (hX)
set_option maxHeartbeats 1000000 in
theorem CO_told (d : Nat) {h : xH} (hI : Inv h) (e w : Int) (he : xr e) (hw : xr w) : CO (d + 6) 2 138 252 [.inl e, .inl w] ["java/util/NoSuchElementException"] h := by
  by_cases hb : 0 ≤ w ∧ w ≤ 3
  · have : w = 0 ∨ w = 1 ∨ w = 2 ∨ w = 3 := by omega
    rcases this with rfl | rfl | rfl | rfl
    · exact CO_told0 d hI e he
    · exact CO_told1 d hI e he
    · exact CO_told2 d hI e he
    · exact CO_told3 d hI e he
  · obtain ⟨c1, -, -, -, -, -, m4, -⟩ := Inv_b hI
    have c8 : 0 ≤ h 66 4 ∧ h 66 4 ≤ 12 := by rw [m4]; exact c1
    exact o_toldX d h e w he hw hb c1 (fun u => m_toldX d 0 (xup h 112 0 u) e w he hw hb c8 (CO_x hI 0 rfl u 0))
set_option maxHeartbeats 1000000 in
theorem o_constantAt (d  : Nat) (h : xH) (k : Int) (hk : xr k) (hc : 2 ≤ h 7 1 ∧ h 7 1 ≤ 10) {Q : xO → xH → Prop} (h1 : 0 ≤ k ∧ k < h 7 1 → Q (.inl (some (.inl (h 8 k)))) h) (hX : ¬ (0 ≤ k ∧ k < h 7 1) → Q (.inr "java/util/NoSuchElementException") h) : xRn G0 MT (d + 1) 1 139 [.inr (.inr 0), .inl k] h Q := by
  refine R_of (M := mX11_constantAt) rfl (Nat.le_of_ble_eq_true rfl) ?_
  show xEx G0 cdX11_constantAt (some .int) (xRn G0 MT d) Q 1 0 [some (.inr (.inr 0)), some (.inl k)] [] h
  refine E_s 1 (i' := 1) (ls' := [some (.inr (.inr 0)), some (.inl k)]) (sk' := [.inl k]) (h' := h) rfl ?_
  refine E_b (x := (.ifCond .lt 14, 7, [], [])) rfl rfl (fun c1 => ?_) (fun c1 => ?_)
  · rw [c_lt (by first | assumption | (refine ⟨?_, ?_⟩ <;> omega) | (simp only [xr] at *; omega)) (by first | assumption | (refine ⟨?_, ?_⟩ <;> omega) | (simp only [xr] at *; omega))] at c1
    simp only [decide_eq_true_eq, decide_eq_false_iff_not, Decidable.not_not] at c1
    show xEx G0 cdX11_constantAt (some .int) (xRn G0 MT d) Q 1 7 [some (.inr (.inr 0)), some (.inl k)] [] h
    exact E_thr (x := (.new 189, 0, [(2, 1)], [])) rfl rfl rfl (Nat.le_of_ble_eq_true rfl) (hX (by omega))
  · rw [c_lt (by first | assumption | (refine ⟨?_, ?_⟩ <;> omega) | (simp only [xr] at *; omega)) (by first | assumption | (refine ⟨?_, ?_⟩ <;> omega) | (simp only [xr] at *; omega))] at c1
    simp only [decide_eq_true_eq, decide_eq_false_iff_not, Decidable.not_not] at c1
    show xEx G0 cdX11_constantAt (some .int) (xRn G0 MT d) Q 1 2 [some (.inr (.inr 0)), some (.inl k)] [] h
    refine E_s 4 (i' := 6) (ls' := [some (.inr (.inr 0)), some (.inl k)]) (sk' := [.inl (h 7 1), .inl k]) (h' := h) rfl ?_
    refine E_b (x := (.if_icmp .lt 14, 12, [], [])) rfl rfl (fun c6 => ?_) (fun c6 => ?_)
    · rw [c_lt (by first | assumption | (refine ⟨?_, ?_⟩ <;> omega) | (simp only [xr] at *; omega)) (by first | assumption | (refine ⟨?_, ?_⟩ <;> omega) | (simp only [xr] at *; omega))] at c6
      simp only [decide_eq_true_eq, decide_eq_false_iff_not, Decidable.not_not] at c6
      show xEx G0 cdX11_constantAt (some .int) (xRn G0 MT d) Q 1 12 [some (.inr (.inr 0)), some (.inl k)] [] h
      refine E_s 4 (i' := 16) (ls' := [some (.inr (.inr 0)), some (.inl k)]) (sk' := [.inl k, .inr (.inr 8)]) (h' := h) rfl ?_
      refine E_ld (x := (.iaload, 0, [], [])) (ty := .int) (n := 10) rfl rfl rfl (by omega) (by omega) ?_
      show xEx G0 cdX11_constantAt (some .int) (xRn G0 MT d) Q 1 17 [some (.inr (.inr 0)), some (.inl k)] [.inl (h 8 k)] h
      exact E_ret (x := (.ireturn, 0, [], [])) (v := some (.inl (h 8 k))) rfl (Or.inl rfl) (h1 (by omega))
    · rw [c_lt (by first | assumption | (refine ⟨?_, ?_⟩ <;> omega) | (simp only [xr] at *; omega)) (by first | assumption | (refine ⟨?_, ?_⟩ <;> omega) | (simp only [xr] at *; omega))] at c6
      simp only [decide_eq_true_eq, decide_eq_false_iff_not, Decidable.not_not] at c6
      show xEx G0 cdX11_constantAt (some .int) (xRn G0 MT d) Q 1 7 [some (.inr (.inr 0)), some (.inl k)] [] h
      exact E_thr (x := (.new 189, 0, [(2, 1)], [])) rfl rfl rfl (Nat.le_of_ble_eq_true rfl) (hX (by omega))
set_option maxHeartbeats 1000000 in
theorem m_constantAt (d b : Nat) (h : xH) (k : Int) (hk : xr k) (hc : 2 ≤ h 66 6 ∧ h 66 6 ≤ 10) {Q : xO → xH → Prop} (h1 : 0 ≤ k ∧ k < h 66 6 → Q (.inl (some (.inl (h 68 k)))) (xup h 66 0 0)) (hX : ¬ (0 ≤ k ∧ k < h 66 6) → Q (.inl (some (.inl (0)))) (xup h 66 0 1)) : xRn G0 MT (d + 2) b 253 [.inr (.inr 66), .inl k] h Q := by
  refine R_of (M := mX12_constantAt) rfl (Nat.le_of_ble_eq_true rfl) ?_
  show xEx G0 cdX12_constantAt (some .int) (xRn G0 MT (d + 1)) Q b 0 [some (.inr (.inr 66)), some (.inl k)] [] h
  refine E_s 7 (i' := 7) (ls' := [some (.inr (.inr 66)), some (.inl k)]) (sk' := [.inl ((h 66 6) - 1), .inl 0, .inl k, .inr (.inr 66)]) (h' := h) rfl ?_
  refine E_cp (x := (.invokestatic 180, 3, [(0, 155)], [])) (q := fun r h9 => ((r = 1 ∧ (0 ≤ k ∧ k ≤ h 66 6 - 1)) ∨ (r = 0 ∧ ¬ (0 ≤ k ∧ k ≤ h 66 6 - 1))) ∧ h = h9) rfl rfl (Nat.le_of_ble_eq_true rfl) (m_isIn d 0 h k 0 (h 66 6 - 1) hk ⟨by omega, by omega⟩ ⟨by omega, by omega⟩ (fun z => ⟨_, rfl, Or.inl ⟨rfl, z⟩, rfl⟩) (fun z => ⟨_, rfl, Or.inr ⟨rfl, z⟩, rfl⟩)) (fun r h9 q1 => ?_)
  obtain ⟨q1, rfl⟩ := q1
  show xEx G0 cdX12_constantAt (some .int) (xRn G0 MT (d + 1)) Q b 8 [some (.inr (.inr 66)), some (.inl k)] [.inl r, .inr (.inr 66)] h
  refine E_b (x := (.ifCond .eq 7, 11, [], [])) rfl rfl (fun c8 => ?_) (fun c8 => ?_)
  · rw [c_eq (by first | assumption | (refine ⟨?_, ?_⟩ <;> omega) | (simp only [xr] at *; omega)) (by first | assumption | (refine ⟨?_, ?_⟩ <;> omega) | (simp only [xr] at *; omega))] at c8
    simp only [decide_eq_true_eq, decide_eq_false_iff_not, Decidable.not_not] at c8
    show xEx G0 cdX12_constantAt (some .int) (xRn G0 MT (d + 1)) Q b 11 [some (.inr (.inr 66)), some (.inl k)] [.inr (.inr 66)] h
    refine E_s 4 (i' := 15) (ls' := [some (.inr (.inr 66)), some (.inl k)]) (sk' := [.inl 1]) (h' := (xup h 66 0 1)) rfl ?_
    refine E_b (x := (.ifCond .le 7, 18, [], [])) rfl rfl (fun c15 => ?_) (fun c15 => ?_)
    · show xEx G0 cdX12_constantAt (some .int) (xRn G0 MT (d + 1)) Q b 18 [some (.inr (.inr 66)), some (.inl k)] [] (xup h 66 0 1)
      exact absurd c15 (by decide)
    · show xEx G0 cdX12_constantAt (some .int) (xRn G0 MT (d + 1)) Q b 16 [some (.inr (.inr 66)), some (.inl k)] [] (xup h 66 0 1)
      refine E_s 2 (i' := 22) (ls' := [some (.inr (.inr 66)), some (.inl k)]) (sk' := [.inl 0]) (h' := (xup h 66 0 1)) rfl ?_
      exact E_ret (x := (.ireturn, 0, [], [])) (v := some (.inl 0)) rfl (Or.inl rfl) (hX (by omega))
  · rw [c_eq (by first | assumption | (refine ⟨?_, ?_⟩ <;> omega) | (simp only [xr] at *; omega)) (by first | assumption | (refine ⟨?_, ?_⟩ <;> omega) | (simp only [xr] at *; omega))] at c8
    simp only [decide_eq_true_eq, decide_eq_false_iff_not, Decidable.not_not] at c8
    show xEx G0 cdX12_constantAt (some .int) (xRn G0 MT (d + 1)) Q b 9 [some (.inr (.inr 66)), some (.inl k)] [.inr (.inr 66)] h
    refine E_s 5 (i' := 15) (ls' := [some (.inr (.inr 66)), some (.inl k)]) (sk' := [.inl 0]) (h' := (xup h 66 0 0)) rfl ?_
    refine E_b (x := (.ifCond .le 7, 18, [], [])) rfl rfl (fun c15 => ?_) (fun c15 => ?_)
    · show xEx G0 cdX12_constantAt (some .int) (xRn G0 MT (d + 1)) Q b 18 [some (.inr (.inr 66)), some (.inl k)] [] (xup h 66 0 0)
      refine E_s 3 (i' := 21) (ls' := [some (.inr (.inr 66)), some (.inl k)]) (sk' := [.inl k, .inr (.inr 68)]) (h' := (xup h 66 0 0)) rfl ?_
      refine E_ld (x := (.iaload, 0, [], [])) (ty := .int) (n := 10) rfl rfl rfl (by omega) (by omega) ?_
      show xEx G0 cdX12_constantAt (some .int) (xRn G0 MT (d + 1)) Q b 22 [some (.inr (.inr 66)), some (.inl k)] [.inl (h 68 k)] (xup h 66 0 0)
      exact E_ret (x := (.ireturn, 0, [], [])) (v := some (.inl (h 68 k))) rfl (Or.inl rfl) (h1 (by omega))
    · show xEx G0 cdX12_constantAt (some .int) (xRn G0 MT (d + 1)) Q b 16 [some (.inr (.inr 66)), some (.inl k)] [] (xup h 66 0 0)
      exact absurd c15 (by decide)
set_option maxHeartbeats 1000000 in
theorem CO_constantAt (d : Nat) {h : xH} (hI : Inv h) (k : Int) (hk : xr k) : CO (d + 6) 1 139 253 [.inl k] ["java/util/NoSuchElementException"] h := by
  obtain ⟨c1, c2, c3, c4, c5, c6, m4, m1, m6, m3, m2, tt, kk⟩ := Inv_b hI
  have c8 : 2 ≤ h 66 6 ∧ h 66 6 ≤ 10 := by rw [m6]; exact c4
  refine o_constantAt (d + 5) h k hk c4 (fun q u => ?_) (fun q u => ?_)
  · exact m_constantAt (d + 4) 0 (xup h 112 0 u) k hk c8 (fun z => CO_v hI u (kk k q.1 q.2).symm) (fun z => absurd (show 0 ≤ k ∧ k < h 66 6 by omega) z)
  · exact m_constantAt (d + 4) 0 (xup h 112 0 u) k hk c8 (fun z => absurd (show 0 ≤ k ∧ k < h 7 1 by have z : 0 ≤ k ∧ k < h 66 6 := z; omega) q) (fun _ => CO_x hI 0 rfl u 0)
set_option maxHeartbeats 1000000 in
theorem o_octet (d b : Nat) (h : xH) (k : Int) (hk : xr k) (hc : 0 ≤ h 64 1 ∧ h 64 1 ≤ 1024) {Q : xO → xH → Prop} (h1 : 0 ≤ k ∧ k < h 64 1 → Q (.inl (some (.inl (h 65 k)))) h) (hX : ¬ (0 ≤ k ∧ k < h 64 1) → Q (.inl (some (.inl (-1)))) h) : xRn G0 MT (d + 1) b 110 [.inr (.inr 0), .inl k] h Q := by
  refine R_of (M := mX11_octet) rfl (Nat.le_of_ble_eq_true rfl) ?_
  show xEx G0 cdX11_octet (some .int) (xRn G0 MT d) Q b 0 [some (.inr (.inr 0)), some (.inl k)] [] h
  refine E_s 1 (i' := 1) (ls' := [some (.inr (.inr 0)), some (.inl k)]) (sk' := [.inl k]) (h' := h) rfl ?_
  refine E_b (x := (.ifCond .lt 14, 7, [], [])) rfl rfl (fun c1 => ?_) (fun c1 => ?_)
  · rw [c_lt (by first | assumption | (refine ⟨?_, ?_⟩ <;> omega) | (simp only [xr] at *; omega)) (by first | assumption | (refine ⟨?_, ?_⟩ <;> omega) | (simp only [xr] at *; omega))] at c1
    simp only [decide_eq_true_eq, decide_eq_false_iff_not, Decidable.not_not] at c1
    show xEx G0 cdX11_octet (some .int) (xRn G0 MT d) Q b 7 [some (.inr (.inr 0)), some (.inl k)] [] h
    refine E_s 2 (i' := 14) (ls' := [some (.inr (.inr 0)), some (.inl k)]) (sk' := [.inl (-1)]) (h' := h) rfl ?_
    exact E_ret (x := (.ireturn, 0, [], [])) (v := some (.inl (-1))) rfl (Or.inl rfl) (hX (by omega))
  · rw [c_lt (by first | assumption | (refine ⟨?_, ?_⟩ <;> omega) | (simp only [xr] at *; omega)) (by first | assumption | (refine ⟨?_, ?_⟩ <;> omega) | (simp only [xr] at *; omega))] at c1
    simp only [decide_eq_true_eq, decide_eq_false_iff_not, Decidable.not_not] at c1
    show xEx G0 cdX11_octet (some .int) (xRn G0 MT d) Q b 2 [some (.inr (.inr 0)), some (.inl k)] [] h
    refine E_s 4 (i' := 6) (ls' := [some (.inr (.inr 0)), some (.inl k)]) (sk' := [.inl (h 64 1), .inl k]) (h' := h) rfl ?_
    refine E_b (x := (.if_icmp .lt 7, 9, [], [])) rfl rfl (fun c6 => ?_) (fun c6 => ?_)
    · rw [c_lt (by first | assumption | (refine ⟨?_, ?_⟩ <;> omega) | (simp only [xr] at *; omega)) (by first | assumption | (refine ⟨?_, ?_⟩ <;> omega) | (simp only [xr] at *; omega))] at c6
      simp only [decide_eq_true_eq, decide_eq_false_iff_not, Decidable.not_not] at c6
      show xEx G0 cdX11_octet (some .int) (xRn G0 MT d) Q b 9 [some (.inr (.inr 0)), some (.inl k)] [] h
      refine E_s 4 (i' := 13) (ls' := [some (.inr (.inr 0)), some (.inl k)]) (sk' := [.inl k, .inr (.inr 65)]) (h' := h) rfl ?_
      refine E_ld (x := (.baload, 0, [], [])) (ty := .byte) (n := 1024) rfl rfl rfl (by omega) (by omega) ?_
      show xEx G0 cdX11_octet (some .int) (xRn G0 MT d) Q b 14 [some (.inr (.inr 0)), some (.inl k)] [.inl (h 65 k)] h
      exact E_ret (x := (.ireturn, 0, [], [])) (v := some (.inl (h 65 k))) rfl (Or.inl rfl) (h1 (by omega))
    · rw [c_lt (by first | assumption | (refine ⟨?_, ?_⟩ <;> omega) | (simp only [xr] at *; omega)) (by first | assumption | (refine ⟨?_, ?_⟩ <;> omega) | (simp only [xr] at *; omega))] at c6
      simp only [decide_eq_true_eq, decide_eq_false_iff_not, Decidable.not_not] at c6
      show xEx G0 cdX11_octet (some .int) (xRn G0 MT d) Q b 7 [some (.inr (.inr 0)), some (.inl k)] [] h
      refine E_s 2 (i' := 14) (ls' := [some (.inr (.inr 0)), some (.inl k)]) (sk' := [.inl (-1)]) (h' := h) rfl ?_
      exact E_ret (x := (.ireturn, 0, [], [])) (v := some (.inl (-1))) rfl (Or.inl rfl) (hX (by omega))
set_option maxHeartbeats 1000000 in
theorem m_octet (d b : Nat) (h : xH) (k : Int) (hk : xr k) (hc : 0 ≤ h 66 45 ∧ h 66 45 ≤ 1024) {Q : xO → xH → Prop} (h1 : 0 ≤ k ∧ k < h 66 45 → Q (.inl (some (.inl (h 96 k)))) (xup h 66 0 0)) (hX : ¬ (0 ≤ k ∧ k < h 66 45) → Q (.inl (some (.inl (-1)))) (xup h 66 0 0)) : xRn G0 MT (d + 2) b 215 [.inr (.inr 66), .inl k] h Q := by
  refine R_of (M := mX12_octet) rfl (Nat.le_of_ble_eq_true rfl) ?_
  show xEx G0 cdX12_octet (some .int) (xRn G0 MT (d + 1)) Q b 0 [some (.inr (.inr 66)), some (.inl k)] [] h
  refine E_s 9 (i' := 9) (ls' := [some (.inr (.inr 66)), some (.inl k)]) (sk' := [.inl ((h 66 45) - 1), .inl 0, .inl k]) (h' := (xup h 66 0 0)) rfl ?_
  refine E_cp (x := (.invokestatic 180, 3, [(0, 155)], [])) (q := fun r h9 => ((r = 1 ∧ (0 ≤ k ∧ k ≤ h 66 45 - 1)) ∨ (r = 0 ∧ ¬ (0 ≤ k ∧ k ≤ h 66 45 - 1))) ∧ (xup h 66 0 0) = h9) rfl rfl (Nat.le_of_ble_eq_true rfl) (m_isIn d 0 (xup h 66 0 0) k 0 (h 66 45 - 1) hk ⟨by omega, by omega⟩ ⟨by omega, by omega⟩ (fun z => ⟨_, rfl, Or.inl ⟨rfl, z⟩, rfl⟩) (fun z => ⟨_, rfl, Or.inr ⟨rfl, z⟩, rfl⟩)) (fun r h9 q1 => ?_)
  obtain ⟨q1, rfl⟩ := q1
  show xEx G0 cdX12_octet (some .int) (xRn G0 MT (d + 1)) Q b 10 [some (.inr (.inr 66)), some (.inl k)] [.inl r] (xup h 66 0 0)
  refine E_b (x := (.ifCond .eq 12, 16, [], [])) rfl rfl (fun c10 => ?_) (fun c10 => ?_)
  · rw [c_eq (by first | assumption | (refine ⟨?_, ?_⟩ <;> omega) | (simp only [xr] at *; omega)) (by first | assumption | (refine ⟨?_, ?_⟩ <;> omega) | (simp only [xr] at *; omega))] at c10
    simp only [decide_eq_true_eq, decide_eq_false_iff_not, Decidable.not_not] at c10
    show xEx G0 cdX12_octet (some .int) (xRn G0 MT (d + 1)) Q b 16 [some (.inr (.inr 66)), some (.inl k)] [] (xup h 66 0 0)
    refine E_s 1 (i' := 17) (ls' := [some (.inr (.inr 66)), some (.inl k)]) (sk' := [.inl (-1)]) (h' := (xup h 66 0 0)) rfl ?_
    exact E_ret (x := (.ireturn, 0, [], [])) (v := some (.inl (-1))) rfl (Or.inl rfl) (hX (by omega))
  · rw [c_eq (by first | assumption | (refine ⟨?_, ?_⟩ <;> omega) | (simp only [xr] at *; omega)) (by first | assumption | (refine ⟨?_, ?_⟩ <;> omega) | (simp only [xr] at *; omega))] at c10
    simp only [decide_eq_true_eq, decide_eq_false_iff_not, Decidable.not_not] at c10
    show xEx G0 cdX12_octet (some .int) (xRn G0 MT (d + 1)) Q b 11 [some (.inr (.inr 66)), some (.inl k)] [] (xup h 66 0 0)
    refine E_s 3 (i' := 14) (ls' := [some (.inr (.inr 66)), some (.inl k)]) (sk' := [.inl k, .inr (.inr 96)]) (h' := (xup h 66 0 0)) rfl ?_
    refine E_ld (x := (.baload, 0, [], [])) (ty := .byte) (n := 4000) rfl rfl rfl (by omega) (by omega) ?_
    show xEx G0 cdX12_octet (some .int) (xRn G0 MT (d + 1)) Q b 15 [some (.inr (.inr 66)), some (.inl k)] [.inl (h 96 k)] (xup h 66 0 0)
    refine E_s 1 (i' := 17) (ls' := [some (.inr (.inr 66)), some (.inl k)]) (sk' := [.inl (h 96 k)]) (h' := (xup h 66 0 0)) rfl ?_
    exact E_ret (x := (.ireturn, 0, [], [])) (v := some (.inl (h 96 k))) rfl (Or.inl rfl) (h1 (by omega))
set_option maxHeartbeats 1000000 in
theorem CO_octet (d : Nat) {h : xH} (hI : Inv h) (k : Int) (hk : xr k) : CO (d + 6) 0 110 215 [.inl k] [] h := by
  obtain ⟨S, T, -, -, -, -, -, ix⟩ := id hI
  obtain ⟨x1, x2, x3⟩ := ix
  have x4 : 0 ≤ h 66 45 ∧ h 66 45 ≤ 1024 := by rw [x2]; exact x1
  refine o_octet (d + 5) 0 h k hk x1 (fun q u => ?_) (fun q u => ?_)
  · exact m_octet (d + 4) 0 (xup h 112 0 u) k hk x4 (fun z => CO_v hI u (x3 k q.1 q.2).symm) (fun z => absurd (show 0 ≤ k ∧ k < h 66 45 by omega) z)
  · exact m_octet (d + 4) 0 (xup h 112 0 u) k hk x4 (fun z => absurd (show 0 ≤ k ∧ k < h 64 1 by have z : 0 ≤ k ∧ k < h 66 45 := z; omega) q) (fun _ => CO_v hI u rfl)
