theorem RW0_of {h h' S : xH} (e1 : ∀ k, 0 ≤ k → k < 300 → h' 69 k = h 69 k ∧ h' 70 k = h 70 k ∧ h' 71 k = h 71 k) (h3 : S 0 0 ≤ 300) (r : RR h S) : RW0 h' S := fun k z1 z2 => by
  obtain ⟨a1, a2, a3, -⟩ := r.2.2.1 k z1 z2
  obtain ⟨b1, b2, b3⟩ := e1 k z1 (by omega)
  rw [b1, b2, b3]
  exact ⟨a1, a2, a3⟩
theorem RW1_of {h h' T : xH} (e1 : ∀ k, 0 ≤ k → k < 150 → h' 79 k = h 79 k ∧ h' 80 k = h 80 k ∧ h' 81 k = h 81 k) (h4 : T 0 0 ≤ 150) (r : RRT h T) : RW1 h' T := fun k z1 z2 => by
  obtain ⟨a1, a2, a3, -⟩ := r.2.2.2 k z1 z2
  obtain ⟨b1, b2, b3⟩ := e1 k z1 (by omega)
  rw [b1, b2, b3]
  exact ⟨a1, a2, a3⟩
theorem DZ_N3 {h0 : xH} {d b : Nat} {Q : xO → xH → Prop} {f0 : Int} {n0 : Int} {wt : Int → Int} {S T : xH} {as le : Int → Int} (hF : FW n0 wt 9 S) (hR : RW0 h0 S) (h3 : S 0 0 ≤ 300) (hT : FWT S 7 T) (hRT : RW1 h0 T) (h4 : T 0 0 ≤ 150) (hp : ∀ j, 0 ≤ j → j ≤ 14 → h0 105 (j + 1) = as j ∧ h0 106 (j + 1) = le j) (ht : TRp as le S T 3 0) : DZ h0 d b Q f0 161 2001 (txN S T as le 3 0) := by
  have q := (DZ_N (h0 := h0) (d := d) (b := b) (Q := Q) (f0 := f0) hF hR h3 hT hRT h4 hp 3 0 (Int.le_refl _) (by decide) ht).up (m' := 161) (by decide)
  rw [show (2000 : Int) + (0 + 1) = 2001 from rfl] at q
  exact q
set_option maxHeartbeats 1000000 in
theorem m_write0 (d b : Nat) (h S T : xH) (k : Int) (hk : xr k) (n0 : Int) (wt : Int → Int) (hF : FW n0 wt 9 S) (hT : FWT S 7 T) (h3 : 0 ≤ S 0 0 ∧ S 0 0 ≤ 300) (h4 : 0 ≤ T 0 0 ∧ T 0 0 ≤ 150) (hR : RR h S) (hRT : RRT h T) (hM0 : 0 ≤ h 66 8 ∧ h 66 8 ≤ 300) {Q : xO → xH → Prop} (hN : ¬ (0 ≤ k ∧ k < h 66 8) → Q (.inl (some (.inl (0)))) (xup h 66 0 1)) (hO : (0 ≤ k ∧ k < h 66 8) → ∀ h9, WD (xup h 66 0 0) h9 (TE S k) → Q (.inl (some (.inl (((TE S k).length : Nat)))))  h9) : xRn2 G0 MT (d + 5) b 213 [.inr (.inr 66), .inl 0, .inl k] h Q := by
  refine R2_of (M := mX12_write) rfl (Nat.le_of_ble_eq_true rfl) ?_
  show xEx2 RX12 G0 cdX12_write (some .int) (xRn2 G0 MT (d + 4)) Q b 0 [some (.inr (.inr 66)), some (.inl 0), some (.inl k)] [] h
  refine E2_s 4 (i' := 4) (ls' := [some (.inr (.inr 66)), some (.inl 0), some (.inl k)]) (sk' := [.inl k, .inl 0, .inr (.inr 66), .inr (.inr 66)]) (h' := h) rfl ?_
  refine E2_cp (x := (.invokevirtual 295, 2, [(10, 193)], [0])) (q := fun r1 h9 => ((r1 = 1 ∧ (0 ≤ k ∧ k < h 66 8)) ∨ (r1 = 0 ∧ ¬ (0 ≤ k ∧ k < h 66 8))) ∧ h = h9) rfl rfl (Nat.le_of_ble_eq_true rfl) (xRn_2 _ _ _ _ _ _ (m_isKept0 (d + 2) 0 h k hk hM0 (fun z => ⟨_, rfl, Or.inl ⟨rfl, z⟩, rfl⟩) (fun z => ⟨_, rfl, Or.inr ⟨rfl, z⟩, rfl⟩))) (fun r1 h9 q1 => ?_)
  obtain ⟨q1, rfl⟩ := q1
  show xEx2 RX12 G0 cdX12_write (some .int) (xRn2 G0 MT (d + 4)) Q b 5 [some (.inr (.inr 66)), some (.inl 0), some (.inl k)] [.inl r1, .inr (.inr 66)] h
  refine E2_b (x := (.ifCond .eq 7, 8, [], [])) rfl rfl (fun c5 => ?_) (fun c5 => ?_)
  · rw [c_eq (by first | assumption | (refine ⟨?_, ?_⟩ <;> omega) | (simp only [xr] at *; omega)) (by first | assumption | (refine ⟨?_, ?_⟩ <;> omega) | (simp only [xr] at *; omega))] at c5
    simp only [decide_eq_true_eq, decide_eq_false_iff_not, Decidable.not_not] at c5
    show xEx2 RX12 G0 cdX12_write (some .int) (xRn2 G0 MT (d + 4)) Q b 8 [some (.inr (.inr 66)), some (.inl 0), some (.inl k)] [.inr (.inr 66)] h
    refine E2_s 4 (i' := 12) (ls' := [some (.inr (.inr 66)), some (.inl 0), some (.inl k)]) (sk' := [.inl 1]) (h' := (xup h 66 0 1)) rfl ?_
    refine E2_b (x := (.ifCond .le 7, 15, [], [])) rfl rfl (fun c12 => ?_) (fun c12 => ?_)
    · show xEx2 RX12 G0 cdX12_write (some .int) (xRn2 G0 MT (d + 4)) Q b 15 [some (.inr (.inr 66)), some (.inl 0), some (.inl k)] [] (xup h 66 0 1)
      exact absurd c12 (by decide)
    · show xEx2 RX12 G0 cdX12_write (some .int) (xRn2 G0 MT (d + 4)) Q b 13 [some (.inr (.inr 66)), some (.inl 0), some (.inl k)] [] (xup h 66 0 1)
      refine E2_s 2 (i' := 24) (ls' := [some (.inr (.inr 66)), some (.inl 0), some (.inl k)]) (sk' := [.inl 0]) (h' := (xup h 66 0 1)) rfl ?_
      exact E2_ret (x := (.ireturn, 0, [], [])) (v := some (.inl 0)) rfl (Or.inl rfl) (hN (by omega))
  · rw [c_eq (by first | assumption | (refine ⟨?_, ?_⟩ <;> omega) | (simp only [xr] at *; omega)) (by first | assumption | (refine ⟨?_, ?_⟩ <;> omega) | (simp only [xr] at *; omega))] at c5
    simp only [decide_eq_true_eq, decide_eq_false_iff_not, Decidable.not_not] at c5
    show xEx2 RX12 G0 cdX12_write (some .int) (xRn2 G0 MT (d + 4)) Q b 6 [some (.inr (.inr 66)), some (.inl 0), some (.inl k)] [.inr (.inr 66)] h
    refine E2_s 5 (i' := 12) (ls' := [some (.inr (.inr 66)), some (.inl 0), some (.inl k)]) (sk' := [.inl 0]) (h' := (xup h 66 0 0)) rfl ?_
    refine E2_b (x := (.ifCond .le 7, 15, [], [])) rfl rfl (fun c12 => ?_) (fun c12 => ?_)
    · show xEx2 RX12 G0 cdX12_write (some .int) (xRn2 G0 MT (d + 4)) Q b 15 [some (.inr (.inr 66)), some (.inl 0), some (.inl k)] [] (xup h 66 0 0)
      refine E2_s 2 (i' := 17) (ls' := [some (.inr (.inr 66)), some (.inl 0), some (.inl k)]) (sk' := [.inl 0, .inr (.inr 66)]) (h' := (xup h 66 0 0)) rfl ?_
      refine E2_b (x := (.ifCond .eq 11, 22, [], [])) rfl rfl (fun c17 => ?_) (fun c17 => ?_)
      · show xEx2 RX12 G0 cdX12_write (some .int) (xRn2 G0 MT (d + 4)) Q b 22 [some (.inr (.inr 66)), some (.inl 0), some (.inl k)] [.inr (.inr 66)] (xup h 66 0 0)
        refine E2_s 1 (i' := 23) (ls' := [some (.inr (.inr 66)), some (.inl 0), some (.inl k)]) (sk' := [.inl k, .inr (.inr 66)]) (h' := (xup h 66 0 0)) rfl ?_
        have hk2 : 0 ≤ k ∧ k < S 0 0 := by rw [← hR.1]; omega
        refine E2_cp (x := (.invokevirtual 369, 1, [(10, 212)], [0])) (q := fun r h9 => r = (((TE S k).length : Nat) : Int) ∧ WD (xup h 66 0 0) h9 (TE S k)) rfl rfl (Nat.le_of_ble_eq_true rfl) (m_writes d 0 (xup h 66 0 0) k 73 (TE S k) (by omega) (by have := TE_r hF hk2.1 hk2.2; have := (hF k hk2.1 hk2.2).2.2.1; omega) (DZ_E9 hF (RW0_of (h' := xup h 66 0 0) (fun _ _ _ => ⟨rfl, rfl, rfl⟩) h3.2 hR) h3.2 hk2.1 hk2.2) (fun h9 z => ⟨_, rfl, rfl, z⟩)) (fun r9 h9 hq9 => ?_)
        show xEx2 RX12 G0 cdX12_write (some .int) (xRn2 G0 MT (d + 4)) Q b 24 [some (.inr (.inr 66)), some (.inl 0), some (.inl k)] [.inl r9] h9
        obtain ⟨er9, hw⟩ := hq9
        subst er9
        show xEx2 RX12 G0 cdX12_write (some .int) (xRn2 G0 MT (d + 4)) Q b 24 [some (.inr (.inr 66)), some (.inl 0), some (.inl k)] [.inl (((TE S k).length : Nat) : Int)] h9
        exact E2_ret (x := (.ireturn, 0, [], [])) (v := some (.inl (((TE S k).length : Nat) : Int))) rfl (Or.inl rfl) (hO (by omega) h9 hw)
      · show xEx2 RX12 G0 cdX12_write (some .int) (xRn2 G0 MT (d + 4)) Q b 18 [some (.inr (.inr 66)), some (.inl 0), some (.inl k)] [.inr (.inr 66)] (xup h 66 0 0)
        exact absurd c17 (by decide)
    · show xEx2 RX12 G0 cdX12_write (some .int) (xRn2 G0 MT (d + 4)) Q b 13 [some (.inr (.inr 66)), some (.inl 0), some (.inl k)] [] (xup h 66 0 0)
      exact absurd c12 (by decide)
set_option maxHeartbeats 1000000 in
theorem m_write1 (d b : Nat) (h S T : xH) (k : Int) (hk : xr k) (n0 : Int) (wt : Int → Int) (hF : FW n0 wt 9 S) (hT : FWT S 7 T) (h3 : 0 ≤ S 0 0 ∧ S 0 0 ≤ 300) (h4 : 0 ≤ T 0 0 ∧ T 0 0 ≤ 150) (hR : RR h S) (hRT : RRT h T) (hM1 : 0 ≤ h 66 19 ∧ h 66 19 ≤ 150) {Q : xO → xH → Prop} (hN : ¬ (0 ≤ k ∧ k < h 66 19) → Q (.inl (some (.inl (0)))) (xup h 66 0 1)) (hO : (0 ≤ k ∧ k < h 66 19) → ∀ h9, WD (xup h 66 0 0) h9 (TT S T k) → Q (.inl (some (.inl (((TT S T k).length : Nat)))))  h9) : xRn2 G0 MT (d + 5) b 213 [.inr (.inr 66), .inl 1, .inl k] h Q := by
  refine R2_of (M := mX12_write) rfl (Nat.le_of_ble_eq_true rfl) ?_
  show xEx2 RX12 G0 cdX12_write (some .int) (xRn2 G0 MT (d + 4)) Q b 0 [some (.inr (.inr 66)), some (.inl 1), some (.inl k)] [] h
  refine E2_s 4 (i' := 4) (ls' := [some (.inr (.inr 66)), some (.inl 1), some (.inl k)]) (sk' := [.inl k, .inl 1, .inr (.inr 66), .inr (.inr 66)]) (h' := h) rfl ?_
  refine E2_cp (x := (.invokevirtual 295, 2, [(10, 193)], [0])) (q := fun r1 h9 => ((r1 = 1 ∧ (0 ≤ k ∧ k < h 66 19)) ∨ (r1 = 0 ∧ ¬ (0 ≤ k ∧ k < h 66 19))) ∧ h = h9) rfl rfl (Nat.le_of_ble_eq_true rfl) (xRn_2 _ _ _ _ _ _ (m_isKept1 (d + 2) 0 h k hk hM1 (fun z => ⟨_, rfl, Or.inl ⟨rfl, z⟩, rfl⟩) (fun z => ⟨_, rfl, Or.inr ⟨rfl, z⟩, rfl⟩))) (fun r1 h9 q1 => ?_)
  obtain ⟨q1, rfl⟩ := q1
  show xEx2 RX12 G0 cdX12_write (some .int) (xRn2 G0 MT (d + 4)) Q b 5 [some (.inr (.inr 66)), some (.inl 1), some (.inl k)] [.inl r1, .inr (.inr 66)] h
  refine E2_b (x := (.ifCond .eq 7, 8, [], [])) rfl rfl (fun c5 => ?_) (fun c5 => ?_)
  · rw [c_eq (by first | assumption | (refine ⟨?_, ?_⟩ <;> omega) | (simp only [xr] at *; omega)) (by first | assumption | (refine ⟨?_, ?_⟩ <;> omega) | (simp only [xr] at *; omega))] at c5
    simp only [decide_eq_true_eq, decide_eq_false_iff_not, Decidable.not_not] at c5
    show xEx2 RX12 G0 cdX12_write (some .int) (xRn2 G0 MT (d + 4)) Q b 8 [some (.inr (.inr 66)), some (.inl 1), some (.inl k)] [.inr (.inr 66)] h
    refine E2_s 4 (i' := 12) (ls' := [some (.inr (.inr 66)), some (.inl 1), some (.inl k)]) (sk' := [.inl 1]) (h' := (xup h 66 0 1)) rfl ?_
    refine E2_b (x := (.ifCond .le 7, 15, [], [])) rfl rfl (fun c12 => ?_) (fun c12 => ?_)
    · show xEx2 RX12 G0 cdX12_write (some .int) (xRn2 G0 MT (d + 4)) Q b 15 [some (.inr (.inr 66)), some (.inl 1), some (.inl k)] [] (xup h 66 0 1)
      exact absurd c12 (by decide)
    · show xEx2 RX12 G0 cdX12_write (some .int) (xRn2 G0 MT (d + 4)) Q b 13 [some (.inr (.inr 66)), some (.inl 1), some (.inl k)] [] (xup h 66 0 1)
      refine E2_s 2 (i' := 24) (ls' := [some (.inr (.inr 66)), some (.inl 1), some (.inl k)]) (sk' := [.inl 0]) (h' := (xup h 66 0 1)) rfl ?_
      exact E2_ret (x := (.ireturn, 0, [], [])) (v := some (.inl 0)) rfl (Or.inl rfl) (hN (by omega))
  · rw [c_eq (by first | assumption | (refine ⟨?_, ?_⟩ <;> omega) | (simp only [xr] at *; omega)) (by first | assumption | (refine ⟨?_, ?_⟩ <;> omega) | (simp only [xr] at *; omega))] at c5
    simp only [decide_eq_true_eq, decide_eq_false_iff_not, Decidable.not_not] at c5
    show xEx2 RX12 G0 cdX12_write (some .int) (xRn2 G0 MT (d + 4)) Q b 6 [some (.inr (.inr 66)), some (.inl 1), some (.inl k)] [.inr (.inr 66)] h
    refine E2_s 5 (i' := 12) (ls' := [some (.inr (.inr 66)), some (.inl 1), some (.inl k)]) (sk' := [.inl 0]) (h' := (xup h 66 0 0)) rfl ?_
    refine E2_b (x := (.ifCond .le 7, 15, [], [])) rfl rfl (fun c12 => ?_) (fun c12 => ?_)
    · show xEx2 RX12 G0 cdX12_write (some .int) (xRn2 G0 MT (d + 4)) Q b 15 [some (.inr (.inr 66)), some (.inl 1), some (.inl k)] [] (xup h 66 0 0)
      refine E2_s 2 (i' := 17) (ls' := [some (.inr (.inr 66)), some (.inl 1), some (.inl k)]) (sk' := [.inl 1, .inr (.inr 66)]) (h' := (xup h 66 0 0)) rfl ?_
      refine E2_b (x := (.ifCond .eq 11, 22, [], [])) rfl rfl (fun c17 => ?_) (fun c17 => ?_)
      · show xEx2 RX12 G0 cdX12_write (some .int) (xRn2 G0 MT (d + 4)) Q b 22 [some (.inr (.inr 66)), some (.inl 1), some (.inl k)] [.inr (.inr 66)] (xup h 66 0 0)
        exact absurd c17 (by decide)
      · show xEx2 RX12 G0 cdX12_write (some .int) (xRn2 G0 MT (d + 4)) Q b 18 [some (.inr (.inr 66)), some (.inl 1), some (.inl k)] [.inr (.inr 66)] (xup h 66 0 0)
        refine E2_s 4 (i' := 23) (ls' := [some (.inr (.inr 66)), some (.inl 1), some (.inl k)]) (sk' := [.inl (1000 + k), .inr (.inr 66)]) (h' := (xup h 66 0 0)) rfl ?_
        have hk2 : 0 ≤ k ∧ k < T 0 0 := by rw [← hRT.1]; omega
        refine E2_cp (x := (.invokevirtual 369, 1, [(10, 212)], [0])) (q := fun r h9 => r = (((TT S T k).length : Nat) : Int) ∧ WD (xup h 66 0 0) h9 (TT S T k)) rfl rfl (Nat.le_of_ble_eq_true rfl) (m_writes d 0 (xup h 66 0 0) (1000 + k) 129 (TT S T k) (by omega) (by have := TT_r hF hT hk2.1 hk2.2; omega) (DZ_T9 hF (RW0_of (h' := xup h 66 0 0) (fun _ _ _ => ⟨rfl, rfl, rfl⟩) h3.2 hR) h3.2 hT (RW1_of (h' := xup h 66 0 0) (fun _ _ _ => ⟨rfl, rfl, rfl⟩) h4.2 hRT) h4.2 hk2.1 hk2.2) (fun h9 z => ⟨_, rfl, rfl, z⟩)) (fun r9 h9 hq9 => ?_)
        show xEx2 RX12 G0 cdX12_write (some .int) (xRn2 G0 MT (d + 4)) Q b 24 [some (.inr (.inr 66)), some (.inl 1), some (.inl k)] [.inl r9] h9
        obtain ⟨er9, hw⟩ := hq9
        subst er9
        show xEx2 RX12 G0 cdX12_write (some .int) (xRn2 G0 MT (d + 4)) Q b 24 [some (.inr (.inr 66)), some (.inl 1), some (.inl k)] [.inl (((TT S T k).length : Nat) : Int)] h9
        exact E2_ret (x := (.ireturn, 0, [], [])) (v := some (.inl (((TT S T k).length : Nat) : Int))) rfl (Or.inl rfl) (hO (by omega) h9 hw)
    · show xEx2 RX12 G0 cdX12_write (some .int) (xRn2 G0 MT (d + 4)) Q b 13 [some (.inr (.inr 66)), some (.inl 1), some (.inl k)] [] (xup h 66 0 0)
      exact absurd c12 (by decide)
set_option maxHeartbeats 1000000 in
theorem m_wmZ0 (d b : Nat) (h S T : xH) (k : Int) (hk : xr k) (n0 : Int) (wt : Int → Int) (hF : FW n0 wt 9 S) (hT : FWT S 7 T) (h3 : 0 ≤ S 0 0 ∧ S 0 0 ≤ 300) (h4 : 0 ≤ T 0 0 ∧ T 0 0 ≤ 150) (hR : RR h S) (hRT : RRT h T) (hM0 : 0 ≤ h 66 8 ∧ h 66 8 ≤ 300) (h7r : ∀ k, 0 ≤ k → k < S 0 0 → 0 ≤ S 7 k ∧ S 7 k ≤ 400000) (hz : (0 ≤ k ∧ k < h 66 8) → h 76 k = 0) {Q : xO → xH → Prop} (hN : ¬ (0 ≤ k ∧ k < h 66 8) → Q (.inl (some (.inl (0)))) (xup h 66 0 1)) (hO : (0 ≤ k ∧ k < h 66 8) → Q (.inl (some (.inl (-1))))  (xup h 66 0 0)) : xRn2 G0 MT (d + 5) b 214 [.inr (.inr 66), .inl 0, .inl k] h Q := by
  refine R2_of (M := mX12_writeMerged) rfl (Nat.le_of_ble_eq_true rfl) ?_
  show xEx2 RX12 G0 cdX12_writeMerged (some .int) (xRn2 G0 MT (d + 4)) Q b 0 [some (.inr (.inr 66)), some (.inl 0), some (.inl k)] [] h
  refine E2_s 4 (i' := 4) (ls' := [some (.inr (.inr 66)), some (.inl 0), some (.inl k)]) (sk' := [.inl k, .inl 0, .inr (.inr 66), .inr (.inr 66)]) (h' := h) rfl ?_
  refine E2_cp (x := (.invokevirtual 295, 2, [(10, 193)], [0])) (q := fun r1 h9 => ((r1 = 1 ∧ (0 ≤ k ∧ k < h 66 8)) ∨ (r1 = 0 ∧ ¬ (0 ≤ k ∧ k < h 66 8))) ∧ h = h9) rfl rfl (Nat.le_of_ble_eq_true rfl) (xRn_2 _ _ _ _ _ _ (m_isKept0 (d + 2) 0 h k hk hM0 (fun z => ⟨_, rfl, Or.inl ⟨rfl, z⟩, rfl⟩) (fun z => ⟨_, rfl, Or.inr ⟨rfl, z⟩, rfl⟩))) (fun r1 h9 q1 => ?_)
  obtain ⟨q1, rfl⟩ := q1
  show xEx2 RX12 G0 cdX12_writeMerged (some .int) (xRn2 G0 MT (d + 4)) Q b 5 [some (.inr (.inr 66)), some (.inl 0), some (.inl k)] [.inl r1, .inr (.inr 66)] h
  refine E2_b (x := (.ifCond .eq 7, 8, [], [])) rfl rfl (fun c5 => ?_) (fun c5 => ?_)
  · rw [c_eq (by first | assumption | (refine ⟨?_, ?_⟩ <;> omega) | (simp only [xr] at *; omega)) (by first | assumption | (refine ⟨?_, ?_⟩ <;> omega) | (simp only [xr] at *; omega))] at c5
    simp only [decide_eq_true_eq, decide_eq_false_iff_not, Decidable.not_not] at c5
    show xEx2 RX12 G0 cdX12_writeMerged (some .int) (xRn2 G0 MT (d + 4)) Q b 8 [some (.inr (.inr 66)), some (.inl 0), some (.inl k)] [.inr (.inr 66)] h
    refine E2_s 4 (i' := 12) (ls' := [some (.inr (.inr 66)), some (.inl 0), some (.inl k)]) (sk' := [.inl 1]) (h' := (xup h 66 0 1)) rfl ?_
    refine E2_b (x := (.ifCond .le 5, 15, [], [])) rfl rfl (fun c12 => ?_) (fun c12 => ?_)
    · show xEx2 RX12 G0 cdX12_writeMerged (some .int) (xRn2 G0 MT (d + 4)) Q b 15 [some (.inr (.inr 66)), some (.inl 0), some (.inl k)] [] (xup h 66 0 1)
      exact absurd c12 (by decide)
    · show xEx2 RX12 G0 cdX12_writeMerged (some .int) (xRn2 G0 MT (d + 4)) Q b 13 [some (.inr (.inr 66)), some (.inl 0), some (.inl k)] [] (xup h 66 0 1)
      refine E2_s 1 (i' := 14) (ls' := [some (.inr (.inr 66)), some (.inl 0), some (.inl k)]) (sk' := [.inl 0]) (h' := (xup h 66 0 1)) rfl ?_
      exact E2_ret (x := (.ireturn, 0, [], [])) (v := some (.inl 0)) rfl (Or.inl rfl) (hN (by omega))
  · rw [c_eq (by first | assumption | (refine ⟨?_, ?_⟩ <;> omega) | (simp only [xr] at *; omega)) (by first | assumption | (refine ⟨?_, ?_⟩ <;> omega) | (simp only [xr] at *; omega))] at c5
    simp only [decide_eq_true_eq, decide_eq_false_iff_not, Decidable.not_not] at c5
    show xEx2 RX12 G0 cdX12_writeMerged (some .int) (xRn2 G0 MT (d + 4)) Q b 6 [some (.inr (.inr 66)), some (.inl 0), some (.inl k)] [.inr (.inr 66)] h
    refine E2_s 5 (i' := 12) (ls' := [some (.inr (.inr 66)), some (.inl 0), some (.inl k)]) (sk' := [.inl 0]) (h' := (xup h 66 0 0)) rfl ?_
    refine E2_b (x := (.ifCond .le 5, 15, [], [])) rfl rfl (fun c12 => ?_) (fun c12 => ?_)
    · show xEx2 RX12 G0 cdX12_writeMerged (some .int) (xRn2 G0 MT (d + 4)) Q b 15 [some (.inr (.inr 66)), some (.inl 0), some (.inl k)] [] (xup h 66 0 0)
      refine E2_s 3 (i' := 18) (ls' := [some (.inr (.inr 66)), some (.inl 0), some (.inl k)]) (sk' := [.inl k, .inl 0, .inr (.inr 66)]) (h' := (xup h 66 0 0)) rfl ?_
      have hk2 : 0 ≤ k ∧ k < S 0 0 := by rw [← hR.1]; omega
      have e7 : h 76 k = S 7 k := (hR.2.2.1 k hk2.1 hk2.2).2.2.2.2.2.1
      have hz9 := hz (by omega)
      have r7 := h7r k hk2.1 hk2.2
      refine E2_ci (x := (.invokevirtual 306, 2, [(10, 199)], [0])) (r := 0) (h' := (xup h 66 0 0)) rfl rfl (Nat.le_of_ble_eq_true rfl) (xRn_2 _ _ _ _ _ _ (m_laysM0 (d + 3) 0 (xup h 66 0 0) k (by omega) (show xr (h 76 k) by rw [e7]; exact ⟨by omega, by omega⟩) (fun _ => ⟨rfl, rfl⟩) (fun z9 => absurd hz9 z9))) ?_
      show xEx2 RX12 G0 cdX12_writeMerged (some .int) (xRn2 G0 MT (d + 4)) Q b 19 [some (.inr (.inr 66)), some (.inl 0), some (.inl k)] [.inl 0] (xup h 66 0 0)
      refine E2_b (x := (.ifCond .eq 23, 28, [], [])) rfl rfl (fun c19 => ?_) (fun c19 => ?_)
      · show xEx2 RX12 G0 cdX12_writeMerged (some .int) (xRn2 G0 MT (d + 4)) Q b 28 [some (.inr (.inr 66)), some (.inl 0), some (.inl k)] [] (xup h 66 0 0)
        refine E2_s 1 (i' := 29) (ls' := [some (.inr (.inr 66)), some (.inl 0), some (.inl k)]) (sk' := [.inl (-1)]) (h' := (xup h 66 0 0)) rfl ?_
        exact E2_ret (x := (.ireturn, 0, [], [])) (v := some (.inl (-1))) rfl (Or.inl rfl) (hO (by omega))
      · show xEx2 RX12 G0 cdX12_writeMerged (some .int) (xRn2 G0 MT (d + 4)) Q b 20 [some (.inr (.inr 66)), some (.inl 0), some (.inl k)] [] (xup h 66 0 0)
        exact absurd c19 (by decide)
    · show xEx2 RX12 G0 cdX12_writeMerged (some .int) (xRn2 G0 MT (d + 4)) Q b 13 [some (.inr (.inr 66)), some (.inl 0), some (.inl k)] [] (xup h 66 0 0)
      exact absurd c12 (by decide)
set_option maxHeartbeats 1000000 in
theorem m_wmO0 (d b : Nat) (h S T : xH) (k : Int) (hk : xr k) (n0 : Int) (wt : Int → Int) (hF : FW n0 wt 9 S) (hT : FWT S 7 T) (h3 : 0 ≤ S 0 0 ∧ S 0 0 ≤ 300) (h4 : 0 ≤ T 0 0 ∧ T 0 0 ≤ 150) (hR : RR h S) (hRT : RRT h T) (hM0 : 0 ≤ h 66 8 ∧ h 66 8 ≤ 300) (h7r : ∀ k, 0 ≤ k → k < S 0 0 → 0 ≤ S 7 k ∧ S 7 k ≤ 400000) (hz : (0 ≤ k ∧ k < h 66 8) → h 76 k ≠ 0) {Q : xO → xH → Prop} (hN : ¬ (0 ≤ k ∧ k < h 66 8) → Q (.inl (some (.inl (0)))) (xup h 66 0 1)) (hO : (0 ≤ k ∧ k < h 66 8) → ∀ h9, WD (xup (xup (xup (xup h 66 0 0) 69 300 (h 72 k)) 70 300 (h 73 k)) 71 300 (h 74 k)) h9 (FE S (S 8 k) (S 9 k) (S 10 k)) → Q (.inl (some (.inl (((FE S (S 8 k) (S 9 k) (S 10 k)).length : Nat)))))  h9) : xRn2 G0 MT (d + 5) b 214 [.inr (.inr 66), .inl 0, .inl k] h Q := by
  refine R2_of (M := mX12_writeMerged) rfl (Nat.le_of_ble_eq_true rfl) ?_
  show xEx2 RX12 G0 cdX12_writeMerged (some .int) (xRn2 G0 MT (d + 4)) Q b 0 [some (.inr (.inr 66)), some (.inl 0), some (.inl k)] [] h
  refine E2_s 4 (i' := 4) (ls' := [some (.inr (.inr 66)), some (.inl 0), some (.inl k)]) (sk' := [.inl k, .inl 0, .inr (.inr 66), .inr (.inr 66)]) (h' := h) rfl ?_
  refine E2_cp (x := (.invokevirtual 295, 2, [(10, 193)], [0])) (q := fun r1 h9 => ((r1 = 1 ∧ (0 ≤ k ∧ k < h 66 8)) ∨ (r1 = 0 ∧ ¬ (0 ≤ k ∧ k < h 66 8))) ∧ h = h9) rfl rfl (Nat.le_of_ble_eq_true rfl) (xRn_2 _ _ _ _ _ _ (m_isKept0 (d + 2) 0 h k hk hM0 (fun z => ⟨_, rfl, Or.inl ⟨rfl, z⟩, rfl⟩) (fun z => ⟨_, rfl, Or.inr ⟨rfl, z⟩, rfl⟩))) (fun r1 h9 q1 => ?_)
  obtain ⟨q1, rfl⟩ := q1
  show xEx2 RX12 G0 cdX12_writeMerged (some .int) (xRn2 G0 MT (d + 4)) Q b 5 [some (.inr (.inr 66)), some (.inl 0), some (.inl k)] [.inl r1, .inr (.inr 66)] h
  refine E2_b (x := (.ifCond .eq 7, 8, [], [])) rfl rfl (fun c5 => ?_) (fun c5 => ?_)
  · rw [c_eq (by first | assumption | (refine ⟨?_, ?_⟩ <;> omega) | (simp only [xr] at *; omega)) (by first | assumption | (refine ⟨?_, ?_⟩ <;> omega) | (simp only [xr] at *; omega))] at c5
    simp only [decide_eq_true_eq, decide_eq_false_iff_not, Decidable.not_not] at c5
    show xEx2 RX12 G0 cdX12_writeMerged (some .int) (xRn2 G0 MT (d + 4)) Q b 8 [some (.inr (.inr 66)), some (.inl 0), some (.inl k)] [.inr (.inr 66)] h
    refine E2_s 4 (i' := 12) (ls' := [some (.inr (.inr 66)), some (.inl 0), some (.inl k)]) (sk' := [.inl 1]) (h' := (xup h 66 0 1)) rfl ?_
    refine E2_b (x := (.ifCond .le 5, 15, [], [])) rfl rfl (fun c12 => ?_) (fun c12 => ?_)
    · show xEx2 RX12 G0 cdX12_writeMerged (some .int) (xRn2 G0 MT (d + 4)) Q b 15 [some (.inr (.inr 66)), some (.inl 0), some (.inl k)] [] (xup h 66 0 1)
      exact absurd c12 (by decide)
    · show xEx2 RX12 G0 cdX12_writeMerged (some .int) (xRn2 G0 MT (d + 4)) Q b 13 [some (.inr (.inr 66)), some (.inl 0), some (.inl k)] [] (xup h 66 0 1)
      refine E2_s 1 (i' := 14) (ls' := [some (.inr (.inr 66)), some (.inl 0), some (.inl k)]) (sk' := [.inl 0]) (h' := (xup h 66 0 1)) rfl ?_
      exact E2_ret (x := (.ireturn, 0, [], [])) (v := some (.inl 0)) rfl (Or.inl rfl) (hN (by omega))
  · rw [c_eq (by first | assumption | (refine ⟨?_, ?_⟩ <;> omega) | (simp only [xr] at *; omega)) (by first | assumption | (refine ⟨?_, ?_⟩ <;> omega) | (simp only [xr] at *; omega))] at c5
    simp only [decide_eq_true_eq, decide_eq_false_iff_not, Decidable.not_not] at c5
    show xEx2 RX12 G0 cdX12_writeMerged (some .int) (xRn2 G0 MT (d + 4)) Q b 6 [some (.inr (.inr 66)), some (.inl 0), some (.inl k)] [.inr (.inr 66)] h
    refine E2_s 5 (i' := 12) (ls' := [some (.inr (.inr 66)), some (.inl 0), some (.inl k)]) (sk' := [.inl 0]) (h' := (xup h 66 0 0)) rfl ?_
    refine E2_b (x := (.ifCond .le 5, 15, [], [])) rfl rfl (fun c12 => ?_) (fun c12 => ?_)
    · show xEx2 RX12 G0 cdX12_writeMerged (some .int) (xRn2 G0 MT (d + 4)) Q b 15 [some (.inr (.inr 66)), some (.inl 0), some (.inl k)] [] (xup h 66 0 0)
      refine E2_s 3 (i' := 18) (ls' := [some (.inr (.inr 66)), some (.inl 0), some (.inl k)]) (sk' := [.inl k, .inl 0, .inr (.inr 66)]) (h' := (xup h 66 0 0)) rfl ?_
      have hk2 : 0 ≤ k ∧ k < S 0 0 := by rw [← hR.1]; omega
      have e7 : h 76 k = S 7 k := (hR.2.2.1 k hk2.1 hk2.2).2.2.2.2.2.1
      have hz9 := hz (by omega)
      have r7 := h7r k hk2.1 hk2.2
      refine E2_ci (x := (.invokevirtual 306, 2, [(10, 199)], [0])) (r := 1) (h' := (xup (xup (xup (xup h 66 0 0) 69 300 (h 72 k)) 70 300 (h 73 k)) 71 300 (h 74 k))) rfl rfl (Nat.le_of_ble_eq_true rfl) (xRn_2 _ _ _ _ _ _ (m_laysM0 (d + 3) 0 (xup h 66 0 0) k (by omega) (show xr (h 76 k) by rw [e7]; exact ⟨by omega, by omega⟩) (fun z9 => absurd z9 hz9) (fun _ => ⟨rfl, rfl⟩))) ?_
      show xEx2 RX12 G0 cdX12_writeMerged (some .int) (xRn2 G0 MT (d + 4)) Q b 19 [some (.inr (.inr 66)), some (.inl 0), some (.inl k)] [.inl 1] (xup (xup (xup (xup h 66 0 0) 69 300 (h 72 k)) 70 300 (h 73 k)) 71 300 (h 74 k))
      refine E2_b (x := (.ifCond .eq 23, 28, [], [])) rfl rfl (fun c19 => ?_) (fun c19 => ?_)
      · show xEx2 RX12 G0 cdX12_writeMerged (some .int) (xRn2 G0 MT (d + 4)) Q b 28 [some (.inr (.inr 66)), some (.inl 0), some (.inl k)] [] (xup (xup (xup (xup h 66 0 0) 69 300 (h 72 k)) 70 300 (h 73 k)) 71 300 (h 74 k))
        exact absurd c19 (by decide)
      · show xEx2 RX12 G0 cdX12_writeMerged (some .int) (xRn2 G0 MT (d + 4)) Q b 20 [some (.inr (.inr 66)), some (.inl 0), some (.inl k)] [] (xup (xup (xup (xup h 66 0 0) 69 300 (h 72 k)) 70 300 (h 73 k)) 71 300 (h 74 k))
        refine E2_s 2 (i' := 22) (ls' := [some (.inr (.inr 66)), some (.inl 0), some (.inl k)]) (sk' := [.inl 0, .inr (.inr 66)]) (h' := (xup (xup (xup (xup h 66 0 0) 69 300 (h 72 k)) 70 300 (h 73 k)) 71 300 (h 74 k))) rfl ?_
        refine E2_b (x := (.ifCond .eq 9, 25, [], [])) rfl rfl (fun c22 => ?_) (fun c22 => ?_)
        · show xEx2 RX12 G0 cdX12_writeMerged (some .int) (xRn2 G0 MT (d + 4)) Q b 25 [some (.inr (.inr 66)), some (.inl 0), some (.inl k)] [.inr (.inr 66)] (xup (xup (xup (xup h 66 0 0) 69 300 (h 72 k)) 70 300 (h 73 k)) 71 300 (h 74 k))
          refine E2_s 1 (i' := 26) (ls' := [some (.inr (.inr 66)), some (.inl 0), some (.inl k)]) (sk' := [.inl 300, .inr (.inr 66)]) (h' := (xup (xup (xup (xup h 66 0 0) 69 300 (h 72 k)) 70 300 (h 73 k)) 71 300 (h 74 k))) rfl ?_
          obtain ⟨b1, b2, b3⟩ := (hR.2.2.1 k hk2.1 hk2.2).2.2.2.2.2.2 (by rw [← e7]; exact hz9)
          obtain ⟨yz, y9, cz⟩ := (hF k hk2.1 hk2.2).2.2.2.2.2.2 (by rw [← e7]; exact hz9)
          have wa : RW0 (xup (xup (xup (xup h 66 0 0) 69 300 (h 72 k)) 70 300 (h 73 k)) 71 300 (h 74 k)) S := (RW0_of (fun j z1 z2 => by refine ⟨?_, ?_, ?_⟩ <;> (unfold xup; simp only [reduceIte, Nat.reduceEqDiff]; try rw [if_neg (by omega)])) h3.2 hR)
          have wb : RW1 (xup (xup (xup (xup h 66 0 0) 69 300 (h 72 k)) 70 300 (h 73 k)) 71 300 (h 74 k)) T := (RW1_of (fun j z1 z2 => by refine ⟨?_, ?_, ?_⟩ <;> (unfold xup; simp only [reduceIte, Nat.reduceEqDiff]; try rw [if_neg (by omega)])) h4.2 hRT)
          refine E2_cp (x := (.invokevirtual 369, 1, [(10, 212)], [0])) (q := fun r h9 => r = (((FE S (S 8 k) (S 9 k) (S 10 k)).length : Nat) : Int) ∧ WD (xup (xup (xup (xup h 66 0 0) 69 300 (h 72 k)) 70 300 (h 73 k)) 71 300 (h 74 k)) h9 (FE S (S 8 k) (S 9 k) (S 10 k))) rfl rfl (Nat.le_of_ble_eq_true rfl) (m_writes d 0 (xup (xup (xup (xup h 66 0 0) 69 300 (h 72 k)) 70 300 (h 73 k)) 71 300 (h 74 k)) 300 81 (FE S (S 8 k) (S 9 k) (S 10 k)) (by omega) (by have := FE_r hF cz; omega) (DZ_Em (m := 73) (k := 300) hF (by omega) (by omega) b1 b2 b3 cz (fun j j0 j1 _ => DZ_E9 hF wa h3.2 j0 j1)) (fun h9 z => ⟨_, rfl, rfl, z⟩)) (fun r9 h9 hq9 => ?_)
          show xEx2 RX12 G0 cdX12_writeMerged (some .int) (xRn2 G0 MT (d + 4)) Q b 27 [some (.inr (.inr 66)), some (.inl 0), some (.inl k)] [.inl r9] h9
          obtain ⟨er9, hw⟩ := hq9
          subst er9
          show xEx2 RX12 G0 cdX12_writeMerged (some .int) (xRn2 G0 MT (d + 4)) Q b 27 [some (.inr (.inr 66)), some (.inl 0), some (.inl k)] [.inl (((FE S (S 8 k) (S 9 k) (S 10 k)).length : Nat) : Int)] h9
          refine E2_s 1 (i' := 29) (ls' := [some (.inr (.inr 66)), some (.inl 0), some (.inl k)]) (sk' := [.inl (((FE S (S 8 k) (S 9 k) (S 10 k)).length : Nat) : Int)]) (h' := h9) rfl ?_
          exact E2_ret (x := (.ireturn, 0, [], [])) (v := some (.inl (((FE S (S 8 k) (S 9 k) (S 10 k)).length : Nat) : Int))) rfl (Or.inl rfl) (hO (by omega) h9 hw)
        · show xEx2 RX12 G0 cdX12_writeMerged (some .int) (xRn2 G0 MT (d + 4)) Q b 23 [some (.inr (.inr 66)), some (.inl 0), some (.inl k)] [.inr (.inr 66)] (xup (xup (xup (xup h 66 0 0) 69 300 (h 72 k)) 70 300 (h 73 k)) 71 300 (h 74 k))
          exact absurd c22 (by decide)
    · show xEx2 RX12 G0 cdX12_writeMerged (some .int) (xRn2 G0 MT (d + 4)) Q b 13 [some (.inr (.inr 66)), some (.inl 0), some (.inl k)] [] (xup h 66 0 0)
      exact absurd c12 (by decide)
set_option maxHeartbeats 1000000 in
theorem m_wmZ1 (d b : Nat) (h S T : xH) (k : Int) (hk : xr k) (n0 : Int) (wt : Int → Int) (hF : FW n0 wt 9 S) (hT : FWT S 7 T) (h3 : 0 ≤ S 0 0 ∧ S 0 0 ≤ 300) (h4 : 0 ≤ T 0 0 ∧ T 0 0 ≤ 150) (hR : RR h S) (hRT : RRT h T) (hM1 : 0 ≤ h 66 19 ∧ h 66 19 ≤ 150) (h7r : ∀ k, 0 ≤ k → k < T 0 0 → 0 ≤ T 7 k ∧ T 7 k ≤ 400000) (hz : (0 ≤ k ∧ k < h 66 19) → h 86 k = 0) {Q : xO → xH → Prop} (hN : ¬ (0 ≤ k ∧ k < h 66 19) → Q (.inl (some (.inl (0)))) (xup h 66 0 1)) (hO : (0 ≤ k ∧ k < h 66 19) → Q (.inl (some (.inl (-1))))  (xup h 66 0 0)) : xRn2 G0 MT (d + 5) b 214 [.inr (.inr 66), .inl 1, .inl k] h Q := by
  refine R2_of (M := mX12_writeMerged) rfl (Nat.le_of_ble_eq_true rfl) ?_
  show xEx2 RX12 G0 cdX12_writeMerged (some .int) (xRn2 G0 MT (d + 4)) Q b 0 [some (.inr (.inr 66)), some (.inl 1), some (.inl k)] [] h
  refine E2_s 4 (i' := 4) (ls' := [some (.inr (.inr 66)), some (.inl 1), some (.inl k)]) (sk' := [.inl k, .inl 1, .inr (.inr 66), .inr (.inr 66)]) (h' := h) rfl ?_
  refine E2_cp (x := (.invokevirtual 295, 2, [(10, 193)], [0])) (q := fun r1 h9 => ((r1 = 1 ∧ (0 ≤ k ∧ k < h 66 19)) ∨ (r1 = 0 ∧ ¬ (0 ≤ k ∧ k < h 66 19))) ∧ h = h9) rfl rfl (Nat.le_of_ble_eq_true rfl) (xRn_2 _ _ _ _ _ _ (m_isKept1 (d + 2) 0 h k hk hM1 (fun z => ⟨_, rfl, Or.inl ⟨rfl, z⟩, rfl⟩) (fun z => ⟨_, rfl, Or.inr ⟨rfl, z⟩, rfl⟩))) (fun r1 h9 q1 => ?_)
  obtain ⟨q1, rfl⟩ := q1
  show xEx2 RX12 G0 cdX12_writeMerged (some .int) (xRn2 G0 MT (d + 4)) Q b 5 [some (.inr (.inr 66)), some (.inl 1), some (.inl k)] [.inl r1, .inr (.inr 66)] h
  refine E2_b (x := (.ifCond .eq 7, 8, [], [])) rfl rfl (fun c5 => ?_) (fun c5 => ?_)
  · rw [c_eq (by first | assumption | (refine ⟨?_, ?_⟩ <;> omega) | (simp only [xr] at *; omega)) (by first | assumption | (refine ⟨?_, ?_⟩ <;> omega) | (simp only [xr] at *; omega))] at c5
    simp only [decide_eq_true_eq, decide_eq_false_iff_not, Decidable.not_not] at c5
    show xEx2 RX12 G0 cdX12_writeMerged (some .int) (xRn2 G0 MT (d + 4)) Q b 8 [some (.inr (.inr 66)), some (.inl 1), some (.inl k)] [.inr (.inr 66)] h
    refine E2_s 4 (i' := 12) (ls' := [some (.inr (.inr 66)), some (.inl 1), some (.inl k)]) (sk' := [.inl 1]) (h' := (xup h 66 0 1)) rfl ?_
    refine E2_b (x := (.ifCond .le 5, 15, [], [])) rfl rfl (fun c12 => ?_) (fun c12 => ?_)
    · show xEx2 RX12 G0 cdX12_writeMerged (some .int) (xRn2 G0 MT (d + 4)) Q b 15 [some (.inr (.inr 66)), some (.inl 1), some (.inl k)] [] (xup h 66 0 1)
      exact absurd c12 (by decide)
    · show xEx2 RX12 G0 cdX12_writeMerged (some .int) (xRn2 G0 MT (d + 4)) Q b 13 [some (.inr (.inr 66)), some (.inl 1), some (.inl k)] [] (xup h 66 0 1)
      refine E2_s 1 (i' := 14) (ls' := [some (.inr (.inr 66)), some (.inl 1), some (.inl k)]) (sk' := [.inl 0]) (h' := (xup h 66 0 1)) rfl ?_
      exact E2_ret (x := (.ireturn, 0, [], [])) (v := some (.inl 0)) rfl (Or.inl rfl) (hN (by omega))
  · rw [c_eq (by first | assumption | (refine ⟨?_, ?_⟩ <;> omega) | (simp only [xr] at *; omega)) (by first | assumption | (refine ⟨?_, ?_⟩ <;> omega) | (simp only [xr] at *; omega))] at c5
    simp only [decide_eq_true_eq, decide_eq_false_iff_not, Decidable.not_not] at c5
    show xEx2 RX12 G0 cdX12_writeMerged (some .int) (xRn2 G0 MT (d + 4)) Q b 6 [some (.inr (.inr 66)), some (.inl 1), some (.inl k)] [.inr (.inr 66)] h
    refine E2_s 5 (i' := 12) (ls' := [some (.inr (.inr 66)), some (.inl 1), some (.inl k)]) (sk' := [.inl 0]) (h' := (xup h 66 0 0)) rfl ?_
    refine E2_b (x := (.ifCond .le 5, 15, [], [])) rfl rfl (fun c12 => ?_) (fun c12 => ?_)
    · show xEx2 RX12 G0 cdX12_writeMerged (some .int) (xRn2 G0 MT (d + 4)) Q b 15 [some (.inr (.inr 66)), some (.inl 1), some (.inl k)] [] (xup h 66 0 0)
      refine E2_s 3 (i' := 18) (ls' := [some (.inr (.inr 66)), some (.inl 1), some (.inl k)]) (sk' := [.inl k, .inl 1, .inr (.inr 66)]) (h' := (xup h 66 0 0)) rfl ?_
      have hk2 : 0 ≤ k ∧ k < T 0 0 := by rw [← hRT.1]; omega
      have e7 : h 86 k = T 7 k := (hRT.2.2.2 k hk2.1 hk2.2).2.2.2.2.2.1
      have hz9 := hz (by omega)
      have r7 := h7r k hk2.1 hk2.2
      refine E2_ci (x := (.invokevirtual 306, 2, [(10, 199)], [0])) (r := 0) (h' := (xup h 66 0 0)) rfl rfl (Nat.le_of_ble_eq_true rfl) (xRn_2 _ _ _ _ _ _ (m_laysM1 (d + 3) 0 (xup h 66 0 0) k (by omega) (show xr (h 86 k) by rw [e7]; exact ⟨by omega, by omega⟩) (fun _ => ⟨rfl, rfl⟩) (fun z9 => absurd hz9 z9))) ?_
      show xEx2 RX12 G0 cdX12_writeMerged (some .int) (xRn2 G0 MT (d + 4)) Q b 19 [some (.inr (.inr 66)), some (.inl 1), some (.inl k)] [.inl 0] (xup h 66 0 0)
      refine E2_b (x := (.ifCond .eq 23, 28, [], [])) rfl rfl (fun c19 => ?_) (fun c19 => ?_)
      · show xEx2 RX12 G0 cdX12_writeMerged (some .int) (xRn2 G0 MT (d + 4)) Q b 28 [some (.inr (.inr 66)), some (.inl 1), some (.inl k)] [] (xup h 66 0 0)
        refine E2_s 1 (i' := 29) (ls' := [some (.inr (.inr 66)), some (.inl 1), some (.inl k)]) (sk' := [.inl (-1)]) (h' := (xup h 66 0 0)) rfl ?_
        exact E2_ret (x := (.ireturn, 0, [], [])) (v := some (.inl (-1))) rfl (Or.inl rfl) (hO (by omega))
      · show xEx2 RX12 G0 cdX12_writeMerged (some .int) (xRn2 G0 MT (d + 4)) Q b 20 [some (.inr (.inr 66)), some (.inl 1), some (.inl k)] [] (xup h 66 0 0)
        exact absurd c19 (by decide)
    · show xEx2 RX12 G0 cdX12_writeMerged (some .int) (xRn2 G0 MT (d + 4)) Q b 13 [some (.inr (.inr 66)), some (.inl 1), some (.inl k)] [] (xup h 66 0 0)
      exact absurd c12 (by decide)
set_option maxHeartbeats 1000000 in
theorem m_wmO1 (d b : Nat) (h S T : xH) (k : Int) (hk : xr k) (n0 : Int) (wt : Int → Int) (hF : FW n0 wt 9 S) (hT : FWT S 7 T) (h3 : 0 ≤ S 0 0 ∧ S 0 0 ≤ 300) (h4 : 0 ≤ T 0 0 ∧ T 0 0 ≤ 150) (hR : RR h S) (hRT : RRT h T) (hM1 : 0 ≤ h 66 19 ∧ h 66 19 ≤ 150) (h7r : ∀ k, 0 ≤ k → k < T 0 0 → 0 ≤ T 7 k ∧ T 7 k ≤ 400000) (hz : (0 ≤ k ∧ k < h 66 19) → h 86 k ≠ 0) {Q : xO → xH → Prop} (hN : ¬ (0 ≤ k ∧ k < h 66 19) → Q (.inl (some (.inl (0)))) (xup h 66 0 1)) (hO : (0 ≤ k ∧ k < h 66 19) → ∀ h9, WD (xup (xup (xup (xup h 66 0 0) 79 150 (h 82 k)) 80 150 (h 83 k)) 81 150 (h 84 k)) h9 (GT S T (T 8 k) (T 9 k) (T 10 k)) → Q (.inl (some (.inl (((GT S T (T 8 k) (T 9 k) (T 10 k)).length : Nat)))))  h9) : xRn2 G0 MT (d + 5) b 214 [.inr (.inr 66), .inl 1, .inl k] h Q := by
  refine R2_of (M := mX12_writeMerged) rfl (Nat.le_of_ble_eq_true rfl) ?_
  show xEx2 RX12 G0 cdX12_writeMerged (some .int) (xRn2 G0 MT (d + 4)) Q b 0 [some (.inr (.inr 66)), some (.inl 1), some (.inl k)] [] h
  refine E2_s 4 (i' := 4) (ls' := [some (.inr (.inr 66)), some (.inl 1), some (.inl k)]) (sk' := [.inl k, .inl 1, .inr (.inr 66), .inr (.inr 66)]) (h' := h) rfl ?_
  refine E2_cp (x := (.invokevirtual 295, 2, [(10, 193)], [0])) (q := fun r1 h9 => ((r1 = 1 ∧ (0 ≤ k ∧ k < h 66 19)) ∨ (r1 = 0 ∧ ¬ (0 ≤ k ∧ k < h 66 19))) ∧ h = h9) rfl rfl (Nat.le_of_ble_eq_true rfl) (xRn_2 _ _ _ _ _ _ (m_isKept1 (d + 2) 0 h k hk hM1 (fun z => ⟨_, rfl, Or.inl ⟨rfl, z⟩, rfl⟩) (fun z => ⟨_, rfl, Or.inr ⟨rfl, z⟩, rfl⟩))) (fun r1 h9 q1 => ?_)
  obtain ⟨q1, rfl⟩ := q1
  show xEx2 RX12 G0 cdX12_writeMerged (some .int) (xRn2 G0 MT (d + 4)) Q b 5 [some (.inr (.inr 66)), some (.inl 1), some (.inl k)] [.inl r1, .inr (.inr 66)] h
  refine E2_b (x := (.ifCond .eq 7, 8, [], [])) rfl rfl (fun c5 => ?_) (fun c5 => ?_)
  · rw [c_eq (by first | assumption | (refine ⟨?_, ?_⟩ <;> omega) | (simp only [xr] at *; omega)) (by first | assumption | (refine ⟨?_, ?_⟩ <;> omega) | (simp only [xr] at *; omega))] at c5
    simp only [decide_eq_true_eq, decide_eq_false_iff_not, Decidable.not_not] at c5
    show xEx2 RX12 G0 cdX12_writeMerged (some .int) (xRn2 G0 MT (d + 4)) Q b 8 [some (.inr (.inr 66)), some (.inl 1), some (.inl k)] [.inr (.inr 66)] h
    refine E2_s 4 (i' := 12) (ls' := [some (.inr (.inr 66)), some (.inl 1), some (.inl k)]) (sk' := [.inl 1]) (h' := (xup h 66 0 1)) rfl ?_
    refine E2_b (x := (.ifCond .le 5, 15, [], [])) rfl rfl (fun c12 => ?_) (fun c12 => ?_)
    · show xEx2 RX12 G0 cdX12_writeMerged (some .int) (xRn2 G0 MT (d + 4)) Q b 15 [some (.inr (.inr 66)), some (.inl 1), some (.inl k)] [] (xup h 66 0 1)
      exact absurd c12 (by decide)
    · show xEx2 RX12 G0 cdX12_writeMerged (some .int) (xRn2 G0 MT (d + 4)) Q b 13 [some (.inr (.inr 66)), some (.inl 1), some (.inl k)] [] (xup h 66 0 1)
      refine E2_s 1 (i' := 14) (ls' := [some (.inr (.inr 66)), some (.inl 1), some (.inl k)]) (sk' := [.inl 0]) (h' := (xup h 66 0 1)) rfl ?_
      exact E2_ret (x := (.ireturn, 0, [], [])) (v := some (.inl 0)) rfl (Or.inl rfl) (hN (by omega))
  · rw [c_eq (by first | assumption | (refine ⟨?_, ?_⟩ <;> omega) | (simp only [xr] at *; omega)) (by first | assumption | (refine ⟨?_, ?_⟩ <;> omega) | (simp only [xr] at *; omega))] at c5
    simp only [decide_eq_true_eq, decide_eq_false_iff_not, Decidable.not_not] at c5
    show xEx2 RX12 G0 cdX12_writeMerged (some .int) (xRn2 G0 MT (d + 4)) Q b 6 [some (.inr (.inr 66)), some (.inl 1), some (.inl k)] [.inr (.inr 66)] h
    refine E2_s 5 (i' := 12) (ls' := [some (.inr (.inr 66)), some (.inl 1), some (.inl k)]) (sk' := [.inl 0]) (h' := (xup h 66 0 0)) rfl ?_
    refine E2_b (x := (.ifCond .le 5, 15, [], [])) rfl rfl (fun c12 => ?_) (fun c12 => ?_)
    · show xEx2 RX12 G0 cdX12_writeMerged (some .int) (xRn2 G0 MT (d + 4)) Q b 15 [some (.inr (.inr 66)), some (.inl 1), some (.inl k)] [] (xup h 66 0 0)
      refine E2_s 3 (i' := 18) (ls' := [some (.inr (.inr 66)), some (.inl 1), some (.inl k)]) (sk' := [.inl k, .inl 1, .inr (.inr 66)]) (h' := (xup h 66 0 0)) rfl ?_
      have hk2 : 0 ≤ k ∧ k < T 0 0 := by rw [← hRT.1]; omega
      have e7 : h 86 k = T 7 k := (hRT.2.2.2 k hk2.1 hk2.2).2.2.2.2.2.1
      have hz9 := hz (by omega)
      have r7 := h7r k hk2.1 hk2.2
      refine E2_ci (x := (.invokevirtual 306, 2, [(10, 199)], [0])) (r := 1) (h' := (xup (xup (xup (xup h 66 0 0) 79 150 (h 82 k)) 80 150 (h 83 k)) 81 150 (h 84 k))) rfl rfl (Nat.le_of_ble_eq_true rfl) (xRn_2 _ _ _ _ _ _ (m_laysM1 (d + 3) 0 (xup h 66 0 0) k (by omega) (show xr (h 86 k) by rw [e7]; exact ⟨by omega, by omega⟩) (fun z9 => absurd z9 hz9) (fun _ => ⟨rfl, rfl⟩))) ?_
      show xEx2 RX12 G0 cdX12_writeMerged (some .int) (xRn2 G0 MT (d + 4)) Q b 19 [some (.inr (.inr 66)), some (.inl 1), some (.inl k)] [.inl 1] (xup (xup (xup (xup h 66 0 0) 79 150 (h 82 k)) 80 150 (h 83 k)) 81 150 (h 84 k))
      refine E2_b (x := (.ifCond .eq 23, 28, [], [])) rfl rfl (fun c19 => ?_) (fun c19 => ?_)
      · show xEx2 RX12 G0 cdX12_writeMerged (some .int) (xRn2 G0 MT (d + 4)) Q b 28 [some (.inr (.inr 66)), some (.inl 1), some (.inl k)] [] (xup (xup (xup (xup h 66 0 0) 79 150 (h 82 k)) 80 150 (h 83 k)) 81 150 (h 84 k))
        exact absurd c19 (by decide)
      · show xEx2 RX12 G0 cdX12_writeMerged (some .int) (xRn2 G0 MT (d + 4)) Q b 20 [some (.inr (.inr 66)), some (.inl 1), some (.inl k)] [] (xup (xup (xup (xup h 66 0 0) 79 150 (h 82 k)) 80 150 (h 83 k)) 81 150 (h 84 k))
        refine E2_s 2 (i' := 22) (ls' := [some (.inr (.inr 66)), some (.inl 1), some (.inl k)]) (sk' := [.inl 1, .inr (.inr 66)]) (h' := (xup (xup (xup (xup h 66 0 0) 79 150 (h 82 k)) 80 150 (h 83 k)) 81 150 (h 84 k))) rfl ?_
        refine E2_b (x := (.ifCond .eq 9, 25, [], [])) rfl rfl (fun c22 => ?_) (fun c22 => ?_)
        · show xEx2 RX12 G0 cdX12_writeMerged (some .int) (xRn2 G0 MT (d + 4)) Q b 25 [some (.inr (.inr 66)), some (.inl 1), some (.inl k)] [.inr (.inr 66)] (xup (xup (xup (xup h 66 0 0) 79 150 (h 82 k)) 80 150 (h 83 k)) 81 150 (h 84 k))
          exact absurd c22 (by decide)
        · show xEx2 RX12 G0 cdX12_writeMerged (some .int) (xRn2 G0 MT (d + 4)) Q b 23 [some (.inr (.inr 66)), some (.inl 1), some (.inl k)] [.inr (.inr 66)] (xup (xup (xup (xup h 66 0 0) 79 150 (h 82 k)) 80 150 (h 83 k)) 81 150 (h 84 k))
          refine E2_s 2 (i' := 26) (ls' := [some (.inr (.inr 66)), some (.inl 1), some (.inl k)]) (sk' := [.inl 1150, .inr (.inr 66)]) (h' := (xup (xup (xup (xup h 66 0 0) 79 150 (h 82 k)) 80 150 (h 83 k)) 81 150 (h 84 k))) rfl ?_
          obtain ⟨b1, b2, b3⟩ := (hRT.2.2.2 k hk2.1 hk2.2).2.2.2.2.2.2 (by rw [← e7]; exact hz9)
          obtain ⟨yz, y9, cz⟩ := (hT k hk2.1 hk2.2).2.2.2.2.2 (by rw [← e7]; exact hz9)
          have wa : RW0 (xup (xup (xup (xup h 66 0 0) 79 150 (h 82 k)) 80 150 (h 83 k)) 81 150 (h 84 k)) S := (RW0_of (fun j z1 z2 => by refine ⟨?_, ?_, ?_⟩ <;> (unfold xup; simp only [reduceIte, Nat.reduceEqDiff]; try rw [if_neg (by omega)])) h3.2 hR)
          have wb : RW1 (xup (xup (xup (xup h 66 0 0) 79 150 (h 82 k)) 80 150 (h 83 k)) 81 150 (h 84 k)) T := (RW1_of (fun j z1 z2 => by refine ⟨?_, ?_, ?_⟩ <;> (unfold xup; simp only [reduceIte, Nat.reduceEqDiff]; try rw [if_neg (by omega)])) h4.2 hRT)
          refine E2_cp (x := (.invokevirtual 369, 1, [(10, 212)], [0])) (q := fun r h9 => r = (((GT S T (T 8 k) (T 9 k) (T 10 k)).length : Nat) : Int) ∧ WD (xup (xup (xup (xup h 66 0 0) 79 150 (h 82 k)) 80 150 (h 83 k)) 81 150 (h 84 k)) h9 (GT S T (T 8 k) (T 9 k) (T 10 k))) rfl rfl (Nat.le_of_ble_eq_true rfl) (m_writes d 0 (xup (xup (xup (xup h 66 0 0) 79 150 (h 82 k)) 80 150 (h 83 k)) 81 150 (h 84 k)) 1150 137 (GT S T (T 8 k) (T 9 k) (T 10 k)) (by omega) (by have := GT_r hF hT y9 cz; omega) (DZ_Tm (m := 129) (k := 150) hF wa h3.2 hT (by omega) (by omega) b1 b2 b3 cz (fun j j0 j1 _ => DZ_T9 hF wa h3.2 hT wb h4.2 j0 j1)) (fun h9 z => ⟨_, rfl, rfl, z⟩)) (fun r9 h9 hq9 => ?_)
          show xEx2 RX12 G0 cdX12_writeMerged (some .int) (xRn2 G0 MT (d + 4)) Q b 27 [some (.inr (.inr 66)), some (.inl 1), some (.inl k)] [.inl r9] h9
          obtain ⟨er9, hw⟩ := hq9
          subst er9
          show xEx2 RX12 G0 cdX12_writeMerged (some .int) (xRn2 G0 MT (d + 4)) Q b 27 [some (.inr (.inr 66)), some (.inl 1), some (.inl k)] [.inl (((GT S T (T 8 k) (T 9 k) (T 10 k)).length : Nat) : Int)] h9
          refine E2_s 1 (i' := 29) (ls' := [some (.inr (.inr 66)), some (.inl 1), some (.inl k)]) (sk' := [.inl (((GT S T (T 8 k) (T 9 k) (T 10 k)).length : Nat) : Int)]) (h' := h9) rfl ?_
          exact E2_ret (x := (.ireturn, 0, [], [])) (v := some (.inl (((GT S T (T 8 k) (T 9 k) (T 10 k)).length : Nat) : Int))) rfl (Or.inl rfl) (hO (by omega) h9 hw)
    · show xEx2 RX12 G0 cdX12_writeMerged (some .int) (xRn2 G0 MT (d + 4)) Q b 13 [some (.inr (.inr 66)), some (.inl 1), some (.inl k)] [] (xup h 66 0 0)
      exact absurd c12 (by decide)
set_option maxHeartbeats 1000000 in
theorem m_ws (d b : Nat) (h S T : xH) (as le : Int → Int) (n0 : Int) (wt : Int → Int) (hF : FW n0 wt 9 S) (hT : FWT S 7 T) (h3 : 0 ≤ S 0 0 ∧ S 0 0 ≤ 300) (h4 : 0 ≤ T 0 0 ∧ T 0 0 ≤ 150) (hR : RR h S) (hRT : RRT h T) (hs : h 66 50 = 0 ∨ h 66 50 = 1) (tn : h 66 50 = 1 → TN h as le) (tr : h 66 50 = 1 → TRp as le S T 3 0) {Q : xO → xH → Prop} (hN : ¬ (h 66 50 = 1) → Q (.inl (some (.inl (0)))) (xup h 66 0 1)) (hO : h 66 50 = 1 → ∀ h9, WD (xup h 66 0 0) h9 (txN S T as le 3 0) → Q (.inl (some (.inl (((txN S T as le 3 0).length : Nat)))))  h9) : xRn2 G0 MT (d + 5) b 243 [.inr (.inr 66)] h Q := by
  refine R2_of (M := mX12_writeSolved) rfl (Nat.le_of_ble_eq_true rfl) ?_
  show xEx2 RX12 G0 cdX12_writeSolved (some .int) (xRn2 G0 MT (d + 4)) Q b 0 [some (.inr (.inr 66))] [] h
  refine E2_s 3 (i' := 3) (ls' := [some (.inr (.inr 66))]) (sk' := [.inl (h 66 50), .inr (.inr 66)]) (h' := h) rfl ?_
  refine E2_b (x := (.ifCond .eq 7, 6, [], [])) rfl rfl (fun c3 => ?_) (fun c3 => ?_)
  · rw [c_eq (by first | assumption | (refine ⟨?_, ?_⟩ <;> omega) | (simp only [xr] at *; omega)) (by first | assumption | (refine ⟨?_, ?_⟩ <;> omega) | (simp only [xr] at *; omega))] at c3
    simp only [decide_eq_true_eq, decide_eq_false_iff_not, Decidable.not_not] at c3
    show xEx2 RX12 G0 cdX12_writeSolved (some .int) (xRn2 G0 MT (d + 4)) Q b 6 [some (.inr (.inr 66))] [.inr (.inr 66)] h
    refine E2_s 4 (i' := 10) (ls' := [some (.inr (.inr 66))]) (sk' := [.inl 1]) (h' := (xup h 66 0 1)) rfl ?_
    refine E2_b (x := (.ifCond .le 7, 13, [], [])) rfl rfl (fun c10 => ?_) (fun c10 => ?_)
    · show xEx2 RX12 G0 cdX12_writeSolved (some .int) (xRn2 G0 MT (d + 4)) Q b 13 [some (.inr (.inr 66))] [] (xup h 66 0 1)
      exact absurd c10 (by decide)
    · show xEx2 RX12 G0 cdX12_writeSolved (some .int) (xRn2 G0 MT (d + 4)) Q b 11 [some (.inr (.inr 66))] [] (xup h 66 0 1)
      refine E2_s 2 (i' := 16) (ls' := [some (.inr (.inr 66))]) (sk' := [.inl 0]) (h' := (xup h 66 0 1)) rfl ?_
      exact E2_ret (x := (.ireturn, 0, [], [])) (v := some (.inl 0)) rfl (Or.inl rfl) (hN (by omega))
  · rw [c_eq (by first | assumption | (refine ⟨?_, ?_⟩ <;> omega) | (simp only [xr] at *; omega)) (by first | assumption | (refine ⟨?_, ?_⟩ <;> omega) | (simp only [xr] at *; omega))] at c3
    simp only [decide_eq_true_eq, decide_eq_false_iff_not, Decidable.not_not] at c3
    show xEx2 RX12 G0 cdX12_writeSolved (some .int) (xRn2 G0 MT (d + 4)) Q b 4 [some (.inr (.inr 66))] [.inr (.inr 66)] h
    refine E2_s 5 (i' := 10) (ls' := [some (.inr (.inr 66))]) (sk' := [.inl 0]) (h' := (xup h 66 0 0)) rfl ?_
    refine E2_b (x := (.ifCond .le 7, 13, [], [])) rfl rfl (fun c10 => ?_) (fun c10 => ?_)
    · show xEx2 RX12 G0 cdX12_writeSolved (some .int) (xRn2 G0 MT (d + 4)) Q b 13 [some (.inr (.inr 66))] [] (xup h 66 0 0)
      refine E2_s 2 (i' := 15) (ls' := [some (.inr (.inr 66))]) (sk' := [.inl 2001, .inr (.inr 66)]) (h' := (xup h 66 0 0)) rfl ?_
      have hs9 : h 66 50 = 1 := by omega
      have ht := tr hs9
      refine E2_cp (x := (.invokevirtual 369, 1, [(10, 212)], [0])) (q := fun r h9 => r = (((txN S T as le 3 0).length : Nat) : Int) ∧ WD (xup h 66 0 0) h9 (txN S T as le 3 0)) rfl rfl (Nat.le_of_ble_eq_true rfl) (m_writes d 0 (xup h 66 0 0) 2001 161 (txN S T as le 3 0) (by omega) (by have := txN_r hF hT 3 0 ht; have : (2 ^ 3 : Nat) = 8 := rfl; omega) (DZ_N3 hF (RW0_of (h' := xup h 66 0 0) (fun _ _ _ => ⟨rfl, rfl, rfl⟩) h3.2 hR) h3.2 hT (RW1_of (h' := xup h 66 0 0) (fun _ _ _ => ⟨rfl, rfl, rfl⟩) h4.2 hRT) h4.2 (fun j z1 z2 => by have q := tn hs9 (j + 1) (by omega) (by omega); rw [show j + 1 - 1 = j by omega] at q; exact q) ht) (fun h9 z => ⟨_, rfl, rfl, z⟩)) (fun r9 h9 hq9 => ?_)
      show xEx2 RX12 G0 cdX12_writeSolved (some .int) (xRn2 G0 MT (d + 4)) Q b 16 [some (.inr (.inr 66))] [.inl r9] h9
      obtain ⟨er9, hw⟩ := hq9
      subst er9
      show xEx2 RX12 G0 cdX12_writeSolved (some .int) (xRn2 G0 MT (d + 4)) Q b 16 [some (.inr (.inr 66))] [.inl (((txN S T as le 3 0).length : Nat) : Int)] h9
      exact E2_ret (x := (.ireturn, 0, [], [])) (v := some (.inl (((txN S T as le 3 0).length : Nat) : Int))) rfl (Or.inl rfl) (hO (by omega) h9 hw)
    · show xEx2 RX12 G0 cdX12_writeSolved (some .int) (xRn2 G0 MT (d + 4)) Q b 11 [some (.inr (.inr 66))] [] (xup h 66 0 0)
      exact absurd c10 (by decide)
