set_option maxHeartbeats 1000000 in
theorem m_laysM0 (d b : Nat) (h : xH) (k : Int) (hk : 0 ≤ k ∧ k < 300) (hr : xr (h 76 k)) {Q : xO → xH → Prop} (h0 : h 76 k = 0 → Q (.inl (some (.inl (0)))) h) (h1 : h 76 k ≠ 0 → Q (.inl (some (.inl (1)))) (xup (xup (xup (h) 69 300 (h 72 k)) 70 300 (h 73 k)) 71 300 (h 74 k))) : xRn G0 MT (d + 1) b 199 [.inr (.inr 66), .inl 0, .inl k] h Q := by
  refine R_of (M := mX12_laysMerged) rfl (Nat.le_of_ble_eq_true rfl) ?_
  show xEx G0 cdX12_laysMerged (some .boolean) (xRn G0 MT d) Q b 0 [some (.inr (.inr 66)), some (.inl 0), some (.inl k)] [] h
  refine E_s 1 (i' := 1) (ls' := [some (.inr (.inr 66)), some (.inl 0), some (.inl k)]) (sk' := [.inl 0]) (h' := h) rfl ?_
  refine E_b (x := (.ifCond .eq 15, 8, [], [])) rfl rfl (fun c1 => ?_) (fun c1 => ?_)
  · show xEx G0 cdX12_laysMerged (some .boolean) (xRn G0 MT d) Q b 8 [some (.inr (.inr 66)), some (.inl 0), some (.inl k)] [] h
    refine E_s 3 (i' := 11) (ls' := [some (.inr (.inr 66)), some (.inl 0), some (.inl k)]) (sk' := [.inl k, .inr (.inr 76)]) (h' := h) rfl ?_
    refine E_ld (x := (.iaload, 0, [], [])) (ty := .int) (n := 300) rfl rfl rfl (by omega) (by omega) ?_
    show xEx G0 cdX12_laysMerged (some .boolean) (xRn G0 MT d) Q b 12 [some (.inr (.inr 66)), some (.inl 0), some (.inl k)] [.inl (h 76 k)] h
    refine E_b (x := (.ifCond .ne 5, 15, [], [])) rfl rfl (fun c12 => ?_) (fun c12 => ?_)
    · rw [c_ne (by first | assumption | (refine ⟨?_, ?_⟩ <;> omega) | (simp only [xr] at *; omega)) (by first | assumption | (refine ⟨?_, ?_⟩ <;> omega) | (simp only [xr] at *; omega))] at c12
      simp only [decide_eq_true_eq, decide_eq_false_iff_not, Decidable.not_not] at c12
      show xEx G0 cdX12_laysMerged (some .boolean) (xRn G0 MT d) Q b 15 [some (.inr (.inr 66)), some (.inl 0), some (.inl k)] [] h
      refine E_s 1 (i' := 16) (ls' := [some (.inr (.inr 66)), some (.inl 0), some (.inl k)]) (sk' := [.inl 0]) (h' := h) rfl ?_
      refine E_b (x := (.ifCond .eq 48, 42, [], [])) rfl rfl (fun c16 => ?_) (fun c16 => ?_)
      · show xEx G0 cdX12_laysMerged (some .boolean) (xRn G0 MT d) Q b 42 [some (.inr (.inr 66)), some (.inl 0), some (.inl k)] [] h
        refine E_s 6 (i' := 48) (ls' := [some (.inr (.inr 66)), some (.inl 0), some (.inl k)]) (sk' := [.inl k, .inr (.inr 72), .inl 300, .inr (.inr 69)]) (h' := h) rfl ?_
        refine E_ld (x := (.iaload, 0, [], [])) (ty := .int) (n := 300) rfl rfl rfl (by omega) (by omega) ?_
        show xEx G0 cdX12_laysMerged (some .boolean) (xRn G0 MT d) Q b 49 [some (.inr (.inr 66)), some (.inl 0), some (.inl k)] [.inl (h 72 k), .inl 300, .inr (.inr 69)] h
        refine E_sd (x := (.iastore, 0, [], [])) (ty := .int) (n := 301) (y := (h 72 k)) rfl rfl rfl (by omega) (by omega) (trivial) ?_
        show xEx G0 cdX12_laysMerged (some .boolean) (xRn G0 MT d) Q b 50 [some (.inr (.inr 66)), some (.inl 0), some (.inl k)] [] (xup h 69 300 (h 72 k))
        refine E_s 6 (i' := 56) (ls' := [some (.inr (.inr 66)), some (.inl 0), some (.inl k)]) (sk' := [.inl k, .inr (.inr 73), .inl 300, .inr (.inr 70)]) (h' := (xup h 69 300 (h 72 k))) rfl ?_
        refine E_ld (x := (.iaload, 0, [], [])) (ty := .int) (n := 300) rfl rfl rfl (by omega) (by omega) ?_
        show xEx G0 cdX12_laysMerged (some .boolean) (xRn G0 MT d) Q b 57 [some (.inr (.inr 66)), some (.inl 0), some (.inl k)] [.inl (h 73 k), .inl 300, .inr (.inr 70)] (xup h 69 300 (h 72 k))
        refine E_sd (x := (.iastore, 0, [], [])) (ty := .int) (n := 301) (y := (h 73 k)) rfl rfl rfl (by omega) (by omega) (trivial) ?_
        show xEx G0 cdX12_laysMerged (some .boolean) (xRn G0 MT d) Q b 58 [some (.inr (.inr 66)), some (.inl 0), some (.inl k)] [] (xup (xup h 69 300 (h 72 k)) 70 300 (h 73 k))
        refine E_s 6 (i' := 64) (ls' := [some (.inr (.inr 66)), some (.inl 0), some (.inl k)]) (sk' := [.inl k, .inr (.inr 74), .inl 300, .inr (.inr 71)]) (h' := (xup (xup h 69 300 (h 72 k)) 70 300 (h 73 k))) rfl ?_
        refine E_ld (x := (.iaload, 0, [], [])) (ty := .int) (n := 300) rfl rfl rfl (by omega) (by omega) ?_
        show xEx G0 cdX12_laysMerged (some .boolean) (xRn G0 MT d) Q b 65 [some (.inr (.inr 66)), some (.inl 0), some (.inl k)] [.inl (h 74 k), .inl 300, .inr (.inr 71)] (xup (xup h 69 300 (h 72 k)) 70 300 (h 73 k))
        refine E_sd (x := (.iastore, 0, [], [])) (ty := .int) (n := 301) (y := (h 74 k)) rfl rfl rfl (by omega) (by omega) (trivial) ?_
        show xEx G0 cdX12_laysMerged (some .boolean) (xRn G0 MT d) Q b 66 [some (.inr (.inr 66)), some (.inl 0), some (.inl k)] [] (xup (xup (xup h 69 300 (h 72 k)) 70 300 (h 73 k)) 71 300 (h 74 k))
        refine E_s 1 (i' := 67) (ls' := [some (.inr (.inr 66)), some (.inl 0), some (.inl k)]) (sk' := [.inl 1]) (h' := (xup (xup (xup h 69 300 (h 72 k)) 70 300 (h 73 k)) 71 300 (h 74 k))) rfl ?_
        exact E_ret (x := (.ireturn, 0, [], [])) (v := some (.inl 1)) rfl (Or.inr ⟨rfl, by omega⟩) (h1 (by omega))
      · show xEx G0 cdX12_laysMerged (some .boolean) (xRn G0 MT d) Q b 17 [some (.inr (.inr 66)), some (.inl 0), some (.inl k)] [] h
        exact absurd c16 (by decide)
    · rw [c_ne (by first | assumption | (refine ⟨?_, ?_⟩ <;> omega) | (simp only [xr] at *; omega)) (by first | assumption | (refine ⟨?_, ?_⟩ <;> omega) | (simp only [xr] at *; omega))] at c12
      simp only [decide_eq_true_eq, decide_eq_false_iff_not, Decidable.not_not] at c12
      show xEx G0 cdX12_laysMerged (some .boolean) (xRn G0 MT d) Q b 13 [some (.inr (.inr 66)), some (.inl 0), some (.inl k)] [] h
      refine E_s 1 (i' := 14) (ls' := [some (.inr (.inr 66)), some (.inl 0), some (.inl k)]) (sk' := [.inl 0]) (h' := h) rfl ?_
      exact E_ret (x := (.ireturn, 0, [], [])) (v := some (.inl 0)) rfl (Or.inr ⟨rfl, by omega⟩) (h0 (by omega))
  · show xEx G0 cdX12_laysMerged (some .boolean) (xRn G0 MT d) Q b 2 [some (.inr (.inr 66)), some (.inl 0), some (.inl k)] [] h
    exact absurd c1 (by decide)
set_option maxHeartbeats 1000000 in
theorem m_laysM1 (d b : Nat) (h : xH) (k : Int) (hk : 0 ≤ k ∧ k < 150) (hr : xr (h 86 k)) {Q : xO → xH → Prop} (h0 : h 86 k = 0 → Q (.inl (some (.inl (0)))) h) (h1 : h 86 k ≠ 0 → Q (.inl (some (.inl (1)))) (xup (xup (xup (h) 79 150 (h 82 k)) 80 150 (h 83 k)) 81 150 (h 84 k))) : xRn G0 MT (d + 1) b 199 [.inr (.inr 66), .inl 1, .inl k] h Q := by
  refine R_of (M := mX12_laysMerged) rfl (Nat.le_of_ble_eq_true rfl) ?_
  show xEx G0 cdX12_laysMerged (some .boolean) (xRn G0 MT d) Q b 0 [some (.inr (.inr 66)), some (.inl 1), some (.inl k)] [] h
  refine E_s 1 (i' := 1) (ls' := [some (.inr (.inr 66)), some (.inl 1), some (.inl k)]) (sk' := [.inl 1]) (h' := h) rfl ?_
  refine E_b (x := (.ifCond .eq 15, 8, [], [])) rfl rfl (fun c1 => ?_) (fun c1 => ?_)
  · show xEx G0 cdX12_laysMerged (some .boolean) (xRn G0 MT d) Q b 8 [some (.inr (.inr 66)), some (.inl 1), some (.inl k)] [] h
    exact absurd c1 (by decide)
  · show xEx G0 cdX12_laysMerged (some .boolean) (xRn G0 MT d) Q b 2 [some (.inr (.inr 66)), some (.inl 1), some (.inl k)] [] h
    refine E_s 3 (i' := 5) (ls' := [some (.inr (.inr 66)), some (.inl 1), some (.inl k)]) (sk' := [.inl k, .inr (.inr 86)]) (h' := h) rfl ?_
    refine E_ld (x := (.iaload, 0, [], [])) (ty := .int) (n := 150) rfl rfl rfl (by omega) (by omega) ?_
    show xEx G0 cdX12_laysMerged (some .boolean) (xRn G0 MT d) Q b 6 [some (.inr (.inr 66)), some (.inl 1), some (.inl k)] [.inl (h 86 k)] h
    refine E_b (x := (.ifCond .ne 17, 15, [], [])) rfl rfl (fun c6 => ?_) (fun c6 => ?_)
    · rw [c_ne (by first | assumption | (refine ⟨?_, ?_⟩ <;> omega) | (simp only [xr] at *; omega)) (by first | assumption | (refine ⟨?_, ?_⟩ <;> omega) | (simp only [xr] at *; omega))] at c6
      simp only [decide_eq_true_eq, decide_eq_false_iff_not, Decidable.not_not] at c6
      show xEx G0 cdX12_laysMerged (some .boolean) (xRn G0 MT d) Q b 15 [some (.inr (.inr 66)), some (.inl 1), some (.inl k)] [] h
      refine E_s 1 (i' := 16) (ls' := [some (.inr (.inr 66)), some (.inl 1), some (.inl k)]) (sk' := [.inl 1]) (h' := h) rfl ?_
      refine E_b (x := (.ifCond .eq 48, 42, [], [])) rfl rfl (fun c16 => ?_) (fun c16 => ?_)
      · show xEx G0 cdX12_laysMerged (some .boolean) (xRn G0 MT d) Q b 42 [some (.inr (.inr 66)), some (.inl 1), some (.inl k)] [] h
        exact absurd c16 (by decide)
      · show xEx G0 cdX12_laysMerged (some .boolean) (xRn G0 MT d) Q b 17 [some (.inr (.inr 66)), some (.inl 1), some (.inl k)] [] h
        refine E_s 6 (i' := 23) (ls' := [some (.inr (.inr 66)), some (.inl 1), some (.inl k)]) (sk' := [.inl k, .inr (.inr 82), .inl 150, .inr (.inr 79)]) (h' := h) rfl ?_
        refine E_ld (x := (.iaload, 0, [], [])) (ty := .int) (n := 150) rfl rfl rfl (by omega) (by omega) ?_
        show xEx G0 cdX12_laysMerged (some .boolean) (xRn G0 MT d) Q b 24 [some (.inr (.inr 66)), some (.inl 1), some (.inl k)] [.inl (h 82 k), .inl 150, .inr (.inr 79)] h
        refine E_sd (x := (.iastore, 0, [], [])) (ty := .int) (n := 151) (y := (h 82 k)) rfl rfl rfl (by omega) (by omega) (trivial) ?_
        show xEx G0 cdX12_laysMerged (some .boolean) (xRn G0 MT d) Q b 25 [some (.inr (.inr 66)), some (.inl 1), some (.inl k)] [] (xup h 79 150 (h 82 k))
        refine E_s 6 (i' := 31) (ls' := [some (.inr (.inr 66)), some (.inl 1), some (.inl k)]) (sk' := [.inl k, .inr (.inr 83), .inl 150, .inr (.inr 80)]) (h' := (xup h 79 150 (h 82 k))) rfl ?_
        refine E_ld (x := (.iaload, 0, [], [])) (ty := .int) (n := 150) rfl rfl rfl (by omega) (by omega) ?_
        show xEx G0 cdX12_laysMerged (some .boolean) (xRn G0 MT d) Q b 32 [some (.inr (.inr 66)), some (.inl 1), some (.inl k)] [.inl (h 83 k), .inl 150, .inr (.inr 80)] (xup h 79 150 (h 82 k))
        refine E_sd (x := (.iastore, 0, [], [])) (ty := .int) (n := 151) (y := (h 83 k)) rfl rfl rfl (by omega) (by omega) (trivial) ?_
        show xEx G0 cdX12_laysMerged (some .boolean) (xRn G0 MT d) Q b 33 [some (.inr (.inr 66)), some (.inl 1), some (.inl k)] [] (xup (xup h 79 150 (h 82 k)) 80 150 (h 83 k))
        refine E_s 6 (i' := 39) (ls' := [some (.inr (.inr 66)), some (.inl 1), some (.inl k)]) (sk' := [.inl k, .inr (.inr 84), .inl 150, .inr (.inr 81)]) (h' := (xup (xup h 79 150 (h 82 k)) 80 150 (h 83 k))) rfl ?_
        refine E_ld (x := (.iaload, 0, [], [])) (ty := .int) (n := 150) rfl rfl rfl (by omega) (by omega) ?_
        show xEx G0 cdX12_laysMerged (some .boolean) (xRn G0 MT d) Q b 40 [some (.inr (.inr 66)), some (.inl 1), some (.inl k)] [.inl (h 84 k), .inl 150, .inr (.inr 81)] (xup (xup h 79 150 (h 82 k)) 80 150 (h 83 k))
        refine E_sd (x := (.iastore, 0, [], [])) (ty := .int) (n := 151) (y := (h 84 k)) rfl rfl rfl (by omega) (by omega) (trivial) ?_
        show xEx G0 cdX12_laysMerged (some .boolean) (xRn G0 MT d) Q b 41 [some (.inr (.inr 66)), some (.inl 1), some (.inl k)] [] (xup (xup (xup h 79 150 (h 82 k)) 80 150 (h 83 k)) 81 150 (h 84 k))
        refine E_s 2 (i' := 67) (ls' := [some (.inr (.inr 66)), some (.inl 1), some (.inl k)]) (sk' := [.inl 1]) (h' := (xup (xup (xup h 79 150 (h 82 k)) 80 150 (h 83 k)) 81 150 (h 84 k))) rfl ?_
        exact E_ret (x := (.ireturn, 0, [], [])) (v := some (.inl 1)) rfl (Or.inr ⟨rfl, by omega⟩) (h1 (by omega))
    · rw [c_ne (by first | assumption | (refine ⟨?_, ?_⟩ <;> omega) | (simp only [xr] at *; omega)) (by first | assumption | (refine ⟨?_, ?_⟩ <;> omega) | (simp only [xr] at *; omega))] at c6
      simp only [decide_eq_true_eq, decide_eq_false_iff_not, Decidable.not_not] at c6
      show xEx G0 cdX12_laysMerged (some .boolean) (xRn G0 MT d) Q b 7 [some (.inr (.inr 66)), some (.inl 1), some (.inl k)] [] h
      refine E_s 2 (i' := 14) (ls' := [some (.inr (.inr 66)), some (.inl 1), some (.inl k)]) (sk' := [.inl 0]) (h' := h) rfl ?_
      exact E_ret (x := (.ireturn, 0, [], [])) (v := some (.inl 0)) rfl (Or.inr ⟨rfl, by omega⟩) (h0 (by omega))
theorem FM_u3 {h h' : xH} (f : FM h h') {a : Nat} {j z : Int} (ha : ((a = 69 ∨ a = 70 ∨ a = 71) ∧ 300 ≤ j) ∨ ((a = 79 ∨ a = 80 ∨ a = 81) ∧ 150 ≤ j)) : FM h (xup h' a j z) := by
  obtain ⟨f1, f2, f3, f4⟩ := f
  refine ⟨fun x q0 q1 q2 q3 q4 q5 q6 q7 => by rw [xup_o _ _ _ _ x (by omega)]; exact f1 x q0 q1 q2 q3 q4 q5 q6 q7, fun x q => by rw [xup_o _ _ _ _ _ (by omega)]; exact f2 x q, fun k q => ?_, fun k q => ?_⟩
  · have e : ∀ c : Nat, (c = 69 ∨ c = 70 ∨ c = 71) → xup h' a j z c k = h' c k := fun c hc => by
      by_cases y : c = a
      · subst y; exact xup_j (by omega)
      · exact xup_a y
    rw [e _ (by decide), e _ (by decide), e _ (by decide)]
    exact f3 k q
  · have e : ∀ c : Nat, (c = 79 ∨ c = 80 ∨ c = 81) → xup h' a j z c k = h' c k := fun c hc => by
      by_cases y : c = a
      · subst y; exact xup_j (by omega)
      · exact xup_a y
    rw [e _ (by decide), e _ (by decide), e _ (by decide)]
    exact f4 k q
theorem RR_FM {h h' S T : xH} (h3 : S 0 0 ≤ 300) (h4 : T 0 0 ≤ 150) (f : FM h h') (r : RR h S) (rt : RRT h T) : RR h' S ∧ RRT h' T := by
  obtain ⟨f1, f2, f3, f4⟩ := f
  have u : ∀ a, (72 ≤ a ∧ a ≤ 78) ∨ (82 ≤ a ∧ a ≤ 87) ∨ a = 89 → h' a = h a := fun a z => f1 a (by unfold scr; omega) (by omega) (by omega) (by omega) (by omega) (by omega) (by omega) (by omega)
  exact ⟨RR_fr h3 (f2 8 (by unfold mdf; decide)) (f2 4 (by unfold mdf; decide)) (by rw [u 89 (by decide)]) f3 (fun a z1 z2 => u a (by omega)) r, RRT_fr h4 (f2 19 (by unfold mdf; decide)) (f2 33 (by unfold mdf; decide)) (by rw [u 89 (by decide)]) f4 (fun a z1 z2 => u a (by omega)) rt⟩
set_option maxHeartbeats 1000000 in
theorem m_mapart0_1 (d b : Nat) (h S T : xH) (k i n0 : Int) (wt : Int → Int) (hk : xr k) (hi : xr i) (hm : h 66 1 = 1) (h7r : ∀ k, 0 ≤ k → k < S 0 0 → 0 ≤ S 7 k ∧ S 7 k ≤ 400000) (hR : RR h S) (hRT : RRT h T) (hF : FW n0 wt 9 S) (hT : FWT S 7 T) (h3 : 0 ≤ S 0 0 ∧ S 0 0 ≤ 300) (h4 : 0 ≤ T 0 0 ∧ T 0 0 ≤ 150) (hM0 : 0 ≤ h 66 8 ∧ h 66 8 ≤ 300) {Q : xO → xH → Prop} (hN : ¬ ((0 ≤ k ∧ k < h 66 8) ∧ (0 ≤ i ∧ i ≤ 2)) → Q (.inl (some (.inl (0)))) (xup h 66 0 1)) (hZ : ((0 ≤ k ∧ k < h 66 8) ∧ (0 ≤ i ∧ i ≤ 2)) → S 7 k = 0 → Q (.inl (some (.inl (-100)))) (xup h 66 0 0)) (hF9 : ((0 ≤ k ∧ k < h 66 8) ∧ (0 ≤ i ∧ i ≤ 2)) → S 7 k ≠ 0 → ∀ p, 0 ≤ p → p < ptN 1 → (dmE S 1 k) p → (∀ q, 0 ≤ q → q < p → ¬ (dmE S 1 k) q) → ∀ h', (∀ a, a ≠ 94 → a ≠ 95 → h' a = (xup (xup (xup (xup h 66 0 0) 69 300 (h 72 k)) 70 300 (h 73 k)) 71 300 (h 74 k)) a) → Q (.inl (some (.inl (ptX 1 p i)))) h') (hG : ((0 ≤ k ∧ k < h 66 8) ∧ (0 ≤ i ∧ i ≤ 2)) → S 7 k ≠ 0 → (∀ q, 0 ≤ q → q < ptN 1 → ¬ (dmE S 1 k) q) → ∀ h', (∀ a, a ≠ 94 → a ≠ 95 → h' a = (xup (xup (xup (xup h 66 0 0) 69 300 (h 72 k)) 70 300 (h 73 k)) 71 300 (h 74 k)) a) → Q (.inl (some (.inl (-100)))) h') : xRn G0 MT (d + 23) b 200 [.inr (.inr 66), .inl 0, .inl k, .inl i] h Q := by
  refine R_of (M := mX12_mergedApart) rfl (Nat.le_of_ble_eq_true rfl) ?_
  show xEx G0 cdX12_mergedApart (some .int) (xRn G0 MT (d + 22)) Q b 0 [some (.inr (.inr 66)), some (.inl 0), some (.inl k), some (.inl i), none, none, none, none, none, none] [] h
  refine E_s 4 (i' := 4) (ls' := [some (.inr (.inr 66)), some (.inl 0), some (.inl k), some (.inl i), none, none, none, none, none, none]) (sk' := [.inl k, .inl 0, .inr (.inr 66), .inr (.inr 66)]) (h' := h) rfl ?_
  refine E_cp (x := (.invokevirtual 295, 2, [(10, 193)], [0])) (q := fun r1 h9 => ((r1 = 1 ∧ (0 ≤ k ∧ k < h 66 8)) ∨ (r1 = 0 ∧ ¬ (0 ≤ k ∧ k < h 66 8))) ∧ h = h9) rfl rfl (Nat.le_of_ble_eq_true rfl) (m_isKept0 (d + 20) 0 h k hk hM0 (fun z => ⟨_, rfl, Or.inl ⟨rfl, z⟩, rfl⟩) (fun z => ⟨_, rfl, Or.inr ⟨rfl, z⟩, rfl⟩)) (fun r1 h9 q1 => ?_)
  obtain ⟨q1, rfl⟩ := q1
  show xEx G0 cdX12_mergedApart (some .int) (xRn G0 MT (d + 22)) Q b 5 [some (.inr (.inr 66)), some (.inl 0), some (.inl k), some (.inl i), none, none, none, none, none, none] [.inl r1, .inr (.inr 66)] h
  refine E_b (x := (.ifCond .eq 12, 11, [], [])) rfl rfl (fun c5 => ?_) (fun c5 => ?_)
  · rw [c_eq (by first | assumption | (refine ⟨?_, ?_⟩ <;> omega) | (simp only [xr] at *; omega)) (by first | assumption | (refine ⟨?_, ?_⟩ <;> omega) | (simp only [xr] at *; omega))] at c5
    simp only [decide_eq_true_eq, decide_eq_false_iff_not, Decidable.not_not] at c5
    show xEx G0 cdX12_mergedApart (some .int) (xRn G0 MT (d + 22)) Q b 11 [some (.inr (.inr 66)), some (.inl 0), some (.inl k), some (.inl i), none, none, none, none, none, none] [.inr (.inr 66)] h
    refine E_s 5 (i' := 17) (ls' := [some (.inr (.inr 66)), some (.inl 0), some (.inl k), some (.inl i), none, none, none, none, none, none]) (sk' := [.inl 1]) (h' := (xup h 66 0 1)) rfl ?_
    refine E_b (x := (.ifCond .gt 12, 23, [], [])) rfl rfl (fun c17 => ?_) (fun c17 => ?_)
    · show xEx G0 cdX12_mergedApart (some .int) (xRn G0 MT (d + 22)) Q b 23 [some (.inr (.inr 66)), some (.inl 0), some (.inl k), some (.inl i), none, none, none, none, none, none] [] (xup h 66 0 1)
      
      refine E_s 2 (i' := 25) (ls' := [some (.inr (.inr 66)), some (.inl 0), some (.inl k), some (.inl i), none, none, none, none, none, none]) (sk' := [.inl 1]) (h' := (xup h 66 0 1)) rfl ?_
      refine E_b (x := (.ifCond .le 7, 28, [], [])) rfl rfl (fun c25 => ?_) (fun c25 => ?_)
      · show xEx G0 cdX12_mergedApart (some .int) (xRn G0 MT (d + 22)) Q b 28 [some (.inr (.inr 66)), some (.inl 0), some (.inl k), some (.inl i), none, none, none, none, none, none] [] (xup h 66 0 1)
        exact absurd c25 (by decide)
      · show xEx G0 cdX12_mergedApart (some .int) (xRn G0 MT (d + 22)) Q b 26 [some (.inr (.inr 66)), some (.inl 0), some (.inl k), some (.inl i), none, none, none, none, none, none] [] (xup h 66 0 1)
        refine E_s 2 (i' := 29) (ls' := [some (.inr (.inr 66)), some (.inl 0), some (.inl k), some (.inl i), none, none, none, none, none, none]) (sk' := [.inl 0]) (h' := (xup h 66 0 1)) rfl ?_
        exact E_ret (x := (.ireturn, 0, [], [])) (v := some (.inl 0)) rfl (Or.inl rfl) (hN (by omega))
    · show xEx G0 cdX12_mergedApart (some .int) (xRn G0 MT (d + 22)) Q b 18 [some (.inr (.inr 66)), some (.inl 0), some (.inl k), some (.inl i), none, none, none, none, none, none] [] (xup h 66 0 1)
      exact absurd c17 (by decide)
  · rw [c_eq (by first | assumption | (refine ⟨?_, ?_⟩ <;> omega) | (simp only [xr] at *; omega)) (by first | assumption | (refine ⟨?_, ?_⟩ <;> omega) | (simp only [xr] at *; omega))] at c5
    simp only [decide_eq_true_eq, decide_eq_false_iff_not, Decidable.not_not] at c5
    show xEx G0 cdX12_mergedApart (some .int) (xRn G0 MT (d + 22)) Q b 6 [some (.inr (.inr 66)), some (.inl 0), some (.inl k), some (.inl i), none, none, none, none, none, none] [.inr (.inr 66)] h
    refine E_s 3 (i' := 9) (ls' := [some (.inr (.inr 66)), some (.inl 0), some (.inl k), some (.inl i), none, none, none, none, none, none]) (sk' := [.inl 2, .inl 0, .inl i, .inr (.inr 66)]) (h' := h) rfl ?_
    refine E_cp (x := (.invokestatic 180, 3, [(0, 155)], [])) (q := fun r2 h9 => ((r2 = 1 ∧ (0 ≤ i ∧ i ≤ 2)) ∨ (r2 = 0 ∧ ¬ (0 ≤ i ∧ i ≤ 2))) ∧ h = h9) rfl rfl (Nat.le_of_ble_eq_true rfl) (m_isIn (d + 21) 0 (h) i 0 2 hi ⟨by omega, by omega⟩ ⟨by omega, by omega⟩ (fun z => ⟨_, rfl, Or.inl ⟨rfl, z⟩, rfl⟩) (fun z => ⟨_, rfl, Or.inr ⟨rfl, z⟩, rfl⟩)) (fun r2 h9 q2 => ?_)
    obtain ⟨q2, rfl⟩ := q2
    show xEx G0 cdX12_mergedApart (some .int) (xRn G0 MT (d + 22)) Q b 10 [some (.inr (.inr 66)), some (.inl 0), some (.inl k), some (.inl i), none, none, none, none, none, none] [.inl r2, .inr (.inr 66)] h
    refine E_b (x := (.ifCond .ne 7, 13, [], [])) rfl rfl (fun c10 => ?_) (fun c10 => ?_)
    · rw [c_ne (by first | assumption | (refine ⟨?_, ?_⟩ <;> omega) | (simp only [xr] at *; omega)) (by first | assumption | (refine ⟨?_, ?_⟩ <;> omega) | (simp only [xr] at *; omega))] at c10
      simp only [decide_eq_true_eq, decide_eq_false_iff_not, Decidable.not_not] at c10
      show xEx G0 cdX12_mergedApart (some .int) (xRn G0 MT (d + 22)) Q b 13 [some (.inr (.inr 66)), some (.inl 0), some (.inl k), some (.inl i), none, none, none, none, none, none] [.inr (.inr 66)] h
      refine E_s 4 (i' := 17) (ls' := [some (.inr (.inr 66)), some (.inl 0), some (.inl k), some (.inl i), none, none, none, none, none, none]) (sk' := [.inl 0]) (h' := (xup h 66 0 0)) rfl ?_
      refine E_b (x := (.ifCond .gt 12, 23, [], [])) rfl rfl (fun c17 => ?_) (fun c17 => ?_)
      · show xEx G0 cdX12_mergedApart (some .int) (xRn G0 MT (d + 22)) Q b 23 [some (.inr (.inr 66)), some (.inl 0), some (.inl k), some (.inl i), none, none, none, none, none, none] [] (xup h 66 0 0)
        exact absurd c17 (by decide)
      · show xEx G0 cdX12_mergedApart (some .int) (xRn G0 MT (d + 22)) Q b 18 [some (.inr (.inr 66)), some (.inl 0), some (.inl k), some (.inl i), none, none, none, none, none, none] [] (xup h 66 0 0)
        refine E_s 3 (i' := 21) (ls' := [some (.inr (.inr 66)), some (.inl 0), some (.inl k), some (.inl i), none, none, none, none, none, none]) (sk' := [.inl k, .inl 0, .inr (.inr 66)]) (h' := (xup h 66 0 0)) rfl ?_
        have kk : (0 ≤ k ∧ k < h 66 8) ∧ (0 ≤ i ∧ i ≤ 2) := by omega
        have hk2 : 0 ≤ k ∧ k < S 0 0 := by rw [← hR.1]; exact kk.1
        have e7 : h 76 k = S 7 k := (hR.2.2.1 k hk2.1 hk2.2).2.2.2.2.2.1
        have r7 := h7r k hk2.1 hk2.2
        refine E_cp (x := (.invokevirtual 306, 2, [(10, 199)], [0])) (q := fun r h9 => (r = 0 ∧ h 76 k = 0 ∧ h9 = xup h 66 0 0) ∨ (r = 1 ∧ h 76 k ≠ 0 ∧ h9 = xup (xup (xup (xup h 66 0 0) 69 300 (h 72 k)) 70 300 (h 73 k)) 71 300 (h 74 k))) rfl rfl (Nat.le_of_ble_eq_true rfl) (m_laysM0 (d + 21) 0 (xup h 66 0 0) k ⟨by omega, by omega⟩ (show xr (h 76 k) by rw [e7]; exact ⟨by omega, by omega⟩) (fun z9 => ⟨_, rfl, Or.inl ⟨rfl, z9, rfl⟩⟩) (fun z9 => ⟨_, rfl, Or.inr ⟨rfl, z9, rfl⟩⟩)) (fun r4 g1 hq4 => ?_)
        show xEx G0 cdX12_mergedApart (some .int) (xRn G0 MT (d + 22)) Q b 22 [some (.inr (.inr 66)), some (.inl 0), some (.inl k), some (.inl i), none, none, none, none, none, none] [.inl r4] g1
        refine E_b (x := (.ifCond .ne 17, 30, [], [])) rfl rfl (fun c22 => ?_) (fun c22 => ?_)
        · rw [c_ne (by first | assumption | (refine ⟨?_, ?_⟩ <;> omega) | (simp only [xr] at *; omega)) (by first | assumption | (refine ⟨?_, ?_⟩ <;> omega) | (simp only [xr] at *; omega))] at c22
          simp only [decide_eq_true_eq, decide_eq_false_iff_not, Decidable.not_not] at c22
          show xEx G0 cdX12_mergedApart (some .int) (xRn G0 MT (d + 22)) Q b 30 [some (.inr (.inr 66)), some (.inl 0), some (.inl k), some (.inl i), none, none, none, none, none, none] [] g1
          obtain ⟨h7, rfl⟩ : h 76 k ≠ 0 ∧ g1 = xup (xup (xup (xup h 66 0 0) 69 300 (h 72 k)) 70 300 (h 73 k)) 71 300 (h 74 k) := by
            rcases hq4 with ⟨a, -⟩ | ⟨-, a, b⟩
            · omega
            · exact ⟨a, b⟩
          rw [e7] at h7
          have fmb : FM h (xup (xup (xup (xup h 66 0 0) 69 300 (h 72 k)) 70 300 (h 73 k)) 71 300 (h 74 k)) := (FM_u3 (FM_u3 (FM_u3 ((FM.rf h).up (Or.inr ⟨rfl, by unfold mdf; decide⟩)) (Or.inl ⟨by decide, by decide⟩)) (Or.inl ⟨by decide, by decide⟩)) (Or.inl ⟨by decide, by decide⟩))
          obtain ⟨hR1, hRT1⟩ := RR_FM h3.2 h4.2 fmb hR hRT
          refine E_s 3 (i' := 33) (ls' := [some (.inr (.inr 66)), some (.inl 0), some (.inl k), some (.inl i), none, none, none, none, none, none]) (sk' := [.inl 1, .inl (h 66 1)]) (h' := (xup (xup (xup (xup h 66 0 0) 69 300 (h 72 k)) 70 300 (h 73 k)) 71 300 (h 74 k))) rfl ?_
          refine E_b (x := (.if_icmp .le 8, 36, [], [])) rfl rfl (fun c33 => ?_) (fun c33 => ?_)
          · rw [c_le (by first | assumption | (refine ⟨?_, ?_⟩ <;> omega) | (simp only [xr] at *; omega)) (by first | assumption | (refine ⟨?_, ?_⟩ <;> omega) | (simp only [xr] at *; omega))] at c33
            simp only [decide_eq_true_eq, decide_eq_false_iff_not, Decidable.not_not] at c33
            show xEx G0 cdX12_mergedApart (some .int) (xRn G0 MT (d + 22)) Q b 36 [some (.inr (.inr 66)), some (.inl 0), some (.inl k), some (.inl i), none, none, none, none, none, none] [] (xup (xup (xup (xup h 66 0 0) 69 300 (h 72 k)) 70 300 (h 73 k)) 71 300 (h 74 k))
            refine E_s 5 (i' := 41) (ls' := [some (.inr (.inr 66)), some (.inl 0), some (.inl k), some (.inl i), some (.inl 0), none, none, none, none, none]) (sk' := [.inl 2, .inl (h 66 1)]) (h' := (xup (xup (xup (xup h 66 0 0) 69 300 (h 72 k)) 70 300 (h 73 k)) 71 300 (h 74 k))) rfl ?_
            refine E_b (x := (.if_icmp .le 8, 44, [], [])) rfl rfl (fun c41 => ?_) (fun c41 => ?_)
            · rw [c_le (by first | assumption | (refine ⟨?_, ?_⟩ <;> omega) | (simp only [xr] at *; omega)) (by first | assumption | (refine ⟨?_, ?_⟩ <;> omega) | (simp only [xr] at *; omega))] at c41
              simp only [decide_eq_true_eq, decide_eq_false_iff_not, Decidable.not_not] at c41
              show xEx G0 cdX12_mergedApart (some .int) (xRn G0 MT (d + 22)) Q b 44 [some (.inr (.inr 66)), some (.inl 0), some (.inl k), some (.inl i), some (.inl 0), none, none, none, none, none] [] (xup (xup (xup (xup h 66 0 0) 69 300 (h 72 k)) 70 300 (h 73 k)) 71 300 (h 74 k))
              refine E_s 4 (i' := 48) (ls' := [some (.inr (.inr 66)), some (.inl 0), some (.inl k), some (.inl i), some (.inl 0), some (.inl 0), some (.inl (-9)), none, none, none]) (sk' := []) (h' := (xup (xup (xup (xup h 66 0 0) 69 300 (h 72 k)) 70 300 (h 73 k)) 71 300 (h 74 k))) rfl ?_
              have key48 : ∀ (n : Nat) (hx : xH) (x : Int) (v8 v9 : Option xV) (v10 : Option xV), (-9 ≤ x) → (x ≤ 10) → (∀ a, a ≠ 94 → a ≠ 95 → hx a = (xup (xup (xup (xup h 66 0 0) 69 300 (h 72 k)) 70 300 (h 73 k)) 71 300 (h 74 k)) a) → (∀ q0, 0 ≤ q0 → q0 < (x + 9) + 0 + 0 → ¬ (dmE S 1 k) q0) → ((10 - x).toNat) < n → xEx G0 cdX12_mergedApart (some .int) (xRn G0 MT (d + 22)) Q b 48 [some (.inr (.inr 66)), some (.inl 0), some (.inl k), some (.inl i), some (.inl 0), some (.inl 0), some (.inl x), v8, v9, v10] [] hx := by
                intro n
                induction n with
                | zero => intro hx x v8 v9 v10 _ _ _ _ hm; exact absurd hm (Nat.not_lt_zero _)
                | succ n ih48 =>
                  intro hx x v8 v9 v10 hx0 hx9 hfx hnx hm48
                  refine E_s 2 (i' := 50) (ls' := [some (.inr (.inr 66)), some (.inl 0), some (.inl k), some (.inl i), some (.inl 0), some (.inl 0), some (.inl x), v8, v9, v10]) (sk' := [.inl 9, .inl x]) (h' := hx) rfl ?_
                  refine E_b (x := (.if_icmp .gt 139, 116, [], [])) rfl rfl (fun c50 => ?_) (fun c50 => ?_)
                  · rw [c_gt (by first | assumption | (refine ⟨?_, ?_⟩ <;> omega) | (simp only [xr] at *; omega)) (by first | assumption | (refine ⟨?_, ?_⟩ <;> omega) | (simp only [xr] at *; omega))] at c50
                    simp only [decide_eq_true_eq, decide_eq_false_iff_not, Decidable.not_not] at c50
                    show xEx G0 cdX12_mergedApart (some .int) (xRn G0 MT (d + 22)) Q b 116 [some (.inr (.inr 66)), some (.inl 0), some (.inl k), some (.inl i), some (.inl 0), some (.inl 0), some (.inl x), v8, v9, v10] [] hx
                    refine E_s 1 (i' := 117) (ls' := [some (.inr (.inr 66)), some (.inl 0), some (.inl k), some (.inl i), some (.inl 0), some (.inl 0), some (.inl x), v8, v9, v10]) (sk' := [.inl (-100)]) (h' := hx) rfl ?_
                    exact E_ret (x := (.ireturn, 0, [], [])) (v := some (.inl (-100))) rfl (Or.inl rfl) (hG kk h7 (fun q z1 z2 => hnx q z1 (by simp [ptN] at z2; omega)) _ hfx)
                  · rw [c_gt (by first | assumption | (refine ⟨?_, ?_⟩ <;> omega) | (simp only [xr] at *; omega)) (by first | assumption | (refine ⟨?_, ?_⟩ <;> omega) | (simp only [xr] at *; omega))] at c50
                    simp only [decide_eq_true_eq, decide_eq_false_iff_not, Decidable.not_not] at c50
                    show xEx G0 cdX12_mergedApart (some .int) (xRn G0 MT (d + 22)) Q b 51 [some (.inr (.inr 66)), some (.inl 0), some (.inl k), some (.inl i), some (.inl 0), some (.inl 0), some (.inl x), v8, v9, v10] [] hx
                    refine E_s 3 (i' := 54) (ls' := [some (.inr (.inr 66)), some (.inl 0), some (.inl k), some (.inl i), some (.inl 0), some (.inl 0), some (.inl x), some (.inl (-0)), v9, v10]) (sk' := []) (h' := hx) rfl ?_
                    have key54 : ∀ (n : Nat) (hy : xH) (y : Int) (w9 : Option xV) (w10 : Option xV), (-0 ≤ y) → (y ≤ 1) → (∀ a, a ≠ 94 → a ≠ 95 → hy a = (xup (xup (xup (xup h 66 0 0) 69 300 (h 72 k)) 70 300 (h 73 k)) 71 300 (h 74 k)) a) → (∀ q0, 0 ≤ q0 → q0 < (x + 9) + y + 0 → ¬ (dmE S 1 k) q0) → ((1 - y).toNat) < n → xEx G0 cdX12_mergedApart (some .int) (xRn G0 MT (d + 22)) Q b 54 [some (.inr (.inr 66)), some (.inl 0), some (.inl k), some (.inl i), some (.inl 0), some (.inl 0), some (.inl x), some (.inl y), w9, w10] [] hy := by
                      intro n
                      induction n with
                      | zero => intro hy y w9 w10 _ _ _ _ hm; exact absurd hm (Nat.not_lt_zero _)
                      | succ n ih54 =>
                        intro hy y w9 w10 hy0 hy9 hfy hny hm54
                        refine E_s 2 (i' := 56) (ls' := [some (.inr (.inr 66)), some (.inl 0), some (.inl k), some (.inl i), some (.inl 0), some (.inl 0), some (.inl x), some (.inl y), w9, w10]) (sk' := [.inl 0, .inl y]) (h' := hy) rfl ?_
                        refine E_b (x := (.if_icmp .gt 121, 114, [], [])) rfl rfl (fun c56 => ?_) (fun c56 => ?_)
                        · rw [c_gt (by first | assumption | (refine ⟨?_, ?_⟩ <;> omega) | (simp only [xr] at *; omega)) (by first | assumption | (refine ⟨?_, ?_⟩ <;> omega) | (simp only [xr] at *; omega))] at c56
                          simp only [decide_eq_true_eq, decide_eq_false_iff_not, Decidable.not_not] at c56
                          show xEx G0 cdX12_mergedApart (some .int) (xRn G0 MT (d + 22)) Q b 114 [some (.inr (.inr 66)), some (.inl 0), some (.inl k), some (.inl i), some (.inl 0), some (.inl 0), some (.inl x), some (.inl y), w9, w10] [] hy
                          refine E_s 2 (i' := 48) (ls' := [some (.inr (.inr 66)), some (.inl 0), some (.inl k), some (.inl i), some (.inl 0), some (.inl 0), some (.inl (x + 1)), some (.inl y), w9, w10]) (sk' := []) (h' := hy) rfl ?_
                          exact ih48 _ (x + 1) _ _ _ (by omega) (by omega) hfy (fun q0 z1 z2 => hny q0 z1 (by omega)) (by omega)
                        · rw [c_gt (by first | assumption | (refine ⟨?_, ?_⟩ <;> omega) | (simp only [xr] at *; omega)) (by first | assumption | (refine ⟨?_, ?_⟩ <;> omega) | (simp only [xr] at *; omega))] at c56
                          simp only [decide_eq_true_eq, decide_eq_false_iff_not, Decidable.not_not] at c56
                          show xEx G0 cdX12_mergedApart (some .int) (xRn G0 MT (d + 22)) Q b 57 [some (.inr (.inr 66)), some (.inl 0), some (.inl k), some (.inl i), some (.inl 0), some (.inl 0), some (.inl x), some (.inl y), w9, w10] [] hy
                          refine E_s 3 (i' := 60) (ls' := [some (.inr (.inr 66)), some (.inl 0), some (.inl k), some (.inl i), some (.inl 0), some (.inl 0), some (.inl x), some (.inl y), some (.inl (-0)), w10]) (sk' := []) (h' := hy) rfl ?_
                          have key60 : ∀ (n : Nat) (hz : xH) (z : Int) (u10 : Option xV), (-0 ≤ z) → (z ≤ 1) → (∀ a, a ≠ 94 → a ≠ 95 → hz a = (xup (xup (xup (xup h 66 0 0) 69 300 (h 72 k)) 70 300 (h 73 k)) 71 300 (h 74 k)) a) → (∀ q0, 0 ≤ q0 → q0 < (x + 9) + y + z → ¬ (dmE S 1 k) q0) → ((1 - z).toNat) < n → xEx G0 cdX12_mergedApart (some .int) (xRn G0 MT (d + 22)) Q b 60 [some (.inr (.inr 66)), some (.inl 0), some (.inl k), some (.inl i), some (.inl 0), some (.inl 0), some (.inl x), some (.inl y), some (.inl z), u10] [] hz := by
                            intro n
                            induction n with
                            | zero => intro hz z u10 _ _ _ _ hm; exact absurd hm (Nat.not_lt_zero _)
                            | succ n ih60 =>
                              intro hz z u10 hz0 hz9 hfz hnz hm60
                              refine E_s 2 (i' := 62) (ls' := [some (.inr (.inr 66)), some (.inl 0), some (.inl k), some (.inl i), some (.inl 0), some (.inl 0), some (.inl x), some (.inl y), some (.inl z), u10]) (sk' := [.inl 0, .inl z]) (h' := hz) rfl ?_
                              refine E_b (x := (.if_icmp .gt 103, 112, [], [])) rfl rfl (fun c62 => ?_) (fun c62 => ?_)
                              · rw [c_gt (by first | assumption | (refine ⟨?_, ?_⟩ <;> omega) | (simp only [xr] at *; omega)) (by first | assumption | (refine ⟨?_, ?_⟩ <;> omega) | (simp only [xr] at *; omega))] at c62
                                simp only [decide_eq_true_eq, decide_eq_false_iff_not, Decidable.not_not] at c62
                                show xEx G0 cdX12_mergedApart (some .int) (xRn G0 MT (d + 22)) Q b 112 [some (.inr (.inr 66)), some (.inl 0), some (.inl k), some (.inl i), some (.inl 0), some (.inl 0), some (.inl x), some (.inl y), some (.inl z), u10] [] hz
                                refine E_s 2 (i' := 54) (ls' := [some (.inr (.inr 66)), some (.inl 0), some (.inl k), some (.inl i), some (.inl 0), some (.inl 0), some (.inl x), some (.inl (y + 1)), some (.inl z), u10]) (sk' := []) (h' := hz) rfl ?_
                                exact ih54 _ (y + 1) _ _ (by omega) (by omega) hfz (fun q0 z1 z2 => hnz q0 z1 (by omega)) (by omega)
                              · rw [c_gt (by first | assumption | (refine ⟨?_, ?_⟩ <;> omega) | (simp only [xr] at *; omega)) (by first | assumption | (refine ⟨?_, ?_⟩ <;> omega) | (simp only [xr] at *; omega))] at c62
                                simp only [decide_eq_true_eq, decide_eq_false_iff_not, Decidable.not_not] at c62
                                show xEx G0 cdX12_mergedApart (some .int) (xRn G0 MT (d + 22)) Q b 63 [some (.inr (.inr 66)), some (.inl 0), some (.inl k), some (.inl i), some (.inl 0), some (.inl 0), some (.inl x), some (.inl y), some (.inl z), u10] [] hz
                                refine E_s 4 (i' := 67) (ls' := [some (.inr (.inr 66)), some (.inl 0), some (.inl k), some (.inl i), some (.inl 0), some (.inl 0), some (.inl x), some (.inl y), some (.inl z), u10]) (sk' := [.inl z, .inl y, .inl x, .inr (.inr 66)]) (h' := hz) rfl ?_
                                refine E_cv (x := (.invokevirtual 309, 3, [(10, 198)], [0])) (q := fun h9 => (∀ a, a ≠ 94 → a ≠ 95 → h9 a = hz a) ∧ (∀ k, 0 ≤ k → k < S 0 0 → h9 94 k = VE S (pX x y z) k) ∧ (∀ t, 0 ≤ t → t < T 0 0 → h9 95 t = VU S T (pX x y z) t)) rfl rfl (Nat.le_of_ble_eq_true rfl) (m_reckons (d + 18) 0 hz S T x y z n0 wt ⟨by omega, by omega⟩ ⟨by omega, by omega⟩ ⟨by omega, by omega⟩ (RR_vh hfz hR1) (RRT_vh hfz hRT1) hF hT h3 h4 (fun h9 z1 z2 z3 => ⟨rfl, z1, z2, z3⟩)) (fun h1 hq => ?_)
                                obtain ⟨f1, f2, f3⟩ := hq
                                have xx : xr x := ⟨by omega, by omega⟩
                                have xy : xr y := ⟨by omega, by omega⟩
                                have xz : xr z := ⟨by omega, by omega⟩
                                show xEx G0 cdX12_mergedApart (some .int) (xRn G0 MT (d + 22)) Q b 68 [some (.inr (.inr 66)), some (.inl 0), some (.inl k), some (.inl i), some (.inl 0), some (.inl 0), some (.inl x), some (.inl y), some (.inl z), u10] [] h1
                                refine E_s 1 (i' := 69) (ls' := [some (.inr (.inr 66)), some (.inl 0), some (.inl k), some (.inl i), some (.inl 0), some (.inl 0), some (.inl x), some (.inl y), some (.inl z), u10]) (sk' := [.inl 0]) (h' := h1) rfl ?_
                                refine E_b (x := (.ifCond .eq 27, 82, [], [])) rfl rfl (fun c69 => ?_) (fun c69 => ?_)
                                · show xEx G0 cdX12_mergedApart (some .int) (xRn G0 MT (d + 22)) Q b 82 [some (.inr (.inr 66)), some (.inl 0), some (.inl k), some (.inl i), some (.inl 0), some (.inl 0), some (.inl x), some (.inl y), some (.inl z), u10] [] h1
                                  refine E_s 5 (i' := 87) (ls' := [some (.inr (.inr 66)), some (.inl 0), some (.inl k), some (.inl i), some (.inl 0), some (.inl 0), some (.inl x), some (.inl y), some (.inl z), u10]) (sk' := [.inl z, .inl y, .inl x, .inl 300, .inr (.inr 66)]) (h' := h1) rfl ?_
                                  obtain ⟨yz, -, cz⟩ := (hF k hk2.1 hk2.2).2.2.2.2.2.2 h7
                                  have ch := cw_ch hF (Int.le_refl _) cz
                                  obtain ⟨b1, b2, b3⟩ := (hR.2.2.1 k hk2.1 hk2.2).2.2.2.2.2.2 h7
                                  have i1 : h1 69 300 = S 8 k := by rw [f1 _ (by decide) (by decide), hfz _ (by decide) (by decide)]; exact b1
                                  have i2 : h1 70 300 = S 9 k := by rw [f1 _ (by decide) (by decide), hfz _ (by decide) (by decide)]; exact b2
                                  have i3 : h1 71 300 = oth (S 8 k) (S 10 k) := by rw [f1 _ (by decide) (by decide), hfz _ (by decide) (by decide)]; exact b3
                                  have rr : ∀ j, 0 ≤ j → j < S 0 0 → h1 94 j = VE S (pX x y z) j ∧ xr (VE S (pX x y z) j) := fun j z1 z2 => ⟨f2 j z1 z2, VE_r hF (pX_r xx xy xz) 300 j z1 z2⟩
                                  refine E_cp (x := (.invokevirtual 299, 4, [(10, 196)], [0])) (q := fun r h9 => w32 r = fE S (pX x y z) (S 8 k) (S 9 k) (S 10 k) ∧ h1 = h9) rfl rfl (Nat.le_of_ble_eq_true rfl) (m_valueOf (d + 19) 0 h1 S 300 x y z (S 8 k) (S 9 k) (S 10 k) xx xy xz ⟨by decide, by decide⟩ i1 i2 i3 (by omega) (fun z9 => rr _ (by omega) (by omega)) (fun z9 _ => rr _ (by omega) (by omega)) (fun v hv => ⟨v, rfl, hv, rfl⟩)) (fun r9 h9 hv9 => ?_)
                                  obtain ⟨hv9, rfl⟩ := hv9
                                  show xEx G0 cdX12_mergedApart (some .int) (xRn G0 MT (d + 22)) Q b 88 [some (.inr (.inr 66)), some (.inl 0), some (.inl k), some (.inl i), some (.inl 0), some (.inl 0), some (.inl x), some (.inl y), some (.inl z), u10] [.inl r9] h1
                                  have ub : xr (fE S (pX x y z) (S 8 k) (S 9 k) (S 10 k)) := fE_r hF (pX_r xx xy xz) (Int.le_refl _) cz
                                  have g1 := f2 k hk2.1 hk2.2
                                  have ua : xr (h1 94 k) := by rw [g1]; exact (rr k hk2.1 hk2.2).2
                                  refine E_ti (y := (fE S (pX x y z) (S 8 k) (S 9 k) (S 10 k))) (by rw [hv9, w32_id ub]) ?_
                                  refine E_s 3 (i' := 91) (ls' := [some (.inr (.inr 66)), some (.inl 0), some (.inl k), some (.inl i), some (.inl 0), some (.inl 0), some (.inl x), some (.inl y), some (.inl z), u10]) (sk' := [.inl k, .inr (.inr 94), .inl (fE S (pX x y z) (S 8 k) (S 9 k) (S 10 k))]) (h' := h1) rfl ?_
                                  refine E_ld (x := (.iaload, 0, [], [])) (ty := .int) (n := 300) rfl rfl rfl (by omega) (by omega) ?_
                                  show xEx G0 cdX12_mergedApart (some .int) (xRn G0 MT (d + 22)) Q b 92 [some (.inr (.inr 66)), some (.inl 0), some (.inl k), some (.inl i), some (.inl 0), some (.inl 0), some (.inl x), some (.inl y), some (.inl z), u10] [.inl (h1 94 k), .inl (fE S (pX x y z) (S 8 k) (S 9 k) (S 10 k))] h1
                                  refine E_b (x := (.if_icmp .eq 7, 95, [], [])) rfl rfl (fun c92 => ?_) (fun c92 => ?_)
                                  · rw [c_eq (by first | exact ua | exact ub) (by first | exact ua | exact ub)] at c92
                                    simp only [decide_eq_true_eq, decide_eq_false_iff_not, Decidable.not_not] at c92
                                    show xEx G0 cdX12_mergedApart (some .int) (xRn G0 MT (d + 22)) Q b 95 [some (.inr (.inr 66)), some (.inl 0), some (.inl k), some (.inl i), some (.inl 0), some (.inl 0), some (.inl x), some (.inl y), some (.inl z), u10] [] h1
                                    have dd : ¬ (dmE S 1 k) ((x + 9) + y + z) := by
                                      intro z9
                                      apply z9
                                      rw [pt_1 (by omega) (by omega) (by omega)]
                                      exact g1.symm.trans c92.symm
                                    refine E_s 3 (i' := 98) (ls' := [some (.inr (.inr 66)), some (.inl 0), some (.inl k), some (.inl i), some (.inl 0), some (.inl 0), some (.inl x), some (.inl y), some (.inl z), some (.inl 0)]) (sk' := [.inl 0]) (h' := h1) rfl ?_
                                    refine E_b (x := (.ifCond .eq 25, 110, [], [])) rfl rfl (fun c98 => ?_) (fun c98 => ?_)
                                    · show xEx G0 cdX12_mergedApart (some .int) (xRn G0 MT (d + 22)) Q b 110 [some (.inr (.inr 66)), some (.inl 0), some (.inl k), some (.inl i), some (.inl 0), some (.inl 0), some (.inl x), some (.inl y), some (.inl z), some (.inl 0)] [] h1
                                      refine E_s 2 (i' := 60) (ls' := [some (.inr (.inr 66)), some (.inl 0), some (.inl k), some (.inl i), some (.inl 0), some (.inl 0), some (.inl x), some (.inl y), some (.inl (z + 1)), some (.inl 0)]) (sk' := []) (h' := h1) rfl ?_
                                      exact ih60 _ (z + 1) _ (by omega) (by omega) (fun a z1 z2 => (f1 a z1 z2).trans (hfz a z1 z2)) (fun q0 z1 z2 => by
                                        by_cases z9 : q0 = (x + 9) + y + z
                                        · rw [z9]; exact dd
                                        · exact hnz q0 z1 (by omega)) (by omega)
                                    · show xEx G0 cdX12_mergedApart (some .int) (xRn G0 MT (d + 22)) Q b 99 [some (.inr (.inr 66)), some (.inl 0), some (.inl k), some (.inl i), some (.inl 0), some (.inl 0), some (.inl x), some (.inl y), some (.inl z), some (.inl 0)] [] h1
                                      exact absurd c98 (by decide)
                                  · rw [c_eq (by first | exact ua | exact ub) (by first | exact ua | exact ub)] at c92
                                    simp only [decide_eq_true_eq, decide_eq_false_iff_not, Decidable.not_not] at c92
                                    show xEx G0 cdX12_mergedApart (some .int) (xRn G0 MT (d + 22)) Q b 93 [some (.inr (.inr 66)), some (.inl 0), some (.inl k), some (.inl i), some (.inl 0), some (.inl 0), some (.inl x), some (.inl y), some (.inl z), u10] [] h1
                                    have ddp : (dmE S 1 k) ((x + 9) + y + z) := by
                                      show ¬ _ = _
                                      rw [pt_1 (by omega) (by omega) (by omega)]
                                      intro z9
                                      exact c92 (z9.symm.trans g1.symm)
                                    refine E_s 4 (i' := 98) (ls' := [some (.inr (.inr 66)), some (.inl 0), some (.inl k), some (.inl i), some (.inl 0), some (.inl 0), some (.inl x), some (.inl y), some (.inl z), some (.inl 1)]) (sk' := [.inl 1]) (h' := h1) rfl ?_
                                    refine E_b (x := (.ifCond .eq 25, 110, [], [])) rfl rfl (fun c98 => ?_) (fun c98 => ?_)
                                    · show xEx G0 cdX12_mergedApart (some .int) (xRn G0 MT (d + 22)) Q b 110 [some (.inr (.inr 66)), some (.inl 0), some (.inl k), some (.inl i), some (.inl 0), some (.inl 0), some (.inl x), some (.inl y), some (.inl z), some (.inl 1)] [] h1
                                      exact absurd c98 (by decide)
                                    · show xEx G0 cdX12_mergedApart (some .int) (xRn G0 MT (d + 22)) Q b 99 [some (.inr (.inr 66)), some (.inl 0), some (.inl k), some (.inl i), some (.inl 0), some (.inl 0), some (.inl x), some (.inl y), some (.inl z), some (.inl 1)] [] h1
                                      refine E_s 1 (i' := 100) (ls' := [some (.inr (.inr 66)), some (.inl 0), some (.inl k), some (.inl i), some (.inl 0), some (.inl 0), some (.inl x), some (.inl y), some (.inl z), some (.inl 1)]) (sk' := [.inl i]) (h' := h1) rfl ?_
                                      refine E_b (x := (.ifCond .ne 8, 103, [], [])) rfl rfl (fun c100 => ?_) (fun c100 => ?_)
                                      · rw [c_ne (by first | assumption | (refine ⟨?_, ?_⟩ <;> omega) | (simp only [xr] at *; omega)) (by first | assumption | (refine ⟨?_, ?_⟩ <;> omega) | (simp only [xr] at *; omega))] at c100
                                        simp only [decide_eq_true_eq, decide_eq_false_iff_not, Decidable.not_not] at c100
                                        show xEx G0 cdX12_mergedApart (some .int) (xRn G0 MT (d + 22)) Q b 103 [some (.inr (.inr 66)), some (.inl 0), some (.inl k), some (.inl i), some (.inl 0), some (.inl 0), some (.inl x), some (.inl y), some (.inl z), some (.inl 1)] [] h1
                                        refine E_s 2 (i' := 105) (ls' := [some (.inr (.inr 66)), some (.inl 0), some (.inl k), some (.inl i), some (.inl 0), some (.inl 0), some (.inl x), some (.inl y), some (.inl z), some (.inl 1)]) (sk' := [.inl 1, .inl i]) (h' := h1) rfl ?_
                                        refine E_b (x := (.if_icmp .ne 8, 108, [], [])) rfl rfl (fun c105 => ?_) (fun c105 => ?_)
                                        · rw [c_ne (by first | assumption | (refine ⟨?_, ?_⟩ <;> omega) | (simp only [xr] at *; omega)) (by first | assumption | (refine ⟨?_, ?_⟩ <;> omega) | (simp only [xr] at *; omega))] at c105
                                          simp only [decide_eq_true_eq, decide_eq_false_iff_not, Decidable.not_not] at c105
                                          show xEx G0 cdX12_mergedApart (some .int) (xRn G0 MT (d + 22)) Q b 108 [some (.inr (.inr 66)), some (.inl 0), some (.inl k), some (.inl i), some (.inl 0), some (.inl 0), some (.inl x), some (.inl y), some (.inl z), some (.inl 1)] [] h1
                                          refine E_s 1 (i' := 109) (ls' := [some (.inr (.inr 66)), some (.inl 0), some (.inl k), some (.inl i), some (.inl 0), some (.inl 0), some (.inl x), some (.inl y), some (.inl z), some (.inl 1)]) (sk' := [.inl z]) (h' := h1) rfl ?_
                                          exact E_ret (x := (.ireturn, 0, [], [])) (v := some (.inl z)) rfl (Or.inl rfl) (by
                                            have r9 := hF9 kk h7 ((x + 9) + y + z) (by omega) (by simp [ptN]; omega) ddp hnz _ (fun a z1 z2 => (f1 a z1 z2).trans (hfz a z1 z2))
                                            rw [pt_1 (by omega) (by omega) (by omega)] at r9
                                            have e9 : pX x y z i = z := by unfold pX; rw [if_neg (by omega), if_neg (by omega)]
                                            rw [e9] at r9
                                            exact r9)
                                        · rw [c_ne (by first | assumption | (refine ⟨?_, ?_⟩ <;> omega) | (simp only [xr] at *; omega)) (by first | assumption | (refine ⟨?_, ?_⟩ <;> omega) | (simp only [xr] at *; omega))] at c105
                                          simp only [decide_eq_true_eq, decide_eq_false_iff_not, Decidable.not_not] at c105
                                          show xEx G0 cdX12_mergedApart (some .int) (xRn G0 MT (d + 22)) Q b 106 [some (.inr (.inr 66)), some (.inl 0), some (.inl k), some (.inl i), some (.inl 0), some (.inl 0), some (.inl x), some (.inl y), some (.inl z), some (.inl 1)] [] h1
                                          refine E_s 2 (i' := 109) (ls' := [some (.inr (.inr 66)), some (.inl 0), some (.inl k), some (.inl i), some (.inl 0), some (.inl 0), some (.inl x), some (.inl y), some (.inl z), some (.inl 1)]) (sk' := [.inl y]) (h' := h1) rfl ?_
                                          exact E_ret (x := (.ireturn, 0, [], [])) (v := some (.inl y)) rfl (Or.inl rfl) (by
                                            have r9 := hF9 kk h7 ((x + 9) + y + z) (by omega) (by simp [ptN]; omega) ddp hnz _ (fun a z1 z2 => (f1 a z1 z2).trans (hfz a z1 z2))
                                            rw [pt_1 (by omega) (by omega) (by omega)] at r9
                                            have e9 : pX x y z i = y := by unfold pX; rw [if_neg (by omega), if_pos (by omega)]
                                            rw [e9] at r9
                                            exact r9)
                                      · rw [c_ne (by first | assumption | (refine ⟨?_, ?_⟩ <;> omega) | (simp only [xr] at *; omega)) (by first | assumption | (refine ⟨?_, ?_⟩ <;> omega) | (simp only [xr] at *; omega))] at c100
                                        simp only [decide_eq_true_eq, decide_eq_false_iff_not, Decidable.not_not] at c100
                                        show xEx G0 cdX12_mergedApart (some .int) (xRn G0 MT (d + 22)) Q b 101 [some (.inr (.inr 66)), some (.inl 0), some (.inl k), some (.inl i), some (.inl 0), some (.inl 0), some (.inl x), some (.inl y), some (.inl z), some (.inl 1)] [] h1
                                        refine E_s 2 (i' := 109) (ls' := [some (.inr (.inr 66)), some (.inl 0), some (.inl k), some (.inl i), some (.inl 0), some (.inl 0), some (.inl x), some (.inl y), some (.inl z), some (.inl 1)]) (sk' := [.inl x]) (h' := h1) rfl ?_
                                        exact E_ret (x := (.ireturn, 0, [], [])) (v := some (.inl x)) rfl (Or.inl rfl) (by
                                          have r9 := hF9 kk h7 ((x + 9) + y + z) (by omega) (by simp [ptN]; omega) ddp hnz _ (fun a z1 z2 => (f1 a z1 z2).trans (hfz a z1 z2))
                                          rw [pt_1 (by omega) (by omega) (by omega)] at r9
                                          have e9 : pX x y z i = x := by unfold pX; rw [if_pos (by omega)]
                                          rw [e9] at r9
                                          exact r9)
                                · show xEx G0 cdX12_mergedApart (some .int) (xRn G0 MT (d + 22)) Q b 70 [some (.inr (.inr 66)), some (.inl 0), some (.inl k), some (.inl i), some (.inl 0), some (.inl 0), some (.inl x), some (.inl y), some (.inl z), u10] [] h1
                                  exact absurd c69 (by decide)
                          exact key60 _ _ (-0) _ (by omega) (by omega) hfy (fun q0 z1 z2 => hny q0 z1 (by omega)) (Nat.lt_succ_self _)
                    exact key54 _ _ (-0) _ _ (by omega) (by omega) hfx (fun q0 z1 z2 => hnx q0 z1 (by omega)) (Nat.lt_succ_self _)
              exact key48 _ _ (-9) none none none (by omega) (by omega) (fun _ _ _ => rfl) (fun q0 z1 z2 => by omega) (Nat.lt_succ_self _)
            · rw [c_le (by first | assumption | (refine ⟨?_, ?_⟩ <;> omega) | (simp only [xr] at *; omega)) (by first | assumption | (refine ⟨?_, ?_⟩ <;> omega) | (simp only [xr] at *; omega))] at c41
              simp only [decide_eq_true_eq, decide_eq_false_iff_not, Decidable.not_not] at c41
              show xEx G0 cdX12_mergedApart (some .int) (xRn G0 MT (d + 22)) Q b 42 [some (.inr (.inr 66)), some (.inl 0), some (.inl k), some (.inl i), some (.inl 0), none, none, none, none, none] [] (xup (xup (xup (xup h 66 0 0) 69 300 (h 72 k)) 70 300 (h 73 k)) 71 300 (h 74 k))
              omega
          · rw [c_le (by first | assumption | (refine ⟨?_, ?_⟩ <;> omega) | (simp only [xr] at *; omega)) (by first | assumption | (refine ⟨?_, ?_⟩ <;> omega) | (simp only [xr] at *; omega))] at c33
            simp only [decide_eq_true_eq, decide_eq_false_iff_not, Decidable.not_not] at c33
            show xEx G0 cdX12_mergedApart (some .int) (xRn G0 MT (d + 22)) Q b 34 [some (.inr (.inr 66)), some (.inl 0), some (.inl k), some (.inl i), none, none, none, none, none, none] [] (xup (xup (xup (xup h 66 0 0) 69 300 (h 72 k)) 70 300 (h 73 k)) 71 300 (h 74 k))
            omega
        · rw [c_ne (by first | assumption | (refine ⟨?_, ?_⟩ <;> omega) | (simp only [xr] at *; omega)) (by first | assumption | (refine ⟨?_, ?_⟩ <;> omega) | (simp only [xr] at *; omega))] at c22
          simp only [decide_eq_true_eq, decide_eq_false_iff_not, Decidable.not_not] at c22
          show xEx G0 cdX12_mergedApart (some .int) (xRn G0 MT (d + 22)) Q b 23 [some (.inr (.inr 66)), some (.inl 0), some (.inl k), some (.inl i), none, none, none, none, none, none] [] g1
          obtain ⟨z0, rfl⟩ : h 76 k = 0 ∧ g1 = xup h 66 0 0 := by
            rcases hq4 with ⟨-, a, b⟩ | ⟨a, -⟩
            · exact ⟨a, b⟩
            · omega
          refine E_s 2 (i' := 25) (ls' := [some (.inr (.inr 66)), some (.inl 0), some (.inl k), some (.inl i), none, none, none, none, none, none]) (sk' := [.inl 0]) (h' := (xup h 66 0 0)) rfl ?_
          refine E_b (x := (.ifCond .le 7, 28, [], [])) rfl rfl (fun c25 => ?_) (fun c25 => ?_)
          · show xEx G0 cdX12_mergedApart (some .int) (xRn G0 MT (d + 22)) Q b 28 [some (.inr (.inr 66)), some (.inl 0), some (.inl k), some (.inl i), none, none, none, none, none, none] [] (xup h 66 0 0)
            refine E_s 1 (i' := 29) (ls' := [some (.inr (.inr 66)), some (.inl 0), some (.inl k), some (.inl i), none, none, none, none, none, none]) (sk' := [.inl (-100)]) (h' := (xup h 66 0 0)) rfl ?_
            exact E_ret (x := (.ireturn, 0, [], [])) (v := some (.inl (-100))) rfl (Or.inl rfl) (hZ kk (by rw [← e7]; exact z0))
          · show xEx G0 cdX12_mergedApart (some .int) (xRn G0 MT (d + 22)) Q b 26 [some (.inr (.inr 66)), some (.inl 0), some (.inl k), some (.inl i), none, none, none, none, none, none] [] (xup h 66 0 0)
            exact absurd c25 (by decide)
    · rw [c_ne (by first | assumption | (refine ⟨?_, ?_⟩ <;> omega) | (simp only [xr] at *; omega)) (by first | assumption | (refine ⟨?_, ?_⟩ <;> omega) | (simp only [xr] at *; omega))] at c10
      simp only [decide_eq_true_eq, decide_eq_false_iff_not, Decidable.not_not] at c10
      show xEx G0 cdX12_mergedApart (some .int) (xRn G0 MT (d + 22)) Q b 11 [some (.inr (.inr 66)), some (.inl 0), some (.inl k), some (.inl i), none, none, none, none, none, none] [.inr (.inr 66)] h
      refine E_s 5 (i' := 17) (ls' := [some (.inr (.inr 66)), some (.inl 0), some (.inl k), some (.inl i), none, none, none, none, none, none]) (sk' := [.inl 1]) (h' := (xup h 66 0 1)) rfl ?_
      refine E_b (x := (.ifCond .gt 12, 23, [], [])) rfl rfl (fun c17 => ?_) (fun c17 => ?_)
      · show xEx G0 cdX12_mergedApart (some .int) (xRn G0 MT (d + 22)) Q b 23 [some (.inr (.inr 66)), some (.inl 0), some (.inl k), some (.inl i), none, none, none, none, none, none] [] (xup h 66 0 1)
        
        refine E_s 2 (i' := 25) (ls' := [some (.inr (.inr 66)), some (.inl 0), some (.inl k), some (.inl i), none, none, none, none, none, none]) (sk' := [.inl 1]) (h' := (xup h 66 0 1)) rfl ?_
        refine E_b (x := (.ifCond .le 7, 28, [], [])) rfl rfl (fun c25 => ?_) (fun c25 => ?_)
        · show xEx G0 cdX12_mergedApart (some .int) (xRn G0 MT (d + 22)) Q b 28 [some (.inr (.inr 66)), some (.inl 0), some (.inl k), some (.inl i), none, none, none, none, none, none] [] (xup h 66 0 1)
          exact absurd c25 (by decide)
        · show xEx G0 cdX12_mergedApart (some .int) (xRn G0 MT (d + 22)) Q b 26 [some (.inr (.inr 66)), some (.inl 0), some (.inl k), some (.inl i), none, none, none, none, none, none] [] (xup h 66 0 1)
          refine E_s 2 (i' := 29) (ls' := [some (.inr (.inr 66)), some (.inl 0), some (.inl k), some (.inl i), none, none, none, none, none, none]) (sk' := [.inl 0]) (h' := (xup h 66 0 1)) rfl ?_
          exact E_ret (x := (.ireturn, 0, [], [])) (v := some (.inl 0)) rfl (Or.inl rfl) (hN (by omega))
      · show xEx G0 cdX12_mergedApart (some .int) (xRn G0 MT (d + 22)) Q b 18 [some (.inr (.inr 66)), some (.inl 0), some (.inl k), some (.inl i), none, none, none, none, none, none] [] (xup h 66 0 1)
        exact absurd c17 (by decide)
set_option maxHeartbeats 1000000 in
theorem m_mapart0_2 (d b : Nat) (h S T : xH) (k i n0 : Int) (wt : Int → Int) (hk : xr k) (hi : xr i) (hm : h 66 1 = 2) (h7r : ∀ k, 0 ≤ k → k < S 0 0 → 0 ≤ S 7 k ∧ S 7 k ≤ 400000) (hR : RR h S) (hRT : RRT h T) (hF : FW n0 wt 9 S) (hT : FWT S 7 T) (h3 : 0 ≤ S 0 0 ∧ S 0 0 ≤ 300) (h4 : 0 ≤ T 0 0 ∧ T 0 0 ≤ 150) (hM0 : 0 ≤ h 66 8 ∧ h 66 8 ≤ 300) {Q : xO → xH → Prop} (hN : ¬ ((0 ≤ k ∧ k < h 66 8) ∧ (0 ≤ i ∧ i ≤ 2)) → Q (.inl (some (.inl (0)))) (xup h 66 0 1)) (hZ : ((0 ≤ k ∧ k < h 66 8) ∧ (0 ≤ i ∧ i ≤ 2)) → S 7 k = 0 → Q (.inl (some (.inl (-100)))) (xup h 66 0 0)) (hF9 : ((0 ≤ k ∧ k < h 66 8) ∧ (0 ≤ i ∧ i ≤ 2)) → S 7 k ≠ 0 → ∀ p, 0 ≤ p → p < ptN 2 → (dmE S 2 k) p → (∀ q, 0 ≤ q → q < p → ¬ (dmE S 2 k) q) → ∀ h', (∀ a, a ≠ 94 → a ≠ 95 → h' a = (xup (xup (xup (xup h 66 0 0) 69 300 (h 72 k)) 70 300 (h 73 k)) 71 300 (h 74 k)) a) → Q (.inl (some (.inl (ptX 2 p i)))) h') (hG : ((0 ≤ k ∧ k < h 66 8) ∧ (0 ≤ i ∧ i ≤ 2)) → S 7 k ≠ 0 → (∀ q, 0 ≤ q → q < ptN 2 → ¬ (dmE S 2 k) q) → ∀ h', (∀ a, a ≠ 94 → a ≠ 95 → h' a = (xup (xup (xup (xup h 66 0 0) 69 300 (h 72 k)) 70 300 (h 73 k)) 71 300 (h 74 k)) a) → Q (.inl (some (.inl (-100)))) h') : xRn G0 MT (d + 23) b 200 [.inr (.inr 66), .inl 0, .inl k, .inl i] h Q := by
  refine R_of (M := mX12_mergedApart) rfl (Nat.le_of_ble_eq_true rfl) ?_
  show xEx G0 cdX12_mergedApart (some .int) (xRn G0 MT (d + 22)) Q b 0 [some (.inr (.inr 66)), some (.inl 0), some (.inl k), some (.inl i), none, none, none, none, none, none] [] h
  refine E_s 4 (i' := 4) (ls' := [some (.inr (.inr 66)), some (.inl 0), some (.inl k), some (.inl i), none, none, none, none, none, none]) (sk' := [.inl k, .inl 0, .inr (.inr 66), .inr (.inr 66)]) (h' := h) rfl ?_
  refine E_cp (x := (.invokevirtual 295, 2, [(10, 193)], [0])) (q := fun r1 h9 => ((r1 = 1 ∧ (0 ≤ k ∧ k < h 66 8)) ∨ (r1 = 0 ∧ ¬ (0 ≤ k ∧ k < h 66 8))) ∧ h = h9) rfl rfl (Nat.le_of_ble_eq_true rfl) (m_isKept0 (d + 20) 0 h k hk hM0 (fun z => ⟨_, rfl, Or.inl ⟨rfl, z⟩, rfl⟩) (fun z => ⟨_, rfl, Or.inr ⟨rfl, z⟩, rfl⟩)) (fun r1 h9 q1 => ?_)
  obtain ⟨q1, rfl⟩ := q1
  show xEx G0 cdX12_mergedApart (some .int) (xRn G0 MT (d + 22)) Q b 5 [some (.inr (.inr 66)), some (.inl 0), some (.inl k), some (.inl i), none, none, none, none, none, none] [.inl r1, .inr (.inr 66)] h
  refine E_b (x := (.ifCond .eq 12, 11, [], [])) rfl rfl (fun c5 => ?_) (fun c5 => ?_)
  · rw [c_eq (by first | assumption | (refine ⟨?_, ?_⟩ <;> omega) | (simp only [xr] at *; omega)) (by first | assumption | (refine ⟨?_, ?_⟩ <;> omega) | (simp only [xr] at *; omega))] at c5
    simp only [decide_eq_true_eq, decide_eq_false_iff_not, Decidable.not_not] at c5
    show xEx G0 cdX12_mergedApart (some .int) (xRn G0 MT (d + 22)) Q b 11 [some (.inr (.inr 66)), some (.inl 0), some (.inl k), some (.inl i), none, none, none, none, none, none] [.inr (.inr 66)] h
    refine E_s 5 (i' := 17) (ls' := [some (.inr (.inr 66)), some (.inl 0), some (.inl k), some (.inl i), none, none, none, none, none, none]) (sk' := [.inl 1]) (h' := (xup h 66 0 1)) rfl ?_
    refine E_b (x := (.ifCond .gt 12, 23, [], [])) rfl rfl (fun c17 => ?_) (fun c17 => ?_)
    · show xEx G0 cdX12_mergedApart (some .int) (xRn G0 MT (d + 22)) Q b 23 [some (.inr (.inr 66)), some (.inl 0), some (.inl k), some (.inl i), none, none, none, none, none, none] [] (xup h 66 0 1)
      
      refine E_s 2 (i' := 25) (ls' := [some (.inr (.inr 66)), some (.inl 0), some (.inl k), some (.inl i), none, none, none, none, none, none]) (sk' := [.inl 1]) (h' := (xup h 66 0 1)) rfl ?_
      refine E_b (x := (.ifCond .le 7, 28, [], [])) rfl rfl (fun c25 => ?_) (fun c25 => ?_)
      · show xEx G0 cdX12_mergedApart (some .int) (xRn G0 MT (d + 22)) Q b 28 [some (.inr (.inr 66)), some (.inl 0), some (.inl k), some (.inl i), none, none, none, none, none, none] [] (xup h 66 0 1)
        exact absurd c25 (by decide)
      · show xEx G0 cdX12_mergedApart (some .int) (xRn G0 MT (d + 22)) Q b 26 [some (.inr (.inr 66)), some (.inl 0), some (.inl k), some (.inl i), none, none, none, none, none, none] [] (xup h 66 0 1)
        refine E_s 2 (i' := 29) (ls' := [some (.inr (.inr 66)), some (.inl 0), some (.inl k), some (.inl i), none, none, none, none, none, none]) (sk' := [.inl 0]) (h' := (xup h 66 0 1)) rfl ?_
        exact E_ret (x := (.ireturn, 0, [], [])) (v := some (.inl 0)) rfl (Or.inl rfl) (hN (by omega))
    · show xEx G0 cdX12_mergedApart (some .int) (xRn G0 MT (d + 22)) Q b 18 [some (.inr (.inr 66)), some (.inl 0), some (.inl k), some (.inl i), none, none, none, none, none, none] [] (xup h 66 0 1)
      exact absurd c17 (by decide)
  · rw [c_eq (by first | assumption | (refine ⟨?_, ?_⟩ <;> omega) | (simp only [xr] at *; omega)) (by first | assumption | (refine ⟨?_, ?_⟩ <;> omega) | (simp only [xr] at *; omega))] at c5
    simp only [decide_eq_true_eq, decide_eq_false_iff_not, Decidable.not_not] at c5
    show xEx G0 cdX12_mergedApart (some .int) (xRn G0 MT (d + 22)) Q b 6 [some (.inr (.inr 66)), some (.inl 0), some (.inl k), some (.inl i), none, none, none, none, none, none] [.inr (.inr 66)] h
    refine E_s 3 (i' := 9) (ls' := [some (.inr (.inr 66)), some (.inl 0), some (.inl k), some (.inl i), none, none, none, none, none, none]) (sk' := [.inl 2, .inl 0, .inl i, .inr (.inr 66)]) (h' := h) rfl ?_
    refine E_cp (x := (.invokestatic 180, 3, [(0, 155)], [])) (q := fun r2 h9 => ((r2 = 1 ∧ (0 ≤ i ∧ i ≤ 2)) ∨ (r2 = 0 ∧ ¬ (0 ≤ i ∧ i ≤ 2))) ∧ h = h9) rfl rfl (Nat.le_of_ble_eq_true rfl) (m_isIn (d + 21) 0 (h) i 0 2 hi ⟨by omega, by omega⟩ ⟨by omega, by omega⟩ (fun z => ⟨_, rfl, Or.inl ⟨rfl, z⟩, rfl⟩) (fun z => ⟨_, rfl, Or.inr ⟨rfl, z⟩, rfl⟩)) (fun r2 h9 q2 => ?_)
    obtain ⟨q2, rfl⟩ := q2
    show xEx G0 cdX12_mergedApart (some .int) (xRn G0 MT (d + 22)) Q b 10 [some (.inr (.inr 66)), some (.inl 0), some (.inl k), some (.inl i), none, none, none, none, none, none] [.inl r2, .inr (.inr 66)] h
    refine E_b (x := (.ifCond .ne 7, 13, [], [])) rfl rfl (fun c10 => ?_) (fun c10 => ?_)
    · rw [c_ne (by first | assumption | (refine ⟨?_, ?_⟩ <;> omega) | (simp only [xr] at *; omega)) (by first | assumption | (refine ⟨?_, ?_⟩ <;> omega) | (simp only [xr] at *; omega))] at c10
      simp only [decide_eq_true_eq, decide_eq_false_iff_not, Decidable.not_not] at c10
      show xEx G0 cdX12_mergedApart (some .int) (xRn G0 MT (d + 22)) Q b 13 [some (.inr (.inr 66)), some (.inl 0), some (.inl k), some (.inl i), none, none, none, none, none, none] [.inr (.inr 66)] h
      refine E_s 4 (i' := 17) (ls' := [some (.inr (.inr 66)), some (.inl 0), some (.inl k), some (.inl i), none, none, none, none, none, none]) (sk' := [.inl 0]) (h' := (xup h 66 0 0)) rfl ?_
      refine E_b (x := (.ifCond .gt 12, 23, [], [])) rfl rfl (fun c17 => ?_) (fun c17 => ?_)
      · show xEx G0 cdX12_mergedApart (some .int) (xRn G0 MT (d + 22)) Q b 23 [some (.inr (.inr 66)), some (.inl 0), some (.inl k), some (.inl i), none, none, none, none, none, none] [] (xup h 66 0 0)
        exact absurd c17 (by decide)
      · show xEx G0 cdX12_mergedApart (some .int) (xRn G0 MT (d + 22)) Q b 18 [some (.inr (.inr 66)), some (.inl 0), some (.inl k), some (.inl i), none, none, none, none, none, none] [] (xup h 66 0 0)
        refine E_s 3 (i' := 21) (ls' := [some (.inr (.inr 66)), some (.inl 0), some (.inl k), some (.inl i), none, none, none, none, none, none]) (sk' := [.inl k, .inl 0, .inr (.inr 66)]) (h' := (xup h 66 0 0)) rfl ?_
        have kk : (0 ≤ k ∧ k < h 66 8) ∧ (0 ≤ i ∧ i ≤ 2) := by omega
        have hk2 : 0 ≤ k ∧ k < S 0 0 := by rw [← hR.1]; exact kk.1
        have e7 : h 76 k = S 7 k := (hR.2.2.1 k hk2.1 hk2.2).2.2.2.2.2.1
        have r7 := h7r k hk2.1 hk2.2
        refine E_cp (x := (.invokevirtual 306, 2, [(10, 199)], [0])) (q := fun r h9 => (r = 0 ∧ h 76 k = 0 ∧ h9 = xup h 66 0 0) ∨ (r = 1 ∧ h 76 k ≠ 0 ∧ h9 = xup (xup (xup (xup h 66 0 0) 69 300 (h 72 k)) 70 300 (h 73 k)) 71 300 (h 74 k))) rfl rfl (Nat.le_of_ble_eq_true rfl) (m_laysM0 (d + 21) 0 (xup h 66 0 0) k ⟨by omega, by omega⟩ (show xr (h 76 k) by rw [e7]; exact ⟨by omega, by omega⟩) (fun z9 => ⟨_, rfl, Or.inl ⟨rfl, z9, rfl⟩⟩) (fun z9 => ⟨_, rfl, Or.inr ⟨rfl, z9, rfl⟩⟩)) (fun r4 g1 hq4 => ?_)
        show xEx G0 cdX12_mergedApart (some .int) (xRn G0 MT (d + 22)) Q b 22 [some (.inr (.inr 66)), some (.inl 0), some (.inl k), some (.inl i), none, none, none, none, none, none] [.inl r4] g1
        refine E_b (x := (.ifCond .ne 17, 30, [], [])) rfl rfl (fun c22 => ?_) (fun c22 => ?_)
        · rw [c_ne (by first | assumption | (refine ⟨?_, ?_⟩ <;> omega) | (simp only [xr] at *; omega)) (by first | assumption | (refine ⟨?_, ?_⟩ <;> omega) | (simp only [xr] at *; omega))] at c22
          simp only [decide_eq_true_eq, decide_eq_false_iff_not, Decidable.not_not] at c22
          show xEx G0 cdX12_mergedApart (some .int) (xRn G0 MT (d + 22)) Q b 30 [some (.inr (.inr 66)), some (.inl 0), some (.inl k), some (.inl i), none, none, none, none, none, none] [] g1
          obtain ⟨h7, rfl⟩ : h 76 k ≠ 0 ∧ g1 = xup (xup (xup (xup h 66 0 0) 69 300 (h 72 k)) 70 300 (h 73 k)) 71 300 (h 74 k) := by
            rcases hq4 with ⟨a, -⟩ | ⟨-, a, b⟩
            · omega
            · exact ⟨a, b⟩
          rw [e7] at h7
          have fmb : FM h (xup (xup (xup (xup h 66 0 0) 69 300 (h 72 k)) 70 300 (h 73 k)) 71 300 (h 74 k)) := (FM_u3 (FM_u3 (FM_u3 ((FM.rf h).up (Or.inr ⟨rfl, by unfold mdf; decide⟩)) (Or.inl ⟨by decide, by decide⟩)) (Or.inl ⟨by decide, by decide⟩)) (Or.inl ⟨by decide, by decide⟩))
          obtain ⟨hR1, hRT1⟩ := RR_FM h3.2 h4.2 fmb hR hRT
          refine E_s 3 (i' := 33) (ls' := [some (.inr (.inr 66)), some (.inl 0), some (.inl k), some (.inl i), none, none, none, none, none, none]) (sk' := [.inl 1, .inl (h 66 1)]) (h' := (xup (xup (xup (xup h 66 0 0) 69 300 (h 72 k)) 70 300 (h 73 k)) 71 300 (h 74 k))) rfl ?_
          refine E_b (x := (.if_icmp .le 8, 36, [], [])) rfl rfl (fun c33 => ?_) (fun c33 => ?_)
          · rw [c_le (by first | assumption | (refine ⟨?_, ?_⟩ <;> omega) | (simp only [xr] at *; omega)) (by first | assumption | (refine ⟨?_, ?_⟩ <;> omega) | (simp only [xr] at *; omega))] at c33
            simp only [decide_eq_true_eq, decide_eq_false_iff_not, Decidable.not_not] at c33
            show xEx G0 cdX12_mergedApart (some .int) (xRn G0 MT (d + 22)) Q b 36 [some (.inr (.inr 66)), some (.inl 0), some (.inl k), some (.inl i), none, none, none, none, none, none] [] (xup (xup (xup (xup h 66 0 0) 69 300 (h 72 k)) 70 300 (h 73 k)) 71 300 (h 74 k))
            omega
          · rw [c_le (by first | assumption | (refine ⟨?_, ?_⟩ <;> omega) | (simp only [xr] at *; omega)) (by first | assumption | (refine ⟨?_, ?_⟩ <;> omega) | (simp only [xr] at *; omega))] at c33
            simp only [decide_eq_true_eq, decide_eq_false_iff_not, Decidable.not_not] at c33
            show xEx G0 cdX12_mergedApart (some .int) (xRn G0 MT (d + 22)) Q b 34 [some (.inr (.inr 66)), some (.inl 0), some (.inl k), some (.inl i), none, none, none, none, none, none] [] (xup (xup (xup (xup h 66 0 0) 69 300 (h 72 k)) 70 300 (h 73 k)) 71 300 (h 74 k))
            refine E_s 6 (i' := 41) (ls' := [some (.inr (.inr 66)), some (.inl 0), some (.inl k), some (.inl i), some (.inl 9), none, none, none, none, none]) (sk' := [.inl 2, .inl (h 66 1)]) (h' := (xup (xup (xup (xup h 66 0 0) 69 300 (h 72 k)) 70 300 (h 73 k)) 71 300 (h 74 k))) rfl ?_
            refine E_b (x := (.if_icmp .le 8, 44, [], [])) rfl rfl (fun c41 => ?_) (fun c41 => ?_)
            · rw [c_le (by first | assumption | (refine ⟨?_, ?_⟩ <;> omega) | (simp only [xr] at *; omega)) (by first | assumption | (refine ⟨?_, ?_⟩ <;> omega) | (simp only [xr] at *; omega))] at c41
              simp only [decide_eq_true_eq, decide_eq_false_iff_not, Decidable.not_not] at c41
              show xEx G0 cdX12_mergedApart (some .int) (xRn G0 MT (d + 22)) Q b 44 [some (.inr (.inr 66)), some (.inl 0), some (.inl k), some (.inl i), some (.inl 9), none, none, none, none, none] [] (xup (xup (xup (xup h 66 0 0) 69 300 (h 72 k)) 70 300 (h 73 k)) 71 300 (h 74 k))
              refine E_s 4 (i' := 48) (ls' := [some (.inr (.inr 66)), some (.inl 0), some (.inl k), some (.inl i), some (.inl 9), some (.inl 0), some (.inl (-9)), none, none, none]) (sk' := []) (h' := (xup (xup (xup (xup h 66 0 0) 69 300 (h 72 k)) 70 300 (h 73 k)) 71 300 (h 74 k))) rfl ?_
              have key48 : ∀ (n : Nat) (hx : xH) (x : Int) (v8 v9 : Option xV) (v10 : Option xV), (-9 ≤ x) → (x ≤ 10) → (∀ a, a ≠ 94 → a ≠ 95 → hx a = (xup (xup (xup (xup h 66 0 0) 69 300 (h 72 k)) 70 300 (h 73 k)) 71 300 (h 74 k)) a) → (∀ q0, 0 ≤ q0 → q0 < (x + 9) * 19 + 0 + 0 → ¬ (dmE S 2 k) q0) → ((10 - x).toNat) < n → xEx G0 cdX12_mergedApart (some .int) (xRn G0 MT (d + 22)) Q b 48 [some (.inr (.inr 66)), some (.inl 0), some (.inl k), some (.inl i), some (.inl 9), some (.inl 0), some (.inl x), v8, v9, v10] [] hx := by
                intro n
                induction n with
                | zero => intro hx x v8 v9 v10 _ _ _ _ hm; exact absurd hm (Nat.not_lt_zero _)
                | succ n ih48 =>
                  intro hx x v8 v9 v10 hx0 hx9 hfx hnx hm48
                  refine E_s 2 (i' := 50) (ls' := [some (.inr (.inr 66)), some (.inl 0), some (.inl k), some (.inl i), some (.inl 9), some (.inl 0), some (.inl x), v8, v9, v10]) (sk' := [.inl 9, .inl x]) (h' := hx) rfl ?_
                  refine E_b (x := (.if_icmp .gt 139, 116, [], [])) rfl rfl (fun c50 => ?_) (fun c50 => ?_)
                  · rw [c_gt (by first | assumption | (refine ⟨?_, ?_⟩ <;> omega) | (simp only [xr] at *; omega)) (by first | assumption | (refine ⟨?_, ?_⟩ <;> omega) | (simp only [xr] at *; omega))] at c50
                    simp only [decide_eq_true_eq, decide_eq_false_iff_not, Decidable.not_not] at c50
                    show xEx G0 cdX12_mergedApart (some .int) (xRn G0 MT (d + 22)) Q b 116 [some (.inr (.inr 66)), some (.inl 0), some (.inl k), some (.inl i), some (.inl 9), some (.inl 0), some (.inl x), v8, v9, v10] [] hx
                    refine E_s 1 (i' := 117) (ls' := [some (.inr (.inr 66)), some (.inl 0), some (.inl k), some (.inl i), some (.inl 9), some (.inl 0), some (.inl x), v8, v9, v10]) (sk' := [.inl (-100)]) (h' := hx) rfl ?_
                    exact E_ret (x := (.ireturn, 0, [], [])) (v := some (.inl (-100))) rfl (Or.inl rfl) (hG kk h7 (fun q z1 z2 => hnx q z1 (by simp [ptN] at z2; omega)) _ hfx)
                  · rw [c_gt (by first | assumption | (refine ⟨?_, ?_⟩ <;> omega) | (simp only [xr] at *; omega)) (by first | assumption | (refine ⟨?_, ?_⟩ <;> omega) | (simp only [xr] at *; omega))] at c50
                    simp only [decide_eq_true_eq, decide_eq_false_iff_not, Decidable.not_not] at c50
                    show xEx G0 cdX12_mergedApart (some .int) (xRn G0 MT (d + 22)) Q b 51 [some (.inr (.inr 66)), some (.inl 0), some (.inl k), some (.inl i), some (.inl 9), some (.inl 0), some (.inl x), v8, v9, v10] [] hx
                    refine E_s 3 (i' := 54) (ls' := [some (.inr (.inr 66)), some (.inl 0), some (.inl k), some (.inl i), some (.inl 9), some (.inl 0), some (.inl x), some (.inl (-9)), v9, v10]) (sk' := []) (h' := hx) rfl ?_
                    have key54 : ∀ (n : Nat) (hy : xH) (y : Int) (w9 : Option xV) (w10 : Option xV), (-9 ≤ y) → (y ≤ 10) → (∀ a, a ≠ 94 → a ≠ 95 → hy a = (xup (xup (xup (xup h 66 0 0) 69 300 (h 72 k)) 70 300 (h 73 k)) 71 300 (h 74 k)) a) → (∀ q0, 0 ≤ q0 → q0 < (x + 9) * 19 + (y + 9) + 0 → ¬ (dmE S 2 k) q0) → ((10 - y).toNat) < n → xEx G0 cdX12_mergedApart (some .int) (xRn G0 MT (d + 22)) Q b 54 [some (.inr (.inr 66)), some (.inl 0), some (.inl k), some (.inl i), some (.inl 9), some (.inl 0), some (.inl x), some (.inl y), w9, w10] [] hy := by
                      intro n
                      induction n with
                      | zero => intro hy y w9 w10 _ _ _ _ hm; exact absurd hm (Nat.not_lt_zero _)
                      | succ n ih54 =>
                        intro hy y w9 w10 hy0 hy9 hfy hny hm54
                        refine E_s 2 (i' := 56) (ls' := [some (.inr (.inr 66)), some (.inl 0), some (.inl k), some (.inl i), some (.inl 9), some (.inl 0), some (.inl x), some (.inl y), w9, w10]) (sk' := [.inl 9, .inl y]) (h' := hy) rfl ?_
                        refine E_b (x := (.if_icmp .gt 121, 114, [], [])) rfl rfl (fun c56 => ?_) (fun c56 => ?_)
                        · rw [c_gt (by first | assumption | (refine ⟨?_, ?_⟩ <;> omega) | (simp only [xr] at *; omega)) (by first | assumption | (refine ⟨?_, ?_⟩ <;> omega) | (simp only [xr] at *; omega))] at c56
                          simp only [decide_eq_true_eq, decide_eq_false_iff_not, Decidable.not_not] at c56
                          show xEx G0 cdX12_mergedApart (some .int) (xRn G0 MT (d + 22)) Q b 114 [some (.inr (.inr 66)), some (.inl 0), some (.inl k), some (.inl i), some (.inl 9), some (.inl 0), some (.inl x), some (.inl y), w9, w10] [] hy
                          refine E_s 2 (i' := 48) (ls' := [some (.inr (.inr 66)), some (.inl 0), some (.inl k), some (.inl i), some (.inl 9), some (.inl 0), some (.inl (x + 1)), some (.inl y), w9, w10]) (sk' := []) (h' := hy) rfl ?_
                          exact ih48 _ (x + 1) _ _ _ (by omega) (by omega) hfy (fun q0 z1 z2 => hny q0 z1 (by omega)) (by omega)
                        · rw [c_gt (by first | assumption | (refine ⟨?_, ?_⟩ <;> omega) | (simp only [xr] at *; omega)) (by first | assumption | (refine ⟨?_, ?_⟩ <;> omega) | (simp only [xr] at *; omega))] at c56
                          simp only [decide_eq_true_eq, decide_eq_false_iff_not, Decidable.not_not] at c56
                          show xEx G0 cdX12_mergedApart (some .int) (xRn G0 MT (d + 22)) Q b 57 [some (.inr (.inr 66)), some (.inl 0), some (.inl k), some (.inl i), some (.inl 9), some (.inl 0), some (.inl x), some (.inl y), w9, w10] [] hy
                          refine E_s 3 (i' := 60) (ls' := [some (.inr (.inr 66)), some (.inl 0), some (.inl k), some (.inl i), some (.inl 9), some (.inl 0), some (.inl x), some (.inl y), some (.inl (-0)), w10]) (sk' := []) (h' := hy) rfl ?_
                          have key60 : ∀ (n : Nat) (hz : xH) (z : Int) (u10 : Option xV), (-0 ≤ z) → (z ≤ 1) → (∀ a, a ≠ 94 → a ≠ 95 → hz a = (xup (xup (xup (xup h 66 0 0) 69 300 (h 72 k)) 70 300 (h 73 k)) 71 300 (h 74 k)) a) → (∀ q0, 0 ≤ q0 → q0 < (x + 9) * 19 + (y + 9) + z → ¬ (dmE S 2 k) q0) → ((1 - z).toNat) < n → xEx G0 cdX12_mergedApart (some .int) (xRn G0 MT (d + 22)) Q b 60 [some (.inr (.inr 66)), some (.inl 0), some (.inl k), some (.inl i), some (.inl 9), some (.inl 0), some (.inl x), some (.inl y), some (.inl z), u10] [] hz := by
                            intro n
                            induction n with
                            | zero => intro hz z u10 _ _ _ _ hm; exact absurd hm (Nat.not_lt_zero _)
                            | succ n ih60 =>
                              intro hz z u10 hz0 hz9 hfz hnz hm60
                              refine E_s 2 (i' := 62) (ls' := [some (.inr (.inr 66)), some (.inl 0), some (.inl k), some (.inl i), some (.inl 9), some (.inl 0), some (.inl x), some (.inl y), some (.inl z), u10]) (sk' := [.inl 0, .inl z]) (h' := hz) rfl ?_
                              refine E_b (x := (.if_icmp .gt 103, 112, [], [])) rfl rfl (fun c62 => ?_) (fun c62 => ?_)
                              · rw [c_gt (by first | assumption | (refine ⟨?_, ?_⟩ <;> omega) | (simp only [xr] at *; omega)) (by first | assumption | (refine ⟨?_, ?_⟩ <;> omega) | (simp only [xr] at *; omega))] at c62
                                simp only [decide_eq_true_eq, decide_eq_false_iff_not, Decidable.not_not] at c62
                                show xEx G0 cdX12_mergedApart (some .int) (xRn G0 MT (d + 22)) Q b 112 [some (.inr (.inr 66)), some (.inl 0), some (.inl k), some (.inl i), some (.inl 9), some (.inl 0), some (.inl x), some (.inl y), some (.inl z), u10] [] hz
                                refine E_s 2 (i' := 54) (ls' := [some (.inr (.inr 66)), some (.inl 0), some (.inl k), some (.inl i), some (.inl 9), some (.inl 0), some (.inl x), some (.inl (y + 1)), some (.inl z), u10]) (sk' := []) (h' := hz) rfl ?_
                                exact ih54 _ (y + 1) _ _ (by omega) (by omega) hfz (fun q0 z1 z2 => hnz q0 z1 (by omega)) (by omega)
                              · rw [c_gt (by first | assumption | (refine ⟨?_, ?_⟩ <;> omega) | (simp only [xr] at *; omega)) (by first | assumption | (refine ⟨?_, ?_⟩ <;> omega) | (simp only [xr] at *; omega))] at c62
                                simp only [decide_eq_true_eq, decide_eq_false_iff_not, Decidable.not_not] at c62
                                show xEx G0 cdX12_mergedApart (some .int) (xRn G0 MT (d + 22)) Q b 63 [some (.inr (.inr 66)), some (.inl 0), some (.inl k), some (.inl i), some (.inl 9), some (.inl 0), some (.inl x), some (.inl y), some (.inl z), u10] [] hz
                                refine E_s 4 (i' := 67) (ls' := [some (.inr (.inr 66)), some (.inl 0), some (.inl k), some (.inl i), some (.inl 9), some (.inl 0), some (.inl x), some (.inl y), some (.inl z), u10]) (sk' := [.inl z, .inl y, .inl x, .inr (.inr 66)]) (h' := hz) rfl ?_
                                refine E_cv (x := (.invokevirtual 309, 3, [(10, 198)], [0])) (q := fun h9 => (∀ a, a ≠ 94 → a ≠ 95 → h9 a = hz a) ∧ (∀ k, 0 ≤ k → k < S 0 0 → h9 94 k = VE S (pX x y z) k) ∧ (∀ t, 0 ≤ t → t < T 0 0 → h9 95 t = VU S T (pX x y z) t)) rfl rfl (Nat.le_of_ble_eq_true rfl) (m_reckons (d + 18) 0 hz S T x y z n0 wt ⟨by omega, by omega⟩ ⟨by omega, by omega⟩ ⟨by omega, by omega⟩ (RR_vh hfz hR1) (RRT_vh hfz hRT1) hF hT h3 h4 (fun h9 z1 z2 z3 => ⟨rfl, z1, z2, z3⟩)) (fun h1 hq => ?_)
                                obtain ⟨f1, f2, f3⟩ := hq
                                have xx : xr x := ⟨by omega, by omega⟩
                                have xy : xr y := ⟨by omega, by omega⟩
                                have xz : xr z := ⟨by omega, by omega⟩
                                show xEx G0 cdX12_mergedApart (some .int) (xRn G0 MT (d + 22)) Q b 68 [some (.inr (.inr 66)), some (.inl 0), some (.inl k), some (.inl i), some (.inl 9), some (.inl 0), some (.inl x), some (.inl y), some (.inl z), u10] [] h1
                                refine E_s 1 (i' := 69) (ls' := [some (.inr (.inr 66)), some (.inl 0), some (.inl k), some (.inl i), some (.inl 9), some (.inl 0), some (.inl x), some (.inl y), some (.inl z), u10]) (sk' := [.inl 0]) (h' := h1) rfl ?_
                                refine E_b (x := (.ifCond .eq 27, 82, [], [])) rfl rfl (fun c69 => ?_) (fun c69 => ?_)
                                · show xEx G0 cdX12_mergedApart (some .int) (xRn G0 MT (d + 22)) Q b 82 [some (.inr (.inr 66)), some (.inl 0), some (.inl k), some (.inl i), some (.inl 9), some (.inl 0), some (.inl x), some (.inl y), some (.inl z), u10] [] h1
                                  refine E_s 5 (i' := 87) (ls' := [some (.inr (.inr 66)), some (.inl 0), some (.inl k), some (.inl i), some (.inl 9), some (.inl 0), some (.inl x), some (.inl y), some (.inl z), u10]) (sk' := [.inl z, .inl y, .inl x, .inl 300, .inr (.inr 66)]) (h' := h1) rfl ?_
                                  obtain ⟨yz, -, cz⟩ := (hF k hk2.1 hk2.2).2.2.2.2.2.2 h7
                                  have ch := cw_ch hF (Int.le_refl _) cz
                                  obtain ⟨b1, b2, b3⟩ := (hR.2.2.1 k hk2.1 hk2.2).2.2.2.2.2.2 h7
                                  have i1 : h1 69 300 = S 8 k := by rw [f1 _ (by decide) (by decide), hfz _ (by decide) (by decide)]; exact b1
                                  have i2 : h1 70 300 = S 9 k := by rw [f1 _ (by decide) (by decide), hfz _ (by decide) (by decide)]; exact b2
                                  have i3 : h1 71 300 = oth (S 8 k) (S 10 k) := by rw [f1 _ (by decide) (by decide), hfz _ (by decide) (by decide)]; exact b3
                                  have rr : ∀ j, 0 ≤ j → j < S 0 0 → h1 94 j = VE S (pX x y z) j ∧ xr (VE S (pX x y z) j) := fun j z1 z2 => ⟨f2 j z1 z2, VE_r hF (pX_r xx xy xz) 300 j z1 z2⟩
                                  refine E_cp (x := (.invokevirtual 299, 4, [(10, 196)], [0])) (q := fun r h9 => w32 r = fE S (pX x y z) (S 8 k) (S 9 k) (S 10 k) ∧ h1 = h9) rfl rfl (Nat.le_of_ble_eq_true rfl) (m_valueOf (d + 19) 0 h1 S 300 x y z (S 8 k) (S 9 k) (S 10 k) xx xy xz ⟨by decide, by decide⟩ i1 i2 i3 (by omega) (fun z9 => rr _ (by omega) (by omega)) (fun z9 _ => rr _ (by omega) (by omega)) (fun v hv => ⟨v, rfl, hv, rfl⟩)) (fun r9 h9 hv9 => ?_)
                                  obtain ⟨hv9, rfl⟩ := hv9
                                  show xEx G0 cdX12_mergedApart (some .int) (xRn G0 MT (d + 22)) Q b 88 [some (.inr (.inr 66)), some (.inl 0), some (.inl k), some (.inl i), some (.inl 9), some (.inl 0), some (.inl x), some (.inl y), some (.inl z), u10] [.inl r9] h1
                                  have ub : xr (fE S (pX x y z) (S 8 k) (S 9 k) (S 10 k)) := fE_r hF (pX_r xx xy xz) (Int.le_refl _) cz
                                  have g1 := f2 k hk2.1 hk2.2
                                  have ua : xr (h1 94 k) := by rw [g1]; exact (rr k hk2.1 hk2.2).2
                                  refine E_ti (y := (fE S (pX x y z) (S 8 k) (S 9 k) (S 10 k))) (by rw [hv9, w32_id ub]) ?_
                                  refine E_s 3 (i' := 91) (ls' := [some (.inr (.inr 66)), some (.inl 0), some (.inl k), some (.inl i), some (.inl 9), some (.inl 0), some (.inl x), some (.inl y), some (.inl z), u10]) (sk' := [.inl k, .inr (.inr 94), .inl (fE S (pX x y z) (S 8 k) (S 9 k) (S 10 k))]) (h' := h1) rfl ?_
                                  refine E_ld (x := (.iaload, 0, [], [])) (ty := .int) (n := 300) rfl rfl rfl (by omega) (by omega) ?_
                                  show xEx G0 cdX12_mergedApart (some .int) (xRn G0 MT (d + 22)) Q b 92 [some (.inr (.inr 66)), some (.inl 0), some (.inl k), some (.inl i), some (.inl 9), some (.inl 0), some (.inl x), some (.inl y), some (.inl z), u10] [.inl (h1 94 k), .inl (fE S (pX x y z) (S 8 k) (S 9 k) (S 10 k))] h1
                                  refine E_b (x := (.if_icmp .eq 7, 95, [], [])) rfl rfl (fun c92 => ?_) (fun c92 => ?_)
                                  · rw [c_eq (by first | exact ua | exact ub) (by first | exact ua | exact ub)] at c92
                                    simp only [decide_eq_true_eq, decide_eq_false_iff_not, Decidable.not_not] at c92
                                    show xEx G0 cdX12_mergedApart (some .int) (xRn G0 MT (d + 22)) Q b 95 [some (.inr (.inr 66)), some (.inl 0), some (.inl k), some (.inl i), some (.inl 9), some (.inl 0), some (.inl x), some (.inl y), some (.inl z), u10] [] h1
                                    have dd : ¬ (dmE S 2 k) ((x + 9) * 19 + (y + 9) + z) := by
                                      intro z9
                                      apply z9
                                      rw [pt_2 (by omega) (by omega) (by omega)]
                                      exact g1.symm.trans c92.symm
                                    refine E_s 3 (i' := 98) (ls' := [some (.inr (.inr 66)), some (.inl 0), some (.inl k), some (.inl i), some (.inl 9), some (.inl 0), some (.inl x), some (.inl y), some (.inl z), some (.inl 0)]) (sk' := [.inl 0]) (h' := h1) rfl ?_
                                    refine E_b (x := (.ifCond .eq 25, 110, [], [])) rfl rfl (fun c98 => ?_) (fun c98 => ?_)
                                    · show xEx G0 cdX12_mergedApart (some .int) (xRn G0 MT (d + 22)) Q b 110 [some (.inr (.inr 66)), some (.inl 0), some (.inl k), some (.inl i), some (.inl 9), some (.inl 0), some (.inl x), some (.inl y), some (.inl z), some (.inl 0)] [] h1
                                      refine E_s 2 (i' := 60) (ls' := [some (.inr (.inr 66)), some (.inl 0), some (.inl k), some (.inl i), some (.inl 9), some (.inl 0), some (.inl x), some (.inl y), some (.inl (z + 1)), some (.inl 0)]) (sk' := []) (h' := h1) rfl ?_
                                      exact ih60 _ (z + 1) _ (by omega) (by omega) (fun a z1 z2 => (f1 a z1 z2).trans (hfz a z1 z2)) (fun q0 z1 z2 => by
                                        by_cases z9 : q0 = (x + 9) * 19 + (y + 9) + z
                                        · rw [z9]; exact dd
                                        · exact hnz q0 z1 (by omega)) (by omega)
                                    · show xEx G0 cdX12_mergedApart (some .int) (xRn G0 MT (d + 22)) Q b 99 [some (.inr (.inr 66)), some (.inl 0), some (.inl k), some (.inl i), some (.inl 9), some (.inl 0), some (.inl x), some (.inl y), some (.inl z), some (.inl 0)] [] h1
                                      exact absurd c98 (by decide)
                                  · rw [c_eq (by first | exact ua | exact ub) (by first | exact ua | exact ub)] at c92
                                    simp only [decide_eq_true_eq, decide_eq_false_iff_not, Decidable.not_not] at c92
                                    show xEx G0 cdX12_mergedApart (some .int) (xRn G0 MT (d + 22)) Q b 93 [some (.inr (.inr 66)), some (.inl 0), some (.inl k), some (.inl i), some (.inl 9), some (.inl 0), some (.inl x), some (.inl y), some (.inl z), u10] [] h1
                                    have ddp : (dmE S 2 k) ((x + 9) * 19 + (y + 9) + z) := by
                                      show ¬ _ = _
                                      rw [pt_2 (by omega) (by omega) (by omega)]
                                      intro z9
                                      exact c92 (z9.symm.trans g1.symm)
                                    refine E_s 4 (i' := 98) (ls' := [some (.inr (.inr 66)), some (.inl 0), some (.inl k), some (.inl i), some (.inl 9), some (.inl 0), some (.inl x), some (.inl y), some (.inl z), some (.inl 1)]) (sk' := [.inl 1]) (h' := h1) rfl ?_
                                    refine E_b (x := (.ifCond .eq 25, 110, [], [])) rfl rfl (fun c98 => ?_) (fun c98 => ?_)
                                    · show xEx G0 cdX12_mergedApart (some .int) (xRn G0 MT (d + 22)) Q b 110 [some (.inr (.inr 66)), some (.inl 0), some (.inl k), some (.inl i), some (.inl 9), some (.inl 0), some (.inl x), some (.inl y), some (.inl z), some (.inl 1)] [] h1
                                      exact absurd c98 (by decide)
                                    · show xEx G0 cdX12_mergedApart (some .int) (xRn G0 MT (d + 22)) Q b 99 [some (.inr (.inr 66)), some (.inl 0), some (.inl k), some (.inl i), some (.inl 9), some (.inl 0), some (.inl x), some (.inl y), some (.inl z), some (.inl 1)] [] h1
                                      refine E_s 1 (i' := 100) (ls' := [some (.inr (.inr 66)), some (.inl 0), some (.inl k), some (.inl i), some (.inl 9), some (.inl 0), some (.inl x), some (.inl y), some (.inl z), some (.inl 1)]) (sk' := [.inl i]) (h' := h1) rfl ?_
                                      refine E_b (x := (.ifCond .ne 8, 103, [], [])) rfl rfl (fun c100 => ?_) (fun c100 => ?_)
                                      · rw [c_ne (by first | assumption | (refine ⟨?_, ?_⟩ <;> omega) | (simp only [xr] at *; omega)) (by first | assumption | (refine ⟨?_, ?_⟩ <;> omega) | (simp only [xr] at *; omega))] at c100
                                        simp only [decide_eq_true_eq, decide_eq_false_iff_not, Decidable.not_not] at c100
                                        show xEx G0 cdX12_mergedApart (some .int) (xRn G0 MT (d + 22)) Q b 103 [some (.inr (.inr 66)), some (.inl 0), some (.inl k), some (.inl i), some (.inl 9), some (.inl 0), some (.inl x), some (.inl y), some (.inl z), some (.inl 1)] [] h1
                                        refine E_s 2 (i' := 105) (ls' := [some (.inr (.inr 66)), some (.inl 0), some (.inl k), some (.inl i), some (.inl 9), some (.inl 0), some (.inl x), some (.inl y), some (.inl z), some (.inl 1)]) (sk' := [.inl 1, .inl i]) (h' := h1) rfl ?_
                                        refine E_b (x := (.if_icmp .ne 8, 108, [], [])) rfl rfl (fun c105 => ?_) (fun c105 => ?_)
                                        · rw [c_ne (by first | assumption | (refine ⟨?_, ?_⟩ <;> omega) | (simp only [xr] at *; omega)) (by first | assumption | (refine ⟨?_, ?_⟩ <;> omega) | (simp only [xr] at *; omega))] at c105
                                          simp only [decide_eq_true_eq, decide_eq_false_iff_not, Decidable.not_not] at c105
                                          show xEx G0 cdX12_mergedApart (some .int) (xRn G0 MT (d + 22)) Q b 108 [some (.inr (.inr 66)), some (.inl 0), some (.inl k), some (.inl i), some (.inl 9), some (.inl 0), some (.inl x), some (.inl y), some (.inl z), some (.inl 1)] [] h1
                                          refine E_s 1 (i' := 109) (ls' := [some (.inr (.inr 66)), some (.inl 0), some (.inl k), some (.inl i), some (.inl 9), some (.inl 0), some (.inl x), some (.inl y), some (.inl z), some (.inl 1)]) (sk' := [.inl z]) (h' := h1) rfl ?_
                                          exact E_ret (x := (.ireturn, 0, [], [])) (v := some (.inl z)) rfl (Or.inl rfl) (by
                                            have r9 := hF9 kk h7 ((x + 9) * 19 + (y + 9) + z) (by omega) (by simp [ptN]; omega) ddp hnz _ (fun a z1 z2 => (f1 a z1 z2).trans (hfz a z1 z2))
                                            rw [pt_2 (by omega) (by omega) (by omega)] at r9
                                            have e9 : pX x y z i = z := by unfold pX; rw [if_neg (by omega), if_neg (by omega)]
                                            rw [e9] at r9
                                            exact r9)
                                        · rw [c_ne (by first | assumption | (refine ⟨?_, ?_⟩ <;> omega) | (simp only [xr] at *; omega)) (by first | assumption | (refine ⟨?_, ?_⟩ <;> omega) | (simp only [xr] at *; omega))] at c105
                                          simp only [decide_eq_true_eq, decide_eq_false_iff_not, Decidable.not_not] at c105
                                          show xEx G0 cdX12_mergedApart (some .int) (xRn G0 MT (d + 22)) Q b 106 [some (.inr (.inr 66)), some (.inl 0), some (.inl k), some (.inl i), some (.inl 9), some (.inl 0), some (.inl x), some (.inl y), some (.inl z), some (.inl 1)] [] h1
                                          refine E_s 2 (i' := 109) (ls' := [some (.inr (.inr 66)), some (.inl 0), some (.inl k), some (.inl i), some (.inl 9), some (.inl 0), some (.inl x), some (.inl y), some (.inl z), some (.inl 1)]) (sk' := [.inl y]) (h' := h1) rfl ?_
                                          exact E_ret (x := (.ireturn, 0, [], [])) (v := some (.inl y)) rfl (Or.inl rfl) (by
                                            have r9 := hF9 kk h7 ((x + 9) * 19 + (y + 9) + z) (by omega) (by simp [ptN]; omega) ddp hnz _ (fun a z1 z2 => (f1 a z1 z2).trans (hfz a z1 z2))
                                            rw [pt_2 (by omega) (by omega) (by omega)] at r9
                                            have e9 : pX x y z i = y := by unfold pX; rw [if_neg (by omega), if_pos (by omega)]
                                            rw [e9] at r9
                                            exact r9)
                                      · rw [c_ne (by first | assumption | (refine ⟨?_, ?_⟩ <;> omega) | (simp only [xr] at *; omega)) (by first | assumption | (refine ⟨?_, ?_⟩ <;> omega) | (simp only [xr] at *; omega))] at c100
                                        simp only [decide_eq_true_eq, decide_eq_false_iff_not, Decidable.not_not] at c100
                                        show xEx G0 cdX12_mergedApart (some .int) (xRn G0 MT (d + 22)) Q b 101 [some (.inr (.inr 66)), some (.inl 0), some (.inl k), some (.inl i), some (.inl 9), some (.inl 0), some (.inl x), some (.inl y), some (.inl z), some (.inl 1)] [] h1
                                        refine E_s 2 (i' := 109) (ls' := [some (.inr (.inr 66)), some (.inl 0), some (.inl k), some (.inl i), some (.inl 9), some (.inl 0), some (.inl x), some (.inl y), some (.inl z), some (.inl 1)]) (sk' := [.inl x]) (h' := h1) rfl ?_
                                        exact E_ret (x := (.ireturn, 0, [], [])) (v := some (.inl x)) rfl (Or.inl rfl) (by
                                          have r9 := hF9 kk h7 ((x + 9) * 19 + (y + 9) + z) (by omega) (by simp [ptN]; omega) ddp hnz _ (fun a z1 z2 => (f1 a z1 z2).trans (hfz a z1 z2))
                                          rw [pt_2 (by omega) (by omega) (by omega)] at r9
                                          have e9 : pX x y z i = x := by unfold pX; rw [if_pos (by omega)]
                                          rw [e9] at r9
                                          exact r9)
                                · show xEx G0 cdX12_mergedApart (some .int) (xRn G0 MT (d + 22)) Q b 70 [some (.inr (.inr 66)), some (.inl 0), some (.inl k), some (.inl i), some (.inl 9), some (.inl 0), some (.inl x), some (.inl y), some (.inl z), u10] [] h1
                                  exact absurd c69 (by decide)
                          exact key60 _ _ (-0) _ (by omega) (by omega) hfy (fun q0 z1 z2 => hny q0 z1 (by omega)) (Nat.lt_succ_self _)
                    exact key54 _ _ (-9) _ _ (by omega) (by omega) hfx (fun q0 z1 z2 => hnx q0 z1 (by omega)) (Nat.lt_succ_self _)
              exact key48 _ _ (-9) none none none (by omega) (by omega) (fun _ _ _ => rfl) (fun q0 z1 z2 => by omega) (Nat.lt_succ_self _)
            · rw [c_le (by first | assumption | (refine ⟨?_, ?_⟩ <;> omega) | (simp only [xr] at *; omega)) (by first | assumption | (refine ⟨?_, ?_⟩ <;> omega) | (simp only [xr] at *; omega))] at c41
              simp only [decide_eq_true_eq, decide_eq_false_iff_not, Decidable.not_not] at c41
              show xEx G0 cdX12_mergedApart (some .int) (xRn G0 MT (d + 22)) Q b 42 [some (.inr (.inr 66)), some (.inl 0), some (.inl k), some (.inl i), some (.inl 9), none, none, none, none, none] [] (xup (xup (xup (xup h 66 0 0) 69 300 (h 72 k)) 70 300 (h 73 k)) 71 300 (h 74 k))
              omega
        · rw [c_ne (by first | assumption | (refine ⟨?_, ?_⟩ <;> omega) | (simp only [xr] at *; omega)) (by first | assumption | (refine ⟨?_, ?_⟩ <;> omega) | (simp only [xr] at *; omega))] at c22
          simp only [decide_eq_true_eq, decide_eq_false_iff_not, Decidable.not_not] at c22
          show xEx G0 cdX12_mergedApart (some .int) (xRn G0 MT (d + 22)) Q b 23 [some (.inr (.inr 66)), some (.inl 0), some (.inl k), some (.inl i), none, none, none, none, none, none] [] g1
          obtain ⟨z0, rfl⟩ : h 76 k = 0 ∧ g1 = xup h 66 0 0 := by
            rcases hq4 with ⟨-, a, b⟩ | ⟨a, -⟩
            · exact ⟨a, b⟩
            · omega
          refine E_s 2 (i' := 25) (ls' := [some (.inr (.inr 66)), some (.inl 0), some (.inl k), some (.inl i), none, none, none, none, none, none]) (sk' := [.inl 0]) (h' := (xup h 66 0 0)) rfl ?_
          refine E_b (x := (.ifCond .le 7, 28, [], [])) rfl rfl (fun c25 => ?_) (fun c25 => ?_)
          · show xEx G0 cdX12_mergedApart (some .int) (xRn G0 MT (d + 22)) Q b 28 [some (.inr (.inr 66)), some (.inl 0), some (.inl k), some (.inl i), none, none, none, none, none, none] [] (xup h 66 0 0)
            refine E_s 1 (i' := 29) (ls' := [some (.inr (.inr 66)), some (.inl 0), some (.inl k), some (.inl i), none, none, none, none, none, none]) (sk' := [.inl (-100)]) (h' := (xup h 66 0 0)) rfl ?_
            exact E_ret (x := (.ireturn, 0, [], [])) (v := some (.inl (-100))) rfl (Or.inl rfl) (hZ kk (by rw [← e7]; exact z0))
          · show xEx G0 cdX12_mergedApart (some .int) (xRn G0 MT (d + 22)) Q b 26 [some (.inr (.inr 66)), some (.inl 0), some (.inl k), some (.inl i), none, none, none, none, none, none] [] (xup h 66 0 0)
            exact absurd c25 (by decide)
    · rw [c_ne (by first | assumption | (refine ⟨?_, ?_⟩ <;> omega) | (simp only [xr] at *; omega)) (by first | assumption | (refine ⟨?_, ?_⟩ <;> omega) | (simp only [xr] at *; omega))] at c10
      simp only [decide_eq_true_eq, decide_eq_false_iff_not, Decidable.not_not] at c10
      show xEx G0 cdX12_mergedApart (some .int) (xRn G0 MT (d + 22)) Q b 11 [some (.inr (.inr 66)), some (.inl 0), some (.inl k), some (.inl i), none, none, none, none, none, none] [.inr (.inr 66)] h
      refine E_s 5 (i' := 17) (ls' := [some (.inr (.inr 66)), some (.inl 0), some (.inl k), some (.inl i), none, none, none, none, none, none]) (sk' := [.inl 1]) (h' := (xup h 66 0 1)) rfl ?_
      refine E_b (x := (.ifCond .gt 12, 23, [], [])) rfl rfl (fun c17 => ?_) (fun c17 => ?_)
      · show xEx G0 cdX12_mergedApart (some .int) (xRn G0 MT (d + 22)) Q b 23 [some (.inr (.inr 66)), some (.inl 0), some (.inl k), some (.inl i), none, none, none, none, none, none] [] (xup h 66 0 1)
        
        refine E_s 2 (i' := 25) (ls' := [some (.inr (.inr 66)), some (.inl 0), some (.inl k), some (.inl i), none, none, none, none, none, none]) (sk' := [.inl 1]) (h' := (xup h 66 0 1)) rfl ?_
        refine E_b (x := (.ifCond .le 7, 28, [], [])) rfl rfl (fun c25 => ?_) (fun c25 => ?_)
        · show xEx G0 cdX12_mergedApart (some .int) (xRn G0 MT (d + 22)) Q b 28 [some (.inr (.inr 66)), some (.inl 0), some (.inl k), some (.inl i), none, none, none, none, none, none] [] (xup h 66 0 1)
          exact absurd c25 (by decide)
        · show xEx G0 cdX12_mergedApart (some .int) (xRn G0 MT (d + 22)) Q b 26 [some (.inr (.inr 66)), some (.inl 0), some (.inl k), some (.inl i), none, none, none, none, none, none] [] (xup h 66 0 1)
          refine E_s 2 (i' := 29) (ls' := [some (.inr (.inr 66)), some (.inl 0), some (.inl k), some (.inl i), none, none, none, none, none, none]) (sk' := [.inl 0]) (h' := (xup h 66 0 1)) rfl ?_
          exact E_ret (x := (.ireturn, 0, [], [])) (v := some (.inl 0)) rfl (Or.inl rfl) (hN (by omega))
      · show xEx G0 cdX12_mergedApart (some .int) (xRn G0 MT (d + 22)) Q b 18 [some (.inr (.inr 66)), some (.inl 0), some (.inl k), some (.inl i), none, none, none, none, none, none] [] (xup h 66 0 1)
        exact absurd c17 (by decide)
set_option maxHeartbeats 1000000 in
theorem m_mapart0_3 (d b : Nat) (h S T : xH) (k i n0 : Int) (wt : Int → Int) (hk : xr k) (hi : xr i) (hm : h 66 1 = 3) (h7r : ∀ k, 0 ≤ k → k < S 0 0 → 0 ≤ S 7 k ∧ S 7 k ≤ 400000) (hR : RR h S) (hRT : RRT h T) (hF : FW n0 wt 9 S) (hT : FWT S 7 T) (h3 : 0 ≤ S 0 0 ∧ S 0 0 ≤ 300) (h4 : 0 ≤ T 0 0 ∧ T 0 0 ≤ 150) (hM0 : 0 ≤ h 66 8 ∧ h 66 8 ≤ 300) {Q : xO → xH → Prop} (hN : ¬ ((0 ≤ k ∧ k < h 66 8) ∧ (0 ≤ i ∧ i ≤ 2)) → Q (.inl (some (.inl (0)))) (xup h 66 0 1)) (hZ : ((0 ≤ k ∧ k < h 66 8) ∧ (0 ≤ i ∧ i ≤ 2)) → S 7 k = 0 → Q (.inl (some (.inl (-100)))) (xup h 66 0 0)) (hF9 : ((0 ≤ k ∧ k < h 66 8) ∧ (0 ≤ i ∧ i ≤ 2)) → S 7 k ≠ 0 → ∀ p, 0 ≤ p → p < ptN 3 → (dmE S 3 k) p → (∀ q, 0 ≤ q → q < p → ¬ (dmE S 3 k) q) → ∀ h', (∀ a, a ≠ 94 → a ≠ 95 → h' a = (xup (xup (xup (xup h 66 0 0) 69 300 (h 72 k)) 70 300 (h 73 k)) 71 300 (h 74 k)) a) → Q (.inl (some (.inl (ptX 3 p i)))) h') (hG : ((0 ≤ k ∧ k < h 66 8) ∧ (0 ≤ i ∧ i ≤ 2)) → S 7 k ≠ 0 → (∀ q, 0 ≤ q → q < ptN 3 → ¬ (dmE S 3 k) q) → ∀ h', (∀ a, a ≠ 94 → a ≠ 95 → h' a = (xup (xup (xup (xup h 66 0 0) 69 300 (h 72 k)) 70 300 (h 73 k)) 71 300 (h 74 k)) a) → Q (.inl (some (.inl (-100)))) h') : xRn G0 MT (d + 23) b 200 [.inr (.inr 66), .inl 0, .inl k, .inl i] h Q := by
  refine R_of (M := mX12_mergedApart) rfl (Nat.le_of_ble_eq_true rfl) ?_
  show xEx G0 cdX12_mergedApart (some .int) (xRn G0 MT (d + 22)) Q b 0 [some (.inr (.inr 66)), some (.inl 0), some (.inl k), some (.inl i), none, none, none, none, none, none] [] h
  refine E_s 4 (i' := 4) (ls' := [some (.inr (.inr 66)), some (.inl 0), some (.inl k), some (.inl i), none, none, none, none, none, none]) (sk' := [.inl k, .inl 0, .inr (.inr 66), .inr (.inr 66)]) (h' := h) rfl ?_
  refine E_cp (x := (.invokevirtual 295, 2, [(10, 193)], [0])) (q := fun r1 h9 => ((r1 = 1 ∧ (0 ≤ k ∧ k < h 66 8)) ∨ (r1 = 0 ∧ ¬ (0 ≤ k ∧ k < h 66 8))) ∧ h = h9) rfl rfl (Nat.le_of_ble_eq_true rfl) (m_isKept0 (d + 20) 0 h k hk hM0 (fun z => ⟨_, rfl, Or.inl ⟨rfl, z⟩, rfl⟩) (fun z => ⟨_, rfl, Or.inr ⟨rfl, z⟩, rfl⟩)) (fun r1 h9 q1 => ?_)
  obtain ⟨q1, rfl⟩ := q1
  show xEx G0 cdX12_mergedApart (some .int) (xRn G0 MT (d + 22)) Q b 5 [some (.inr (.inr 66)), some (.inl 0), some (.inl k), some (.inl i), none, none, none, none, none, none] [.inl r1, .inr (.inr 66)] h
  refine E_b (x := (.ifCond .eq 12, 11, [], [])) rfl rfl (fun c5 => ?_) (fun c5 => ?_)
  · rw [c_eq (by first | assumption | (refine ⟨?_, ?_⟩ <;> omega) | (simp only [xr] at *; omega)) (by first | assumption | (refine ⟨?_, ?_⟩ <;> omega) | (simp only [xr] at *; omega))] at c5
    simp only [decide_eq_true_eq, decide_eq_false_iff_not, Decidable.not_not] at c5
    show xEx G0 cdX12_mergedApart (some .int) (xRn G0 MT (d + 22)) Q b 11 [some (.inr (.inr 66)), some (.inl 0), some (.inl k), some (.inl i), none, none, none, none, none, none] [.inr (.inr 66)] h
    refine E_s 5 (i' := 17) (ls' := [some (.inr (.inr 66)), some (.inl 0), some (.inl k), some (.inl i), none, none, none, none, none, none]) (sk' := [.inl 1]) (h' := (xup h 66 0 1)) rfl ?_
    refine E_b (x := (.ifCond .gt 12, 23, [], [])) rfl rfl (fun c17 => ?_) (fun c17 => ?_)
    · show xEx G0 cdX12_mergedApart (some .int) (xRn G0 MT (d + 22)) Q b 23 [some (.inr (.inr 66)), some (.inl 0), some (.inl k), some (.inl i), none, none, none, none, none, none] [] (xup h 66 0 1)
      
      refine E_s 2 (i' := 25) (ls' := [some (.inr (.inr 66)), some (.inl 0), some (.inl k), some (.inl i), none, none, none, none, none, none]) (sk' := [.inl 1]) (h' := (xup h 66 0 1)) rfl ?_
      refine E_b (x := (.ifCond .le 7, 28, [], [])) rfl rfl (fun c25 => ?_) (fun c25 => ?_)
      · show xEx G0 cdX12_mergedApart (some .int) (xRn G0 MT (d + 22)) Q b 28 [some (.inr (.inr 66)), some (.inl 0), some (.inl k), some (.inl i), none, none, none, none, none, none] [] (xup h 66 0 1)
        exact absurd c25 (by decide)
      · show xEx G0 cdX12_mergedApart (some .int) (xRn G0 MT (d + 22)) Q b 26 [some (.inr (.inr 66)), some (.inl 0), some (.inl k), some (.inl i), none, none, none, none, none, none] [] (xup h 66 0 1)
        refine E_s 2 (i' := 29) (ls' := [some (.inr (.inr 66)), some (.inl 0), some (.inl k), some (.inl i), none, none, none, none, none, none]) (sk' := [.inl 0]) (h' := (xup h 66 0 1)) rfl ?_
        exact E_ret (x := (.ireturn, 0, [], [])) (v := some (.inl 0)) rfl (Or.inl rfl) (hN (by omega))
    · show xEx G0 cdX12_mergedApart (some .int) (xRn G0 MT (d + 22)) Q b 18 [some (.inr (.inr 66)), some (.inl 0), some (.inl k), some (.inl i), none, none, none, none, none, none] [] (xup h 66 0 1)
      exact absurd c17 (by decide)
  · rw [c_eq (by first | assumption | (refine ⟨?_, ?_⟩ <;> omega) | (simp only [xr] at *; omega)) (by first | assumption | (refine ⟨?_, ?_⟩ <;> omega) | (simp only [xr] at *; omega))] at c5
    simp only [decide_eq_true_eq, decide_eq_false_iff_not, Decidable.not_not] at c5
    show xEx G0 cdX12_mergedApart (some .int) (xRn G0 MT (d + 22)) Q b 6 [some (.inr (.inr 66)), some (.inl 0), some (.inl k), some (.inl i), none, none, none, none, none, none] [.inr (.inr 66)] h
    refine E_s 3 (i' := 9) (ls' := [some (.inr (.inr 66)), some (.inl 0), some (.inl k), some (.inl i), none, none, none, none, none, none]) (sk' := [.inl 2, .inl 0, .inl i, .inr (.inr 66)]) (h' := h) rfl ?_
    refine E_cp (x := (.invokestatic 180, 3, [(0, 155)], [])) (q := fun r2 h9 => ((r2 = 1 ∧ (0 ≤ i ∧ i ≤ 2)) ∨ (r2 = 0 ∧ ¬ (0 ≤ i ∧ i ≤ 2))) ∧ h = h9) rfl rfl (Nat.le_of_ble_eq_true rfl) (m_isIn (d + 21) 0 (h) i 0 2 hi ⟨by omega, by omega⟩ ⟨by omega, by omega⟩ (fun z => ⟨_, rfl, Or.inl ⟨rfl, z⟩, rfl⟩) (fun z => ⟨_, rfl, Or.inr ⟨rfl, z⟩, rfl⟩)) (fun r2 h9 q2 => ?_)
    obtain ⟨q2, rfl⟩ := q2
    show xEx G0 cdX12_mergedApart (some .int) (xRn G0 MT (d + 22)) Q b 10 [some (.inr (.inr 66)), some (.inl 0), some (.inl k), some (.inl i), none, none, none, none, none, none] [.inl r2, .inr (.inr 66)] h
    refine E_b (x := (.ifCond .ne 7, 13, [], [])) rfl rfl (fun c10 => ?_) (fun c10 => ?_)
    · rw [c_ne (by first | assumption | (refine ⟨?_, ?_⟩ <;> omega) | (simp only [xr] at *; omega)) (by first | assumption | (refine ⟨?_, ?_⟩ <;> omega) | (simp only [xr] at *; omega))] at c10
      simp only [decide_eq_true_eq, decide_eq_false_iff_not, Decidable.not_not] at c10
      show xEx G0 cdX12_mergedApart (some .int) (xRn G0 MT (d + 22)) Q b 13 [some (.inr (.inr 66)), some (.inl 0), some (.inl k), some (.inl i), none, none, none, none, none, none] [.inr (.inr 66)] h
      refine E_s 4 (i' := 17) (ls' := [some (.inr (.inr 66)), some (.inl 0), some (.inl k), some (.inl i), none, none, none, none, none, none]) (sk' := [.inl 0]) (h' := (xup h 66 0 0)) rfl ?_
      refine E_b (x := (.ifCond .gt 12, 23, [], [])) rfl rfl (fun c17 => ?_) (fun c17 => ?_)
      · show xEx G0 cdX12_mergedApart (some .int) (xRn G0 MT (d + 22)) Q b 23 [some (.inr (.inr 66)), some (.inl 0), some (.inl k), some (.inl i), none, none, none, none, none, none] [] (xup h 66 0 0)
        exact absurd c17 (by decide)
      · show xEx G0 cdX12_mergedApart (some .int) (xRn G0 MT (d + 22)) Q b 18 [some (.inr (.inr 66)), some (.inl 0), some (.inl k), some (.inl i), none, none, none, none, none, none] [] (xup h 66 0 0)
        refine E_s 3 (i' := 21) (ls' := [some (.inr (.inr 66)), some (.inl 0), some (.inl k), some (.inl i), none, none, none, none, none, none]) (sk' := [.inl k, .inl 0, .inr (.inr 66)]) (h' := (xup h 66 0 0)) rfl ?_
        have kk : (0 ≤ k ∧ k < h 66 8) ∧ (0 ≤ i ∧ i ≤ 2) := by omega
        have hk2 : 0 ≤ k ∧ k < S 0 0 := by rw [← hR.1]; exact kk.1
        have e7 : h 76 k = S 7 k := (hR.2.2.1 k hk2.1 hk2.2).2.2.2.2.2.1
        have r7 := h7r k hk2.1 hk2.2
        refine E_cp (x := (.invokevirtual 306, 2, [(10, 199)], [0])) (q := fun r h9 => (r = 0 ∧ h 76 k = 0 ∧ h9 = xup h 66 0 0) ∨ (r = 1 ∧ h 76 k ≠ 0 ∧ h9 = xup (xup (xup (xup h 66 0 0) 69 300 (h 72 k)) 70 300 (h 73 k)) 71 300 (h 74 k))) rfl rfl (Nat.le_of_ble_eq_true rfl) (m_laysM0 (d + 21) 0 (xup h 66 0 0) k ⟨by omega, by omega⟩ (show xr (h 76 k) by rw [e7]; exact ⟨by omega, by omega⟩) (fun z9 => ⟨_, rfl, Or.inl ⟨rfl, z9, rfl⟩⟩) (fun z9 => ⟨_, rfl, Or.inr ⟨rfl, z9, rfl⟩⟩)) (fun r4 g1 hq4 => ?_)
        show xEx G0 cdX12_mergedApart (some .int) (xRn G0 MT (d + 22)) Q b 22 [some (.inr (.inr 66)), some (.inl 0), some (.inl k), some (.inl i), none, none, none, none, none, none] [.inl r4] g1
        refine E_b (x := (.ifCond .ne 17, 30, [], [])) rfl rfl (fun c22 => ?_) (fun c22 => ?_)
        · rw [c_ne (by first | assumption | (refine ⟨?_, ?_⟩ <;> omega) | (simp only [xr] at *; omega)) (by first | assumption | (refine ⟨?_, ?_⟩ <;> omega) | (simp only [xr] at *; omega))] at c22
          simp only [decide_eq_true_eq, decide_eq_false_iff_not, Decidable.not_not] at c22
          show xEx G0 cdX12_mergedApart (some .int) (xRn G0 MT (d + 22)) Q b 30 [some (.inr (.inr 66)), some (.inl 0), some (.inl k), some (.inl i), none, none, none, none, none, none] [] g1
          obtain ⟨h7, rfl⟩ : h 76 k ≠ 0 ∧ g1 = xup (xup (xup (xup h 66 0 0) 69 300 (h 72 k)) 70 300 (h 73 k)) 71 300 (h 74 k) := by
            rcases hq4 with ⟨a, -⟩ | ⟨-, a, b⟩
            · omega
            · exact ⟨a, b⟩
          rw [e7] at h7
          have fmb : FM h (xup (xup (xup (xup h 66 0 0) 69 300 (h 72 k)) 70 300 (h 73 k)) 71 300 (h 74 k)) := (FM_u3 (FM_u3 (FM_u3 ((FM.rf h).up (Or.inr ⟨rfl, by unfold mdf; decide⟩)) (Or.inl ⟨by decide, by decide⟩)) (Or.inl ⟨by decide, by decide⟩)) (Or.inl ⟨by decide, by decide⟩))
          obtain ⟨hR1, hRT1⟩ := RR_FM h3.2 h4.2 fmb hR hRT
          refine E_s 3 (i' := 33) (ls' := [some (.inr (.inr 66)), some (.inl 0), some (.inl k), some (.inl i), none, none, none, none, none, none]) (sk' := [.inl 1, .inl (h 66 1)]) (h' := (xup (xup (xup (xup h 66 0 0) 69 300 (h 72 k)) 70 300 (h 73 k)) 71 300 (h 74 k))) rfl ?_
          refine E_b (x := (.if_icmp .le 8, 36, [], [])) rfl rfl (fun c33 => ?_) (fun c33 => ?_)
          · rw [c_le (by first | assumption | (refine ⟨?_, ?_⟩ <;> omega) | (simp only [xr] at *; omega)) (by first | assumption | (refine ⟨?_, ?_⟩ <;> omega) | (simp only [xr] at *; omega))] at c33
            simp only [decide_eq_true_eq, decide_eq_false_iff_not, Decidable.not_not] at c33
            show xEx G0 cdX12_mergedApart (some .int) (xRn G0 MT (d + 22)) Q b 36 [some (.inr (.inr 66)), some (.inl 0), some (.inl k), some (.inl i), none, none, none, none, none, none] [] (xup (xup (xup (xup h 66 0 0) 69 300 (h 72 k)) 70 300 (h 73 k)) 71 300 (h 74 k))
            omega
          · rw [c_le (by first | assumption | (refine ⟨?_, ?_⟩ <;> omega) | (simp only [xr] at *; omega)) (by first | assumption | (refine ⟨?_, ?_⟩ <;> omega) | (simp only [xr] at *; omega))] at c33
            simp only [decide_eq_true_eq, decide_eq_false_iff_not, Decidable.not_not] at c33
            show xEx G0 cdX12_mergedApart (some .int) (xRn G0 MT (d + 22)) Q b 34 [some (.inr (.inr 66)), some (.inl 0), some (.inl k), some (.inl i), none, none, none, none, none, none] [] (xup (xup (xup (xup h 66 0 0) 69 300 (h 72 k)) 70 300 (h 73 k)) 71 300 (h 74 k))
            refine E_s 6 (i' := 41) (ls' := [some (.inr (.inr 66)), some (.inl 0), some (.inl k), some (.inl i), some (.inl 9), none, none, none, none, none]) (sk' := [.inl 2, .inl (h 66 1)]) (h' := (xup (xup (xup (xup h 66 0 0) 69 300 (h 72 k)) 70 300 (h 73 k)) 71 300 (h 74 k))) rfl ?_
            refine E_b (x := (.if_icmp .le 8, 44, [], [])) rfl rfl (fun c41 => ?_) (fun c41 => ?_)
            · rw [c_le (by first | assumption | (refine ⟨?_, ?_⟩ <;> omega) | (simp only [xr] at *; omega)) (by first | assumption | (refine ⟨?_, ?_⟩ <;> omega) | (simp only [xr] at *; omega))] at c41
              simp only [decide_eq_true_eq, decide_eq_false_iff_not, Decidable.not_not] at c41
              show xEx G0 cdX12_mergedApart (some .int) (xRn G0 MT (d + 22)) Q b 44 [some (.inr (.inr 66)), some (.inl 0), some (.inl k), some (.inl i), some (.inl 9), none, none, none, none, none] [] (xup (xup (xup (xup h 66 0 0) 69 300 (h 72 k)) 70 300 (h 73 k)) 71 300 (h 74 k))
              omega
            · rw [c_le (by first | assumption | (refine ⟨?_, ?_⟩ <;> omega) | (simp only [xr] at *; omega)) (by first | assumption | (refine ⟨?_, ?_⟩ <;> omega) | (simp only [xr] at *; omega))] at c41
              simp only [decide_eq_true_eq, decide_eq_false_iff_not, Decidable.not_not] at c41
              show xEx G0 cdX12_mergedApart (some .int) (xRn G0 MT (d + 22)) Q b 42 [some (.inr (.inr 66)), some (.inl 0), some (.inl k), some (.inl i), some (.inl 9), none, none, none, none, none] [] (xup (xup (xup (xup h 66 0 0) 69 300 (h 72 k)) 70 300 (h 73 k)) 71 300 (h 74 k))
              refine E_s 5 (i' := 48) (ls' := [some (.inr (.inr 66)), some (.inl 0), some (.inl k), some (.inl i), some (.inl 9), some (.inl 9), some (.inl (-9)), none, none, none]) (sk' := []) (h' := (xup (xup (xup (xup h 66 0 0) 69 300 (h 72 k)) 70 300 (h 73 k)) 71 300 (h 74 k))) rfl ?_
              have key48 : ∀ (n : Nat) (hx : xH) (x : Int) (v8 v9 : Option xV) (v10 : Option xV), (-9 ≤ x) → (x ≤ 10) → (∀ a, a ≠ 94 → a ≠ 95 → hx a = (xup (xup (xup (xup h 66 0 0) 69 300 (h 72 k)) 70 300 (h 73 k)) 71 300 (h 74 k)) a) → (∀ q0, 0 ≤ q0 → q0 < (x + 9) * 361 + 0 + 0 → ¬ (dmE S 3 k) q0) → ((10 - x).toNat) < n → xEx G0 cdX12_mergedApart (some .int) (xRn G0 MT (d + 22)) Q b 48 [some (.inr (.inr 66)), some (.inl 0), some (.inl k), some (.inl i), some (.inl 9), some (.inl 9), some (.inl x), v8, v9, v10] [] hx := by
                intro n
                induction n with
                | zero => intro hx x v8 v9 v10 _ _ _ _ hm; exact absurd hm (Nat.not_lt_zero _)
                | succ n ih48 =>
                  intro hx x v8 v9 v10 hx0 hx9 hfx hnx hm48
                  refine E_s 2 (i' := 50) (ls' := [some (.inr (.inr 66)), some (.inl 0), some (.inl k), some (.inl i), some (.inl 9), some (.inl 9), some (.inl x), v8, v9, v10]) (sk' := [.inl 9, .inl x]) (h' := hx) rfl ?_
                  refine E_b (x := (.if_icmp .gt 139, 116, [], [])) rfl rfl (fun c50 => ?_) (fun c50 => ?_)
                  · rw [c_gt (by first | assumption | (refine ⟨?_, ?_⟩ <;> omega) | (simp only [xr] at *; omega)) (by first | assumption | (refine ⟨?_, ?_⟩ <;> omega) | (simp only [xr] at *; omega))] at c50
                    simp only [decide_eq_true_eq, decide_eq_false_iff_not, Decidable.not_not] at c50
                    show xEx G0 cdX12_mergedApart (some .int) (xRn G0 MT (d + 22)) Q b 116 [some (.inr (.inr 66)), some (.inl 0), some (.inl k), some (.inl i), some (.inl 9), some (.inl 9), some (.inl x), v8, v9, v10] [] hx
                    refine E_s 1 (i' := 117) (ls' := [some (.inr (.inr 66)), some (.inl 0), some (.inl k), some (.inl i), some (.inl 9), some (.inl 9), some (.inl x), v8, v9, v10]) (sk' := [.inl (-100)]) (h' := hx) rfl ?_
                    exact E_ret (x := (.ireturn, 0, [], [])) (v := some (.inl (-100))) rfl (Or.inl rfl) (hG kk h7 (fun q z1 z2 => hnx q z1 (by simp [ptN] at z2; omega)) _ hfx)
                  · rw [c_gt (by first | assumption | (refine ⟨?_, ?_⟩ <;> omega) | (simp only [xr] at *; omega)) (by first | assumption | (refine ⟨?_, ?_⟩ <;> omega) | (simp only [xr] at *; omega))] at c50
                    simp only [decide_eq_true_eq, decide_eq_false_iff_not, Decidable.not_not] at c50
                    show xEx G0 cdX12_mergedApart (some .int) (xRn G0 MT (d + 22)) Q b 51 [some (.inr (.inr 66)), some (.inl 0), some (.inl k), some (.inl i), some (.inl 9), some (.inl 9), some (.inl x), v8, v9, v10] [] hx
                    refine E_s 3 (i' := 54) (ls' := [some (.inr (.inr 66)), some (.inl 0), some (.inl k), some (.inl i), some (.inl 9), some (.inl 9), some (.inl x), some (.inl (-9)), v9, v10]) (sk' := []) (h' := hx) rfl ?_
                    have key54 : ∀ (n : Nat) (hy : xH) (y : Int) (w9 : Option xV) (w10 : Option xV), (-9 ≤ y) → (y ≤ 10) → (∀ a, a ≠ 94 → a ≠ 95 → hy a = (xup (xup (xup (xup h 66 0 0) 69 300 (h 72 k)) 70 300 (h 73 k)) 71 300 (h 74 k)) a) → (∀ q0, 0 ≤ q0 → q0 < (x + 9) * 361 + (y + 9) * 19 + 0 → ¬ (dmE S 3 k) q0) → ((10 - y).toNat) < n → xEx G0 cdX12_mergedApart (some .int) (xRn G0 MT (d + 22)) Q b 54 [some (.inr (.inr 66)), some (.inl 0), some (.inl k), some (.inl i), some (.inl 9), some (.inl 9), some (.inl x), some (.inl y), w9, w10] [] hy := by
                      intro n
                      induction n with
                      | zero => intro hy y w9 w10 _ _ _ _ hm; exact absurd hm (Nat.not_lt_zero _)
                      | succ n ih54 =>
                        intro hy y w9 w10 hy0 hy9 hfy hny hm54
                        refine E_s 2 (i' := 56) (ls' := [some (.inr (.inr 66)), some (.inl 0), some (.inl k), some (.inl i), some (.inl 9), some (.inl 9), some (.inl x), some (.inl y), w9, w10]) (sk' := [.inl 9, .inl y]) (h' := hy) rfl ?_
                        refine E_b (x := (.if_icmp .gt 121, 114, [], [])) rfl rfl (fun c56 => ?_) (fun c56 => ?_)
                        · rw [c_gt (by first | assumption | (refine ⟨?_, ?_⟩ <;> omega) | (simp only [xr] at *; omega)) (by first | assumption | (refine ⟨?_, ?_⟩ <;> omega) | (simp only [xr] at *; omega))] at c56
                          simp only [decide_eq_true_eq, decide_eq_false_iff_not, Decidable.not_not] at c56
                          show xEx G0 cdX12_mergedApart (some .int) (xRn G0 MT (d + 22)) Q b 114 [some (.inr (.inr 66)), some (.inl 0), some (.inl k), some (.inl i), some (.inl 9), some (.inl 9), some (.inl x), some (.inl y), w9, w10] [] hy
                          refine E_s 2 (i' := 48) (ls' := [some (.inr (.inr 66)), some (.inl 0), some (.inl k), some (.inl i), some (.inl 9), some (.inl 9), some (.inl (x + 1)), some (.inl y), w9, w10]) (sk' := []) (h' := hy) rfl ?_
                          exact ih48 _ (x + 1) _ _ _ (by omega) (by omega) hfy (fun q0 z1 z2 => hny q0 z1 (by omega)) (by omega)
                        · rw [c_gt (by first | assumption | (refine ⟨?_, ?_⟩ <;> omega) | (simp only [xr] at *; omega)) (by first | assumption | (refine ⟨?_, ?_⟩ <;> omega) | (simp only [xr] at *; omega))] at c56
                          simp only [decide_eq_true_eq, decide_eq_false_iff_not, Decidable.not_not] at c56
                          show xEx G0 cdX12_mergedApart (some .int) (xRn G0 MT (d + 22)) Q b 57 [some (.inr (.inr 66)), some (.inl 0), some (.inl k), some (.inl i), some (.inl 9), some (.inl 9), some (.inl x), some (.inl y), w9, w10] [] hy
                          refine E_s 3 (i' := 60) (ls' := [some (.inr (.inr 66)), some (.inl 0), some (.inl k), some (.inl i), some (.inl 9), some (.inl 9), some (.inl x), some (.inl y), some (.inl (-9)), w10]) (sk' := []) (h' := hy) rfl ?_
                          have key60 : ∀ (n : Nat) (hz : xH) (z : Int) (u10 : Option xV), (-9 ≤ z) → (z ≤ 10) → (∀ a, a ≠ 94 → a ≠ 95 → hz a = (xup (xup (xup (xup h 66 0 0) 69 300 (h 72 k)) 70 300 (h 73 k)) 71 300 (h 74 k)) a) → (∀ q0, 0 ≤ q0 → q0 < (x + 9) * 361 + (y + 9) * 19 + (z + 9) → ¬ (dmE S 3 k) q0) → ((10 - z).toNat) < n → xEx G0 cdX12_mergedApart (some .int) (xRn G0 MT (d + 22)) Q b 60 [some (.inr (.inr 66)), some (.inl 0), some (.inl k), some (.inl i), some (.inl 9), some (.inl 9), some (.inl x), some (.inl y), some (.inl z), u10] [] hz := by
                            intro n
                            induction n with
                            | zero => intro hz z u10 _ _ _ _ hm; exact absurd hm (Nat.not_lt_zero _)
                            | succ n ih60 =>
                              intro hz z u10 hz0 hz9 hfz hnz hm60
                              refine E_s 2 (i' := 62) (ls' := [some (.inr (.inr 66)), some (.inl 0), some (.inl k), some (.inl i), some (.inl 9), some (.inl 9), some (.inl x), some (.inl y), some (.inl z), u10]) (sk' := [.inl 9, .inl z]) (h' := hz) rfl ?_
                              refine E_b (x := (.if_icmp .gt 103, 112, [], [])) rfl rfl (fun c62 => ?_) (fun c62 => ?_)
                              · rw [c_gt (by first | assumption | (refine ⟨?_, ?_⟩ <;> omega) | (simp only [xr] at *; omega)) (by first | assumption | (refine ⟨?_, ?_⟩ <;> omega) | (simp only [xr] at *; omega))] at c62
                                simp only [decide_eq_true_eq, decide_eq_false_iff_not, Decidable.not_not] at c62
                                show xEx G0 cdX12_mergedApart (some .int) (xRn G0 MT (d + 22)) Q b 112 [some (.inr (.inr 66)), some (.inl 0), some (.inl k), some (.inl i), some (.inl 9), some (.inl 9), some (.inl x), some (.inl y), some (.inl z), u10] [] hz
                                refine E_s 2 (i' := 54) (ls' := [some (.inr (.inr 66)), some (.inl 0), some (.inl k), some (.inl i), some (.inl 9), some (.inl 9), some (.inl x), some (.inl (y + 1)), some (.inl z), u10]) (sk' := []) (h' := hz) rfl ?_
                                exact ih54 _ (y + 1) _ _ (by omega) (by omega) hfz (fun q0 z1 z2 => hnz q0 z1 (by omega)) (by omega)
                              · rw [c_gt (by first | assumption | (refine ⟨?_, ?_⟩ <;> omega) | (simp only [xr] at *; omega)) (by first | assumption | (refine ⟨?_, ?_⟩ <;> omega) | (simp only [xr] at *; omega))] at c62
                                simp only [decide_eq_true_eq, decide_eq_false_iff_not, Decidable.not_not] at c62
                                show xEx G0 cdX12_mergedApart (some .int) (xRn G0 MT (d + 22)) Q b 63 [some (.inr (.inr 66)), some (.inl 0), some (.inl k), some (.inl i), some (.inl 9), some (.inl 9), some (.inl x), some (.inl y), some (.inl z), u10] [] hz
                                refine E_s 4 (i' := 67) (ls' := [some (.inr (.inr 66)), some (.inl 0), some (.inl k), some (.inl i), some (.inl 9), some (.inl 9), some (.inl x), some (.inl y), some (.inl z), u10]) (sk' := [.inl z, .inl y, .inl x, .inr (.inr 66)]) (h' := hz) rfl ?_
                                refine E_cv (x := (.invokevirtual 309, 3, [(10, 198)], [0])) (q := fun h9 => (∀ a, a ≠ 94 → a ≠ 95 → h9 a = hz a) ∧ (∀ k, 0 ≤ k → k < S 0 0 → h9 94 k = VE S (pX x y z) k) ∧ (∀ t, 0 ≤ t → t < T 0 0 → h9 95 t = VU S T (pX x y z) t)) rfl rfl (Nat.le_of_ble_eq_true rfl) (m_reckons (d + 18) 0 hz S T x y z n0 wt ⟨by omega, by omega⟩ ⟨by omega, by omega⟩ ⟨by omega, by omega⟩ (RR_vh hfz hR1) (RRT_vh hfz hRT1) hF hT h3 h4 (fun h9 z1 z2 z3 => ⟨rfl, z1, z2, z3⟩)) (fun h1 hq => ?_)
                                obtain ⟨f1, f2, f3⟩ := hq
                                have xx : xr x := ⟨by omega, by omega⟩
                                have xy : xr y := ⟨by omega, by omega⟩
                                have xz : xr z := ⟨by omega, by omega⟩
                                show xEx G0 cdX12_mergedApart (some .int) (xRn G0 MT (d + 22)) Q b 68 [some (.inr (.inr 66)), some (.inl 0), some (.inl k), some (.inl i), some (.inl 9), some (.inl 9), some (.inl x), some (.inl y), some (.inl z), u10] [] h1
                                refine E_s 1 (i' := 69) (ls' := [some (.inr (.inr 66)), some (.inl 0), some (.inl k), some (.inl i), some (.inl 9), some (.inl 9), some (.inl x), some (.inl y), some (.inl z), u10]) (sk' := [.inl 0]) (h' := h1) rfl ?_
                                refine E_b (x := (.ifCond .eq 27, 82, [], [])) rfl rfl (fun c69 => ?_) (fun c69 => ?_)
                                · show xEx G0 cdX12_mergedApart (some .int) (xRn G0 MT (d + 22)) Q b 82 [some (.inr (.inr 66)), some (.inl 0), some (.inl k), some (.inl i), some (.inl 9), some (.inl 9), some (.inl x), some (.inl y), some (.inl z), u10] [] h1
                                  refine E_s 5 (i' := 87) (ls' := [some (.inr (.inr 66)), some (.inl 0), some (.inl k), some (.inl i), some (.inl 9), some (.inl 9), some (.inl x), some (.inl y), some (.inl z), u10]) (sk' := [.inl z, .inl y, .inl x, .inl 300, .inr (.inr 66)]) (h' := h1) rfl ?_
                                  obtain ⟨yz, -, cz⟩ := (hF k hk2.1 hk2.2).2.2.2.2.2.2 h7
                                  have ch := cw_ch hF (Int.le_refl _) cz
                                  obtain ⟨b1, b2, b3⟩ := (hR.2.2.1 k hk2.1 hk2.2).2.2.2.2.2.2 h7
                                  have i1 : h1 69 300 = S 8 k := by rw [f1 _ (by decide) (by decide), hfz _ (by decide) (by decide)]; exact b1
                                  have i2 : h1 70 300 = S 9 k := by rw [f1 _ (by decide) (by decide), hfz _ (by decide) (by decide)]; exact b2
                                  have i3 : h1 71 300 = oth (S 8 k) (S 10 k) := by rw [f1 _ (by decide) (by decide), hfz _ (by decide) (by decide)]; exact b3
                                  have rr : ∀ j, 0 ≤ j → j < S 0 0 → h1 94 j = VE S (pX x y z) j ∧ xr (VE S (pX x y z) j) := fun j z1 z2 => ⟨f2 j z1 z2, VE_r hF (pX_r xx xy xz) 300 j z1 z2⟩
                                  refine E_cp (x := (.invokevirtual 299, 4, [(10, 196)], [0])) (q := fun r h9 => w32 r = fE S (pX x y z) (S 8 k) (S 9 k) (S 10 k) ∧ h1 = h9) rfl rfl (Nat.le_of_ble_eq_true rfl) (m_valueOf (d + 19) 0 h1 S 300 x y z (S 8 k) (S 9 k) (S 10 k) xx xy xz ⟨by decide, by decide⟩ i1 i2 i3 (by omega) (fun z9 => rr _ (by omega) (by omega)) (fun z9 _ => rr _ (by omega) (by omega)) (fun v hv => ⟨v, rfl, hv, rfl⟩)) (fun r9 h9 hv9 => ?_)
                                  obtain ⟨hv9, rfl⟩ := hv9
                                  show xEx G0 cdX12_mergedApart (some .int) (xRn G0 MT (d + 22)) Q b 88 [some (.inr (.inr 66)), some (.inl 0), some (.inl k), some (.inl i), some (.inl 9), some (.inl 9), some (.inl x), some (.inl y), some (.inl z), u10] [.inl r9] h1
                                  have ub : xr (fE S (pX x y z) (S 8 k) (S 9 k) (S 10 k)) := fE_r hF (pX_r xx xy xz) (Int.le_refl _) cz
                                  have g1 := f2 k hk2.1 hk2.2
                                  have ua : xr (h1 94 k) := by rw [g1]; exact (rr k hk2.1 hk2.2).2
                                  refine E_ti (y := (fE S (pX x y z) (S 8 k) (S 9 k) (S 10 k))) (by rw [hv9, w32_id ub]) ?_
                                  refine E_s 3 (i' := 91) (ls' := [some (.inr (.inr 66)), some (.inl 0), some (.inl k), some (.inl i), some (.inl 9), some (.inl 9), some (.inl x), some (.inl y), some (.inl z), u10]) (sk' := [.inl k, .inr (.inr 94), .inl (fE S (pX x y z) (S 8 k) (S 9 k) (S 10 k))]) (h' := h1) rfl ?_
                                  refine E_ld (x := (.iaload, 0, [], [])) (ty := .int) (n := 300) rfl rfl rfl (by omega) (by omega) ?_
                                  show xEx G0 cdX12_mergedApart (some .int) (xRn G0 MT (d + 22)) Q b 92 [some (.inr (.inr 66)), some (.inl 0), some (.inl k), some (.inl i), some (.inl 9), some (.inl 9), some (.inl x), some (.inl y), some (.inl z), u10] [.inl (h1 94 k), .inl (fE S (pX x y z) (S 8 k) (S 9 k) (S 10 k))] h1
                                  refine E_b (x := (.if_icmp .eq 7, 95, [], [])) rfl rfl (fun c92 => ?_) (fun c92 => ?_)
                                  · rw [c_eq (by first | exact ua | exact ub) (by first | exact ua | exact ub)] at c92
                                    simp only [decide_eq_true_eq, decide_eq_false_iff_not, Decidable.not_not] at c92
                                    show xEx G0 cdX12_mergedApart (some .int) (xRn G0 MT (d + 22)) Q b 95 [some (.inr (.inr 66)), some (.inl 0), some (.inl k), some (.inl i), some (.inl 9), some (.inl 9), some (.inl x), some (.inl y), some (.inl z), u10] [] h1
                                    have dd : ¬ (dmE S 3 k) ((x + 9) * 361 + (y + 9) * 19 + (z + 9)) := by
                                      intro z9
                                      apply z9
                                      rw [pt_3 (by omega) (by omega) (by omega)]
                                      exact g1.symm.trans c92.symm
                                    refine E_s 3 (i' := 98) (ls' := [some (.inr (.inr 66)), some (.inl 0), some (.inl k), some (.inl i), some (.inl 9), some (.inl 9), some (.inl x), some (.inl y), some (.inl z), some (.inl 0)]) (sk' := [.inl 0]) (h' := h1) rfl ?_
                                    refine E_b (x := (.ifCond .eq 25, 110, [], [])) rfl rfl (fun c98 => ?_) (fun c98 => ?_)
                                    · show xEx G0 cdX12_mergedApart (some .int) (xRn G0 MT (d + 22)) Q b 110 [some (.inr (.inr 66)), some (.inl 0), some (.inl k), some (.inl i), some (.inl 9), some (.inl 9), some (.inl x), some (.inl y), some (.inl z), some (.inl 0)] [] h1
                                      refine E_s 2 (i' := 60) (ls' := [some (.inr (.inr 66)), some (.inl 0), some (.inl k), some (.inl i), some (.inl 9), some (.inl 9), some (.inl x), some (.inl y), some (.inl (z + 1)), some (.inl 0)]) (sk' := []) (h' := h1) rfl ?_
                                      exact ih60 _ (z + 1) _ (by omega) (by omega) (fun a z1 z2 => (f1 a z1 z2).trans (hfz a z1 z2)) (fun q0 z1 z2 => by
                                        by_cases z9 : q0 = (x + 9) * 361 + (y + 9) * 19 + (z + 9)
                                        · rw [z9]; exact dd
                                        · exact hnz q0 z1 (by omega)) (by omega)
                                    · show xEx G0 cdX12_mergedApart (some .int) (xRn G0 MT (d + 22)) Q b 99 [some (.inr (.inr 66)), some (.inl 0), some (.inl k), some (.inl i), some (.inl 9), some (.inl 9), some (.inl x), some (.inl y), some (.inl z), some (.inl 0)] [] h1
                                      exact absurd c98 (by decide)
                                  · rw [c_eq (by first | exact ua | exact ub) (by first | exact ua | exact ub)] at c92
                                    simp only [decide_eq_true_eq, decide_eq_false_iff_not, Decidable.not_not] at c92
                                    show xEx G0 cdX12_mergedApart (some .int) (xRn G0 MT (d + 22)) Q b 93 [some (.inr (.inr 66)), some (.inl 0), some (.inl k), some (.inl i), some (.inl 9), some (.inl 9), some (.inl x), some (.inl y), some (.inl z), u10] [] h1
                                    have ddp : (dmE S 3 k) ((x + 9) * 361 + (y + 9) * 19 + (z + 9)) := by
                                      show ¬ _ = _
                                      rw [pt_3 (by omega) (by omega) (by omega)]
                                      intro z9
                                      exact c92 (z9.symm.trans g1.symm)
                                    refine E_s 4 (i' := 98) (ls' := [some (.inr (.inr 66)), some (.inl 0), some (.inl k), some (.inl i), some (.inl 9), some (.inl 9), some (.inl x), some (.inl y), some (.inl z), some (.inl 1)]) (sk' := [.inl 1]) (h' := h1) rfl ?_
                                    refine E_b (x := (.ifCond .eq 25, 110, [], [])) rfl rfl (fun c98 => ?_) (fun c98 => ?_)
                                    · show xEx G0 cdX12_mergedApart (some .int) (xRn G0 MT (d + 22)) Q b 110 [some (.inr (.inr 66)), some (.inl 0), some (.inl k), some (.inl i), some (.inl 9), some (.inl 9), some (.inl x), some (.inl y), some (.inl z), some (.inl 1)] [] h1
                                      exact absurd c98 (by decide)
                                    · show xEx G0 cdX12_mergedApart (some .int) (xRn G0 MT (d + 22)) Q b 99 [some (.inr (.inr 66)), some (.inl 0), some (.inl k), some (.inl i), some (.inl 9), some (.inl 9), some (.inl x), some (.inl y), some (.inl z), some (.inl 1)] [] h1
                                      refine E_s 1 (i' := 100) (ls' := [some (.inr (.inr 66)), some (.inl 0), some (.inl k), some (.inl i), some (.inl 9), some (.inl 9), some (.inl x), some (.inl y), some (.inl z), some (.inl 1)]) (sk' := [.inl i]) (h' := h1) rfl ?_
                                      refine E_b (x := (.ifCond .ne 8, 103, [], [])) rfl rfl (fun c100 => ?_) (fun c100 => ?_)
                                      · rw [c_ne (by first | assumption | (refine ⟨?_, ?_⟩ <;> omega) | (simp only [xr] at *; omega)) (by first | assumption | (refine ⟨?_, ?_⟩ <;> omega) | (simp only [xr] at *; omega))] at c100
                                        simp only [decide_eq_true_eq, decide_eq_false_iff_not, Decidable.not_not] at c100
                                        show xEx G0 cdX12_mergedApart (some .int) (xRn G0 MT (d + 22)) Q b 103 [some (.inr (.inr 66)), some (.inl 0), some (.inl k), some (.inl i), some (.inl 9), some (.inl 9), some (.inl x), some (.inl y), some (.inl z), some (.inl 1)] [] h1
                                        refine E_s 2 (i' := 105) (ls' := [some (.inr (.inr 66)), some (.inl 0), some (.inl k), some (.inl i), some (.inl 9), some (.inl 9), some (.inl x), some (.inl y), some (.inl z), some (.inl 1)]) (sk' := [.inl 1, .inl i]) (h' := h1) rfl ?_
                                        refine E_b (x := (.if_icmp .ne 8, 108, [], [])) rfl rfl (fun c105 => ?_) (fun c105 => ?_)
                                        · rw [c_ne (by first | assumption | (refine ⟨?_, ?_⟩ <;> omega) | (simp only [xr] at *; omega)) (by first | assumption | (refine ⟨?_, ?_⟩ <;> omega) | (simp only [xr] at *; omega))] at c105
                                          simp only [decide_eq_true_eq, decide_eq_false_iff_not, Decidable.not_not] at c105
                                          show xEx G0 cdX12_mergedApart (some .int) (xRn G0 MT (d + 22)) Q b 108 [some (.inr (.inr 66)), some (.inl 0), some (.inl k), some (.inl i), some (.inl 9), some (.inl 9), some (.inl x), some (.inl y), some (.inl z), some (.inl 1)] [] h1
                                          refine E_s 1 (i' := 109) (ls' := [some (.inr (.inr 66)), some (.inl 0), some (.inl k), some (.inl i), some (.inl 9), some (.inl 9), some (.inl x), some (.inl y), some (.inl z), some (.inl 1)]) (sk' := [.inl z]) (h' := h1) rfl ?_
                                          exact E_ret (x := (.ireturn, 0, [], [])) (v := some (.inl z)) rfl (Or.inl rfl) (by
                                            have r9 := hF9 kk h7 ((x + 9) * 361 + (y + 9) * 19 + (z + 9)) (by omega) (by simp [ptN]; omega) ddp hnz _ (fun a z1 z2 => (f1 a z1 z2).trans (hfz a z1 z2))
                                            rw [pt_3 (by omega) (by omega) (by omega)] at r9
                                            have e9 : pX x y z i = z := by unfold pX; rw [if_neg (by omega), if_neg (by omega)]
                                            rw [e9] at r9
                                            exact r9)
                                        · rw [c_ne (by first | assumption | (refine ⟨?_, ?_⟩ <;> omega) | (simp only [xr] at *; omega)) (by first | assumption | (refine ⟨?_, ?_⟩ <;> omega) | (simp only [xr] at *; omega))] at c105
                                          simp only [decide_eq_true_eq, decide_eq_false_iff_not, Decidable.not_not] at c105
                                          show xEx G0 cdX12_mergedApart (some .int) (xRn G0 MT (d + 22)) Q b 106 [some (.inr (.inr 66)), some (.inl 0), some (.inl k), some (.inl i), some (.inl 9), some (.inl 9), some (.inl x), some (.inl y), some (.inl z), some (.inl 1)] [] h1
                                          refine E_s 2 (i' := 109) (ls' := [some (.inr (.inr 66)), some (.inl 0), some (.inl k), some (.inl i), some (.inl 9), some (.inl 9), some (.inl x), some (.inl y), some (.inl z), some (.inl 1)]) (sk' := [.inl y]) (h' := h1) rfl ?_
                                          exact E_ret (x := (.ireturn, 0, [], [])) (v := some (.inl y)) rfl (Or.inl rfl) (by
                                            have r9 := hF9 kk h7 ((x + 9) * 361 + (y + 9) * 19 + (z + 9)) (by omega) (by simp [ptN]; omega) ddp hnz _ (fun a z1 z2 => (f1 a z1 z2).trans (hfz a z1 z2))
                                            rw [pt_3 (by omega) (by omega) (by omega)] at r9
                                            have e9 : pX x y z i = y := by unfold pX; rw [if_neg (by omega), if_pos (by omega)]
                                            rw [e9] at r9
                                            exact r9)
                                      · rw [c_ne (by first | assumption | (refine ⟨?_, ?_⟩ <;> omega) | (simp only [xr] at *; omega)) (by first | assumption | (refine ⟨?_, ?_⟩ <;> omega) | (simp only [xr] at *; omega))] at c100
                                        simp only [decide_eq_true_eq, decide_eq_false_iff_not, Decidable.not_not] at c100
                                        show xEx G0 cdX12_mergedApart (some .int) (xRn G0 MT (d + 22)) Q b 101 [some (.inr (.inr 66)), some (.inl 0), some (.inl k), some (.inl i), some (.inl 9), some (.inl 9), some (.inl x), some (.inl y), some (.inl z), some (.inl 1)] [] h1
                                        refine E_s 2 (i' := 109) (ls' := [some (.inr (.inr 66)), some (.inl 0), some (.inl k), some (.inl i), some (.inl 9), some (.inl 9), some (.inl x), some (.inl y), some (.inl z), some (.inl 1)]) (sk' := [.inl x]) (h' := h1) rfl ?_
                                        exact E_ret (x := (.ireturn, 0, [], [])) (v := some (.inl x)) rfl (Or.inl rfl) (by
                                          have r9 := hF9 kk h7 ((x + 9) * 361 + (y + 9) * 19 + (z + 9)) (by omega) (by simp [ptN]; omega) ddp hnz _ (fun a z1 z2 => (f1 a z1 z2).trans (hfz a z1 z2))
                                          rw [pt_3 (by omega) (by omega) (by omega)] at r9
                                          have e9 : pX x y z i = x := by unfold pX; rw [if_pos (by omega)]
                                          rw [e9] at r9
                                          exact r9)
                                · show xEx G0 cdX12_mergedApart (some .int) (xRn G0 MT (d + 22)) Q b 70 [some (.inr (.inr 66)), some (.inl 0), some (.inl k), some (.inl i), some (.inl 9), some (.inl 9), some (.inl x), some (.inl y), some (.inl z), u10] [] h1
                                  exact absurd c69 (by decide)
                          exact key60 _ _ (-9) _ (by omega) (by omega) hfy (fun q0 z1 z2 => hny q0 z1 (by omega)) (Nat.lt_succ_self _)
                    exact key54 _ _ (-9) _ _ (by omega) (by omega) hfx (fun q0 z1 z2 => hnx q0 z1 (by omega)) (Nat.lt_succ_self _)
              exact key48 _ _ (-9) none none none (by omega) (by omega) (fun _ _ _ => rfl) (fun q0 z1 z2 => by omega) (Nat.lt_succ_self _)
        · rw [c_ne (by first | assumption | (refine ⟨?_, ?_⟩ <;> omega) | (simp only [xr] at *; omega)) (by first | assumption | (refine ⟨?_, ?_⟩ <;> omega) | (simp only [xr] at *; omega))] at c22
          simp only [decide_eq_true_eq, decide_eq_false_iff_not, Decidable.not_not] at c22
          show xEx G0 cdX12_mergedApart (some .int) (xRn G0 MT (d + 22)) Q b 23 [some (.inr (.inr 66)), some (.inl 0), some (.inl k), some (.inl i), none, none, none, none, none, none] [] g1
          obtain ⟨z0, rfl⟩ : h 76 k = 0 ∧ g1 = xup h 66 0 0 := by
            rcases hq4 with ⟨-, a, b⟩ | ⟨a, -⟩
            · exact ⟨a, b⟩
            · omega
          refine E_s 2 (i' := 25) (ls' := [some (.inr (.inr 66)), some (.inl 0), some (.inl k), some (.inl i), none, none, none, none, none, none]) (sk' := [.inl 0]) (h' := (xup h 66 0 0)) rfl ?_
          refine E_b (x := (.ifCond .le 7, 28, [], [])) rfl rfl (fun c25 => ?_) (fun c25 => ?_)
          · show xEx G0 cdX12_mergedApart (some .int) (xRn G0 MT (d + 22)) Q b 28 [some (.inr (.inr 66)), some (.inl 0), some (.inl k), some (.inl i), none, none, none, none, none, none] [] (xup h 66 0 0)
            refine E_s 1 (i' := 29) (ls' := [some (.inr (.inr 66)), some (.inl 0), some (.inl k), some (.inl i), none, none, none, none, none, none]) (sk' := [.inl (-100)]) (h' := (xup h 66 0 0)) rfl ?_
            exact E_ret (x := (.ireturn, 0, [], [])) (v := some (.inl (-100))) rfl (Or.inl rfl) (hZ kk (by rw [← e7]; exact z0))
          · show xEx G0 cdX12_mergedApart (some .int) (xRn G0 MT (d + 22)) Q b 26 [some (.inr (.inr 66)), some (.inl 0), some (.inl k), some (.inl i), none, none, none, none, none, none] [] (xup h 66 0 0)
            exact absurd c25 (by decide)
    · rw [c_ne (by first | assumption | (refine ⟨?_, ?_⟩ <;> omega) | (simp only [xr] at *; omega)) (by first | assumption | (refine ⟨?_, ?_⟩ <;> omega) | (simp only [xr] at *; omega))] at c10
      simp only [decide_eq_true_eq, decide_eq_false_iff_not, Decidable.not_not] at c10
      show xEx G0 cdX12_mergedApart (some .int) (xRn G0 MT (d + 22)) Q b 11 [some (.inr (.inr 66)), some (.inl 0), some (.inl k), some (.inl i), none, none, none, none, none, none] [.inr (.inr 66)] h
      refine E_s 5 (i' := 17) (ls' := [some (.inr (.inr 66)), some (.inl 0), some (.inl k), some (.inl i), none, none, none, none, none, none]) (sk' := [.inl 1]) (h' := (xup h 66 0 1)) rfl ?_
      refine E_b (x := (.ifCond .gt 12, 23, [], [])) rfl rfl (fun c17 => ?_) (fun c17 => ?_)
      · show xEx G0 cdX12_mergedApart (some .int) (xRn G0 MT (d + 22)) Q b 23 [some (.inr (.inr 66)), some (.inl 0), some (.inl k), some (.inl i), none, none, none, none, none, none] [] (xup h 66 0 1)
        
        refine E_s 2 (i' := 25) (ls' := [some (.inr (.inr 66)), some (.inl 0), some (.inl k), some (.inl i), none, none, none, none, none, none]) (sk' := [.inl 1]) (h' := (xup h 66 0 1)) rfl ?_
        refine E_b (x := (.ifCond .le 7, 28, [], [])) rfl rfl (fun c25 => ?_) (fun c25 => ?_)
        · show xEx G0 cdX12_mergedApart (some .int) (xRn G0 MT (d + 22)) Q b 28 [some (.inr (.inr 66)), some (.inl 0), some (.inl k), some (.inl i), none, none, none, none, none, none] [] (xup h 66 0 1)
          exact absurd c25 (by decide)
        · show xEx G0 cdX12_mergedApart (some .int) (xRn G0 MT (d + 22)) Q b 26 [some (.inr (.inr 66)), some (.inl 0), some (.inl k), some (.inl i), none, none, none, none, none, none] [] (xup h 66 0 1)
          refine E_s 2 (i' := 29) (ls' := [some (.inr (.inr 66)), some (.inl 0), some (.inl k), some (.inl i), none, none, none, none, none, none]) (sk' := [.inl 0]) (h' := (xup h 66 0 1)) rfl ?_
          exact E_ret (x := (.ireturn, 0, [], [])) (v := some (.inl 0)) rfl (Or.inl rfl) (hN (by omega))
      · show xEx G0 cdX12_mergedApart (some .int) (xRn G0 MT (d + 22)) Q b 18 [some (.inr (.inr 66)), some (.inl 0), some (.inl k), some (.inl i), none, none, none, none, none, none] [] (xup h 66 0 1)
        exact absurd c17 (by decide)
set_option maxHeartbeats 1000000 in
theorem m_mapart1_1 (d b : Nat) (h S T : xH) (k i n0 : Int) (wt : Int → Int) (hk : xr k) (hi : xr i) (hm : h 66 1 = 1) (h7r : ∀ k, 0 ≤ k → k < T 0 0 → 0 ≤ T 7 k ∧ T 7 k ≤ 400000) (hR : RR h S) (hRT : RRT h T) (hF : FW n0 wt 9 S) (hT : FWT S 7 T) (h3 : 0 ≤ S 0 0 ∧ S 0 0 ≤ 300) (h4 : 0 ≤ T 0 0 ∧ T 0 0 ≤ 150) (hM1 : 0 ≤ h 66 19 ∧ h 66 19 ≤ 150) {Q : xO → xH → Prop} (hN : ¬ ((0 ≤ k ∧ k < h 66 19) ∧ (0 ≤ i ∧ i ≤ 2)) → Q (.inl (some (.inl (0)))) (xup h 66 0 1)) (hZ : ((0 ≤ k ∧ k < h 66 19) ∧ (0 ≤ i ∧ i ≤ 2)) → T 7 k = 0 → Q (.inl (some (.inl (-100)))) (xup h 66 0 0)) (hF9 : ((0 ≤ k ∧ k < h 66 19) ∧ (0 ≤ i ∧ i ≤ 2)) → T 7 k ≠ 0 → ∀ p, 0 ≤ p → p < ptN 1 → (dmU S T 1 k) p → (∀ q, 0 ≤ q → q < p → ¬ (dmU S T 1 k) q) → ∀ h', (∀ a, a ≠ 94 → a ≠ 95 → h' a = (xup (xup (xup (xup h 66 0 0) 79 150 (h 82 k)) 80 150 (h 83 k)) 81 150 (h 84 k)) a) → Q (.inl (some (.inl (ptX 1 p i)))) h') (hG : ((0 ≤ k ∧ k < h 66 19) ∧ (0 ≤ i ∧ i ≤ 2)) → T 7 k ≠ 0 → (∀ q, 0 ≤ q → q < ptN 1 → ¬ (dmU S T 1 k) q) → ∀ h', (∀ a, a ≠ 94 → a ≠ 95 → h' a = (xup (xup (xup (xup h 66 0 0) 79 150 (h 82 k)) 80 150 (h 83 k)) 81 150 (h 84 k)) a) → Q (.inl (some (.inl (-100)))) h') : xRn G0 MT (d + 23) b 200 [.inr (.inr 66), .inl 1, .inl k, .inl i] h Q := by
  refine R_of (M := mX12_mergedApart) rfl (Nat.le_of_ble_eq_true rfl) ?_
  show xEx G0 cdX12_mergedApart (some .int) (xRn G0 MT (d + 22)) Q b 0 [some (.inr (.inr 66)), some (.inl 1), some (.inl k), some (.inl i), none, none, none, none, none, none] [] h
  refine E_s 4 (i' := 4) (ls' := [some (.inr (.inr 66)), some (.inl 1), some (.inl k), some (.inl i), none, none, none, none, none, none]) (sk' := [.inl k, .inl 1, .inr (.inr 66), .inr (.inr 66)]) (h' := h) rfl ?_
  refine E_cp (x := (.invokevirtual 295, 2, [(10, 193)], [0])) (q := fun r1 h9 => ((r1 = 1 ∧ (0 ≤ k ∧ k < h 66 19)) ∨ (r1 = 0 ∧ ¬ (0 ≤ k ∧ k < h 66 19))) ∧ h = h9) rfl rfl (Nat.le_of_ble_eq_true rfl) (m_isKept1 (d + 20) 0 h k hk hM1 (fun z => ⟨_, rfl, Or.inl ⟨rfl, z⟩, rfl⟩) (fun z => ⟨_, rfl, Or.inr ⟨rfl, z⟩, rfl⟩)) (fun r1 h9 q1 => ?_)
  obtain ⟨q1, rfl⟩ := q1
  show xEx G0 cdX12_mergedApart (some .int) (xRn G0 MT (d + 22)) Q b 5 [some (.inr (.inr 66)), some (.inl 1), some (.inl k), some (.inl i), none, none, none, none, none, none] [.inl r1, .inr (.inr 66)] h
  refine E_b (x := (.ifCond .eq 12, 11, [], [])) rfl rfl (fun c5 => ?_) (fun c5 => ?_)
  · rw [c_eq (by first | assumption | (refine ⟨?_, ?_⟩ <;> omega) | (simp only [xr] at *; omega)) (by first | assumption | (refine ⟨?_, ?_⟩ <;> omega) | (simp only [xr] at *; omega))] at c5
    simp only [decide_eq_true_eq, decide_eq_false_iff_not, Decidable.not_not] at c5
    show xEx G0 cdX12_mergedApart (some .int) (xRn G0 MT (d + 22)) Q b 11 [some (.inr (.inr 66)), some (.inl 1), some (.inl k), some (.inl i), none, none, none, none, none, none] [.inr (.inr 66)] h
    refine E_s 5 (i' := 17) (ls' := [some (.inr (.inr 66)), some (.inl 1), some (.inl k), some (.inl i), none, none, none, none, none, none]) (sk' := [.inl 1]) (h' := (xup h 66 0 1)) rfl ?_
    refine E_b (x := (.ifCond .gt 12, 23, [], [])) rfl rfl (fun c17 => ?_) (fun c17 => ?_)
    · show xEx G0 cdX12_mergedApart (some .int) (xRn G0 MT (d + 22)) Q b 23 [some (.inr (.inr 66)), some (.inl 1), some (.inl k), some (.inl i), none, none, none, none, none, none] [] (xup h 66 0 1)
      
      refine E_s 2 (i' := 25) (ls' := [some (.inr (.inr 66)), some (.inl 1), some (.inl k), some (.inl i), none, none, none, none, none, none]) (sk' := [.inl 1]) (h' := (xup h 66 0 1)) rfl ?_
      refine E_b (x := (.ifCond .le 7, 28, [], [])) rfl rfl (fun c25 => ?_) (fun c25 => ?_)
      · show xEx G0 cdX12_mergedApart (some .int) (xRn G0 MT (d + 22)) Q b 28 [some (.inr (.inr 66)), some (.inl 1), some (.inl k), some (.inl i), none, none, none, none, none, none] [] (xup h 66 0 1)
        exact absurd c25 (by decide)
      · show xEx G0 cdX12_mergedApart (some .int) (xRn G0 MT (d + 22)) Q b 26 [some (.inr (.inr 66)), some (.inl 1), some (.inl k), some (.inl i), none, none, none, none, none, none] [] (xup h 66 0 1)
        refine E_s 2 (i' := 29) (ls' := [some (.inr (.inr 66)), some (.inl 1), some (.inl k), some (.inl i), none, none, none, none, none, none]) (sk' := [.inl 0]) (h' := (xup h 66 0 1)) rfl ?_
        exact E_ret (x := (.ireturn, 0, [], [])) (v := some (.inl 0)) rfl (Or.inl rfl) (hN (by omega))
    · show xEx G0 cdX12_mergedApart (some .int) (xRn G0 MT (d + 22)) Q b 18 [some (.inr (.inr 66)), some (.inl 1), some (.inl k), some (.inl i), none, none, none, none, none, none] [] (xup h 66 0 1)
      exact absurd c17 (by decide)
  · rw [c_eq (by first | assumption | (refine ⟨?_, ?_⟩ <;> omega) | (simp only [xr] at *; omega)) (by first | assumption | (refine ⟨?_, ?_⟩ <;> omega) | (simp only [xr] at *; omega))] at c5
    simp only [decide_eq_true_eq, decide_eq_false_iff_not, Decidable.not_not] at c5
    show xEx G0 cdX12_mergedApart (some .int) (xRn G0 MT (d + 22)) Q b 6 [some (.inr (.inr 66)), some (.inl 1), some (.inl k), some (.inl i), none, none, none, none, none, none] [.inr (.inr 66)] h
    refine E_s 3 (i' := 9) (ls' := [some (.inr (.inr 66)), some (.inl 1), some (.inl k), some (.inl i), none, none, none, none, none, none]) (sk' := [.inl 2, .inl 0, .inl i, .inr (.inr 66)]) (h' := h) rfl ?_
    refine E_cp (x := (.invokestatic 180, 3, [(0, 155)], [])) (q := fun r2 h9 => ((r2 = 1 ∧ (0 ≤ i ∧ i ≤ 2)) ∨ (r2 = 0 ∧ ¬ (0 ≤ i ∧ i ≤ 2))) ∧ h = h9) rfl rfl (Nat.le_of_ble_eq_true rfl) (m_isIn (d + 21) 0 (h) i 0 2 hi ⟨by omega, by omega⟩ ⟨by omega, by omega⟩ (fun z => ⟨_, rfl, Or.inl ⟨rfl, z⟩, rfl⟩) (fun z => ⟨_, rfl, Or.inr ⟨rfl, z⟩, rfl⟩)) (fun r2 h9 q2 => ?_)
    obtain ⟨q2, rfl⟩ := q2
    show xEx G0 cdX12_mergedApart (some .int) (xRn G0 MT (d + 22)) Q b 10 [some (.inr (.inr 66)), some (.inl 1), some (.inl k), some (.inl i), none, none, none, none, none, none] [.inl r2, .inr (.inr 66)] h
    refine E_b (x := (.ifCond .ne 7, 13, [], [])) rfl rfl (fun c10 => ?_) (fun c10 => ?_)
    · rw [c_ne (by first | assumption | (refine ⟨?_, ?_⟩ <;> omega) | (simp only [xr] at *; omega)) (by first | assumption | (refine ⟨?_, ?_⟩ <;> omega) | (simp only [xr] at *; omega))] at c10
      simp only [decide_eq_true_eq, decide_eq_false_iff_not, Decidable.not_not] at c10
      show xEx G0 cdX12_mergedApart (some .int) (xRn G0 MT (d + 22)) Q b 13 [some (.inr (.inr 66)), some (.inl 1), some (.inl k), some (.inl i), none, none, none, none, none, none] [.inr (.inr 66)] h
      refine E_s 4 (i' := 17) (ls' := [some (.inr (.inr 66)), some (.inl 1), some (.inl k), some (.inl i), none, none, none, none, none, none]) (sk' := [.inl 0]) (h' := (xup h 66 0 0)) rfl ?_
      refine E_b (x := (.ifCond .gt 12, 23, [], [])) rfl rfl (fun c17 => ?_) (fun c17 => ?_)
      · show xEx G0 cdX12_mergedApart (some .int) (xRn G0 MT (d + 22)) Q b 23 [some (.inr (.inr 66)), some (.inl 1), some (.inl k), some (.inl i), none, none, none, none, none, none] [] (xup h 66 0 0)
        exact absurd c17 (by decide)
      · show xEx G0 cdX12_mergedApart (some .int) (xRn G0 MT (d + 22)) Q b 18 [some (.inr (.inr 66)), some (.inl 1), some (.inl k), some (.inl i), none, none, none, none, none, none] [] (xup h 66 0 0)
        refine E_s 3 (i' := 21) (ls' := [some (.inr (.inr 66)), some (.inl 1), some (.inl k), some (.inl i), none, none, none, none, none, none]) (sk' := [.inl k, .inl 1, .inr (.inr 66)]) (h' := (xup h 66 0 0)) rfl ?_
        have kk : (0 ≤ k ∧ k < h 66 19) ∧ (0 ≤ i ∧ i ≤ 2) := by omega
        have hk2 : 0 ≤ k ∧ k < T 0 0 := by rw [← hRT.1]; exact kk.1
        have e7 : h 86 k = T 7 k := (hRT.2.2.2 k hk2.1 hk2.2).2.2.2.2.2.1
        have r7 := h7r k hk2.1 hk2.2
        refine E_cp (x := (.invokevirtual 306, 2, [(10, 199)], [0])) (q := fun r h9 => (r = 0 ∧ h 86 k = 0 ∧ h9 = xup h 66 0 0) ∨ (r = 1 ∧ h 86 k ≠ 0 ∧ h9 = xup (xup (xup (xup h 66 0 0) 79 150 (h 82 k)) 80 150 (h 83 k)) 81 150 (h 84 k))) rfl rfl (Nat.le_of_ble_eq_true rfl) (m_laysM1 (d + 21) 0 (xup h 66 0 0) k ⟨by omega, by omega⟩ (show xr (h 86 k) by rw [e7]; exact ⟨by omega, by omega⟩) (fun z9 => ⟨_, rfl, Or.inl ⟨rfl, z9, rfl⟩⟩) (fun z9 => ⟨_, rfl, Or.inr ⟨rfl, z9, rfl⟩⟩)) (fun r4 g1 hq4 => ?_)
        show xEx G0 cdX12_mergedApart (some .int) (xRn G0 MT (d + 22)) Q b 22 [some (.inr (.inr 66)), some (.inl 1), some (.inl k), some (.inl i), none, none, none, none, none, none] [.inl r4] g1
        refine E_b (x := (.ifCond .ne 17, 30, [], [])) rfl rfl (fun c22 => ?_) (fun c22 => ?_)
        · rw [c_ne (by first | assumption | (refine ⟨?_, ?_⟩ <;> omega) | (simp only [xr] at *; omega)) (by first | assumption | (refine ⟨?_, ?_⟩ <;> omega) | (simp only [xr] at *; omega))] at c22
          simp only [decide_eq_true_eq, decide_eq_false_iff_not, Decidable.not_not] at c22
          show xEx G0 cdX12_mergedApart (some .int) (xRn G0 MT (d + 22)) Q b 30 [some (.inr (.inr 66)), some (.inl 1), some (.inl k), some (.inl i), none, none, none, none, none, none] [] g1
          obtain ⟨h7, rfl⟩ : h 86 k ≠ 0 ∧ g1 = xup (xup (xup (xup h 66 0 0) 79 150 (h 82 k)) 80 150 (h 83 k)) 81 150 (h 84 k) := by
            rcases hq4 with ⟨a, -⟩ | ⟨-, a, b⟩
            · omega
            · exact ⟨a, b⟩
          rw [e7] at h7
          have fmb : FM h (xup (xup (xup (xup h 66 0 0) 79 150 (h 82 k)) 80 150 (h 83 k)) 81 150 (h 84 k)) := (FM_u3 (FM_u3 (FM_u3 ((FM.rf h).up (Or.inr ⟨rfl, by unfold mdf; decide⟩)) (Or.inr ⟨by decide, by decide⟩)) (Or.inr ⟨by decide, by decide⟩)) (Or.inr ⟨by decide, by decide⟩))
          obtain ⟨hR1, hRT1⟩ := RR_FM h3.2 h4.2 fmb hR hRT
          refine E_s 3 (i' := 33) (ls' := [some (.inr (.inr 66)), some (.inl 1), some (.inl k), some (.inl i), none, none, none, none, none, none]) (sk' := [.inl 1, .inl (h 66 1)]) (h' := (xup (xup (xup (xup h 66 0 0) 79 150 (h 82 k)) 80 150 (h 83 k)) 81 150 (h 84 k))) rfl ?_
          refine E_b (x := (.if_icmp .le 8, 36, [], [])) rfl rfl (fun c33 => ?_) (fun c33 => ?_)
          · rw [c_le (by first | assumption | (refine ⟨?_, ?_⟩ <;> omega) | (simp only [xr] at *; omega)) (by first | assumption | (refine ⟨?_, ?_⟩ <;> omega) | (simp only [xr] at *; omega))] at c33
            simp only [decide_eq_true_eq, decide_eq_false_iff_not, Decidable.not_not] at c33
            show xEx G0 cdX12_mergedApart (some .int) (xRn G0 MT (d + 22)) Q b 36 [some (.inr (.inr 66)), some (.inl 1), some (.inl k), some (.inl i), none, none, none, none, none, none] [] (xup (xup (xup (xup h 66 0 0) 79 150 (h 82 k)) 80 150 (h 83 k)) 81 150 (h 84 k))
            refine E_s 5 (i' := 41) (ls' := [some (.inr (.inr 66)), some (.inl 1), some (.inl k), some (.inl i), some (.inl 0), none, none, none, none, none]) (sk' := [.inl 2, .inl (h 66 1)]) (h' := (xup (xup (xup (xup h 66 0 0) 79 150 (h 82 k)) 80 150 (h 83 k)) 81 150 (h 84 k))) rfl ?_
            refine E_b (x := (.if_icmp .le 8, 44, [], [])) rfl rfl (fun c41 => ?_) (fun c41 => ?_)
            · rw [c_le (by first | assumption | (refine ⟨?_, ?_⟩ <;> omega) | (simp only [xr] at *; omega)) (by first | assumption | (refine ⟨?_, ?_⟩ <;> omega) | (simp only [xr] at *; omega))] at c41
              simp only [decide_eq_true_eq, decide_eq_false_iff_not, Decidable.not_not] at c41
              show xEx G0 cdX12_mergedApart (some .int) (xRn G0 MT (d + 22)) Q b 44 [some (.inr (.inr 66)), some (.inl 1), some (.inl k), some (.inl i), some (.inl 0), none, none, none, none, none] [] (xup (xup (xup (xup h 66 0 0) 79 150 (h 82 k)) 80 150 (h 83 k)) 81 150 (h 84 k))
              refine E_s 4 (i' := 48) (ls' := [some (.inr (.inr 66)), some (.inl 1), some (.inl k), some (.inl i), some (.inl 0), some (.inl 0), some (.inl (-9)), none, none, none]) (sk' := []) (h' := (xup (xup (xup (xup h 66 0 0) 79 150 (h 82 k)) 80 150 (h 83 k)) 81 150 (h 84 k))) rfl ?_
              have key48 : ∀ (n : Nat) (hx : xH) (x : Int) (v8 v9 : Option xV) (v10 : Option xV), (-9 ≤ x) → (x ≤ 10) → (∀ a, a ≠ 94 → a ≠ 95 → hx a = (xup (xup (xup (xup h 66 0 0) 79 150 (h 82 k)) 80 150 (h 83 k)) 81 150 (h 84 k)) a) → (∀ q0, 0 ≤ q0 → q0 < (x + 9) + 0 + 0 → ¬ (dmU S T 1 k) q0) → ((10 - x).toNat) < n → xEx G0 cdX12_mergedApart (some .int) (xRn G0 MT (d + 22)) Q b 48 [some (.inr (.inr 66)), some (.inl 1), some (.inl k), some (.inl i), some (.inl 0), some (.inl 0), some (.inl x), v8, v9, v10] [] hx := by
                intro n
                induction n with
                | zero => intro hx x v8 v9 v10 _ _ _ _ hm; exact absurd hm (Nat.not_lt_zero _)
                | succ n ih48 =>
                  intro hx x v8 v9 v10 hx0 hx9 hfx hnx hm48
                  refine E_s 2 (i' := 50) (ls' := [some (.inr (.inr 66)), some (.inl 1), some (.inl k), some (.inl i), some (.inl 0), some (.inl 0), some (.inl x), v8, v9, v10]) (sk' := [.inl 9, .inl x]) (h' := hx) rfl ?_
                  refine E_b (x := (.if_icmp .gt 139, 116, [], [])) rfl rfl (fun c50 => ?_) (fun c50 => ?_)
                  · rw [c_gt (by first | assumption | (refine ⟨?_, ?_⟩ <;> omega) | (simp only [xr] at *; omega)) (by first | assumption | (refine ⟨?_, ?_⟩ <;> omega) | (simp only [xr] at *; omega))] at c50
                    simp only [decide_eq_true_eq, decide_eq_false_iff_not, Decidable.not_not] at c50
                    show xEx G0 cdX12_mergedApart (some .int) (xRn G0 MT (d + 22)) Q b 116 [some (.inr (.inr 66)), some (.inl 1), some (.inl k), some (.inl i), some (.inl 0), some (.inl 0), some (.inl x), v8, v9, v10] [] hx
                    refine E_s 1 (i' := 117) (ls' := [some (.inr (.inr 66)), some (.inl 1), some (.inl k), some (.inl i), some (.inl 0), some (.inl 0), some (.inl x), v8, v9, v10]) (sk' := [.inl (-100)]) (h' := hx) rfl ?_
                    exact E_ret (x := (.ireturn, 0, [], [])) (v := some (.inl (-100))) rfl (Or.inl rfl) (hG kk h7 (fun q z1 z2 => hnx q z1 (by simp [ptN] at z2; omega)) _ hfx)
                  · rw [c_gt (by first | assumption | (refine ⟨?_, ?_⟩ <;> omega) | (simp only [xr] at *; omega)) (by first | assumption | (refine ⟨?_, ?_⟩ <;> omega) | (simp only [xr] at *; omega))] at c50
                    simp only [decide_eq_true_eq, decide_eq_false_iff_not, Decidable.not_not] at c50
                    show xEx G0 cdX12_mergedApart (some .int) (xRn G0 MT (d + 22)) Q b 51 [some (.inr (.inr 66)), some (.inl 1), some (.inl k), some (.inl i), some (.inl 0), some (.inl 0), some (.inl x), v8, v9, v10] [] hx
                    refine E_s 3 (i' := 54) (ls' := [some (.inr (.inr 66)), some (.inl 1), some (.inl k), some (.inl i), some (.inl 0), some (.inl 0), some (.inl x), some (.inl (-0)), v9, v10]) (sk' := []) (h' := hx) rfl ?_
                    have key54 : ∀ (n : Nat) (hy : xH) (y : Int) (w9 : Option xV) (w10 : Option xV), (-0 ≤ y) → (y ≤ 1) → (∀ a, a ≠ 94 → a ≠ 95 → hy a = (xup (xup (xup (xup h 66 0 0) 79 150 (h 82 k)) 80 150 (h 83 k)) 81 150 (h 84 k)) a) → (∀ q0, 0 ≤ q0 → q0 < (x + 9) + y + 0 → ¬ (dmU S T 1 k) q0) → ((1 - y).toNat) < n → xEx G0 cdX12_mergedApart (some .int) (xRn G0 MT (d + 22)) Q b 54 [some (.inr (.inr 66)), some (.inl 1), some (.inl k), some (.inl i), some (.inl 0), some (.inl 0), some (.inl x), some (.inl y), w9, w10] [] hy := by
                      intro n
                      induction n with
                      | zero => intro hy y w9 w10 _ _ _ _ hm; exact absurd hm (Nat.not_lt_zero _)
                      | succ n ih54 =>
                        intro hy y w9 w10 hy0 hy9 hfy hny hm54
                        refine E_s 2 (i' := 56) (ls' := [some (.inr (.inr 66)), some (.inl 1), some (.inl k), some (.inl i), some (.inl 0), some (.inl 0), some (.inl x), some (.inl y), w9, w10]) (sk' := [.inl 0, .inl y]) (h' := hy) rfl ?_
                        refine E_b (x := (.if_icmp .gt 121, 114, [], [])) rfl rfl (fun c56 => ?_) (fun c56 => ?_)
                        · rw [c_gt (by first | assumption | (refine ⟨?_, ?_⟩ <;> omega) | (simp only [xr] at *; omega)) (by first | assumption | (refine ⟨?_, ?_⟩ <;> omega) | (simp only [xr] at *; omega))] at c56
                          simp only [decide_eq_true_eq, decide_eq_false_iff_not, Decidable.not_not] at c56
                          show xEx G0 cdX12_mergedApart (some .int) (xRn G0 MT (d + 22)) Q b 114 [some (.inr (.inr 66)), some (.inl 1), some (.inl k), some (.inl i), some (.inl 0), some (.inl 0), some (.inl x), some (.inl y), w9, w10] [] hy
                          refine E_s 2 (i' := 48) (ls' := [some (.inr (.inr 66)), some (.inl 1), some (.inl k), some (.inl i), some (.inl 0), some (.inl 0), some (.inl (x + 1)), some (.inl y), w9, w10]) (sk' := []) (h' := hy) rfl ?_
                          exact ih48 _ (x + 1) _ _ _ (by omega) (by omega) hfy (fun q0 z1 z2 => hny q0 z1 (by omega)) (by omega)
                        · rw [c_gt (by first | assumption | (refine ⟨?_, ?_⟩ <;> omega) | (simp only [xr] at *; omega)) (by first | assumption | (refine ⟨?_, ?_⟩ <;> omega) | (simp only [xr] at *; omega))] at c56
                          simp only [decide_eq_true_eq, decide_eq_false_iff_not, Decidable.not_not] at c56
                          show xEx G0 cdX12_mergedApart (some .int) (xRn G0 MT (d + 22)) Q b 57 [some (.inr (.inr 66)), some (.inl 1), some (.inl k), some (.inl i), some (.inl 0), some (.inl 0), some (.inl x), some (.inl y), w9, w10] [] hy
                          refine E_s 3 (i' := 60) (ls' := [some (.inr (.inr 66)), some (.inl 1), some (.inl k), some (.inl i), some (.inl 0), some (.inl 0), some (.inl x), some (.inl y), some (.inl (-0)), w10]) (sk' := []) (h' := hy) rfl ?_
                          have key60 : ∀ (n : Nat) (hz : xH) (z : Int) (u10 : Option xV), (-0 ≤ z) → (z ≤ 1) → (∀ a, a ≠ 94 → a ≠ 95 → hz a = (xup (xup (xup (xup h 66 0 0) 79 150 (h 82 k)) 80 150 (h 83 k)) 81 150 (h 84 k)) a) → (∀ q0, 0 ≤ q0 → q0 < (x + 9) + y + z → ¬ (dmU S T 1 k) q0) → ((1 - z).toNat) < n → xEx G0 cdX12_mergedApart (some .int) (xRn G0 MT (d + 22)) Q b 60 [some (.inr (.inr 66)), some (.inl 1), some (.inl k), some (.inl i), some (.inl 0), some (.inl 0), some (.inl x), some (.inl y), some (.inl z), u10] [] hz := by
                            intro n
                            induction n with
                            | zero => intro hz z u10 _ _ _ _ hm; exact absurd hm (Nat.not_lt_zero _)
                            | succ n ih60 =>
                              intro hz z u10 hz0 hz9 hfz hnz hm60
                              refine E_s 2 (i' := 62) (ls' := [some (.inr (.inr 66)), some (.inl 1), some (.inl k), some (.inl i), some (.inl 0), some (.inl 0), some (.inl x), some (.inl y), some (.inl z), u10]) (sk' := [.inl 0, .inl z]) (h' := hz) rfl ?_
                              refine E_b (x := (.if_icmp .gt 103, 112, [], [])) rfl rfl (fun c62 => ?_) (fun c62 => ?_)
                              · rw [c_gt (by first | assumption | (refine ⟨?_, ?_⟩ <;> omega) | (simp only [xr] at *; omega)) (by first | assumption | (refine ⟨?_, ?_⟩ <;> omega) | (simp only [xr] at *; omega))] at c62
                                simp only [decide_eq_true_eq, decide_eq_false_iff_not, Decidable.not_not] at c62
                                show xEx G0 cdX12_mergedApart (some .int) (xRn G0 MT (d + 22)) Q b 112 [some (.inr (.inr 66)), some (.inl 1), some (.inl k), some (.inl i), some (.inl 0), some (.inl 0), some (.inl x), some (.inl y), some (.inl z), u10] [] hz
                                refine E_s 2 (i' := 54) (ls' := [some (.inr (.inr 66)), some (.inl 1), some (.inl k), some (.inl i), some (.inl 0), some (.inl 0), some (.inl x), some (.inl (y + 1)), some (.inl z), u10]) (sk' := []) (h' := hz) rfl ?_
                                exact ih54 _ (y + 1) _ _ (by omega) (by omega) hfz (fun q0 z1 z2 => hnz q0 z1 (by omega)) (by omega)
                              · rw [c_gt (by first | assumption | (refine ⟨?_, ?_⟩ <;> omega) | (simp only [xr] at *; omega)) (by first | assumption | (refine ⟨?_, ?_⟩ <;> omega) | (simp only [xr] at *; omega))] at c62
                                simp only [decide_eq_true_eq, decide_eq_false_iff_not, Decidable.not_not] at c62
                                show xEx G0 cdX12_mergedApart (some .int) (xRn G0 MT (d + 22)) Q b 63 [some (.inr (.inr 66)), some (.inl 1), some (.inl k), some (.inl i), some (.inl 0), some (.inl 0), some (.inl x), some (.inl y), some (.inl z), u10] [] hz
                                refine E_s 4 (i' := 67) (ls' := [some (.inr (.inr 66)), some (.inl 1), some (.inl k), some (.inl i), some (.inl 0), some (.inl 0), some (.inl x), some (.inl y), some (.inl z), u10]) (sk' := [.inl z, .inl y, .inl x, .inr (.inr 66)]) (h' := hz) rfl ?_
                                refine E_cv (x := (.invokevirtual 309, 3, [(10, 198)], [0])) (q := fun h9 => (∀ a, a ≠ 94 → a ≠ 95 → h9 a = hz a) ∧ (∀ k, 0 ≤ k → k < S 0 0 → h9 94 k = VE S (pX x y z) k) ∧ (∀ t, 0 ≤ t → t < T 0 0 → h9 95 t = VU S T (pX x y z) t)) rfl rfl (Nat.le_of_ble_eq_true rfl) (m_reckons (d + 18) 0 hz S T x y z n0 wt ⟨by omega, by omega⟩ ⟨by omega, by omega⟩ ⟨by omega, by omega⟩ (RR_vh hfz hR1) (RRT_vh hfz hRT1) hF hT h3 h4 (fun h9 z1 z2 z3 => ⟨rfl, z1, z2, z3⟩)) (fun h1 hq => ?_)
                                obtain ⟨f1, f2, f3⟩ := hq
                                have xx : xr x := ⟨by omega, by omega⟩
                                have xy : xr y := ⟨by omega, by omega⟩
                                have xz : xr z := ⟨by omega, by omega⟩
                                show xEx G0 cdX12_mergedApart (some .int) (xRn G0 MT (d + 22)) Q b 68 [some (.inr (.inr 66)), some (.inl 1), some (.inl k), some (.inl i), some (.inl 0), some (.inl 0), some (.inl x), some (.inl y), some (.inl z), u10] [] h1
                                refine E_s 1 (i' := 69) (ls' := [some (.inr (.inr 66)), some (.inl 1), some (.inl k), some (.inl i), some (.inl 0), some (.inl 0), some (.inl x), some (.inl y), some (.inl z), u10]) (sk' := [.inl 1]) (h' := h1) rfl ?_
                                refine E_b (x := (.ifCond .eq 27, 82, [], [])) rfl rfl (fun c69 => ?_) (fun c69 => ?_)
                                · show xEx G0 cdX12_mergedApart (some .int) (xRn G0 MT (d + 22)) Q b 82 [some (.inr (.inr 66)), some (.inl 1), some (.inl k), some (.inl i), some (.inl 0), some (.inl 0), some (.inl x), some (.inl y), some (.inl z), u10] [] h1
                                  exact absurd c69 (by decide)
                                · show xEx G0 cdX12_mergedApart (some .int) (xRn G0 MT (d + 22)) Q b 70 [some (.inr (.inr 66)), some (.inl 1), some (.inl k), some (.inl i), some (.inl 0), some (.inl 0), some (.inl x), some (.inl y), some (.inl z), u10] [] h1
                                  refine E_s 2 (i' := 72) (ls' := [some (.inr (.inr 66)), some (.inl 1), some (.inl k), some (.inl i), some (.inl 0), some (.inl 0), some (.inl x), some (.inl y), some (.inl z), u10]) (sk' := [.inl 150, .inr (.inr 66)]) (h' := h1) rfl ?_
                                  obtain ⟨yz, -, cz⟩ := (hT k hk2.1 hk2.2).2.2.2.2.2 h7
                                  have ch := tw_ch hT (Int.le_refl _) cz
                                  obtain ⟨b1, b2, b3⟩ := (hRT.2.2.2 k hk2.1 hk2.2).2.2.2.2.2.2 h7
                                  have i1 : h1 79 150 = T 8 k := by rw [f1 _ (by decide) (by decide), hfz _ (by decide) (by decide)]; exact b1
                                  have i2 : h1 80 150 = T 9 k := by rw [f1 _ (by decide) (by decide), hfz _ (by decide) (by decide)]; exact b2
                                  have i3 : h1 81 150 = otT (T 8 k) (T 10 k) := by rw [f1 _ (by decide) (by decide), hfz _ (by decide) (by decide)]; exact b3
                                  have rr : ∀ j, 0 ≤ j → j < S 0 0 → h1 94 j = VE S (pX x y z) j ∧ xr (VE S (pX x y z) j) := fun j z1 z2 => ⟨f2 j z1 z2, VE_r hF (pX_r xx xy xz) 300 j z1 z2⟩
                                  refine E_cp (x := (.invokevirtual 303, 1, [(10, 197)], [0])) (q := fun r h9 => w32 r = fU S T (pX x y z) (h1 79 150) (h1 80 150) (T 10 k) ∧ h1 = h9) rfl rfl (Nat.le_of_ble_eq_true rfl) (m_holdsNow (d + 21) 0 h1 S T 150 x y z (T 10 k) ⟨by decide, by decide⟩ (fun z9 => by rw [i3]; unfold otT; rw [if_neg (by omega)]) (by rw [i1, i2]; omega) (fun z9 => by rw [i2]; exact rr _ (by omega) (by omega)) (fun z9 => rr _ (by omega) (by omega)) (fun z9 => by rw [i2]; exact f3 _ (by omega) (by omega)) (fun z9 => f3 _ (by omega) (by omega)) (fun v hv => ⟨v, rfl, hv, rfl⟩)) (fun r9 h9 hv9 => ?_)
                                  obtain ⟨hv9, rfl⟩ := hv9
                                  rw [i1, i2] at hv9
                                  show xEx G0 cdX12_mergedApart (some .int) (xRn G0 MT (d + 22)) Q b 73 [some (.inr (.inr 66)), some (.inl 1), some (.inl k), some (.inl i), some (.inl 0), some (.inl 0), some (.inl x), some (.inl y), some (.inl z), u10] [.inl r9] h1
                                  have ub := fU_01 S T (pX x y z) (T 8 k) (T 9 k) (T 10 k)
                                  have g1 := f3 k hk2.1 hk2.2
                                  have uz : VU S T (pX x y z) k = 0 ∨ VU S T (pX x y z) k = 1 := vU_01 S T (pX x y z) 150 k
                                  have ua : xr (h1 95 k) := by rw [g1]; exact ⟨by omega, by omega⟩
                                  refine E_ti (y := (fU S T (pX x y z) (T 8 k) (T 9 k) (T 10 k))) (by rw [hv9, w32_id ⟨by omega, by omega⟩]) ?_
                                  refine E_s 3 (i' := 76) (ls' := [some (.inr (.inr 66)), some (.inl 1), some (.inl k), some (.inl i), some (.inl 0), some (.inl 0), some (.inl x), some (.inl y), some (.inl z), u10]) (sk' := [.inl k, .inr (.inr 95), .inl (fU S T (pX x y z) (T 8 k) (T 9 k) (T 10 k))]) (h' := h1) rfl ?_
                                  refine E_ld (x := (.iaload, 0, [], [])) (ty := .int) (n := 150) rfl rfl rfl (by omega) (by omega) ?_
                                  show xEx G0 cdX12_mergedApart (some .int) (xRn G0 MT (d + 22)) Q b 77 [some (.inr (.inr 66)), some (.inl 1), some (.inl k), some (.inl i), some (.inl 0), some (.inl 0), some (.inl x), some (.inl y), some (.inl z), u10] [.inl (h1 95 k), .inl (fU S T (pX x y z) (T 8 k) (T 9 k) (T 10 k))] h1
                                  refine E_b (x := (.if_icmp .eq 7, 80, [], [])) rfl rfl (fun c77 => ?_) (fun c77 => ?_)
                                  · rw [c_eq (by first | exact ua | exact ⟨by omega, by omega⟩) (by first | exact ua | exact ⟨by omega, by omega⟩)] at c77
                                    simp only [decide_eq_true_eq, decide_eq_false_iff_not, Decidable.not_not] at c77
                                    show xEx G0 cdX12_mergedApart (some .int) (xRn G0 MT (d + 22)) Q b 80 [some (.inr (.inr 66)), some (.inl 1), some (.inl k), some (.inl i), some (.inl 0), some (.inl 0), some (.inl x), some (.inl y), some (.inl z), u10] [] h1
                                    have dd : ¬ (dmU S T 1 k) ((x + 9) + y + z) := by
                                      intro z9
                                      apply z9
                                      rw [pt_1 (by omega) (by omega) (by omega)]
                                      exact g1.symm.trans c77.symm
                                    refine E_s 4 (i' := 98) (ls' := [some (.inr (.inr 66)), some (.inl 1), some (.inl k), some (.inl i), some (.inl 0), some (.inl 0), some (.inl x), some (.inl y), some (.inl z), some (.inl 0)]) (sk' := [.inl 0]) (h' := h1) rfl ?_
                                    refine E_b (x := (.ifCond .eq 25, 110, [], [])) rfl rfl (fun c98 => ?_) (fun c98 => ?_)
                                    · show xEx G0 cdX12_mergedApart (some .int) (xRn G0 MT (d + 22)) Q b 110 [some (.inr (.inr 66)), some (.inl 1), some (.inl k), some (.inl i), some (.inl 0), some (.inl 0), some (.inl x), some (.inl y), some (.inl z), some (.inl 0)] [] h1
                                      refine E_s 2 (i' := 60) (ls' := [some (.inr (.inr 66)), some (.inl 1), some (.inl k), some (.inl i), some (.inl 0), some (.inl 0), some (.inl x), some (.inl y), some (.inl (z + 1)), some (.inl 0)]) (sk' := []) (h' := h1) rfl ?_
                                      exact ih60 _ (z + 1) _ (by omega) (by omega) (fun a z1 z2 => (f1 a z1 z2).trans (hfz a z1 z2)) (fun q0 z1 z2 => by
                                        by_cases z9 : q0 = (x + 9) + y + z
                                        · rw [z9]; exact dd
                                        · exact hnz q0 z1 (by omega)) (by omega)
                                    · show xEx G0 cdX12_mergedApart (some .int) (xRn G0 MT (d + 22)) Q b 99 [some (.inr (.inr 66)), some (.inl 1), some (.inl k), some (.inl i), some (.inl 0), some (.inl 0), some (.inl x), some (.inl y), some (.inl z), some (.inl 0)] [] h1
                                      exact absurd c98 (by decide)
                                  · rw [c_eq (by first | exact ua | exact ⟨by omega, by omega⟩) (by first | exact ua | exact ⟨by omega, by omega⟩)] at c77
                                    simp only [decide_eq_true_eq, decide_eq_false_iff_not, Decidable.not_not] at c77
                                    show xEx G0 cdX12_mergedApart (some .int) (xRn G0 MT (d + 22)) Q b 78 [some (.inr (.inr 66)), some (.inl 1), some (.inl k), some (.inl i), some (.inl 0), some (.inl 0), some (.inl x), some (.inl y), some (.inl z), u10] [] h1
                                    have ddp : (dmU S T 1 k) ((x + 9) + y + z) := by
                                      show ¬ _ = _
                                      rw [pt_1 (by omega) (by omega) (by omega)]
                                      intro z9
                                      exact c77 (z9.symm.trans g1.symm)
                                    refine E_s 4 (i' := 98) (ls' := [some (.inr (.inr 66)), some (.inl 1), some (.inl k), some (.inl i), some (.inl 0), some (.inl 0), some (.inl x), some (.inl y), some (.inl z), some (.inl 1)]) (sk' := [.inl 1]) (h' := h1) rfl ?_
                                    refine E_b (x := (.ifCond .eq 25, 110, [], [])) rfl rfl (fun c98 => ?_) (fun c98 => ?_)
                                    · show xEx G0 cdX12_mergedApart (some .int) (xRn G0 MT (d + 22)) Q b 110 [some (.inr (.inr 66)), some (.inl 1), some (.inl k), some (.inl i), some (.inl 0), some (.inl 0), some (.inl x), some (.inl y), some (.inl z), some (.inl 1)] [] h1
                                      exact absurd c98 (by decide)
                                    · show xEx G0 cdX12_mergedApart (some .int) (xRn G0 MT (d + 22)) Q b 99 [some (.inr (.inr 66)), some (.inl 1), some (.inl k), some (.inl i), some (.inl 0), some (.inl 0), some (.inl x), some (.inl y), some (.inl z), some (.inl 1)] [] h1
                                      refine E_s 1 (i' := 100) (ls' := [some (.inr (.inr 66)), some (.inl 1), some (.inl k), some (.inl i), some (.inl 0), some (.inl 0), some (.inl x), some (.inl y), some (.inl z), some (.inl 1)]) (sk' := [.inl i]) (h' := h1) rfl ?_
                                      refine E_b (x := (.ifCond .ne 8, 103, [], [])) rfl rfl (fun c100 => ?_) (fun c100 => ?_)
                                      · rw [c_ne (by first | assumption | (refine ⟨?_, ?_⟩ <;> omega) | (simp only [xr] at *; omega)) (by first | assumption | (refine ⟨?_, ?_⟩ <;> omega) | (simp only [xr] at *; omega))] at c100
                                        simp only [decide_eq_true_eq, decide_eq_false_iff_not, Decidable.not_not] at c100
                                        show xEx G0 cdX12_mergedApart (some .int) (xRn G0 MT (d + 22)) Q b 103 [some (.inr (.inr 66)), some (.inl 1), some (.inl k), some (.inl i), some (.inl 0), some (.inl 0), some (.inl x), some (.inl y), some (.inl z), some (.inl 1)] [] h1
                                        refine E_s 2 (i' := 105) (ls' := [some (.inr (.inr 66)), some (.inl 1), some (.inl k), some (.inl i), some (.inl 0), some (.inl 0), some (.inl x), some (.inl y), some (.inl z), some (.inl 1)]) (sk' := [.inl 1, .inl i]) (h' := h1) rfl ?_
                                        refine E_b (x := (.if_icmp .ne 8, 108, [], [])) rfl rfl (fun c105 => ?_) (fun c105 => ?_)
                                        · rw [c_ne (by first | assumption | (refine ⟨?_, ?_⟩ <;> omega) | (simp only [xr] at *; omega)) (by first | assumption | (refine ⟨?_, ?_⟩ <;> omega) | (simp only [xr] at *; omega))] at c105
                                          simp only [decide_eq_true_eq, decide_eq_false_iff_not, Decidable.not_not] at c105
                                          show xEx G0 cdX12_mergedApart (some .int) (xRn G0 MT (d + 22)) Q b 108 [some (.inr (.inr 66)), some (.inl 1), some (.inl k), some (.inl i), some (.inl 0), some (.inl 0), some (.inl x), some (.inl y), some (.inl z), some (.inl 1)] [] h1
                                          refine E_s 1 (i' := 109) (ls' := [some (.inr (.inr 66)), some (.inl 1), some (.inl k), some (.inl i), some (.inl 0), some (.inl 0), some (.inl x), some (.inl y), some (.inl z), some (.inl 1)]) (sk' := [.inl z]) (h' := h1) rfl ?_
                                          exact E_ret (x := (.ireturn, 0, [], [])) (v := some (.inl z)) rfl (Or.inl rfl) (by
                                            have r9 := hF9 kk h7 ((x + 9) + y + z) (by omega) (by simp [ptN]; omega) ddp hnz _ (fun a z1 z2 => (f1 a z1 z2).trans (hfz a z1 z2))
                                            rw [pt_1 (by omega) (by omega) (by omega)] at r9
                                            have e9 : pX x y z i = z := by unfold pX; rw [if_neg (by omega), if_neg (by omega)]
                                            rw [e9] at r9
                                            exact r9)
                                        · rw [c_ne (by first | assumption | (refine ⟨?_, ?_⟩ <;> omega) | (simp only [xr] at *; omega)) (by first | assumption | (refine ⟨?_, ?_⟩ <;> omega) | (simp only [xr] at *; omega))] at c105
                                          simp only [decide_eq_true_eq, decide_eq_false_iff_not, Decidable.not_not] at c105
                                          show xEx G0 cdX12_mergedApart (some .int) (xRn G0 MT (d + 22)) Q b 106 [some (.inr (.inr 66)), some (.inl 1), some (.inl k), some (.inl i), some (.inl 0), some (.inl 0), some (.inl x), some (.inl y), some (.inl z), some (.inl 1)] [] h1
                                          refine E_s 2 (i' := 109) (ls' := [some (.inr (.inr 66)), some (.inl 1), some (.inl k), some (.inl i), some (.inl 0), some (.inl 0), some (.inl x), some (.inl y), some (.inl z), some (.inl 1)]) (sk' := [.inl y]) (h' := h1) rfl ?_
                                          exact E_ret (x := (.ireturn, 0, [], [])) (v := some (.inl y)) rfl (Or.inl rfl) (by
                                            have r9 := hF9 kk h7 ((x + 9) + y + z) (by omega) (by simp [ptN]; omega) ddp hnz _ (fun a z1 z2 => (f1 a z1 z2).trans (hfz a z1 z2))
                                            rw [pt_1 (by omega) (by omega) (by omega)] at r9
                                            have e9 : pX x y z i = y := by unfold pX; rw [if_neg (by omega), if_pos (by omega)]
                                            rw [e9] at r9
                                            exact r9)
                                      · rw [c_ne (by first | assumption | (refine ⟨?_, ?_⟩ <;> omega) | (simp only [xr] at *; omega)) (by first | assumption | (refine ⟨?_, ?_⟩ <;> omega) | (simp only [xr] at *; omega))] at c100
                                        simp only [decide_eq_true_eq, decide_eq_false_iff_not, Decidable.not_not] at c100
                                        show xEx G0 cdX12_mergedApart (some .int) (xRn G0 MT (d + 22)) Q b 101 [some (.inr (.inr 66)), some (.inl 1), some (.inl k), some (.inl i), some (.inl 0), some (.inl 0), some (.inl x), some (.inl y), some (.inl z), some (.inl 1)] [] h1
                                        refine E_s 2 (i' := 109) (ls' := [some (.inr (.inr 66)), some (.inl 1), some (.inl k), some (.inl i), some (.inl 0), some (.inl 0), some (.inl x), some (.inl y), some (.inl z), some (.inl 1)]) (sk' := [.inl x]) (h' := h1) rfl ?_
                                        exact E_ret (x := (.ireturn, 0, [], [])) (v := some (.inl x)) rfl (Or.inl rfl) (by
                                          have r9 := hF9 kk h7 ((x + 9) + y + z) (by omega) (by simp [ptN]; omega) ddp hnz _ (fun a z1 z2 => (f1 a z1 z2).trans (hfz a z1 z2))
                                          rw [pt_1 (by omega) (by omega) (by omega)] at r9
                                          have e9 : pX x y z i = x := by unfold pX; rw [if_pos (by omega)]
                                          rw [e9] at r9
                                          exact r9)
                          exact key60 _ _ (-0) _ (by omega) (by omega) hfy (fun q0 z1 z2 => hny q0 z1 (by omega)) (Nat.lt_succ_self _)
                    exact key54 _ _ (-0) _ _ (by omega) (by omega) hfx (fun q0 z1 z2 => hnx q0 z1 (by omega)) (Nat.lt_succ_self _)
              exact key48 _ _ (-9) none none none (by omega) (by omega) (fun _ _ _ => rfl) (fun q0 z1 z2 => by omega) (Nat.lt_succ_self _)
            · rw [c_le (by first | assumption | (refine ⟨?_, ?_⟩ <;> omega) | (simp only [xr] at *; omega)) (by first | assumption | (refine ⟨?_, ?_⟩ <;> omega) | (simp only [xr] at *; omega))] at c41
              simp only [decide_eq_true_eq, decide_eq_false_iff_not, Decidable.not_not] at c41
              show xEx G0 cdX12_mergedApart (some .int) (xRn G0 MT (d + 22)) Q b 42 [some (.inr (.inr 66)), some (.inl 1), some (.inl k), some (.inl i), some (.inl 0), none, none, none, none, none] [] (xup (xup (xup (xup h 66 0 0) 79 150 (h 82 k)) 80 150 (h 83 k)) 81 150 (h 84 k))
              omega
          · rw [c_le (by first | assumption | (refine ⟨?_, ?_⟩ <;> omega) | (simp only [xr] at *; omega)) (by first | assumption | (refine ⟨?_, ?_⟩ <;> omega) | (simp only [xr] at *; omega))] at c33
            simp only [decide_eq_true_eq, decide_eq_false_iff_not, Decidable.not_not] at c33
            show xEx G0 cdX12_mergedApart (some .int) (xRn G0 MT (d + 22)) Q b 34 [some (.inr (.inr 66)), some (.inl 1), some (.inl k), some (.inl i), none, none, none, none, none, none] [] (xup (xup (xup (xup h 66 0 0) 79 150 (h 82 k)) 80 150 (h 83 k)) 81 150 (h 84 k))
            omega
        · rw [c_ne (by first | assumption | (refine ⟨?_, ?_⟩ <;> omega) | (simp only [xr] at *; omega)) (by first | assumption | (refine ⟨?_, ?_⟩ <;> omega) | (simp only [xr] at *; omega))] at c22
          simp only [decide_eq_true_eq, decide_eq_false_iff_not, Decidable.not_not] at c22
          show xEx G0 cdX12_mergedApart (some .int) (xRn G0 MT (d + 22)) Q b 23 [some (.inr (.inr 66)), some (.inl 1), some (.inl k), some (.inl i), none, none, none, none, none, none] [] g1
          obtain ⟨z0, rfl⟩ : h 86 k = 0 ∧ g1 = xup h 66 0 0 := by
            rcases hq4 with ⟨-, a, b⟩ | ⟨a, -⟩
            · exact ⟨a, b⟩
            · omega
          refine E_s 2 (i' := 25) (ls' := [some (.inr (.inr 66)), some (.inl 1), some (.inl k), some (.inl i), none, none, none, none, none, none]) (sk' := [.inl 0]) (h' := (xup h 66 0 0)) rfl ?_
          refine E_b (x := (.ifCond .le 7, 28, [], [])) rfl rfl (fun c25 => ?_) (fun c25 => ?_)
          · show xEx G0 cdX12_mergedApart (some .int) (xRn G0 MT (d + 22)) Q b 28 [some (.inr (.inr 66)), some (.inl 1), some (.inl k), some (.inl i), none, none, none, none, none, none] [] (xup h 66 0 0)
            refine E_s 1 (i' := 29) (ls' := [some (.inr (.inr 66)), some (.inl 1), some (.inl k), some (.inl i), none, none, none, none, none, none]) (sk' := [.inl (-100)]) (h' := (xup h 66 0 0)) rfl ?_
            exact E_ret (x := (.ireturn, 0, [], [])) (v := some (.inl (-100))) rfl (Or.inl rfl) (hZ kk (by rw [← e7]; exact z0))
          · show xEx G0 cdX12_mergedApart (some .int) (xRn G0 MT (d + 22)) Q b 26 [some (.inr (.inr 66)), some (.inl 1), some (.inl k), some (.inl i), none, none, none, none, none, none] [] (xup h 66 0 0)
            exact absurd c25 (by decide)
    · rw [c_ne (by first | assumption | (refine ⟨?_, ?_⟩ <;> omega) | (simp only [xr] at *; omega)) (by first | assumption | (refine ⟨?_, ?_⟩ <;> omega) | (simp only [xr] at *; omega))] at c10
      simp only [decide_eq_true_eq, decide_eq_false_iff_not, Decidable.not_not] at c10
      show xEx G0 cdX12_mergedApart (some .int) (xRn G0 MT (d + 22)) Q b 11 [some (.inr (.inr 66)), some (.inl 1), some (.inl k), some (.inl i), none, none, none, none, none, none] [.inr (.inr 66)] h
      refine E_s 5 (i' := 17) (ls' := [some (.inr (.inr 66)), some (.inl 1), some (.inl k), some (.inl i), none, none, none, none, none, none]) (sk' := [.inl 1]) (h' := (xup h 66 0 1)) rfl ?_
      refine E_b (x := (.ifCond .gt 12, 23, [], [])) rfl rfl (fun c17 => ?_) (fun c17 => ?_)
      · show xEx G0 cdX12_mergedApart (some .int) (xRn G0 MT (d + 22)) Q b 23 [some (.inr (.inr 66)), some (.inl 1), some (.inl k), some (.inl i), none, none, none, none, none, none] [] (xup h 66 0 1)
        
        refine E_s 2 (i' := 25) (ls' := [some (.inr (.inr 66)), some (.inl 1), some (.inl k), some (.inl i), none, none, none, none, none, none]) (sk' := [.inl 1]) (h' := (xup h 66 0 1)) rfl ?_
        refine E_b (x := (.ifCond .le 7, 28, [], [])) rfl rfl (fun c25 => ?_) (fun c25 => ?_)
        · show xEx G0 cdX12_mergedApart (some .int) (xRn G0 MT (d + 22)) Q b 28 [some (.inr (.inr 66)), some (.inl 1), some (.inl k), some (.inl i), none, none, none, none, none, none] [] (xup h 66 0 1)
          exact absurd c25 (by decide)
        · show xEx G0 cdX12_mergedApart (some .int) (xRn G0 MT (d + 22)) Q b 26 [some (.inr (.inr 66)), some (.inl 1), some (.inl k), some (.inl i), none, none, none, none, none, none] [] (xup h 66 0 1)
          refine E_s 2 (i' := 29) (ls' := [some (.inr (.inr 66)), some (.inl 1), some (.inl k), some (.inl i), none, none, none, none, none, none]) (sk' := [.inl 0]) (h' := (xup h 66 0 1)) rfl ?_
          exact E_ret (x := (.ireturn, 0, [], [])) (v := some (.inl 0)) rfl (Or.inl rfl) (hN (by omega))
      · show xEx G0 cdX12_mergedApart (some .int) (xRn G0 MT (d + 22)) Q b 18 [some (.inr (.inr 66)), some (.inl 1), some (.inl k), some (.inl i), none, none, none, none, none, none] [] (xup h 66 0 1)
        exact absurd c17 (by decide)
set_option maxHeartbeats 1000000 in
theorem m_mapart1_2 (d b : Nat) (h S T : xH) (k i n0 : Int) (wt : Int → Int) (hk : xr k) (hi : xr i) (hm : h 66 1 = 2) (h7r : ∀ k, 0 ≤ k → k < T 0 0 → 0 ≤ T 7 k ∧ T 7 k ≤ 400000) (hR : RR h S) (hRT : RRT h T) (hF : FW n0 wt 9 S) (hT : FWT S 7 T) (h3 : 0 ≤ S 0 0 ∧ S 0 0 ≤ 300) (h4 : 0 ≤ T 0 0 ∧ T 0 0 ≤ 150) (hM1 : 0 ≤ h 66 19 ∧ h 66 19 ≤ 150) {Q : xO → xH → Prop} (hN : ¬ ((0 ≤ k ∧ k < h 66 19) ∧ (0 ≤ i ∧ i ≤ 2)) → Q (.inl (some (.inl (0)))) (xup h 66 0 1)) (hZ : ((0 ≤ k ∧ k < h 66 19) ∧ (0 ≤ i ∧ i ≤ 2)) → T 7 k = 0 → Q (.inl (some (.inl (-100)))) (xup h 66 0 0)) (hF9 : ((0 ≤ k ∧ k < h 66 19) ∧ (0 ≤ i ∧ i ≤ 2)) → T 7 k ≠ 0 → ∀ p, 0 ≤ p → p < ptN 2 → (dmU S T 2 k) p → (∀ q, 0 ≤ q → q < p → ¬ (dmU S T 2 k) q) → ∀ h', (∀ a, a ≠ 94 → a ≠ 95 → h' a = (xup (xup (xup (xup h 66 0 0) 79 150 (h 82 k)) 80 150 (h 83 k)) 81 150 (h 84 k)) a) → Q (.inl (some (.inl (ptX 2 p i)))) h') (hG : ((0 ≤ k ∧ k < h 66 19) ∧ (0 ≤ i ∧ i ≤ 2)) → T 7 k ≠ 0 → (∀ q, 0 ≤ q → q < ptN 2 → ¬ (dmU S T 2 k) q) → ∀ h', (∀ a, a ≠ 94 → a ≠ 95 → h' a = (xup (xup (xup (xup h 66 0 0) 79 150 (h 82 k)) 80 150 (h 83 k)) 81 150 (h 84 k)) a) → Q (.inl (some (.inl (-100)))) h') : xRn G0 MT (d + 23) b 200 [.inr (.inr 66), .inl 1, .inl k, .inl i] h Q := by
  refine R_of (M := mX12_mergedApart) rfl (Nat.le_of_ble_eq_true rfl) ?_
  show xEx G0 cdX12_mergedApart (some .int) (xRn G0 MT (d + 22)) Q b 0 [some (.inr (.inr 66)), some (.inl 1), some (.inl k), some (.inl i), none, none, none, none, none, none] [] h
  refine E_s 4 (i' := 4) (ls' := [some (.inr (.inr 66)), some (.inl 1), some (.inl k), some (.inl i), none, none, none, none, none, none]) (sk' := [.inl k, .inl 1, .inr (.inr 66), .inr (.inr 66)]) (h' := h) rfl ?_
  refine E_cp (x := (.invokevirtual 295, 2, [(10, 193)], [0])) (q := fun r1 h9 => ((r1 = 1 ∧ (0 ≤ k ∧ k < h 66 19)) ∨ (r1 = 0 ∧ ¬ (0 ≤ k ∧ k < h 66 19))) ∧ h = h9) rfl rfl (Nat.le_of_ble_eq_true rfl) (m_isKept1 (d + 20) 0 h k hk hM1 (fun z => ⟨_, rfl, Or.inl ⟨rfl, z⟩, rfl⟩) (fun z => ⟨_, rfl, Or.inr ⟨rfl, z⟩, rfl⟩)) (fun r1 h9 q1 => ?_)
  obtain ⟨q1, rfl⟩ := q1
  show xEx G0 cdX12_mergedApart (some .int) (xRn G0 MT (d + 22)) Q b 5 [some (.inr (.inr 66)), some (.inl 1), some (.inl k), some (.inl i), none, none, none, none, none, none] [.inl r1, .inr (.inr 66)] h
  refine E_b (x := (.ifCond .eq 12, 11, [], [])) rfl rfl (fun c5 => ?_) (fun c5 => ?_)
  · rw [c_eq (by first | assumption | (refine ⟨?_, ?_⟩ <;> omega) | (simp only [xr] at *; omega)) (by first | assumption | (refine ⟨?_, ?_⟩ <;> omega) | (simp only [xr] at *; omega))] at c5
    simp only [decide_eq_true_eq, decide_eq_false_iff_not, Decidable.not_not] at c5
    show xEx G0 cdX12_mergedApart (some .int) (xRn G0 MT (d + 22)) Q b 11 [some (.inr (.inr 66)), some (.inl 1), some (.inl k), some (.inl i), none, none, none, none, none, none] [.inr (.inr 66)] h
    refine E_s 5 (i' := 17) (ls' := [some (.inr (.inr 66)), some (.inl 1), some (.inl k), some (.inl i), none, none, none, none, none, none]) (sk' := [.inl 1]) (h' := (xup h 66 0 1)) rfl ?_
    refine E_b (x := (.ifCond .gt 12, 23, [], [])) rfl rfl (fun c17 => ?_) (fun c17 => ?_)
    · show xEx G0 cdX12_mergedApart (some .int) (xRn G0 MT (d + 22)) Q b 23 [some (.inr (.inr 66)), some (.inl 1), some (.inl k), some (.inl i), none, none, none, none, none, none] [] (xup h 66 0 1)
      
      refine E_s 2 (i' := 25) (ls' := [some (.inr (.inr 66)), some (.inl 1), some (.inl k), some (.inl i), none, none, none, none, none, none]) (sk' := [.inl 1]) (h' := (xup h 66 0 1)) rfl ?_
      refine E_b (x := (.ifCond .le 7, 28, [], [])) rfl rfl (fun c25 => ?_) (fun c25 => ?_)
      · show xEx G0 cdX12_mergedApart (some .int) (xRn G0 MT (d + 22)) Q b 28 [some (.inr (.inr 66)), some (.inl 1), some (.inl k), some (.inl i), none, none, none, none, none, none] [] (xup h 66 0 1)
        exact absurd c25 (by decide)
      · show xEx G0 cdX12_mergedApart (some .int) (xRn G0 MT (d + 22)) Q b 26 [some (.inr (.inr 66)), some (.inl 1), some (.inl k), some (.inl i), none, none, none, none, none, none] [] (xup h 66 0 1)
        refine E_s 2 (i' := 29) (ls' := [some (.inr (.inr 66)), some (.inl 1), some (.inl k), some (.inl i), none, none, none, none, none, none]) (sk' := [.inl 0]) (h' := (xup h 66 0 1)) rfl ?_
        exact E_ret (x := (.ireturn, 0, [], [])) (v := some (.inl 0)) rfl (Or.inl rfl) (hN (by omega))
    · show xEx G0 cdX12_mergedApart (some .int) (xRn G0 MT (d + 22)) Q b 18 [some (.inr (.inr 66)), some (.inl 1), some (.inl k), some (.inl i), none, none, none, none, none, none] [] (xup h 66 0 1)
      exact absurd c17 (by decide)
  · rw [c_eq (by first | assumption | (refine ⟨?_, ?_⟩ <;> omega) | (simp only [xr] at *; omega)) (by first | assumption | (refine ⟨?_, ?_⟩ <;> omega) | (simp only [xr] at *; omega))] at c5
    simp only [decide_eq_true_eq, decide_eq_false_iff_not, Decidable.not_not] at c5
    show xEx G0 cdX12_mergedApart (some .int) (xRn G0 MT (d + 22)) Q b 6 [some (.inr (.inr 66)), some (.inl 1), some (.inl k), some (.inl i), none, none, none, none, none, none] [.inr (.inr 66)] h
    refine E_s 3 (i' := 9) (ls' := [some (.inr (.inr 66)), some (.inl 1), some (.inl k), some (.inl i), none, none, none, none, none, none]) (sk' := [.inl 2, .inl 0, .inl i, .inr (.inr 66)]) (h' := h) rfl ?_
    refine E_cp (x := (.invokestatic 180, 3, [(0, 155)], [])) (q := fun r2 h9 => ((r2 = 1 ∧ (0 ≤ i ∧ i ≤ 2)) ∨ (r2 = 0 ∧ ¬ (0 ≤ i ∧ i ≤ 2))) ∧ h = h9) rfl rfl (Nat.le_of_ble_eq_true rfl) (m_isIn (d + 21) 0 (h) i 0 2 hi ⟨by omega, by omega⟩ ⟨by omega, by omega⟩ (fun z => ⟨_, rfl, Or.inl ⟨rfl, z⟩, rfl⟩) (fun z => ⟨_, rfl, Or.inr ⟨rfl, z⟩, rfl⟩)) (fun r2 h9 q2 => ?_)
    obtain ⟨q2, rfl⟩ := q2
    show xEx G0 cdX12_mergedApart (some .int) (xRn G0 MT (d + 22)) Q b 10 [some (.inr (.inr 66)), some (.inl 1), some (.inl k), some (.inl i), none, none, none, none, none, none] [.inl r2, .inr (.inr 66)] h
    refine E_b (x := (.ifCond .ne 7, 13, [], [])) rfl rfl (fun c10 => ?_) (fun c10 => ?_)
    · rw [c_ne (by first | assumption | (refine ⟨?_, ?_⟩ <;> omega) | (simp only [xr] at *; omega)) (by first | assumption | (refine ⟨?_, ?_⟩ <;> omega) | (simp only [xr] at *; omega))] at c10
      simp only [decide_eq_true_eq, decide_eq_false_iff_not, Decidable.not_not] at c10
      show xEx G0 cdX12_mergedApart (some .int) (xRn G0 MT (d + 22)) Q b 13 [some (.inr (.inr 66)), some (.inl 1), some (.inl k), some (.inl i), none, none, none, none, none, none] [.inr (.inr 66)] h
      refine E_s 4 (i' := 17) (ls' := [some (.inr (.inr 66)), some (.inl 1), some (.inl k), some (.inl i), none, none, none, none, none, none]) (sk' := [.inl 0]) (h' := (xup h 66 0 0)) rfl ?_
      refine E_b (x := (.ifCond .gt 12, 23, [], [])) rfl rfl (fun c17 => ?_) (fun c17 => ?_)
      · show xEx G0 cdX12_mergedApart (some .int) (xRn G0 MT (d + 22)) Q b 23 [some (.inr (.inr 66)), some (.inl 1), some (.inl k), some (.inl i), none, none, none, none, none, none] [] (xup h 66 0 0)
        exact absurd c17 (by decide)
      · show xEx G0 cdX12_mergedApart (some .int) (xRn G0 MT (d + 22)) Q b 18 [some (.inr (.inr 66)), some (.inl 1), some (.inl k), some (.inl i), none, none, none, none, none, none] [] (xup h 66 0 0)
        refine E_s 3 (i' := 21) (ls' := [some (.inr (.inr 66)), some (.inl 1), some (.inl k), some (.inl i), none, none, none, none, none, none]) (sk' := [.inl k, .inl 1, .inr (.inr 66)]) (h' := (xup h 66 0 0)) rfl ?_
        have kk : (0 ≤ k ∧ k < h 66 19) ∧ (0 ≤ i ∧ i ≤ 2) := by omega
        have hk2 : 0 ≤ k ∧ k < T 0 0 := by rw [← hRT.1]; exact kk.1
        have e7 : h 86 k = T 7 k := (hRT.2.2.2 k hk2.1 hk2.2).2.2.2.2.2.1
        have r7 := h7r k hk2.1 hk2.2
        refine E_cp (x := (.invokevirtual 306, 2, [(10, 199)], [0])) (q := fun r h9 => (r = 0 ∧ h 86 k = 0 ∧ h9 = xup h 66 0 0) ∨ (r = 1 ∧ h 86 k ≠ 0 ∧ h9 = xup (xup (xup (xup h 66 0 0) 79 150 (h 82 k)) 80 150 (h 83 k)) 81 150 (h 84 k))) rfl rfl (Nat.le_of_ble_eq_true rfl) (m_laysM1 (d + 21) 0 (xup h 66 0 0) k ⟨by omega, by omega⟩ (show xr (h 86 k) by rw [e7]; exact ⟨by omega, by omega⟩) (fun z9 => ⟨_, rfl, Or.inl ⟨rfl, z9, rfl⟩⟩) (fun z9 => ⟨_, rfl, Or.inr ⟨rfl, z9, rfl⟩⟩)) (fun r4 g1 hq4 => ?_)
        show xEx G0 cdX12_mergedApart (some .int) (xRn G0 MT (d + 22)) Q b 22 [some (.inr (.inr 66)), some (.inl 1), some (.inl k), some (.inl i), none, none, none, none, none, none] [.inl r4] g1
        refine E_b (x := (.ifCond .ne 17, 30, [], [])) rfl rfl (fun c22 => ?_) (fun c22 => ?_)
        · rw [c_ne (by first | assumption | (refine ⟨?_, ?_⟩ <;> omega) | (simp only [xr] at *; omega)) (by first | assumption | (refine ⟨?_, ?_⟩ <;> omega) | (simp only [xr] at *; omega))] at c22
          simp only [decide_eq_true_eq, decide_eq_false_iff_not, Decidable.not_not] at c22
          show xEx G0 cdX12_mergedApart (some .int) (xRn G0 MT (d + 22)) Q b 30 [some (.inr (.inr 66)), some (.inl 1), some (.inl k), some (.inl i), none, none, none, none, none, none] [] g1
          obtain ⟨h7, rfl⟩ : h 86 k ≠ 0 ∧ g1 = xup (xup (xup (xup h 66 0 0) 79 150 (h 82 k)) 80 150 (h 83 k)) 81 150 (h 84 k) := by
            rcases hq4 with ⟨a, -⟩ | ⟨-, a, b⟩
            · omega
            · exact ⟨a, b⟩
          rw [e7] at h7
          have fmb : FM h (xup (xup (xup (xup h 66 0 0) 79 150 (h 82 k)) 80 150 (h 83 k)) 81 150 (h 84 k)) := (FM_u3 (FM_u3 (FM_u3 ((FM.rf h).up (Or.inr ⟨rfl, by unfold mdf; decide⟩)) (Or.inr ⟨by decide, by decide⟩)) (Or.inr ⟨by decide, by decide⟩)) (Or.inr ⟨by decide, by decide⟩))
          obtain ⟨hR1, hRT1⟩ := RR_FM h3.2 h4.2 fmb hR hRT
          refine E_s 3 (i' := 33) (ls' := [some (.inr (.inr 66)), some (.inl 1), some (.inl k), some (.inl i), none, none, none, none, none, none]) (sk' := [.inl 1, .inl (h 66 1)]) (h' := (xup (xup (xup (xup h 66 0 0) 79 150 (h 82 k)) 80 150 (h 83 k)) 81 150 (h 84 k))) rfl ?_
          refine E_b (x := (.if_icmp .le 8, 36, [], [])) rfl rfl (fun c33 => ?_) (fun c33 => ?_)
          · rw [c_le (by first | assumption | (refine ⟨?_, ?_⟩ <;> omega) | (simp only [xr] at *; omega)) (by first | assumption | (refine ⟨?_, ?_⟩ <;> omega) | (simp only [xr] at *; omega))] at c33
            simp only [decide_eq_true_eq, decide_eq_false_iff_not, Decidable.not_not] at c33
            show xEx G0 cdX12_mergedApart (some .int) (xRn G0 MT (d + 22)) Q b 36 [some (.inr (.inr 66)), some (.inl 1), some (.inl k), some (.inl i), none, none, none, none, none, none] [] (xup (xup (xup (xup h 66 0 0) 79 150 (h 82 k)) 80 150 (h 83 k)) 81 150 (h 84 k))
            omega
          · rw [c_le (by first | assumption | (refine ⟨?_, ?_⟩ <;> omega) | (simp only [xr] at *; omega)) (by first | assumption | (refine ⟨?_, ?_⟩ <;> omega) | (simp only [xr] at *; omega))] at c33
            simp only [decide_eq_true_eq, decide_eq_false_iff_not, Decidable.not_not] at c33
            show xEx G0 cdX12_mergedApart (some .int) (xRn G0 MT (d + 22)) Q b 34 [some (.inr (.inr 66)), some (.inl 1), some (.inl k), some (.inl i), none, none, none, none, none, none] [] (xup (xup (xup (xup h 66 0 0) 79 150 (h 82 k)) 80 150 (h 83 k)) 81 150 (h 84 k))
            refine E_s 6 (i' := 41) (ls' := [some (.inr (.inr 66)), some (.inl 1), some (.inl k), some (.inl i), some (.inl 9), none, none, none, none, none]) (sk' := [.inl 2, .inl (h 66 1)]) (h' := (xup (xup (xup (xup h 66 0 0) 79 150 (h 82 k)) 80 150 (h 83 k)) 81 150 (h 84 k))) rfl ?_
            refine E_b (x := (.if_icmp .le 8, 44, [], [])) rfl rfl (fun c41 => ?_) (fun c41 => ?_)
            · rw [c_le (by first | assumption | (refine ⟨?_, ?_⟩ <;> omega) | (simp only [xr] at *; omega)) (by first | assumption | (refine ⟨?_, ?_⟩ <;> omega) | (simp only [xr] at *; omega))] at c41
              simp only [decide_eq_true_eq, decide_eq_false_iff_not, Decidable.not_not] at c41
              show xEx G0 cdX12_mergedApart (some .int) (xRn G0 MT (d + 22)) Q b 44 [some (.inr (.inr 66)), some (.inl 1), some (.inl k), some (.inl i), some (.inl 9), none, none, none, none, none] [] (xup (xup (xup (xup h 66 0 0) 79 150 (h 82 k)) 80 150 (h 83 k)) 81 150 (h 84 k))
              refine E_s 4 (i' := 48) (ls' := [some (.inr (.inr 66)), some (.inl 1), some (.inl k), some (.inl i), some (.inl 9), some (.inl 0), some (.inl (-9)), none, none, none]) (sk' := []) (h' := (xup (xup (xup (xup h 66 0 0) 79 150 (h 82 k)) 80 150 (h 83 k)) 81 150 (h 84 k))) rfl ?_
              have key48 : ∀ (n : Nat) (hx : xH) (x : Int) (v8 v9 : Option xV) (v10 : Option xV), (-9 ≤ x) → (x ≤ 10) → (∀ a, a ≠ 94 → a ≠ 95 → hx a = (xup (xup (xup (xup h 66 0 0) 79 150 (h 82 k)) 80 150 (h 83 k)) 81 150 (h 84 k)) a) → (∀ q0, 0 ≤ q0 → q0 < (x + 9) * 19 + 0 + 0 → ¬ (dmU S T 2 k) q0) → ((10 - x).toNat) < n → xEx G0 cdX12_mergedApart (some .int) (xRn G0 MT (d + 22)) Q b 48 [some (.inr (.inr 66)), some (.inl 1), some (.inl k), some (.inl i), some (.inl 9), some (.inl 0), some (.inl x), v8, v9, v10] [] hx := by
                intro n
                induction n with
                | zero => intro hx x v8 v9 v10 _ _ _ _ hm; exact absurd hm (Nat.not_lt_zero _)
                | succ n ih48 =>
                  intro hx x v8 v9 v10 hx0 hx9 hfx hnx hm48
                  refine E_s 2 (i' := 50) (ls' := [some (.inr (.inr 66)), some (.inl 1), some (.inl k), some (.inl i), some (.inl 9), some (.inl 0), some (.inl x), v8, v9, v10]) (sk' := [.inl 9, .inl x]) (h' := hx) rfl ?_
                  refine E_b (x := (.if_icmp .gt 139, 116, [], [])) rfl rfl (fun c50 => ?_) (fun c50 => ?_)
                  · rw [c_gt (by first | assumption | (refine ⟨?_, ?_⟩ <;> omega) | (simp only [xr] at *; omega)) (by first | assumption | (refine ⟨?_, ?_⟩ <;> omega) | (simp only [xr] at *; omega))] at c50
                    simp only [decide_eq_true_eq, decide_eq_false_iff_not, Decidable.not_not] at c50
                    show xEx G0 cdX12_mergedApart (some .int) (xRn G0 MT (d + 22)) Q b 116 [some (.inr (.inr 66)), some (.inl 1), some (.inl k), some (.inl i), some (.inl 9), some (.inl 0), some (.inl x), v8, v9, v10] [] hx
                    refine E_s 1 (i' := 117) (ls' := [some (.inr (.inr 66)), some (.inl 1), some (.inl k), some (.inl i), some (.inl 9), some (.inl 0), some (.inl x), v8, v9, v10]) (sk' := [.inl (-100)]) (h' := hx) rfl ?_
                    exact E_ret (x := (.ireturn, 0, [], [])) (v := some (.inl (-100))) rfl (Or.inl rfl) (hG kk h7 (fun q z1 z2 => hnx q z1 (by simp [ptN] at z2; omega)) _ hfx)
                  · rw [c_gt (by first | assumption | (refine ⟨?_, ?_⟩ <;> omega) | (simp only [xr] at *; omega)) (by first | assumption | (refine ⟨?_, ?_⟩ <;> omega) | (simp only [xr] at *; omega))] at c50
                    simp only [decide_eq_true_eq, decide_eq_false_iff_not, Decidable.not_not] at c50
                    show xEx G0 cdX12_mergedApart (some .int) (xRn G0 MT (d + 22)) Q b 51 [some (.inr (.inr 66)), some (.inl 1), some (.inl k), some (.inl i), some (.inl 9), some (.inl 0), some (.inl x), v8, v9, v10] [] hx
                    refine E_s 3 (i' := 54) (ls' := [some (.inr (.inr 66)), some (.inl 1), some (.inl k), some (.inl i), some (.inl 9), some (.inl 0), some (.inl x), some (.inl (-9)), v9, v10]) (sk' := []) (h' := hx) rfl ?_
                    have key54 : ∀ (n : Nat) (hy : xH) (y : Int) (w9 : Option xV) (w10 : Option xV), (-9 ≤ y) → (y ≤ 10) → (∀ a, a ≠ 94 → a ≠ 95 → hy a = (xup (xup (xup (xup h 66 0 0) 79 150 (h 82 k)) 80 150 (h 83 k)) 81 150 (h 84 k)) a) → (∀ q0, 0 ≤ q0 → q0 < (x + 9) * 19 + (y + 9) + 0 → ¬ (dmU S T 2 k) q0) → ((10 - y).toNat) < n → xEx G0 cdX12_mergedApart (some .int) (xRn G0 MT (d + 22)) Q b 54 [some (.inr (.inr 66)), some (.inl 1), some (.inl k), some (.inl i), some (.inl 9), some (.inl 0), some (.inl x), some (.inl y), w9, w10] [] hy := by
                      intro n
                      induction n with
                      | zero => intro hy y w9 w10 _ _ _ _ hm; exact absurd hm (Nat.not_lt_zero _)
                      | succ n ih54 =>
                        intro hy y w9 w10 hy0 hy9 hfy hny hm54
                        refine E_s 2 (i' := 56) (ls' := [some (.inr (.inr 66)), some (.inl 1), some (.inl k), some (.inl i), some (.inl 9), some (.inl 0), some (.inl x), some (.inl y), w9, w10]) (sk' := [.inl 9, .inl y]) (h' := hy) rfl ?_
                        refine E_b (x := (.if_icmp .gt 121, 114, [], [])) rfl rfl (fun c56 => ?_) (fun c56 => ?_)
                        · rw [c_gt (by first | assumption | (refine ⟨?_, ?_⟩ <;> omega) | (simp only [xr] at *; omega)) (by first | assumption | (refine ⟨?_, ?_⟩ <;> omega) | (simp only [xr] at *; omega))] at c56
                          simp only [decide_eq_true_eq, decide_eq_false_iff_not, Decidable.not_not] at c56
                          show xEx G0 cdX12_mergedApart (some .int) (xRn G0 MT (d + 22)) Q b 114 [some (.inr (.inr 66)), some (.inl 1), some (.inl k), some (.inl i), some (.inl 9), some (.inl 0), some (.inl x), some (.inl y), w9, w10] [] hy
                          refine E_s 2 (i' := 48) (ls' := [some (.inr (.inr 66)), some (.inl 1), some (.inl k), some (.inl i), some (.inl 9), some (.inl 0), some (.inl (x + 1)), some (.inl y), w9, w10]) (sk' := []) (h' := hy) rfl ?_
                          exact ih48 _ (x + 1) _ _ _ (by omega) (by omega) hfy (fun q0 z1 z2 => hny q0 z1 (by omega)) (by omega)
                        · rw [c_gt (by first | assumption | (refine ⟨?_, ?_⟩ <;> omega) | (simp only [xr] at *; omega)) (by first | assumption | (refine ⟨?_, ?_⟩ <;> omega) | (simp only [xr] at *; omega))] at c56
                          simp only [decide_eq_true_eq, decide_eq_false_iff_not, Decidable.not_not] at c56
                          show xEx G0 cdX12_mergedApart (some .int) (xRn G0 MT (d + 22)) Q b 57 [some (.inr (.inr 66)), some (.inl 1), some (.inl k), some (.inl i), some (.inl 9), some (.inl 0), some (.inl x), some (.inl y), w9, w10] [] hy
                          refine E_s 3 (i' := 60) (ls' := [some (.inr (.inr 66)), some (.inl 1), some (.inl k), some (.inl i), some (.inl 9), some (.inl 0), some (.inl x), some (.inl y), some (.inl (-0)), w10]) (sk' := []) (h' := hy) rfl ?_
                          have key60 : ∀ (n : Nat) (hz : xH) (z : Int) (u10 : Option xV), (-0 ≤ z) → (z ≤ 1) → (∀ a, a ≠ 94 → a ≠ 95 → hz a = (xup (xup (xup (xup h 66 0 0) 79 150 (h 82 k)) 80 150 (h 83 k)) 81 150 (h 84 k)) a) → (∀ q0, 0 ≤ q0 → q0 < (x + 9) * 19 + (y + 9) + z → ¬ (dmU S T 2 k) q0) → ((1 - z).toNat) < n → xEx G0 cdX12_mergedApart (some .int) (xRn G0 MT (d + 22)) Q b 60 [some (.inr (.inr 66)), some (.inl 1), some (.inl k), some (.inl i), some (.inl 9), some (.inl 0), some (.inl x), some (.inl y), some (.inl z), u10] [] hz := by
                            intro n
                            induction n with
                            | zero => intro hz z u10 _ _ _ _ hm; exact absurd hm (Nat.not_lt_zero _)
                            | succ n ih60 =>
                              intro hz z u10 hz0 hz9 hfz hnz hm60
                              refine E_s 2 (i' := 62) (ls' := [some (.inr (.inr 66)), some (.inl 1), some (.inl k), some (.inl i), some (.inl 9), some (.inl 0), some (.inl x), some (.inl y), some (.inl z), u10]) (sk' := [.inl 0, .inl z]) (h' := hz) rfl ?_
                              refine E_b (x := (.if_icmp .gt 103, 112, [], [])) rfl rfl (fun c62 => ?_) (fun c62 => ?_)
                              · rw [c_gt (by first | assumption | (refine ⟨?_, ?_⟩ <;> omega) | (simp only [xr] at *; omega)) (by first | assumption | (refine ⟨?_, ?_⟩ <;> omega) | (simp only [xr] at *; omega))] at c62
                                simp only [decide_eq_true_eq, decide_eq_false_iff_not, Decidable.not_not] at c62
                                show xEx G0 cdX12_mergedApart (some .int) (xRn G0 MT (d + 22)) Q b 112 [some (.inr (.inr 66)), some (.inl 1), some (.inl k), some (.inl i), some (.inl 9), some (.inl 0), some (.inl x), some (.inl y), some (.inl z), u10] [] hz
                                refine E_s 2 (i' := 54) (ls' := [some (.inr (.inr 66)), some (.inl 1), some (.inl k), some (.inl i), some (.inl 9), some (.inl 0), some (.inl x), some (.inl (y + 1)), some (.inl z), u10]) (sk' := []) (h' := hz) rfl ?_
                                exact ih54 _ (y + 1) _ _ (by omega) (by omega) hfz (fun q0 z1 z2 => hnz q0 z1 (by omega)) (by omega)
                              · rw [c_gt (by first | assumption | (refine ⟨?_, ?_⟩ <;> omega) | (simp only [xr] at *; omega)) (by first | assumption | (refine ⟨?_, ?_⟩ <;> omega) | (simp only [xr] at *; omega))] at c62
                                simp only [decide_eq_true_eq, decide_eq_false_iff_not, Decidable.not_not] at c62
                                show xEx G0 cdX12_mergedApart (some .int) (xRn G0 MT (d + 22)) Q b 63 [some (.inr (.inr 66)), some (.inl 1), some (.inl k), some (.inl i), some (.inl 9), some (.inl 0), some (.inl x), some (.inl y), some (.inl z), u10] [] hz
                                refine E_s 4 (i' := 67) (ls' := [some (.inr (.inr 66)), some (.inl 1), some (.inl k), some (.inl i), some (.inl 9), some (.inl 0), some (.inl x), some (.inl y), some (.inl z), u10]) (sk' := [.inl z, .inl y, .inl x, .inr (.inr 66)]) (h' := hz) rfl ?_
                                refine E_cv (x := (.invokevirtual 309, 3, [(10, 198)], [0])) (q := fun h9 => (∀ a, a ≠ 94 → a ≠ 95 → h9 a = hz a) ∧ (∀ k, 0 ≤ k → k < S 0 0 → h9 94 k = VE S (pX x y z) k) ∧ (∀ t, 0 ≤ t → t < T 0 0 → h9 95 t = VU S T (pX x y z) t)) rfl rfl (Nat.le_of_ble_eq_true rfl) (m_reckons (d + 18) 0 hz S T x y z n0 wt ⟨by omega, by omega⟩ ⟨by omega, by omega⟩ ⟨by omega, by omega⟩ (RR_vh hfz hR1) (RRT_vh hfz hRT1) hF hT h3 h4 (fun h9 z1 z2 z3 => ⟨rfl, z1, z2, z3⟩)) (fun h1 hq => ?_)
                                obtain ⟨f1, f2, f3⟩ := hq
                                have xx : xr x := ⟨by omega, by omega⟩
                                have xy : xr y := ⟨by omega, by omega⟩
                                have xz : xr z := ⟨by omega, by omega⟩
                                show xEx G0 cdX12_mergedApart (some .int) (xRn G0 MT (d + 22)) Q b 68 [some (.inr (.inr 66)), some (.inl 1), some (.inl k), some (.inl i), some (.inl 9), some (.inl 0), some (.inl x), some (.inl y), some (.inl z), u10] [] h1
                                refine E_s 1 (i' := 69) (ls' := [some (.inr (.inr 66)), some (.inl 1), some (.inl k), some (.inl i), some (.inl 9), some (.inl 0), some (.inl x), some (.inl y), some (.inl z), u10]) (sk' := [.inl 1]) (h' := h1) rfl ?_
                                refine E_b (x := (.ifCond .eq 27, 82, [], [])) rfl rfl (fun c69 => ?_) (fun c69 => ?_)
                                · show xEx G0 cdX12_mergedApart (some .int) (xRn G0 MT (d + 22)) Q b 82 [some (.inr (.inr 66)), some (.inl 1), some (.inl k), some (.inl i), some (.inl 9), some (.inl 0), some (.inl x), some (.inl y), some (.inl z), u10] [] h1
                                  exact absurd c69 (by decide)
                                · show xEx G0 cdX12_mergedApart (some .int) (xRn G0 MT (d + 22)) Q b 70 [some (.inr (.inr 66)), some (.inl 1), some (.inl k), some (.inl i), some (.inl 9), some (.inl 0), some (.inl x), some (.inl y), some (.inl z), u10] [] h1
                                  refine E_s 2 (i' := 72) (ls' := [some (.inr (.inr 66)), some (.inl 1), some (.inl k), some (.inl i), some (.inl 9), some (.inl 0), some (.inl x), some (.inl y), some (.inl z), u10]) (sk' := [.inl 150, .inr (.inr 66)]) (h' := h1) rfl ?_
                                  obtain ⟨yz, -, cz⟩ := (hT k hk2.1 hk2.2).2.2.2.2.2 h7
                                  have ch := tw_ch hT (Int.le_refl _) cz
                                  obtain ⟨b1, b2, b3⟩ := (hRT.2.2.2 k hk2.1 hk2.2).2.2.2.2.2.2 h7
                                  have i1 : h1 79 150 = T 8 k := by rw [f1 _ (by decide) (by decide), hfz _ (by decide) (by decide)]; exact b1
                                  have i2 : h1 80 150 = T 9 k := by rw [f1 _ (by decide) (by decide), hfz _ (by decide) (by decide)]; exact b2
                                  have i3 : h1 81 150 = otT (T 8 k) (T 10 k) := by rw [f1 _ (by decide) (by decide), hfz _ (by decide) (by decide)]; exact b3
                                  have rr : ∀ j, 0 ≤ j → j < S 0 0 → h1 94 j = VE S (pX x y z) j ∧ xr (VE S (pX x y z) j) := fun j z1 z2 => ⟨f2 j z1 z2, VE_r hF (pX_r xx xy xz) 300 j z1 z2⟩
                                  refine E_cp (x := (.invokevirtual 303, 1, [(10, 197)], [0])) (q := fun r h9 => w32 r = fU S T (pX x y z) (h1 79 150) (h1 80 150) (T 10 k) ∧ h1 = h9) rfl rfl (Nat.le_of_ble_eq_true rfl) (m_holdsNow (d + 21) 0 h1 S T 150 x y z (T 10 k) ⟨by decide, by decide⟩ (fun z9 => by rw [i3]; unfold otT; rw [if_neg (by omega)]) (by rw [i1, i2]; omega) (fun z9 => by rw [i2]; exact rr _ (by omega) (by omega)) (fun z9 => rr _ (by omega) (by omega)) (fun z9 => by rw [i2]; exact f3 _ (by omega) (by omega)) (fun z9 => f3 _ (by omega) (by omega)) (fun v hv => ⟨v, rfl, hv, rfl⟩)) (fun r9 h9 hv9 => ?_)
                                  obtain ⟨hv9, rfl⟩ := hv9
                                  rw [i1, i2] at hv9
                                  show xEx G0 cdX12_mergedApart (some .int) (xRn G0 MT (d + 22)) Q b 73 [some (.inr (.inr 66)), some (.inl 1), some (.inl k), some (.inl i), some (.inl 9), some (.inl 0), some (.inl x), some (.inl y), some (.inl z), u10] [.inl r9] h1
                                  have ub := fU_01 S T (pX x y z) (T 8 k) (T 9 k) (T 10 k)
                                  have g1 := f3 k hk2.1 hk2.2
                                  have uz : VU S T (pX x y z) k = 0 ∨ VU S T (pX x y z) k = 1 := vU_01 S T (pX x y z) 150 k
                                  have ua : xr (h1 95 k) := by rw [g1]; exact ⟨by omega, by omega⟩
                                  refine E_ti (y := (fU S T (pX x y z) (T 8 k) (T 9 k) (T 10 k))) (by rw [hv9, w32_id ⟨by omega, by omega⟩]) ?_
                                  refine E_s 3 (i' := 76) (ls' := [some (.inr (.inr 66)), some (.inl 1), some (.inl k), some (.inl i), some (.inl 9), some (.inl 0), some (.inl x), some (.inl y), some (.inl z), u10]) (sk' := [.inl k, .inr (.inr 95), .inl (fU S T (pX x y z) (T 8 k) (T 9 k) (T 10 k))]) (h' := h1) rfl ?_
                                  refine E_ld (x := (.iaload, 0, [], [])) (ty := .int) (n := 150) rfl rfl rfl (by omega) (by omega) ?_
                                  show xEx G0 cdX12_mergedApart (some .int) (xRn G0 MT (d + 22)) Q b 77 [some (.inr (.inr 66)), some (.inl 1), some (.inl k), some (.inl i), some (.inl 9), some (.inl 0), some (.inl x), some (.inl y), some (.inl z), u10] [.inl (h1 95 k), .inl (fU S T (pX x y z) (T 8 k) (T 9 k) (T 10 k))] h1
                                  refine E_b (x := (.if_icmp .eq 7, 80, [], [])) rfl rfl (fun c77 => ?_) (fun c77 => ?_)
                                  · rw [c_eq (by first | exact ua | exact ⟨by omega, by omega⟩) (by first | exact ua | exact ⟨by omega, by omega⟩)] at c77
                                    simp only [decide_eq_true_eq, decide_eq_false_iff_not, Decidable.not_not] at c77
                                    show xEx G0 cdX12_mergedApart (some .int) (xRn G0 MT (d + 22)) Q b 80 [some (.inr (.inr 66)), some (.inl 1), some (.inl k), some (.inl i), some (.inl 9), some (.inl 0), some (.inl x), some (.inl y), some (.inl z), u10] [] h1
                                    have dd : ¬ (dmU S T 2 k) ((x + 9) * 19 + (y + 9) + z) := by
                                      intro z9
                                      apply z9
                                      rw [pt_2 (by omega) (by omega) (by omega)]
                                      exact g1.symm.trans c77.symm
                                    refine E_s 4 (i' := 98) (ls' := [some (.inr (.inr 66)), some (.inl 1), some (.inl k), some (.inl i), some (.inl 9), some (.inl 0), some (.inl x), some (.inl y), some (.inl z), some (.inl 0)]) (sk' := [.inl 0]) (h' := h1) rfl ?_
                                    refine E_b (x := (.ifCond .eq 25, 110, [], [])) rfl rfl (fun c98 => ?_) (fun c98 => ?_)
                                    · show xEx G0 cdX12_mergedApart (some .int) (xRn G0 MT (d + 22)) Q b 110 [some (.inr (.inr 66)), some (.inl 1), some (.inl k), some (.inl i), some (.inl 9), some (.inl 0), some (.inl x), some (.inl y), some (.inl z), some (.inl 0)] [] h1
                                      refine E_s 2 (i' := 60) (ls' := [some (.inr (.inr 66)), some (.inl 1), some (.inl k), some (.inl i), some (.inl 9), some (.inl 0), some (.inl x), some (.inl y), some (.inl (z + 1)), some (.inl 0)]) (sk' := []) (h' := h1) rfl ?_
                                      exact ih60 _ (z + 1) _ (by omega) (by omega) (fun a z1 z2 => (f1 a z1 z2).trans (hfz a z1 z2)) (fun q0 z1 z2 => by
                                        by_cases z9 : q0 = (x + 9) * 19 + (y + 9) + z
                                        · rw [z9]; exact dd
                                        · exact hnz q0 z1 (by omega)) (by omega)
                                    · show xEx G0 cdX12_mergedApart (some .int) (xRn G0 MT (d + 22)) Q b 99 [some (.inr (.inr 66)), some (.inl 1), some (.inl k), some (.inl i), some (.inl 9), some (.inl 0), some (.inl x), some (.inl y), some (.inl z), some (.inl 0)] [] h1
                                      exact absurd c98 (by decide)
                                  · rw [c_eq (by first | exact ua | exact ⟨by omega, by omega⟩) (by first | exact ua | exact ⟨by omega, by omega⟩)] at c77
                                    simp only [decide_eq_true_eq, decide_eq_false_iff_not, Decidable.not_not] at c77
                                    show xEx G0 cdX12_mergedApart (some .int) (xRn G0 MT (d + 22)) Q b 78 [some (.inr (.inr 66)), some (.inl 1), some (.inl k), some (.inl i), some (.inl 9), some (.inl 0), some (.inl x), some (.inl y), some (.inl z), u10] [] h1
                                    have ddp : (dmU S T 2 k) ((x + 9) * 19 + (y + 9) + z) := by
                                      show ¬ _ = _
                                      rw [pt_2 (by omega) (by omega) (by omega)]
                                      intro z9
                                      exact c77 (z9.symm.trans g1.symm)
                                    refine E_s 4 (i' := 98) (ls' := [some (.inr (.inr 66)), some (.inl 1), some (.inl k), some (.inl i), some (.inl 9), some (.inl 0), some (.inl x), some (.inl y), some (.inl z), some (.inl 1)]) (sk' := [.inl 1]) (h' := h1) rfl ?_
                                    refine E_b (x := (.ifCond .eq 25, 110, [], [])) rfl rfl (fun c98 => ?_) (fun c98 => ?_)
                                    · show xEx G0 cdX12_mergedApart (some .int) (xRn G0 MT (d + 22)) Q b 110 [some (.inr (.inr 66)), some (.inl 1), some (.inl k), some (.inl i), some (.inl 9), some (.inl 0), some (.inl x), some (.inl y), some (.inl z), some (.inl 1)] [] h1
                                      exact absurd c98 (by decide)
                                    · show xEx G0 cdX12_mergedApart (some .int) (xRn G0 MT (d + 22)) Q b 99 [some (.inr (.inr 66)), some (.inl 1), some (.inl k), some (.inl i), some (.inl 9), some (.inl 0), some (.inl x), some (.inl y), some (.inl z), some (.inl 1)] [] h1
                                      refine E_s 1 (i' := 100) (ls' := [some (.inr (.inr 66)), some (.inl 1), some (.inl k), some (.inl i), some (.inl 9), some (.inl 0), some (.inl x), some (.inl y), some (.inl z), some (.inl 1)]) (sk' := [.inl i]) (h' := h1) rfl ?_
                                      refine E_b (x := (.ifCond .ne 8, 103, [], [])) rfl rfl (fun c100 => ?_) (fun c100 => ?_)
                                      · rw [c_ne (by first | assumption | (refine ⟨?_, ?_⟩ <;> omega) | (simp only [xr] at *; omega)) (by first | assumption | (refine ⟨?_, ?_⟩ <;> omega) | (simp only [xr] at *; omega))] at c100
                                        simp only [decide_eq_true_eq, decide_eq_false_iff_not, Decidable.not_not] at c100
                                        show xEx G0 cdX12_mergedApart (some .int) (xRn G0 MT (d + 22)) Q b 103 [some (.inr (.inr 66)), some (.inl 1), some (.inl k), some (.inl i), some (.inl 9), some (.inl 0), some (.inl x), some (.inl y), some (.inl z), some (.inl 1)] [] h1
                                        refine E_s 2 (i' := 105) (ls' := [some (.inr (.inr 66)), some (.inl 1), some (.inl k), some (.inl i), some (.inl 9), some (.inl 0), some (.inl x), some (.inl y), some (.inl z), some (.inl 1)]) (sk' := [.inl 1, .inl i]) (h' := h1) rfl ?_
                                        refine E_b (x := (.if_icmp .ne 8, 108, [], [])) rfl rfl (fun c105 => ?_) (fun c105 => ?_)
                                        · rw [c_ne (by first | assumption | (refine ⟨?_, ?_⟩ <;> omega) | (simp only [xr] at *; omega)) (by first | assumption | (refine ⟨?_, ?_⟩ <;> omega) | (simp only [xr] at *; omega))] at c105
                                          simp only [decide_eq_true_eq, decide_eq_false_iff_not, Decidable.not_not] at c105
                                          show xEx G0 cdX12_mergedApart (some .int) (xRn G0 MT (d + 22)) Q b 108 [some (.inr (.inr 66)), some (.inl 1), some (.inl k), some (.inl i), some (.inl 9), some (.inl 0), some (.inl x), some (.inl y), some (.inl z), some (.inl 1)] [] h1
                                          refine E_s 1 (i' := 109) (ls' := [some (.inr (.inr 66)), some (.inl 1), some (.inl k), some (.inl i), some (.inl 9), some (.inl 0), some (.inl x), some (.inl y), some (.inl z), some (.inl 1)]) (sk' := [.inl z]) (h' := h1) rfl ?_
                                          exact E_ret (x := (.ireturn, 0, [], [])) (v := some (.inl z)) rfl (Or.inl rfl) (by
                                            have r9 := hF9 kk h7 ((x + 9) * 19 + (y + 9) + z) (by omega) (by simp [ptN]; omega) ddp hnz _ (fun a z1 z2 => (f1 a z1 z2).trans (hfz a z1 z2))
                                            rw [pt_2 (by omega) (by omega) (by omega)] at r9
                                            have e9 : pX x y z i = z := by unfold pX; rw [if_neg (by omega), if_neg (by omega)]
                                            rw [e9] at r9
                                            exact r9)
                                        · rw [c_ne (by first | assumption | (refine ⟨?_, ?_⟩ <;> omega) | (simp only [xr] at *; omega)) (by first | assumption | (refine ⟨?_, ?_⟩ <;> omega) | (simp only [xr] at *; omega))] at c105
                                          simp only [decide_eq_true_eq, decide_eq_false_iff_not, Decidable.not_not] at c105
                                          show xEx G0 cdX12_mergedApart (some .int) (xRn G0 MT (d + 22)) Q b 106 [some (.inr (.inr 66)), some (.inl 1), some (.inl k), some (.inl i), some (.inl 9), some (.inl 0), some (.inl x), some (.inl y), some (.inl z), some (.inl 1)] [] h1
                                          refine E_s 2 (i' := 109) (ls' := [some (.inr (.inr 66)), some (.inl 1), some (.inl k), some (.inl i), some (.inl 9), some (.inl 0), some (.inl x), some (.inl y), some (.inl z), some (.inl 1)]) (sk' := [.inl y]) (h' := h1) rfl ?_
                                          exact E_ret (x := (.ireturn, 0, [], [])) (v := some (.inl y)) rfl (Or.inl rfl) (by
                                            have r9 := hF9 kk h7 ((x + 9) * 19 + (y + 9) + z) (by omega) (by simp [ptN]; omega) ddp hnz _ (fun a z1 z2 => (f1 a z1 z2).trans (hfz a z1 z2))
                                            rw [pt_2 (by omega) (by omega) (by omega)] at r9
                                            have e9 : pX x y z i = y := by unfold pX; rw [if_neg (by omega), if_pos (by omega)]
                                            rw [e9] at r9
                                            exact r9)
                                      · rw [c_ne (by first | assumption | (refine ⟨?_, ?_⟩ <;> omega) | (simp only [xr] at *; omega)) (by first | assumption | (refine ⟨?_, ?_⟩ <;> omega) | (simp only [xr] at *; omega))] at c100
                                        simp only [decide_eq_true_eq, decide_eq_false_iff_not, Decidable.not_not] at c100
                                        show xEx G0 cdX12_mergedApart (some .int) (xRn G0 MT (d + 22)) Q b 101 [some (.inr (.inr 66)), some (.inl 1), some (.inl k), some (.inl i), some (.inl 9), some (.inl 0), some (.inl x), some (.inl y), some (.inl z), some (.inl 1)] [] h1
                                        refine E_s 2 (i' := 109) (ls' := [some (.inr (.inr 66)), some (.inl 1), some (.inl k), some (.inl i), some (.inl 9), some (.inl 0), some (.inl x), some (.inl y), some (.inl z), some (.inl 1)]) (sk' := [.inl x]) (h' := h1) rfl ?_
                                        exact E_ret (x := (.ireturn, 0, [], [])) (v := some (.inl x)) rfl (Or.inl rfl) (by
                                          have r9 := hF9 kk h7 ((x + 9) * 19 + (y + 9) + z) (by omega) (by simp [ptN]; omega) ddp hnz _ (fun a z1 z2 => (f1 a z1 z2).trans (hfz a z1 z2))
                                          rw [pt_2 (by omega) (by omega) (by omega)] at r9
                                          have e9 : pX x y z i = x := by unfold pX; rw [if_pos (by omega)]
                                          rw [e9] at r9
                                          exact r9)
                          exact key60 _ _ (-0) _ (by omega) (by omega) hfy (fun q0 z1 z2 => hny q0 z1 (by omega)) (Nat.lt_succ_self _)
                    exact key54 _ _ (-9) _ _ (by omega) (by omega) hfx (fun q0 z1 z2 => hnx q0 z1 (by omega)) (Nat.lt_succ_self _)
              exact key48 _ _ (-9) none none none (by omega) (by omega) (fun _ _ _ => rfl) (fun q0 z1 z2 => by omega) (Nat.lt_succ_self _)
            · rw [c_le (by first | assumption | (refine ⟨?_, ?_⟩ <;> omega) | (simp only [xr] at *; omega)) (by first | assumption | (refine ⟨?_, ?_⟩ <;> omega) | (simp only [xr] at *; omega))] at c41
              simp only [decide_eq_true_eq, decide_eq_false_iff_not, Decidable.not_not] at c41
              show xEx G0 cdX12_mergedApart (some .int) (xRn G0 MT (d + 22)) Q b 42 [some (.inr (.inr 66)), some (.inl 1), some (.inl k), some (.inl i), some (.inl 9), none, none, none, none, none] [] (xup (xup (xup (xup h 66 0 0) 79 150 (h 82 k)) 80 150 (h 83 k)) 81 150 (h 84 k))
              omega
        · rw [c_ne (by first | assumption | (refine ⟨?_, ?_⟩ <;> omega) | (simp only [xr] at *; omega)) (by first | assumption | (refine ⟨?_, ?_⟩ <;> omega) | (simp only [xr] at *; omega))] at c22
          simp only [decide_eq_true_eq, decide_eq_false_iff_not, Decidable.not_not] at c22
          show xEx G0 cdX12_mergedApart (some .int) (xRn G0 MT (d + 22)) Q b 23 [some (.inr (.inr 66)), some (.inl 1), some (.inl k), some (.inl i), none, none, none, none, none, none] [] g1
          obtain ⟨z0, rfl⟩ : h 86 k = 0 ∧ g1 = xup h 66 0 0 := by
            rcases hq4 with ⟨-, a, b⟩ | ⟨a, -⟩
            · exact ⟨a, b⟩
            · omega
          refine E_s 2 (i' := 25) (ls' := [some (.inr (.inr 66)), some (.inl 1), some (.inl k), some (.inl i), none, none, none, none, none, none]) (sk' := [.inl 0]) (h' := (xup h 66 0 0)) rfl ?_
          refine E_b (x := (.ifCond .le 7, 28, [], [])) rfl rfl (fun c25 => ?_) (fun c25 => ?_)
          · show xEx G0 cdX12_mergedApart (some .int) (xRn G0 MT (d + 22)) Q b 28 [some (.inr (.inr 66)), some (.inl 1), some (.inl k), some (.inl i), none, none, none, none, none, none] [] (xup h 66 0 0)
            refine E_s 1 (i' := 29) (ls' := [some (.inr (.inr 66)), some (.inl 1), some (.inl k), some (.inl i), none, none, none, none, none, none]) (sk' := [.inl (-100)]) (h' := (xup h 66 0 0)) rfl ?_
            exact E_ret (x := (.ireturn, 0, [], [])) (v := some (.inl (-100))) rfl (Or.inl rfl) (hZ kk (by rw [← e7]; exact z0))
          · show xEx G0 cdX12_mergedApart (some .int) (xRn G0 MT (d + 22)) Q b 26 [some (.inr (.inr 66)), some (.inl 1), some (.inl k), some (.inl i), none, none, none, none, none, none] [] (xup h 66 0 0)
            exact absurd c25 (by decide)
    · rw [c_ne (by first | assumption | (refine ⟨?_, ?_⟩ <;> omega) | (simp only [xr] at *; omega)) (by first | assumption | (refine ⟨?_, ?_⟩ <;> omega) | (simp only [xr] at *; omega))] at c10
      simp only [decide_eq_true_eq, decide_eq_false_iff_not, Decidable.not_not] at c10
      show xEx G0 cdX12_mergedApart (some .int) (xRn G0 MT (d + 22)) Q b 11 [some (.inr (.inr 66)), some (.inl 1), some (.inl k), some (.inl i), none, none, none, none, none, none] [.inr (.inr 66)] h
      refine E_s 5 (i' := 17) (ls' := [some (.inr (.inr 66)), some (.inl 1), some (.inl k), some (.inl i), none, none, none, none, none, none]) (sk' := [.inl 1]) (h' := (xup h 66 0 1)) rfl ?_
      refine E_b (x := (.ifCond .gt 12, 23, [], [])) rfl rfl (fun c17 => ?_) (fun c17 => ?_)
      · show xEx G0 cdX12_mergedApart (some .int) (xRn G0 MT (d + 22)) Q b 23 [some (.inr (.inr 66)), some (.inl 1), some (.inl k), some (.inl i), none, none, none, none, none, none] [] (xup h 66 0 1)
        
        refine E_s 2 (i' := 25) (ls' := [some (.inr (.inr 66)), some (.inl 1), some (.inl k), some (.inl i), none, none, none, none, none, none]) (sk' := [.inl 1]) (h' := (xup h 66 0 1)) rfl ?_
        refine E_b (x := (.ifCond .le 7, 28, [], [])) rfl rfl (fun c25 => ?_) (fun c25 => ?_)
        · show xEx G0 cdX12_mergedApart (some .int) (xRn G0 MT (d + 22)) Q b 28 [some (.inr (.inr 66)), some (.inl 1), some (.inl k), some (.inl i), none, none, none, none, none, none] [] (xup h 66 0 1)
          exact absurd c25 (by decide)
        · show xEx G0 cdX12_mergedApart (some .int) (xRn G0 MT (d + 22)) Q b 26 [some (.inr (.inr 66)), some (.inl 1), some (.inl k), some (.inl i), none, none, none, none, none, none] [] (xup h 66 0 1)
          refine E_s 2 (i' := 29) (ls' := [some (.inr (.inr 66)), some (.inl 1), some (.inl k), some (.inl i), none, none, none, none, none, none]) (sk' := [.inl 0]) (h' := (xup h 66 0 1)) rfl ?_
          exact E_ret (x := (.ireturn, 0, [], [])) (v := some (.inl 0)) rfl (Or.inl rfl) (hN (by omega))
      · show xEx G0 cdX12_mergedApart (some .int) (xRn G0 MT (d + 22)) Q b 18 [some (.inr (.inr 66)), some (.inl 1), some (.inl k), some (.inl i), none, none, none, none, none, none] [] (xup h 66 0 1)
        exact absurd c17 (by decide)
set_option maxHeartbeats 1000000 in
theorem m_mapart1_3 (d b : Nat) (h S T : xH) (k i n0 : Int) (wt : Int → Int) (hk : xr k) (hi : xr i) (hm : h 66 1 = 3) (h7r : ∀ k, 0 ≤ k → k < T 0 0 → 0 ≤ T 7 k ∧ T 7 k ≤ 400000) (hR : RR h S) (hRT : RRT h T) (hF : FW n0 wt 9 S) (hT : FWT S 7 T) (h3 : 0 ≤ S 0 0 ∧ S 0 0 ≤ 300) (h4 : 0 ≤ T 0 0 ∧ T 0 0 ≤ 150) (hM1 : 0 ≤ h 66 19 ∧ h 66 19 ≤ 150) {Q : xO → xH → Prop} (hN : ¬ ((0 ≤ k ∧ k < h 66 19) ∧ (0 ≤ i ∧ i ≤ 2)) → Q (.inl (some (.inl (0)))) (xup h 66 0 1)) (hZ : ((0 ≤ k ∧ k < h 66 19) ∧ (0 ≤ i ∧ i ≤ 2)) → T 7 k = 0 → Q (.inl (some (.inl (-100)))) (xup h 66 0 0)) (hF9 : ((0 ≤ k ∧ k < h 66 19) ∧ (0 ≤ i ∧ i ≤ 2)) → T 7 k ≠ 0 → ∀ p, 0 ≤ p → p < ptN 3 → (dmU S T 3 k) p → (∀ q, 0 ≤ q → q < p → ¬ (dmU S T 3 k) q) → ∀ h', (∀ a, a ≠ 94 → a ≠ 95 → h' a = (xup (xup (xup (xup h 66 0 0) 79 150 (h 82 k)) 80 150 (h 83 k)) 81 150 (h 84 k)) a) → Q (.inl (some (.inl (ptX 3 p i)))) h') (hG : ((0 ≤ k ∧ k < h 66 19) ∧ (0 ≤ i ∧ i ≤ 2)) → T 7 k ≠ 0 → (∀ q, 0 ≤ q → q < ptN 3 → ¬ (dmU S T 3 k) q) → ∀ h', (∀ a, a ≠ 94 → a ≠ 95 → h' a = (xup (xup (xup (xup h 66 0 0) 79 150 (h 82 k)) 80 150 (h 83 k)) 81 150 (h 84 k)) a) → Q (.inl (some (.inl (-100)))) h') : xRn G0 MT (d + 23) b 200 [.inr (.inr 66), .inl 1, .inl k, .inl i] h Q := by
  refine R_of (M := mX12_mergedApart) rfl (Nat.le_of_ble_eq_true rfl) ?_
  show xEx G0 cdX12_mergedApart (some .int) (xRn G0 MT (d + 22)) Q b 0 [some (.inr (.inr 66)), some (.inl 1), some (.inl k), some (.inl i), none, none, none, none, none, none] [] h
  refine E_s 4 (i' := 4) (ls' := [some (.inr (.inr 66)), some (.inl 1), some (.inl k), some (.inl i), none, none, none, none, none, none]) (sk' := [.inl k, .inl 1, .inr (.inr 66), .inr (.inr 66)]) (h' := h) rfl ?_
  refine E_cp (x := (.invokevirtual 295, 2, [(10, 193)], [0])) (q := fun r1 h9 => ((r1 = 1 ∧ (0 ≤ k ∧ k < h 66 19)) ∨ (r1 = 0 ∧ ¬ (0 ≤ k ∧ k < h 66 19))) ∧ h = h9) rfl rfl (Nat.le_of_ble_eq_true rfl) (m_isKept1 (d + 20) 0 h k hk hM1 (fun z => ⟨_, rfl, Or.inl ⟨rfl, z⟩, rfl⟩) (fun z => ⟨_, rfl, Or.inr ⟨rfl, z⟩, rfl⟩)) (fun r1 h9 q1 => ?_)
  obtain ⟨q1, rfl⟩ := q1
  show xEx G0 cdX12_mergedApart (some .int) (xRn G0 MT (d + 22)) Q b 5 [some (.inr (.inr 66)), some (.inl 1), some (.inl k), some (.inl i), none, none, none, none, none, none] [.inl r1, .inr (.inr 66)] h
  refine E_b (x := (.ifCond .eq 12, 11, [], [])) rfl rfl (fun c5 => ?_) (fun c5 => ?_)
  · rw [c_eq (by first | assumption | (refine ⟨?_, ?_⟩ <;> omega) | (simp only [xr] at *; omega)) (by first | assumption | (refine ⟨?_, ?_⟩ <;> omega) | (simp only [xr] at *; omega))] at c5
    simp only [decide_eq_true_eq, decide_eq_false_iff_not, Decidable.not_not] at c5
    show xEx G0 cdX12_mergedApart (some .int) (xRn G0 MT (d + 22)) Q b 11 [some (.inr (.inr 66)), some (.inl 1), some (.inl k), some (.inl i), none, none, none, none, none, none] [.inr (.inr 66)] h
    refine E_s 5 (i' := 17) (ls' := [some (.inr (.inr 66)), some (.inl 1), some (.inl k), some (.inl i), none, none, none, none, none, none]) (sk' := [.inl 1]) (h' := (xup h 66 0 1)) rfl ?_
    refine E_b (x := (.ifCond .gt 12, 23, [], [])) rfl rfl (fun c17 => ?_) (fun c17 => ?_)
    · show xEx G0 cdX12_mergedApart (some .int) (xRn G0 MT (d + 22)) Q b 23 [some (.inr (.inr 66)), some (.inl 1), some (.inl k), some (.inl i), none, none, none, none, none, none] [] (xup h 66 0 1)
      
      refine E_s 2 (i' := 25) (ls' := [some (.inr (.inr 66)), some (.inl 1), some (.inl k), some (.inl i), none, none, none, none, none, none]) (sk' := [.inl 1]) (h' := (xup h 66 0 1)) rfl ?_
      refine E_b (x := (.ifCond .le 7, 28, [], [])) rfl rfl (fun c25 => ?_) (fun c25 => ?_)
      · show xEx G0 cdX12_mergedApart (some .int) (xRn G0 MT (d + 22)) Q b 28 [some (.inr (.inr 66)), some (.inl 1), some (.inl k), some (.inl i), none, none, none, none, none, none] [] (xup h 66 0 1)
        exact absurd c25 (by decide)
      · show xEx G0 cdX12_mergedApart (some .int) (xRn G0 MT (d + 22)) Q b 26 [some (.inr (.inr 66)), some (.inl 1), some (.inl k), some (.inl i), none, none, none, none, none, none] [] (xup h 66 0 1)
        refine E_s 2 (i' := 29) (ls' := [some (.inr (.inr 66)), some (.inl 1), some (.inl k), some (.inl i), none, none, none, none, none, none]) (sk' := [.inl 0]) (h' := (xup h 66 0 1)) rfl ?_
        exact E_ret (x := (.ireturn, 0, [], [])) (v := some (.inl 0)) rfl (Or.inl rfl) (hN (by omega))
    · show xEx G0 cdX12_mergedApart (some .int) (xRn G0 MT (d + 22)) Q b 18 [some (.inr (.inr 66)), some (.inl 1), some (.inl k), some (.inl i), none, none, none, none, none, none] [] (xup h 66 0 1)
      exact absurd c17 (by decide)
  · rw [c_eq (by first | assumption | (refine ⟨?_, ?_⟩ <;> omega) | (simp only [xr] at *; omega)) (by first | assumption | (refine ⟨?_, ?_⟩ <;> omega) | (simp only [xr] at *; omega))] at c5
    simp only [decide_eq_true_eq, decide_eq_false_iff_not, Decidable.not_not] at c5
    show xEx G0 cdX12_mergedApart (some .int) (xRn G0 MT (d + 22)) Q b 6 [some (.inr (.inr 66)), some (.inl 1), some (.inl k), some (.inl i), none, none, none, none, none, none] [.inr (.inr 66)] h
    refine E_s 3 (i' := 9) (ls' := [some (.inr (.inr 66)), some (.inl 1), some (.inl k), some (.inl i), none, none, none, none, none, none]) (sk' := [.inl 2, .inl 0, .inl i, .inr (.inr 66)]) (h' := h) rfl ?_
    refine E_cp (x := (.invokestatic 180, 3, [(0, 155)], [])) (q := fun r2 h9 => ((r2 = 1 ∧ (0 ≤ i ∧ i ≤ 2)) ∨ (r2 = 0 ∧ ¬ (0 ≤ i ∧ i ≤ 2))) ∧ h = h9) rfl rfl (Nat.le_of_ble_eq_true rfl) (m_isIn (d + 21) 0 (h) i 0 2 hi ⟨by omega, by omega⟩ ⟨by omega, by omega⟩ (fun z => ⟨_, rfl, Or.inl ⟨rfl, z⟩, rfl⟩) (fun z => ⟨_, rfl, Or.inr ⟨rfl, z⟩, rfl⟩)) (fun r2 h9 q2 => ?_)
    obtain ⟨q2, rfl⟩ := q2
    show xEx G0 cdX12_mergedApart (some .int) (xRn G0 MT (d + 22)) Q b 10 [some (.inr (.inr 66)), some (.inl 1), some (.inl k), some (.inl i), none, none, none, none, none, none] [.inl r2, .inr (.inr 66)] h
    refine E_b (x := (.ifCond .ne 7, 13, [], [])) rfl rfl (fun c10 => ?_) (fun c10 => ?_)
    · rw [c_ne (by first | assumption | (refine ⟨?_, ?_⟩ <;> omega) | (simp only [xr] at *; omega)) (by first | assumption | (refine ⟨?_, ?_⟩ <;> omega) | (simp only [xr] at *; omega))] at c10
      simp only [decide_eq_true_eq, decide_eq_false_iff_not, Decidable.not_not] at c10
      show xEx G0 cdX12_mergedApart (some .int) (xRn G0 MT (d + 22)) Q b 13 [some (.inr (.inr 66)), some (.inl 1), some (.inl k), some (.inl i), none, none, none, none, none, none] [.inr (.inr 66)] h
      refine E_s 4 (i' := 17) (ls' := [some (.inr (.inr 66)), some (.inl 1), some (.inl k), some (.inl i), none, none, none, none, none, none]) (sk' := [.inl 0]) (h' := (xup h 66 0 0)) rfl ?_
      refine E_b (x := (.ifCond .gt 12, 23, [], [])) rfl rfl (fun c17 => ?_) (fun c17 => ?_)
      · show xEx G0 cdX12_mergedApart (some .int) (xRn G0 MT (d + 22)) Q b 23 [some (.inr (.inr 66)), some (.inl 1), some (.inl k), some (.inl i), none, none, none, none, none, none] [] (xup h 66 0 0)
        exact absurd c17 (by decide)
      · show xEx G0 cdX12_mergedApart (some .int) (xRn G0 MT (d + 22)) Q b 18 [some (.inr (.inr 66)), some (.inl 1), some (.inl k), some (.inl i), none, none, none, none, none, none] [] (xup h 66 0 0)
        refine E_s 3 (i' := 21) (ls' := [some (.inr (.inr 66)), some (.inl 1), some (.inl k), some (.inl i), none, none, none, none, none, none]) (sk' := [.inl k, .inl 1, .inr (.inr 66)]) (h' := (xup h 66 0 0)) rfl ?_
        have kk : (0 ≤ k ∧ k < h 66 19) ∧ (0 ≤ i ∧ i ≤ 2) := by omega
        have hk2 : 0 ≤ k ∧ k < T 0 0 := by rw [← hRT.1]; exact kk.1
        have e7 : h 86 k = T 7 k := (hRT.2.2.2 k hk2.1 hk2.2).2.2.2.2.2.1
        have r7 := h7r k hk2.1 hk2.2
        refine E_cp (x := (.invokevirtual 306, 2, [(10, 199)], [0])) (q := fun r h9 => (r = 0 ∧ h 86 k = 0 ∧ h9 = xup h 66 0 0) ∨ (r = 1 ∧ h 86 k ≠ 0 ∧ h9 = xup (xup (xup (xup h 66 0 0) 79 150 (h 82 k)) 80 150 (h 83 k)) 81 150 (h 84 k))) rfl rfl (Nat.le_of_ble_eq_true rfl) (m_laysM1 (d + 21) 0 (xup h 66 0 0) k ⟨by omega, by omega⟩ (show xr (h 86 k) by rw [e7]; exact ⟨by omega, by omega⟩) (fun z9 => ⟨_, rfl, Or.inl ⟨rfl, z9, rfl⟩⟩) (fun z9 => ⟨_, rfl, Or.inr ⟨rfl, z9, rfl⟩⟩)) (fun r4 g1 hq4 => ?_)
        show xEx G0 cdX12_mergedApart (some .int) (xRn G0 MT (d + 22)) Q b 22 [some (.inr (.inr 66)), some (.inl 1), some (.inl k), some (.inl i), none, none, none, none, none, none] [.inl r4] g1
        refine E_b (x := (.ifCond .ne 17, 30, [], [])) rfl rfl (fun c22 => ?_) (fun c22 => ?_)
        · rw [c_ne (by first | assumption | (refine ⟨?_, ?_⟩ <;> omega) | (simp only [xr] at *; omega)) (by first | assumption | (refine ⟨?_, ?_⟩ <;> omega) | (simp only [xr] at *; omega))] at c22
          simp only [decide_eq_true_eq, decide_eq_false_iff_not, Decidable.not_not] at c22
          show xEx G0 cdX12_mergedApart (some .int) (xRn G0 MT (d + 22)) Q b 30 [some (.inr (.inr 66)), some (.inl 1), some (.inl k), some (.inl i), none, none, none, none, none, none] [] g1
          obtain ⟨h7, rfl⟩ : h 86 k ≠ 0 ∧ g1 = xup (xup (xup (xup h 66 0 0) 79 150 (h 82 k)) 80 150 (h 83 k)) 81 150 (h 84 k) := by
            rcases hq4 with ⟨a, -⟩ | ⟨-, a, b⟩
            · omega
            · exact ⟨a, b⟩
          rw [e7] at h7
          have fmb : FM h (xup (xup (xup (xup h 66 0 0) 79 150 (h 82 k)) 80 150 (h 83 k)) 81 150 (h 84 k)) := (FM_u3 (FM_u3 (FM_u3 ((FM.rf h).up (Or.inr ⟨rfl, by unfold mdf; decide⟩)) (Or.inr ⟨by decide, by decide⟩)) (Or.inr ⟨by decide, by decide⟩)) (Or.inr ⟨by decide, by decide⟩))
          obtain ⟨hR1, hRT1⟩ := RR_FM h3.2 h4.2 fmb hR hRT
          refine E_s 3 (i' := 33) (ls' := [some (.inr (.inr 66)), some (.inl 1), some (.inl k), some (.inl i), none, none, none, none, none, none]) (sk' := [.inl 1, .inl (h 66 1)]) (h' := (xup (xup (xup (xup h 66 0 0) 79 150 (h 82 k)) 80 150 (h 83 k)) 81 150 (h 84 k))) rfl ?_
          refine E_b (x := (.if_icmp .le 8, 36, [], [])) rfl rfl (fun c33 => ?_) (fun c33 => ?_)
          · rw [c_le (by first | assumption | (refine ⟨?_, ?_⟩ <;> omega) | (simp only [xr] at *; omega)) (by first | assumption | (refine ⟨?_, ?_⟩ <;> omega) | (simp only [xr] at *; omega))] at c33
            simp only [decide_eq_true_eq, decide_eq_false_iff_not, Decidable.not_not] at c33
            show xEx G0 cdX12_mergedApart (some .int) (xRn G0 MT (d + 22)) Q b 36 [some (.inr (.inr 66)), some (.inl 1), some (.inl k), some (.inl i), none, none, none, none, none, none] [] (xup (xup (xup (xup h 66 0 0) 79 150 (h 82 k)) 80 150 (h 83 k)) 81 150 (h 84 k))
            omega
          · rw [c_le (by first | assumption | (refine ⟨?_, ?_⟩ <;> omega) | (simp only [xr] at *; omega)) (by first | assumption | (refine ⟨?_, ?_⟩ <;> omega) | (simp only [xr] at *; omega))] at c33
            simp only [decide_eq_true_eq, decide_eq_false_iff_not, Decidable.not_not] at c33
            show xEx G0 cdX12_mergedApart (some .int) (xRn G0 MT (d + 22)) Q b 34 [some (.inr (.inr 66)), some (.inl 1), some (.inl k), some (.inl i), none, none, none, none, none, none] [] (xup (xup (xup (xup h 66 0 0) 79 150 (h 82 k)) 80 150 (h 83 k)) 81 150 (h 84 k))
            refine E_s 6 (i' := 41) (ls' := [some (.inr (.inr 66)), some (.inl 1), some (.inl k), some (.inl i), some (.inl 9), none, none, none, none, none]) (sk' := [.inl 2, .inl (h 66 1)]) (h' := (xup (xup (xup (xup h 66 0 0) 79 150 (h 82 k)) 80 150 (h 83 k)) 81 150 (h 84 k))) rfl ?_
            refine E_b (x := (.if_icmp .le 8, 44, [], [])) rfl rfl (fun c41 => ?_) (fun c41 => ?_)
            · rw [c_le (by first | assumption | (refine ⟨?_, ?_⟩ <;> omega) | (simp only [xr] at *; omega)) (by first | assumption | (refine ⟨?_, ?_⟩ <;> omega) | (simp only [xr] at *; omega))] at c41
              simp only [decide_eq_true_eq, decide_eq_false_iff_not, Decidable.not_not] at c41
              show xEx G0 cdX12_mergedApart (some .int) (xRn G0 MT (d + 22)) Q b 44 [some (.inr (.inr 66)), some (.inl 1), some (.inl k), some (.inl i), some (.inl 9), none, none, none, none, none] [] (xup (xup (xup (xup h 66 0 0) 79 150 (h 82 k)) 80 150 (h 83 k)) 81 150 (h 84 k))
              omega
            · rw [c_le (by first | assumption | (refine ⟨?_, ?_⟩ <;> omega) | (simp only [xr] at *; omega)) (by first | assumption | (refine ⟨?_, ?_⟩ <;> omega) | (simp only [xr] at *; omega))] at c41
              simp only [decide_eq_true_eq, decide_eq_false_iff_not, Decidable.not_not] at c41
              show xEx G0 cdX12_mergedApart (some .int) (xRn G0 MT (d + 22)) Q b 42 [some (.inr (.inr 66)), some (.inl 1), some (.inl k), some (.inl i), some (.inl 9), none, none, none, none, none] [] (xup (xup (xup (xup h 66 0 0) 79 150 (h 82 k)) 80 150 (h 83 k)) 81 150 (h 84 k))
              refine E_s 5 (i' := 48) (ls' := [some (.inr (.inr 66)), some (.inl 1), some (.inl k), some (.inl i), some (.inl 9), some (.inl 9), some (.inl (-9)), none, none, none]) (sk' := []) (h' := (xup (xup (xup (xup h 66 0 0) 79 150 (h 82 k)) 80 150 (h 83 k)) 81 150 (h 84 k))) rfl ?_
              have key48 : ∀ (n : Nat) (hx : xH) (x : Int) (v8 v9 : Option xV) (v10 : Option xV), (-9 ≤ x) → (x ≤ 10) → (∀ a, a ≠ 94 → a ≠ 95 → hx a = (xup (xup (xup (xup h 66 0 0) 79 150 (h 82 k)) 80 150 (h 83 k)) 81 150 (h 84 k)) a) → (∀ q0, 0 ≤ q0 → q0 < (x + 9) * 361 + 0 + 0 → ¬ (dmU S T 3 k) q0) → ((10 - x).toNat) < n → xEx G0 cdX12_mergedApart (some .int) (xRn G0 MT (d + 22)) Q b 48 [some (.inr (.inr 66)), some (.inl 1), some (.inl k), some (.inl i), some (.inl 9), some (.inl 9), some (.inl x), v8, v9, v10] [] hx := by
                intro n
                induction n with
                | zero => intro hx x v8 v9 v10 _ _ _ _ hm; exact absurd hm (Nat.not_lt_zero _)
                | succ n ih48 =>
                  intro hx x v8 v9 v10 hx0 hx9 hfx hnx hm48
                  refine E_s 2 (i' := 50) (ls' := [some (.inr (.inr 66)), some (.inl 1), some (.inl k), some (.inl i), some (.inl 9), some (.inl 9), some (.inl x), v8, v9, v10]) (sk' := [.inl 9, .inl x]) (h' := hx) rfl ?_
                  refine E_b (x := (.if_icmp .gt 139, 116, [], [])) rfl rfl (fun c50 => ?_) (fun c50 => ?_)
                  · rw [c_gt (by first | assumption | (refine ⟨?_, ?_⟩ <;> omega) | (simp only [xr] at *; omega)) (by first | assumption | (refine ⟨?_, ?_⟩ <;> omega) | (simp only [xr] at *; omega))] at c50
                    simp only [decide_eq_true_eq, decide_eq_false_iff_not, Decidable.not_not] at c50
                    show xEx G0 cdX12_mergedApart (some .int) (xRn G0 MT (d + 22)) Q b 116 [some (.inr (.inr 66)), some (.inl 1), some (.inl k), some (.inl i), some (.inl 9), some (.inl 9), some (.inl x), v8, v9, v10] [] hx
                    refine E_s 1 (i' := 117) (ls' := [some (.inr (.inr 66)), some (.inl 1), some (.inl k), some (.inl i), some (.inl 9), some (.inl 9), some (.inl x), v8, v9, v10]) (sk' := [.inl (-100)]) (h' := hx) rfl ?_
                    exact E_ret (x := (.ireturn, 0, [], [])) (v := some (.inl (-100))) rfl (Or.inl rfl) (hG kk h7 (fun q z1 z2 => hnx q z1 (by simp [ptN] at z2; omega)) _ hfx)
                  · rw [c_gt (by first | assumption | (refine ⟨?_, ?_⟩ <;> omega) | (simp only [xr] at *; omega)) (by first | assumption | (refine ⟨?_, ?_⟩ <;> omega) | (simp only [xr] at *; omega))] at c50
                    simp only [decide_eq_true_eq, decide_eq_false_iff_not, Decidable.not_not] at c50
                    show xEx G0 cdX12_mergedApart (some .int) (xRn G0 MT (d + 22)) Q b 51 [some (.inr (.inr 66)), some (.inl 1), some (.inl k), some (.inl i), some (.inl 9), some (.inl 9), some (.inl x), v8, v9, v10] [] hx
                    refine E_s 3 (i' := 54) (ls' := [some (.inr (.inr 66)), some (.inl 1), some (.inl k), some (.inl i), some (.inl 9), some (.inl 9), some (.inl x), some (.inl (-9)), v9, v10]) (sk' := []) (h' := hx) rfl ?_
                    have key54 : ∀ (n : Nat) (hy : xH) (y : Int) (w9 : Option xV) (w10 : Option xV), (-9 ≤ y) → (y ≤ 10) → (∀ a, a ≠ 94 → a ≠ 95 → hy a = (xup (xup (xup (xup h 66 0 0) 79 150 (h 82 k)) 80 150 (h 83 k)) 81 150 (h 84 k)) a) → (∀ q0, 0 ≤ q0 → q0 < (x + 9) * 361 + (y + 9) * 19 + 0 → ¬ (dmU S T 3 k) q0) → ((10 - y).toNat) < n → xEx G0 cdX12_mergedApart (some .int) (xRn G0 MT (d + 22)) Q b 54 [some (.inr (.inr 66)), some (.inl 1), some (.inl k), some (.inl i), some (.inl 9), some (.inl 9), some (.inl x), some (.inl y), w9, w10] [] hy := by
                      intro n
                      induction n with
                      | zero => intro hy y w9 w10 _ _ _ _ hm; exact absurd hm (Nat.not_lt_zero _)
                      | succ n ih54 =>
                        intro hy y w9 w10 hy0 hy9 hfy hny hm54
                        refine E_s 2 (i' := 56) (ls' := [some (.inr (.inr 66)), some (.inl 1), some (.inl k), some (.inl i), some (.inl 9), some (.inl 9), some (.inl x), some (.inl y), w9, w10]) (sk' := [.inl 9, .inl y]) (h' := hy) rfl ?_
                        refine E_b (x := (.if_icmp .gt 121, 114, [], [])) rfl rfl (fun c56 => ?_) (fun c56 => ?_)
                        · rw [c_gt (by first | assumption | (refine ⟨?_, ?_⟩ <;> omega) | (simp only [xr] at *; omega)) (by first | assumption | (refine ⟨?_, ?_⟩ <;> omega) | (simp only [xr] at *; omega))] at c56
                          simp only [decide_eq_true_eq, decide_eq_false_iff_not, Decidable.not_not] at c56
                          show xEx G0 cdX12_mergedApart (some .int) (xRn G0 MT (d + 22)) Q b 114 [some (.inr (.inr 66)), some (.inl 1), some (.inl k), some (.inl i), some (.inl 9), some (.inl 9), some (.inl x), some (.inl y), w9, w10] [] hy
                          refine E_s 2 (i' := 48) (ls' := [some (.inr (.inr 66)), some (.inl 1), some (.inl k), some (.inl i), some (.inl 9), some (.inl 9), some (.inl (x + 1)), some (.inl y), w9, w10]) (sk' := []) (h' := hy) rfl ?_
                          exact ih48 _ (x + 1) _ _ _ (by omega) (by omega) hfy (fun q0 z1 z2 => hny q0 z1 (by omega)) (by omega)
                        · rw [c_gt (by first | assumption | (refine ⟨?_, ?_⟩ <;> omega) | (simp only [xr] at *; omega)) (by first | assumption | (refine ⟨?_, ?_⟩ <;> omega) | (simp only [xr] at *; omega))] at c56
                          simp only [decide_eq_true_eq, decide_eq_false_iff_not, Decidable.not_not] at c56
                          show xEx G0 cdX12_mergedApart (some .int) (xRn G0 MT (d + 22)) Q b 57 [some (.inr (.inr 66)), some (.inl 1), some (.inl k), some (.inl i), some (.inl 9), some (.inl 9), some (.inl x), some (.inl y), w9, w10] [] hy
                          refine E_s 3 (i' := 60) (ls' := [some (.inr (.inr 66)), some (.inl 1), some (.inl k), some (.inl i), some (.inl 9), some (.inl 9), some (.inl x), some (.inl y), some (.inl (-9)), w10]) (sk' := []) (h' := hy) rfl ?_
                          have key60 : ∀ (n : Nat) (hz : xH) (z : Int) (u10 : Option xV), (-9 ≤ z) → (z ≤ 10) → (∀ a, a ≠ 94 → a ≠ 95 → hz a = (xup (xup (xup (xup h 66 0 0) 79 150 (h 82 k)) 80 150 (h 83 k)) 81 150 (h 84 k)) a) → (∀ q0, 0 ≤ q0 → q0 < (x + 9) * 361 + (y + 9) * 19 + (z + 9) → ¬ (dmU S T 3 k) q0) → ((10 - z).toNat) < n → xEx G0 cdX12_mergedApart (some .int) (xRn G0 MT (d + 22)) Q b 60 [some (.inr (.inr 66)), some (.inl 1), some (.inl k), some (.inl i), some (.inl 9), some (.inl 9), some (.inl x), some (.inl y), some (.inl z), u10] [] hz := by
                            intro n
                            induction n with
                            | zero => intro hz z u10 _ _ _ _ hm; exact absurd hm (Nat.not_lt_zero _)
                            | succ n ih60 =>
                              intro hz z u10 hz0 hz9 hfz hnz hm60
                              refine E_s 2 (i' := 62) (ls' := [some (.inr (.inr 66)), some (.inl 1), some (.inl k), some (.inl i), some (.inl 9), some (.inl 9), some (.inl x), some (.inl y), some (.inl z), u10]) (sk' := [.inl 9, .inl z]) (h' := hz) rfl ?_
                              refine E_b (x := (.if_icmp .gt 103, 112, [], [])) rfl rfl (fun c62 => ?_) (fun c62 => ?_)
                              · rw [c_gt (by first | assumption | (refine ⟨?_, ?_⟩ <;> omega) | (simp only [xr] at *; omega)) (by first | assumption | (refine ⟨?_, ?_⟩ <;> omega) | (simp only [xr] at *; omega))] at c62
                                simp only [decide_eq_true_eq, decide_eq_false_iff_not, Decidable.not_not] at c62
                                show xEx G0 cdX12_mergedApart (some .int) (xRn G0 MT (d + 22)) Q b 112 [some (.inr (.inr 66)), some (.inl 1), some (.inl k), some (.inl i), some (.inl 9), some (.inl 9), some (.inl x), some (.inl y), some (.inl z), u10] [] hz
                                refine E_s 2 (i' := 54) (ls' := [some (.inr (.inr 66)), some (.inl 1), some (.inl k), some (.inl i), some (.inl 9), some (.inl 9), some (.inl x), some (.inl (y + 1)), some (.inl z), u10]) (sk' := []) (h' := hz) rfl ?_
                                exact ih54 _ (y + 1) _ _ (by omega) (by omega) hfz (fun q0 z1 z2 => hnz q0 z1 (by omega)) (by omega)
                              · rw [c_gt (by first | assumption | (refine ⟨?_, ?_⟩ <;> omega) | (simp only [xr] at *; omega)) (by first | assumption | (refine ⟨?_, ?_⟩ <;> omega) | (simp only [xr] at *; omega))] at c62
                                simp only [decide_eq_true_eq, decide_eq_false_iff_not, Decidable.not_not] at c62
                                show xEx G0 cdX12_mergedApart (some .int) (xRn G0 MT (d + 22)) Q b 63 [some (.inr (.inr 66)), some (.inl 1), some (.inl k), some (.inl i), some (.inl 9), some (.inl 9), some (.inl x), some (.inl y), some (.inl z), u10] [] hz
                                refine E_s 4 (i' := 67) (ls' := [some (.inr (.inr 66)), some (.inl 1), some (.inl k), some (.inl i), some (.inl 9), some (.inl 9), some (.inl x), some (.inl y), some (.inl z), u10]) (sk' := [.inl z, .inl y, .inl x, .inr (.inr 66)]) (h' := hz) rfl ?_
                                refine E_cv (x := (.invokevirtual 309, 3, [(10, 198)], [0])) (q := fun h9 => (∀ a, a ≠ 94 → a ≠ 95 → h9 a = hz a) ∧ (∀ k, 0 ≤ k → k < S 0 0 → h9 94 k = VE S (pX x y z) k) ∧ (∀ t, 0 ≤ t → t < T 0 0 → h9 95 t = VU S T (pX x y z) t)) rfl rfl (Nat.le_of_ble_eq_true rfl) (m_reckons (d + 18) 0 hz S T x y z n0 wt ⟨by omega, by omega⟩ ⟨by omega, by omega⟩ ⟨by omega, by omega⟩ (RR_vh hfz hR1) (RRT_vh hfz hRT1) hF hT h3 h4 (fun h9 z1 z2 z3 => ⟨rfl, z1, z2, z3⟩)) (fun h1 hq => ?_)
                                obtain ⟨f1, f2, f3⟩ := hq
                                have xx : xr x := ⟨by omega, by omega⟩
                                have xy : xr y := ⟨by omega, by omega⟩
                                have xz : xr z := ⟨by omega, by omega⟩
                                show xEx G0 cdX12_mergedApart (some .int) (xRn G0 MT (d + 22)) Q b 68 [some (.inr (.inr 66)), some (.inl 1), some (.inl k), some (.inl i), some (.inl 9), some (.inl 9), some (.inl x), some (.inl y), some (.inl z), u10] [] h1
                                refine E_s 1 (i' := 69) (ls' := [some (.inr (.inr 66)), some (.inl 1), some (.inl k), some (.inl i), some (.inl 9), some (.inl 9), some (.inl x), some (.inl y), some (.inl z), u10]) (sk' := [.inl 1]) (h' := h1) rfl ?_
                                refine E_b (x := (.ifCond .eq 27, 82, [], [])) rfl rfl (fun c69 => ?_) (fun c69 => ?_)
                                · show xEx G0 cdX12_mergedApart (some .int) (xRn G0 MT (d + 22)) Q b 82 [some (.inr (.inr 66)), some (.inl 1), some (.inl k), some (.inl i), some (.inl 9), some (.inl 9), some (.inl x), some (.inl y), some (.inl z), u10] [] h1
                                  exact absurd c69 (by decide)
                                · show xEx G0 cdX12_mergedApart (some .int) (xRn G0 MT (d + 22)) Q b 70 [some (.inr (.inr 66)), some (.inl 1), some (.inl k), some (.inl i), some (.inl 9), some (.inl 9), some (.inl x), some (.inl y), some (.inl z), u10] [] h1
                                  refine E_s 2 (i' := 72) (ls' := [some (.inr (.inr 66)), some (.inl 1), some (.inl k), some (.inl i), some (.inl 9), some (.inl 9), some (.inl x), some (.inl y), some (.inl z), u10]) (sk' := [.inl 150, .inr (.inr 66)]) (h' := h1) rfl ?_
                                  obtain ⟨yz, -, cz⟩ := (hT k hk2.1 hk2.2).2.2.2.2.2 h7
                                  have ch := tw_ch hT (Int.le_refl _) cz
                                  obtain ⟨b1, b2, b3⟩ := (hRT.2.2.2 k hk2.1 hk2.2).2.2.2.2.2.2 h7
                                  have i1 : h1 79 150 = T 8 k := by rw [f1 _ (by decide) (by decide), hfz _ (by decide) (by decide)]; exact b1
                                  have i2 : h1 80 150 = T 9 k := by rw [f1 _ (by decide) (by decide), hfz _ (by decide) (by decide)]; exact b2
                                  have i3 : h1 81 150 = otT (T 8 k) (T 10 k) := by rw [f1 _ (by decide) (by decide), hfz _ (by decide) (by decide)]; exact b3
                                  have rr : ∀ j, 0 ≤ j → j < S 0 0 → h1 94 j = VE S (pX x y z) j ∧ xr (VE S (pX x y z) j) := fun j z1 z2 => ⟨f2 j z1 z2, VE_r hF (pX_r xx xy xz) 300 j z1 z2⟩
                                  refine E_cp (x := (.invokevirtual 303, 1, [(10, 197)], [0])) (q := fun r h9 => w32 r = fU S T (pX x y z) (h1 79 150) (h1 80 150) (T 10 k) ∧ h1 = h9) rfl rfl (Nat.le_of_ble_eq_true rfl) (m_holdsNow (d + 21) 0 h1 S T 150 x y z (T 10 k) ⟨by decide, by decide⟩ (fun z9 => by rw [i3]; unfold otT; rw [if_neg (by omega)]) (by rw [i1, i2]; omega) (fun z9 => by rw [i2]; exact rr _ (by omega) (by omega)) (fun z9 => rr _ (by omega) (by omega)) (fun z9 => by rw [i2]; exact f3 _ (by omega) (by omega)) (fun z9 => f3 _ (by omega) (by omega)) (fun v hv => ⟨v, rfl, hv, rfl⟩)) (fun r9 h9 hv9 => ?_)
                                  obtain ⟨hv9, rfl⟩ := hv9
                                  rw [i1, i2] at hv9
                                  show xEx G0 cdX12_mergedApart (some .int) (xRn G0 MT (d + 22)) Q b 73 [some (.inr (.inr 66)), some (.inl 1), some (.inl k), some (.inl i), some (.inl 9), some (.inl 9), some (.inl x), some (.inl y), some (.inl z), u10] [.inl r9] h1
                                  have ub := fU_01 S T (pX x y z) (T 8 k) (T 9 k) (T 10 k)
                                  have g1 := f3 k hk2.1 hk2.2
                                  have uz : VU S T (pX x y z) k = 0 ∨ VU S T (pX x y z) k = 1 := vU_01 S T (pX x y z) 150 k
                                  have ua : xr (h1 95 k) := by rw [g1]; exact ⟨by omega, by omega⟩
                                  refine E_ti (y := (fU S T (pX x y z) (T 8 k) (T 9 k) (T 10 k))) (by rw [hv9, w32_id ⟨by omega, by omega⟩]) ?_
                                  refine E_s 3 (i' := 76) (ls' := [some (.inr (.inr 66)), some (.inl 1), some (.inl k), some (.inl i), some (.inl 9), some (.inl 9), some (.inl x), some (.inl y), some (.inl z), u10]) (sk' := [.inl k, .inr (.inr 95), .inl (fU S T (pX x y z) (T 8 k) (T 9 k) (T 10 k))]) (h' := h1) rfl ?_
                                  refine E_ld (x := (.iaload, 0, [], [])) (ty := .int) (n := 150) rfl rfl rfl (by omega) (by omega) ?_
                                  show xEx G0 cdX12_mergedApart (some .int) (xRn G0 MT (d + 22)) Q b 77 [some (.inr (.inr 66)), some (.inl 1), some (.inl k), some (.inl i), some (.inl 9), some (.inl 9), some (.inl x), some (.inl y), some (.inl z), u10] [.inl (h1 95 k), .inl (fU S T (pX x y z) (T 8 k) (T 9 k) (T 10 k))] h1
                                  refine E_b (x := (.if_icmp .eq 7, 80, [], [])) rfl rfl (fun c77 => ?_) (fun c77 => ?_)
                                  · rw [c_eq (by first | exact ua | exact ⟨by omega, by omega⟩) (by first | exact ua | exact ⟨by omega, by omega⟩)] at c77
                                    simp only [decide_eq_true_eq, decide_eq_false_iff_not, Decidable.not_not] at c77
                                    show xEx G0 cdX12_mergedApart (some .int) (xRn G0 MT (d + 22)) Q b 80 [some (.inr (.inr 66)), some (.inl 1), some (.inl k), some (.inl i), some (.inl 9), some (.inl 9), some (.inl x), some (.inl y), some (.inl z), u10] [] h1
                                    have dd : ¬ (dmU S T 3 k) ((x + 9) * 361 + (y + 9) * 19 + (z + 9)) := by
                                      intro z9
                                      apply z9
                                      rw [pt_3 (by omega) (by omega) (by omega)]
                                      exact g1.symm.trans c77.symm
                                    refine E_s 4 (i' := 98) (ls' := [some (.inr (.inr 66)), some (.inl 1), some (.inl k), some (.inl i), some (.inl 9), some (.inl 9), some (.inl x), some (.inl y), some (.inl z), some (.inl 0)]) (sk' := [.inl 0]) (h' := h1) rfl ?_
                                    refine E_b (x := (.ifCond .eq 25, 110, [], [])) rfl rfl (fun c98 => ?_) (fun c98 => ?_)
                                    · show xEx G0 cdX12_mergedApart (some .int) (xRn G0 MT (d + 22)) Q b 110 [some (.inr (.inr 66)), some (.inl 1), some (.inl k), some (.inl i), some (.inl 9), some (.inl 9), some (.inl x), some (.inl y), some (.inl z), some (.inl 0)] [] h1
                                      refine E_s 2 (i' := 60) (ls' := [some (.inr (.inr 66)), some (.inl 1), some (.inl k), some (.inl i), some (.inl 9), some (.inl 9), some (.inl x), some (.inl y), some (.inl (z + 1)), some (.inl 0)]) (sk' := []) (h' := h1) rfl ?_
                                      exact ih60 _ (z + 1) _ (by omega) (by omega) (fun a z1 z2 => (f1 a z1 z2).trans (hfz a z1 z2)) (fun q0 z1 z2 => by
                                        by_cases z9 : q0 = (x + 9) * 361 + (y + 9) * 19 + (z + 9)
                                        · rw [z9]; exact dd
                                        · exact hnz q0 z1 (by omega)) (by omega)
                                    · show xEx G0 cdX12_mergedApart (some .int) (xRn G0 MT (d + 22)) Q b 99 [some (.inr (.inr 66)), some (.inl 1), some (.inl k), some (.inl i), some (.inl 9), some (.inl 9), some (.inl x), some (.inl y), some (.inl z), some (.inl 0)] [] h1
                                      exact absurd c98 (by decide)
                                  · rw [c_eq (by first | exact ua | exact ⟨by omega, by omega⟩) (by first | exact ua | exact ⟨by omega, by omega⟩)] at c77
                                    simp only [decide_eq_true_eq, decide_eq_false_iff_not, Decidable.not_not] at c77
                                    show xEx G0 cdX12_mergedApart (some .int) (xRn G0 MT (d + 22)) Q b 78 [some (.inr (.inr 66)), some (.inl 1), some (.inl k), some (.inl i), some (.inl 9), some (.inl 9), some (.inl x), some (.inl y), some (.inl z), u10] [] h1
                                    have ddp : (dmU S T 3 k) ((x + 9) * 361 + (y + 9) * 19 + (z + 9)) := by
                                      show ¬ _ = _
                                      rw [pt_3 (by omega) (by omega) (by omega)]
                                      intro z9
                                      exact c77 (z9.symm.trans g1.symm)
                                    refine E_s 4 (i' := 98) (ls' := [some (.inr (.inr 66)), some (.inl 1), some (.inl k), some (.inl i), some (.inl 9), some (.inl 9), some (.inl x), some (.inl y), some (.inl z), some (.inl 1)]) (sk' := [.inl 1]) (h' := h1) rfl ?_
                                    refine E_b (x := (.ifCond .eq 25, 110, [], [])) rfl rfl (fun c98 => ?_) (fun c98 => ?_)
                                    · show xEx G0 cdX12_mergedApart (some .int) (xRn G0 MT (d + 22)) Q b 110 [some (.inr (.inr 66)), some (.inl 1), some (.inl k), some (.inl i), some (.inl 9), some (.inl 9), some (.inl x), some (.inl y), some (.inl z), some (.inl 1)] [] h1
                                      exact absurd c98 (by decide)
                                    · show xEx G0 cdX12_mergedApart (some .int) (xRn G0 MT (d + 22)) Q b 99 [some (.inr (.inr 66)), some (.inl 1), some (.inl k), some (.inl i), some (.inl 9), some (.inl 9), some (.inl x), some (.inl y), some (.inl z), some (.inl 1)] [] h1
                                      refine E_s 1 (i' := 100) (ls' := [some (.inr (.inr 66)), some (.inl 1), some (.inl k), some (.inl i), some (.inl 9), some (.inl 9), some (.inl x), some (.inl y), some (.inl z), some (.inl 1)]) (sk' := [.inl i]) (h' := h1) rfl ?_
                                      refine E_b (x := (.ifCond .ne 8, 103, [], [])) rfl rfl (fun c100 => ?_) (fun c100 => ?_)
                                      · rw [c_ne (by first | assumption | (refine ⟨?_, ?_⟩ <;> omega) | (simp only [xr] at *; omega)) (by first | assumption | (refine ⟨?_, ?_⟩ <;> omega) | (simp only [xr] at *; omega))] at c100
                                        simp only [decide_eq_true_eq, decide_eq_false_iff_not, Decidable.not_not] at c100
                                        show xEx G0 cdX12_mergedApart (some .int) (xRn G0 MT (d + 22)) Q b 103 [some (.inr (.inr 66)), some (.inl 1), some (.inl k), some (.inl i), some (.inl 9), some (.inl 9), some (.inl x), some (.inl y), some (.inl z), some (.inl 1)] [] h1
                                        refine E_s 2 (i' := 105) (ls' := [some (.inr (.inr 66)), some (.inl 1), some (.inl k), some (.inl i), some (.inl 9), some (.inl 9), some (.inl x), some (.inl y), some (.inl z), some (.inl 1)]) (sk' := [.inl 1, .inl i]) (h' := h1) rfl ?_
                                        refine E_b (x := (.if_icmp .ne 8, 108, [], [])) rfl rfl (fun c105 => ?_) (fun c105 => ?_)
                                        · rw [c_ne (by first | assumption | (refine ⟨?_, ?_⟩ <;> omega) | (simp only [xr] at *; omega)) (by first | assumption | (refine ⟨?_, ?_⟩ <;> omega) | (simp only [xr] at *; omega))] at c105
                                          simp only [decide_eq_true_eq, decide_eq_false_iff_not, Decidable.not_not] at c105
                                          show xEx G0 cdX12_mergedApart (some .int) (xRn G0 MT (d + 22)) Q b 108 [some (.inr (.inr 66)), some (.inl 1), some (.inl k), some (.inl i), some (.inl 9), some (.inl 9), some (.inl x), some (.inl y), some (.inl z), some (.inl 1)] [] h1
                                          refine E_s 1 (i' := 109) (ls' := [some (.inr (.inr 66)), some (.inl 1), some (.inl k), some (.inl i), some (.inl 9), some (.inl 9), some (.inl x), some (.inl y), some (.inl z), some (.inl 1)]) (sk' := [.inl z]) (h' := h1) rfl ?_
                                          exact E_ret (x := (.ireturn, 0, [], [])) (v := some (.inl z)) rfl (Or.inl rfl) (by
                                            have r9 := hF9 kk h7 ((x + 9) * 361 + (y + 9) * 19 + (z + 9)) (by omega) (by simp [ptN]; omega) ddp hnz _ (fun a z1 z2 => (f1 a z1 z2).trans (hfz a z1 z2))
                                            rw [pt_3 (by omega) (by omega) (by omega)] at r9
                                            have e9 : pX x y z i = z := by unfold pX; rw [if_neg (by omega), if_neg (by omega)]
                                            rw [e9] at r9
                                            exact r9)
                                        · rw [c_ne (by first | assumption | (refine ⟨?_, ?_⟩ <;> omega) | (simp only [xr] at *; omega)) (by first | assumption | (refine ⟨?_, ?_⟩ <;> omega) | (simp only [xr] at *; omega))] at c105
                                          simp only [decide_eq_true_eq, decide_eq_false_iff_not, Decidable.not_not] at c105
                                          show xEx G0 cdX12_mergedApart (some .int) (xRn G0 MT (d + 22)) Q b 106 [some (.inr (.inr 66)), some (.inl 1), some (.inl k), some (.inl i), some (.inl 9), some (.inl 9), some (.inl x), some (.inl y), some (.inl z), some (.inl 1)] [] h1
                                          refine E_s 2 (i' := 109) (ls' := [some (.inr (.inr 66)), some (.inl 1), some (.inl k), some (.inl i), some (.inl 9), some (.inl 9), some (.inl x), some (.inl y), some (.inl z), some (.inl 1)]) (sk' := [.inl y]) (h' := h1) rfl ?_
                                          exact E_ret (x := (.ireturn, 0, [], [])) (v := some (.inl y)) rfl (Or.inl rfl) (by
                                            have r9 := hF9 kk h7 ((x + 9) * 361 + (y + 9) * 19 + (z + 9)) (by omega) (by simp [ptN]; omega) ddp hnz _ (fun a z1 z2 => (f1 a z1 z2).trans (hfz a z1 z2))
                                            rw [pt_3 (by omega) (by omega) (by omega)] at r9
                                            have e9 : pX x y z i = y := by unfold pX; rw [if_neg (by omega), if_pos (by omega)]
                                            rw [e9] at r9
                                            exact r9)
                                      · rw [c_ne (by first | assumption | (refine ⟨?_, ?_⟩ <;> omega) | (simp only [xr] at *; omega)) (by first | assumption | (refine ⟨?_, ?_⟩ <;> omega) | (simp only [xr] at *; omega))] at c100
                                        simp only [decide_eq_true_eq, decide_eq_false_iff_not, Decidable.not_not] at c100
                                        show xEx G0 cdX12_mergedApart (some .int) (xRn G0 MT (d + 22)) Q b 101 [some (.inr (.inr 66)), some (.inl 1), some (.inl k), some (.inl i), some (.inl 9), some (.inl 9), some (.inl x), some (.inl y), some (.inl z), some (.inl 1)] [] h1
                                        refine E_s 2 (i' := 109) (ls' := [some (.inr (.inr 66)), some (.inl 1), some (.inl k), some (.inl i), some (.inl 9), some (.inl 9), some (.inl x), some (.inl y), some (.inl z), some (.inl 1)]) (sk' := [.inl x]) (h' := h1) rfl ?_
                                        exact E_ret (x := (.ireturn, 0, [], [])) (v := some (.inl x)) rfl (Or.inl rfl) (by
                                          have r9 := hF9 kk h7 ((x + 9) * 361 + (y + 9) * 19 + (z + 9)) (by omega) (by simp [ptN]; omega) ddp hnz _ (fun a z1 z2 => (f1 a z1 z2).trans (hfz a z1 z2))
                                          rw [pt_3 (by omega) (by omega) (by omega)] at r9
                                          have e9 : pX x y z i = x := by unfold pX; rw [if_pos (by omega)]
                                          rw [e9] at r9
                                          exact r9)
                          exact key60 _ _ (-9) _ (by omega) (by omega) hfy (fun q0 z1 z2 => hny q0 z1 (by omega)) (Nat.lt_succ_self _)
                    exact key54 _ _ (-9) _ _ (by omega) (by omega) hfx (fun q0 z1 z2 => hnx q0 z1 (by omega)) (Nat.lt_succ_self _)
              exact key48 _ _ (-9) none none none (by omega) (by omega) (fun _ _ _ => rfl) (fun q0 z1 z2 => by omega) (Nat.lt_succ_self _)
        · rw [c_ne (by first | assumption | (refine ⟨?_, ?_⟩ <;> omega) | (simp only [xr] at *; omega)) (by first | assumption | (refine ⟨?_, ?_⟩ <;> omega) | (simp only [xr] at *; omega))] at c22
          simp only [decide_eq_true_eq, decide_eq_false_iff_not, Decidable.not_not] at c22
          show xEx G0 cdX12_mergedApart (some .int) (xRn G0 MT (d + 22)) Q b 23 [some (.inr (.inr 66)), some (.inl 1), some (.inl k), some (.inl i), none, none, none, none, none, none] [] g1
          obtain ⟨z0, rfl⟩ : h 86 k = 0 ∧ g1 = xup h 66 0 0 := by
            rcases hq4 with ⟨-, a, b⟩ | ⟨a, -⟩
            · exact ⟨a, b⟩
            · omega
          refine E_s 2 (i' := 25) (ls' := [some (.inr (.inr 66)), some (.inl 1), some (.inl k), some (.inl i), none, none, none, none, none, none]) (sk' := [.inl 0]) (h' := (xup h 66 0 0)) rfl ?_
          refine E_b (x := (.ifCond .le 7, 28, [], [])) rfl rfl (fun c25 => ?_) (fun c25 => ?_)
          · show xEx G0 cdX12_mergedApart (some .int) (xRn G0 MT (d + 22)) Q b 28 [some (.inr (.inr 66)), some (.inl 1), some (.inl k), some (.inl i), none, none, none, none, none, none] [] (xup h 66 0 0)
            refine E_s 1 (i' := 29) (ls' := [some (.inr (.inr 66)), some (.inl 1), some (.inl k), some (.inl i), none, none, none, none, none, none]) (sk' := [.inl (-100)]) (h' := (xup h 66 0 0)) rfl ?_
            exact E_ret (x := (.ireturn, 0, [], [])) (v := some (.inl (-100))) rfl (Or.inl rfl) (hZ kk (by rw [← e7]; exact z0))
          · show xEx G0 cdX12_mergedApart (some .int) (xRn G0 MT (d + 22)) Q b 26 [some (.inr (.inr 66)), some (.inl 1), some (.inl k), some (.inl i), none, none, none, none, none, none] [] (xup h 66 0 0)
            exact absurd c25 (by decide)
    · rw [c_ne (by first | assumption | (refine ⟨?_, ?_⟩ <;> omega) | (simp only [xr] at *; omega)) (by first | assumption | (refine ⟨?_, ?_⟩ <;> omega) | (simp only [xr] at *; omega))] at c10
      simp only [decide_eq_true_eq, decide_eq_false_iff_not, Decidable.not_not] at c10
      show xEx G0 cdX12_mergedApart (some .int) (xRn G0 MT (d + 22)) Q b 11 [some (.inr (.inr 66)), some (.inl 1), some (.inl k), some (.inl i), none, none, none, none, none, none] [.inr (.inr 66)] h
      refine E_s 5 (i' := 17) (ls' := [some (.inr (.inr 66)), some (.inl 1), some (.inl k), some (.inl i), none, none, none, none, none, none]) (sk' := [.inl 1]) (h' := (xup h 66 0 1)) rfl ?_
      refine E_b (x := (.ifCond .gt 12, 23, [], [])) rfl rfl (fun c17 => ?_) (fun c17 => ?_)
      · show xEx G0 cdX12_mergedApart (some .int) (xRn G0 MT (d + 22)) Q b 23 [some (.inr (.inr 66)), some (.inl 1), some (.inl k), some (.inl i), none, none, none, none, none, none] [] (xup h 66 0 1)
        
        refine E_s 2 (i' := 25) (ls' := [some (.inr (.inr 66)), some (.inl 1), some (.inl k), some (.inl i), none, none, none, none, none, none]) (sk' := [.inl 1]) (h' := (xup h 66 0 1)) rfl ?_
        refine E_b (x := (.ifCond .le 7, 28, [], [])) rfl rfl (fun c25 => ?_) (fun c25 => ?_)
        · show xEx G0 cdX12_mergedApart (some .int) (xRn G0 MT (d + 22)) Q b 28 [some (.inr (.inr 66)), some (.inl 1), some (.inl k), some (.inl i), none, none, none, none, none, none] [] (xup h 66 0 1)
          exact absurd c25 (by decide)
        · show xEx G0 cdX12_mergedApart (some .int) (xRn G0 MT (d + 22)) Q b 26 [some (.inr (.inr 66)), some (.inl 1), some (.inl k), some (.inl i), none, none, none, none, none, none] [] (xup h 66 0 1)
          refine E_s 2 (i' := 29) (ls' := [some (.inr (.inr 66)), some (.inl 1), some (.inl k), some (.inl i), none, none, none, none, none, none]) (sk' := [.inl 0]) (h' := (xup h 66 0 1)) rfl ?_
          exact E_ret (x := (.ireturn, 0, [], [])) (v := some (.inl 0)) rfl (Or.inl rfl) (hN (by omega))
      · show xEx G0 cdX12_mergedApart (some .int) (xRn G0 MT (d + 22)) Q b 18 [some (.inr (.inr 66)), some (.inl 1), some (.inl k), some (.inl i), none, none, none, none, none, none] [] (xup h 66 0 1)
        exact absurd c17 (by decide)
