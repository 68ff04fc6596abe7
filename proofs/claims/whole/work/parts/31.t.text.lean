set_option maxHeartbeats 1000000 in
theorem c_clear (d b : Nat) (h : xH) {Q : xO → xH → Prop} (hQ : Q (.inl none) (xup h 64 1 0)) : xRn G0 MT (d + 1) b 93 [.inr (.inr 64)] h Q := by
  refine R_of (M := mX10_clear) rfl (Nat.le_of_ble_eq_true rfl) ?_
  show xEx G0 cdX10_clear none (xRn G0 MT d) Q b 0 [some (.inr (.inr 64))] [] h
  refine E_s 3 (i' := 3) (ls' := [some (.inr (.inr 64))]) (sk' := []) (h' := (xup h 64 1 0)) rfl ?_
  exact E_ret (x := (.return_, 0, [], [])) (v := none) rfl (trivial) (hQ)
theorem clr_l (h : xH) (s : List Int) : tadds (xup h 64 1 0) s 64 1 = ((s.length : Nat) : Int) := by
  rw [tadds_l, xup_s]
  omega
theorem c_spN3 (d b : Nat) (h S T : xH) (as le : Int → Int) (n0 : Int) (wt : Int → Int) (hF : FW n0 wt 9 S) (hR : RC h S) (h3 : S 0 0 ≤ 300) (hT : FWT S 7 T) (hRT : RCT h T) (h4 : T 0 0 ≤ 150) (hp : ∀ j, 0 ≤ j → j ≤ 14 → h 57 j = as j ∧ h 58 j = le j) (ht : TRp as le S T 3 0) (l0 : 0 ≤ h 64 1) (l1 : h 64 1 + ((txN S T as le 3 0).length : Nat) + 3 ≤ 1024) {Q : xO → xH → Prop} (hQ : Q (.inl none) (tadds h (txN S T as le 3 0))) : xRn2 G0 MT (d + 26) b 57 [.inr (.inr 56), .inr (.inr 64), .inl 0] h Q :=
  c_spN hF hT 3 d b h 0 hp hR h3 hRT h4 (Int.le_refl _) (by decide) ht l0 l1 hQ
set_option maxHeartbeats 1000000 in
theorem o_write0 (d  : Nat) (h S T : xH) (k : Int) (hk : xr k) (ev0 : EV h S T) (hK0 : 0 ≤ h 9 9 ∧ h 9 9 ≤ 300) {Q : xO → xH → Prop} (hN : ¬ (0 ≤ k ∧ k < h 9 9) → Q (.inr "java/util/NoSuchElementException") h) (hO : (0 ≤ k ∧ k < h 9 9) → Q (.inl (some (.inl (((TE S k).length : Nat)))))  (tadds (xup h 64 1 0) (TE S k))) : xRn2 G0 MT (d + 24) 1 109 [.inr (.inr 0), .inl 0, .inl k] h Q := by
  refine R2_of (M := mX11_write) rfl (Nat.le_of_ble_eq_true rfl) ?_
  show xEx2 RX11 G0 cdX11_write (some .int) (xRn2 G0 MT (d + 23)) Q 1 0 [some (.inr (.inr 0)), some (.inl 0), some (.inl k), none] [] h
  refine E2_s 3 (i' := 3) (ls' := [some (.inr (.inr 0)), some (.inl 0), some (.inl k), none]) (sk' := [.inl k, .inl 0, .inr (.inr 0)]) (h' := h) rfl ?_
  refine E2_cx (x := (.invokevirtual 194, 2, [(9, 143)], [0])) (b1 := 1) (b2 := 0) (v := (some (.inr (.inr 9)))) (q := fun h9 => (0 ≤ k ∧ k < h 9 9) ∧ h = h9) rfl rfl (Nat.le_of_ble_eq_true rfl) (fun z => by cases z) (xRn_2 _ _ _ _ _ _ (c_growthWith0 (d + 20) h k hk hK0 (fun z => Or.inl ⟨rfl, z, rfl⟩) (fun z => Or.inr ⟨_, rfl, hN z⟩))) (fun h9 hq9 => ?_)
  obtain ⟨qk, rfl⟩ := hq9
  show xEx2 RX11 G0 cdX11_write (some .int) (xRn2 G0 MT (d + 23)) Q 0 4 [some (.inr (.inr 0)), some (.inl 0), some (.inl k), none] [.inr (.inr 9)] h
  have hk2 : 0 ≤ k ∧ k < S 0 0 := by rw [← ev0.1.1]; exact qk
  refine E2_s 3 (i' := 7) (ls' := [some (.inr (.inr 0)), some (.inl 0), some (.inl k), some (.inr (.inr 9))]) (sk' := [.inr (.inr 64)]) (h' := h) rfl ?_
  refine E2_cv (x := (.invokevirtual 224, 0, [(8, 93)], [0])) (q := fun h9 => h9 = xup h 64 1 0) rfl rfl (Nat.le_of_ble_eq_true rfl) (xRn_2 _ _ _ _ _ _ (c_clear (d + 22) 0 h ⟨rfl, rfl⟩)) (fun h9 e9 => ?_)
  subst e9
  show xEx2 RX11 G0 cdX11_write (some .int) (xRn2 G0 MT (d + 23)) Q 0 8 [some (.inr (.inr 0)), some (.inl 0), some (.inl k), some (.inr (.inr 9))] [] (xup h 64 1 0)
  have ev1 : EV (xup h 64 1 0) S T := EV_fr (fun a z => xup_o _ _ _ _ a (by omega)) ev0
  refine E2_s 4 (i' := 12) (ls' := [some (.inr (.inr 0)), some (.inl 0), some (.inl k), some (.inr (.inr 9))]) (sk' := [.inl k, .inr (.inr 64), .inr (.inr 9)]) (h' := (xup h 64 1 0)) rfl ?_
  have r9 := TE_r ev0.2.1 hk2.1 hk2.2
  have r8 := (ev0.2.1 k hk2.1 hk2.2).2.2.1
  refine E2_cv (x := (.invokevirtual 227, 2, [(1, 26), (7, 26)], [1])) (q := fun h9 => h9 = (tadds (xup h 64 1 0) (TE S k))) rfl rfl (Nat.le_of_ble_eq_true rfl) (c_spK0_ (d + 11) 0 (xup h 64 1 0) S k _ _ ev0.2.1 ev1.1 ev0.2.2.1.2 hk2 (show (0 : Int) ≤ 0 by omega) (show (0 : Int) + ((TE S k).length : Nat) + 3 ≤ 1024 by omega) ⟨rfl, rfl⟩) (fun h9 e9 => ?_)
  subst e9
  show xEx2 RX11 G0 cdX11_write (some .int) (xRn2 G0 MT (d + 23)) Q 0 13 [some (.inr (.inr 0)), some (.inl 0), some (.inl k), some (.inr (.inr 9))] [] (tadds (xup h 64 1 0) (TE S k))
  refine E2_s 3 (i' := 16) (ls' := [some (.inr (.inr 0)), some (.inl 0), some (.inl k), some (.inr (.inr 9))]) (sk' := [.inl ((tadds (xup h 64 1 0) (TE S k)) 64 1)]) (h' := (tadds (xup h 64 1 0) (TE S k))) rfl ?_
  refine E2_ti (y := (((TE S k).length : Nat) : Int)) (by rw [clr_l]) ?_
  skip
  exact E2_ret (x := (.ireturn, 0, [], [])) (v := some (.inl (((TE S k).length : Nat) : Int))) rfl (Or.inl rfl) (hO qk)
set_option maxHeartbeats 1000000 in
theorem o_write1 (d  : Nat) (h S T : xH) (k : Int) (hk : xr k) (ev0 : EV h S T) (hK1 : 0 ≤ h 28 9 ∧ h 28 9 ≤ 150) {Q : xO → xH → Prop} (hN : ¬ (0 ≤ k ∧ k < h 28 9) → Q (.inr "java/util/NoSuchElementException") h) (hO : (0 ≤ k ∧ k < h 28 9) → Q (.inl (some (.inl (((TT S T k).length : Nat)))))  (tadds (xup h 64 1 0) (TT S T k))) : xRn2 G0 MT (d + 24) 1 109 [.inr (.inr 0), .inl 1, .inl k] h Q := by
  refine R2_of (M := mX11_write) rfl (Nat.le_of_ble_eq_true rfl) ?_
  show xEx2 RX11 G0 cdX11_write (some .int) (xRn2 G0 MT (d + 23)) Q 1 0 [some (.inr (.inr 0)), some (.inl 1), some (.inl k), none] [] h
  refine E2_s 3 (i' := 3) (ls' := [some (.inr (.inr 0)), some (.inl 1), some (.inl k), none]) (sk' := [.inl k, .inl 1, .inr (.inr 0)]) (h' := h) rfl ?_
  refine E2_cx (x := (.invokevirtual 194, 2, [(9, 143)], [0])) (b1 := 1) (b2 := 0) (v := (some (.inr (.inr 28)))) (q := fun h9 => (0 ≤ k ∧ k < h 28 9) ∧ h = h9) rfl rfl (Nat.le_of_ble_eq_true rfl) (fun z => by cases z) (xRn_2 _ _ _ _ _ _ (c_growthWith1 (d + 20) h k hk hK1 (fun z => Or.inl ⟨rfl, z, rfl⟩) (fun z => Or.inr ⟨_, rfl, hN z⟩))) (fun h9 hq9 => ?_)
  obtain ⟨qk, rfl⟩ := hq9
  show xEx2 RX11 G0 cdX11_write (some .int) (xRn2 G0 MT (d + 23)) Q 0 4 [some (.inr (.inr 0)), some (.inl 1), some (.inl k), none] [.inr (.inr 28)] h
  have hk2 : 0 ≤ k ∧ k < T 0 0 := by rw [← ev0.2.2.2.1.1]; exact qk
  refine E2_s 3 (i' := 7) (ls' := [some (.inr (.inr 0)), some (.inl 1), some (.inl k), some (.inr (.inr 28))]) (sk' := [.inr (.inr 64)]) (h' := h) rfl ?_
  refine E2_cv (x := (.invokevirtual 224, 0, [(8, 93)], [0])) (q := fun h9 => h9 = xup h 64 1 0) rfl rfl (Nat.le_of_ble_eq_true rfl) (xRn_2 _ _ _ _ _ _ (c_clear (d + 22) 0 h ⟨rfl, rfl⟩)) (fun h9 e9 => ?_)
  subst e9
  show xEx2 RX11 G0 cdX11_write (some .int) (xRn2 G0 MT (d + 23)) Q 0 8 [some (.inr (.inr 0)), some (.inl 1), some (.inl k), some (.inr (.inr 28))] [] (xup h 64 1 0)
  have ev1 : EV (xup h 64 1 0) S T := EV_fr (fun a z => xup_o _ _ _ _ a (by omega)) ev0
  refine E2_s 4 (i' := 12) (ls' := [some (.inr (.inr 0)), some (.inl 1), some (.inl k), some (.inr (.inr 28))]) (sk' := [.inl k, .inr (.inr 64), .inr (.inr 28)]) (h' := (xup h 64 1 0)) rfl ?_
  have r9 := TT_r ev0.2.1 ev0.2.2.2.2.1 hk2.1 hk2.2
  refine E2_cv (x := (.invokevirtual 227, 2, [(1, 26), (7, 26)], [1])) (q := fun h9 => h9 = (tadds (xup h 64 1 0) (TT S T k))) rfl rfl (Nat.le_of_ble_eq_true rfl) (c_spK1_ (d + 1) 0 (xup h 64 1 0) S T k _ _ ev0.2.1 ev1.1 ev0.2.2.1.2 ev0.2.2.2.2.1 ev1.2.2.2.1 ev0.2.2.2.2.2.2 hk2 (show (0 : Int) ≤ 0 by omega) (show (0 : Int) + ((TT S T k).length : Nat) + 3 ≤ 1024 by omega) ⟨rfl, rfl⟩) (fun h9 e9 => ?_)
  subst e9
  show xEx2 RX11 G0 cdX11_write (some .int) (xRn2 G0 MT (d + 23)) Q 0 13 [some (.inr (.inr 0)), some (.inl 1), some (.inl k), some (.inr (.inr 28))] [] (tadds (xup h 64 1 0) (TT S T k))
  refine E2_s 3 (i' := 16) (ls' := [some (.inr (.inr 0)), some (.inl 1), some (.inl k), some (.inr (.inr 28))]) (sk' := [.inl ((tadds (xup h 64 1 0) (TT S T k)) 64 1)]) (h' := (tadds (xup h 64 1 0) (TT S T k))) rfl ?_
  refine E2_ti (y := (((TT S T k).length : Nat) : Int)) (by rw [clr_l]) ?_
  skip
  exact E2_ret (x := (.ireturn, 0, [], [])) (v := some (.inl (((TT S T k).length : Nat) : Int))) rfl (Or.inl rfl) (hO qk)
set_option maxHeartbeats 1000000 in
theorem o_wm0 (d  : Nat) (h S T : xH) (k : Int) (hk : xr k) (ev0 : EV h S T) (h7r : ∀ k, 0 ≤ k → k < S 0 0 → 0 ≤ S 7 k ∧ S 7 k ≤ 400000) (hK0 : 0 ≤ h 9 9 ∧ h 9 9 ≤ 300) {Q : xO → xH → Prop} (hN : ¬ (0 ≤ k ∧ k < h 9 9) → Q (.inr "java/util/NoSuchElementException") h) (hZ : (0 ≤ k ∧ k < h 9 9) → S 7 k = 0 → Q (.inl (some (.inl (-1)))) h) (hO : (0 ≤ k ∧ k < h 9 9) → S 7 k ≠ 0 → Q (.inl (some (.inl (((FE S (S 8 k) (S 9 k) (S 10 k)).length : Nat)))))  (tadds (xup h 64 1 0) (FE S (S 8 k) (S 9 k) (S 10 k)))) : xRn2 G0 MT (d + 24) 1 118 [.inr (.inr 0), .inl 0, .inl k] h Q := by
  refine R2_of (M := mX11_writeMerged) rfl (Nat.le_of_ble_eq_true rfl) ?_
  show xEx2 RX11 G0 cdX11_writeMerged (some .int) (xRn2 G0 MT (d + 23)) Q 1 0 [some (.inr (.inr 0)), some (.inl 0), some (.inl k), none] [] h
  refine E2_s 3 (i' := 3) (ls' := [some (.inr (.inr 0)), some (.inl 0), some (.inl k), none]) (sk' := [.inl k, .inl 0, .inr (.inr 0)]) (h' := h) rfl ?_
  refine E2_cx (x := (.invokevirtual 194, 2, [(9, 143)], [0])) (b1 := 1) (b2 := 0) (v := (some (.inr (.inr 9)))) (q := fun h9 => (0 ≤ k ∧ k < h 9 9) ∧ h = h9) rfl rfl (Nat.le_of_ble_eq_true rfl) (fun z => by cases z) (xRn_2 _ _ _ _ _ _ (c_growthWith0 (d + 20) h k hk hK0 (fun z => Or.inl ⟨rfl, z, rfl⟩) (fun z => Or.inr ⟨_, rfl, hN z⟩))) (fun h9 hq9 => ?_)
  obtain ⟨qk, rfl⟩ := hq9
  show xEx2 RX11 G0 cdX11_writeMerged (some .int) (xRn2 G0 MT (d + 23)) Q 0 4 [some (.inr (.inr 0)), some (.inl 0), some (.inl k), none] [.inr (.inr 9)] h
  have hk2 : 0 ≤ k ∧ k < S 0 0 := by rw [← ev0.1.1]; exact qk
  refine E2_s 4 (i' := 8) (ls' := [some (.inr (.inr 0)), some (.inl 0), some (.inl k), some (.inr (.inr 9))]) (sk' := [.inl k, .inr (.inr 21)]) (h' := h) rfl ?_
  have e7 : h 21 k = S 7 k := (ev0.1.2.2.2.2.2.1 k hk2.1 hk2.2).2.2.2.2.2.1
  have r7 := h7r k hk2.1 hk2.2
  refine E2_ld (x := (.iaload, 0, [], [])) (ty := .int) (n := 300) rfl rfl rfl (by omega) (by omega) ?_
  show xEx2 RX11 G0 cdX11_writeMerged (some .int) (xRn2 G0 MT (d + 23)) Q 0 9 [some (.inr (.inr 0)), some (.inl 0), some (.inl k), some (.inr (.inr 9))] [.inl (h 21 k)] h
  refine E2_b (x := (.ifCond .ne 5, 12, [], [])) rfl rfl (fun c9 => ?_) (fun c9 => ?_)
  · rw [c_ne (by first | assumption | (refine ⟨?_, ?_⟩ <;> omega) | (simp only [xr] at *; omega)) (by first | assumption | (refine ⟨?_, ?_⟩ <;> omega) | (simp only [xr] at *; omega))] at c9
    simp only [decide_eq_true_eq, decide_eq_false_iff_not, Decidable.not_not] at c9
    show xEx2 RX11 G0 cdX11_writeMerged (some .int) (xRn2 G0 MT (d + 23)) Q 0 12 [some (.inr (.inr 0)), some (.inl 0), some (.inl k), some (.inr (.inr 9))] [] h
    have h7 : S 7 k ≠ 0 := by omega
    refine E2_s 2 (i' := 14) (ls' := [some (.inr (.inr 0)), some (.inl 0), some (.inl k), some (.inr (.inr 9))]) (sk' := [.inr (.inr 64)]) (h' := h) rfl ?_
    refine E2_cv (x := (.invokevirtual 224, 0, [(8, 93)], [0])) (q := fun h9 => h9 = xup h 64 1 0) rfl rfl (Nat.le_of_ble_eq_true rfl) (xRn_2 _ _ _ _ _ _ (c_clear (d + 22) 0 h ⟨rfl, rfl⟩)) (fun h9 e9 => ?_)
    subst e9
    show xEx2 RX11 G0 cdX11_writeMerged (some .int) (xRn2 G0 MT (d + 23)) Q 0 15 [some (.inr (.inr 0)), some (.inl 0), some (.inl k), some (.inr (.inr 9))] [] (xup h 64 1 0)
    have ev1 : EV (xup h 64 1 0) S T := EV_fr (fun a z => xup_o _ _ _ _ a (by omega)) ev0
    refine E2_s 4 (i' := 19) (ls' := [some (.inr (.inr 0)), some (.inl 0), some (.inl k), some (.inr (.inr 9))]) (sk' := [.inl k, .inr (.inr 64), .inr (.inr 9)]) (h' := (xup h 64 1 0)) rfl ?_
    obtain ⟨yz, y9, cz⟩ := (ev0.2.1 k hk2.1 hk2.2).2.2.2.2.2.2 h7
    have r9 := FE_r ev0.2.1 cz
    refine E2_cv (x := (.invokevirtual 267, 2, [(1, 27), (7, 27)], [1])) (q := fun h9 => h9 = (tadds (xup h 64 1 0) (FE S (S 8 k) (S 9 k) (S 10 k)))) rfl rfl (Nat.le_of_ble_eq_true rfl) (c_spM0_ (d + 11) 0 (xup h 64 1 0) S k _ _ ev0.2.1 ev1.1 ev0.2.2.1.2 hk2 h7 (show (0 : Int) ≤ 0 by omega) (show (0 : Int) + ((FE S (S 8 k) (S 9 k) (S 10 k)).length : Nat) + 3 ≤ 1024 by omega) ⟨rfl, rfl⟩) (fun h9 e9 => ?_)
    subst e9
    show xEx2 RX11 G0 cdX11_writeMerged (some .int) (xRn2 G0 MT (d + 23)) Q 0 20 [some (.inr (.inr 0)), some (.inl 0), some (.inl k), some (.inr (.inr 9))] [] (tadds (xup h 64 1 0) (FE S (S 8 k) (S 9 k) (S 10 k)))
    refine E2_s 3 (i' := 23) (ls' := [some (.inr (.inr 0)), some (.inl 0), some (.inl k), some (.inr (.inr 9))]) (sk' := [.inl ((tadds (xup h 64 1 0) (FE S (S 8 k) (S 9 k) (S 10 k))) 64 1)]) (h' := (tadds (xup h 64 1 0) (FE S (S 8 k) (S 9 k) (S 10 k)))) rfl ?_
    refine E2_ti (y := (((FE S (S 8 k) (S 9 k) (S 10 k)).length : Nat) : Int)) (by rw [clr_l]) ?_
    skip
    exact E2_ret (x := (.ireturn, 0, [], [])) (v := some (.inl (((FE S (S 8 k) (S 9 k) (S 10 k)).length : Nat) : Int))) rfl (Or.inl rfl) (hO qk h7)
  · rw [c_ne (by first | assumption | (refine ⟨?_, ?_⟩ <;> omega) | (simp only [xr] at *; omega)) (by first | assumption | (refine ⟨?_, ?_⟩ <;> omega) | (simp only [xr] at *; omega))] at c9
    simp only [decide_eq_true_eq, decide_eq_false_iff_not, Decidable.not_not] at c9
    show xEx2 RX11 G0 cdX11_writeMerged (some .int) (xRn2 G0 MT (d + 23)) Q 0 10 [some (.inr (.inr 0)), some (.inl 0), some (.inl k), some (.inr (.inr 9))] [] h
    refine E2_s 1 (i' := 11) (ls' := [some (.inr (.inr 0)), some (.inl 0), some (.inl k), some (.inr (.inr 9))]) (sk' := [.inl (-1)]) (h' := h) rfl ?_
    exact E2_ret (x := (.ireturn, 0, [], [])) (v := some (.inl (-1))) rfl (Or.inl rfl) (hZ qk (by omega))
set_option maxHeartbeats 1000000 in
theorem o_wm1 (d  : Nat) (h S T : xH) (k : Int) (hk : xr k) (ev0 : EV h S T) (h7r : ∀ k, 0 ≤ k → k < T 0 0 → 0 ≤ T 7 k ∧ T 7 k ≤ 400000) (hK1 : 0 ≤ h 28 9 ∧ h 28 9 ≤ 150) {Q : xO → xH → Prop} (hN : ¬ (0 ≤ k ∧ k < h 28 9) → Q (.inr "java/util/NoSuchElementException") h) (hZ : (0 ≤ k ∧ k < h 28 9) → T 7 k = 0 → Q (.inl (some (.inl (-1)))) h) (hO : (0 ≤ k ∧ k < h 28 9) → T 7 k ≠ 0 → Q (.inl (some (.inl (((GT S T (T 8 k) (T 9 k) (T 10 k)).length : Nat)))))  (tadds (xup h 64 1 0) (GT S T (T 8 k) (T 9 k) (T 10 k)))) : xRn2 G0 MT (d + 24) 1 118 [.inr (.inr 0), .inl 1, .inl k] h Q := by
  refine R2_of (M := mX11_writeMerged) rfl (Nat.le_of_ble_eq_true rfl) ?_
  show xEx2 RX11 G0 cdX11_writeMerged (some .int) (xRn2 G0 MT (d + 23)) Q 1 0 [some (.inr (.inr 0)), some (.inl 1), some (.inl k), none] [] h
  refine E2_s 3 (i' := 3) (ls' := [some (.inr (.inr 0)), some (.inl 1), some (.inl k), none]) (sk' := [.inl k, .inl 1, .inr (.inr 0)]) (h' := h) rfl ?_
  refine E2_cx (x := (.invokevirtual 194, 2, [(9, 143)], [0])) (b1 := 1) (b2 := 0) (v := (some (.inr (.inr 28)))) (q := fun h9 => (0 ≤ k ∧ k < h 28 9) ∧ h = h9) rfl rfl (Nat.le_of_ble_eq_true rfl) (fun z => by cases z) (xRn_2 _ _ _ _ _ _ (c_growthWith1 (d + 20) h k hk hK1 (fun z => Or.inl ⟨rfl, z, rfl⟩) (fun z => Or.inr ⟨_, rfl, hN z⟩))) (fun h9 hq9 => ?_)
  obtain ⟨qk, rfl⟩ := hq9
  show xEx2 RX11 G0 cdX11_writeMerged (some .int) (xRn2 G0 MT (d + 23)) Q 0 4 [some (.inr (.inr 0)), some (.inl 1), some (.inl k), none] [.inr (.inr 28)] h
  have hk2 : 0 ≤ k ∧ k < T 0 0 := by rw [← ev0.2.2.2.1.1]; exact qk
  refine E2_s 4 (i' := 8) (ls' := [some (.inr (.inr 0)), some (.inl 1), some (.inl k), some (.inr (.inr 28))]) (sk' := [.inl k, .inr (.inr 40)]) (h' := h) rfl ?_
  have e7 : h 40 k = T 7 k := (ev0.2.2.2.1.2.2.2.2.2.2.1 k hk2.1 hk2.2).2.2.2.2.2.1
  have r7 := h7r k hk2.1 hk2.2
  refine E2_ld (x := (.iaload, 0, [], [])) (ty := .int) (n := 150) rfl rfl rfl (by omega) (by omega) ?_
  show xEx2 RX11 G0 cdX11_writeMerged (some .int) (xRn2 G0 MT (d + 23)) Q 0 9 [some (.inr (.inr 0)), some (.inl 1), some (.inl k), some (.inr (.inr 28))] [.inl (h 40 k)] h
  refine E2_b (x := (.ifCond .ne 5, 12, [], [])) rfl rfl (fun c9 => ?_) (fun c9 => ?_)
  · rw [c_ne (by first | assumption | (refine ⟨?_, ?_⟩ <;> omega) | (simp only [xr] at *; omega)) (by first | assumption | (refine ⟨?_, ?_⟩ <;> omega) | (simp only [xr] at *; omega))] at c9
    simp only [decide_eq_true_eq, decide_eq_false_iff_not, Decidable.not_not] at c9
    show xEx2 RX11 G0 cdX11_writeMerged (some .int) (xRn2 G0 MT (d + 23)) Q 0 12 [some (.inr (.inr 0)), some (.inl 1), some (.inl k), some (.inr (.inr 28))] [] h
    have h7 : T 7 k ≠ 0 := by omega
    refine E2_s 2 (i' := 14) (ls' := [some (.inr (.inr 0)), some (.inl 1), some (.inl k), some (.inr (.inr 28))]) (sk' := [.inr (.inr 64)]) (h' := h) rfl ?_
    refine E2_cv (x := (.invokevirtual 224, 0, [(8, 93)], [0])) (q := fun h9 => h9 = xup h 64 1 0) rfl rfl (Nat.le_of_ble_eq_true rfl) (xRn_2 _ _ _ _ _ _ (c_clear (d + 22) 0 h ⟨rfl, rfl⟩)) (fun h9 e9 => ?_)
    subst e9
    show xEx2 RX11 G0 cdX11_writeMerged (some .int) (xRn2 G0 MT (d + 23)) Q 0 15 [some (.inr (.inr 0)), some (.inl 1), some (.inl k), some (.inr (.inr 28))] [] (xup h 64 1 0)
    have ev1 : EV (xup h 64 1 0) S T := EV_fr (fun a z => xup_o _ _ _ _ a (by omega)) ev0
    refine E2_s 4 (i' := 19) (ls' := [some (.inr (.inr 0)), some (.inl 1), some (.inl k), some (.inr (.inr 28))]) (sk' := [.inl k, .inr (.inr 64), .inr (.inr 28)]) (h' := (xup h 64 1 0)) rfl ?_
    obtain ⟨yz, y9, cz⟩ := (ev0.2.2.2.2.1 k hk2.1 hk2.2).2.2.2.2.2 h7
    have r9 := GT_r ev0.2.1 ev0.2.2.2.2.1 y9 cz
    refine E2_cv (x := (.invokevirtual 267, 2, [(1, 27), (7, 27)], [1])) (q := fun h9 => h9 = (tadds (xup h 64 1 0) (GT S T (T 8 k) (T 9 k) (T 10 k)))) rfl rfl (Nat.le_of_ble_eq_true rfl) (c_spM1_ (d + 1) 0 (xup h 64 1 0) S T k _ _ ev0.2.1 ev1.1 ev0.2.2.1.2 ev0.2.2.2.2.1 ev1.2.2.2.1 ev0.2.2.2.2.2.2 hk2 h7 (show (0 : Int) ≤ 0 by omega) (show (0 : Int) + ((GT S T (T 8 k) (T 9 k) (T 10 k)).length : Nat) + 3 ≤ 1024 by omega) ⟨rfl, rfl⟩) (fun h9 e9 => ?_)
    subst e9
    show xEx2 RX11 G0 cdX11_writeMerged (some .int) (xRn2 G0 MT (d + 23)) Q 0 20 [some (.inr (.inr 0)), some (.inl 1), some (.inl k), some (.inr (.inr 28))] [] (tadds (xup h 64 1 0) (GT S T (T 8 k) (T 9 k) (T 10 k)))
    refine E2_s 3 (i' := 23) (ls' := [some (.inr (.inr 0)), some (.inl 1), some (.inl k), some (.inr (.inr 28))]) (sk' := [.inl ((tadds (xup h 64 1 0) (GT S T (T 8 k) (T 9 k) (T 10 k))) 64 1)]) (h' := (tadds (xup h 64 1 0) (GT S T (T 8 k) (T 9 k) (T 10 k)))) rfl ?_
    refine E2_ti (y := (((GT S T (T 8 k) (T 9 k) (T 10 k)).length : Nat) : Int)) (by rw [clr_l]) ?_
    skip
    exact E2_ret (x := (.ireturn, 0, [], [])) (v := some (.inl (((GT S T (T 8 k) (T 9 k) (T 10 k)).length : Nat) : Int))) rfl (Or.inl rfl) (hO qk h7)
  · rw [c_ne (by first | assumption | (refine ⟨?_, ?_⟩ <;> omega) | (simp only [xr] at *; omega)) (by first | assumption | (refine ⟨?_, ?_⟩ <;> omega) | (simp only [xr] at *; omega))] at c9
    simp only [decide_eq_true_eq, decide_eq_false_iff_not, Decidable.not_not] at c9
    show xEx2 RX11 G0 cdX11_writeMerged (some .int) (xRn2 G0 MT (d + 23)) Q 0 10 [some (.inr (.inr 0)), some (.inl 1), some (.inl k), some (.inr (.inr 28))] [] h
    refine E2_s 1 (i' := 11) (ls' := [some (.inr (.inr 0)), some (.inl 1), some (.inl k), some (.inr (.inr 28))]) (sk' := [.inl (-1)]) (h' := h) rfl ?_
    exact E2_ret (x := (.ireturn, 0, [], [])) (v := some (.inl (-1))) rfl (Or.inl rfl) (hZ qk (by omega))
set_option maxHeartbeats 1000000 in
theorem o_ws (d  : Nat) (h S T : xH) (ev0 : EV h S T) (hs : h 56 4 = 0 ∨ h 56 4 = 1) (htr : h 56 4 = 1 → TRp (h 57) (h 58) S T 3 0) {Q : xO → xH → Prop} (hN : ¬ (h 56 4 = 1) → Q (.inr "java/lang/IllegalStateException") h) (hO : h 56 4 = 1 → Q (.inl (some (.inl (((txN S T (h 57) (h 58) 3 0).length : Nat)))))  (tadds (xup h 64 1 0) (txN S T (h 57) (h 58) 3 0))) : xRn2 G0 MT (d + 27) 1 125 [.inr (.inr 0)] h Q := by
  refine R2_of (M := mX11_writeSolved) rfl (Nat.le_of_ble_eq_true rfl) ?_
  show xEx2 RX11 G0 cdX11_writeSolved (some .int) (xRn2 G0 MT (d + 26)) Q 1 0 [some (.inr (.inr 0))] [] h
  refine E2_s 1 (i' := 1) (ls' := [some (.inr (.inr 0))]) (sk' := [.inr (.inr 0)]) (h' := h) rfl ?_
  refine E2_cx (x := (.invokevirtual 291, 0, [(9, 147)], [0])) (b1 := 1) (b2 := 0) (v := none) (q := fun h9 => (h 56 4 = 1) ∧ h = h9) rfl rfl (Nat.le_of_ble_eq_true rfl) (fun z => by cases z) (xRn_2 _ _ _ _ _ _ (c_refNotSolved (d + 25) h hs (fun z9 => Or.inl ⟨rfl, z9, rfl⟩) (fun z9 => Or.inr ⟨_, rfl, hN z9⟩))) (fun h9 hq9 => ?_)
  obtain ⟨qs, rfl⟩ := hq9
  show xEx2 RX11 G0 cdX11_writeSolved (some .int) (xRn2 G0 MT (d + 26)) Q 0 2 [some (.inr (.inr 0))] [] h
  refine E2_s 2 (i' := 4) (ls' := [some (.inr (.inr 0))]) (sk' := [.inr (.inr 64)]) (h' := h) rfl ?_
  refine E2_cv (x := (.invokevirtual 224, 0, [(8, 93)], [0])) (q := fun h9 => h9 = xup h 64 1 0) rfl rfl (Nat.le_of_ble_eq_true rfl) (xRn_2 _ _ _ _ _ _ (c_clear (d + 25) 0 h ⟨rfl, rfl⟩)) (fun h9 e9 => ?_)
  subst e9
  show xEx2 RX11 G0 cdX11_writeSolved (some .int) (xRn2 G0 MT (d + 26)) Q 0 5 [some (.inr (.inr 0))] [] (xup h 64 1 0)
  have ev1 : EV (xup h 64 1 0) S T := EV_fr (fun a z => xup_o _ _ _ _ a (by omega)) ev0
  refine E2_s 5 (i' := 10) (ls' := [some (.inr (.inr 0))]) (sk' := [.inl 0, .inr (.inr 64), .inr (.inr 56)]) (h' := (xup h 64 1 0)) rfl ?_
  have ht := htr qs
  have r9 := txN_r ev0.2.1 ev0.2.2.2.2.1 3 0 ht
  have r8 : ((txN S T (h 57) (h 58) 3 0).length : Int) ≤ 730 := by
    have : (2 ^ 3 : Nat) = 8 := rfl
    omega
  refine E2_cv (x := (.invokevirtual 313, 2, [(4, 57)], [0])) (q := fun h9 => h9 = (tadds (xup h 64 1 0) (txN S T (h 57) (h 58) 3 0))) rfl rfl (Nat.le_of_ble_eq_true rfl) (c_spN3 d 0 (xup h 64 1 0) S T (h 57) (h 58) _ _ ev0.2.1 ev1.1 ev0.2.2.1.2 ev0.2.2.2.2.1 ev1.2.2.2.1 ev0.2.2.2.2.2.2 (fun j _ _ => ⟨rfl, rfl⟩) ht (show (0 : Int) ≤ 0 by omega) (show (0 : Int) + ((txN S T (h 57) (h 58) 3 0).length : Nat) + 3 ≤ 1024 by omega) ⟨rfl, rfl⟩) (fun h9 e9 => ?_)
  subst e9
  show xEx2 RX11 G0 cdX11_writeSolved (some .int) (xRn2 G0 MT (d + 26)) Q 0 11 [some (.inr (.inr 0))] [] (tadds (xup h 64 1 0) (txN S T (h 57) (h 58) 3 0))
  refine E2_s 3 (i' := 14) (ls' := [some (.inr (.inr 0))]) (sk' := [.inl ((tadds (xup h 64 1 0) (txN S T (h 57) (h 58) 3 0)) 64 1)]) (h' := (tadds (xup h 64 1 0) (txN S T (h 57) (h 58) 3 0))) rfl ?_
  refine E2_ti (y := (((txN S T (h 57) (h 58) 3 0).length : Nat) : Int)) (by rw [clr_l]) ?_
  skip
  exact E2_ret (x := (.ireturn, 0, [], [])) (v := some (.inl (((txN S T (h 57) (h 58) 3 0).length : Nat) : Int))) rfl (Or.inl rfl) (hO qs)
