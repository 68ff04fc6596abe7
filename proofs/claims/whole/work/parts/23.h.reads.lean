set_option maxHeartbeats 1000000 in
theorem o_far (d  : Nat) (h : xH) (k : Int) (hk : xr k) (hn : 0 ≤ h 1 2 ∧ h 1 2 ≤ 12) (hr : ∀ k e, 0 ≤ k → k < h 9 9 → 0 ≤ e → e < h 1 2 → xr (h 24 (k * 12 + e)) ∧ xr (h 6 e)) (hK0 : 0 ≤ h 9 9 ∧ h 9 9 ≤ 300) {Q : xO → xH → Prop} (h1 : (0 ≤ k ∧ k < h 9 9) → Q (.inl (some (.inl (frs (fun e => h 24 (k * 12 + e)) (h 6) (h 1 2).toNat)))) h) (h0 : ¬ (0 ≤ k ∧ k < h 9 9) → Q (.inr "java/util/NoSuchElementException") h) : xRn G0 MT (d + 6) 1 116 [.inr (.inr 0), .inl k] h Q := by
  refine R_of (M := mX11_far) rfl (Nat.le_of_ble_eq_true rfl) ?_
  show xEx G0 cdX11_far (some .int) (xRn G0 MT (d + 5)) Q 1 0 [some (.inr (.inr 0)), some (.inl k)] [] h
  refine E_s 3 (i' := 3) (ls' := [some (.inr (.inr 0)), some (.inl k)]) (sk' := [.inl k, .inl 0, .inr (.inr 0)]) (h' := h) rfl ?_
  refine E_cx (x := (.invokevirtual 244, 2, [(9, 144)], [0])) (b1 := 1) (b2 := 0) (v := none) (q := fun h9 => (0 ≤ k ∧ k < h 9 9) ∧ h = h9) rfl rfl (Nat.le_of_ble_eq_true rfl) (fun z => by cases z) (c_refNotKept0 (d + 3) h k hk hK0 (fun z => Or.inl ⟨rfl, z, rfl⟩) (fun z => Or.inr ⟨_, rfl, h0 z⟩)) (fun h9 hq9 => ?_)
  obtain ⟨qk, rfl⟩ := hq9
  show xEx G0 cdX11_far (some .int) (xRn G0 MT (d + 5)) Q 0 4 [some (.inr (.inr 0)), some (.inl k)] [] h
  refine E_s 3 (i' := 7) (ls' := [some (.inr (.inr 0)), some (.inl k)]) (sk' := [.inl k, .inr (.inr 9)]) (h' := h) rfl ?_
  refine E_ci (x := (.invokevirtual 263, 1, [(1, 22)], [0])) (r := (frs (fun e => h 24 (k * 12 + e)) (h 6) (h 1 2).toNat)) (h' := h) rfl rfl (Nat.le_of_ble_eq_true rfl) (c_farness (d + 3) 0 h k ⟨by omega, by omega⟩ hn (fun e z1 z2 => hr k e (by omega) (by omega) z1 z2) ⟨rfl, rfl⟩) ?_
  show xEx G0 cdX11_far (some .int) (xRn G0 MT (d + 5)) Q 0 8 [some (.inr (.inr 0)), some (.inl k)] [.inl (frs (fun e => h 24 (k * 12 + e)) (h 6) (h 1 2).toNat)] h
  exact E_ret (x := (.ireturn, 0, [], [])) (v := some (.inl (frs (fun e => h 24 (k * 12 + e)) (h 6) (h 1 2).toNat))) rfl (Or.inl rfl) (h1 qk)
set_option maxHeartbeats 1000000 in
theorem m_far (d b : Nat) (h : xH) (k : Int) (hk : xr k) (hn : 0 ≤ h 66 4 ∧ h 66 4 ≤ 12) (hr : ∀ k e, 0 ≤ k → k < h 66 8 → 0 ≤ e → e < h 66 4 → xr (h 77 (12 * k + e)) ∧ xr (h 67 (4 * e + 3))) (hM0 : 0 ≤ h 66 8 ∧ h 66 8 ≤ 300) {Q : xO → xH → Prop} (h1 : (0 ≤ k ∧ k < h 66 8) → Q (.inl (some (.inl (frs (fun e => h 77 (12 * k + e)) (fun e => h 67 (4 * e + 3)) (h 66 4).toNat)))) (xup h 66 0 0)) (h0 : ¬ (0 ≤ k ∧ k < h 66 8) → Q (.inl (some (.inl (0)))) (xup h 66 0 1)) : xRn G0 MT (d + 6) b 224 [.inr (.inr 66), .inl k] h Q := by
  refine R_of (M := mX12_far) rfl (Nat.le_of_ble_eq_true rfl) ?_
  show xEx G0 cdX12_far (some .int) (xRn G0 MT (d + 5)) Q b 0 [some (.inr (.inr 66)), some (.inl k)] [] h
  refine E_s 4 (i' := 4) (ls' := [some (.inr (.inr 66)), some (.inl k)]) (sk' := [.inl k, .inl 0, .inr (.inr 66), .inr (.inr 66)]) (h' := h) rfl ?_
  refine E_cp (x := (.invokevirtual 295, 2, [(10, 193)], [0])) (q := fun r1 h9 => ((r1 = 1 ∧ (0 ≤ k ∧ k < h 66 8)) ∨ (r1 = 0 ∧ ¬ (0 ≤ k ∧ k < h 66 8))) ∧ h = h9) rfl rfl (Nat.le_of_ble_eq_true rfl) (m_isKept0 (d + 3) 0 h k hk hM0 (fun z => ⟨_, rfl, Or.inl ⟨rfl, z⟩, rfl⟩) (fun z => ⟨_, rfl, Or.inr ⟨rfl, z⟩, rfl⟩)) (fun r1 h9 q1 => ?_)
  obtain ⟨q1, rfl⟩ := q1
  show xEx G0 cdX12_far (some .int) (xRn G0 MT (d + 5)) Q b 5 [some (.inr (.inr 66)), some (.inl k)] [.inl r1, .inr (.inr 66)] h
  refine E_b (x := (.ifCond .eq 7, 8, [], [])) rfl rfl (fun c5 => ?_) (fun c5 => ?_)
  · rw [c_eq (by first | assumption | (refine ⟨?_, ?_⟩ <;> omega) | (simp only [xr] at *; omega)) (by first | assumption | (refine ⟨?_, ?_⟩ <;> omega) | (simp only [xr] at *; omega))] at c5
    simp only [decide_eq_true_eq, decide_eq_false_iff_not, Decidable.not_not] at c5
    show xEx G0 cdX12_far (some .int) (xRn G0 MT (d + 5)) Q b 8 [some (.inr (.inr 66)), some (.inl k)] [.inr (.inr 66)] h
    refine E_s 4 (i' := 12) (ls' := [some (.inr (.inr 66)), some (.inl k)]) (sk' := [.inl 1]) (h' := (xup h 66 0 1)) rfl ?_
    refine E_b (x := (.ifCond .le 7, 15, [], [])) rfl rfl (fun c12 => ?_) (fun c12 => ?_)
    · show xEx G0 cdX12_far (some .int) (xRn G0 MT (d + 5)) Q b 15 [some (.inr (.inr 66)), some (.inl k)] [] (xup h 66 0 1)
      exact absurd c12 (by decide)
    · show xEx G0 cdX12_far (some .int) (xRn G0 MT (d + 5)) Q b 13 [some (.inr (.inr 66)), some (.inl k)] [] (xup h 66 0 1)
      refine E_s 2 (i' := 18) (ls' := [some (.inr (.inr 66)), some (.inl k)]) (sk' := [.inl 0]) (h' := (xup h 66 0 1)) rfl ?_
      exact E_ret (x := (.ireturn, 0, [], [])) (v := some (.inl 0)) rfl (Or.inl rfl) (h0 (by omega))
  · rw [c_eq (by first | assumption | (refine ⟨?_, ?_⟩ <;> omega) | (simp only [xr] at *; omega)) (by first | assumption | (refine ⟨?_, ?_⟩ <;> omega) | (simp only [xr] at *; omega))] at c5
    simp only [decide_eq_true_eq, decide_eq_false_iff_not, Decidable.not_not] at c5
    show xEx G0 cdX12_far (some .int) (xRn G0 MT (d + 5)) Q b 6 [some (.inr (.inr 66)), some (.inl k)] [.inr (.inr 66)] h
    refine E_s 5 (i' := 12) (ls' := [some (.inr (.inr 66)), some (.inl k)]) (sk' := [.inl 0]) (h' := (xup h 66 0 0)) rfl ?_
    refine E_b (x := (.ifCond .le 7, 15, [], [])) rfl rfl (fun c12 => ?_) (fun c12 => ?_)
    · show xEx G0 cdX12_far (some .int) (xRn G0 MT (d + 5)) Q b 15 [some (.inr (.inr 66)), some (.inl k)] [] (xup h 66 0 0)
      refine E_s 2 (i' := 17) (ls' := [some (.inr (.inr 66)), some (.inl k)]) (sk' := [.inl k, .inr (.inr 66)]) (h' := (xup h 66 0 0)) rfl ?_
      refine E_ci (x := (.invokevirtual 381, 1, [(10, 223)], [0])) (r := (frs (fun e => h 77 (12 * k + e)) (fun e => h 67 (4 * e + 3)) (h 66 4).toNat)) (h' := (xup h 66 0 0)) rfl rfl (Nat.le_of_ble_eq_true rfl) (m_farOf (d + 4) 0 (xup h 66 0 0) k ⟨by omega, by omega⟩ hn (fun e z1 z2 => hr k e (by omega) (by omega) z1 z2) ⟨rfl, rfl⟩) ?_
      show xEx G0 cdX12_far (some .int) (xRn G0 MT (d + 5)) Q b 18 [some (.inr (.inr 66)), some (.inl k)] [.inl (frs (fun e => h 77 (12 * k + e)) (fun e => h 67 (4 * e + 3)) (h 66 4).toNat)] (xup h 66 0 0)
      exact E_ret (x := (.ireturn, 0, [], [])) (v := some (.inl (frs (fun e => h 77 (12 * k + e)) (fun e => h 67 (4 * e + 3)) (h 66 4).toNat))) rfl (Or.inl rfl) (h1 (by omega))
    · show xEx G0 cdX12_far (some .int) (xRn G0 MT (d + 5)) Q b 13 [some (.inr (.inr 66)), some (.inl k)] [] (xup h 66 0 0)
      exact absurd c12 (by decide)
theorem far_e {h : xH} (hI : Inv h) {k : Int} (z1 : 0 ≤ k) (z2 : k < h 9 9) : frs (fun e => h 24 (k * 12 + e)) (h 6) (h 1 2).toNat = frs (fun e => h 77 (12 * k + e)) (fun e => h 67 (4 * e + 3)) (h 66 4).toNat := by
  obtain ⟨-, -, -, -, -, -, -, -, b9⟩ := Inv_e hI
  obtain ⟨c1, c2, c3, c4, c5, c6, m4, m1, m6, m3, m2, tt, kk⟩ := Inv_b hI
  rw [m4]
  exact frs_congr _ (fun e y1 y2 => ⟨((b9 k z1 z2).2.2.2.2.2.2 e y1 (by omega)).1.symm, (tt e y1 (by omega)).2.2.2.symm⟩)
theorem far_k {h : xH} (hI : Inv h) : ∀ k e, 0 ≤ k → k < h 9 9 → 0 ≤ e → e < h 1 2 → xr (h 24 (k * 12 + e)) ∧ xr (h 6 e) := fun k e z1 z2 z3 z4 => by
  obtain ⟨-, -, -, -, -, -, -, -, b9⟩ := Inv_e hI
  obtain ⟨c1, c2, c3, -⟩ := Inv_b hI
  exact ⟨((b9 k z1 z2).2.2.2.2.2.2 e z3 z4).2, xr2 (c3 e z3 z4).2.2.2 (by decide) (by decide)⟩
theorem far_m {h : xH} (hI : Inv h) : ∀ k e, 0 ≤ k → k < h 66 8 → 0 ≤ e → e < h 66 4 → xr (h 77 (12 * k + e)) ∧ xr (h 67 (4 * e + 3)) := fun k e z1 z2 z3 z4 => by
  obtain ⟨-, b1, -, -, -, -, -, -, b9⟩ := Inv_e hI
  obtain ⟨c1, c2, c3, c4, c5, c6, m4, m1, m6, m3, m2, tt, kk⟩ := Inv_b hI
  rw [b1] at z2
  rw [m4] at z4
  rw [((b9 k z1 z2).2.2.2.2.2.2 e z3 z4).1, (tt e z3 z4).2.2.2]
  exact far_k hI k e z1 z2 z3 z4
set_option maxHeartbeats 1000000 in
theorem CO_far (d : Nat) {h : xH} (hI : Inv h) (k : Int) (hk : xr k) : CO (d + 6) 1 116 224 [.inl k] ["java/util/NoSuchElementException"] h := by
  obtain ⟨b0, b1, -, -, -, -, -, -, b9⟩ := Inv_e hI
  obtain ⟨c1, -, -, -, -, -, m4, -⟩ := Inv_b hI
  have b8 : 0 ≤ h 66 8 ∧ h 66 8 ≤ 300 := by rw [b1]; exact b0
  have c8 : 0 ≤ h 66 4 ∧ h 66 4 ≤ 12 := by rw [m4]; exact c1
  refine o_far d h k hk c1 (far_k hI) b0 (fun q u => ?_) (fun q u => ?_)
  · exact m_far d 0 (xup h 112 0 u) k hk c8 (far_m hI) b8 (fun z => CO_v hI u (far_e hI q.1 q.2)) (fun z => absurd (show 0 ≤ k ∧ k < h 66 8 by omega) z)
  · exact m_far d 0 (xup h 112 0 u) k hk c8 (far_m hI) b8 (fun z => absurd (show 0 ≤ k ∧ k < h 9 9 by have z : 0 ≤ k ∧ k < h 66 8 := z; omega) q) (fun _ => CO_x hI 0 rfl u 0)
set_option maxHeartbeats 1000000 in
theorem o_nearest (d b : Nat) (h : xH) (hn : 0 ≤ h 1 2 ∧ h 1 2 ≤ 12) (hr : ∀ k e, 0 ≤ k → k < h 9 9 → 0 ≤ e → e < h 1 2 → xr (h 24 (k * 12 + e)) ∧ xr (h 6 e)) (hK0 : 0 ≤ h 9 9 ∧ h 9 9 ≤ 300) {Q : xO → xH → Prop} (hQ : Q (.inl (some (.inl (nst (fun k => frs (fun e => h 24 (k * 12 + e)) (h 6) (h 1 2).toNat) (h 9 9).toNat)))) h) : xRn G0 MT (d + 6) b 117 [.inr (.inr 0)] h Q := by
  refine R_of (M := mX11_nearest) rfl (Nat.le_of_ble_eq_true rfl) ?_
  show xEx G0 cdX11_nearest (some .int) (xRn G0 MT (d + 5)) Q b 0 [some (.inr (.inr 0)), none, none, none, none] [] h
  refine E_s 6 (i' := 6) (ls' := [some (.inr (.inr 0)), some (.inl (-1)), some (.inl 0), some (.inl 0), none]) (sk' := []) (h' := h) rfl ?_
  have key6 : ∀ (n : Nat) (b1 f1 k : Int) (v4 : Option xV), (0 ≤ k) → (k ≤ h 9 9) → (b1 = nst (fun k => frs (fun e => h 24 (k * 12 + e)) (h 6) (h 1 2).toNat) k.toNat) → (b1 ≠ -1 → f1 = frs (fun e => h 24 (b1 * 12 + e)) (h 6) (h 1 2).toNat) → (xr f1) → ((h 9 9 - k).toNat) < n → xEx G0 cdX11_nearest (some .int) (xRn G0 MT (d + 5)) Q b 6 [some (.inr (.inr 0)), some (.inl b1), some (.inl f1), some (.inl k), v4] [] h := by
    intro n
    induction n with
    | zero => intro b1 f1 k v4 _ _ _ _ _ hm; exact absurd hm (Nat.not_lt_zero _)
    | succ n ih6 =>
      intro b1 f1 k v4 hk0 hk9 hb1 hf1 hx1 hm6
      have hb := nst_r (fun k => frs (fun e => h 24 (k * 12 + e)) (h 6) (h 1 2).toNat) k.toNat
      rw [← hb1] at hb
      refine E_s 4 (i' := 10) (ls' := [some (.inr (.inr 0)), some (.inl b1), some (.inl f1), some (.inl k), v4]) (sk' := [.inl (h 9 9), .inl k]) (h' := h) rfl ?_
      refine E_b (x := (.if_icmp .ge 35, 28, [], [])) rfl rfl (fun c10 => ?_) (fun c10 => ?_)
      · rw [c_ge (by first | assumption | (refine ⟨?_, ?_⟩ <;> omega) | (simp only [xr] at *; omega)) (by first | assumption | (refine ⟨?_, ?_⟩ <;> omega) | (simp only [xr] at *; omega))] at c10
        simp only [decide_eq_true_eq, decide_eq_false_iff_not, Decidable.not_not] at c10
        show xEx G0 cdX11_nearest (some .int) (xRn G0 MT (d + 5)) Q b 28 [some (.inr (.inr 0)), some (.inl b1), some (.inl f1), some (.inl k), v4] [] h
        refine E_s 1 (i' := 29) (ls' := [some (.inr (.inr 0)), some (.inl b1), some (.inl f1), some (.inl k), v4]) (sk' := [.inl b1]) (h' := h) rfl ?_
        exact E_ret (x := (.ireturn, 0, [], [])) (v := some (.inl b1)) rfl (Or.inl rfl) (by
          have e9 : k = h 9 9 := by omega
          rw [hb1, e9]
          exact hQ)
      · rw [c_ge (by first | assumption | (refine ⟨?_, ?_⟩ <;> omega) | (simp only [xr] at *; omega)) (by first | assumption | (refine ⟨?_, ?_⟩ <;> omega) | (simp only [xr] at *; omega))] at c10
        simp only [decide_eq_true_eq, decide_eq_false_iff_not, Decidable.not_not] at c10
        show xEx G0 cdX11_nearest (some .int) (xRn G0 MT (d + 5)) Q b 11 [some (.inr (.inr 0)), some (.inl b1), some (.inl f1), some (.inl k), v4] [] h
        refine E_s 3 (i' := 14) (ls' := [some (.inr (.inr 0)), some (.inl b1), some (.inl f1), some (.inl k), v4]) (sk' := [.inl k, .inr (.inr 9)]) (h' := h) rfl ?_
        refine E_ci (x := (.invokevirtual 263, 1, [(1, 22)], [0])) (r := (frs (fun e => h 24 (k * 12 + e)) (h 6) (h 1 2).toNat)) (h' := h) rfl rfl (Nat.le_of_ble_eq_true rfl) (c_farness (d + 3) 0 h k ⟨by omega, by omega⟩ hn (fun e z1 z2 => hr k e (by omega) (by omega) z1 z2) ⟨rfl, rfl⟩) ?_
        show xEx G0 cdX11_nearest (some .int) (xRn G0 MT (d + 5)) Q b 15 [some (.inr (.inr 0)), some (.inl b1), some (.inl f1), some (.inl k), v4] [.inl (frs (fun e => h 24 (k * 12 + e)) (h 6) (h 1 2).toNat)] h
        have hd9 := frs_r (fun e => h 24 (k * 12 + e)) (h 6) (h 1 2).toNat
        have hd : xr (frs (fun e => h 24 (k * 12 + e)) (h 6) (h 1 2).toNat) := ⟨by omega, by omega⟩
        refine E_s 3 (i' := 18) (ls' := [some (.inr (.inr 0)), some (.inl b1), some (.inl f1), some (.inl k), some (.inl (frs (fun e => h 24 (k * 12 + e)) (h 6) (h 1 2).toNat))]) (sk' := [.inl (-1), .inl b1]) (h' := h) rfl ?_
        refine E_b (x := (.if_icmp .eq 9, 22, [], [])) rfl rfl (fun c18 => ?_) (fun c18 => ?_)
        · rw [c_eq (by first | assumption | (refine ⟨?_, ?_⟩ <;> omega) | (simp only [xr] at *; omega)) (by first | assumption | (refine ⟨?_, ?_⟩ <;> omega) | (simp only [xr] at *; omega))] at c18
          simp only [decide_eq_true_eq, decide_eq_false_iff_not, Decidable.not_not] at c18
          show xEx G0 cdX11_nearest (some .int) (xRn G0 MT (d + 5)) Q b 22 [some (.inr (.inr 0)), some (.inl b1), some (.inl f1), some (.inl k), some (.inl (frs (fun e => h 24 (k * 12 + e)) (h 6) (h 1 2).toNat))] [] h
          refine E_s 6 (i' := 6) (ls' := [some (.inr (.inr 0)), some (.inl k), some (.inl (frs (fun e => h 24 (k * 12 + e)) (h 6) (h 1 2).toNat)), some (.inl (k + 1)), some (.inl (frs (fun e => h 24 (k * 12 + e)) (h 6) (h 1 2).toNat))]) (sk' := []) (h' := h) rfl ?_
          exact ih6 _ _ (k + 1) _ (by omega) (by omega) (by rw [nst_1 _ hk0, ← hb1, if_pos (by first | exact Or.inl c18 | exact Or.inr (by show frs (fun e => h 24 (k * 12 + e)) (h 6) (h 1 2).toNat < frs (fun e => h 24 (b1 * 12 + e)) (h 6) (h 1 2).toNat; rw [← hf1 c18]; exact Int.not_le.mp c21))]) (fun _ => rfl) hd (by omega)
        · rw [c_eq (by first | assumption | (refine ⟨?_, ?_⟩ <;> omega) | (simp only [xr] at *; omega)) (by first | assumption | (refine ⟨?_, ?_⟩ <;> omega) | (simp only [xr] at *; omega))] at c18
          simp only [decide_eq_true_eq, decide_eq_false_iff_not, Decidable.not_not] at c18
          show xEx G0 cdX11_nearest (some .int) (xRn G0 MT (d + 5)) Q b 19 [some (.inr (.inr 0)), some (.inl b1), some (.inl f1), some (.inl k), some (.inl (frs (fun e => h 24 (k * 12 + e)) (h 6) (h 1 2).toNat))] [] h
          refine E_s 2 (i' := 21) (ls' := [some (.inr (.inr 0)), some (.inl b1), some (.inl f1), some (.inl k), some (.inl (frs (fun e => h 24 (k * 12 + e)) (h 6) (h 1 2).toNat))]) (sk' := [.inl f1, .inl (frs (fun e => h 24 (k * 12 + e)) (h 6) (h 1 2).toNat)]) (h' := h) rfl ?_
          refine E_b (x := (.if_icmp .ge 8, 26, [], [])) rfl rfl (fun c21 => ?_) (fun c21 => ?_)
          · rw [c_ge (by first | assumption | (refine ⟨?_, ?_⟩ <;> omega) | (simp only [xr] at *; omega)) (by first | assumption | (refine ⟨?_, ?_⟩ <;> omega) | (simp only [xr] at *; omega))] at c21
            simp only [decide_eq_true_eq, decide_eq_false_iff_not, Decidable.not_not] at c21
            show xEx G0 cdX11_nearest (some .int) (xRn G0 MT (d + 5)) Q b 26 [some (.inr (.inr 0)), some (.inl b1), some (.inl f1), some (.inl k), some (.inl (frs (fun e => h 24 (k * 12 + e)) (h 6) (h 1 2).toNat))] [] h
            refine E_s 2 (i' := 6) (ls' := [some (.inr (.inr 0)), some (.inl b1), some (.inl f1), some (.inl (k + 1)), some (.inl (frs (fun e => h 24 (k * 12 + e)) (h 6) (h 1 2).toNat))]) (sk' := []) (h' := h) rfl ?_
            exact ih6 _ _ (k + 1) _ (by omega) (by omega) (by rw [nst_1 _ hk0, ← hb1, if_neg (by rintro (z | z); exact c18 z; exact absurd (show frs (fun e => h 24 (k * 12 + e)) (h 6) (h 1 2).toNat < frs (fun e => h 24 (b1 * 12 + e)) (h 6) (h 1 2).toNat from z) (by rw [← hf1 c18]; omega))]) hf1 hx1 (by omega)
          · rw [c_ge (by first | assumption | (refine ⟨?_, ?_⟩ <;> omega) | (simp only [xr] at *; omega)) (by first | assumption | (refine ⟨?_, ?_⟩ <;> omega) | (simp only [xr] at *; omega))] at c21
            simp only [decide_eq_true_eq, decide_eq_false_iff_not, Decidable.not_not] at c21
            show xEx G0 cdX11_nearest (some .int) (xRn G0 MT (d + 5)) Q b 22 [some (.inr (.inr 0)), some (.inl b1), some (.inl f1), some (.inl k), some (.inl (frs (fun e => h 24 (k * 12 + e)) (h 6) (h 1 2).toNat))] [] h
            refine E_s 6 (i' := 6) (ls' := [some (.inr (.inr 0)), some (.inl k), some (.inl (frs (fun e => h 24 (k * 12 + e)) (h 6) (h 1 2).toNat)), some (.inl (k + 1)), some (.inl (frs (fun e => h 24 (k * 12 + e)) (h 6) (h 1 2).toNat))]) (sk' := []) (h' := h) rfl ?_
            exact ih6 _ _ (k + 1) _ (by omega) (by omega) (by rw [nst_1 _ hk0, ← hb1, if_pos (by first | exact Or.inl c18 | exact Or.inr (by show frs (fun e => h 24 (k * 12 + e)) (h 6) (h 1 2).toNat < frs (fun e => h 24 (b1 * 12 + e)) (h 6) (h 1 2).toNat; rw [← hf1 c18]; exact Int.not_le.mp c21))]) (fun _ => rfl) hd (by omega)
  exact key6 _ (-1) 0 0 none (by omega) (by omega) rfl (fun z => absurd rfl z) ⟨by decide, by decide⟩ (Nat.lt_succ_self _)
set_option maxHeartbeats 1000000 in
theorem m_nearest (d b : Nat) (h : xH) (hn : 0 ≤ h 66 4 ∧ h 66 4 ≤ 12) (hr : ∀ k e, 0 ≤ k → k < h 66 8 → 0 ≤ e → e < h 66 4 → xr (h 77 (12 * k + e)) ∧ xr (h 67 (4 * e + 3))) (hM0 : 0 ≤ h 66 8 ∧ h 66 8 ≤ 300) {Q : xO → xH → Prop} (hQ : Q (.inl (some (.inl (nst (fun k => frs (fun e => h 77 (12 * k + e)) (fun e => h 67 (4 * e + 3)) (h 66 4).toNat) (h 66 8).toNat)))) (xup h 66 0 0)) : xRn G0 MT (d + 6) b 225 [.inr (.inr 66)] h Q := by
  refine R_of (M := mX12_nearest) rfl (Nat.le_of_ble_eq_true rfl) ?_
  show xEx G0 cdX12_nearest (some .int) (xRn G0 MT (d + 5)) Q b 0 [some (.inr (.inr 66)), none, none] [] h
  refine E_s 7 (i' := 7) (ls' := [some (.inr (.inr 66)), some (.inl (-1)), some (.inl 0)]) (sk' := []) (h' := (xup h 66 0 0)) rfl ?_
  have key7 : ∀ (n : Nat) (b1 k : Int), (0 ≤ k) → (k ≤ h 66 8) → (b1 = nst (fun k => frs (fun e => h 77 (12 * k + e)) (fun e => h 67 (4 * e + 3)) (h 66 4).toNat) k.toNat) → ((h 66 8 - k).toNat) < n → xEx G0 cdX12_nearest (some .int) (xRn G0 MT (d + 5)) Q b 7 [some (.inr (.inr 66)), some (.inl b1), some (.inl k)] [] (xup h 66 0 0) := by
    intro n
    induction n with
    | zero => intro b1 k _ _ _ hm; exact absurd hm (Nat.not_lt_zero _)
    | succ n ih7 =>
      intro b1 k hk0 hk9 hb1 hm7
      have hb := nst_r (fun k => frs (fun e => h 77 (12 * k + e)) (fun e => h 67 (4 * e + 3)) (h 66 4).toNat) k.toNat
      rw [← hb1] at hb
      refine E_s 3 (i' := 10) (ls' := [some (.inr (.inr 66)), some (.inl b1), some (.inl k)]) (sk' := [.inl (h 66 8), .inl k]) (h' := (xup h 66 0 0)) rfl ?_
      refine E_b (x := (.if_icmp .ge 29, 25, [], [])) rfl rfl (fun c10 => ?_) (fun c10 => ?_)
      · rw [c_ge (by first | assumption | (refine ⟨?_, ?_⟩ <;> omega) | (simp only [xr] at *; omega)) (by first | assumption | (refine ⟨?_, ?_⟩ <;> omega) | (simp only [xr] at *; omega))] at c10
        simp only [decide_eq_true_eq, decide_eq_false_iff_not, Decidable.not_not] at c10
        show xEx G0 cdX12_nearest (some .int) (xRn G0 MT (d + 5)) Q b 25 [some (.inr (.inr 66)), some (.inl b1), some (.inl k)] [] (xup h 66 0 0)
        refine E_s 1 (i' := 26) (ls' := [some (.inr (.inr 66)), some (.inl b1), some (.inl k)]) (sk' := [.inl b1]) (h' := (xup h 66 0 0)) rfl ?_
        exact E_ret (x := (.ireturn, 0, [], [])) (v := some (.inl b1)) rfl (Or.inl rfl) (by
          have e9 : k = h 66 8 := by omega
          rw [hb1, e9]
          exact hQ)
      · rw [c_ge (by first | assumption | (refine ⟨?_, ?_⟩ <;> omega) | (simp only [xr] at *; omega)) (by first | assumption | (refine ⟨?_, ?_⟩ <;> omega) | (simp only [xr] at *; omega))] at c10
        simp only [decide_eq_true_eq, decide_eq_false_iff_not, Decidable.not_not] at c10
        show xEx G0 cdX12_nearest (some .int) (xRn G0 MT (d + 5)) Q b 11 [some (.inr (.inr 66)), some (.inl b1), some (.inl k)] [] (xup h 66 0 0)
        refine E_s 2 (i' := 13) (ls' := [some (.inr (.inr 66)), some (.inl b1), some (.inl k)]) (sk' := [.inl (-1), .inl b1]) (h' := (xup h 66 0 0)) rfl ?_
        refine E_b (x := (.if_icmp .eq 16, 21, [], [])) rfl rfl (fun c13 => ?_) (fun c13 => ?_)
        · rw [c_eq (by first | assumption | (refine ⟨?_, ?_⟩ <;> omega) | (simp only [xr] at *; omega)) (by first | assumption | (refine ⟨?_, ?_⟩ <;> omega) | (simp only [xr] at *; omega))] at c13
          simp only [decide_eq_true_eq, decide_eq_false_iff_not, Decidable.not_not] at c13
          show xEx G0 cdX12_nearest (some .int) (xRn G0 MT (d + 5)) Q b 21 [some (.inr (.inr 66)), some (.inl b1), some (.inl k)] [] (xup h 66 0 0)
          refine E_s 4 (i' := 7) (ls' := [some (.inr (.inr 66)), some (.inl k), some (.inl (k + 1))]) (sk' := []) (h' := (xup h 66 0 0)) rfl ?_
          exact ih7 _ (k + 1) (by omega) (by omega) (by rw [nst_1 _ hk0, ← hb1, if_pos (by first | exact Or.inl c13 | exact Or.inr (Int.not_le.mp c20))]) (by omega)
        · rw [c_eq (by first | assumption | (refine ⟨?_, ?_⟩ <;> omega) | (simp only [xr] at *; omega)) (by first | assumption | (refine ⟨?_, ?_⟩ <;> omega) | (simp only [xr] at *; omega))] at c13
          simp only [decide_eq_true_eq, decide_eq_false_iff_not, Decidable.not_not] at c13
          show xEx G0 cdX12_nearest (some .int) (xRn G0 MT (d + 5)) Q b 14 [some (.inr (.inr 66)), some (.inl b1), some (.inl k)] [] (xup h 66 0 0)
          refine E_s 2 (i' := 16) (ls' := [some (.inr (.inr 66)), some (.inl b1), some (.inl k)]) (sk' := [.inl k, .inr (.inr 66)]) (h' := (xup h 66 0 0)) rfl ?_
          refine E_ci (x := (.invokevirtual 381, 1, [(10, 223)], [0])) (r := (frs (fun e => h 77 (12 * k + e)) (fun e => h 67 (4 * e + 3)) (h 66 4).toNat)) (h' := (xup h 66 0 0)) rfl rfl (Nat.le_of_ble_eq_true rfl) (m_farOf (d + 4) 0 (xup h 66 0 0) k ⟨by omega, by omega⟩ hn (fun e z1 z2 => hr k e (by omega) (by omega) z1 z2) ⟨rfl, rfl⟩) ?_
          show xEx G0 cdX12_nearest (some .int) (xRn G0 MT (d + 5)) Q b 17 [some (.inr (.inr 66)), some (.inl b1), some (.inl k)] [.inl (frs (fun e => h 77 (12 * k + e)) (fun e => h 67 (4 * e + 3)) (h 66 4).toNat)] (xup h 66 0 0)
          refine E_s 2 (i' := 19) (ls' := [some (.inr (.inr 66)), some (.inl b1), some (.inl k)]) (sk' := [.inl b1, .inr (.inr 66), .inl (frs (fun e => h 77 (12 * k + e)) (fun e => h 67 (4 * e + 3)) (h 66 4).toNat)]) (h' := (xup h 66 0 0)) rfl ?_
          refine E_ci (x := (.invokevirtual 381, 1, [(10, 223)], [0])) (r := (frs (fun e => h 77 (12 * b1 + e)) (fun e => h 67 (4 * e + 3)) (h 66 4).toNat)) (h' := (xup h 66 0 0)) rfl rfl (Nat.le_of_ble_eq_true rfl) (m_farOf (d + 4) 0 (xup h 66 0 0) b1 ⟨by omega, by omega⟩ hn (fun e z1 z2 => hr b1 e (by omega) (by omega) z1 z2) ⟨rfl, rfl⟩) ?_
          show xEx G0 cdX12_nearest (some .int) (xRn G0 MT (d + 5)) Q b 20 [some (.inr (.inr 66)), some (.inl b1), some (.inl k)] [.inl (frs (fun e => h 77 (12 * b1 + e)) (fun e => h 67 (4 * e + 3)) (h 66 4).toNat), .inl (frs (fun e => h 77 (12 * k + e)) (fun e => h 67 (4 * e + 3)) (h 66 4).toNat)] (xup h 66 0 0)
          have hd9 := frs_r (fun e => h 77 (12 * k + e)) (fun e => h 67 (4 * e + 3)) (h 66 4).toNat
          have hd8 := frs_r (fun e => h 77 (12 * b1 + e)) (fun e => h 67 (4 * e + 3)) (h 66 4).toNat
          have hd : xr (frs (fun e => h 77 (12 * k + e)) (fun e => h 67 (4 * e + 3)) (h 66 4).toNat) := ⟨by omega, by omega⟩
          have hd7 : xr (frs (fun e => h 77 (12 * b1 + e)) (fun e => h 67 (4 * e + 3)) (h 66 4).toNat) := ⟨by omega, by omega⟩
          refine E_b (x := (.if_icmp .ge 5, 23, [], [])) rfl rfl (fun c20 => ?_) (fun c20 => ?_)
          · rw [c_ge (by first | assumption | (refine ⟨?_, ?_⟩ <;> omega) | (simp only [xr] at *; omega)) (by first | assumption | (refine ⟨?_, ?_⟩ <;> omega) | (simp only [xr] at *; omega))] at c20
            simp only [decide_eq_true_eq, decide_eq_false_iff_not, Decidable.not_not] at c20
            show xEx G0 cdX12_nearest (some .int) (xRn G0 MT (d + 5)) Q b 23 [some (.inr (.inr 66)), some (.inl b1), some (.inl k)] [] (xup h 66 0 0)
            refine E_s 2 (i' := 7) (ls' := [some (.inr (.inr 66)), some (.inl b1), some (.inl (k + 1))]) (sk' := []) (h' := (xup h 66 0 0)) rfl ?_
            exact ih7 _ (k + 1) (by omega) (by omega) (by rw [nst_1 _ hk0, ← hb1, if_neg (by rintro (z | z); exact c13 z; exact absurd (show frs (fun e => h 77 (12 * k + e)) (fun e => h 67 (4 * e + 3)) (h 66 4).toNat < frs (fun e => h 77 (12 * b1 + e)) (fun e => h 67 (4 * e + 3)) (h 66 4).toNat from z) (by omega))]) (by omega)
          · rw [c_ge (by first | assumption | (refine ⟨?_, ?_⟩ <;> omega) | (simp only [xr] at *; omega)) (by first | assumption | (refine ⟨?_, ?_⟩ <;> omega) | (simp only [xr] at *; omega))] at c20
            simp only [decide_eq_true_eq, decide_eq_false_iff_not, Decidable.not_not] at c20
            show xEx G0 cdX12_nearest (some .int) (xRn G0 MT (d + 5)) Q b 21 [some (.inr (.inr 66)), some (.inl b1), some (.inl k)] [] (xup h 66 0 0)
            refine E_s 4 (i' := 7) (ls' := [some (.inr (.inr 66)), some (.inl k), some (.inl (k + 1))]) (sk' := []) (h' := (xup h 66 0 0)) rfl ?_
            exact ih7 _ (k + 1) (by omega) (by omega) (by rw [nst_1 _ hk0, ← hb1, if_pos (by first | exact Or.inl c13 | exact Or.inr (Int.not_le.mp c20))]) (by omega)
  exact key7 _ (-1) 0 (by omega) (by omega) rfl (Nat.lt_succ_self _)
set_option maxHeartbeats 1000000 in
theorem CO_nearest (d : Nat) {h : xH} (hI : Inv h)  : CO (d + 6) 0 117 225 [] [] h := by
  obtain ⟨b0, b1, -, -, -, -, -, -, b9⟩ := Inv_e hI
  obtain ⟨c1, -, -, -, -, -, m4, -⟩ := Inv_b hI
  have b8 : 0 ≤ h 66 8 ∧ h 66 8 ≤ 300 := by rw [b1]; exact b0
  have c8 : 0 ≤ h 66 4 ∧ h 66 4 ≤ 12 := by rw [m4]; exact c1
  refine o_nearest d 0 h c1 (far_k hI) b0 (fun u => ?_)
  refine m_nearest d 0 (xup h 112 0 u) c8 (far_m hI) b8 (CO_v hI u ?_)
  show nst (fun k => frs (fun e => h 24 (k * 12 + e)) (h 6) (h 1 2).toNat) (h 9 9).toNat = nst (fun k => frs (fun e => h 77 (12 * k + e)) (fun e => h 67 (4 * e + 3)) (h 66 4).toNat) (h 66 8).toNat
  rw [b1]
  exact nst_congr _ (fun k z1 z2 => far_e hI z1 (by omega))
