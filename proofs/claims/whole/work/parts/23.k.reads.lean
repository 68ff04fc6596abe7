theorem Inv_sl {h : xH} (hI : Inv h) : ∀ k, 0 ≤ k → k < h 9 9 → h 27 k = HS (h 1 2) (fun e => h 24 (k * 12 + e)) := by
  obtain ⟨S, T, ib, ie, -⟩ := hI
  obtain ⟨r1, r2, r3, r4, r5, r6, r7, r8, r9⟩ := ie.1
  intro k z1 z2
  rw [r1] at z2
  rw [r9 k z1 z2]
  exact HS_congr (fun e z3 z4 => (r7 k e z1 z2 z3 z4).symm)
theorem Inv_d {h : xH} (hI : Inv h) : ∀ j k, 0 ≤ j → 0 ≤ k → j < h 9 9 → k < h 9 9 → (∀ e, 0 ≤ e → e < h 1 2 → h 24 (j * 12 + e) = h 24 (k * 12 + e)) → j = k := by
  obtain ⟨S, T, ib, ie, -⟩ := hI
  obtain ⟨r1, r2, r3, r4, r5, r6, r7, r8, r9⟩ := ie.1
  obtain ⟨-, -, -, w4, -⟩ := ie.2.2.1
  intro j k z1 z2 z3 z4 z5
  rw [r1] at z3 z4
  have z6 : ∀ e, 0 ≤ e → e < h 1 2 → S 5 (j * 12 + e) = S 5 (k * 12 + e) := fun e y1 y2 => by
    rw [← r7 j e z1 z3 y1 y2, ← r7 k e z2 z4 y1 y2]
    exact z5 e y1 y2
  rcases Int.lt_trichotomy j k with y | y | y
  · exact absurd z6 (w4 j k z1 y z4)
  · exact y
  · exact absurd (fun e y1 y2 => (z6 e y1 y2).symm) (w4 k j z2 y z3)
theorem FM_row {h h' : xH} (e : ∀ a, a ≠ 92 → h' a = h a) : FM h h' := ⟨fun a z _ _ _ _ _ _ _ => e a (fun y => z (by rw [y]; unfold scr; decide)), fun j _ => by rw [e _ (by decide)], fun k _ => by rw [e 69 (by decide), e 70 (by decide), e 71 (by decide)]; exact ⟨rfl, rfl, rfl⟩, fun k _ => by rw [e 79 (by decide), e 80 (by decide), e 81 (by decide)]; exact ⟨rfl, rfl, rfl⟩⟩
/-- the one that comes to V, in both -/
theorem like_u {h : xH} (hI : Inv h) {V : Int → Int} {r r2 : Int} (a : (r = -1 ∧ ∀ k, 0 ≤ k → k < h 9 9 → ¬ ∀ e, 0 ≤ e → e < h 1 2 → h 24 (k * 12 + e) = V e) ∨ (0 ≤ r ∧ r < h 9 9 ∧ ∀ e, 0 ≤ e → e < h 1 2 → h 24 (r * 12 + e) = V e)) (b : (r2 = -1 ∧ ∀ k, 0 ≤ k → k < h 66 8 → ¬ ∀ e, 0 ≤ e → e < h 66 4 → h 77 (12 * k + e) = V e) ∨ (0 ≤ r2 ∧ r2 < h 66 8 ∧ ∀ e, 0 ≤ e → e < h 66 4 → h 77 (12 * r2 + e) = V e)) : r = r2 := by
  obtain ⟨b0, b1, -, -, -, -, -, -, b9⟩ := Inv_e hI
  obtain ⟨c1, -, -, -, -, -, m4, -⟩ := Inv_b hI
  have dd := Inv_d hI
  rw [b1, m4] at b
  have sm : ∀ k, 0 ≤ k → k < h 9 9 → ((∀ e, 0 ≤ e → e < h 1 2 → h 77 (12 * k + e) = V e) ↔ ∀ e, 0 ≤ e → e < h 1 2 → h 24 (k * 12 + e) = V e) := fun k z1 z2 => by
    constructor
    · intro z e z3 z4; rw [← ((b9 k z1 z2).2.2.2.2.2.2 e z3 z4).1]; exact z e z3 z4
    · intro z e z3 z4; rw [((b9 k z1 z2).2.2.2.2.2.2 e z3 z4).1]; exact z e z3 z4
  rcases a with ⟨a1, a2⟩ | ⟨a1, a2, a3⟩
  · rcases b with ⟨b1, b2⟩ | ⟨b1, b2, b3⟩
    · rw [a1, b1]
    · exact absurd ((sm r2 b1 b2).mp b3) (a2 r2 b1 b2)
  · rcases b with ⟨b1, b2⟩ | ⟨b1, b2, b3⟩
    · exact absurd ((sm r a1 a2).mpr a3) (b2 r a1 a2)
    · have b4 := (sm r2 b1 b2).mp b3
      exact dd r r2 a1 b1 a2 b2 (fun e z1 z2 => (a3 e z1 z2).trans (b4 e z1 z2).symm)
set_option maxHeartbeats 1000000 in
theorem m_joinsX (d b : Nat) (h : xH) (p x y : Int) (hp : xr p) (hx : xr x) (hy : xr y) (hn : 0 ≤ h 66 4 ∧ h 66 4 ≤ 12) (one : ¬ (p = 5 ∨ p = 8 ∨ p = 9)) (yy : ¬ (0 ≤ y ∧ y < h 66 8)) (hM0 : 0 ≤ h 66 8 ∧ h 66 8 ≤ 300) {Q : xO → xH → Prop} (hA : ¬ (0 ≤ p ∧ p ≤ 9) → Q (.inl (some (.inl (0)))) (xup h 66 0 1)) (hN : (0 ≤ p ∧ p ≤ 9) → Q (.inl (some (.inl (0)))) (xup h 66 0 2)) : xRn G0 MT (d + 6) b 218 [.inr (.inr 66), .inl p, .inl x, .inl y] h Q := by
  refine R_of (M := mX12_joins) rfl (Nat.le_of_ble_eq_true rfl) ?_
  show xEx G0 cdX12_joins (some .int) (xRn G0 MT (d + 5)) Q b 0 [some (.inr (.inr 66)), some (.inl p), some (.inl x), some (.inl y), none] [] h
  refine E_s 2 (i' := 2) (ls' := [some (.inr (.inr 66)), some (.inl p), some (.inl x), some (.inl y), none]) (sk' := [.inl p, .inr (.inr 66)]) (h' := h) rfl ?_
  refine E_cp (x := (.invokestatic 197, 1, [(0, 164)], [])) (q := fun r1 h9 => ((r1 = 1 ∧ (0 ≤ p ∧ p ≤ 9)) ∨ (r1 = 0 ∧ ¬ (0 ≤ p ∧ p ≤ 9))) ∧ h = h9) rfl rfl (Nat.le_of_ble_eq_true rfl) (m_isPart (d + 3) 0 h p hp (fun z => ⟨_, rfl, Or.inl ⟨rfl, z⟩, rfl⟩) (fun z => ⟨_, rfl, Or.inr ⟨rfl, z⟩, rfl⟩)) (fun r1 h9 q1 => ?_)
  obtain ⟨q1, rfl⟩ := q1
  show xEx G0 cdX12_joins (some .int) (xRn G0 MT (d + 5)) Q b 3 [some (.inr (.inr 66)), some (.inl p), some (.inl x), some (.inl y), none] [.inl r1, .inr (.inr 66)] h
  refine E_b (x := (.ifCond .ne 7, 6, [], [])) rfl rfl (fun c3 => ?_) (fun c3 => ?_)
  · rw [c_ne (by first | assumption | (refine ⟨?_, ?_⟩ <;> omega) | (simp only [xr] at *; omega)) (by first | assumption | (refine ⟨?_, ?_⟩ <;> omega) | (simp only [xr] at *; omega))] at c3
    simp only [decide_eq_true_eq, decide_eq_false_iff_not, Decidable.not_not] at c3
    show xEx G0 cdX12_joins (some .int) (xRn G0 MT (d + 5)) Q b 6 [some (.inr (.inr 66)), some (.inl p), some (.inl x), some (.inl y), none] [.inr (.inr 66)] h
    refine E_s 3 (i' := 9) (ls' := [some (.inr (.inr 66)), some (.inl p), some (.inl x), some (.inl y), none]) (sk' := [.inl x, .inl 0, .inr (.inr 66), .inr (.inr 66)]) (h' := h) rfl ?_
    refine E_cp (x := (.invokevirtual 295, 2, [(10, 193)], [0])) (q := fun r2 h9 => ((r2 = 1 ∧ (0 ≤ x ∧ x < h 66 8)) ∨ (r2 = 0 ∧ ¬ (0 ≤ x ∧ x < h 66 8))) ∧ h = h9) rfl rfl (Nat.le_of_ble_eq_true rfl) (m_isKept0 (d + 3) 0 h x hx hM0 (fun z => ⟨_, rfl, Or.inl ⟨rfl, z⟩, rfl⟩) (fun z => ⟨_, rfl, Or.inr ⟨rfl, z⟩, rfl⟩)) (fun r2 h9 q2 => ?_)
    obtain ⟨q2, rfl⟩ := q2
    show xEx G0 cdX12_joins (some .int) (xRn G0 MT (d + 5)) Q b 10 [some (.inr (.inr 66)), some (.inl p), some (.inl x), some (.inl y), none] [.inl r2, .inr (.inr 66)] h
    refine E_b (x := (.ifCond .eq 19, 19, [], [])) rfl rfl (fun c10 => ?_) (fun c10 => ?_)
    · rw [c_eq (by first | assumption | (refine ⟨?_, ?_⟩ <;> omega) | (simp only [xr] at *; omega)) (by first | assumption | (refine ⟨?_, ?_⟩ <;> omega) | (simp only [xr] at *; omega))] at c10
      simp only [decide_eq_true_eq, decide_eq_false_iff_not, Decidable.not_not] at c10
      show xEx G0 cdX12_joins (some .int) (xRn G0 MT (d + 5)) Q b 19 [some (.inr (.inr 66)), some (.inl p), some (.inl x), some (.inl y), none] [.inr (.inr 66)] h
      refine E_s 3 (i' := 23) (ls' := [some (.inr (.inr 66)), some (.inl p), some (.inl x), some (.inl y), none]) (sk' := []) (h' := (xup h 66 0 2)) rfl ?_
      
      refine E_s 2 (i' := 25) (ls' := [some (.inr (.inr 66)), some (.inl p), some (.inl x), some (.inl y), none]) (sk' := [.inl 2]) (h' := (xup h 66 0 2)) rfl ?_
      refine E_b (x := (.ifCond .le 5, 28, [], [])) rfl rfl (fun c25 => ?_) (fun c25 => ?_)
      · show xEx G0 cdX12_joins (some .int) (xRn G0 MT (d + 5)) Q b 28 [some (.inr (.inr 66)), some (.inl p), some (.inl x), some (.inl y), none] [] (xup h 66 0 2)
        exact absurd c25 (by decide)
      · show xEx G0 cdX12_joins (some .int) (xRn G0 MT (d + 5)) Q b 26 [some (.inr (.inr 66)), some (.inl p), some (.inl x), some (.inl y), none] [] (xup h 66 0 2)
        refine E_s 1 (i' := 27) (ls' := [some (.inr (.inr 66)), some (.inl p), some (.inl x), some (.inl y), none]) (sk' := [.inl 0]) (h' := (xup h 66 0 2)) rfl ?_
        exact E_ret (x := (.ireturn, 0, [], [])) (v := some (.inl 0)) rfl (Or.inl rfl) (hN (by omega))
    · rw [c_eq (by first | assumption | (refine ⟨?_, ?_⟩ <;> omega) | (simp only [xr] at *; omega)) (by first | assumption | (refine ⟨?_, ?_⟩ <;> omega) | (simp only [xr] at *; omega))] at c10
      simp only [decide_eq_true_eq, decide_eq_false_iff_not, Decidable.not_not] at c10
      show xEx G0 cdX12_joins (some .int) (xRn G0 MT (d + 5)) Q b 11 [some (.inr (.inr 66)), some (.inl p), some (.inl x), some (.inl y), none] [.inr (.inr 66)] h
      refine E_s 1 (i' := 12) (ls' := [some (.inr (.inr 66)), some (.inl p), some (.inl x), some (.inl y), none]) (sk' := [.inl p, .inr (.inr 66)]) (h' := h) rfl ?_
      refine E_cp (x := (.invokestatic 242, 1, [(0, 174)], [])) (q := fun r3 h9 => ((r3 = 1 ∧ ((p = 5 ∨ p = 8 ∨ p = 9))) ∨ (r3 = 0 ∧ ¬ ((p = 5 ∨ p = 8 ∨ p = 9)))) ∧ h = h9) rfl rfl (Nat.le_of_ble_eq_true rfl) (m_isOfOne (d + 4) 0 h p hp (fun z => ⟨_, rfl, Or.inl ⟨rfl, z⟩, rfl⟩) (fun z => ⟨_, rfl, Or.inr ⟨rfl, z⟩, rfl⟩)) (fun r3 h9 q3 => ?_)
      obtain ⟨q3, rfl⟩ := q3
      show xEx G0 cdX12_joins (some .int) (xRn G0 MT (d + 5)) Q b 13 [some (.inr (.inr 66)), some (.inl p), some (.inl x), some (.inl y), none] [.inl r3, .inr (.inr 66)] h
      refine E_b (x := (.ifCond .ne 16, 21, [], [])) rfl rfl (fun c13 => ?_) (fun c13 => ?_)
      · rw [c_ne (by first | assumption | (refine ⟨?_, ?_⟩ <;> omega) | (simp only [xr] at *; omega)) (by first | assumption | (refine ⟨?_, ?_⟩ <;> omega) | (simp only [xr] at *; omega))] at c13
        simp only [decide_eq_true_eq, decide_eq_false_iff_not, Decidable.not_not] at c13
        show xEx G0 cdX12_joins (some .int) (xRn G0 MT (d + 5)) Q b 21 [some (.inr (.inr 66)), some (.inl p), some (.inl x), some (.inl y), none] [.inr (.inr 66)] h
        omega
      · rw [c_ne (by first | assumption | (refine ⟨?_, ?_⟩ <;> omega) | (simp only [xr] at *; omega)) (by first | assumption | (refine ⟨?_, ?_⟩ <;> omega) | (simp only [xr] at *; omega))] at c13
        simp only [decide_eq_true_eq, decide_eq_false_iff_not, Decidable.not_not] at c13
        show xEx G0 cdX12_joins (some .int) (xRn G0 MT (d + 5)) Q b 14 [some (.inr (.inr 66)), some (.inl p), some (.inl x), some (.inl y), none] [.inr (.inr 66)] h
        refine E_s 3 (i' := 17) (ls' := [some (.inr (.inr 66)), some (.inl p), some (.inl x), some (.inl y), none]) (sk' := [.inl y, .inl 0, .inr (.inr 66), .inr (.inr 66)]) (h' := h) rfl ?_
        refine E_cp (x := (.invokevirtual 295, 2, [(10, 193)], [0])) (q := fun r4 h9 => ((r4 = 1 ∧ (0 ≤ y ∧ y < h 66 8)) ∨ (r4 = 0 ∧ ¬ (0 ≤ y ∧ y < h 66 8))) ∧ h = h9) rfl rfl (Nat.le_of_ble_eq_true rfl) (m_isKept0 (d + 3) 0 h y hy hM0 (fun z => ⟨_, rfl, Or.inl ⟨rfl, z⟩, rfl⟩) (fun z => ⟨_, rfl, Or.inr ⟨rfl, z⟩, rfl⟩)) (fun r4 h9 q4 => ?_)
        obtain ⟨q4, rfl⟩ := q4
        show xEx G0 cdX12_joins (some .int) (xRn G0 MT (d + 5)) Q b 18 [some (.inr (.inr 66)), some (.inl p), some (.inl x), some (.inl y), none] [.inl r4, .inr (.inr 66)] h
        refine E_b (x := (.ifCond .ne 7, 21, [], [])) rfl rfl (fun c18 => ?_) (fun c18 => ?_)
        · rw [c_ne (by first | assumption | (refine ⟨?_, ?_⟩ <;> omega) | (simp only [xr] at *; omega)) (by first | assumption | (refine ⟨?_, ?_⟩ <;> omega) | (simp only [xr] at *; omega))] at c18
          simp only [decide_eq_true_eq, decide_eq_false_iff_not, Decidable.not_not] at c18
          show xEx G0 cdX12_joins (some .int) (xRn G0 MT (d + 5)) Q b 21 [some (.inr (.inr 66)), some (.inl p), some (.inl x), some (.inl y), none] [.inr (.inr 66)] h
          omega
        · rw [c_ne (by first | assumption | (refine ⟨?_, ?_⟩ <;> omega) | (simp only [xr] at *; omega)) (by first | assumption | (refine ⟨?_, ?_⟩ <;> omega) | (simp only [xr] at *; omega))] at c18
          simp only [decide_eq_true_eq, decide_eq_false_iff_not, Decidable.not_not] at c18
          show xEx G0 cdX12_joins (some .int) (xRn G0 MT (d + 5)) Q b 19 [some (.inr (.inr 66)), some (.inl p), some (.inl x), some (.inl y), none] [.inr (.inr 66)] h
          refine E_s 3 (i' := 23) (ls' := [some (.inr (.inr 66)), some (.inl p), some (.inl x), some (.inl y), none]) (sk' := []) (h' := (xup h 66 0 2)) rfl ?_
          
          refine E_s 2 (i' := 25) (ls' := [some (.inr (.inr 66)), some (.inl p), some (.inl x), some (.inl y), none]) (sk' := [.inl 2]) (h' := (xup h 66 0 2)) rfl ?_
          refine E_b (x := (.ifCond .le 5, 28, [], [])) rfl rfl (fun c25 => ?_) (fun c25 => ?_)
          · show xEx G0 cdX12_joins (some .int) (xRn G0 MT (d + 5)) Q b 28 [some (.inr (.inr 66)), some (.inl p), some (.inl x), some (.inl y), none] [] (xup h 66 0 2)
            exact absurd c25 (by decide)
          · show xEx G0 cdX12_joins (some .int) (xRn G0 MT (d + 5)) Q b 26 [some (.inr (.inr 66)), some (.inl p), some (.inl x), some (.inl y), none] [] (xup h 66 0 2)
            refine E_s 1 (i' := 27) (ls' := [some (.inr (.inr 66)), some (.inl p), some (.inl x), some (.inl y), none]) (sk' := [.inl 0]) (h' := (xup h 66 0 2)) rfl ?_
            exact E_ret (x := (.ireturn, 0, [], [])) (v := some (.inl 0)) rfl (Or.inl rfl) (hN (by omega))
  · rw [c_ne (by first | assumption | (refine ⟨?_, ?_⟩ <;> omega) | (simp only [xr] at *; omega)) (by first | assumption | (refine ⟨?_, ?_⟩ <;> omega) | (simp only [xr] at *; omega))] at c3
    simp only [decide_eq_true_eq, decide_eq_false_iff_not, Decidable.not_not] at c3
    show xEx G0 cdX12_joins (some .int) (xRn G0 MT (d + 5)) Q b 4 [some (.inr (.inr 66)), some (.inl p), some (.inl x), some (.inl y), none] [.inr (.inr 66)] h
    refine E_s 3 (i' := 23) (ls' := [some (.inr (.inr 66)), some (.inl p), some (.inl x), some (.inl y), none]) (sk' := []) (h' := (xup h 66 0 1)) rfl ?_
    
    refine E_s 2 (i' := 25) (ls' := [some (.inr (.inr 66)), some (.inl p), some (.inl x), some (.inl y), none]) (sk' := [.inl 1]) (h' := (xup h 66 0 1)) rfl ?_
    refine E_b (x := (.ifCond .le 5, 28, [], [])) rfl rfl (fun c25 => ?_) (fun c25 => ?_)
    · show xEx G0 cdX12_joins (some .int) (xRn G0 MT (d + 5)) Q b 28 [some (.inr (.inr 66)), some (.inl p), some (.inl x), some (.inl y), none] [] (xup h 66 0 1)
      exact absurd c25 (by decide)
    · show xEx G0 cdX12_joins (some .int) (xRn G0 MT (d + 5)) Q b 26 [some (.inr (.inr 66)), some (.inl p), some (.inl x), some (.inl y), none] [] (xup h 66 0 1)
      refine E_s 1 (i' := 27) (ls' := [some (.inr (.inr 66)), some (.inl p), some (.inl x), some (.inl y), none]) (sk' := [.inl 0]) (h' := (xup h 66 0 1)) rfl ?_
      exact E_ret (x := (.ireturn, 0, [], [])) (v := some (.inl 0)) rfl (Or.inl rfl) (hA (by omega))
set_option maxHeartbeats 1000000 in
theorem CO_joins (d : Nat) {h : xH} (hI : Inv h) (p x y : Int) (hp : xr p) (hx : xr x) (hy : xr y) : CO (d + 6) 3 112 218 [.inl p, .inl x, .inl y] ["java/lang/IllegalArgumentException", "java/util/NoSuchElementException"] h := by
  obtain ⟨b0, b1, -, -, -, -, -, -, b9⟩ := Inv_e hI
  obtain ⟨c1, -, -, -, -, -, m4, -⟩ := Inv_b hI
  have b8 : 0 ≤ h 66 8 ∧ h 66 8 ≤ 300 := by rw [b1]; exact b0
  have c8 : 0 ≤ h 66 4 ∧ h 66 4 ≤ 12 := by rw [m4]; exact c1
  have rk : ∀ k e, 0 ≤ k → k < h 9 9 → 0 ≤ e → e < h 1 2 → xr (h 24 (k * 12 + e)) := fun k e z1 z2 z3 z4 => (far_k hI k e z1 z2 z3 z4).1
  have rm : ∀ k e, 0 ≤ k → k < h 66 8 → 0 ≤ e → e < h 66 4 → xr (h 77 (12 * k + e)) := fun k e z1 z2 z3 z4 => (far_m hI k e z1 z2 z3 z4).1
  have cc : ((0 ≤ x ∧ x < h 66 8) ∧ ((p = 5 ∨ p = 8 ∨ p = 9) ∨ (0 ≤ y ∧ y < h 66 8))) ↔ ((0 ≤ x ∧ x < h 9 9) ∧ ((p = 5 ∨ p = 8 ∨ p = 9) ∨ (0 ≤ y ∧ y < h 9 9))) := by rw [b1]
  by_cases one : (p = 5 ∨ p = 8 ∨ p = 9)
  · refine o_joins d h p x y hp hx hy c1 (Inv_K hI).2.1 rk (Inv_sl hI) b0 (fun q u => ?_) (fun q q2 u => ?_) (fun q q2 y2 hy2 r h1 hk hq u => ?_)
    · exact m_joins d 0 (xup h 112 0 u) p x y (fun _ => 0) hp hx hy c8 rm (Or.inl ⟨one, trivial⟩) (fun _ _ _ => ⟨by decide, by decide⟩) b8 (fun _ => CO_x hI 0 rfl u 0) (fun z => absurd z q) (fun z => absurd z q)
    · exact m_joins d 0 (xup h 112 0 u) p x y (fun _ => 0) hp hx hy c8 rm (Or.inl ⟨one, trivial⟩) (fun _ _ _ => ⟨by decide, by decide⟩) b8 (fun z => absurd q z) (fun _ _ => CO_x hI 1 rfl u 0) (fun _ z => absurd (cc.mp z) q2)
    · obtain ⟨-, rfl⟩ : (p = 5 ∨ p = 8 ∨ p = 9) ∧ y2 = x := by rcases hy2 with z | z; exact z; exact absurd one z.1
      have k66 : h1 66 = h 66 := hk.1 _ (by decide) (by decide)
      have k77 : h1 77 = h 77 := hk.1 _ (by decide) (by decide)
      have ve : ∀ e, 0 ≤ e → e < h 1 2 → ap p (h 24 (y2 * 12 + e)) (h 24 (y2 * 12 + e)) = ap p (h 77 (12 * y2 + e)) 0 := fun e z1 z2 => by
        rw [((b9 y2 q2.1.1 q2.1.2).2.2.2.2.2.2 e z1 z2).1]
        exact ap_one one _ _ _
      refine m_joins d 0 (xup h1 112 0 u) p y2 y (fun _ => 0) hp hx hy (by show 0 ≤ h1 66 4 ∧ h1 66 4 ≤ 12; rw [k66]; exact c8) (by show ∀ k e, 0 ≤ k → k < h1 66 8 → 0 ≤ e → e < h1 66 4 → xr (h1 77 (12 * k + e)); rw [k66, k77]; exact rm) (Or.inl ⟨one, trivial⟩) (fun _ _ _ => ⟨by decide, by decide⟩) (by show 0 ≤ h1 66 8 ∧ h1 66 8 ≤ 300; rw [k66]; exact b8) (fun z => absurd q z) (fun _ z => absurd (show (0 ≤ y2 ∧ y2 < h1 66 8) ∧ ((p = 5 ∨ p = 8 ∨ p = 9) ∨ (0 ≤ y ∧ y < h1 66 8)) by rw [k66, b1]; exact q2) z) (fun _ _ r2 h2 f2 hq2 => ?_)
      have hq2 : (r2 = -1 ∧ ∀ k, 0 ≤ k → k < h1 66 8 → ¬ ∀ e, 0 ≤ e → e < h1 66 4 → h1 77 (12 * k + e) = ap p (h1 77 (12 * y2 + e)) (0)) ∨ (0 ≤ r2 ∧ r2 < h1 66 8 ∧ ∀ e, 0 ≤ e → e < h1 66 4 → h1 77 (12 * r2 + e) = ap p (h1 77 (12 * y2 + e)) (0)) := hq2
      rw [k66, k77] at hq2
      refine CO_f (Inv_rk hI hk) (((((FM.rf h1).up (Or.inl (by unfold scr; decide))).up (Or.inr ⟨rfl, by unfold mdf; decide⟩))).tr (FM_row f2)) (by rw [f2 _ (by decide)]; rfl) (by rw [f2 _ (by decide)]; rfl) (like_u hI (V := fun e => ap p (h 24 (y2 * 12 + e)) (h 24 (y2 * 12 + e))) hq ?_)
      rcases hq2 with ⟨a1, a2⟩ | ⟨a1, a2, a3⟩
      · exact Or.inl ⟨a1, fun k z1 z2 z3 => a2 k z1 z2 (fun e z4 z5 => by rw [z3 e z4 z5]; exact (ve e z4 (by omega)))⟩
      · exact Or.inr ⟨a1, a2, fun e z4 z5 => by rw [a3 e z4 z5]; exact (ve e z4 (by omega)).symm⟩
  · refine o_joins d h p x y hp hx hy c1 (Inv_K hI).2.1 rk (Inv_sl hI) b0 (fun q u => ?_) (fun q q2 u => ?_) (fun q q2 y2 hy2 r h1 hk hq u => ?_)
    · by_cases yy : 0 ≤ y ∧ y < h 66 8
      · exact m_joins d 0 (xup h 112 0 u) p x y (fun e => h 77 (12 * y + e)) hp hx hy c8 rm (Or.inr ⟨one, fun _ => rfl⟩) (fun e z1 z2 => rm y e yy.1 yy.2 z1 z2) b8 (fun _ => CO_x hI 0 rfl u 0) (fun z => absurd z q) (fun z => absurd z q)
      · exact m_joinsX d 0 (xup h 112 0 u) p x y hp hx hy c8 one yy b8 (fun _ => CO_x hI 0 rfl u 0) (fun z => absurd z q)
    · by_cases yy : 0 ≤ y ∧ y < h 66 8
      · exact m_joins d 0 (xup h 112 0 u) p x y (fun e => h 77 (12 * y + e)) hp hx hy c8 rm (Or.inr ⟨one, fun _ => rfl⟩) (fun e z1 z2 => rm y e yy.1 yy.2 z1 z2) b8 (fun z => absurd q z) (fun _ _ => CO_x hI 1 rfl u 0) (fun _ z => absurd (cc.mp z) q2)
      · exact m_joinsX d 0 (xup h 112 0 u) p x y hp hx hy c8 one yy b8 (fun z => absurd q z) (fun _ => CO_x hI 1 rfl u 0)
    · obtain ⟨-, rfl⟩ : ¬ (p = 5 ∨ p = 8 ∨ p = 9) ∧ y2 = y := by rcases hy2 with z | z; exact absurd z.1 one; exact z
      have yk : 0 ≤ y2 ∧ y2 < h 9 9 := by rcases q2.2 with z | z; exact absurd z one; exact z
      have k66 : h1 66 = h 66 := hk.1 _ (by decide) (by decide)
      have k77 : h1 77 = h 77 := hk.1 _ (by decide) (by decide)
      have ve : ∀ e, 0 ≤ e → e < h 1 2 → ap p (h 24 (x * 12 + e)) (h 24 (y2 * 12 + e)) = ap p (h 77 (12 * x + e)) (h 77 (12 * y2 + e)) := fun e z1 z2 => by
        rw [((b9 y2 yk.1 yk.2).2.2.2.2.2.2 e z1 z2).1, ((b9 x q2.1.1 q2.1.2).2.2.2.2.2.2 e z1 z2).1]
      refine m_joins d 0 (xup h1 112 0 u) p x y2 (fun e => h1 77 (12 * y2 + e)) hp hx hy (by show 0 ≤ h1 66 4 ∧ h1 66 4 ≤ 12; rw [k66]; exact c8) (by show ∀ k e, 0 ≤ k → k < h1 66 8 → 0 ≤ e → e < h1 66 4 → xr (h1 77 (12 * k + e)); rw [k66, k77]; exact rm) (Or.inr ⟨one, fun _ => rfl⟩) (by show ∀ e, 0 ≤ e → e < h1 66 4 → xr (h1 77 (12 * y2 + e)); rw [k66, k77]; exact fun e z1 z2 => rm y2 e yk.1 (by omega) z1 z2) (by show 0 ≤ h1 66 8 ∧ h1 66 8 ≤ 300; rw [k66]; exact b8) (fun z => absurd q z) (fun _ z => absurd (show (0 ≤ x ∧ x < h1 66 8) ∧ ((p = 5 ∨ p = 8 ∨ p = 9) ∨ (0 ≤ y2 ∧ y2 < h1 66 8)) by rw [k66, b1]; exact q2) z) (fun _ _ r2 h2 f2 hq2 => ?_)
      have hq2 : (r2 = -1 ∧ ∀ k, 0 ≤ k → k < h1 66 8 → ¬ ∀ e, 0 ≤ e → e < h1 66 4 → h1 77 (12 * k + e) = ap p (h1 77 (12 * x + e)) (h1 77 (12 * y2 + e))) ∨ (0 ≤ r2 ∧ r2 < h1 66 8 ∧ ∀ e, 0 ≤ e → e < h1 66 4 → h1 77 (12 * r2 + e) = ap p (h1 77 (12 * x + e)) (h1 77 (12 * y2 + e))) := hq2
      rw [k66, k77] at hq2
      refine CO_f (Inv_rk hI hk) (((((FM.rf h1).up (Or.inl (by unfold scr; decide))).up (Or.inr ⟨rfl, by unfold mdf; decide⟩))).tr (FM_row f2)) (by rw [f2 _ (by decide)]; rfl) (by rw [f2 _ (by decide)]; rfl) (like_u hI (V := fun e => ap p (h 24 (x * 12 + e)) (h 24 (y2 * 12 + e))) hq ?_)
      rcases hq2 with ⟨a1, a2⟩ | ⟨a1, a2, a3⟩
      · exact Or.inl ⟨a1, fun k z1 z2 z3 => a2 k z1 z2 (fun e z4 z5 => by rw [z3 e z4 z5]; exact (ve e z4 (by omega)))⟩
      · exact Or.inr ⟨a1, a2, fun e z4 z5 => by rw [a3 e z4 z5]; exact (ve e z4 (by omega)).symm⟩
