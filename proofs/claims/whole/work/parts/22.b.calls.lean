theorem o1 {r : Int} {C : Prop} (h : (r = 1 ∧ C) ∨ (r = 0 ∧ ¬ C)) (e : ¬ r = 0) : C := by
  rcases h with ⟨-, z⟩ | ⟨z, -⟩
  · exact z
  · exact absurd z e
theorem o0 {r : Int} {C : Prop} (h : (r = 1 ∧ C) ∨ (r = 0 ∧ ¬ C)) (e : r = 0) : ¬ C := by
  rcases h with ⟨z, -⟩ | ⟨-, z⟩
  · omega
  · exact z
/-- INPUTS that may be -/
def inOk (m x y z : Int) : Prop := (-99 ≤ x ∧ x ≤ 99) ∧ (-99 ≤ y ∧ y ≤ 99) ∧ (-99 ≤ z ∧ z ≤ 99) ∧ (1 < m ∨ y = 0) ∧ (2 < m ∨ z = 0)
def KOK (h : xH) : Prop := (0 ≤ h 9 9 ∧ h 9 9 ≤ 300) ∧ chn h (h 9 9) ∧ (0 ≤ h 28 9 ∧ h 28 9 ≤ 150) ∧ num h (h 28 9)
theorem KOK_of {h h' : xH} (e : ∀ a, 9 ≤ a → h' a = h a) (k : KOK h) : KOK h' := by
  unfold KOK at *
  rw [e 9 (by decide), e 28 (by decide)]
  exact ⟨k.1, chn_of (e _ (by decide)) (e _ (by decide)) (e _ (by decide)) k.2.1, k.2.2.1, num_of (e _ (by decide)) (e _ (by decide)) k.2.2.2⟩
theorem Inv_K {h : xH} (i : Inv h) : KOK h := by
  obtain ⟨S, T, ib, ie, it, -⟩ := i
  obtain ⟨a1, -, -, -, -, -, -, a8, -⟩ := ie.1
  obtain ⟨b1, -, -, -, -, -, -, b8⟩ := it.1
  refine ⟨?_, by rw [a1]; exact a8, ?_, by rw [b1]; exact b8⟩
  · rw [a1]; exact ⟨ie.2.2.1.1, ie.2.2.1.2.1⟩
  · rw [b1]; exact ⟨it.2.2.1.1, it.2.2.1.2.1⟩
theorem up9 {h : xH} {a : Nat} {j v : Int} (ha : a < 9) : ∀ x, 9 ≤ x → xup h a j v x = h x := fun x hx => xup_o h a j v x (by omega)
theorem up66 {h : xH} {a : Nat} {j v : Int} {x : Nat} (ha : x ≠ a) : xup h a j v x = h x := xup_o h a j v x ha
set_option maxHeartbeats 1000000 in
theorem c_refNoInputs (d  : Nat) (h : xH) (x y z : Int) (hm : 1 ≤ h 1 1 ∧ h 1 1 ≤ 3) (hx : xr x) (hy : xr y) (hz : xr z) {Q : xO → xH → Prop} (h1 : inOk (h 1 1) x y z → Q (.inl none) h) (h0 : ¬ inOk (h 1 1) x y z → Q (.inr "java/lang/IllegalArgumentException") h) : xRn G0 MT (d + 2) 1 148 [.inr (.inr 0), .inl x, .inl y, .inl z] h Q := by
  refine R_of (M := mX11_refuseNoInputs) rfl (Nat.le_of_ble_eq_true rfl) ?_
  show xEx G0 cdX11_refuseNoInputs none (xRn G0 MT (d + 1)) Q 1 0 [some (.inr (.inr 0)), some (.inl x), some (.inl y), some (.inl z)] [] h
  refine E_s 4 (i' := 4) (ls' := [some (.inr (.inr 0)), some (.inl x), some (.inl y), some (.inl z)]) (sk' := [.inl x, .inl 0, .inr (.inr 1)]) (h' := h) rfl ?_
  refine E_cp (x := (.invokevirtual 387, 2, [(0, 1)], [0])) (q := fun r1 h9 => ((r1 = 1 ∧ ((0 < h 1 1 ∧ -99 ≤ x ∧ x ≤ 99) ∨ (¬ 0 < h 1 1 ∧ x = 0))) ∨ (r1 = 0 ∧ ¬ ((0 < h 1 1 ∧ -99 ≤ x ∧ x ≤ 99) ∨ (¬ 0 < h 1 1 ∧ x = 0)))) ∧ h = h9) rfl rfl (Nat.le_of_ble_eq_true rfl) (c_mayBe d 0 h 0 x hm ⟨by omega, by omega⟩ hx (fun z => ⟨_, rfl, Or.inl ⟨rfl, (by split at z <;> omega)⟩, rfl⟩) (fun z => ⟨_, rfl, Or.inr ⟨rfl, (by split at z <;> omega)⟩, rfl⟩)) (fun r1 h9 q1 => ?_)
  obtain ⟨q1, rfl⟩ := q1
  show xEx G0 cdX11_refuseNoInputs none (xRn G0 MT (d + 1)) Q 1 5 [some (.inr (.inr 0)), some (.inl x), some (.inl y), some (.inl z)] [.inl r1] h
  refine E_b (x := (.ifCond .eq 27, 18, [], [])) rfl rfl (fun c5 => ?_) (fun c5 => ?_)
  · rw [c_eq (by first | assumption | (refine ⟨?_, ?_⟩ <;> omega) | (simp only [xr] at *; omega)) (by first | assumption | (refine ⟨?_, ?_⟩ <;> omega) | (simp only [xr] at *; omega))] at c5
    simp only [decide_eq_true_eq, decide_eq_false_iff_not, Decidable.not_not] at c5
    show xEx G0 cdX11_refuseNoInputs none (xRn G0 MT (d + 1)) Q 1 18 [some (.inr (.inr 0)), some (.inl x), some (.inl y), some (.inl z)] [] h
    exact E_thr (x := (.new 80, 0, [(0, 1)], [])) rfl rfl rfl (Nat.le_of_ble_eq_true rfl) (h0 (by unfold inOk; omega))
  · rw [c_eq (by first | assumption | (refine ⟨?_, ?_⟩ <;> omega) | (simp only [xr] at *; omega)) (by first | assumption | (refine ⟨?_, ?_⟩ <;> omega) | (simp only [xr] at *; omega))] at c5
    simp only [decide_eq_true_eq, decide_eq_false_iff_not, Decidable.not_not] at c5
    show xEx G0 cdX11_refuseNoInputs none (xRn G0 MT (d + 1)) Q 1 6 [some (.inr (.inr 0)), some (.inl x), some (.inl y), some (.inl z)] [] h
    refine E_s 4 (i' := 10) (ls' := [some (.inr (.inr 0)), some (.inl x), some (.inl y), some (.inl z)]) (sk' := [.inl y, .inl 1, .inr (.inr 1)]) (h' := h) rfl ?_
    refine E_cp (x := (.invokevirtual 387, 2, [(0, 1)], [0])) (q := fun r2 h9 => ((r2 = 1 ∧ ((1 < h 1 1 ∧ -99 ≤ y ∧ y ≤ 99) ∨ (¬ 1 < h 1 1 ∧ y = 0))) ∨ (r2 = 0 ∧ ¬ ((1 < h 1 1 ∧ -99 ≤ y ∧ y ≤ 99) ∨ (¬ 1 < h 1 1 ∧ y = 0)))) ∧ h = h9) rfl rfl (Nat.le_of_ble_eq_true rfl) (c_mayBe d 0 h 1 y hm ⟨by omega, by omega⟩ hy (fun z => ⟨_, rfl, Or.inl ⟨rfl, (by split at z <;> omega)⟩, rfl⟩) (fun z => ⟨_, rfl, Or.inr ⟨rfl, (by split at z <;> omega)⟩, rfl⟩)) (fun r2 h9 q2 => ?_)
    obtain ⟨q2, rfl⟩ := q2
    show xEx G0 cdX11_refuseNoInputs none (xRn G0 MT (d + 1)) Q 1 11 [some (.inr (.inr 0)), some (.inl x), some (.inl y), some (.inl z)] [.inl r2] h
    refine E_b (x := (.ifCond .eq 15, 18, [], [])) rfl rfl (fun c11 => ?_) (fun c11 => ?_)
    · rw [c_eq (by first | assumption | (refine ⟨?_, ?_⟩ <;> omega) | (simp only [xr] at *; omega)) (by first | assumption | (refine ⟨?_, ?_⟩ <;> omega) | (simp only [xr] at *; omega))] at c11
      simp only [decide_eq_true_eq, decide_eq_false_iff_not, Decidable.not_not] at c11
      show xEx G0 cdX11_refuseNoInputs none (xRn G0 MT (d + 1)) Q 1 18 [some (.inr (.inr 0)), some (.inl x), some (.inl y), some (.inl z)] [] h
      exact E_thr (x := (.new 80, 0, [(0, 1)], [])) rfl rfl rfl (Nat.le_of_ble_eq_true rfl) (h0 (by unfold inOk; omega))
    · rw [c_eq (by first | assumption | (refine ⟨?_, ?_⟩ <;> omega) | (simp only [xr] at *; omega)) (by first | assumption | (refine ⟨?_, ?_⟩ <;> omega) | (simp only [xr] at *; omega))] at c11
      simp only [decide_eq_true_eq, decide_eq_false_iff_not, Decidable.not_not] at c11
      show xEx G0 cdX11_refuseNoInputs none (xRn G0 MT (d + 1)) Q 1 12 [some (.inr (.inr 0)), some (.inl x), some (.inl y), some (.inl z)] [] h
      refine E_s 4 (i' := 16) (ls' := [some (.inr (.inr 0)), some (.inl x), some (.inl y), some (.inl z)]) (sk' := [.inl z, .inl 2, .inr (.inr 1)]) (h' := h) rfl ?_
      refine E_cp (x := (.invokevirtual 387, 2, [(0, 1)], [0])) (q := fun r3 h9 => ((r3 = 1 ∧ ((2 < h 1 1 ∧ -99 ≤ z ∧ z ≤ 99) ∨ (¬ 2 < h 1 1 ∧ z = 0))) ∨ (r3 = 0 ∧ ¬ ((2 < h 1 1 ∧ -99 ≤ z ∧ z ≤ 99) ∨ (¬ 2 < h 1 1 ∧ z = 0)))) ∧ h = h9) rfl rfl (Nat.le_of_ble_eq_true rfl) (c_mayBe d 0 h 2 z hm ⟨by omega, by omega⟩ hz (fun z => ⟨_, rfl, Or.inl ⟨rfl, (by split at z <;> omega)⟩, rfl⟩) (fun z => ⟨_, rfl, Or.inr ⟨rfl, (by split at z <;> omega)⟩, rfl⟩)) (fun r3 h9 q3 => ?_)
      obtain ⟨q3, rfl⟩ := q3
      show xEx G0 cdX11_refuseNoInputs none (xRn G0 MT (d + 1)) Q 1 17 [some (.inr (.inr 0)), some (.inl x), some (.inl y), some (.inl z)] [.inl r3] h
      refine E_b (x := (.ifCond .ne 14, 23, [], [])) rfl rfl (fun c17 => ?_) (fun c17 => ?_)
      · rw [c_ne (by first | assumption | (refine ⟨?_, ?_⟩ <;> omega) | (simp only [xr] at *; omega)) (by first | assumption | (refine ⟨?_, ?_⟩ <;> omega) | (simp only [xr] at *; omega))] at c17
        simp only [decide_eq_true_eq, decide_eq_false_iff_not, Decidable.not_not] at c17
        show xEx G0 cdX11_refuseNoInputs none (xRn G0 MT (d + 1)) Q 1 23 [some (.inr (.inr 0)), some (.inl x), some (.inl y), some (.inl z)] [] h
        exact E_ret (x := (.return_, 0, [], [])) (v := none) rfl (trivial) (h1 (by unfold inOk; omega))
      · rw [c_ne (by first | assumption | (refine ⟨?_, ?_⟩ <;> omega) | (simp only [xr] at *; omega)) (by first | assumption | (refine ⟨?_, ?_⟩ <;> omega) | (simp only [xr] at *; omega))] at c17
        simp only [decide_eq_true_eq, decide_eq_false_iff_not, Decidable.not_not] at c17
        show xEx G0 cdX11_refuseNoInputs none (xRn G0 MT (d + 1)) Q 1 18 [some (.inr (.inr 0)), some (.inl x), some (.inl y), some (.inl z)] [] h
        exact E_thr (x := (.new 80, 0, [(0, 1)], [])) rfl rfl rfl (Nat.le_of_ble_eq_true rfl) (h0 (by unfold inOk; omega))
set_option maxHeartbeats 1000000 in
theorem m_areInputs (d b : Nat) (h : xH) (x y z : Int) (hm : 1 ≤ h 66 1 ∧ h 66 1 ≤ 3) (hx : xr x) (hy : xr y) (hz : xr z) {Q : xO → xH → Prop} (h1 : inOk (h 66 1) x y z → Q (.inl (some (.inl 1))) h) (h0 : ¬ inOk (h 66 1) x y z → Q (.inl (some (.inl 0))) h) : xRn G0 MT (d + 2) b 159 [.inr (.inr 66), .inl x, .inl y, .inl z] h Q := by
  refine R_of (M := mX12_areInputs) rfl (Nat.le_of_ble_eq_true rfl) ?_
  show xEx G0 cdX12_areInputs (some .boolean) (xRn G0 MT (d + 1)) Q b 0 [some (.inr (.inr 66)), some (.inl x), some (.inl y), some (.inl z)] [] h
  refine E_s 3 (i' := 3) (ls' := [some (.inr (.inr 66)), some (.inl x), some (.inl y), some (.inl z)]) (sk' := [.inl 99, .inl (-99), .inl x]) (h' := h) rfl ?_
  refine E_cp (x := (.invokestatic 180, 3, [(0, 155)], [])) (q := fun r1 h9 => ((r1 = 1 ∧ ((-99) ≤ x ∧ x ≤ 99)) ∨ (r1 = 0 ∧ ¬ ((-99) ≤ x ∧ x ≤ 99))) ∧ h = h9) rfl rfl (Nat.le_of_ble_eq_true rfl) (m_isIn d 0 (h) x (-99) 99 hx ⟨by omega, by omega⟩ ⟨by omega, by omega⟩ (fun z => ⟨_, rfl, Or.inl ⟨rfl, z⟩, rfl⟩) (fun z => ⟨_, rfl, Or.inr ⟨rfl, z⟩, rfl⟩)) (fun r1 h9 q1 => ?_)
  obtain ⟨q1, rfl⟩ := q1
  show xEx G0 cdX12_areInputs (some .boolean) (xRn G0 MT (d + 1)) Q b 4 [some (.inr (.inr 66)), some (.inl x), some (.inl y), some (.inl z)] [.inl r1] h
  refine E_b (x := (.ifCond .eq 53, 29, [], [])) rfl rfl (fun c4 => ?_) (fun c4 => ?_)
  · rw [c_eq (by first | assumption | (refine ⟨?_, ?_⟩ <;> omega) | (simp only [xr] at *; omega)) (by first | assumption | (refine ⟨?_, ?_⟩ <;> omega) | (simp only [xr] at *; omega))] at c4
    simp only [decide_eq_true_eq, decide_eq_false_iff_not, Decidable.not_not] at c4
    show xEx G0 cdX12_areInputs (some .boolean) (xRn G0 MT (d + 1)) Q b 29 [some (.inr (.inr 66)), some (.inl x), some (.inl y), some (.inl z)] [] h
    refine E_s 1 (i' := 30) (ls' := [some (.inr (.inr 66)), some (.inl x), some (.inl y), some (.inl z)]) (sk' := [.inl 0]) (h' := h) rfl ?_
    exact E_ret (x := (.ireturn, 0, [], [])) (v := some (.inl 0)) rfl (Or.inr ⟨rfl, by omega⟩) (h0 (by unfold inOk; omega))
  · rw [c_eq (by first | assumption | (refine ⟨?_, ?_⟩ <;> omega) | (simp only [xr] at *; omega)) (by first | assumption | (refine ⟨?_, ?_⟩ <;> omega) | (simp only [xr] at *; omega))] at c4
    simp only [decide_eq_true_eq, decide_eq_false_iff_not, Decidable.not_not] at c4
    show xEx G0 cdX12_areInputs (some .boolean) (xRn G0 MT (d + 1)) Q b 5 [some (.inr (.inr 66)), some (.inl x), some (.inl y), some (.inl z)] [] h
    refine E_s 3 (i' := 8) (ls' := [some (.inr (.inr 66)), some (.inl x), some (.inl y), some (.inl z)]) (sk' := [.inl 99, .inl (-99), .inl y]) (h' := h) rfl ?_
    refine E_cp (x := (.invokestatic 180, 3, [(0, 155)], [])) (q := fun r2 h9 => ((r2 = 1 ∧ ((-99) ≤ y ∧ y ≤ 99)) ∨ (r2 = 0 ∧ ¬ ((-99) ≤ y ∧ y ≤ 99))) ∧ h = h9) rfl rfl (Nat.le_of_ble_eq_true rfl) (m_isIn d 0 (h) y (-99) 99 hy ⟨by omega, by omega⟩ ⟨by omega, by omega⟩ (fun z => ⟨_, rfl, Or.inl ⟨rfl, z⟩, rfl⟩) (fun z => ⟨_, rfl, Or.inr ⟨rfl, z⟩, rfl⟩)) (fun r2 h9 q2 => ?_)
    obtain ⟨q2, rfl⟩ := q2
    show xEx G0 cdX12_areInputs (some .boolean) (xRn G0 MT (d + 1)) Q b 9 [some (.inr (.inr 66)), some (.inl x), some (.inl y), some (.inl z)] [.inl r2] h
    refine E_b (x := (.ifCond .eq 42, 29, [], [])) rfl rfl (fun c9 => ?_) (fun c9 => ?_)
    · rw [c_eq (by first | assumption | (refine ⟨?_, ?_⟩ <;> omega) | (simp only [xr] at *; omega)) (by first | assumption | (refine ⟨?_, ?_⟩ <;> omega) | (simp only [xr] at *; omega))] at c9
      simp only [decide_eq_true_eq, decide_eq_false_iff_not, Decidable.not_not] at c9
      show xEx G0 cdX12_areInputs (some .boolean) (xRn G0 MT (d + 1)) Q b 29 [some (.inr (.inr 66)), some (.inl x), some (.inl y), some (.inl z)] [] h
      refine E_s 1 (i' := 30) (ls' := [some (.inr (.inr 66)), some (.inl x), some (.inl y), some (.inl z)]) (sk' := [.inl 0]) (h' := h) rfl ?_
      exact E_ret (x := (.ireturn, 0, [], [])) (v := some (.inl 0)) rfl (Or.inr ⟨rfl, by omega⟩) (h0 (by unfold inOk; omega))
    · rw [c_eq (by first | assumption | (refine ⟨?_, ?_⟩ <;> omega) | (simp only [xr] at *; omega)) (by first | assumption | (refine ⟨?_, ?_⟩ <;> omega) | (simp only [xr] at *; omega))] at c9
      simp only [decide_eq_true_eq, decide_eq_false_iff_not, Decidable.not_not] at c9
      show xEx G0 cdX12_areInputs (some .boolean) (xRn G0 MT (d + 1)) Q b 10 [some (.inr (.inr 66)), some (.inl x), some (.inl y), some (.inl z)] [] h
      refine E_s 3 (i' := 13) (ls' := [some (.inr (.inr 66)), some (.inl x), some (.inl y), some (.inl z)]) (sk' := [.inl 99, .inl (-99), .inl z]) (h' := h) rfl ?_
      refine E_cp (x := (.invokestatic 180, 3, [(0, 155)], [])) (q := fun r3 h9 => ((r3 = 1 ∧ ((-99) ≤ z ∧ z ≤ 99)) ∨ (r3 = 0 ∧ ¬ ((-99) ≤ z ∧ z ≤ 99))) ∧ h = h9) rfl rfl (Nat.le_of_ble_eq_true rfl) (m_isIn d 0 (h) z (-99) 99 hz ⟨by omega, by omega⟩ ⟨by omega, by omega⟩ (fun z => ⟨_, rfl, Or.inl ⟨rfl, z⟩, rfl⟩) (fun z => ⟨_, rfl, Or.inr ⟨rfl, z⟩, rfl⟩)) (fun r3 h9 q3 => ?_)
      obtain ⟨q3, rfl⟩ := q3
      show xEx G0 cdX12_areInputs (some .boolean) (xRn G0 MT (d + 1)) Q b 14 [some (.inr (.inr 66)), some (.inl x), some (.inl y), some (.inl z)] [.inl r3] h
      refine E_b (x := (.ifCond .eq 31, 29, [], [])) rfl rfl (fun c14 => ?_) (fun c14 => ?_)
      · rw [c_eq (by first | assumption | (refine ⟨?_, ?_⟩ <;> omega) | (simp only [xr] at *; omega)) (by first | assumption | (refine ⟨?_, ?_⟩ <;> omega) | (simp only [xr] at *; omega))] at c14
        simp only [decide_eq_true_eq, decide_eq_false_iff_not, Decidable.not_not] at c14
        show xEx G0 cdX12_areInputs (some .boolean) (xRn G0 MT (d + 1)) Q b 29 [some (.inr (.inr 66)), some (.inl x), some (.inl y), some (.inl z)] [] h
        refine E_s 1 (i' := 30) (ls' := [some (.inr (.inr 66)), some (.inl x), some (.inl y), some (.inl z)]) (sk' := [.inl 0]) (h' := h) rfl ?_
        exact E_ret (x := (.ireturn, 0, [], [])) (v := some (.inl 0)) rfl (Or.inr ⟨rfl, by omega⟩) (h0 (by unfold inOk; omega))
      · rw [c_eq (by first | assumption | (refine ⟨?_, ?_⟩ <;> omega) | (simp only [xr] at *; omega)) (by first | assumption | (refine ⟨?_, ?_⟩ <;> omega) | (simp only [xr] at *; omega))] at c14
        simp only [decide_eq_true_eq, decide_eq_false_iff_not, Decidable.not_not] at c14
        show xEx G0 cdX12_areInputs (some .boolean) (xRn G0 MT (d + 1)) Q b 15 [some (.inr (.inr 66)), some (.inl x), some (.inl y), some (.inl z)] [] h
        refine E_s 3 (i' := 18) (ls' := [some (.inr (.inr 66)), some (.inl x), some (.inl y), some (.inl z)]) (sk' := [.inl 1, .inl (h 66 1)]) (h' := h) rfl ?_
        refine E_b (x := (.if_icmp .gt 7, 21, [], [])) rfl rfl (fun c18 => ?_) (fun c18 => ?_)
        · rw [c_gt (by first | assumption | (refine ⟨?_, ?_⟩ <;> omega) | (simp only [xr] at *; omega)) (by first | assumption | (refine ⟨?_, ?_⟩ <;> omega) | (simp only [xr] at *; omega))] at c18
          simp only [decide_eq_true_eq, decide_eq_false_iff_not, Decidable.not_not] at c18
          show xEx G0 cdX12_areInputs (some .boolean) (xRn G0 MT (d + 1)) Q b 21 [some (.inr (.inr 66)), some (.inl x), some (.inl y), some (.inl z)] [] h
          refine E_s 3 (i' := 24) (ls' := [some (.inr (.inr 66)), some (.inl x), some (.inl y), some (.inl z)]) (sk' := [.inl 2, .inl (h 66 1)]) (h' := h) rfl ?_
          refine E_b (x := (.if_icmp .gt 7, 27, [], [])) rfl rfl (fun c24 => ?_) (fun c24 => ?_)
          · rw [c_gt (by first | assumption | (refine ⟨?_, ?_⟩ <;> omega) | (simp only [xr] at *; omega)) (by first | assumption | (refine ⟨?_, ?_⟩ <;> omega) | (simp only [xr] at *; omega))] at c24
            simp only [decide_eq_true_eq, decide_eq_false_iff_not, Decidable.not_not] at c24
            show xEx G0 cdX12_areInputs (some .boolean) (xRn G0 MT (d + 1)) Q b 27 [some (.inr (.inr 66)), some (.inl x), some (.inl y), some (.inl z)] [] h
            refine E_s 2 (i' := 30) (ls' := [some (.inr (.inr 66)), some (.inl x), some (.inl y), some (.inl z)]) (sk' := [.inl 1]) (h' := h) rfl ?_
            exact E_ret (x := (.ireturn, 0, [], [])) (v := some (.inl 1)) rfl (Or.inr ⟨rfl, by omega⟩) (h1 (by unfold inOk; omega))
          · rw [c_gt (by first | assumption | (refine ⟨?_, ?_⟩ <;> omega) | (simp only [xr] at *; omega)) (by first | assumption | (refine ⟨?_, ?_⟩ <;> omega) | (simp only [xr] at *; omega))] at c24
            simp only [decide_eq_true_eq, decide_eq_false_iff_not, Decidable.not_not] at c24
            show xEx G0 cdX12_areInputs (some .boolean) (xRn G0 MT (d + 1)) Q b 25 [some (.inr (.inr 66)), some (.inl x), some (.inl y), some (.inl z)] [] h
            refine E_s 1 (i' := 26) (ls' := [some (.inr (.inr 66)), some (.inl x), some (.inl y), some (.inl z)]) (sk' := [.inl z]) (h' := h) rfl ?_
            refine E_b (x := (.ifCond .ne 7, 29, [], [])) rfl rfl (fun c26 => ?_) (fun c26 => ?_)
            · rw [c_ne (by first | assumption | (refine ⟨?_, ?_⟩ <;> omega) | (simp only [xr] at *; omega)) (by first | assumption | (refine ⟨?_, ?_⟩ <;> omega) | (simp only [xr] at *; omega))] at c26
              simp only [decide_eq_true_eq, decide_eq_false_iff_not, Decidable.not_not] at c26
              show xEx G0 cdX12_areInputs (some .boolean) (xRn G0 MT (d + 1)) Q b 29 [some (.inr (.inr 66)), some (.inl x), some (.inl y), some (.inl z)] [] h
              refine E_s 1 (i' := 30) (ls' := [some (.inr (.inr 66)), some (.inl x), some (.inl y), some (.inl z)]) (sk' := [.inl 0]) (h' := h) rfl ?_
              exact E_ret (x := (.ireturn, 0, [], [])) (v := some (.inl 0)) rfl (Or.inr ⟨rfl, by omega⟩) (h0 (by unfold inOk; omega))
            · rw [c_ne (by first | assumption | (refine ⟨?_, ?_⟩ <;> omega) | (simp only [xr] at *; omega)) (by first | assumption | (refine ⟨?_, ?_⟩ <;> omega) | (simp only [xr] at *; omega))] at c26
              simp only [decide_eq_true_eq, decide_eq_false_iff_not, Decidable.not_not] at c26
              show xEx G0 cdX12_areInputs (some .boolean) (xRn G0 MT (d + 1)) Q b 27 [some (.inr (.inr 66)), some (.inl x), some (.inl y), some (.inl z)] [] h
              refine E_s 2 (i' := 30) (ls' := [some (.inr (.inr 66)), some (.inl x), some (.inl y), some (.inl z)]) (sk' := [.inl 1]) (h' := h) rfl ?_
              exact E_ret (x := (.ireturn, 0, [], [])) (v := some (.inl 1)) rfl (Or.inr ⟨rfl, by omega⟩) (h1 (by unfold inOk; omega))
        · rw [c_gt (by first | assumption | (refine ⟨?_, ?_⟩ <;> omega) | (simp only [xr] at *; omega)) (by first | assumption | (refine ⟨?_, ?_⟩ <;> omega) | (simp only [xr] at *; omega))] at c18
          simp only [decide_eq_true_eq, decide_eq_false_iff_not, Decidable.not_not] at c18
          show xEx G0 cdX12_areInputs (some .boolean) (xRn G0 MT (d + 1)) Q b 19 [some (.inr (.inr 66)), some (.inl x), some (.inl y), some (.inl z)] [] h
          refine E_s 1 (i' := 20) (ls' := [some (.inr (.inr 66)), some (.inl x), some (.inl y), some (.inl z)]) (sk' := [.inl y]) (h' := h) rfl ?_
          refine E_b (x := (.ifCond .ne 19, 29, [], [])) rfl rfl (fun c20 => ?_) (fun c20 => ?_)
          · rw [c_ne (by first | assumption | (refine ⟨?_, ?_⟩ <;> omega) | (simp only [xr] at *; omega)) (by first | assumption | (refine ⟨?_, ?_⟩ <;> omega) | (simp only [xr] at *; omega))] at c20
            simp only [decide_eq_true_eq, decide_eq_false_iff_not, Decidable.not_not] at c20
            show xEx G0 cdX12_areInputs (some .boolean) (xRn G0 MT (d + 1)) Q b 29 [some (.inr (.inr 66)), some (.inl x), some (.inl y), some (.inl z)] [] h
            refine E_s 1 (i' := 30) (ls' := [some (.inr (.inr 66)), some (.inl x), some (.inl y), some (.inl z)]) (sk' := [.inl 0]) (h' := h) rfl ?_
            exact E_ret (x := (.ireturn, 0, [], [])) (v := some (.inl 0)) rfl (Or.inr ⟨rfl, by omega⟩) (h0 (by unfold inOk; omega))
          · rw [c_ne (by first | assumption | (refine ⟨?_, ?_⟩ <;> omega) | (simp only [xr] at *; omega)) (by first | assumption | (refine ⟨?_, ?_⟩ <;> omega) | (simp only [xr] at *; omega))] at c20
            simp only [decide_eq_true_eq, decide_eq_false_iff_not, Decidable.not_not] at c20
            show xEx G0 cdX12_areInputs (some .boolean) (xRn G0 MT (d + 1)) Q b 21 [some (.inr (.inr 66)), some (.inl x), some (.inl y), some (.inl z)] [] h
            refine E_s 3 (i' := 24) (ls' := [some (.inr (.inr 66)), some (.inl x), some (.inl y), some (.inl z)]) (sk' := [.inl 2, .inl (h 66 1)]) (h' := h) rfl ?_
            refine E_b (x := (.if_icmp .gt 7, 27, [], [])) rfl rfl (fun c24 => ?_) (fun c24 => ?_)
            · rw [c_gt (by first | assumption | (refine ⟨?_, ?_⟩ <;> omega) | (simp only [xr] at *; omega)) (by first | assumption | (refine ⟨?_, ?_⟩ <;> omega) | (simp only [xr] at *; omega))] at c24
              simp only [decide_eq_true_eq, decide_eq_false_iff_not, Decidable.not_not] at c24
              show xEx G0 cdX12_areInputs (some .boolean) (xRn G0 MT (d + 1)) Q b 27 [some (.inr (.inr 66)), some (.inl x), some (.inl y), some (.inl z)] [] h
              refine E_s 2 (i' := 30) (ls' := [some (.inr (.inr 66)), some (.inl x), some (.inl y), some (.inl z)]) (sk' := [.inl 1]) (h' := h) rfl ?_
              exact E_ret (x := (.ireturn, 0, [], [])) (v := some (.inl 1)) rfl (Or.inr ⟨rfl, by omega⟩) (h1 (by unfold inOk; omega))
            · rw [c_gt (by first | assumption | (refine ⟨?_, ?_⟩ <;> omega) | (simp only [xr] at *; omega)) (by first | assumption | (refine ⟨?_, ?_⟩ <;> omega) | (simp only [xr] at *; omega))] at c24
              simp only [decide_eq_true_eq, decide_eq_false_iff_not, Decidable.not_not] at c24
              show xEx G0 cdX12_areInputs (some .boolean) (xRn G0 MT (d + 1)) Q b 25 [some (.inr (.inr 66)), some (.inl x), some (.inl y), some (.inl z)] [] h
              refine E_s 1 (i' := 26) (ls' := [some (.inr (.inr 66)), some (.inl x), some (.inl y), some (.inl z)]) (sk' := [.inl z]) (h' := h) rfl ?_
              refine E_b (x := (.ifCond .ne 7, 29, [], [])) rfl rfl (fun c26 => ?_) (fun c26 => ?_)
              · rw [c_ne (by first | assumption | (refine ⟨?_, ?_⟩ <;> omega) | (simp only [xr] at *; omega)) (by first | assumption | (refine ⟨?_, ?_⟩ <;> omega) | (simp only [xr] at *; omega))] at c26
                simp only [decide_eq_true_eq, decide_eq_false_iff_not, Decidable.not_not] at c26
                show xEx G0 cdX12_areInputs (some .boolean) (xRn G0 MT (d + 1)) Q b 29 [some (.inr (.inr 66)), some (.inl x), some (.inl y), some (.inl z)] [] h
                refine E_s 1 (i' := 30) (ls' := [some (.inr (.inr 66)), some (.inl x), some (.inl y), some (.inl z)]) (sk' := [.inl 0]) (h' := h) rfl ?_
                exact E_ret (x := (.ireturn, 0, [], [])) (v := some (.inl 0)) rfl (Or.inr ⟨rfl, by omega⟩) (h0 (by unfold inOk; omega))
              · rw [c_ne (by first | assumption | (refine ⟨?_, ?_⟩ <;> omega) | (simp only [xr] at *; omega)) (by first | assumption | (refine ⟨?_, ?_⟩ <;> omega) | (simp only [xr] at *; omega))] at c26
                simp only [decide_eq_true_eq, decide_eq_false_iff_not, Decidable.not_not] at c26
                show xEx G0 cdX12_areInputs (some .boolean) (xRn G0 MT (d + 1)) Q b 27 [some (.inr (.inr 66)), some (.inl x), some (.inl y), some (.inl z)] [] h
                refine E_s 2 (i' := 30) (ls' := [some (.inr (.inr 66)), some (.inl x), some (.inl y), some (.inl z)]) (sk' := [.inl 1]) (h' := h) rfl ?_
                exact E_ret (x := (.ireturn, 0, [], [])) (v := some (.inl 1)) rfl (Or.inr ⟨rfl, by omega⟩) (h1 (by unfold inOk; omega))
set_option maxHeartbeats 1000000 in
theorem m_isExample (d b : Nat) (h : xH) (p : Int) (hp : xr p) (hn : 0 ≤ h 66 4 ∧ h 66 4 ≤ 12) {Q : xO → xH → Prop} (h1 : 0 ≤ p ∧ p < h 66 4 → Q (.inl (some (.inl 1))) h) (h0 : ¬ (0 ≤ p ∧ p < h 66 4) → Q (.inl (some (.inl 0))) h) : xRn G0 MT (d + 2) b 162 [.inr (.inr 66), .inl p] h Q := by
  refine R_of (M := mX12_isExample) rfl (Nat.le_of_ble_eq_true rfl) ?_
  show xEx G0 cdX12_isExample (some .boolean) (xRn G0 MT (d + 1)) Q b 0 [some (.inr (.inr 66)), some (.inl p)] [] h
  refine E_s 6 (i' := 6) (ls' := [some (.inr (.inr 66)), some (.inl p)]) (sk' := [.inl ((h 66 4) - 1), .inl 0, .inl p]) (h' := h) rfl ?_
  refine E_cp (x := (.invokestatic 180, 3, [(0, 155)], [])) (q := fun r h9 => ((r = 1 ∧ (0 ≤ p ∧ p ≤ h 66 4 - 1)) ∨ (r = 0 ∧ ¬ (0 ≤ p ∧ p ≤ h 66 4 - 1))) ∧ h = h9) rfl rfl (Nat.le_of_ble_eq_true rfl) (m_isIn d 0 h p 0 (h 66 4 - 1) hp ⟨by omega, by omega⟩ ⟨by omega, by omega⟩ (fun z => ⟨_, rfl, Or.inl ⟨rfl, z⟩, rfl⟩) (fun z => ⟨_, rfl, Or.inr ⟨rfl, z⟩, rfl⟩)) (fun r h9 q1 => ?_)
  obtain ⟨q1, rfl⟩ := q1
  show xEx G0 cdX12_isExample (some .boolean) (xRn G0 MT (d + 1)) Q b 7 [some (.inr (.inr 66)), some (.inl p)] [.inl r] h
  exact E_ret (x := (.ireturn, 0, [], [])) (v := some (.inl r)) rfl (Or.inr ⟨rfl, by omega⟩) (by
    have : r = 1 ∨ r = 0 := by omega
    rcases this with e | e
    · subst e; exact h1 (by omega)
    · subst e; exact h0 (by omega))
set_option maxHeartbeats 1000000 in
theorem m_isPart (d b : Nat) (h : xH) (p : Int) (hp : xr p) {Q : xO → xH → Prop} (h1 : 0 ≤ p ∧ p ≤ 9 → Q (.inl (some (.inl 1))) h) (h0 : ¬ (0 ≤ p ∧ p ≤ 9) → Q (.inl (some (.inl 0))) h) : xRn G0 MT (d + 2) b 164 [.inl p] h Q := by
  refine R_of (M := mX12_isPart) rfl (Nat.le_of_ble_eq_true rfl) ?_
  show xEx G0 cdX12_isPart (some .boolean) (xRn G0 MT (d + 1)) Q b 0 [some (.inl p)] [] h
  refine E_s 3 (i' := 3) (ls' := [some (.inl p)]) (sk' := [.inl 9, .inl 0, .inl p]) (h' := h) rfl ?_
  refine E_cp (x := (.invokestatic 180, 3, [(0, 155)], [])) (q := fun r h9 => ((r = 1 ∧ (0 ≤ p ∧ p ≤ 9)) ∨ (r = 0 ∧ ¬ (0 ≤ p ∧ p ≤ 9))) ∧ h = h9) rfl rfl (Nat.le_of_ble_eq_true rfl) (m_isIn d 0 h p 0 9 hp ⟨by omega, by omega⟩ ⟨by omega, by omega⟩ (fun z => ⟨_, rfl, Or.inl ⟨rfl, z⟩, rfl⟩) (fun z => ⟨_, rfl, Or.inr ⟨rfl, z⟩, rfl⟩)) (fun r h9 q1 => ?_)
  obtain ⟨q1, rfl⟩ := q1
  show xEx G0 cdX12_isPart (some .boolean) (xRn G0 MT (d + 1)) Q b 4 [some (.inl p)] [.inl r] h
  exact E_ret (x := (.ireturn, 0, [], [])) (v := some (.inl r)) rfl (Or.inr ⟨rfl, by omega⟩) (by
    have : r = 1 ∨ r = 0 := by omega
    rcases this with e | e
    · subst e; exact h1 (by omega)
    · subst e; exact h0 (by omega))
set_option maxHeartbeats 1000000 in
theorem o_many (d  : Nat) (h : xH) (p : Int) (hp : xr p) (hk : KOK h) {Q : xO → xH → Prop} (h1 : 1 ≤ p ∧ p ≤ 3 → ∀ h', FGC (xup (xup h 1 2 0) 1 1 p) h' → Q (.inl (some (.inl (h 1 2)))) h') (h0 : ¬ (1 ≤ p ∧ p ≤ 3) → Q (.inr "java/lang/IllegalArgumentException") h) : xRn G0 MT (d + 6) 1 97 [.inr (.inr 0), .inl p] h Q := by
  refine R_of (M := mX11_many) rfl (Nat.le_of_ble_eq_true rfl) ?_
  show xEx G0 cdX11_many (some .int) (xRn G0 MT (d + 5)) Q 1 0 [some (.inr (.inr 0)), some (.inl p), none] [] h
  refine E_s 2 (i' := 2) (ls' := [some (.inr (.inr 0)), some (.inl p), none]) (sk' := [.inl 1, .inl p]) (h' := h) rfl ?_
  refine E_b (x := (.if_icmp .lt 8, 6, [], [])) rfl rfl (fun c2 => ?_) (fun c2 => ?_)
  · rw [c_lt (by first | assumption | (refine ⟨?_, ?_⟩ <;> omega) | (simp only [xr] at *; omega)) (by first | assumption | (refine ⟨?_, ?_⟩ <;> omega) | (simp only [xr] at *; omega))] at c2
    simp only [decide_eq_true_eq, decide_eq_false_iff_not, Decidable.not_not] at c2
    show xEx G0 cdX11_many (some .int) (xRn G0 MT (d + 5)) Q 1 6 [some (.inr (.inr 0)), some (.inl p), none] [] h
    exact E_thr (x := (.new 80, 0, [(0, 0)], [])) rfl rfl rfl (Nat.le_of_ble_eq_true rfl) (h0 (by omega))
  · rw [c_lt (by first | assumption | (refine ⟨?_, ?_⟩ <;> omega) | (simp only [xr] at *; omega)) (by first | assumption | (refine ⟨?_, ?_⟩ <;> omega) | (simp only [xr] at *; omega))] at c2
    simp only [decide_eq_true_eq, decide_eq_false_iff_not, Decidable.not_not] at c2
    show xEx G0 cdX11_many (some .int) (xRn G0 MT (d + 5)) Q 1 3 [some (.inr (.inr 0)), some (.inl p), none] [] h
    refine E_s 2 (i' := 5) (ls' := [some (.inr (.inr 0)), some (.inl p), none]) (sk' := [.inl 3, .inl p]) (h' := h) rfl ?_
    refine E_b (x := (.if_icmp .le 13, 11, [], [])) rfl rfl (fun c5 => ?_) (fun c5 => ?_)
    · rw [c_le (by first | assumption | (refine ⟨?_, ?_⟩ <;> omega) | (simp only [xr] at *; omega)) (by first | assumption | (refine ⟨?_, ?_⟩ <;> omega) | (simp only [xr] at *; omega))] at c5
      simp only [decide_eq_true_eq, decide_eq_false_iff_not, Decidable.not_not] at c5
      show xEx G0 cdX11_many (some .int) (xRn G0 MT (d + 5)) Q 1 11 [some (.inr (.inr 0)), some (.inl p), none] [] h
      refine E_s 13 (i' := 24) (ls' := [some (.inr (.inr 0)), some (.inl p), some (.inl (h 1 2))]) (sk' := [.inr (.inr 0)]) (h' := (xup (xup h 1 2 0) 1 1 p)) rfl ?_
      have hk9 : KOK (xup (xup h 1 2 0) 1 1 p) := KOK_of (fun x hx => (up9 (by decide) x hx).trans (up9 (by decide) x hx)) hk
      refine E_cv (x := (.invokevirtual 93, 0, [(9, 140)], [0])) (q := fun h9 => FGC (xup (xup h 1 2 0) 1 1 p) h9) rfl rfl (Nat.le_of_ble_eq_true rfl) (c_forgetAll d 0 (xup (xup h 1 2 0) 1 1 p) hk9.1 hk9.2.1 hk9.2.2.1 hk9.2.2.2 (fun h9 z => ⟨rfl, z⟩)) (fun hF1 hf => ?_)
      show xEx G0 cdX11_many (some .int) (xRn G0 MT (d + 5)) Q 1 25 [some (.inr (.inr 0)), some (.inl p), some (.inl (h 1 2))] [] hF1
      refine E_s 1 (i' := 26) (ls' := [some (.inr (.inr 0)), some (.inl p), some (.inl (h 1 2))]) (sk' := [.inl (h 1 2)]) (h' := hF1) rfl ?_
      exact E_ret (x := (.ireturn, 0, [], [])) (v := some (.inl (h 1 2))) rfl (Or.inl rfl) (h1 (by omega) _ hf)
    · rw [c_le (by first | assumption | (refine ⟨?_, ?_⟩ <;> omega) | (simp only [xr] at *; omega)) (by first | assumption | (refine ⟨?_, ?_⟩ <;> omega) | (simp only [xr] at *; omega))] at c5
      simp only [decide_eq_true_eq, decide_eq_false_iff_not, Decidable.not_not] at c5
      show xEx G0 cdX11_many (some .int) (xRn G0 MT (d + 5)) Q 1 6 [some (.inr (.inr 0)), some (.inl p), none] [] h
      exact E_thr (x := (.new 80, 0, [(0, 0)], [])) rfl rfl rfl (Nat.le_of_ble_eq_true rfl) (h0 (by omega))
set_option maxHeartbeats 1000000 in
theorem m_many (d b : Nat) (h : xH) (p : Int) (hp : xr p) {Q : xO → xH → Prop} (h1 : 1 ≤ p ∧ p ≤ 3 → ∀ h', FGR (xup (xup (xup h 66 0 0) 66 1 p) 66 4 0) h' → Q (.inl (some (.inl (h 66 4)))) h') (h0 : ¬ (1 ≤ p ∧ p ≤ 3) → Q (.inl (some (.inl 0))) (xup h 66 0 1)) : xRn G0 MT (d + 2) b 158 [.inr (.inr 66), .inl p] h Q := by
  refine R_of (M := mX12_many) rfl (Nat.le_of_ble_eq_true rfl) ?_
  show xEx G0 cdX12_many (some .int) (xRn G0 MT (d + 1)) Q b 0 [some (.inr (.inr 66)), some (.inl p), none] [] h
  refine E_s 4 (i' := 4) (ls' := [some (.inr (.inr 66)), some (.inl p), none]) (sk' := [.inl 3, .inl 1, .inl p, .inr (.inr 66)]) (h' := h) rfl ?_
  refine E_cp (x := (.invokestatic 180, 3, [(0, 155)], [])) (q := fun r h9 => ((r = 1 ∧ (1 ≤ p ∧ p ≤ 3)) ∨ (r = 0 ∧ ¬ (1 ≤ p ∧ p ≤ 3))) ∧ h = h9) rfl rfl (Nat.le_of_ble_eq_true rfl) (m_isIn d 0 (h) p 1 3 hp ⟨by omega, by omega⟩ ⟨by omega, by omega⟩ (fun z => ⟨_, rfl, Or.inl ⟨rfl, z⟩, rfl⟩) (fun z => ⟨_, rfl, Or.inr ⟨rfl, z⟩, rfl⟩)) (fun r h9 q1 => ?_)
  obtain ⟨q1, rfl⟩ := q1
  show xEx G0 cdX12_many (some .int) (xRn G0 MT (d + 1)) Q b 5 [some (.inr (.inr 66)), some (.inl p), none] [.inl r, .inr (.inr 66)] h
  refine E_b (x := (.ifCond .eq 7, 8, [], [])) rfl rfl (fun c5 => ?_) (fun c5 => ?_)
  · rw [c_eq (by first | assumption | (refine ⟨?_, ?_⟩ <;> omega) | (simp only [xr] at *; omega)) (by first | assumption | (refine ⟨?_, ?_⟩ <;> omega) | (simp only [xr] at *; omega))] at c5
    simp only [decide_eq_true_eq, decide_eq_false_iff_not, Decidable.not_not] at c5
    show xEx G0 cdX12_many (some .int) (xRn G0 MT (d + 1)) Q b 8 [some (.inr (.inr 66)), some (.inl p), none] [.inr (.inr 66)] h
    refine E_s 4 (i' := 12) (ls' := [some (.inr (.inr 66)), some (.inl p), none]) (sk' := [.inl 1]) (h' := (xup h 66 0 1)) rfl ?_
    
    refine E_b (x := (.ifCond .le 5, 15, [], [])) rfl rfl (fun c12 => ?_) (fun c12 => ?_)
    · show xEx G0 cdX12_many (some .int) (xRn G0 MT (d + 1)) Q b 15 [some (.inr (.inr 66)), some (.inl p), none] [] (xup h 66 0 1)
      exact absurd c12 (by decide)
    · show xEx G0 cdX12_many (some .int) (xRn G0 MT (d + 1)) Q b 13 [some (.inr (.inr 66)), some (.inl p), none] [] (xup h 66 0 1)
      refine E_s 1 (i' := 14) (ls' := [some (.inr (.inr 66)), some (.inl p), none]) (sk' := [.inl 0]) (h' := (xup h 66 0 1)) rfl ?_
      exact E_ret (x := (.ireturn, 0, [], [])) (v := some (.inl 0)) rfl (Or.inl rfl) (h0 (by omega))
  · rw [c_eq (by first | assumption | (refine ⟨?_, ?_⟩ <;> omega) | (simp only [xr] at *; omega)) (by first | assumption | (refine ⟨?_, ?_⟩ <;> omega) | (simp only [xr] at *; omega))] at c5
    simp only [decide_eq_true_eq, decide_eq_false_iff_not, Decidable.not_not] at c5
    show xEx G0 cdX12_many (some .int) (xRn G0 MT (d + 1)) Q b 6 [some (.inr (.inr 66)), some (.inl p), none] [.inr (.inr 66)] h
    refine E_s 5 (i' := 12) (ls' := [some (.inr (.inr 66)), some (.inl p), none]) (sk' := [.inl 0]) (h' := (xup h 66 0 0)) rfl ?_
    
    refine E_b (x := (.ifCond .le 5, 15, [], [])) rfl rfl (fun c12 => ?_) (fun c12 => ?_)
    · show xEx G0 cdX12_many (some .int) (xRn G0 MT (d + 1)) Q b 15 [some (.inr (.inr 66)), some (.inl p), none] [] (xup h 66 0 0)
      refine E_s 10 (i' := 25) (ls' := [some (.inr (.inr 66)), some (.inl p), some (.inl (h 66 4))]) (sk' := [.inr (.inr 66)]) (h' := (xup (xup (xup h 66 0 0) 66 1 p) 66 4 0)) rfl ?_
      refine E_cv (x := (.invokevirtual 184, 0, [(10, 157)], [0])) (q := fun h9 => FGR (xup (xup (xup h 66 0 0) 66 1 p) 66 4 0) h9) rfl rfl (Nat.le_of_ble_eq_true rfl) (m_goes d 0 (xup (xup (xup h 66 0 0) 66 1 p) 66 4 0) (fun h9 z => ⟨rfl, z⟩)) (fun hF2 hf => ?_)
      show xEx G0 cdX12_many (some .int) (xRn G0 MT (d + 1)) Q b 26 [some (.inr (.inr 66)), some (.inl p), some (.inl (h 66 4))] [] hF2
      refine E_s 1 (i' := 27) (ls' := [some (.inr (.inr 66)), some (.inl p), some (.inl (h 66 4))]) (sk' := [.inl (h 66 4)]) (h' := hF2) rfl ?_
      exact E_ret (x := (.ireturn, 0, [], [])) (v := some (.inl (h 66 4))) rfl (Or.inl rfl) (h1 (by omega) _ hf)
    · show xEx G0 cdX12_many (some .int) (xRn G0 MT (d + 1)) Q b 13 [some (.inr (.inr 66)), some (.inl p), none] [] (xup h 66 0 0)
      exact absurd c12 (by decide)
set_option maxHeartbeats 1000000 in
theorem o_budget (d  : Nat) (h : xH) (p : Int) (hp : xr p) {Q : xO → xH → Prop} (h1 : 1 ≤ p ∧ p ≤ 20000 → Q (.inl (some (.inl (h 0 9)))) (xup h 0 9 p)) (h0 : ¬ (1 ≤ p ∧ p ≤ 20000) → Q (.inr "java/lang/IllegalArgumentException") h) : xRn G0 MT (d + 1) 1 103 [.inr (.inr 0), .inl p] h Q := by
  refine R_of (M := mX11_budget) rfl (Nat.le_of_ble_eq_true rfl) ?_
  show xEx G0 cdX11_budget (some .int) (xRn G0 MT d) Q 1 0 [some (.inr (.inr 0)), some (.inl p), none] [] h
  refine E_s 2 (i' := 2) (ls' := [some (.inr (.inr 0)), some (.inl p), none]) (sk' := [.inl 1, .inl p]) (h' := h) rfl ?_
  refine E_b (x := (.if_icmp .lt 10, 6, [], [])) rfl rfl (fun c2 => ?_) (fun c2 => ?_)
  · rw [c_lt (by first | assumption | (refine ⟨?_, ?_⟩ <;> omega) | (simp only [xr] at *; omega)) (by first | assumption | (refine ⟨?_, ?_⟩ <;> omega) | (simp only [xr] at *; omega))] at c2
    simp only [decide_eq_true_eq, decide_eq_false_iff_not, Decidable.not_not] at c2
    show xEx G0 cdX11_budget (some .int) (xRn G0 MT d) Q 1 6 [some (.inr (.inr 0)), some (.inl p), none] [] h
    exact E_thr (x := (.new 80, 0, [(0, 0)], [])) rfl rfl rfl (Nat.le_of_ble_eq_true rfl) (h0 (by omega))
  · rw [c_lt (by first | assumption | (refine ⟨?_, ?_⟩ <;> omega) | (simp only [xr] at *; omega)) (by first | assumption | (refine ⟨?_, ?_⟩ <;> omega) | (simp only [xr] at *; omega))] at c2
    simp only [decide_eq_true_eq, decide_eq_false_iff_not, Decidable.not_not] at c2
    show xEx G0 cdX11_budget (some .int) (xRn G0 MT d) Q 1 3 [some (.inr (.inr 0)), some (.inl p), none] [] h
    refine E_s 2 (i' := 5) (ls' := [some (.inr (.inr 0)), some (.inl p), none]) (sk' := [.inl 20000, .inl p]) (h' := h) rfl ?_
    refine E_b (x := (.if_icmp .le 13, 11, [], [])) rfl rfl (fun c5 => ?_) (fun c5 => ?_)
    · rw [c_le (by first | assumption | (refine ⟨?_, ?_⟩ <;> omega) | (simp only [xr] at *; omega)) (by first | assumption | (refine ⟨?_, ?_⟩ <;> omega) | (simp only [xr] at *; omega))] at c5
      simp only [decide_eq_true_eq, decide_eq_false_iff_not, Decidable.not_not] at c5
      show xEx G0 cdX11_budget (some .int) (xRn G0 MT d) Q 1 11 [some (.inr (.inr 0)), some (.inl p), none] [] h
      refine E_s 7 (i' := 18) (ls' := [some (.inr (.inr 0)), some (.inl p), some (.inl (h 0 9))]) (sk' := [.inl (h 0 9)]) (h' := (xup h 0 9 p)) rfl ?_
      exact E_ret (x := (.ireturn, 0, [], [])) (v := some (.inl (h 0 9))) rfl (Or.inl rfl) (h1 (by omega))
    · rw [c_le (by first | assumption | (refine ⟨?_, ?_⟩ <;> omega) | (simp only [xr] at *; omega)) (by first | assumption | (refine ⟨?_, ?_⟩ <;> omega) | (simp only [xr] at *; omega))] at c5
      simp only [decide_eq_true_eq, decide_eq_false_iff_not, Decidable.not_not] at c5
      show xEx G0 cdX11_budget (some .int) (xRn G0 MT d) Q 1 6 [some (.inr (.inr 0)), some (.inl p), none] [] h
      exact E_thr (x := (.new 80, 0, [(0, 0)], [])) rfl rfl rfl (Nat.le_of_ble_eq_true rfl) (h0 (by omega))
set_option maxHeartbeats 1000000 in
theorem m_budget (d b : Nat) (h : xH) (p : Int) (hp : xr p) {Q : xO → xH → Prop} (h1 : 1 ≤ p ∧ p ≤ 20000 → Q (.inl (some (.inl (h 66 2)))) (xup (xup h 66 0 0) 66 2 p)) (h0 : ¬ (1 ≤ p ∧ p ≤ 20000) → Q (.inl (some (.inl 0))) (xup h 66 0 1)) : xRn G0 MT (d + 2) b 171 [.inr (.inr 66), .inl p] h Q := by
  refine R_of (M := mX12_budget) rfl (Nat.le_of_ble_eq_true rfl) ?_
  show xEx G0 cdX12_budget (some .int) (xRn G0 MT (d + 1)) Q b 0 [some (.inr (.inr 66)), some (.inl p), none] [] h
  refine E_s 4 (i' := 4) (ls' := [some (.inr (.inr 66)), some (.inl p), none]) (sk' := [.inl 20000, .inl 1, .inl p, .inr (.inr 66)]) (h' := h) rfl ?_
  refine E_cp (x := (.invokestatic 180, 3, [(0, 155)], [])) (q := fun r h9 => ((r = 1 ∧ (1 ≤ p ∧ p ≤ 20000)) ∨ (r = 0 ∧ ¬ (1 ≤ p ∧ p ≤ 20000))) ∧ h = h9) rfl rfl (Nat.le_of_ble_eq_true rfl) (m_isIn d 0 (h) p 1 20000 hp ⟨by omega, by omega⟩ ⟨by omega, by omega⟩ (fun z => ⟨_, rfl, Or.inl ⟨rfl, z⟩, rfl⟩) (fun z => ⟨_, rfl, Or.inr ⟨rfl, z⟩, rfl⟩)) (fun r h9 q1 => ?_)
  obtain ⟨q1, rfl⟩ := q1
  show xEx G0 cdX12_budget (some .int) (xRn G0 MT (d + 1)) Q b 5 [some (.inr (.inr 66)), some (.inl p), none] [.inl r, .inr (.inr 66)] h
  refine E_b (x := (.ifCond .eq 7, 8, [], [])) rfl rfl (fun c5 => ?_) (fun c5 => ?_)
  · rw [c_eq (by first | assumption | (refine ⟨?_, ?_⟩ <;> omega) | (simp only [xr] at *; omega)) (by first | assumption | (refine ⟨?_, ?_⟩ <;> omega) | (simp only [xr] at *; omega))] at c5
    simp only [decide_eq_true_eq, decide_eq_false_iff_not, Decidable.not_not] at c5
    show xEx G0 cdX12_budget (some .int) (xRn G0 MT (d + 1)) Q b 8 [some (.inr (.inr 66)), some (.inl p), none] [.inr (.inr 66)] h
    refine E_s 4 (i' := 12) (ls' := [some (.inr (.inr 66)), some (.inl p), none]) (sk' := [.inl 1]) (h' := (xup h 66 0 1)) rfl ?_
    refine E_b (x := (.ifCond .le 5, 15, [], [])) rfl rfl (fun c12 => ?_) (fun c12 => ?_)
    · show xEx G0 cdX12_budget (some .int) (xRn G0 MT (d + 1)) Q b 15 [some (.inr (.inr 66)), some (.inl p), none] [] (xup h 66 0 1)
      exact absurd c12 (by decide)
    · show xEx G0 cdX12_budget (some .int) (xRn G0 MT (d + 1)) Q b 13 [some (.inr (.inr 66)), some (.inl p), none] [] (xup h 66 0 1)
      refine E_s 1 (i' := 14) (ls' := [some (.inr (.inr 66)), some (.inl p), none]) (sk' := [.inl 0]) (h' := (xup h 66 0 1)) rfl ?_
      exact E_ret (x := (.ireturn, 0, [], [])) (v := some (.inl 0)) rfl (Or.inl rfl) (h0 (by omega))
  · rw [c_eq (by first | assumption | (refine ⟨?_, ?_⟩ <;> omega) | (simp only [xr] at *; omega)) (by first | assumption | (refine ⟨?_, ?_⟩ <;> omega) | (simp only [xr] at *; omega))] at c5
    simp only [decide_eq_true_eq, decide_eq_false_iff_not, Decidable.not_not] at c5
    show xEx G0 cdX12_budget (some .int) (xRn G0 MT (d + 1)) Q b 6 [some (.inr (.inr 66)), some (.inl p), none] [.inr (.inr 66)] h
    refine E_s 5 (i' := 12) (ls' := [some (.inr (.inr 66)), some (.inl p), none]) (sk' := [.inl 0]) (h' := (xup h 66 0 0)) rfl ?_
    refine E_b (x := (.ifCond .le 5, 15, [], [])) rfl rfl (fun c12 => ?_) (fun c12 => ?_)
    · show xEx G0 cdX12_budget (some .int) (xRn G0 MT (d + 1)) Q b 15 [some (.inr (.inr 66)), some (.inl p), none] [] (xup h 66 0 0)
      refine E_s 7 (i' := 22) (ls' := [some (.inr (.inr 66)), some (.inl p), some (.inl (h 66 2))]) (sk' := [.inl (h 66 2)]) (h' := (xup (xup h 66 0 0) 66 2 p)) rfl ?_
      exact E_ret (x := (.ireturn, 0, [], [])) (v := some (.inl (h 66 2))) rfl (Or.inl rfl) (h1 (by omega))
    · show xEx G0 cdX12_budget (some .int) (xRn G0 MT (d + 1)) Q b 13 [some (.inr (.inr 66)), some (.inl p), none] [] (xup h 66 0 0)
      exact absurd c12 (by decide)
