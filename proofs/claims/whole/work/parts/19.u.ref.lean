set_option maxHeartbeats 1000000 in
theorem r_remembers0 (d b : Nat) (h : xH) (hK : 0 ≤ h 66 8 ∧ h 66 8 ≤ 300) {Q : xO → xH → Prop} (hQ : ∀ h', (∀ a, a ≠ 66 → a ≠ 93 → h' a = h a) → (∀ j, j ≠ 39 → j ≠ 40 → j ≠ 41 → h' 66 j = h 66 j) → h' 66 39 = h 66 8 → h' 66 40 = h 89 0 → h' 66 41 = h 66 33 → (∀ k, 0 ≤ k → k < h 66 8 → h' 93 k = h 76 k) → Q (.inl none) h') : xRn G0 MT (d + 1) b 188 [.inr (.inr 66), .inl 0] h Q := by
  refine R_of (M := mX12_remembers) rfl (Nat.le_of_ble_eq_true rfl) ?_
  show xEx G0 cdX12_remembers none (xRn G0 MT d) Q b 0 [some (.inr (.inr 66)), some (.inl 0), none] [] h
  refine E_s 2 (i' := 2) (ls' := [some (.inr (.inr 66)), some (.inl 0), none]) (sk' := [.inl 0, .inr (.inr 66)]) (h' := h) rfl ?_
  refine E_b (x := (.ifCond .ne 10, 6, [], [])) rfl rfl (fun c2 => ?_) (fun c2 => ?_)
  · rw [c_ne (by first | assumption | (refine ⟨?_, ?_⟩ <;> omega) | (simp only [xr] at *; omega)) (by first | assumption | (refine ⟨?_, ?_⟩ <;> omega) | (simp only [xr] at *; omega))] at c2
    simp only [decide_eq_true_eq, decide_eq_false_iff_not, Decidable.not_not] at c2
    show xEx G0 cdX12_remembers none (xRn G0 MT d) Q b 6 [some (.inr (.inr 66)), some (.inl 0), none] [.inr (.inr 66)] h
    exact absurd trivial c2
  · rw [c_ne (by first | assumption | (refine ⟨?_, ?_⟩ <;> omega) | (simp only [xr] at *; omega)) (by first | assumption | (refine ⟨?_, ?_⟩ <;> omega) | (simp only [xr] at *; omega))] at c2
    simp only [decide_eq_true_eq, decide_eq_false_iff_not, Decidable.not_not] at c2
    show xEx G0 cdX12_remembers none (xRn G0 MT d) Q b 3 [some (.inr (.inr 66)), some (.inl 0), none] [.inr (.inr 66)] h
    refine E_s 8 (i' := 13) (ls' := [some (.inr (.inr 66)), some (.inl 0), none]) (sk' := [.inl 0, .inr (.inr 89), .inr (.inr 66)]) (h' := (xup h 66 39 (h 66 8))) rfl ?_
    refine E_ld (x := (.iaload, 0, [], [])) (ty := .int) (n := 2) rfl rfl rfl (by omega) (by omega) ?_
    show xEx G0 cdX12_remembers none (xRn G0 MT d) Q b 14 [some (.inr (.inr 66)), some (.inl 0), none] [.inl (h 89 0), .inr (.inr 66)] (xup h 66 39 (h 66 8))
    refine E_s 7 (i' := 21) (ls' := [some (.inr (.inr 66)), some (.inl 0), some (.inl 0)]) (sk' := []) (h' := (xup (xup (xup h 66 39 (h 66 8)) 66 40 (h 89 0)) 66 41 (h 66 33))) rfl ?_
    have key21 : ∀ (n : Nat) (hh : xH) (i : Int), (0 ≤ i) → (i ≤ h 66 8) → (∀ a, a ≠ 93 → hh a = (xup (xup (xup h 66 39 (h 66 8)) 66 40 (h 89 0)) 66 41 (h 66 33)) a) → (∀ k, 0 ≤ k → k < i → hh 93 k = h 76 k) → ((h 66 8 - i).toNat) < n → xEx G0 cdX12_remembers none (xRn G0 MT d) Q b 21 [some (.inr (.inr 66)), some (.inl 0), some (.inl i)] [] hh := by
      intro n
      induction n with
      | zero => intro hh i _ _ _ _ hm; exact absurd hm (Nat.not_lt_zero _)
      | succ n ih21 =>
        intro hh i hi0 hi9 hfa hfb hm21
        have hbk : hh 66 39 = h 66 8 := by rw [hfa 66 (by decide)]; rfl
        have hmm : hh 76 = h 76 := by rw [hfa 76 (by decide)]; rfl
        refine E_s 3 (i' := 24) (ls' := [some (.inr (.inr 66)), some (.inl 0), some (.inl i)]) (sk' := [.inl (hh 66 39), .inl i]) (h' := hh) rfl ?_
        refine E_b (x := (.if_icmp .ge 34, 42, [], [])) rfl rfl (fun c24 => ?_) (fun c24 => ?_)
        · rw [c_ge (by first | assumption | (refine ⟨?_, ?_⟩ <;> omega) | (simp only [xr] at *; omega)) (by first | assumption | (refine ⟨?_, ?_⟩ <;> omega) | (simp only [xr] at *; omega))] at c24
          simp only [decide_eq_true_eq, decide_eq_false_iff_not, Decidable.not_not] at c24
          show xEx G0 cdX12_remembers none (xRn G0 MT d) Q b 42 [some (.inr (.inr 66)), some (.inl 0), some (.inl i)] [] hh
          exact E_ret (x := (.return_, 0, [], [])) (v := none) rfl (trivial) (hQ hh (fun a q1 q2 => by rw [hfa a q2]; funext j; simp [xup, q1]) (fun j q1 q2 q3 => by rw [hfa 66 (by decide)]; simp [xup, q1, q2, q3]) (by rw [hfa 66 (by decide)]; rfl) (by rw [hfa 66 (by decide)]; rfl) (by rw [hfa 66 (by decide)]; rfl) (fun k z1 z2 => hfb k z1 (by omega)))
        · rw [c_ge (by first | assumption | (refine ⟨?_, ?_⟩ <;> omega) | (simp only [xr] at *; omega)) (by first | assumption | (refine ⟨?_, ?_⟩ <;> omega) | (simp only [xr] at *; omega))] at c24
          simp only [decide_eq_true_eq, decide_eq_false_iff_not, Decidable.not_not] at c24
          show xEx G0 cdX12_remembers none (xRn G0 MT d) Q b 25 [some (.inr (.inr 66)), some (.inl 0), some (.inl i)] [] hh
          refine E_s 4 (i' := 29) (ls' := [some (.inr (.inr 66)), some (.inl 0), some (.inl i)]) (sk' := [.inl 0, .inl i, .inr (.inr 93)]) (h' := hh) rfl ?_
          refine E_b (x := (.ifCond .ne 12, 35, [], [])) rfl rfl (fun c29 => ?_) (fun c29 => ?_)
          · rw [c_ne (by first | assumption | (refine ⟨?_, ?_⟩ <;> omega) | (simp only [xr] at *; omega)) (by first | assumption | (refine ⟨?_, ?_⟩ <;> omega) | (simp only [xr] at *; omega))] at c29
            simp only [decide_eq_true_eq, decide_eq_false_iff_not, Decidable.not_not] at c29
            show xEx G0 cdX12_remembers none (xRn G0 MT d) Q b 35 [some (.inr (.inr 66)), some (.inl 0), some (.inl i)] [.inl i, .inr (.inr 93)] hh
            exact absurd trivial c29
          · rw [c_ne (by first | assumption | (refine ⟨?_, ?_⟩ <;> omega) | (simp only [xr] at *; omega)) (by first | assumption | (refine ⟨?_, ?_⟩ <;> omega) | (simp only [xr] at *; omega))] at c29
            simp only [decide_eq_true_eq, decide_eq_false_iff_not, Decidable.not_not] at c29
            show xEx G0 cdX12_remembers none (xRn G0 MT d) Q b 30 [some (.inr (.inr 66)), some (.inl 0), some (.inl i)] [.inl i, .inr (.inr 93)] hh
            refine E_s 3 (i' := 33) (ls' := [some (.inr (.inr 66)), some (.inl 0), some (.inl i)]) (sk' := [.inl i, .inr (.inr 76), .inl i, .inr (.inr 93)]) (h' := hh) rfl ?_
            refine E_ld (x := (.iaload, 0, [], [])) (ty := .int) (n := 300) rfl rfl rfl (by omega) (by omega) ?_
            show xEx G0 cdX12_remembers none (xRn G0 MT d) Q b 34 [some (.inr (.inr 66)), some (.inl 0), some (.inl i)] [.inl (hh 76 i), .inl i, .inr (.inr 93)] hh
            refine E_s 1 (i' := 39) (ls' := [some (.inr (.inr 66)), some (.inl 0), some (.inl i)]) (sk' := [.inl (hh 76 i), .inl i, .inr (.inr 93)]) (h' := hh) rfl ?_
            refine E_sd (x := (.iastore, 0, [], [])) (ty := .int) (n := 300) (y := (hh 76 i)) rfl rfl rfl (by omega) (by omega) (trivial) ?_
            show xEx G0 cdX12_remembers none (xRn G0 MT d) Q b 40 [some (.inr (.inr 66)), some (.inl 0), some (.inl i)] [] (xup hh 93 i (hh 76 i))
            refine E_s 2 (i' := 21) (ls' := [some (.inr (.inr 66)), some (.inl 0), some (.inl (i + 1))]) (sk' := []) (h' := (xup hh 93 i (hh 76 i))) rfl ?_
            exact ih21 _ (i + 1) (by omega) (by omega) (fun a q1 => by rw [← hfa a q1]; exact xup_o _ _ _ _ a q1) (fun k z1 z2 => by
              rcases Int.lt_or_eq_of_le (show k ≤ i by omega) with z9 | z9
              · rw [xup_j (by omega)]; exact hfb k z1 z9
              · rw [z9, xup_s, hmm]) (by omega)
    exact key21 _ _ 0 (by omega) (by omega) (fun _ _ => rfl) (fun k z1 z2 => by omega) (Nat.lt_succ_self _)
set_option maxHeartbeats 1000000 in
theorem r_putsBack0 (d b : Nat) (h : xH) (hK : 0 ≤ h 66 39 ∧ h 66 39 ≤ 300) {Q : xO → xH → Prop} (hQ : ∀ h', (∀ a, a ≠ 66 → a ≠ 76 → a ≠ 89 → h' a = h a) → (∀ j, j ≠ 8 → j ≠ 33 → h' 66 j = h 66 j) → h' 66 8 = h 66 39 → h' 66 33 = h 66 41 → h' 89 0 = h 66 40 → (∀ j, j ≠ 0 → h' 89 j = h 89 j) → (∀ k, 0 ≤ k → k < h 66 39 → h' 76 k = h 93 k) → Q (.inl none) h') : xRn G0 MT (d + 1) b 189 [.inr (.inr 66), .inl 0] h Q := by
  refine R_of (M := mX12_putsBack) rfl (Nat.le_of_ble_eq_true rfl) ?_
  show xEx G0 cdX12_putsBack none (xRn G0 MT d) Q b 0 [some (.inr (.inr 66)), some (.inl 0), none] [] h
  refine E_s 2 (i' := 2) (ls' := [some (.inr (.inr 66)), some (.inl 0), some (.inl 0)]) (sk' := []) (h' := h) rfl ?_
  have key2 : ∀ (n : Nat) (hh : xH) (i : Int), (0 ≤ i) → (i ≤ h 66 39) → (∀ a, a ≠ 76 → hh a = h a) → (∀ k, 0 ≤ k → k < i → hh 76 k = h 93 k) → ((h 66 39 - i).toNat) < n → xEx G0 cdX12_putsBack none (xRn G0 MT d) Q b 2 [some (.inr (.inr 66)), some (.inl 0), some (.inl i)] [] hh := by
    intro n
    induction n with
    | zero => intro hh i _ _ _ _ hm; exact absurd hm (Nat.not_lt_zero _)
    | succ n ih2 =>
      intro hh i hi0 hi9 hfa hfb hm2
      have hbk : hh 66 = h 66 := hfa 66 (by decide)
      have hb39 : hh 66 39 = h 66 39 := by rw [hbk]
      have hmm : hh 93 = h 93 := hfa 93 (by decide)
      refine E_s 3 (i' := 5) (ls' := [some (.inr (.inr 66)), some (.inl 0), some (.inl i)]) (sk' := [.inl (hh 66 39), .inl i]) (h' := hh) rfl ?_
      refine E_b (x := (.if_icmp .ge 40, 27, [], [])) rfl rfl (fun c5 => ?_) (fun c5 => ?_)
      · rw [c_ge (by first | exact ⟨by omega, by omega⟩ | (rw [hbk]; exact ⟨by omega, by omega⟩)) (by first | exact ⟨by omega, by omega⟩ | (rw [hbk]; exact ⟨by omega, by omega⟩))] at c5
        simp only [decide_eq_true_eq, decide_eq_false_iff_not, Decidable.not_not] at c5
        show xEx G0 cdX12_putsBack none (xRn G0 MT d) Q b 27 [some (.inr (.inr 66)), some (.inl 0), some (.inl i)] [] hh
        refine E_s 1 (i' := 28) (ls' := [some (.inr (.inr 66)), some (.inl 0), some (.inl i)]) (sk' := [.inl 0]) (h' := hh) rfl ?_
        refine E_b (x := (.ifCond .ne 14, 34, [], [])) rfl rfl (fun c28 => ?_) (fun c28 => ?_)
        · rw [c_ne (by first | assumption | (refine ⟨?_, ?_⟩ <;> omega) | (simp only [xr] at *; omega)) (by first | assumption | (refine ⟨?_, ?_⟩ <;> omega) | (simp only [xr] at *; omega))] at c28
          simp only [decide_eq_true_eq, decide_eq_false_iff_not, Decidable.not_not] at c28
          show xEx G0 cdX12_putsBack none (xRn G0 MT d) Q b 34 [some (.inr (.inr 66)), some (.inl 0), some (.inl i)] [] hh
          exact absurd trivial c28
        · rw [c_ne (by first | assumption | (refine ⟨?_, ?_⟩ <;> omega) | (simp only [xr] at *; omega)) (by first | assumption | (refine ⟨?_, ?_⟩ <;> omega) | (simp only [xr] at *; omega))] at c28
          simp only [decide_eq_true_eq, decide_eq_false_iff_not, Decidable.not_not] at c28
          show xEx G0 cdX12_putsBack none (xRn G0 MT d) Q b 29 [some (.inr (.inr 66)), some (.inl 0), some (.inl i)] [] hh
          refine E_s 10 (i' := 43) (ls' := [some (.inr (.inr 66)), some (.inl 0), some (.inl i)]) (sk' := [.inl (hh 66 40), .inl 0, .inr (.inr 89)]) (h' := (xup hh 66 8 (hh 66 39))) rfl ?_
          refine E_sd (x := (.iastore, 0, [], [])) (ty := .int) (n := 2) (y := (hh 66 40)) rfl rfl rfl (by omega) (by omega) (trivial) ?_
          show xEx G0 cdX12_putsBack none (xRn G0 MT d) Q b 44 [some (.inr (.inr 66)), some (.inl 0), some (.inl i)] [] (xup (xup hh 66 8 (hh 66 39)) 89 0 (hh 66 40))
          refine E_s 4 (i' := 48) (ls' := [some (.inr (.inr 66)), some (.inl 0), some (.inl i)]) (sk' := []) (h' := (xup (xup (xup hh 66 8 (hh 66 39)) 89 0 (hh 66 40)) 66 33 (hh 66 41))) rfl ?_
          exact E_ret (x := (.return_, 0, [], [])) (v := none) rfl (trivial) (hQ _ (fun a q1 q2 q3 => by rw [← hfa a q2]; funext j; simp [xup, q1, q3]) (fun j q1 q2 => by rw [← hbk]; simp [xup, q1, q2]) (by rw [← hbk]; rfl) (by rw [← hbk]; rfl) (by rw [← hbk]; rfl) (fun j q1 => by rw [← hfa 89 (by decide)]; simp [xup, q1]) (fun k z1 z2 => hfb k z1 (by omega)))
      · rw [c_ge (by first | exact ⟨by omega, by omega⟩ | (rw [hbk]; exact ⟨by omega, by omega⟩)) (by first | exact ⟨by omega, by omega⟩ | (rw [hbk]; exact ⟨by omega, by omega⟩))] at c5
        simp only [decide_eq_true_eq, decide_eq_false_iff_not, Decidable.not_not] at c5
        show xEx G0 cdX12_putsBack none (xRn G0 MT d) Q b 6 [some (.inr (.inr 66)), some (.inl 0), some (.inl i)] [] hh
        refine E_s 1 (i' := 7) (ls' := [some (.inr (.inr 66)), some (.inl 0), some (.inl i)]) (sk' := [.inl 0]) (h' := hh) rfl ?_
        refine E_b (x := (.ifCond .ne 18, 17, [], [])) rfl rfl (fun c7 => ?_) (fun c7 => ?_)
        · rw [c_ne (by first | assumption | (refine ⟨?_, ?_⟩ <;> omega) | (simp only [xr] at *; omega)) (by first | assumption | (refine ⟨?_, ?_⟩ <;> omega) | (simp only [xr] at *; omega))] at c7
          simp only [decide_eq_true_eq, decide_eq_false_iff_not, Decidable.not_not] at c7
          show xEx G0 cdX12_putsBack none (xRn G0 MT d) Q b 17 [some (.inr (.inr 66)), some (.inl 0), some (.inl i)] [] hh
          exact absurd trivial c7
        · rw [c_ne (by first | assumption | (refine ⟨?_, ?_⟩ <;> omega) | (simp only [xr] at *; omega)) (by first | assumption | (refine ⟨?_, ?_⟩ <;> omega) | (simp only [xr] at *; omega))] at c7
          simp only [decide_eq_true_eq, decide_eq_false_iff_not, Decidable.not_not] at c7
          show xEx G0 cdX12_putsBack none (xRn G0 MT d) Q b 8 [some (.inr (.inr 66)), some (.inl 0), some (.inl i)] [] hh
          refine E_s 6 (i' := 14) (ls' := [some (.inr (.inr 66)), some (.inl 0), some (.inl i)]) (sk' := [.inl i, .inr (.inr 93), .inl i, .inr (.inr 76)]) (h' := hh) rfl ?_
          refine E_ld (x := (.iaload, 0, [], [])) (ty := .int) (n := 300) rfl rfl rfl (by omega) (by omega) ?_
          show xEx G0 cdX12_putsBack none (xRn G0 MT d) Q b 15 [some (.inr (.inr 66)), some (.inl 0), some (.inl i)] [.inl (hh 93 i), .inl i, .inr (.inr 76)] hh
          refine E_sd (x := (.iastore, 0, [], [])) (ty := .int) (n := 300) (y := (hh 93 i)) rfl rfl rfl (by omega) (by omega) (trivial) ?_
          show xEx G0 cdX12_putsBack none (xRn G0 MT d) Q b 16 [some (.inr (.inr 66)), some (.inl 0), some (.inl i)] [] (xup hh 76 i (hh 93 i))
          refine E_s 3 (i' := 2) (ls' := [some (.inr (.inr 66)), some (.inl 0), some (.inl (i + 1))]) (sk' := []) (h' := (xup hh 76 i (hh 93 i))) rfl ?_
          exact ih2 _ (i + 1) (by omega) (by omega) (fun a q1 => by rw [← hfa a q1]; exact xup_o _ _ _ _ a q1) (fun k z1 z2 => by
            rcases Int.lt_or_eq_of_le (show k ≤ i by omega) with z9 | z9
            · rw [xup_j (by omega)]; exact hfb k z1 z9
            · rw [z9, xup_s, hmm]) (by omega)
  exact key2 _ _ 0 (by omega) (by omega) (fun _ _ => rfl) (fun k z1 z2 => by omega) (Nat.lt_succ_self _)
set_option maxHeartbeats 1000000 in
theorem r_remembers1 (d b : Nat) (h : xH) (hK : 0 ≤ h 66 19 ∧ h 66 19 ≤ 150) {Q : xO → xH → Prop} (hQ : ∀ h', (∀ a, a ≠ 66 → a ≠ 93 → h' a = h a) → (∀ j, j ≠ 39 → j ≠ 40 → j ≠ 41 → h' 66 j = h 66 j) → h' 66 39 = h 66 19 → h' 66 40 = h 89 1 → h' 66 41 = h 66 33 → (∀ k, 0 ≤ k → k < h 66 19 → h' 93 k = h 86 k) → Q (.inl none) h') : xRn G0 MT (d + 1) b 188 [.inr (.inr 66), .inl 1] h Q := by
  refine R_of (M := mX12_remembers) rfl (Nat.le_of_ble_eq_true rfl) ?_
  show xEx G0 cdX12_remembers none (xRn G0 MT d) Q b 0 [some (.inr (.inr 66)), some (.inl 1), none] [] h
  refine E_s 2 (i' := 2) (ls' := [some (.inr (.inr 66)), some (.inl 1), none]) (sk' := [.inl 1, .inr (.inr 66)]) (h' := h) rfl ?_
  refine E_b (x := (.ifCond .ne 10, 6, [], [])) rfl rfl (fun c2 => ?_) (fun c2 => ?_)
  · rw [c_ne (by first | assumption | (refine ⟨?_, ?_⟩ <;> omega) | (simp only [xr] at *; omega)) (by first | assumption | (refine ⟨?_, ?_⟩ <;> omega) | (simp only [xr] at *; omega))] at c2
    simp only [decide_eq_true_eq, decide_eq_false_iff_not, Decidable.not_not] at c2
    show xEx G0 cdX12_remembers none (xRn G0 MT d) Q b 6 [some (.inr (.inr 66)), some (.inl 1), none] [.inr (.inr 66)] h
    refine E_s 7 (i' := 13) (ls' := [some (.inr (.inr 66)), some (.inl 1), none]) (sk' := [.inl 1, .inr (.inr 89), .inr (.inr 66)]) (h' := (xup h 66 39 (h 66 19))) rfl ?_
    refine E_ld (x := (.iaload, 0, [], [])) (ty := .int) (n := 2) rfl rfl rfl (by omega) (by omega) ?_
    show xEx G0 cdX12_remembers none (xRn G0 MT d) Q b 14 [some (.inr (.inr 66)), some (.inl 1), none] [.inl (h 89 1), .inr (.inr 66)] (xup h 66 39 (h 66 19))
    refine E_s 7 (i' := 21) (ls' := [some (.inr (.inr 66)), some (.inl 1), some (.inl 0)]) (sk' := []) (h' := (xup (xup (xup h 66 39 (h 66 19)) 66 40 (h 89 1)) 66 41 (h 66 33))) rfl ?_
    have key21 : ∀ (n : Nat) (hh : xH) (i : Int), (0 ≤ i) → (i ≤ h 66 19) → (∀ a, a ≠ 93 → hh a = (xup (xup (xup h 66 39 (h 66 19)) 66 40 (h 89 1)) 66 41 (h 66 33)) a) → (∀ k, 0 ≤ k → k < i → hh 93 k = h 86 k) → ((h 66 19 - i).toNat) < n → xEx G0 cdX12_remembers none (xRn G0 MT d) Q b 21 [some (.inr (.inr 66)), some (.inl 1), some (.inl i)] [] hh := by
      intro n
      induction n with
      | zero => intro hh i _ _ _ _ hm; exact absurd hm (Nat.not_lt_zero _)
      | succ n ih21 =>
        intro hh i hi0 hi9 hfa hfb hm21
        have hbk : hh 66 39 = h 66 19 := by rw [hfa 66 (by decide)]; rfl
        have hmm : hh 86 = h 86 := by rw [hfa 86 (by decide)]; rfl
        refine E_s 3 (i' := 24) (ls' := [some (.inr (.inr 66)), some (.inl 1), some (.inl i)]) (sk' := [.inl (hh 66 39), .inl i]) (h' := hh) rfl ?_
        refine E_b (x := (.if_icmp .ge 34, 42, [], [])) rfl rfl (fun c24 => ?_) (fun c24 => ?_)
        · rw [c_ge (by first | assumption | (refine ⟨?_, ?_⟩ <;> omega) | (simp only [xr] at *; omega)) (by first | assumption | (refine ⟨?_, ?_⟩ <;> omega) | (simp only [xr] at *; omega))] at c24
          simp only [decide_eq_true_eq, decide_eq_false_iff_not, Decidable.not_not] at c24
          show xEx G0 cdX12_remembers none (xRn G0 MT d) Q b 42 [some (.inr (.inr 66)), some (.inl 1), some (.inl i)] [] hh
          exact E_ret (x := (.return_, 0, [], [])) (v := none) rfl (trivial) (hQ hh (fun a q1 q2 => by rw [hfa a q2]; funext j; simp [xup, q1]) (fun j q1 q2 q3 => by rw [hfa 66 (by decide)]; simp [xup, q1, q2, q3]) (by rw [hfa 66 (by decide)]; rfl) (by rw [hfa 66 (by decide)]; rfl) (by rw [hfa 66 (by decide)]; rfl) (fun k z1 z2 => hfb k z1 (by omega)))
        · rw [c_ge (by first | assumption | (refine ⟨?_, ?_⟩ <;> omega) | (simp only [xr] at *; omega)) (by first | assumption | (refine ⟨?_, ?_⟩ <;> omega) | (simp only [xr] at *; omega))] at c24
          simp only [decide_eq_true_eq, decide_eq_false_iff_not, Decidable.not_not] at c24
          show xEx G0 cdX12_remembers none (xRn G0 MT d) Q b 25 [some (.inr (.inr 66)), some (.inl 1), some (.inl i)] [] hh
          refine E_s 4 (i' := 29) (ls' := [some (.inr (.inr 66)), some (.inl 1), some (.inl i)]) (sk' := [.inl 1, .inl i, .inr (.inr 93)]) (h' := hh) rfl ?_
          refine E_b (x := (.ifCond .ne 12, 35, [], [])) rfl rfl (fun c29 => ?_) (fun c29 => ?_)
          · rw [c_ne (by first | assumption | (refine ⟨?_, ?_⟩ <;> omega) | (simp only [xr] at *; omega)) (by first | assumption | (refine ⟨?_, ?_⟩ <;> omega) | (simp only [xr] at *; omega))] at c29
            simp only [decide_eq_true_eq, decide_eq_false_iff_not, Decidable.not_not] at c29
            show xEx G0 cdX12_remembers none (xRn G0 MT d) Q b 35 [some (.inr (.inr 66)), some (.inl 1), some (.inl i)] [.inl i, .inr (.inr 93)] hh
            refine E_s 3 (i' := 38) (ls' := [some (.inr (.inr 66)), some (.inl 1), some (.inl i)]) (sk' := [.inl i, .inr (.inr 86), .inl i, .inr (.inr 93)]) (h' := hh) rfl ?_
            refine E_ld (x := (.iaload, 0, [], [])) (ty := .int) (n := 150) rfl rfl rfl (by omega) (by omega) ?_
            show xEx G0 cdX12_remembers none (xRn G0 MT d) Q b 39 [some (.inr (.inr 66)), some (.inl 1), some (.inl i)] [.inl (hh 86 i), .inl i, .inr (.inr 93)] hh
            refine E_sd (x := (.iastore, 0, [], [])) (ty := .int) (n := 300) (y := (hh 86 i)) rfl rfl rfl (by omega) (by omega) (trivial) ?_
            show xEx G0 cdX12_remembers none (xRn G0 MT d) Q b 40 [some (.inr (.inr 66)), some (.inl 1), some (.inl i)] [] (xup hh 93 i (hh 86 i))
            refine E_s 2 (i' := 21) (ls' := [some (.inr (.inr 66)), some (.inl 1), some (.inl (i + 1))]) (sk' := []) (h' := (xup hh 93 i (hh 86 i))) rfl ?_
            exact ih21 _ (i + 1) (by omega) (by omega) (fun a q1 => by rw [← hfa a q1]; exact xup_o _ _ _ _ a q1) (fun k z1 z2 => by
              rcases Int.lt_or_eq_of_le (show k ≤ i by omega) with z9 | z9
              · rw [xup_j (by omega)]; exact hfb k z1 z9
              · rw [z9, xup_s, hmm]) (by omega)
          · rw [c_ne (by first | assumption | (refine ⟨?_, ?_⟩ <;> omega) | (simp only [xr] at *; omega)) (by first | assumption | (refine ⟨?_, ?_⟩ <;> omega) | (simp only [xr] at *; omega))] at c29
            simp only [decide_eq_true_eq, decide_eq_false_iff_not, Decidable.not_not] at c29
            show xEx G0 cdX12_remembers none (xRn G0 MT d) Q b 30 [some (.inr (.inr 66)), some (.inl 1), some (.inl i)] [.inl i, .inr (.inr 93)] hh
            exact absurd c29 (by decide)
    exact key21 _ _ 0 (by omega) (by omega) (fun _ _ => rfl) (fun k z1 z2 => by omega) (Nat.lt_succ_self _)
  · rw [c_ne (by first | assumption | (refine ⟨?_, ?_⟩ <;> omega) | (simp only [xr] at *; omega)) (by first | assumption | (refine ⟨?_, ?_⟩ <;> omega) | (simp only [xr] at *; omega))] at c2
    simp only [decide_eq_true_eq, decide_eq_false_iff_not, Decidable.not_not] at c2
    show xEx G0 cdX12_remembers none (xRn G0 MT d) Q b 3 [some (.inr (.inr 66)), some (.inl 1), none] [.inr (.inr 66)] h
    exact absurd c2 (by decide)
set_option maxHeartbeats 1000000 in
theorem r_putsBack1 (d b : Nat) (h : xH) (hK : 0 ≤ h 66 39 ∧ h 66 39 ≤ 150) {Q : xO → xH → Prop} (hQ : ∀ h', (∀ a, a ≠ 66 → a ≠ 86 → a ≠ 89 → h' a = h a) → (∀ j, j ≠ 19 → j ≠ 33 → h' 66 j = h 66 j) → h' 66 19 = h 66 39 → h' 66 33 = h 66 41 → h' 89 1 = h 66 40 → (∀ j, j ≠ 1 → h' 89 j = h 89 j) → (∀ k, 0 ≤ k → k < h 66 39 → h' 86 k = h 93 k) → Q (.inl none) h') : xRn G0 MT (d + 1) b 189 [.inr (.inr 66), .inl 1] h Q := by
  refine R_of (M := mX12_putsBack) rfl (Nat.le_of_ble_eq_true rfl) ?_
  show xEx G0 cdX12_putsBack none (xRn G0 MT d) Q b 0 [some (.inr (.inr 66)), some (.inl 1), none] [] h
  refine E_s 2 (i' := 2) (ls' := [some (.inr (.inr 66)), some (.inl 1), some (.inl 0)]) (sk' := []) (h' := h) rfl ?_
  have key2 : ∀ (n : Nat) (hh : xH) (i : Int), (0 ≤ i) → (i ≤ h 66 39) → (∀ a, a ≠ 86 → hh a = h a) → (∀ k, 0 ≤ k → k < i → hh 86 k = h 93 k) → ((h 66 39 - i).toNat) < n → xEx G0 cdX12_putsBack none (xRn G0 MT d) Q b 2 [some (.inr (.inr 66)), some (.inl 1), some (.inl i)] [] hh := by
    intro n
    induction n with
    | zero => intro hh i _ _ _ _ hm; exact absurd hm (Nat.not_lt_zero _)
    | succ n ih2 =>
      intro hh i hi0 hi9 hfa hfb hm2
      have hbk : hh 66 = h 66 := hfa 66 (by decide)
      have hb39 : hh 66 39 = h 66 39 := by rw [hbk]
      have hmm : hh 93 = h 93 := hfa 93 (by decide)
      refine E_s 3 (i' := 5) (ls' := [some (.inr (.inr 66)), some (.inl 1), some (.inl i)]) (sk' := [.inl (hh 66 39), .inl i]) (h' := hh) rfl ?_
      refine E_b (x := (.if_icmp .ge 40, 27, [], [])) rfl rfl (fun c5 => ?_) (fun c5 => ?_)
      · rw [c_ge (by first | exact ⟨by omega, by omega⟩ | (rw [hbk]; exact ⟨by omega, by omega⟩)) (by first | exact ⟨by omega, by omega⟩ | (rw [hbk]; exact ⟨by omega, by omega⟩))] at c5
        simp only [decide_eq_true_eq, decide_eq_false_iff_not, Decidable.not_not] at c5
        show xEx G0 cdX12_putsBack none (xRn G0 MT d) Q b 27 [some (.inr (.inr 66)), some (.inl 1), some (.inl i)] [] hh
        refine E_s 1 (i' := 28) (ls' := [some (.inr (.inr 66)), some (.inl 1), some (.inl i)]) (sk' := [.inl 1]) (h' := hh) rfl ?_
        refine E_b (x := (.ifCond .ne 14, 34, [], [])) rfl rfl (fun c28 => ?_) (fun c28 => ?_)
        · rw [c_ne (by first | assumption | (refine ⟨?_, ?_⟩ <;> omega) | (simp only [xr] at *; omega)) (by first | assumption | (refine ⟨?_, ?_⟩ <;> omega) | (simp only [xr] at *; omega))] at c28
          simp only [decide_eq_true_eq, decide_eq_false_iff_not, Decidable.not_not] at c28
          show xEx G0 cdX12_putsBack none (xRn G0 MT d) Q b 34 [some (.inr (.inr 66)), some (.inl 1), some (.inl i)] [] hh
          refine E_s 9 (i' := 43) (ls' := [some (.inr (.inr 66)), some (.inl 1), some (.inl i)]) (sk' := [.inl (hh 66 40), .inl 1, .inr (.inr 89)]) (h' := (xup hh 66 19 (hh 66 39))) rfl ?_
          refine E_sd (x := (.iastore, 0, [], [])) (ty := .int) (n := 2) (y := (hh 66 40)) rfl rfl rfl (by omega) (by omega) (trivial) ?_
          show xEx G0 cdX12_putsBack none (xRn G0 MT d) Q b 44 [some (.inr (.inr 66)), some (.inl 1), some (.inl i)] [] (xup (xup hh 66 19 (hh 66 39)) 89 1 (hh 66 40))
          refine E_s 4 (i' := 48) (ls' := [some (.inr (.inr 66)), some (.inl 1), some (.inl i)]) (sk' := []) (h' := (xup (xup (xup hh 66 19 (hh 66 39)) 89 1 (hh 66 40)) 66 33 (hh 66 41))) rfl ?_
          exact E_ret (x := (.return_, 0, [], [])) (v := none) rfl (trivial) (hQ _ (fun a q1 q2 q3 => by rw [← hfa a q2]; funext j; simp [xup, q1, q3]) (fun j q1 q2 => by rw [← hbk]; simp [xup, q1, q2]) (by rw [← hbk]; rfl) (by rw [← hbk]; rfl) (by rw [← hbk]; rfl) (fun j q1 => by rw [← hfa 89 (by decide)]; simp [xup, q1]) (fun k z1 z2 => hfb k z1 (by omega)))
        · rw [c_ne (by first | assumption | (refine ⟨?_, ?_⟩ <;> omega) | (simp only [xr] at *; omega)) (by first | assumption | (refine ⟨?_, ?_⟩ <;> omega) | (simp only [xr] at *; omega))] at c28
          simp only [decide_eq_true_eq, decide_eq_false_iff_not, Decidable.not_not] at c28
          show xEx G0 cdX12_putsBack none (xRn G0 MT d) Q b 29 [some (.inr (.inr 66)), some (.inl 1), some (.inl i)] [] hh
          exact absurd c28 (by decide)
      · rw [c_ge (by first | exact ⟨by omega, by omega⟩ | (rw [hbk]; exact ⟨by omega, by omega⟩)) (by first | exact ⟨by omega, by omega⟩ | (rw [hbk]; exact ⟨by omega, by omega⟩))] at c5
        simp only [decide_eq_true_eq, decide_eq_false_iff_not, Decidable.not_not] at c5
        show xEx G0 cdX12_putsBack none (xRn G0 MT d) Q b 6 [some (.inr (.inr 66)), some (.inl 1), some (.inl i)] [] hh
        refine E_s 1 (i' := 7) (ls' := [some (.inr (.inr 66)), some (.inl 1), some (.inl i)]) (sk' := [.inl 1]) (h' := hh) rfl ?_
        refine E_b (x := (.ifCond .ne 18, 17, [], [])) rfl rfl (fun c7 => ?_) (fun c7 => ?_)
        · rw [c_ne (by first | assumption | (refine ⟨?_, ?_⟩ <;> omega) | (simp only [xr] at *; omega)) (by first | assumption | (refine ⟨?_, ?_⟩ <;> omega) | (simp only [xr] at *; omega))] at c7
          simp only [decide_eq_true_eq, decide_eq_false_iff_not, Decidable.not_not] at c7
          show xEx G0 cdX12_putsBack none (xRn G0 MT d) Q b 17 [some (.inr (.inr 66)), some (.inl 1), some (.inl i)] [] hh
          refine E_s 6 (i' := 23) (ls' := [some (.inr (.inr 66)), some (.inl 1), some (.inl i)]) (sk' := [.inl i, .inr (.inr 93), .inl i, .inr (.inr 86)]) (h' := hh) rfl ?_
          refine E_ld (x := (.iaload, 0, [], [])) (ty := .int) (n := 300) rfl rfl rfl (by omega) (by omega) ?_
          show xEx G0 cdX12_putsBack none (xRn G0 MT d) Q b 24 [some (.inr (.inr 66)), some (.inl 1), some (.inl i)] [.inl (hh 93 i), .inl i, .inr (.inr 86)] hh
          refine E_sd (x := (.iastore, 0, [], [])) (ty := .int) (n := 150) (y := (hh 93 i)) rfl rfl rfl (by omega) (by omega) (trivial) ?_
          show xEx G0 cdX12_putsBack none (xRn G0 MT d) Q b 25 [some (.inr (.inr 66)), some (.inl 1), some (.inl i)] [] (xup hh 86 i (hh 93 i))
          refine E_s 2 (i' := 2) (ls' := [some (.inr (.inr 66)), some (.inl 1), some (.inl (i + 1))]) (sk' := []) (h' := (xup hh 86 i (hh 93 i))) rfl ?_
          exact ih2 _ (i + 1) (by omega) (by omega) (fun a q1 => by rw [← hfa a q1]; exact xup_o _ _ _ _ a q1) (fun k z1 z2 => by
            rcases Int.lt_or_eq_of_le (show k ≤ i by omega) with z9 | z9
            · rw [xup_j (by omega)]; exact hfb k z1 z9
            · rw [z9, xup_s, hmm]) (by omega)
        · rw [c_ne (by first | assumption | (refine ⟨?_, ?_⟩ <;> omega) | (simp only [xr] at *; omega)) (by first | assumption | (refine ⟨?_, ?_⟩ <;> omega) | (simp only [xr] at *; omega))] at c7
          simp only [decide_eq_true_eq, decide_eq_false_iff_not, Decidable.not_not] at c7
          show xEx G0 cdX12_putsBack none (xRn G0 MT d) Q b 8 [some (.inr (.inr 66)), some (.inl 1), some (.inl i)] [] hh
          exact absurd c7 (by decide)
  exact key2 _ _ 0 (by omega) (by omega) (fun _ _ => rfl) (fun k z1 z2 => by omega) (Nat.lt_succ_self _)
