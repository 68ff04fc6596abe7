def sgc (k : Int) : Int := if k = 0 then 43 else if k = 1 then 45 else if k = 2 then 42 else if k = 6 then 47 else 37
set_option maxHeartbeats 1000000 in
theorem m_two (d b : Nat) (h : xH) (o u s w : Int) (hl : 0 ≤ h 66 47 ∧ h 66 47 + 5 ≤ 400) {Q : xO → xH → Prop} (hQ : Q (.inl none) (ppshs h [3041, w, 3000 + s, u, 3000 + o])) : xRn G0 MT (d + 2) b 207 [.inr (.inr 66), .inl o, .inl u, .inl s, .inl w] h Q := by
  refine R_of (M := mX12_pushesTwo) rfl (Nat.le_of_ble_eq_true rfl) ?_
  show xEx G0 cdX12_pushesTwo none (xRn G0 MT (d + 1)) Q b 0 [some (.inr (.inr 66)), some (.inl o), some (.inl u), some (.inl s), some (.inl w)] [] h
  refine E_s 2 (i' := 2) (ls' := [some (.inr (.inr 66)), some (.inl o), some (.inl u), some (.inl s), some (.inl w)]) (sk' := [.inl 3041, .inr (.inr 66)]) (h' := h) rfl ?_
  refine E_cv (x := (.invokevirtual 325, 1, [(10, 203)], [0])) (q := fun h9 => h9 = (ppsh h (3041))) rfl rfl (Nat.le_of_ble_eq_true rfl) (m_push d 0 h (3041) (by omega) ⟨rfl, rfl⟩) (fun h9 e9 => ?_)
  subst e9
  show xEx G0 cdX12_pushesTwo none (xRn G0 MT (d + 1)) Q b 3 [some (.inr (.inr 66)), some (.inl o), some (.inl u), some (.inl s), some (.inl w)] [] (ppsh h (3041))
  refine E_s 2 (i' := 5) (ls' := [some (.inr (.inr 66)), some (.inl o), some (.inl u), some (.inl s), some (.inl w)]) (sk' := [.inl w, .inr (.inr 66)]) (h' := (ppsh h (3041))) rfl ?_
  refine E_cv (x := (.invokevirtual 325, 1, [(10, 203)], [0])) (q := fun h9 => h9 = (ppsh (ppsh h (3041)) (w))) rfl rfl (Nat.le_of_ble_eq_true rfl) (m_push d 0 (ppsh h (3041)) (w) (by simp only [ppsh_l]; omega) ⟨rfl, rfl⟩) (fun h9 e9 => ?_)
  subst e9
  show xEx G0 cdX12_pushesTwo none (xRn G0 MT (d + 1)) Q b 6 [some (.inr (.inr 66)), some (.inl o), some (.inl u), some (.inl s), some (.inl w)] [] (ppsh (ppsh h (3041)) (w))
  refine E_s 4 (i' := 10) (ls' := [some (.inr (.inr 66)), some (.inl o), some (.inl u), some (.inl s), some (.inl w)]) (sk' := [.inl (3000 + s), .inr (.inr 66)]) (h' := (ppsh (ppsh h (3041)) (w))) rfl ?_
  refine E_cv (x := (.invokevirtual 325, 1, [(10, 203)], [0])) (q := fun h9 => h9 = (ppsh (ppsh (ppsh h (3041)) (w)) (3000 + s))) rfl rfl (Nat.le_of_ble_eq_true rfl) (m_push d 0 (ppsh (ppsh h (3041)) (w)) (3000 + s) (by simp only [ppsh_l]; omega) ⟨rfl, rfl⟩) (fun h9 e9 => ?_)
  subst e9
  show xEx G0 cdX12_pushesTwo none (xRn G0 MT (d + 1)) Q b 11 [some (.inr (.inr 66)), some (.inl o), some (.inl u), some (.inl s), some (.inl w)] [] (ppsh (ppsh (ppsh h (3041)) (w)) (3000 + s))
  refine E_s 2 (i' := 13) (ls' := [some (.inr (.inr 66)), some (.inl o), some (.inl u), some (.inl s), some (.inl w)]) (sk' := [.inl u, .inr (.inr 66)]) (h' := (ppsh (ppsh (ppsh h (3041)) (w)) (3000 + s))) rfl ?_
  refine E_cv (x := (.invokevirtual 325, 1, [(10, 203)], [0])) (q := fun h9 => h9 = (ppsh (ppsh (ppsh (ppsh h (3041)) (w)) (3000 + s)) (u))) rfl rfl (Nat.le_of_ble_eq_true rfl) (m_push d 0 (ppsh (ppsh (ppsh h (3041)) (w)) (3000 + s)) (u) (by simp only [ppsh_l]; omega) ⟨rfl, rfl⟩) (fun h9 e9 => ?_)
  subst e9
  show xEx G0 cdX12_pushesTwo none (xRn G0 MT (d + 1)) Q b 14 [some (.inr (.inr 66)), some (.inl o), some (.inl u), some (.inl s), some (.inl w)] [] (ppsh (ppsh (ppsh (ppsh h (3041)) (w)) (3000 + s)) (u))
  refine E_s 4 (i' := 18) (ls' := [some (.inr (.inr 66)), some (.inl o), some (.inl u), some (.inl s), some (.inl w)]) (sk' := [.inl (3000 + o), .inr (.inr 66)]) (h' := (ppsh (ppsh (ppsh (ppsh h (3041)) (w)) (3000 + s)) (u))) rfl ?_
  refine E_cv (x := (.invokevirtual 325, 1, [(10, 203)], [0])) (q := fun h9 => h9 = (ppsh (ppsh (ppsh (ppsh (ppsh h (3041)) (w)) (3000 + s)) (u)) (3000 + o))) rfl rfl (Nat.le_of_ble_eq_true rfl) (m_push d 0 (ppsh (ppsh (ppsh (ppsh h (3041)) (w)) (3000 + s)) (u)) (3000 + o) (by simp only [ppsh_l]; omega) ⟨rfl, rfl⟩) (fun h9 e9 => ?_)
  subst e9
  show xEx G0 cdX12_pushesTwo none (xRn G0 MT (d + 1)) Q b 19 [some (.inr (.inr 66)), some (.inl o), some (.inl u), some (.inl s), some (.inl w)] [] (ppsh (ppsh (ppsh (ppsh (ppsh h (3041)) (w)) (3000 + s)) (u)) (3000 + o))
  exact E_ret (x := (.return_, 0, [], [])) (v := none) rfl (trivial) (hQ)
set_option maxHeartbeats 1000000 in
theorem m_sgn (d b : Nat) (h : xH) (k : Int) (hk : 0 ≤ k ∧ k ≤ 11) {Q : xO → xH → Prop} (hQ : Q (.inl (some (.inl (sgc k)))) h) : xRn G0 MT (d + 1) b 208 [.inl k] h Q := by
  refine R_of (M := mX12_signOf) rfl (Nat.le_of_ble_eq_true rfl) ?_
  show xEx G0 cdX12_signOf (some .int) (xRn G0 MT d) Q b 0 [some (.inl k)] [] h
  refine E_s 1 (i' := 1) (ls' := [some (.inl k)]) (sk' := [.inl k]) (h' := h) rfl ?_
  refine E_b (x := (.ifCond .ne 8, 4, [], [])) rfl rfl (fun c1 => ?_) (fun c1 => ?_)
  · rw [c_ne (by first | assumption | (refine ⟨?_, ?_⟩ <;> omega) | (simp only [xr] at *; omega)) (by first | assumption | (refine ⟨?_, ?_⟩ <;> omega) | (simp only [xr] at *; omega))] at c1
    simp only [decide_eq_true_eq, decide_eq_false_iff_not, Decidable.not_not] at c1
    show xEx G0 cdX12_signOf (some .int) (xRn G0 MT d) Q b 4 [some (.inl k)] [] h
    refine E_s 2 (i' := 6) (ls' := [some (.inl k)]) (sk' := [.inl 1, .inl k]) (h' := h) rfl ?_
    refine E_b (x := (.if_icmp .ne 8, 9, [], [])) rfl rfl (fun c6 => ?_) (fun c6 => ?_)
    · rw [c_ne (by first | assumption | (refine ⟨?_, ?_⟩ <;> omega) | (simp only [xr] at *; omega)) (by first | assumption | (refine ⟨?_, ?_⟩ <;> omega) | (simp only [xr] at *; omega))] at c6
      simp only [decide_eq_true_eq, decide_eq_false_iff_not, Decidable.not_not] at c6
      show xEx G0 cdX12_signOf (some .int) (xRn G0 MT d) Q b 9 [some (.inl k)] [] h
      refine E_s 2 (i' := 11) (ls' := [some (.inl k)]) (sk' := [.inl 2, .inl k]) (h' := h) rfl ?_
      refine E_b (x := (.if_icmp .ne 8, 14, [], [])) rfl rfl (fun c11 => ?_) (fun c11 => ?_)
      · rw [c_ne (by first | assumption | (refine ⟨?_, ?_⟩ <;> omega) | (simp only [xr] at *; omega)) (by first | assumption | (refine ⟨?_, ?_⟩ <;> omega) | (simp only [xr] at *; omega))] at c11
        simp only [decide_eq_true_eq, decide_eq_false_iff_not, Decidable.not_not] at c11
        show xEx G0 cdX12_signOf (some .int) (xRn G0 MT d) Q b 14 [some (.inl k)] [] h
        refine E_s 2 (i' := 16) (ls' := [some (.inl k)]) (sk' := [.inl 6, .inl k]) (h' := h) rfl ?_
        refine E_b (x := (.if_icmp .ne 8, 19, [], [])) rfl rfl (fun c16 => ?_) (fun c16 => ?_)
        · rw [c_ne (by first | assumption | (refine ⟨?_, ?_⟩ <;> omega) | (simp only [xr] at *; omega)) (by first | assumption | (refine ⟨?_, ?_⟩ <;> omega) | (simp only [xr] at *; omega))] at c16
          simp only [decide_eq_true_eq, decide_eq_false_iff_not, Decidable.not_not] at c16
          show xEx G0 cdX12_signOf (some .int) (xRn G0 MT d) Q b 19 [some (.inl k)] [] h
          refine E_s 1 (i' := 20) (ls' := [some (.inl k)]) (sk' := [.inl 37]) (h' := h) rfl ?_
          exact E_ret (x := (.ireturn, 0, [], [])) (v := some (.inl 37)) rfl (Or.inl rfl) (by
            have r9 := hQ
            unfold sgc at r9
            rw [if_neg (by omega), if_neg (by omega), if_neg (by omega), if_neg (by omega)] at r9
            exact r9)
        · rw [c_ne (by first | assumption | (refine ⟨?_, ?_⟩ <;> omega) | (simp only [xr] at *; omega)) (by first | assumption | (refine ⟨?_, ?_⟩ <;> omega) | (simp only [xr] at *; omega))] at c16
          simp only [decide_eq_true_eq, decide_eq_false_iff_not, Decidable.not_not] at c16
          show xEx G0 cdX12_signOf (some .int) (xRn G0 MT d) Q b 17 [some (.inl k)] [] h
          refine E_s 2 (i' := 20) (ls' := [some (.inl k)]) (sk' := [.inl 47]) (h' := h) rfl ?_
          exact E_ret (x := (.ireturn, 0, [], [])) (v := some (.inl 47)) rfl (Or.inl rfl) (by
            have r9 := hQ
            unfold sgc at r9
            rw [if_neg (by omega), if_neg (by omega), if_neg (by omega), if_pos (by omega)] at r9
            exact r9)
      · rw [c_ne (by first | assumption | (refine ⟨?_, ?_⟩ <;> omega) | (simp only [xr] at *; omega)) (by first | assumption | (refine ⟨?_, ?_⟩ <;> omega) | (simp only [xr] at *; omega))] at c11
        simp only [decide_eq_true_eq, decide_eq_false_iff_not, Decidable.not_not] at c11
        show xEx G0 cdX12_signOf (some .int) (xRn G0 MT d) Q b 12 [some (.inl k)] [] h
        refine E_s 2 (i' := 20) (ls' := [some (.inl k)]) (sk' := [.inl 42]) (h' := h) rfl ?_
        exact E_ret (x := (.ireturn, 0, [], [])) (v := some (.inl 42)) rfl (Or.inl rfl) (by
          have r9 := hQ
          unfold sgc at r9
          rw [if_neg (by omega), if_neg (by omega), if_pos (by omega)] at r9
          exact r9)
    · rw [c_ne (by first | assumption | (refine ⟨?_, ?_⟩ <;> omega) | (simp only [xr] at *; omega)) (by first | assumption | (refine ⟨?_, ?_⟩ <;> omega) | (simp only [xr] at *; omega))] at c6
      simp only [decide_eq_true_eq, decide_eq_false_iff_not, Decidable.not_not] at c6
      show xEx G0 cdX12_signOf (some .int) (xRn G0 MT d) Q b 7 [some (.inl k)] [] h
      refine E_s 2 (i' := 20) (ls' := [some (.inl k)]) (sk' := [.inl 45]) (h' := h) rfl ?_
      exact E_ret (x := (.ireturn, 0, [], [])) (v := some (.inl 45)) rfl (Or.inl rfl) (by
        have r9 := hQ
        unfold sgc at r9
        rw [if_neg (by omega), if_pos (by omega)] at r9
        exact r9)
  · rw [c_ne (by first | assumption | (refine ⟨?_, ?_⟩ <;> omega) | (simp only [xr] at *; omega)) (by first | assumption | (refine ⟨?_, ?_⟩ <;> omega) | (simp only [xr] at *; omega))] at c1
    simp only [decide_eq_true_eq, decide_eq_false_iff_not, Decidable.not_not] at c1
    show xEx G0 cdX12_signOf (some .int) (xRn G0 MT d) Q b 2 [some (.inl k)] [] h
    refine E_s 2 (i' := 20) (ls' := [some (.inl k)]) (sk' := [.inl 43]) (h' := h) rfl ?_
    exact E_ret (x := (.ireturn, 0, [], [])) (v := some (.inl 43)) rfl (Or.inl rfl) (by
      have r9 := hQ
      unfold sgc at r9
      rw [if_pos (by omega)] at r9
      exact r9)
