set_option maxHeartbeats 1000000 in
theorem m_isConstant (d b : Nat) (h : xH) (v : Int) (hc : 0 ≤ h 66 6 ∧ h 66 6 ≤ 10) (hv : xr v) (hr : ∀ q : Int, 0 ≤ q → q < h 66 6 → xr (h 68 q)) {Q : xO → xH → Prop} (h1 : ∀ q : Int, 0 ≤ q → q < h 66 6 → h 68 q = v → Q (.inl (some (.inl 1))) h) (h0 : (∀ q : Int, 0 ≤ q → q < h 66 6 → ¬ h 68 q = v) → Q (.inl (some (.inl 0))) h) : xRn G0 MT (d + 1) b 166 [.inr (.inr 66), .inl v] h Q := by
  refine R_of (M := mX12_isConstant) rfl (Nat.le_of_ble_eq_true rfl) ?_
  show xEx G0 cdX12_isConstant (some .boolean) (xRn G0 MT d) Q b 0 [some (.inr (.inr 66)), some (.inl v), none] [] h
  refine E_s 2 (i' := 2) (ls' := [some (.inr (.inr 66)), some (.inl v), some (.inl 0)]) (sk' := []) (h' := h) rfl ?_
  have key2 : ∀ (n : Nat) (e : Int), (0 ≤ e) → (e ≤ h 66 6) → (∀ q : Int, 0 ≤ q → q < e → ¬ h 68 q = v) → ((h 66 6 - e).toNat) < n → xEx G0 cdX12_isConstant (some .boolean) (xRn G0 MT d) Q b 2 [some (.inr (.inr 66)), some (.inl v), some (.inl e)] [] h := by
    intro n
    induction n with
    | zero => intro e _ _ _ hm; exact absurd hm (Nat.not_lt_zero _)
    | succ n ih2 =>
      intro e he0 he1 hno hm2
      refine E_s 3 (i' := 5) (ls' := [some (.inr (.inr 66)), some (.inl v), some (.inl e)]) (sk' := [.inl (h 66 6), .inl e]) (h' := h) rfl ?_
      refine E_b (x := (.if_icmp .ge 21, 16, [], [])) rfl rfl (fun c5 => ?_) (fun c5 => ?_)
      · rw [c_ge (by first | assumption | (refine ⟨?_, ?_⟩ <;> omega) | (simp only [xr] at *; omega)) (by first | assumption | (refine ⟨?_, ?_⟩ <;> omega) | (simp only [xr] at *; omega))] at c5
        simp only [decide_eq_true_eq, decide_eq_false_iff_not, Decidable.not_not] at c5
        show xEx G0 cdX12_isConstant (some .boolean) (xRn G0 MT d) Q b 16 [some (.inr (.inr 66)), some (.inl v), some (.inl e)] [] h
        refine E_s 1 (i' := 17) (ls' := [some (.inr (.inr 66)), some (.inl v), some (.inl e)]) (sk' := [.inl 0]) (h' := h) rfl ?_
        exact E_ret (x := (.ireturn, 0, [], [])) (v := some (.inl 0)) rfl (Or.inr ⟨rfl, by omega⟩) (h0 (fun q hq0 hq1 => hno q hq0 (by omega)))
      · rw [c_ge (by first | assumption | (refine ⟨?_, ?_⟩ <;> omega) | (simp only [xr] at *; omega)) (by first | assumption | (refine ⟨?_, ?_⟩ <;> omega) | (simp only [xr] at *; omega))] at c5
        simp only [decide_eq_true_eq, decide_eq_false_iff_not, Decidable.not_not] at c5
        show xEx G0 cdX12_isConstant (some .boolean) (xRn G0 MT d) Q b 6 [some (.inr (.inr 66)), some (.inl v), some (.inl e)] [] h
        have hr9 := hr e he0 (by omega)
        refine E_s 3 (i' := 9) (ls' := [some (.inr (.inr 66)), some (.inl v), some (.inl e)]) (sk' := [.inl e, .inr (.inr 68)]) (h' := h) rfl ?_
        refine E_ld (x := (.iaload, 0, [], [])) (ty := .int) (n := 10) rfl rfl rfl (by omega) (by omega) ?_
        show xEx G0 cdX12_isConstant (some .boolean) (xRn G0 MT d) Q b 10 [some (.inr (.inr 66)), some (.inl v), some (.inl e)] [.inl (h 68 e)] h
        refine E_s 1 (i' := 11) (ls' := [some (.inr (.inr 66)), some (.inl v), some (.inl e)]) (sk' := [.inl v, .inl (h 68 e)]) (h' := h) rfl ?_
        refine E_b (x := (.if_icmp .ne 5, 14, [], [])) rfl rfl (fun c11 => ?_) (fun c11 => ?_)
        · rw [c_ne (by first | assumption | (refine ⟨?_, ?_⟩ <;> omega) | (simp only [xr] at *; omega)) (by first | assumption | (refine ⟨?_, ?_⟩ <;> omega) | (simp only [xr] at *; omega))] at c11
          simp only [decide_eq_true_eq, decide_eq_false_iff_not, Decidable.not_not] at c11
          show xEx G0 cdX12_isConstant (some .boolean) (xRn G0 MT d) Q b 14 [some (.inr (.inr 66)), some (.inl v), some (.inl e)] [] h
          refine E_s 2 (i' := 2) (ls' := [some (.inr (.inr 66)), some (.inl v), some (.inl (e + 1))]) (sk' := []) (h' := h) rfl ?_
          exact ih2 (e + 1) (by omega) (by omega) (fun q hq0 hq1 => by
            rcases Int.lt_or_eq_of_le (show q ≤ e by omega) with z9 | z9
            · exact hno q hq0 z9
            · subst z9; exact c11) (by omega)
        · rw [c_ne (by first | assumption | (refine ⟨?_, ?_⟩ <;> omega) | (simp only [xr] at *; omega)) (by first | assumption | (refine ⟨?_, ?_⟩ <;> omega) | (simp only [xr] at *; omega))] at c11
          simp only [decide_eq_true_eq, decide_eq_false_iff_not, Decidable.not_not] at c11
          show xEx G0 cdX12_isConstant (some .boolean) (xRn G0 MT d) Q b 12 [some (.inr (.inr 66)), some (.inl v), some (.inl e)] [] h
          refine E_s 1 (i' := 13) (ls' := [some (.inr (.inr 66)), some (.inl v), some (.inl e)]) (sk' := [.inl 1]) (h' := h) rfl ?_
          exact E_ret (x := (.ireturn, 0, [], [])) (v := some (.inl 1)) rfl (Or.inr ⟨rfl, by omega⟩) (h1 e he0 (by omega) c11)
  exact key2 _ 0 (by omega) (by omega) (fun q hq0 hq1 => by omega) (Nat.lt_succ_self _)
set_option maxHeartbeats 1000000 in
theorem o_constant (d  : Nat) (h : xH) (v : Int) (hv : xr v) (hk : KOK h) (hc : 2 ≤ h 7 1 ∧ h 7 1 ≤ 10) (hcr : ∀ i, 0 ≤ i → i < h 7 1 → -99 ≤ h 8 i ∧ h 8 i ≤ 99) {Q : xO → xH → Prop} (hA : ¬ (-99 ≤ v ∧ v ≤ 99) → Q (.inr "java/lang/IllegalArgumentException") h) (hS : -99 ≤ v ∧ v ≤ 99 → h 7 1 = 10 → (¬ ∃ q, 0 ≤ q ∧ q < h 7 1 ∧ h 8 q = v) → Q (.inr "java/lang/IllegalStateException") h) (hO : -99 ≤ v ∧ v ≤ 99 → (∃ q, 0 ≤ q ∧ q < h 7 1 ∧ h 8 q = v) → ∀ h', FGC h h' → Q (.inl (some (.inl 0))) h') (hN : -99 ≤ v ∧ v ≤ 99 → h 7 1 < 10 → (¬ ∃ q, 0 ≤ q ∧ q < h 7 1 ∧ h 8 q = v) → ∀ g h', ADC h g v → FGC g h' → Q (.inl (some (.inl 1))) h') : xRn G0 MT (d + 6) 1 101 [.inr (.inr 0), .inl v] h Q := by
  refine R_of (M := mX11_constant) rfl (Nat.le_of_ble_eq_true rfl) ?_
  show xEx G0 cdX11_constant (some .boolean) (xRn G0 MT (d + 5)) Q 1 0 [some (.inr (.inr 0)), some (.inl v), none] [] h
  refine E_s 1 (i' := 1) (ls' := [some (.inr (.inr 0)), some (.inl v), none]) (sk' := [.inl v]) (h' := h) rfl ?_
  refine E_cp (x := (.invokestatic 132, 1, [(0, 72)], [])) (q := fun r1 h9 => ((r1 = 1 ∧ (v < -99 ∨ 99 < v)) ∨ (r1 = 0 ∧ ¬ (v < -99 ∨ 99 < v))) ∧ h = h9) rfl rfl (Nat.le_of_ble_eq_true rfl) (c_isNoConstant (d + 4) 0 h v hv (fun z => ⟨_, rfl, Or.inl ⟨rfl, z⟩, rfl⟩) (fun z => ⟨_, rfl, Or.inr ⟨rfl, z⟩, rfl⟩)) (fun r1 h9 q1 => ?_)
  obtain ⟨q1, rfl⟩ := q1
  show xEx G0 cdX11_constant (some .boolean) (xRn G0 MT (d + 5)) Q 1 2 [some (.inr (.inr 0)), some (.inl v), none] [.inl r1] h
  refine E_b (x := (.ifCond .eq 13, 8, [], [])) rfl rfl (fun c2 => ?_) (fun c2 => ?_)
  · rw [c_eq (by first | assumption | (refine ⟨?_, ?_⟩ <;> omega) | (simp only [xr] at *; omega)) (by first | assumption | (refine ⟨?_, ?_⟩ <;> omega) | (simp only [xr] at *; omega))] at c2
    simp only [decide_eq_true_eq, decide_eq_false_iff_not, Decidable.not_not] at c2
    show xEx G0 cdX11_constant (some .boolean) (xRn G0 MT (d + 5)) Q 1 8 [some (.inr (.inr 0)), some (.inl v), none] [] h
    refine E_s 3 (i' := 11) (ls' := [some (.inr (.inr 0)), some (.inl v), none]) (sk' := [.inl v, .inr (.inr 7)]) (h' := h) rfl ?_
    refine E_cp (x := (.invokevirtual 137, 1, [(6, 75)], [0])) (q := fun r2 h9 => ((r2 = 1 ∧ (∃ q, 0 ≤ q ∧ q < h 7 1 ∧ h 8 q = v)) ∨ (r2 = 0 ∧ ¬ (∃ q, 0 ≤ q ∧ q < h 7 1 ∧ h 8 q = v))) ∧ h = h9) rfl rfl (Nat.le_of_ble_eq_true rfl) (c_hasConstant (d + 4) 0 h v (by omega) hv (fun q z1 z2 => ⟨by have := hcr q z1 z2; omega, by have := hcr q z1 z2; omega⟩) (fun q z1 z2 z3 => ⟨_, rfl, Or.inl ⟨rfl, q, z1, z2, z3⟩, rfl⟩) (fun z9 => ⟨_, rfl, Or.inr ⟨rfl, fun y9 => by obtain ⟨q, z1, z2, z3⟩ := y9; exact z9 q z1 z2 z3⟩, rfl⟩)) (fun r2 h9 q2 => ?_)
    obtain ⟨q2, rfl⟩ := q2
    show xEx G0 cdX11_constant (some .boolean) (xRn G0 MT (d + 5)) Q 1 12 [some (.inr (.inr 0)), some (.inl v), none] [.inl r2] h
    refine E_b (x := (.ifCond .ne 7, 15, [], [])) rfl rfl (fun c12 => ?_) (fun c12 => ?_)
    · rw [c_ne (by first | assumption | (refine ⟨?_, ?_⟩ <;> omega) | (simp only [xr] at *; omega)) (by first | assumption | (refine ⟨?_, ?_⟩ <;> omega) | (simp only [xr] at *; omega))] at c12
      simp only [decide_eq_true_eq, decide_eq_false_iff_not, Decidable.not_not] at c12
      show xEx G0 cdX11_constant (some .boolean) (xRn G0 MT (d + 5)) Q 1 15 [some (.inr (.inr 0)), some (.inl v), none] [] h
      refine E_s 3 (i' := 18) (ls' := [some (.inr (.inr 0)), some (.inl v), some (.inl 0)]) (sk' := [.inl 0]) (h' := h) rfl ?_
      refine E_b (x := (.ifCond .eq 23, 28, [], [])) rfl rfl (fun c18 => ?_) (fun c18 => ?_)
      · show xEx G0 cdX11_constant (some .boolean) (xRn G0 MT (d + 5)) Q 1 28 [some (.inr (.inr 0)), some (.inl v), some (.inl 0)] [] h
        refine E_s 1 (i' := 29) (ls' := [some (.inr (.inr 0)), some (.inl v), some (.inl 0)]) (sk' := [.inl 0]) (h' := h) rfl ?_
        refine E_b (x := (.ifCond .eq 11, 34, [], [])) rfl rfl (fun c29 => ?_) (fun c29 => ?_)
        · show xEx G0 cdX11_constant (some .boolean) (xRn G0 MT (d + 5)) Q 1 34 [some (.inr (.inr 0)), some (.inl v), some (.inl 0)] [] h
          refine E_s 1 (i' := 35) (ls' := [some (.inr (.inr 0)), some (.inl v), some (.inl 0)]) (sk' := [.inr (.inr 0)]) (h' := h) rfl ?_
          have hk9 : KOK (h) := KOK_of (fun _ _ => rfl) hk
          refine E_cv (x := (.invokevirtual 93, 0, [(9, 140)], [0])) (q := fun h9 => FGC (h) h9) rfl rfl (Nat.le_of_ble_eq_true rfl) (c_forgetAll d 0 (h) hk9.1 hk9.2.1 hk9.2.2.1 hk9.2.2.2 (fun h9 z => ⟨rfl, z⟩)) (fun hF1 hf => ?_)
          show xEx G0 cdX11_constant (some .boolean) (xRn G0 MT (d + 5)) Q 1 36 [some (.inr (.inr 0)), some (.inl v), some (.inl 0)] [] hF1
          refine E_s 1 (i' := 37) (ls' := [some (.inr (.inr 0)), some (.inl v), some (.inl 0)]) (sk' := [.inl 0]) (h' := hF1) rfl ?_
          exact E_ret (x := (.ireturn, 0, [], [])) (v := some (.inl 0)) rfl (Or.inr ⟨rfl, by omega⟩) (hO (by first | (clear q2 q4; omega) | (clear q4; omega) | (clear q2; omega)) (o1 q2 c12) _ hf)
        · show xEx G0 cdX11_constant (some .boolean) (xRn G0 MT (d + 5)) Q 1 30 [some (.inr (.inr 0)), some (.inl v), some (.inl 0)] [] h
          exact absurd c29 (by decide)
      · show xEx G0 cdX11_constant (some .boolean) (xRn G0 MT (d + 5)) Q 1 19 [some (.inr (.inr 0)), some (.inl v), some (.inl 0)] [] h
        exact absurd c18 (by decide)
    · rw [c_ne (by first | assumption | (refine ⟨?_, ?_⟩ <;> omega) | (simp only [xr] at *; omega)) (by first | assumption | (refine ⟨?_, ?_⟩ <;> omega) | (simp only [xr] at *; omega))] at c12
      simp only [decide_eq_true_eq, decide_eq_false_iff_not, Decidable.not_not] at c12
      show xEx G0 cdX11_constant (some .boolean) (xRn G0 MT (d + 5)) Q 1 13 [some (.inr (.inr 0)), some (.inl v), none] [] h
      refine E_s 4 (i' := 18) (ls' := [some (.inr (.inr 0)), some (.inl v), some (.inl 1)]) (sk' := [.inl 1]) (h' := h) rfl ?_
      refine E_b (x := (.ifCond .eq 23, 28, [], [])) rfl rfl (fun c18 => ?_) (fun c18 => ?_)
      · show xEx G0 cdX11_constant (some .boolean) (xRn G0 MT (d + 5)) Q 1 28 [some (.inr (.inr 0)), some (.inl v), some (.inl 1)] [] h
        exact absurd c18 (by decide)
      · show xEx G0 cdX11_constant (some .boolean) (xRn G0 MT (d + 5)) Q 1 19 [some (.inr (.inr 0)), some (.inl v), some (.inl 1)] [] h
        refine E_s 2 (i' := 21) (ls' := [some (.inr (.inr 0)), some (.inl v), some (.inl 1)]) (sk' := [.inr (.inr 7)]) (h' := h) rfl ?_
        refine E_cp (x := (.invokevirtual 140, 0, [(6, 74)], [0])) (q := fun r3 h9 => ((r3 = 1 ∧ h 7 1 = 10) ∨ (r3 = 0 ∧ ¬ h 7 1 = 10)) ∧ h = h9) rfl rfl (Nat.le_of_ble_eq_true rfl) (c_isFull (d + 4) 0 h (by omega) (fun z => ⟨_, rfl, Or.inl ⟨rfl, z⟩, rfl⟩) (fun z => ⟨_, rfl, Or.inr ⟨rfl, by omega⟩, rfl⟩)) (fun r3 h9 q3 => ?_)
        obtain ⟨q3, rfl⟩ := q3
        show xEx G0 cdX11_constant (some .boolean) (xRn G0 MT (d + 5)) Q 1 22 [some (.inr (.inr 0)), some (.inl v), some (.inl 1)] [.inl r3] h
        refine E_b (x := (.ifCond .eq 13, 28, [], [])) rfl rfl (fun c22 => ?_) (fun c22 => ?_)
        · rw [c_eq (by first | assumption | (refine ⟨?_, ?_⟩ <;> omega) | (simp only [xr] at *; omega)) (by first | assumption | (refine ⟨?_, ?_⟩ <;> omega) | (simp only [xr] at *; omega))] at c22
          simp only [decide_eq_true_eq, decide_eq_false_iff_not, Decidable.not_not] at c22
          show xEx G0 cdX11_constant (some .boolean) (xRn G0 MT (d + 5)) Q 1 28 [some (.inr (.inr 0)), some (.inl v), some (.inl 1)] [] h
          refine E_s 1 (i' := 29) (ls' := [some (.inr (.inr 0)), some (.inl v), some (.inl 1)]) (sk' := [.inl 1]) (h' := h) rfl ?_
          refine E_b (x := (.ifCond .eq 11, 34, [], [])) rfl rfl (fun c29 => ?_) (fun c29 => ?_)
          · show xEx G0 cdX11_constant (some .boolean) (xRn G0 MT (d + 5)) Q 1 34 [some (.inr (.inr 0)), some (.inl v), some (.inl 1)] [] h
            exact absurd c29 (by decide)
          · show xEx G0 cdX11_constant (some .boolean) (xRn G0 MT (d + 5)) Q 1 30 [some (.inr (.inr 0)), some (.inl v), some (.inl 1)] [] h
            refine E_s 3 (i' := 33) (ls' := [some (.inr (.inr 0)), some (.inl v), some (.inl 1)]) (sk' := [.inl v, .inr (.inr 7)]) (h' := h) rfl ?_
            refine E_cv (x := (.invokevirtual 146, 1, [(6, 76)], [0])) (q := fun h9 => ADC h h9 v) rfl rfl (Nat.le_of_ble_eq_true rfl) (c_addConstant (d + 4) 0 h v (by omega) hv (fun q z1 z2 => ⟨by have := hcr q z1 z2; omega, by have := hcr q z1 z2; omega⟩) (fun h9 z => ⟨rfl, z⟩)) (fun g1 hg => ?_)
            show xEx G0 cdX11_constant (some .boolean) (xRn G0 MT (d + 5)) Q 1 34 [some (.inr (.inr 0)), some (.inl v), some (.inl 1)] [] g1
            refine E_s 1 (i' := 35) (ls' := [some (.inr (.inr 0)), some (.inl v), some (.inl 1)]) (sk' := [.inr (.inr 0)]) (h' := g1) rfl ?_
            have hk9 : KOK (g1) := KOK_of (fun a ha => hg.1 a (by omega) (by omega)) hk
            refine E_cv (x := (.invokevirtual 93, 0, [(9, 140)], [0])) (q := fun h9 => FGC (g1) h9) rfl rfl (Nat.le_of_ble_eq_true rfl) (c_forgetAll d 0 (g1) hk9.1 hk9.2.1 hk9.2.2.1 hk9.2.2.2 (fun h9 z => ⟨rfl, z⟩)) (fun hF1 hf => ?_)
            show xEx G0 cdX11_constant (some .boolean) (xRn G0 MT (d + 5)) Q 1 36 [some (.inr (.inr 0)), some (.inl v), some (.inl 1)] [] hF1
            refine E_s 1 (i' := 37) (ls' := [some (.inr (.inr 0)), some (.inl v), some (.inl 1)]) (sk' := [.inl 1]) (h' := hF1) rfl ?_
            exact E_ret (x := (.ireturn, 0, [], [])) (v := some (.inl 1)) rfl (Or.inr ⟨rfl, by omega⟩) (hN (by omega) (by omega) (o0 q2 c12) _ _ hg hf)
        · rw [c_eq (by first | assumption | (refine ⟨?_, ?_⟩ <;> omega) | (simp only [xr] at *; omega)) (by first | assumption | (refine ⟨?_, ?_⟩ <;> omega) | (simp only [xr] at *; omega))] at c22
          simp only [decide_eq_true_eq, decide_eq_false_iff_not, Decidable.not_not] at c22
          show xEx G0 cdX11_constant (some .boolean) (xRn G0 MT (d + 5)) Q 1 23 [some (.inr (.inr 0)), some (.inl v), some (.inl 1)] [] h
          exact E_thr (x := (.new 106, 0, [(1, 0)], [])) rfl rfl rfl (Nat.le_of_ble_eq_true rfl) (hS (by omega) (by omega) (o0 q2 c12))
  · rw [c_eq (by first | assumption | (refine ⟨?_, ?_⟩ <;> omega) | (simp only [xr] at *; omega)) (by first | assumption | (refine ⟨?_, ?_⟩ <;> omega) | (simp only [xr] at *; omega))] at c2
    simp only [decide_eq_true_eq, decide_eq_false_iff_not, Decidable.not_not] at c2
    show xEx G0 cdX11_constant (some .boolean) (xRn G0 MT (d + 5)) Q 1 3 [some (.inr (.inr 0)), some (.inl v), none] [] h
    exact E_thr (x := (.new 80, 0, [(0, 0)], [])) rfl rfl rfl (Nat.le_of_ble_eq_true rfl) (hA (by omega))
set_option maxHeartbeats 1000000 in
theorem m_constant (d b : Nat) (h : xH) (v : Int) (hv : xr v) (hc : 2 ≤ h 66 6 ∧ h 66 6 ≤ 10) (hcr : ∀ i, 0 ≤ i → i < h 66 6 → -99 ≤ h 68 i ∧ h 68 i ≤ 99) {Q : xO → xH → Prop} (hA : ¬ (-99 ≤ v ∧ v ≤ 99) → Q (.inl (some (.inl 0))) (xup h 66 0 1)) (hS : -99 ≤ v ∧ v ≤ 99 → h 66 6 = 10 → (¬ ∃ q, 0 ≤ q ∧ q < h 66 6 ∧ h 68 q = v) → Q (.inl (some (.inl 0))) (xup h 66 0 2)) (hO : -99 ≤ v ∧ v ≤ 99 → (∃ q, 0 ≤ q ∧ q < h 66 6 ∧ h 68 q = v) → ∀ h', FGR (xup h 66 0 0) h' → Q (.inl (some (.inl 0))) h') (hN : -99 ≤ v ∧ v ≤ 99 → h 66 6 < 10 → (¬ ∃ q, 0 ≤ q ∧ q < h 66 6 ∧ h 68 q = v) → ∀ g h', ADM (xup h 66 0 0) g v → FGR g h' → Q (.inl (some (.inl 1))) h') : xRn G0 MT (d + 3) b 168 [.inr (.inr 66), .inl v] h Q := by
  refine R_of (M := mX12_constant) rfl (Nat.le_of_ble_eq_true rfl) ?_
  show xEx G0 cdX12_constant (some .boolean) (xRn G0 MT (d + 2)) Q b 0 [some (.inr (.inr 66)), some (.inl v), none] [] h
  refine E_s 4 (i' := 4) (ls' := [some (.inr (.inr 66)), some (.inl v), none]) (sk' := [.inl 99, .inl (-99), .inl v, .inr (.inr 66)]) (h' := h) rfl ?_
  refine E_cp (x := (.invokestatic 180, 3, [(0, 155)], [])) (q := fun r1 h9 => ((r1 = 1 ∧ ((-99) ≤ v ∧ v ≤ 99)) ∨ (r1 = 0 ∧ ¬ ((-99) ≤ v ∧ v ≤ 99))) ∧ h = h9) rfl rfl (Nat.le_of_ble_eq_true rfl) (m_isIn (d + 1) 0 (h) v (-99) 99 hv ⟨by omega, by omega⟩ ⟨by omega, by omega⟩ (fun z => ⟨_, rfl, Or.inl ⟨rfl, z⟩, rfl⟩) (fun z => ⟨_, rfl, Or.inr ⟨rfl, z⟩, rfl⟩)) (fun r1 h9 q1 => ?_)
  obtain ⟨q1, rfl⟩ := q1
  show xEx G0 cdX12_constant (some .boolean) (xRn G0 MT (d + 2)) Q b 5 [some (.inr (.inr 66)), some (.inl v), none] [.inl r1, .inr (.inr 66)] h
  refine E_b (x := (.ifCond .ne 7, 8, [], [])) rfl rfl (fun c5 => ?_) (fun c5 => ?_)
  · rw [c_ne (by first | assumption | (refine ⟨?_, ?_⟩ <;> omega) | (simp only [xr] at *; omega)) (by first | assumption | (refine ⟨?_, ?_⟩ <;> omega) | (simp only [xr] at *; omega))] at c5
    simp only [decide_eq_true_eq, decide_eq_false_iff_not, Decidable.not_not] at c5
    show xEx G0 cdX12_constant (some .boolean) (xRn G0 MT (d + 2)) Q b 8 [some (.inr (.inr 66)), some (.inl v), none] [.inr (.inr 66)] h
    refine E_s 3 (i' := 11) (ls' := [some (.inr (.inr 66)), some (.inl v), none]) (sk' := [.inl 10, .inl (h 66 6), .inr (.inr 66)]) (h' := h) rfl ?_
    refine E_b (x := (.if_icmp .ne 15, 18, [], [])) rfl rfl (fun c11 => ?_) (fun c11 => ?_)
    · rw [c_ne (by first | assumption | (refine ⟨?_, ?_⟩ <;> omega) | (simp only [xr] at *; omega)) (by first | assumption | (refine ⟨?_, ?_⟩ <;> omega) | (simp only [xr] at *; omega))] at c11
      simp only [decide_eq_true_eq, decide_eq_false_iff_not, Decidable.not_not] at c11
      show xEx G0 cdX12_constant (some .boolean) (xRn G0 MT (d + 2)) Q b 18 [some (.inr (.inr 66)), some (.inl v), none] [.inr (.inr 66)] h
      refine E_s 4 (i' := 22) (ls' := [some (.inr (.inr 66)), some (.inl v), none]) (sk' := [.inl 0]) (h' := (xup h 66 0 0)) rfl ?_
      
      refine E_b (x := (.ifCond .le 5, 25, [], [])) rfl rfl (fun c22 => ?_) (fun c22 => ?_)
      · show xEx G0 cdX12_constant (some .boolean) (xRn G0 MT (d + 2)) Q b 25 [some (.inr (.inr 66)), some (.inl v), none] [] (xup h 66 0 0)
        refine E_s 2 (i' := 27) (ls' := [some (.inr (.inr 66)), some (.inl v), none]) (sk' := [.inl v, .inr (.inr 66)]) (h' := (xup h 66 0 0)) rfl ?_
        refine E_cp (x := (.invokevirtual 200, 1, [(10, 166)], [0])) (q := fun r4 h9 => ((r4 = 1 ∧ (∃ q, 0 ≤ q ∧ q < h 66 6 ∧ h 68 q = v)) ∨ (r4 = 0 ∧ ¬ (∃ q, 0 ≤ q ∧ q < h 66 6 ∧ h 68 q = v))) ∧ (xup h 66 0 0) = h9) rfl rfl (Nat.le_of_ble_eq_true rfl) (m_isConstant (d + 1) 0 (xup h 66 0 0) v (show 0 ≤ h 66 6 ∧ h 66 6 ≤ 10 by omega) hv (show ∀ q : Int, 0 ≤ q → q < h 66 6 → xr (h 68 q) from (fun q z1 z2 => ⟨by have := hcr q z1 z2; omega, by have := hcr q z1 z2; omega⟩)) (fun q z1 z2 z3 => ⟨_, rfl, Or.inl ⟨rfl, q, z1, z2, z3⟩, rfl⟩) (fun z9 => ⟨_, rfl, Or.inr ⟨rfl, fun y9 => by obtain ⟨q, z1, z2, z3⟩ := y9; exact z9 q z1 z2 z3⟩, rfl⟩)) (fun r4 h9 q4 => ?_)
        obtain ⟨q4, rfl⟩ := q4
        show xEx G0 cdX12_constant (some .boolean) (xRn G0 MT (d + 2)) Q b 28 [some (.inr (.inr 66)), some (.inl v), none] [.inl r4] (xup h 66 0 0)
        refine E_b (x := (.ifCond .ne 7, 31, [], [])) rfl rfl (fun c28 => ?_) (fun c28 => ?_)
        · rw [c_ne (by first | assumption | (refine ⟨?_, ?_⟩ <;> omega) | (simp only [xr] at *; omega)) (by first | assumption | (refine ⟨?_, ?_⟩ <;> omega) | (simp only [xr] at *; omega))] at c28
          simp only [decide_eq_true_eq, decide_eq_false_iff_not, Decidable.not_not] at c28
          show xEx G0 cdX12_constant (some .boolean) (xRn G0 MT (d + 2)) Q b 31 [some (.inr (.inr 66)), some (.inl v), none] [] (xup h 66 0 0)
          refine E_s 2 (i' := 33) (ls' := [some (.inr (.inr 66)), some (.inl v), some (.inl 0)]) (sk' := []) (h' := (xup h 66 0 0)) rfl ?_
          
          refine E_s 1 (i' := 34) (ls' := [some (.inr (.inr 66)), some (.inl v), some (.inl 0)]) (sk' := [.inl 0]) (h' := (xup h 66 0 0)) rfl ?_
          refine E_b (x := (.ifCond .eq 8, 38, [], [])) rfl rfl (fun c34 => ?_) (fun c34 => ?_)
          · show xEx G0 cdX12_constant (some .boolean) (xRn G0 MT (d + 2)) Q b 38 [some (.inr (.inr 66)), some (.inl v), some (.inl 0)] [] (xup h 66 0 0)
            refine E_s 1 (i' := 39) (ls' := [some (.inr (.inr 66)), some (.inl v), some (.inl 0)]) (sk' := [.inr (.inr 66)]) (h' := (xup h 66 0 0)) rfl ?_
            refine E_cv (x := (.invokevirtual 184, 0, [(10, 157)], [0])) (q := fun h9 => FGR (xup h 66 0 0) h9) rfl rfl (Nat.le_of_ble_eq_true rfl) (m_goes (d + 1) 0 (xup h 66 0 0) (fun h9 z => ⟨rfl, z⟩)) (fun hF2 hf => ?_)
            show xEx G0 cdX12_constant (some .boolean) (xRn G0 MT (d + 2)) Q b 40 [some (.inr (.inr 66)), some (.inl v), some (.inl 0)] [] hF2
            refine E_s 1 (i' := 41) (ls' := [some (.inr (.inr 66)), some (.inl v), some (.inl 0)]) (sk' := [.inl 0]) (h' := hF2) rfl ?_
            exact E_ret (x := (.ireturn, 0, [], [])) (v := some (.inl 0)) rfl (Or.inr ⟨rfl, by omega⟩) (hO (by first | (clear q2 q4; omega) | (clear q4; omega) | (clear q2; omega)) (o1 q4 c28) _ hf)
          · show xEx G0 cdX12_constant (some .boolean) (xRn G0 MT (d + 2)) Q b 35 [some (.inr (.inr 66)), some (.inl v), some (.inl 0)] [] (xup h 66 0 0)
            exact absurd c34 (by decide)
        · rw [c_ne (by first | assumption | (refine ⟨?_, ?_⟩ <;> omega) | (simp only [xr] at *; omega)) (by first | assumption | (refine ⟨?_, ?_⟩ <;> omega) | (simp only [xr] at *; omega))] at c28
          simp only [decide_eq_true_eq, decide_eq_false_iff_not, Decidable.not_not] at c28
          show xEx G0 cdX12_constant (some .boolean) (xRn G0 MT (d + 2)) Q b 29 [some (.inr (.inr 66)), some (.inl v), none] [] (xup h 66 0 0)
          refine E_s 3 (i' := 33) (ls' := [some (.inr (.inr 66)), some (.inl v), some (.inl 1)]) (sk' := []) (h' := (xup h 66 0 0)) rfl ?_
          have h10 : h 66 6 < 10 := by
            rcases Int.lt_or_eq_of_le hc.2 with e | e
            · exact e
            · first | exact absurd e c11 | exact absurd (o1 q2 c15) (o0 q4 c28)
          refine E_s 1 (i' := 34) (ls' := [some (.inr (.inr 66)), some (.inl v), some (.inl 1)]) (sk' := [.inl 1]) (h' := (xup h 66 0 0)) rfl ?_
          refine E_b (x := (.ifCond .eq 8, 38, [], [])) rfl rfl (fun c34 => ?_) (fun c34 => ?_)
          · show xEx G0 cdX12_constant (some .boolean) (xRn G0 MT (d + 2)) Q b 38 [some (.inr (.inr 66)), some (.inl v), some (.inl 1)] [] (xup h 66 0 0)
            exact absurd c34 (by decide)
          · show xEx G0 cdX12_constant (some .boolean) (xRn G0 MT (d + 2)) Q b 35 [some (.inr (.inr 66)), some (.inl v), some (.inl 1)] [] (xup h 66 0 0)
            refine E_s 2 (i' := 37) (ls' := [some (.inr (.inr 66)), some (.inl v), some (.inl 1)]) (sk' := [.inl v, .inr (.inr 66)]) (h' := (xup h 66 0 0)) rfl ?_
            refine E_cv (x := (.invokevirtual 203, 1, [(10, 167)], [0])) (q := fun h9 => ADM (xup h 66 0 0) h9 v) rfl rfl (Nat.le_of_ble_eq_true rfl) (m_comesConstant (d + 1) 0 (xup h 66 0 0) v (show 0 ≤ h 66 6 ∧ h 66 6 < 10 by omega) hv (show ∀ q : Int, 0 ≤ q → q < h 66 6 → xr (h 68 q) from (fun q z1 z2 => ⟨by have := hcr q z1 z2; omega, by have := hcr q z1 z2; omega⟩)) (fun h9 z => ⟨rfl, z⟩)) (fun g1 hg => ?_)
            show xEx G0 cdX12_constant (some .boolean) (xRn G0 MT (d + 2)) Q b 38 [some (.inr (.inr 66)), some (.inl v), some (.inl 1)] [] g1
            refine E_s 1 (i' := 39) (ls' := [some (.inr (.inr 66)), some (.inl v), some (.inl 1)]) (sk' := [.inr (.inr 66)]) (h' := g1) rfl ?_
            refine E_cv (x := (.invokevirtual 184, 0, [(10, 157)], [0])) (q := fun h9 => FGR (g1) h9) rfl rfl (Nat.le_of_ble_eq_true rfl) (m_goes (d + 1) 0 (g1) (fun h9 z => ⟨rfl, z⟩)) (fun hF2 hf => ?_)
            show xEx G0 cdX12_constant (some .boolean) (xRn G0 MT (d + 2)) Q b 40 [some (.inr (.inr 66)), some (.inl v), some (.inl 1)] [] hF2
            refine E_s 1 (i' := 41) (ls' := [some (.inr (.inr 66)), some (.inl v), some (.inl 1)]) (sk' := [.inl 1]) (h' := hF2) rfl ?_
            exact E_ret (x := (.ireturn, 0, [], [])) (v := some (.inl 1)) rfl (Or.inr ⟨rfl, by omega⟩) (hN (by omega) h10 (o0 q4 c28) _ _ hg hf)
      · show xEx G0 cdX12_constant (some .boolean) (xRn G0 MT (d + 2)) Q b 23 [some (.inr (.inr 66)), some (.inl v), none] [] (xup h 66 0 0)
        exact absurd c22 (by decide)
    · rw [c_ne (by first | assumption | (refine ⟨?_, ?_⟩ <;> omega) | (simp only [xr] at *; omega)) (by first | assumption | (refine ⟨?_, ?_⟩ <;> omega) | (simp only [xr] at *; omega))] at c11
      simp only [decide_eq_true_eq, decide_eq_false_iff_not, Decidable.not_not] at c11
      show xEx G0 cdX12_constant (some .boolean) (xRn G0 MT (d + 2)) Q b 12 [some (.inr (.inr 66)), some (.inl v), none] [.inr (.inr 66)] h
      refine E_s 2 (i' := 14) (ls' := [some (.inr (.inr 66)), some (.inl v), none]) (sk' := [.inl v, .inr (.inr 66), .inr (.inr 66)]) (h' := h) rfl ?_
      refine E_cp (x := (.invokevirtual 200, 1, [(10, 166)], [0])) (q := fun r2 h9 => ((r2 = 1 ∧ (∃ q, 0 ≤ q ∧ q < h 66 6 ∧ h 68 q = v)) ∨ (r2 = 0 ∧ ¬ (∃ q, 0 ≤ q ∧ q < h 66 6 ∧ h 68 q = v))) ∧ h = h9) rfl rfl (Nat.le_of_ble_eq_true rfl) (m_isConstant (d + 1) 0 h v (by omega) hv (fun q z1 z2 => ⟨by have := hcr q z1 z2; omega, by have := hcr q z1 z2; omega⟩) (fun q z1 z2 z3 => ⟨_, rfl, Or.inl ⟨rfl, q, z1, z2, z3⟩, rfl⟩) (fun z9 => ⟨_, rfl, Or.inr ⟨rfl, fun y9 => by obtain ⟨q, z1, z2, z3⟩ := y9; exact z9 q z1 z2 z3⟩, rfl⟩)) (fun r2 h9 q2 => ?_)
      obtain ⟨q2, rfl⟩ := q2
      show xEx G0 cdX12_constant (some .boolean) (xRn G0 MT (d + 2)) Q b 15 [some (.inr (.inr 66)), some (.inl v), none] [.inl r2, .inr (.inr 66)] h
      refine E_b (x := (.ifCond .ne 7, 18, [], [])) rfl rfl (fun c15 => ?_) (fun c15 => ?_)
      · rw [c_ne (by first | assumption | (refine ⟨?_, ?_⟩ <;> omega) | (simp only [xr] at *; omega)) (by first | assumption | (refine ⟨?_, ?_⟩ <;> omega) | (simp only [xr] at *; omega))] at c15
        simp only [decide_eq_true_eq, decide_eq_false_iff_not, Decidable.not_not] at c15
        show xEx G0 cdX12_constant (some .boolean) (xRn G0 MT (d + 2)) Q b 18 [some (.inr (.inr 66)), some (.inl v), none] [.inr (.inr 66)] h
        refine E_s 4 (i' := 22) (ls' := [some (.inr (.inr 66)), some (.inl v), none]) (sk' := [.inl 0]) (h' := (xup h 66 0 0)) rfl ?_
        
        refine E_b (x := (.ifCond .le 5, 25, [], [])) rfl rfl (fun c22 => ?_) (fun c22 => ?_)
        · show xEx G0 cdX12_constant (some .boolean) (xRn G0 MT (d + 2)) Q b 25 [some (.inr (.inr 66)), some (.inl v), none] [] (xup h 66 0 0)
          refine E_s 2 (i' := 27) (ls' := [some (.inr (.inr 66)), some (.inl v), none]) (sk' := [.inl v, .inr (.inr 66)]) (h' := (xup h 66 0 0)) rfl ?_
          refine E_cp (x := (.invokevirtual 200, 1, [(10, 166)], [0])) (q := fun r4 h9 => ((r4 = 1 ∧ (∃ q, 0 ≤ q ∧ q < h 66 6 ∧ h 68 q = v)) ∨ (r4 = 0 ∧ ¬ (∃ q, 0 ≤ q ∧ q < h 66 6 ∧ h 68 q = v))) ∧ (xup h 66 0 0) = h9) rfl rfl (Nat.le_of_ble_eq_true rfl) (m_isConstant (d + 1) 0 (xup h 66 0 0) v (show 0 ≤ h 66 6 ∧ h 66 6 ≤ 10 by omega) hv (show ∀ q : Int, 0 ≤ q → q < h 66 6 → xr (h 68 q) from (fun q z1 z2 => ⟨by have := hcr q z1 z2; omega, by have := hcr q z1 z2; omega⟩)) (fun q z1 z2 z3 => ⟨_, rfl, Or.inl ⟨rfl, q, z1, z2, z3⟩, rfl⟩) (fun z9 => ⟨_, rfl, Or.inr ⟨rfl, fun y9 => by obtain ⟨q, z1, z2, z3⟩ := y9; exact z9 q z1 z2 z3⟩, rfl⟩)) (fun r4 h9 q4 => ?_)
          obtain ⟨q4, rfl⟩ := q4
          show xEx G0 cdX12_constant (some .boolean) (xRn G0 MT (d + 2)) Q b 28 [some (.inr (.inr 66)), some (.inl v), none] [.inl r4] (xup h 66 0 0)
          refine E_b (x := (.ifCond .ne 7, 31, [], [])) rfl rfl (fun c28 => ?_) (fun c28 => ?_)
          · rw [c_ne (by first | assumption | (refine ⟨?_, ?_⟩ <;> omega) | (simp only [xr] at *; omega)) (by first | assumption | (refine ⟨?_, ?_⟩ <;> omega) | (simp only [xr] at *; omega))] at c28
            simp only [decide_eq_true_eq, decide_eq_false_iff_not, Decidable.not_not] at c28
            show xEx G0 cdX12_constant (some .boolean) (xRn G0 MT (d + 2)) Q b 31 [some (.inr (.inr 66)), some (.inl v), none] [] (xup h 66 0 0)
            refine E_s 2 (i' := 33) (ls' := [some (.inr (.inr 66)), some (.inl v), some (.inl 0)]) (sk' := []) (h' := (xup h 66 0 0)) rfl ?_
            
            refine E_s 1 (i' := 34) (ls' := [some (.inr (.inr 66)), some (.inl v), some (.inl 0)]) (sk' := [.inl 0]) (h' := (xup h 66 0 0)) rfl ?_
            refine E_b (x := (.ifCond .eq 8, 38, [], [])) rfl rfl (fun c34 => ?_) (fun c34 => ?_)
            · show xEx G0 cdX12_constant (some .boolean) (xRn G0 MT (d + 2)) Q b 38 [some (.inr (.inr 66)), some (.inl v), some (.inl 0)] [] (xup h 66 0 0)
              refine E_s 1 (i' := 39) (ls' := [some (.inr (.inr 66)), some (.inl v), some (.inl 0)]) (sk' := [.inr (.inr 66)]) (h' := (xup h 66 0 0)) rfl ?_
              refine E_cv (x := (.invokevirtual 184, 0, [(10, 157)], [0])) (q := fun h9 => FGR (xup h 66 0 0) h9) rfl rfl (Nat.le_of_ble_eq_true rfl) (m_goes (d + 1) 0 (xup h 66 0 0) (fun h9 z => ⟨rfl, z⟩)) (fun hF2 hf => ?_)
              show xEx G0 cdX12_constant (some .boolean) (xRn G0 MT (d + 2)) Q b 40 [some (.inr (.inr 66)), some (.inl v), some (.inl 0)] [] hF2
              refine E_s 1 (i' := 41) (ls' := [some (.inr (.inr 66)), some (.inl v), some (.inl 0)]) (sk' := [.inl 0]) (h' := hF2) rfl ?_
              exact E_ret (x := (.ireturn, 0, [], [])) (v := some (.inl 0)) rfl (Or.inr ⟨rfl, by omega⟩) (hO (by first | (clear q2 q4; omega) | (clear q4; omega) | (clear q2; omega)) (o1 q4 c28) _ hf)
            · show xEx G0 cdX12_constant (some .boolean) (xRn G0 MT (d + 2)) Q b 35 [some (.inr (.inr 66)), some (.inl v), some (.inl 0)] [] (xup h 66 0 0)
              exact absurd c34 (by decide)
          · rw [c_ne (by first | assumption | (refine ⟨?_, ?_⟩ <;> omega) | (simp only [xr] at *; omega)) (by first | assumption | (refine ⟨?_, ?_⟩ <;> omega) | (simp only [xr] at *; omega))] at c28
            simp only [decide_eq_true_eq, decide_eq_false_iff_not, Decidable.not_not] at c28
            show xEx G0 cdX12_constant (some .boolean) (xRn G0 MT (d + 2)) Q b 29 [some (.inr (.inr 66)), some (.inl v), none] [] (xup h 66 0 0)
            refine E_s 3 (i' := 33) (ls' := [some (.inr (.inr 66)), some (.inl v), some (.inl 1)]) (sk' := []) (h' := (xup h 66 0 0)) rfl ?_
            have h10 : h 66 6 < 10 := by
              rcases Int.lt_or_eq_of_le hc.2 with e | e
              · exact e
              · first | exact absurd e c11 | exact absurd (o1 q2 c15) (o0 q4 c28)
            refine E_s 1 (i' := 34) (ls' := [some (.inr (.inr 66)), some (.inl v), some (.inl 1)]) (sk' := [.inl 1]) (h' := (xup h 66 0 0)) rfl ?_
            refine E_b (x := (.ifCond .eq 8, 38, [], [])) rfl rfl (fun c34 => ?_) (fun c34 => ?_)
            · show xEx G0 cdX12_constant (some .boolean) (xRn G0 MT (d + 2)) Q b 38 [some (.inr (.inr 66)), some (.inl v), some (.inl 1)] [] (xup h 66 0 0)
              exact absurd c34 (by decide)
            · show xEx G0 cdX12_constant (some .boolean) (xRn G0 MT (d + 2)) Q b 35 [some (.inr (.inr 66)), some (.inl v), some (.inl 1)] [] (xup h 66 0 0)
              refine E_s 2 (i' := 37) (ls' := [some (.inr (.inr 66)), some (.inl v), some (.inl 1)]) (sk' := [.inl v, .inr (.inr 66)]) (h' := (xup h 66 0 0)) rfl ?_
              refine E_cv (x := (.invokevirtual 203, 1, [(10, 167)], [0])) (q := fun h9 => ADM (xup h 66 0 0) h9 v) rfl rfl (Nat.le_of_ble_eq_true rfl) (m_comesConstant (d + 1) 0 (xup h 66 0 0) v (show 0 ≤ h 66 6 ∧ h 66 6 < 10 by omega) hv (show ∀ q : Int, 0 ≤ q → q < h 66 6 → xr (h 68 q) from (fun q z1 z2 => ⟨by have := hcr q z1 z2; omega, by have := hcr q z1 z2; omega⟩)) (fun h9 z => ⟨rfl, z⟩)) (fun g1 hg => ?_)
              show xEx G0 cdX12_constant (some .boolean) (xRn G0 MT (d + 2)) Q b 38 [some (.inr (.inr 66)), some (.inl v), some (.inl 1)] [] g1
              refine E_s 1 (i' := 39) (ls' := [some (.inr (.inr 66)), some (.inl v), some (.inl 1)]) (sk' := [.inr (.inr 66)]) (h' := g1) rfl ?_
              refine E_cv (x := (.invokevirtual 184, 0, [(10, 157)], [0])) (q := fun h9 => FGR (g1) h9) rfl rfl (Nat.le_of_ble_eq_true rfl) (m_goes (d + 1) 0 (g1) (fun h9 z => ⟨rfl, z⟩)) (fun hF2 hf => ?_)
              show xEx G0 cdX12_constant (some .boolean) (xRn G0 MT (d + 2)) Q b 40 [some (.inr (.inr 66)), some (.inl v), some (.inl 1)] [] hF2
              refine E_s 1 (i' := 41) (ls' := [some (.inr (.inr 66)), some (.inl v), some (.inl 1)]) (sk' := [.inl 1]) (h' := hF2) rfl ?_
              exact E_ret (x := (.ireturn, 0, [], [])) (v := some (.inl 1)) rfl (Or.inr ⟨rfl, by omega⟩) (hN (by omega) h10 (o0 q4 c28) _ _ hg hf)
        · show xEx G0 cdX12_constant (some .boolean) (xRn G0 MT (d + 2)) Q b 23 [some (.inr (.inr 66)), some (.inl v), none] [] (xup h 66 0 0)
          exact absurd c22 (by decide)
      · rw [c_ne (by first | assumption | (refine ⟨?_, ?_⟩ <;> omega) | (simp only [xr] at *; omega)) (by first | assumption | (refine ⟨?_, ?_⟩ <;> omega) | (simp only [xr] at *; omega))] at c15
        simp only [decide_eq_true_eq, decide_eq_false_iff_not, Decidable.not_not] at c15
        show xEx G0 cdX12_constant (some .boolean) (xRn G0 MT (d + 2)) Q b 16 [some (.inr (.inr 66)), some (.inl v), none] [.inr (.inr 66)] h
        refine E_s 5 (i' := 22) (ls' := [some (.inr (.inr 66)), some (.inl v), none]) (sk' := [.inl 2]) (h' := (xup h 66 0 2)) rfl ?_
        
        refine E_b (x := (.ifCond .le 5, 25, [], [])) rfl rfl (fun c22 => ?_) (fun c22 => ?_)
        · show xEx G0 cdX12_constant (some .boolean) (xRn G0 MT (d + 2)) Q b 25 [some (.inr (.inr 66)), some (.inl v), none] [] (xup h 66 0 2)
          exact absurd c22 (by decide)
        · show xEx G0 cdX12_constant (some .boolean) (xRn G0 MT (d + 2)) Q b 23 [some (.inr (.inr 66)), some (.inl v), none] [] (xup h 66 0 2)
          refine E_s 1 (i' := 24) (ls' := [some (.inr (.inr 66)), some (.inl v), none]) (sk' := [.inl 0]) (h' := (xup h 66 0 2)) rfl ?_
          exact E_ret (x := (.ireturn, 0, [], [])) (v := some (.inl 0)) rfl (Or.inr ⟨rfl, by omega⟩) (hS (by omega) (by omega) (o0 q2 c15))
  · rw [c_ne (by first | assumption | (refine ⟨?_, ?_⟩ <;> omega) | (simp only [xr] at *; omega)) (by first | assumption | (refine ⟨?_, ?_⟩ <;> omega) | (simp only [xr] at *; omega))] at c5
    simp only [decide_eq_true_eq, decide_eq_false_iff_not, Decidable.not_not] at c5
    show xEx G0 cdX12_constant (some .boolean) (xRn G0 MT (d + 2)) Q b 6 [some (.inr (.inr 66)), some (.inl v), none] [.inr (.inr 66)] h
    refine E_s 5 (i' := 22) (ls' := [some (.inr (.inr 66)), some (.inl v), none]) (sk' := [.inl 1]) (h' := (xup h 66 0 1)) rfl ?_
    
    refine E_b (x := (.ifCond .le 5, 25, [], [])) rfl rfl (fun c22 => ?_) (fun c22 => ?_)
    · show xEx G0 cdX12_constant (some .boolean) (xRn G0 MT (d + 2)) Q b 25 [some (.inr (.inr 66)), some (.inl v), none] [] (xup h 66 0 1)
      exact absurd c22 (by decide)
    · show xEx G0 cdX12_constant (some .boolean) (xRn G0 MT (d + 2)) Q b 23 [some (.inr (.inr 66)), some (.inl v), none] [] (xup h 66 0 1)
      refine E_s 1 (i' := 24) (ls' := [some (.inr (.inr 66)), some (.inl v), none]) (sk' := [.inl 0]) (h' := (xup h 66 0 1)) rfl ?_
      exact E_ret (x := (.ireturn, 0, [], [])) (v := some (.inl 0)) rfl (Or.inr ⟨rfl, by omega⟩) (hA (by omega))
def OFC (h h9 : xH) (s : xCs) : Prop := (∀ a, a ≠ 7 → a ≠ 8 → h9 a = h a) ∧ (∀ j, j ≠ 1 → h9 7 j = h 7 j) ∧ ((h9 7 1, h9 8) : xCs) = s
def OFM (h h9 : xH) (s : xCs) : Prop := (∀ a, a ≠ 66 → a ≠ 68 → h9 a = h a) ∧ (∀ j, j ≠ 6 → h9 66 j = h 66 j) ∧ ((h9 66 6, h9 68) : xCs) = s
set_option maxHeartbeats 1000000 in
theorem c_offerConstant (d b : Nat) (h : xH) (v : Int) (hv : xr v) (hc : 2 ≤ h 7 1 ∧ h 7 1 ≤ 10) (hcr : ∀ i, 0 ≤ i → i < h 7 1 → -99 ≤ h 8 i ∧ h 8 i ≤ 99) {Q : xO → xH → Prop} (hQ : ∀ h', OFC h h' (tryC v (h 7 1, h 8)) → Q (.inl none) h') : xRn G0 MT (d + 2) b 77 [.inr (.inr 7), .inl v] h Q := by
  refine R_of (M := mX8_offerConstant) rfl (Nat.le_of_ble_eq_true rfl) ?_
  show xEx G0 cdX8_offerConstant none (xRn G0 MT (d + 1)) Q b 0 [some (.inr (.inr 7)), some (.inl v)] [] h
  refine E_s 1 (i' := 1) (ls' := [some (.inr (.inr 7)), some (.inl v)]) (sk' := [.inl v]) (h' := h) rfl ?_
  refine E_cp (x := (.invokestatic 20, 1, [(0, 72)], [])) (q := fun r1 h9 => ((r1 = 1 ∧ (v < -99 ∨ 99 < v)) ∨ (r1 = 0 ∧ ¬ (v < -99 ∨ 99 < v))) ∧ h = h9) rfl rfl (Nat.le_of_ble_eq_true rfl) (c_isNoConstant d 0 h v hv (fun z => ⟨_, rfl, Or.inl ⟨rfl, z⟩, rfl⟩) (fun z => ⟨_, rfl, Or.inr ⟨rfl, z⟩, rfl⟩)) (fun r1 h9 q1 => ?_)
  obtain ⟨q1, rfl⟩ := q1
  show xEx G0 cdX8_offerConstant none (xRn G0 MT (d + 1)) Q b 2 [some (.inr (.inr 7)), some (.inl v)] [.inl r1] h
  refine E_b (x := (.ifCond .ne 23, 13, [], [])) rfl rfl (fun c2 => ?_) (fun c2 => ?_)
  · rw [c_ne (by first | assumption | (refine ⟨?_, ?_⟩ <;> omega) | (simp only [xr] at *; omega)) (by first | assumption | (refine ⟨?_, ?_⟩ <;> omega) | (simp only [xr] at *; omega))] at c2
    simp only [decide_eq_true_eq, decide_eq_false_iff_not, Decidable.not_not] at c2
    show xEx G0 cdX8_offerConstant none (xRn G0 MT (d + 1)) Q b 13 [some (.inr (.inr 7)), some (.inl v)] [] h
    exact E_ret (x := (.return_, 0, [], [])) (v := none) rfl (trivial) (hQ _ ⟨fun _ _ _ => rfl, fun _ _ => rfl, by
      rw [tryC_n]
      rintro ⟨y1, y2, y3⟩
      have y2 : h 7 1 < 10 := y2
      first | omega | (obtain ⟨q, z1, z2, z3⟩ := o1 q2 c6; exact y3 q z1 z2 z3)⟩)
  · rw [c_ne (by first | assumption | (refine ⟨?_, ?_⟩ <;> omega) | (simp only [xr] at *; omega)) (by first | assumption | (refine ⟨?_, ?_⟩ <;> omega) | (simp only [xr] at *; omega))] at c2
    simp only [decide_eq_true_eq, decide_eq_false_iff_not, Decidable.not_not] at c2
    show xEx G0 cdX8_offerConstant none (xRn G0 MT (d + 1)) Q b 3 [some (.inr (.inr 7)), some (.inl v)] [] h
    refine E_s 2 (i' := 5) (ls' := [some (.inr (.inr 7)), some (.inl v)]) (sk' := [.inl v, .inr (.inr 7)]) (h' := h) rfl ?_
    refine E_cp (x := (.invokevirtual 24, 1, [(6, 75)], [0])) (q := fun r2 h9 => ((r2 = 1 ∧ (∃ q, 0 ≤ q ∧ q < h 7 1 ∧ h 8 q = v)) ∨ (r2 = 0 ∧ ¬ (∃ q, 0 ≤ q ∧ q < h 7 1 ∧ h 8 q = v))) ∧ h = h9) rfl rfl (Nat.le_of_ble_eq_true rfl) (c_hasConstant d 0 h v (by omega) hv (fun q z1 z2 => ⟨by have := hcr q z1 z2; omega, by have := hcr q z1 z2; omega⟩) (fun q z1 z2 z3 => ⟨_, rfl, Or.inl ⟨rfl, q, z1, z2, z3⟩, rfl⟩) (fun z9 => ⟨_, rfl, Or.inr ⟨rfl, fun y9 => by obtain ⟨q, z1, z2, z3⟩ := y9; exact z9 q z1 z2 z3⟩, rfl⟩)) (fun r2 h9 q2 => ?_)
    obtain ⟨q2, rfl⟩ := q2
    show xEx G0 cdX8_offerConstant none (xRn G0 MT (d + 1)) Q b 6 [some (.inr (.inr 7)), some (.inl v)] [.inl r2] h
    refine E_b (x := (.ifCond .ne 15, 13, [], [])) rfl rfl (fun c6 => ?_) (fun c6 => ?_)
    · rw [c_ne (by first | assumption | (refine ⟨?_, ?_⟩ <;> omega) | (simp only [xr] at *; omega)) (by first | assumption | (refine ⟨?_, ?_⟩ <;> omega) | (simp only [xr] at *; omega))] at c6
      simp only [decide_eq_true_eq, decide_eq_false_iff_not, Decidable.not_not] at c6
      show xEx G0 cdX8_offerConstant none (xRn G0 MT (d + 1)) Q b 13 [some (.inr (.inr 7)), some (.inl v)] [] h
      exact E_ret (x := (.return_, 0, [], [])) (v := none) rfl (trivial) (hQ _ ⟨fun _ _ _ => rfl, fun _ _ => rfl, by
        rw [tryC_n]
        rintro ⟨y1, y2, y3⟩
        have y2 : h 7 1 < 10 := y2
        first | omega | (obtain ⟨q, z1, z2, z3⟩ := o1 q2 c6; exact y3 q z1 z2 z3)⟩)
    · rw [c_ne (by first | assumption | (refine ⟨?_, ?_⟩ <;> omega) | (simp only [xr] at *; omega)) (by first | assumption | (refine ⟨?_, ?_⟩ <;> omega) | (simp only [xr] at *; omega))] at c6
      simp only [decide_eq_true_eq, decide_eq_false_iff_not, Decidable.not_not] at c6
      show xEx G0 cdX8_offerConstant none (xRn G0 MT (d + 1)) Q b 7 [some (.inr (.inr 7)), some (.inl v)] [] h
      refine E_s 1 (i' := 8) (ls' := [some (.inr (.inr 7)), some (.inl v)]) (sk' := [.inr (.inr 7)]) (h' := h) rfl ?_
      refine E_cp (x := (.invokevirtual 27, 0, [(6, 74)], [0])) (q := fun r3 h9 => ((r3 = 1 ∧ h 7 1 = 10) ∨ (r3 = 0 ∧ ¬ h 7 1 = 10)) ∧ h = h9) rfl rfl (Nat.le_of_ble_eq_true rfl) (c_isFull d 0 h (by omega) (fun z => ⟨_, rfl, Or.inl ⟨rfl, z⟩, rfl⟩) (fun z => ⟨_, rfl, Or.inr ⟨rfl, by omega⟩, rfl⟩)) (fun r3 h9 q3 => ?_)
      obtain ⟨q3, rfl⟩ := q3
      show xEx G0 cdX8_offerConstant none (xRn G0 MT (d + 1)) Q b 9 [some (.inr (.inr 7)), some (.inl v)] [.inl r3] h
      refine E_b (x := (.ifCond .ne 8, 13, [], [])) rfl rfl (fun c9 => ?_) (fun c9 => ?_)
      · rw [c_ne (by first | assumption | (refine ⟨?_, ?_⟩ <;> omega) | (simp only [xr] at *; omega)) (by first | assumption | (refine ⟨?_, ?_⟩ <;> omega) | (simp only [xr] at *; omega))] at c9
        simp only [decide_eq_true_eq, decide_eq_false_iff_not, Decidable.not_not] at c9
        show xEx G0 cdX8_offerConstant none (xRn G0 MT (d + 1)) Q b 13 [some (.inr (.inr 7)), some (.inl v)] [] h
        exact E_ret (x := (.return_, 0, [], [])) (v := none) rfl (trivial) (hQ _ ⟨fun _ _ _ => rfl, fun _ _ => rfl, by
          rw [tryC_n]
          rintro ⟨y1, y2, y3⟩
          have y2 : h 7 1 < 10 := y2
          first | omega | (obtain ⟨q, z1, z2, z3⟩ := o1 q2 c6; exact y3 q z1 z2 z3)⟩)
      · rw [c_ne (by first | assumption | (refine ⟨?_, ?_⟩ <;> omega) | (simp only [xr] at *; omega)) (by first | assumption | (refine ⟨?_, ?_⟩ <;> omega) | (simp only [xr] at *; omega))] at c9
        simp only [decide_eq_true_eq, decide_eq_false_iff_not, Decidable.not_not] at c9
        show xEx G0 cdX8_offerConstant none (xRn G0 MT (d + 1)) Q b 10 [some (.inr (.inr 7)), some (.inl v)] [] h
        refine E_s 2 (i' := 12) (ls' := [some (.inr (.inr 7)), some (.inl v)]) (sk' := [.inl v, .inr (.inr 7)]) (h' := h) rfl ?_
        refine E_cv (x := (.invokevirtual 31, 1, [(6, 76)], [0])) (q := fun h9 => ADC h h9 v) rfl rfl (Nat.le_of_ble_eq_true rfl) (c_addConstant d 0 h v (by omega) hv (fun q z1 z2 => ⟨by have := hcr q z1 z2; omega, by have := hcr q z1 z2; omega⟩) (fun h9 z => ⟨rfl, z⟩)) (fun g1 hg => ?_)
        show xEx G0 cdX8_offerConstant none (xRn G0 MT (d + 1)) Q b 13 [some (.inr (.inr 7)), some (.inl v)] [] g1
        exact E_ret (x := (.return_, 0, [], [])) (v := none) rfl (trivial) (hQ _ ⟨hg.1, hg.2.1, by rw [tryC_p ⟨by omega, by show h 7 1 < 10; omega, fun q z1 z2 z3 => o0 q2 c6 ⟨q, z1, z2, z3⟩⟩, hg.2.2.1, hg.2.2.2]⟩)
set_option maxHeartbeats 1000000 in
theorem m_triesConstant (d b : Nat) (h : xH) (v : Int) (hv : xr v) (hc : 2 ≤ h 66 6 ∧ h 66 6 ≤ 10) (hcr : ∀ i, 0 ≤ i → i < h 66 6 → -99 ≤ h 68 i ∧ h 68 i ≤ 99) {Q : xO → xH → Prop} (hQ : ∀ r h', OFM h h' (tryC v (h 66 6, h 68)) → r = h' 66 6 - h 66 6 → Q (.inl (some (.inl r))) h') : xRn G0 MT (d + 2) b 169 [.inr (.inr 66), .inl v] h Q := by
  refine R_of (M := mX12_triesConstant) rfl (Nat.le_of_ble_eq_true rfl) ?_
  show xEx G0 cdX12_triesConstant (some .int) (xRn G0 MT (d + 1)) Q b 0 [some (.inr (.inr 66)), some (.inl v)] [] h
  refine E_s 3 (i' := 3) (ls' := [some (.inr (.inr 66)), some (.inl v)]) (sk' := [.inl 99, .inl (-99), .inl v]) (h' := h) rfl ?_
  refine E_cp (x := (.invokestatic 180, 3, [(0, 155)], [])) (q := fun r1 h9 => ((r1 = 1 ∧ ((-99) ≤ v ∧ v ≤ 99)) ∨ (r1 = 0 ∧ ¬ ((-99) ≤ v ∧ v ≤ 99))) ∧ h = h9) rfl rfl (Nat.le_of_ble_eq_true rfl) (m_isIn d 0 (h) v (-99) 99 hv ⟨by omega, by omega⟩ ⟨by omega, by omega⟩ (fun z => ⟨_, rfl, Or.inl ⟨rfl, z⟩, rfl⟩) (fun z => ⟨_, rfl, Or.inr ⟨rfl, z⟩, rfl⟩)) (fun r1 h9 q1 => ?_)
  obtain ⟨q1, rfl⟩ := q1
  show xEx G0 cdX12_triesConstant (some .int) (xRn G0 MT (d + 1)) Q b 4 [some (.inr (.inr 66)), some (.inl v)] [.inl r1] h
  refine E_b (x := (.ifCond .eq 20, 13, [], [])) rfl rfl (fun c4 => ?_) (fun c4 => ?_)
  · rw [c_eq (by first | assumption | (refine ⟨?_, ?_⟩ <;> omega) | (simp only [xr] at *; omega)) (by first | assumption | (refine ⟨?_, ?_⟩ <;> omega) | (simp only [xr] at *; omega))] at c4
    simp only [decide_eq_true_eq, decide_eq_false_iff_not, Decidable.not_not] at c4
    show xEx G0 cdX12_triesConstant (some .int) (xRn G0 MT (d + 1)) Q b 13 [some (.inr (.inr 66)), some (.inl v)] [] h
    refine E_s 1 (i' := 14) (ls' := [some (.inr (.inr 66)), some (.inl v)]) (sk' := [.inl 0]) (h' := h) rfl ?_
    exact E_ret (x := (.ireturn, 0, [], [])) (v := some (.inl 0)) rfl (Or.inl rfl) (hQ _ _ ⟨fun _ _ _ => rfl, fun _ _ => rfl, by
      rw [tryC_n]
      rintro ⟨y1, y2, y3⟩
      have y2 : h 66 6 < 10 := y2
      first | omega | (obtain ⟨q, z1, z2, z3⟩ := o1 q2 c12; exact y3 q z1 z2 z3)⟩ (by omega))
  · rw [c_eq (by first | assumption | (refine ⟨?_, ?_⟩ <;> omega) | (simp only [xr] at *; omega)) (by first | assumption | (refine ⟨?_, ?_⟩ <;> omega) | (simp only [xr] at *; omega))] at c4
    simp only [decide_eq_true_eq, decide_eq_false_iff_not, Decidable.not_not] at c4
    show xEx G0 cdX12_triesConstant (some .int) (xRn G0 MT (d + 1)) Q b 5 [some (.inr (.inr 66)), some (.inl v)] [] h
    refine E_s 3 (i' := 8) (ls' := [some (.inr (.inr 66)), some (.inl v)]) (sk' := [.inl 10, .inl (h 66 6)]) (h' := h) rfl ?_
    refine E_b (x := (.if_icmp .eq 11, 13, [], [])) rfl rfl (fun c8 => ?_) (fun c8 => ?_)
    · rw [c_eq (by first | assumption | (refine ⟨?_, ?_⟩ <;> omega) | (simp only [xr] at *; omega)) (by first | assumption | (refine ⟨?_, ?_⟩ <;> omega) | (simp only [xr] at *; omega))] at c8
      simp only [decide_eq_true_eq, decide_eq_false_iff_not, Decidable.not_not] at c8
      show xEx G0 cdX12_triesConstant (some .int) (xRn G0 MT (d + 1)) Q b 13 [some (.inr (.inr 66)), some (.inl v)] [] h
      refine E_s 1 (i' := 14) (ls' := [some (.inr (.inr 66)), some (.inl v)]) (sk' := [.inl 0]) (h' := h) rfl ?_
      exact E_ret (x := (.ireturn, 0, [], [])) (v := some (.inl 0)) rfl (Or.inl rfl) (hQ _ _ ⟨fun _ _ _ => rfl, fun _ _ => rfl, by
        rw [tryC_n]
        rintro ⟨y1, y2, y3⟩
        have y2 : h 66 6 < 10 := y2
        first | omega | (obtain ⟨q, z1, z2, z3⟩ := o1 q2 c12; exact y3 q z1 z2 z3)⟩ (by omega))
    · rw [c_eq (by first | assumption | (refine ⟨?_, ?_⟩ <;> omega) | (simp only [xr] at *; omega)) (by first | assumption | (refine ⟨?_, ?_⟩ <;> omega) | (simp only [xr] at *; omega))] at c8
      simp only [decide_eq_true_eq, decide_eq_false_iff_not, Decidable.not_not] at c8
      show xEx G0 cdX12_triesConstant (some .int) (xRn G0 MT (d + 1)) Q b 9 [some (.inr (.inr 66)), some (.inl v)] [] h
      refine E_s 2 (i' := 11) (ls' := [some (.inr (.inr 66)), some (.inl v)]) (sk' := [.inl v, .inr (.inr 66)]) (h' := h) rfl ?_
      refine E_cp (x := (.invokevirtual 200, 1, [(10, 166)], [0])) (q := fun r2 h9 => ((r2 = 1 ∧ (∃ q, 0 ≤ q ∧ q < h 66 6 ∧ h 68 q = v)) ∨ (r2 = 0 ∧ ¬ (∃ q, 0 ≤ q ∧ q < h 66 6 ∧ h 68 q = v))) ∧ h = h9) rfl rfl (Nat.le_of_ble_eq_true rfl) (m_isConstant d 0 h v (by omega) hv (fun q z1 z2 => ⟨by have := hcr q z1 z2; omega, by have := hcr q z1 z2; omega⟩) (fun q z1 z2 z3 => ⟨_, rfl, Or.inl ⟨rfl, q, z1, z2, z3⟩, rfl⟩) (fun z9 => ⟨_, rfl, Or.inr ⟨rfl, fun y9 => by obtain ⟨q, z1, z2, z3⟩ := y9; exact z9 q z1 z2 z3⟩, rfl⟩)) (fun r2 h9 q2 => ?_)
      obtain ⟨q2, rfl⟩ := q2
      show xEx G0 cdX12_triesConstant (some .int) (xRn G0 MT (d + 1)) Q b 12 [some (.inr (.inr 66)), some (.inl v)] [.inl r2] h
      refine E_b (x := (.ifCond .eq 5, 15, [], [])) rfl rfl (fun c12 => ?_) (fun c12 => ?_)
      · rw [c_eq (by first | assumption | (refine ⟨?_, ?_⟩ <;> omega) | (simp only [xr] at *; omega)) (by first | assumption | (refine ⟨?_, ?_⟩ <;> omega) | (simp only [xr] at *; omega))] at c12
        simp only [decide_eq_true_eq, decide_eq_false_iff_not, Decidable.not_not] at c12
        show xEx G0 cdX12_triesConstant (some .int) (xRn G0 MT (d + 1)) Q b 15 [some (.inr (.inr 66)), some (.inl v)] [] h
        refine E_s 2 (i' := 17) (ls' := [some (.inr (.inr 66)), some (.inl v)]) (sk' := [.inl v, .inr (.inr 66)]) (h' := h) rfl ?_
        refine E_cv (x := (.invokevirtual 203, 1, [(10, 167)], [0])) (q := fun h9 => ADM h h9 v) rfl rfl (Nat.le_of_ble_eq_true rfl) (m_comesConstant d 0 h v (by omega) hv (fun q z1 z2 => ⟨by have := hcr q z1 z2; omega, by have := hcr q z1 z2; omega⟩) (fun h9 z => ⟨rfl, z⟩)) (fun g1 hg => ?_)
        show xEx G0 cdX12_triesConstant (some .int) (xRn G0 MT (d + 1)) Q b 18 [some (.inr (.inr 66)), some (.inl v)] [] g1
        refine E_s 1 (i' := 19) (ls' := [some (.inr (.inr 66)), some (.inl v)]) (sk' := [.inl 1]) (h' := g1) rfl ?_
        exact E_ret (x := (.ireturn, 0, [], [])) (v := some (.inl 1)) rfl (Or.inl rfl) (hQ _ _ ⟨hg.1, hg.2.1, by rw [tryC_p ⟨by omega, by show h 66 6 < 10; omega, fun q z1 z2 z3 => o0 q2 c12 ⟨q, z1, z2, z3⟩⟩, hg.2.2.1, hg.2.2.2]⟩ (by rw [hg.2.2.1]; omega))
      · rw [c_eq (by first | assumption | (refine ⟨?_, ?_⟩ <;> omega) | (simp only [xr] at *; omega)) (by first | assumption | (refine ⟨?_, ?_⟩ <;> omega) | (simp only [xr] at *; omega))] at c12
        simp only [decide_eq_true_eq, decide_eq_false_iff_not, Decidable.not_not] at c12
        show xEx G0 cdX12_triesConstant (some .int) (xRn G0 MT (d + 1)) Q b 13 [some (.inr (.inr 66)), some (.inl v)] [] h
        refine E_s 1 (i' := 14) (ls' := [some (.inr (.inr 66)), some (.inl v)]) (sk' := [.inl 0]) (h' := h) rfl ?_
        exact E_ret (x := (.ireturn, 0, [], [])) (v := some (.inl 0)) rfl (Or.inl rfl) (hQ _ _ ⟨fun _ _ _ => rfl, fun _ _ => rfl, by
          rw [tryC_n]
          rintro ⟨y1, y2, y3⟩
          have y2 : h 66 6 < 10 := y2
          first | omega | (obtain ⟨q, z1, z2, z3⟩ := o1 q2 c12; exact y3 q z1 z2 z3)⟩ (by omega))
theorem simC_b {s : xCs} (h : simC s s) : (2 ≤ s.1 ∧ s.1 ≤ 10) ∧ ∀ i, 0 ≤ i → i < s.1 → -99 ≤ s.2 i ∧ s.2 i ≤ 99 := ⟨h.2.1, h.2.2.2⟩
theorem allC_1 (w x : Int → Int) (s : xCs) {e : Int} (h : 0 ≤ e) : allC w x s (e + 1).toNat = tryC (w e - x e) (tryC (w e) (allC w x s e.toNat)) := by
  obtain ⟨m, rfl⟩ : ∃ m : Nat, e = m := ⟨e.toNat, by omega⟩
  have : ((m : Int) + 1).toNat = m + 1 := by omega
  rw [this]
  rfl
set_option maxHeartbeats 1000000 in
theorem o_constants (d b : Nat) (h : xH) (hk : KOK h) (hn : 0 ≤ h 1 2 ∧ h 1 2 ≤ 12) (hr : ∀ e, 0 ≤ e → e < h 1 2 → (-99 ≤ h 3 e ∧ h 3 e ≤ 99) ∧ (-999 ≤ h 6 e ∧ h 6 e ≤ 999)) (hsim : simC ((h 7 1, h 8) : xCs) ((h 7 1, h 8) : xCs)) {Q : xO → xH → Prop} (hQ : ∀ g h', OFC h g (allC (h 6) (h 3) ((h 7 1, h 8) : xCs) (h 1 2).toNat) → FGC g h' → Q (.inl (some (.inl (h' 7 1 - h 7 1)))) h') : xRn G0 MT (d + 6) b 102 [.inr (.inr 0)] h Q := by
  refine R_of (M := mX11_constants) rfl (Nat.le_of_ble_eq_true rfl) ?_
  show xEx G0 cdX11_constants (some .int) (xRn G0 MT (d + 5)) Q b 0 [some (.inr (.inr 0)), none, none, none] [] h
  refine E_s 6 (i' := 6) (ls' := [some (.inr (.inr 0)), some (.inl (h 7 1)), some (.inl 0), none]) (sk' := []) (h' := h) rfl ?_
  have key6 : ∀ (n : Nat) (hh : xH) (e : Int) (v3 : Option xV), (0 ≤ e) → (e ≤ h 1 2) → (∀ a, a ≠ 7 → a ≠ 8 → hh a = h a) → (∀ j, j ≠ 1 → hh 7 j = h 7 j) → (((hh 7 1, hh 8) : xCs) = allC (h 6) (h 3) ((h 7 1, h 8) : xCs) e.toNat) → ((h 1 2 - e).toNat) < n → xEx G0 cdX11_constants (some .int) (xRn G0 MT (d + 5)) Q b 6 [some (.inr (.inr 0)), some (.inl (h 7 1)), some (.inl e), v3] [] hh := by
    intro n
    induction n with
    | zero => intro hh e v3 _ _ _ _ _ hm; exact absurd hm (Nat.not_lt_zero _)
    | succ n ih6 =>
      intro hh e v3 he0 he9 hfr hsu hal hm6
      have e1 : hh 1 = h 1 := hfr _ (by decide) (by decide)
      have e12 : hh 1 2 = h 1 2 := by rw [e1]
      have e3 : hh 6 = h 6 := hfr _ (by decide) (by decide)
      have e0 : hh 3 = h 3 := hfr _ (by decide) (by decide)
      refine E_s 4 (i' := 10) (ls' := [some (.inr (.inr 0)), some (.inl (h 7 1)), some (.inl e), v3]) (sk' := [.inl (hh 1 2), .inl e]) (h' := hh) rfl ?_
      refine E_b (x := (.if_icmp .ge 49, 37, [], [])) rfl rfl (fun c10 => ?_) (fun c10 => ?_)
      · rw [c_ge (by first | assumption | (refine ⟨?_, ?_⟩ <;> omega) | (simp only [xr] at *; omega)) (by first | assumption | (refine ⟨?_, ?_⟩ <;> omega) | (simp only [xr] at *; omega))] at c10
        simp only [decide_eq_true_eq, decide_eq_false_iff_not, Decidable.not_not] at c10
        show xEx G0 cdX11_constants (some .int) (xRn G0 MT (d + 5)) Q b 37 [some (.inr (.inr 0)), some (.inl (h 7 1)), some (.inl e), v3] [] hh
        refine E_s 1 (i' := 38) (ls' := [some (.inr (.inr 0)), some (.inl (h 7 1)), some (.inl e), v3]) (sk' := [.inr (.inr 0)]) (h' := hh) rfl ?_
        have hk9 : KOK (hh) := KOK_of (fun a ha => hfr a (by omega) (by omega)) hk
        refine E_cv (x := (.invokevirtual 93, 0, [(9, 140)], [0])) (q := fun h9 => FGC (hh) h9) rfl rfl (Nat.le_of_ble_eq_true rfl) (c_forgetAll d 0 (hh) hk9.1 hk9.2.1 hk9.2.2.1 hk9.2.2.2 (fun h9 z => ⟨rfl, z⟩)) (fun hF1 hf => ?_)
        show xEx G0 cdX11_constants (some .int) (xRn G0 MT (d + 5)) Q b 39 [some (.inr (.inr 0)), some (.inl (h 7 1)), some (.inl e), v3] [] hF1
        refine E_s 5 (i' := 44) (ls' := [some (.inr (.inr 0)), some (.inl (h 7 1)), some (.inl e), v3]) (sk' := [.inl ((hF1 7 1) - (h 7 1))]) (h' := hF1) rfl ?_
        exact E_ret (x := (.ireturn, 0, [], [])) (v := some (.inl ((hF1 7 1) - (h 7 1)))) rfl (Or.inl rfl) (hQ _ _ ⟨hfr, hsu, by rw [hal, show e = h 1 2 by omega]⟩ hf)
      · rw [c_ge (by first | assumption | (refine ⟨?_, ?_⟩ <;> omega) | (simp only [xr] at *; omega)) (by first | assumption | (refine ⟨?_, ?_⟩ <;> omega) | (simp only [xr] at *; omega))] at c10
        simp only [decide_eq_true_eq, decide_eq_false_iff_not, Decidable.not_not] at c10
        show xEx G0 cdX11_constants (some .int) (xRn G0 MT (d + 5)) Q b 11 [some (.inr (.inr 0)), some (.inl (h 7 1)), some (.inl e), v3] [] hh
        refine E_s 4 (i' := 15) (ls' := [some (.inr (.inr 0)), some (.inl (h 7 1)), some (.inl e), v3]) (sk' := [.inl 3, .inr (.inr 2)]) (h' := hh) rfl ?_
        refine E_ald (x := (.aaload, 0, [], [])) 3 rfl rfl rfl (rfl) rfl ?_
        show xEx G0 cdX11_constants (some .int) (xRn G0 MT (d + 5)) Q b 16 [some (.inr (.inr 0)), some (.inl (h 7 1)), some (.inl e), v3] [.inr (.inr 6)] hh
        refine E_s 1 (i' := 17) (ls' := [some (.inr (.inr 0)), some (.inl (h 7 1)), some (.inl e), v3]) (sk' := [.inl e, .inr (.inr 6)]) (h' := hh) rfl ?_
        obtain ⟨r1, r2⟩ := hr e he0 (by omega)
        have e3e : hh 6 e = h 6 e := by rw [e3]
        refine E_ld (x := (.iaload, 0, [], [])) (ty := .int) (n := 12) rfl rfl rfl (by omega) (by omega) ?_
        show xEx G0 cdX11_constants (some .int) (xRn G0 MT (d + 5)) Q b 18 [some (.inr (.inr 0)), some (.inl (h 7 1)), some (.inl e), v3] [.inl (hh 6 e)] hh
        refine E_s 4 (i' := 22) (ls' := [some (.inr (.inr 0)), some (.inl (h 7 1)), some (.inl e), some (.inl (hh 6 e))]) (sk' := [.inl (hh 6 e), .inr (.inr 7)]) (h' := hh) rfl ?_
        have hb1 : simC ((hh 7 1, hh 8) : xCs) (hh 7 1, hh 8) := by rw [hal]; exact allC_sim hsim _
        obtain ⟨v1, v2⟩ := simC_b hb1
        refine E_cv (x := (.invokevirtual 156, 1, [(6, 77)], [0])) (q := fun h9 => OFC hh h9 (tryC (hh 6 e) (hh 7 1, hh 8))) rfl rfl (Nat.le_of_ble_eq_true rfl) (c_offerConstant (d + 3) 0 hh (hh 6 e) ⟨by omega, by omega⟩ v1 v2 (fun h9 z => ⟨rfl, z⟩)) (fun g1 hg1 => ?_)
        have hb2 : simC ((g1 7 1, g1 8) : xCs) (g1 7 1, g1 8) := by rw [hg1.2.2]; exact tryC_sim _ hb1
        obtain ⟨v3, v4⟩ := simC_b hb2
        have g0 : g1 3 = h 3 := (hg1.1 _ (by decide) (by decide)).trans e0
        have g0e : g1 3 e = h 3 e := by rw [g0]
        show xEx G0 cdX11_constants (some .int) (xRn G0 MT (d + 5)) Q b 23 [some (.inr (.inr 0)), some (.inl (h 7 1)), some (.inl e), some (.inl (hh 6 e))] [] g1
        refine E_s 7 (i' := 30) (ls' := [some (.inr (.inr 0)), some (.inl (h 7 1)), some (.inl e), some (.inl (hh 6 e))]) (sk' := [.inl 0, .inr (.inr 2), .inl (hh 6 e), .inr (.inr 7)]) (h' := g1) rfl ?_
        refine E_ald (x := (.aaload, 0, [], [])) 0 rfl rfl rfl (rfl) rfl ?_
        show xEx G0 cdX11_constants (some .int) (xRn G0 MT (d + 5)) Q b 31 [some (.inr (.inr 0)), some (.inl (h 7 1)), some (.inl e), some (.inl (hh 6 e))] [.inr (.inr 3), .inl (hh 6 e), .inr (.inr 7)] g1
        refine E_s 1 (i' := 32) (ls' := [some (.inr (.inr 0)), some (.inl (h 7 1)), some (.inl e), some (.inl (hh 6 e))]) (sk' := [.inl e, .inr (.inr 3), .inl (hh 6 e), .inr (.inr 7)]) (h' := g1) rfl ?_
        refine E_ld (x := (.iaload, 0, [], [])) (ty := .int) (n := 12) rfl rfl rfl (by omega) (by omega) ?_
        show xEx G0 cdX11_constants (some .int) (xRn G0 MT (d + 5)) Q b 33 [some (.inr (.inr 0)), some (.inl (h 7 1)), some (.inl e), some (.inl (hh 6 e))] [.inl (g1 3 e), .inl (hh 6 e), .inr (.inr 7)] g1
        refine E_s 1 (i' := 34) (ls' := [some (.inr (.inr 0)), some (.inl (h 7 1)), some (.inl e), some (.inl (hh 6 e))]) (sk' := [.inl ((hh 6 e) - (g1 3 e)), .inr (.inr 7)]) (h' := g1) rfl ?_
        refine E_cv (x := (.invokevirtual 156, 1, [(6, 77)], [0])) (q := fun h9 => OFC g1 h9 (tryC (hh 6 e - g1 3 e) (g1 7 1, g1 8))) rfl rfl (Nat.le_of_ble_eq_true rfl) (c_offerConstant (d + 3) 0 g1 (hh 6 e - g1 3 e) ⟨by omega, by omega⟩ v3 v4 (fun h9 z => ⟨rfl, z⟩)) (fun g2 hg2 => ?_)
        show xEx G0 cdX11_constants (some .int) (xRn G0 MT (d + 5)) Q b 35 [some (.inr (.inr 0)), some (.inl (h 7 1)), some (.inl e), some (.inl (hh 6 e))] [] g2
        refine E_s 2 (i' := 6) (ls' := [some (.inr (.inr 0)), some (.inl (h 7 1)), some (.inl (e + 1)), some (.inl (hh 6 e))]) (sk' := []) (h' := g2) rfl ?_
        exact ih6 _ (e + 1) _ (by omega) (by omega) (fun a z1 z2 => by rw [hg2.1 a z1 z2, hg1.1 a z1 z2]; exact hfr a z1 z2) (fun j z => by rw [hg2.2.1 j z, hg1.2.1 j z]; exact hsu j z) (by rw [hg2.2.2, hg1.2.2, hal, allC_1 _ _ _ he0, e3, g0]) (by omega)
  exact key6 _ h 0 none (by omega) (by omega) (fun _ _ _ => rfl) (fun _ _ => rfl) rfl (Nat.lt_succ_self _)
set_option maxHeartbeats 1000000 in
theorem m_constants (d b : Nat) (h : xH) (hn : 0 ≤ h 66 4 ∧ h 66 4 ≤ 12) (hr : ∀ e, 0 ≤ e → e < h 66 4 → (-99 ≤ h 67 (4 * e) ∧ h 67 (4 * e) ≤ 99) ∧ (-999 ≤ h 67 (4 * e + 3) ∧ h 67 (4 * e + 3) ≤ 999)) (hsim : simC ((h 66 6, h 68) : xCs) ((h 66 6, h 68) : xCs)) {Q : xO → xH → Prop} (hQ : ∀ g h', OFM (xup h 66 0 0) g (allC (fun e => h 67 (4 * e + 3)) (fun e => h 67 (4 * e)) ((h 66 6, h 68) : xCs) (h 66 4).toNat) → FGR g h' → Q (.inl (some (.inl (h' 66 6 - h 66 6)))) h') : xRn G0 MT (d + 4) b 170 [.inr (.inr 66)] h Q := by
  refine R_of (M := mX12_constants) rfl (Nat.le_of_ble_eq_true rfl) ?_
  show xEx G0 cdX12_constants (some .int) (xRn G0 MT (d + 3)) Q b 0 [some (.inr (.inr 66)), none, none] [] h
  refine E_s 7 (i' := 7) (ls' := [some (.inr (.inr 66)), some (.inl 0), some (.inl 0)]) (sk' := []) (h' := (xup h 66 0 0)) rfl ?_
  have key7 : ∀ (n : Nat) (hh : xH) (n9 e : Int), (0 ≤ e) → (e ≤ h 66 4) → (∀ a, a ≠ 66 → a ≠ 68 → hh a = h a) → (∀ j, j ≠ 6 → hh 66 j = xup h 66 0 0 66 j) → (((hh 66 6, hh 68) : xCs) = allC (fun e => h 67 (4 * e + 3)) (fun e => h 67 (4 * e)) ((h 66 6, h 68) : xCs) e.toNat) → (n9 = hh 66 6 - h 66 6) → ((h 66 4 - e).toNat) < n → xEx G0 cdX12_constants (some .int) (xRn G0 MT (d + 3)) Q b 7 [some (.inr (.inr 66)), some (.inl n9), some (.inl e)] [] hh := by
    intro n
    induction n with
    | zero => intro hh n9 e _ _ _ _ _ _ hm; exact absurd hm (Nat.not_lt_zero _)
    | succ n ih7 =>
      intro hh n9 e he0 he9 hfr hsu hal hn9 hm7
      have e12 : hh 66 4 = h 66 4 := by rw [hsu _ (by decide)]; rfl
      have et : hh 67 = h 67 := hfr _ (by decide) (by decide)
      have et3 : hh 67 (4 * e + 3) = h 67 (4 * e + 3) := by rw [et]
      have et0 : hh 67 (4 * e) = h 67 (4 * e) := by rw [et]
      refine E_s 3 (i' := 10) (ls' := [some (.inr (.inr 66)), some (.inl n9), some (.inl e)]) (sk' := [.inl (hh 66 4), .inl e]) (h' := hh) rfl ?_
      refine E_b (x := (.if_icmp .ge 52, 46, [], [])) rfl rfl (fun c10 => ?_) (fun c10 => ?_)
      · rw [c_ge (by first | assumption | (refine ⟨?_, ?_⟩ <;> omega) | (simp only [xr] at *; omega)) (by first | assumption | (refine ⟨?_, ?_⟩ <;> omega) | (simp only [xr] at *; omega))] at c10
        simp only [decide_eq_true_eq, decide_eq_false_iff_not, Decidable.not_not] at c10
        show xEx G0 cdX12_constants (some .int) (xRn G0 MT (d + 3)) Q b 46 [some (.inr (.inr 66)), some (.inl n9), some (.inl e)] [] hh
        refine E_s 1 (i' := 47) (ls' := [some (.inr (.inr 66)), some (.inl n9), some (.inl e)]) (sk' := [.inr (.inr 66)]) (h' := hh) rfl ?_
        refine E_cv (x := (.invokevirtual 184, 0, [(10, 157)], [0])) (q := fun h9 => FGR (hh) h9) rfl rfl (Nat.le_of_ble_eq_true rfl) (m_goes (d + 2) 0 (hh) (fun h9 z => ⟨rfl, z⟩)) (fun hF2 hf => ?_)
        show xEx G0 cdX12_constants (some .int) (xRn G0 MT (d + 3)) Q b 48 [some (.inr (.inr 66)), some (.inl n9), some (.inl e)] [] hF2
        refine E_s 1 (i' := 49) (ls' := [some (.inr (.inr 66)), some (.inl n9), some (.inl e)]) (sk' := [.inl n9]) (h' := hF2) rfl ?_
        exact E_ret (x := (.ireturn, 0, [], [])) (v := some (.inl n9)) rfl (Or.inl rfl) (by
          have e9 := hf.2.1 6 (by decide) (by decide) (by decide) (by decide)
          have r9 := hQ _ _ ⟨fun a z1 z2 => by rw [hfr a z1 z2]; exact (xup_o _ _ _ _ a z1).symm, hsu, by rw [hal, show e = h 66 4 by omega]⟩ hf
          rw [e9, ← hn9] at r9
          exact r9)
      · rw [c_ge (by first | assumption | (refine ⟨?_, ?_⟩ <;> omega) | (simp only [xr] at *; omega)) (by first | assumption | (refine ⟨?_, ?_⟩ <;> omega) | (simp only [xr] at *; omega))] at c10
        simp only [decide_eq_true_eq, decide_eq_false_iff_not, Decidable.not_not] at c10
        show xEx G0 cdX12_constants (some .int) (xRn G0 MT (d + 3)) Q b 11 [some (.inr (.inr 66)), some (.inl n9), some (.inl e)] [] hh
        refine E_s 9 (i' := 20) (ls' := [some (.inr (.inr 66)), some (.inl n9), some (.inl e)]) (sk' := [.inl ((4 * e) + 3), .inr (.inr 67), .inr (.inr 66), .inl n9]) (h' := hh) rfl ?_
        obtain ⟨q1, q2⟩ := hr e he0 (by omega)
        refine E_ld (x := (.iaload, 0, [], [])) (ty := .int) (n := 48) rfl rfl rfl (by omega) (by omega) ?_
        show xEx G0 cdX12_constants (some .int) (xRn G0 MT (d + 3)) Q b 21 [some (.inr (.inr 66)), some (.inl n9), some (.inl e)] [.inl (hh 67 ((4 * e) + 3)), .inr (.inr 66), .inl n9] hh
        have hb1 : simC ((hh 66 6, hh 68) : xCs) (hh 66 6, hh 68) := by rw [hal]; exact allC_sim hsim _
        obtain ⟨v1, v2⟩ := simC_b hb1
        refine E_cp (x := (.invokevirtual 207, 1, [(10, 169)], [0])) (q := fun r9 h9 => OFM hh h9 (tryC (hh 67 (4 * e + 3)) (hh 66 6, hh 68)) ∧ r9 = h9 66 6 - hh 66 6) rfl rfl (Nat.le_of_ble_eq_true rfl) (m_triesConstant (d + 1) 0 hh (hh 67 (4 * e + 3)) ⟨by omega, by omega⟩ v1 v2 (fun r9 h9 z y => ⟨_, rfl, z, y⟩)) (fun r1 g1 hg9 => ?_)
        obtain ⟨hg1, hr1⟩ := hg9
        have hb2 : simC ((g1 66 6, g1 68) : xCs) (g1 66 6, g1 68) := by rw [hg1.2.2]; exact tryC_sim _ hb1
        obtain ⟨v3, v4⟩ := simC_b hb2
        have t1 : g1 67 = h 67 := (hg1.1 _ (by decide) (by decide)).trans et
        have t3 : g1 67 (4 * e + 3) = h 67 (4 * e + 3) := by rw [t1]
        have t0 : g1 67 (4 * e) = h 67 (4 * e) := by rw [t1]
        show xEx G0 cdX12_constants (some .int) (xRn G0 MT (d + 3)) Q b 22 [some (.inr (.inr 66)), some (.inl n9), some (.inl e)] [.inl r1, .inl n9] g1
        refine E_s 11 (i' := 33) (ls' := [some (.inr (.inr 66)), some (.inl (n9 + r1)), some (.inl e)]) (sk' := [.inl ((4 * e) + 3), .inr (.inr 67), .inr (.inr 66), .inl (n9 + r1)]) (h' := g1) rfl ?_
        refine E_ld (x := (.iaload, 0, [], [])) (ty := .int) (n := 48) rfl rfl rfl (by omega) (by omega) ?_
        show xEx G0 cdX12_constants (some .int) (xRn G0 MT (d + 3)) Q b 34 [some (.inr (.inr 66)), some (.inl (n9 + r1)), some (.inl e)] [.inl (g1 67 ((4 * e) + 3)), .inr (.inr 66), .inl (n9 + r1)] g1
        refine E_s 5 (i' := 39) (ls' := [some (.inr (.inr 66)), some (.inl (n9 + r1)), some (.inl e)]) (sk' := [.inl (4 * e), .inr (.inr 67), .inl (g1 67 ((4 * e) + 3)), .inr (.inr 66), .inl (n9 + r1)]) (h' := g1) rfl ?_
        refine E_ld (x := (.iaload, 0, [], [])) (ty := .int) (n := 48) rfl rfl rfl (by omega) (by omega) ?_
        show xEx G0 cdX12_constants (some .int) (xRn G0 MT (d + 3)) Q b 40 [some (.inr (.inr 66)), some (.inl (n9 + r1)), some (.inl e)] [.inl (g1 67 (4 * e)), .inl (g1 67 ((4 * e) + 3)), .inr (.inr 66), .inl (n9 + r1)] g1
        refine E_s 1 (i' := 41) (ls' := [some (.inr (.inr 66)), some (.inl (n9 + r1)), some (.inl e)]) (sk' := [.inl ((g1 67 ((4 * e) + 3)) - (g1 67 (4 * e))), .inr (.inr 66), .inl (n9 + r1)]) (h' := g1) rfl ?_
        refine E_cp (x := (.invokevirtual 207, 1, [(10, 169)], [0])) (q := fun r9 h9 => OFM g1 h9 (tryC (g1 67 (4 * e + 3) - g1 67 (4 * e)) (g1 66 6, g1 68)) ∧ r9 = h9 66 6 - g1 66 6) rfl rfl (Nat.le_of_ble_eq_true rfl) (m_triesConstant (d + 1) 0 g1 (g1 67 (4 * e + 3) - g1 67 (4 * e)) ⟨by omega, by omega⟩ v3 v4 (fun r9 h9 z y => ⟨_, rfl, z, y⟩)) (fun r2 g2 hg8 => ?_)
        obtain ⟨hg2, hr2⟩ := hg8
        show xEx G0 cdX12_constants (some .int) (xRn G0 MT (d + 3)) Q b 42 [some (.inr (.inr 66)), some (.inl (n9 + r1)), some (.inl e)] [.inl r2, .inl (n9 + r1)] g2
        refine E_s 4 (i' := 7) (ls' := [some (.inr (.inr 66)), some (.inl ((n9 + r1) + r2)), some (.inl (e + 1))]) (sk' := []) (h' := g2) rfl ?_
        exact ih7 _ _ (e + 1) (by omega) (by omega) (fun a z1 z2 => by rw [hg2.1 a z1 z2, hg1.1 a z1 z2]; exact hfr a z1 z2) (fun j z => by rw [hg2.2.1 j z, hg1.2.1 j z]; exact hsu j z) (by rw [hg2.2.2, hg1.2.2, hal, allC_1 _ _ _ he0, et, t1]) (by omega) (by omega)
  exact key7 _ (xup h 66 0 0) 0 0 (by omega) (by omega) (fun a z1 _ => xup_o _ _ _ _ a z1) (fun _ _ => rfl) rfl (by show (0 : Int) = h 66 6 - h 66 6; omega) (Nat.lt_succ_self _)
