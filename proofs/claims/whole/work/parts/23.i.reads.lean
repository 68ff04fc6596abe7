theorem cv_bit (p : Int → Prop) : ∀ n i : Nat, (cv p n).testBit i = true ↔ i < n ∧ p i
  | 0, i => by simp [cv]
  | n + 1, i => by
    have ih := cv_bit p n i
    have hl := cv_lt p n
    by_cases h : p n
    · have e : cv p (n + 1) = cv p n ||| 2 ^ n := by
        rw [or_pow hl]
        simp only [cv, bt_1 h, Nat.one_mul]
      rw [e, Nat.testBit_or, Nat.testBit_two_pow, Bool.or_eq_true, ih, decide_eq_true_eq]
      constructor
      · rintro (⟨a, b⟩ | a)
        · exact ⟨by omega, b⟩
        · subst a; exact ⟨by omega, h⟩
      · rintro ⟨a, b⟩
        by_cases z : n = i
        · exact Or.inr z
        · exact Or.inl ⟨by omega, b⟩
    · have e : cv p (n + 1) = cv p n := by
        simp only [cv, bt_0 h, Nat.zero_mul, Nat.add_zero]
      rw [e, ih]
      constructor
      · rintro ⟨a, b⟩; exact ⟨by omega, b⟩
      · rintro ⟨a, b⟩
        refine ⟨?_, b⟩
        by_cases z : i = n
        · subst z; exact absurd b h
        · omega
theorem xxor_cv {a b n : Int} (h0 : 0 ≤ n) (h1 : n ≤ 12) (ha : 0 ≤ a ∧ a < (2 ^ n.toNat : Nat)) (hb : 0 ≤ b ∧ b < (2 ^ n.toNat : Nat)) : xxor a b = (cv (fun e => ¬ xand (xshr a e) 1 = xand (xshr b e) 1) n.toNat : Int) := by
  have hp := pw31 h1
  obtain ⟨x, rfl⟩ : ∃ x : Nat, a = (x : Int) := ⟨a.toNat, by omega⟩
  obtain ⟨y, rfl⟩ : ∃ y : Nat, b = (y : Int) := ⟨b.toNat, by omega⟩
  rw [n_xor (by omega) (by omega)]
  congr 1
  apply Nat.eq_of_testBit_eq
  intro i
  rw [Bool.eq_iff_iff, cv_bit, Nat.testBit_xor]
  by_cases hi : i < n.toNat
  · have e1 := n_shr1 (a := x) (e := (i : Int)) (by omega) (by omega) (by omega)
    have e2 := n_shr1 (a := y) (e := (i : Int)) (by omega) (by omega) (by omega)
    have e3 : ((i : Int)).toNat = i := by omega
    rw [e3] at e1 e2
    rw [e1, e2]
    cases x.testBit i <;> cases y.testBit i <;> simp [hi]
  · have h2 : x.testBit i = false := Nat.testBit_lt_two_pow (Nat.lt_of_lt_of_le (show x < 2 ^ n.toNat by omega) (Nat.pow_le_pow_right (by decide) (by omega)))
    have h3 : y.testBit i = false := Nat.testBit_lt_two_pow (Nat.lt_of_lt_of_le (show y < 2 ^ n.toNat by omega) (Nat.pow_le_pow_right (by decide) (by omega)))
    rw [h2, h3]
    constructor
    · intro z; cases z
    · intro z; exact absurd z.1 hi
set_option maxHeartbeats 1000000 in
theorem o_unlike0 (d  : Nat) (h : xH) (k o : Int) (hk : xr k) (ho : xr o) (hn : 0 ≤ h 1 2 ∧ h 1 2 ≤ 12) (hr : ∀ k e, 0 ≤ k → k < h 9 9 → 0 ≤ e → e < h 1 2 → xr (h 24 (k * 12 + e))) (hK0 : 0 ≤ h 9 9 ∧ h 9 9 ≤ 300) {Q : xO → xH → Prop} (h1 : (0 ≤ k ∧ k < h 9 9) ∧ (0 ≤ o ∧ o < h 9 9) → Q (.inl (some (.inl ((cv (fun e => ¬ h 24 (k * 12 + e) = h 24 (o * 12 + e)) (h 1 2).toNat : Int))))) h) (hX : ¬ ((0 ≤ k ∧ k < h 9 9) ∧ (0 ≤ o ∧ o < h 9 9)) → Q (.inr "java/util/NoSuchElementException") h) : xRn G0 MT (d + 5) 2 114 [.inr (.inr 0), .inl 0, .inl k, .inl o] h Q := by
  refine R_of (M := mX11_unlike) rfl (Nat.le_of_ble_eq_true rfl) ?_
  show xEx G0 cdX11_unlike (some .int) (xRn G0 MT (d + 4)) Q 2 0 [some (.inr (.inr 0)), some (.inl 0), some (.inl k), some (.inl o), none, none, none] [] h
  refine E_s 3 (i' := 3) (ls' := [some (.inr (.inr 0)), some (.inl 0), some (.inl k), some (.inl o), none, none, none]) (sk' := [.inl k, .inl 0, .inr (.inr 0)]) (h' := h) rfl ?_
  refine E_cx (x := (.invokevirtual 194, 2, [(9, 143)], [0])) (b1 := 1) (b2 := 1) (v := (some (.inr (.inr 9)))) (q := fun h9 => (0 ≤ k ∧ k < h 9 9) ∧ h = h9) rfl rfl (Nat.le_of_ble_eq_true rfl) (fun z => by cases z) (c_growthWith0 (d + 1) h k hk hK0 (fun z => Or.inl ⟨rfl, z, rfl⟩) (fun z => Or.inr ⟨_, rfl, hX (fun y => z y.1)⟩)) (fun h9 hq9 => ?_)
  obtain ⟨qk, rfl⟩ := hq9
  show xEx G0 cdX11_unlike (some .int) (xRn G0 MT (d + 4)) Q 1 4 [some (.inr (.inr 0)), some (.inl 0), some (.inl k), some (.inl o), none, none, none] [.inr (.inr 9)] h
  refine E_s 4 (i' := 8) (ls' := [some (.inr (.inr 0)), some (.inl 0), some (.inl k), some (.inl o), some (.inr (.inr 9)), none, none]) (sk' := [.inl o, .inl 0, .inr (.inr 0)]) (h' := h) rfl ?_
  refine E_cx (x := (.invokevirtual 244, 2, [(9, 144)], [0])) (b1 := 1) (b2 := 0) (v := none) (q := fun h9 => (0 ≤ o ∧ o < h 9 9) ∧ h = h9) rfl rfl (Nat.le_of_ble_eq_true rfl) (fun z => by cases z) (c_refNotKept0 (d + 2) h o ho hK0 (fun z => Or.inl ⟨rfl, z, rfl⟩) (fun z => Or.inr ⟨_, rfl, hX (fun y => z y.2)⟩)) (fun h9 hq9 => ?_)
  obtain ⟨qo, rfl⟩ := hq9
  show xEx G0 cdX11_unlike (some .int) (xRn G0 MT (d + 4)) Q 0 9 [some (.inr (.inr 0)), some (.inl 0), some (.inl k), some (.inl o), some (.inr (.inr 9)), none, none] [] h
  refine E_s 4 (i' := 13) (ls' := [some (.inr (.inr 0)), some (.inl 0), some (.inl k), some (.inl o), some (.inr (.inr 9)), some (.inl 0), some (.inl 0)]) (sk' := []) (h' := h) rfl ?_
  have key13 : ∀ (n : Nat) (s9 e : Int), (0 ≤ e) → (e ≤ h 1 2) → (s9 = (cv (fun e => ¬ h 24 (k * 12 + e) = h 24 (o * 12 + e)) e.toNat : Int)) → ((h 1 2 - e).toNat) < n → xEx G0 cdX11_unlike (some .int) (xRn G0 MT (d + 4)) Q 0 13 [some (.inr (.inr 0)), some (.inl 0), some (.inl k), some (.inl o), some (.inr (.inr 9)), some (.inl s9), some (.inl e)] [] h := by
    intro n
    induction n with
    | zero => intro s9 e _ _ _ hm; exact absurd hm (Nat.not_lt_zero _)
    | succ n ih13 =>
      intro s9 e he0 he9 hs9 hm13
      refine E_s 4 (i' := 17) (ls' := [some (.inr (.inr 0)), some (.inl 0), some (.inl k), some (.inl o), some (.inr (.inr 9)), some (.inl s9), some (.inl e)]) (sk' := [.inl (h 1 2), .inl e]) (h' := h) rfl ?_
      refine E_b (x := (.if_icmp .ge 37, 35, [], [])) rfl rfl (fun c17 => ?_) (fun c17 => ?_)
      · rw [c_ge (by first | assumption | (refine ⟨?_, ?_⟩ <;> omega) | (simp only [xr] at *; omega)) (by first | assumption | (refine ⟨?_, ?_⟩ <;> omega) | (simp only [xr] at *; omega))] at c17
        simp only [decide_eq_true_eq, decide_eq_false_iff_not, Decidable.not_not] at c17
        show xEx G0 cdX11_unlike (some .int) (xRn G0 MT (d + 4)) Q 0 35 [some (.inr (.inr 0)), some (.inl 0), some (.inl k), some (.inl o), some (.inr (.inr 9)), some (.inl s9), some (.inl e)] [] h
        refine E_s 1 (i' := 36) (ls' := [some (.inr (.inr 0)), some (.inl 0), some (.inl k), some (.inl o), some (.inr (.inr 9)), some (.inl s9), some (.inl e)]) (sk' := [.inl s9]) (h' := h) rfl ?_
        exact E_ret (x := (.ireturn, 0, [], [])) (v := some (.inl s9)) rfl (Or.inl rfl) (by
          have e9 : e = h 1 2 := by omega
          rw [hs9, e9]
          exact h1 ⟨qk, qo⟩)
      · rw [c_ge (by first | assumption | (refine ⟨?_, ?_⟩ <;> omega) | (simp only [xr] at *; omega)) (by first | assumption | (refine ⟨?_, ?_⟩ <;> omega) | (simp only [xr] at *; omega))] at c17
        simp only [decide_eq_true_eq, decide_eq_false_iff_not, Decidable.not_not] at c17
        show xEx G0 cdX11_unlike (some .int) (xRn G0 MT (d + 4)) Q 0 18 [some (.inr (.inr 0)), some (.inl 0), some (.inl k), some (.inl o), some (.inr (.inr 9)), some (.inl s9), some (.inl e)] [] h
        have r1 := hr k e qk.1 qk.2 he0 (by omega)
        have r2 := hr o e qo.1 qo.2 he0 (by omega)
        refine E_s 3 (i' := 21) (ls' := [some (.inr (.inr 0)), some (.inl 0), some (.inl k), some (.inl o), some (.inr (.inr 9)), some (.inl s9), some (.inl e)]) (sk' := [.inl e, .inl k, .inr (.inr 9)]) (h' := h) rfl ?_
        refine E_ci (x := (.invokevirtual 210, 2, [(1, 19), (7, 90)], [1])) (r := (h 24 (k * 12 + e))) (h' := h) rfl rfl (Nat.le_of_ble_eq_true rfl) (c_outputOn (d + 3) 0 h k e ⟨by omega, by omega⟩ ⟨by omega, by omega⟩ ⟨rfl, rfl⟩) ?_
        show xEx G0 cdX11_unlike (some .int) (xRn G0 MT (d + 4)) Q 0 22 [some (.inr (.inr 0)), some (.inl 0), some (.inl k), some (.inl o), some (.inr (.inr 9)), some (.inl s9), some (.inl e)] [.inl (h 24 (k * 12 + e))] h
        refine E_s 3 (i' := 25) (ls' := [some (.inr (.inr 0)), some (.inl 0), some (.inl k), some (.inl o), some (.inr (.inr 9)), some (.inl s9), some (.inl e)]) (sk' := [.inl e, .inl o, .inr (.inr 9), .inl (h 24 (k * 12 + e))]) (h' := h) rfl ?_
        refine E_ci (x := (.invokevirtual 210, 2, [(1, 19), (7, 90)], [1])) (r := (h 24 (o * 12 + e))) (h' := h) rfl rfl (Nat.le_of_ble_eq_true rfl) (c_outputOn (d + 3) 0 h o e ⟨by omega, by omega⟩ ⟨by omega, by omega⟩ ⟨rfl, rfl⟩) ?_
        show xEx G0 cdX11_unlike (some .int) (xRn G0 MT (d + 4)) Q 0 26 [some (.inr (.inr 0)), some (.inl 0), some (.inl k), some (.inl o), some (.inr (.inr 9)), some (.inl s9), some (.inl e)] [.inl (h 24 (o * 12 + e)), .inl (h 24 (k * 12 + e))] h
        refine E_b (x := (.if_icmp .eq 12, 33, [], [])) rfl rfl (fun c26 => ?_) (fun c26 => ?_)
        · rw [c_eq (by first | exact xand_r _ _ | assumption) (by first | exact xand_r _ _ | assumption)] at c26
          simp only [decide_eq_true_eq, decide_eq_false_iff_not, Decidable.not_not] at c26
          show xEx G0 cdX11_unlike (some .int) (xRn G0 MT (d + 4)) Q 0 33 [some (.inr (.inr 0)), some (.inl 0), some (.inl k), some (.inl o), some (.inr (.inr 9)), some (.inl s9), some (.inl e)] [] h
          refine E_s 2 (i' := 13) (ls' := [some (.inr (.inr 0)), some (.inl 0), some (.inl k), some (.inl o), some (.inr (.inr 9)), some (.inl s9), some (.inl (e + 1))]) (sk' := []) (h' := h) rfl ?_
          exact ih13 _ (e + 1) (by omega) (by omega) (by rw [hs9]; exact cv_s0 he0 (fun z => z c26)) (by omega)
        · rw [c_eq (by first | exact xand_r _ _ | assumption) (by first | exact xand_r _ _ | assumption)] at c26
          simp only [decide_eq_true_eq, decide_eq_false_iff_not, Decidable.not_not] at c26
          show xEx G0 cdX11_unlike (some .int) (xRn G0 MT (d + 4)) Q 0 27 [some (.inr (.inr 0)), some (.inl 0), some (.inl k), some (.inl o), some (.inr (.inr 9)), some (.inl s9), some (.inl e)] [] h
          refine E_s 8 (i' := 13) (ls' := [some (.inr (.inr 0)), some (.inl 0), some (.inl k), some (.inl o), some (.inr (.inr 9)), some (.inl (xor_ s9 (xshl 1 e))), some (.inl (e + 1))]) (sk' := []) (h' := h) rfl ?_
          exact ih13 _ (e + 1) (by omega) (by omega) (by rw [hs9]; exact cv_s1 he0 (by omega) c26) (by omega)
  exact key13 _ 0 0 (by omega) (by omega) rfl (Nat.lt_succ_self _)
set_option maxHeartbeats 1000000 in
theorem m_unlike0 (d b : Nat) (h : xH) (k o : Int) (hk : xr k) (ho : xr o) (hn : 0 ≤ h 66 4 ∧ h 66 4 ≤ 12) (hr : ∀ k e, 0 ≤ k → k < h 66 8 → 0 ≤ e → e < h 66 4 → xr (h 77 (12 * k + e))) (hM0 : 0 ≤ h 66 8 ∧ h 66 8 ≤ 300) {Q : xO → xH → Prop} (h1 : (0 ≤ k ∧ k < h 66 8) ∧ (0 ≤ o ∧ o < h 66 8) → Q (.inl (some (.inl ((cv (fun e => ¬ h 77 (12 * k + e) = h 77 (12 * o + e)) (h 66 4).toNat : Int))))) (xup h 66 0 0)) (hX : ¬ ((0 ≤ k ∧ k < h 66 8) ∧ (0 ≤ o ∧ o < h 66 8)) → Q (.inl (some (.inl (0)))) (xup h 66 0 1)) : xRn G0 MT (d + 5) b 220 [.inr (.inr 66), .inl 0, .inl k, .inl o] h Q := by
  refine R_of (M := mX12_unlike) rfl (Nat.le_of_ble_eq_true rfl) ?_
  show xEx G0 cdX12_unlike (some .int) (xRn G0 MT (d + 4)) Q b 0 [some (.inr (.inr 66)), some (.inl 0), some (.inl k), some (.inl o), none, none] [] h
  refine E_s 4 (i' := 4) (ls' := [some (.inr (.inr 66)), some (.inl 0), some (.inl k), some (.inl o), none, none]) (sk' := [.inl k, .inl 0, .inr (.inr 66), .inr (.inr 66)]) (h' := h) rfl ?_
  refine E_cp (x := (.invokevirtual 295, 2, [(10, 193)], [0])) (q := fun r1 h9 => ((r1 = 1 ∧ (0 ≤ k ∧ k < h 66 8)) ∨ (r1 = 0 ∧ ¬ (0 ≤ k ∧ k < h 66 8))) ∧ h = h9) rfl rfl (Nat.le_of_ble_eq_true rfl) (m_isKept0 (d + 2) 0 h k hk hM0 (fun z => ⟨_, rfl, Or.inl ⟨rfl, z⟩, rfl⟩) (fun z => ⟨_, rfl, Or.inr ⟨rfl, z⟩, rfl⟩)) (fun r1 h9 q1 => ?_)
  obtain ⟨q1, rfl⟩ := q1
  show xEx G0 cdX12_unlike (some .int) (xRn G0 MT (d + 4)) Q b 5 [some (.inr (.inr 66)), some (.inl 0), some (.inl k), some (.inl o), none, none] [.inl r1, .inr (.inr 66)] h
  refine E_b (x := (.ifCond .eq 16, 13, [], [])) rfl rfl (fun c5 => ?_) (fun c5 => ?_)
  · rw [c_eq (by first | assumption | (refine ⟨?_, ?_⟩ <;> omega) | (simp only [xr] at *; omega)) (by first | assumption | (refine ⟨?_, ?_⟩ <;> omega) | (simp only [xr] at *; omega))] at c5
    simp only [decide_eq_true_eq, decide_eq_false_iff_not, Decidable.not_not] at c5
    show xEx G0 cdX12_unlike (some .int) (xRn G0 MT (d + 4)) Q b 13 [some (.inr (.inr 66)), some (.inl 0), some (.inl k), some (.inl o), none, none] [.inr (.inr 66)] h
    refine E_s 4 (i' := 17) (ls' := [some (.inr (.inr 66)), some (.inl 0), some (.inl k), some (.inl o), none, none]) (sk' := [.inl 1]) (h' := (xup h 66 0 1)) rfl ?_
    refine E_b (x := (.ifCond .le 5, 20, [], [])) rfl rfl (fun c17 => ?_) (fun c17 => ?_)
    · show xEx G0 cdX12_unlike (some .int) (xRn G0 MT (d + 4)) Q b 20 [some (.inr (.inr 66)), some (.inl 0), some (.inl k), some (.inl o), none, none] [] (xup h 66 0 1)
      exact absurd c17 (by decide)
    · show xEx G0 cdX12_unlike (some .int) (xRn G0 MT (d + 4)) Q b 18 [some (.inr (.inr 66)), some (.inl 0), some (.inl k), some (.inl o), none, none] [] (xup h 66 0 1)
      refine E_s 1 (i' := 19) (ls' := [some (.inr (.inr 66)), some (.inl 0), some (.inl k), some (.inl o), none, none]) (sk' := [.inl 0]) (h' := (xup h 66 0 1)) rfl ?_
      exact E_ret (x := (.ireturn, 0, [], [])) (v := some (.inl 0)) rfl (Or.inl rfl) (hX (by omega))
  · rw [c_eq (by first | assumption | (refine ⟨?_, ?_⟩ <;> omega) | (simp only [xr] at *; omega)) (by first | assumption | (refine ⟨?_, ?_⟩ <;> omega) | (simp only [xr] at *; omega))] at c5
    simp only [decide_eq_true_eq, decide_eq_false_iff_not, Decidable.not_not] at c5
    show xEx G0 cdX12_unlike (some .int) (xRn G0 MT (d + 4)) Q b 6 [some (.inr (.inr 66)), some (.inl 0), some (.inl k), some (.inl o), none, none] [.inr (.inr 66)] h
    refine E_s 3 (i' := 9) (ls' := [some (.inr (.inr 66)), some (.inl 0), some (.inl k), some (.inl o), none, none]) (sk' := [.inl o, .inl 0, .inr (.inr 66), .inr (.inr 66)]) (h' := h) rfl ?_
    refine E_cp (x := (.invokevirtual 295, 2, [(10, 193)], [0])) (q := fun r2 h9 => ((r2 = 1 ∧ (0 ≤ o ∧ o < h 66 8)) ∨ (r2 = 0 ∧ ¬ (0 ≤ o ∧ o < h 66 8))) ∧ h = h9) rfl rfl (Nat.le_of_ble_eq_true rfl) (m_isKept0 (d + 2) 0 h o ho hM0 (fun z => ⟨_, rfl, Or.inl ⟨rfl, z⟩, rfl⟩) (fun z => ⟨_, rfl, Or.inr ⟨rfl, z⟩, rfl⟩)) (fun r2 h9 q2 => ?_)
    obtain ⟨q2, rfl⟩ := q2
    show xEx G0 cdX12_unlike (some .int) (xRn G0 MT (d + 4)) Q b 10 [some (.inr (.inr 66)), some (.inl 0), some (.inl k), some (.inl o), none, none] [.inl r2, .inr (.inr 66)] h
    refine E_b (x := (.ifCond .eq 7, 13, [], [])) rfl rfl (fun c10 => ?_) (fun c10 => ?_)
    · rw [c_eq (by first | assumption | (refine ⟨?_, ?_⟩ <;> omega) | (simp only [xr] at *; omega)) (by first | assumption | (refine ⟨?_, ?_⟩ <;> omega) | (simp only [xr] at *; omega))] at c10
      simp only [decide_eq_true_eq, decide_eq_false_iff_not, Decidable.not_not] at c10
      show xEx G0 cdX12_unlike (some .int) (xRn G0 MT (d + 4)) Q b 13 [some (.inr (.inr 66)), some (.inl 0), some (.inl k), some (.inl o), none, none] [.inr (.inr 66)] h
      refine E_s 4 (i' := 17) (ls' := [some (.inr (.inr 66)), some (.inl 0), some (.inl k), some (.inl o), none, none]) (sk' := [.inl 1]) (h' := (xup h 66 0 1)) rfl ?_
      refine E_b (x := (.ifCond .le 5, 20, [], [])) rfl rfl (fun c17 => ?_) (fun c17 => ?_)
      · show xEx G0 cdX12_unlike (some .int) (xRn G0 MT (d + 4)) Q b 20 [some (.inr (.inr 66)), some (.inl 0), some (.inl k), some (.inl o), none, none] [] (xup h 66 0 1)
        exact absurd c17 (by decide)
      · show xEx G0 cdX12_unlike (some .int) (xRn G0 MT (d + 4)) Q b 18 [some (.inr (.inr 66)), some (.inl 0), some (.inl k), some (.inl o), none, none] [] (xup h 66 0 1)
        refine E_s 1 (i' := 19) (ls' := [some (.inr (.inr 66)), some (.inl 0), some (.inl k), some (.inl o), none, none]) (sk' := [.inl 0]) (h' := (xup h 66 0 1)) rfl ?_
        exact E_ret (x := (.ireturn, 0, [], [])) (v := some (.inl 0)) rfl (Or.inl rfl) (hX (by omega))
    · rw [c_eq (by first | assumption | (refine ⟨?_, ?_⟩ <;> omega) | (simp only [xr] at *; omega)) (by first | assumption | (refine ⟨?_, ?_⟩ <;> omega) | (simp only [xr] at *; omega))] at c10
      simp only [decide_eq_true_eq, decide_eq_false_iff_not, Decidable.not_not] at c10
      show xEx G0 cdX12_unlike (some .int) (xRn G0 MT (d + 4)) Q b 11 [some (.inr (.inr 66)), some (.inl 0), some (.inl k), some (.inl o), none, none] [.inr (.inr 66)] h
      refine E_s 5 (i' := 17) (ls' := [some (.inr (.inr 66)), some (.inl 0), some (.inl k), some (.inl o), none, none]) (sk' := [.inl 0]) (h' := (xup h 66 0 0)) rfl ?_
      refine E_b (x := (.ifCond .le 5, 20, [], [])) rfl rfl (fun c17 => ?_) (fun c17 => ?_)
      · show xEx G0 cdX12_unlike (some .int) (xRn G0 MT (d + 4)) Q b 20 [some (.inr (.inr 66)), some (.inl 0), some (.inl k), some (.inl o), none, none] [] (xup h 66 0 0)
        refine E_s 1 (i' := 21) (ls' := [some (.inr (.inr 66)), some (.inl 0), some (.inl k), some (.inl o), none, none]) (sk' := [.inl 0]) (h' := (xup h 66 0 0)) rfl ?_
        refine E_b (x := (.ifCond .eq 17, 32, [], [])) rfl rfl (fun c21 => ?_) (fun c21 => ?_)
        · show xEx G0 cdX12_unlike (some .int) (xRn G0 MT (d + 4)) Q b 32 [some (.inr (.inr 66)), some (.inl 0), some (.inl k), some (.inl o), none, none] [] (xup h 66 0 0)
          refine E_s 4 (i' := 36) (ls' := [some (.inr (.inr 66)), some (.inl 0), some (.inl k), some (.inl o), some (.inl 0), some (.inl 0)]) (sk' := []) (h' := (xup h 66 0 0)) rfl ?_
          have key36 : ∀ (n : Nat) (s9 e : Int), (0 ≤ e) → (e ≤ h 66 4) → (s9 = (cv (fun e => ¬ h 77 (12 * k + e) = h 77 (12 * o + e)) e.toNat : Int)) → ((h 66 4 - e).toNat) < n → xEx G0 cdX12_unlike (some .int) (xRn G0 MT (d + 4)) Q b 36 [some (.inr (.inr 66)), some (.inl 0), some (.inl k), some (.inl o), some (.inl s9), some (.inl e)] [] (xup h 66 0 0) := by
            intro n
            induction n with
            | zero => intro s9 e _ _ _ hm; exact absurd hm (Nat.not_lt_zero _)
            | succ n ih36 =>
              intro s9 e he0 he9 hs9 hm36
              refine E_s 3 (i' := 39) (ls' := [some (.inr (.inr 66)), some (.inl 0), some (.inl k), some (.inl o), some (.inl s9), some (.inl e)]) (sk' := [.inl (h 66 4), .inl e]) (h' := (xup h 66 0 0)) rfl ?_
              refine E_b (x := (.if_icmp .ge 49, 67, [], [])) rfl rfl (fun c39 => ?_) (fun c39 => ?_)
              · rw [c_ge (by first | assumption | (refine ⟨?_, ?_⟩ <;> omega) | (simp only [xr] at *; omega)) (by first | assumption | (refine ⟨?_, ?_⟩ <;> omega) | (simp only [xr] at *; omega))] at c39
                simp only [decide_eq_true_eq, decide_eq_false_iff_not, Decidable.not_not] at c39
                show xEx G0 cdX12_unlike (some .int) (xRn G0 MT (d + 4)) Q b 67 [some (.inr (.inr 66)), some (.inl 0), some (.inl k), some (.inl o), some (.inl s9), some (.inl e)] [] (xup h 66 0 0)
                refine E_s 1 (i' := 68) (ls' := [some (.inr (.inr 66)), some (.inl 0), some (.inl k), some (.inl o), some (.inl s9), some (.inl e)]) (sk' := [.inl s9]) (h' := (xup h 66 0 0)) rfl ?_
                exact E_ret (x := (.ireturn, 0, [], [])) (v := some (.inl s9)) rfl (Or.inl rfl) (by
                  have e9 : e = h 66 4 := by omega
                  rw [hs9, e9]
                  exact h1 (by omega))
              · rw [c_ge (by first | assumption | (refine ⟨?_, ?_⟩ <;> omega) | (simp only [xr] at *; omega)) (by first | assumption | (refine ⟨?_, ?_⟩ <;> omega) | (simp only [xr] at *; omega))] at c39
                simp only [decide_eq_true_eq, decide_eq_false_iff_not, Decidable.not_not] at c39
                show xEx G0 cdX12_unlike (some .int) (xRn G0 MT (d + 4)) Q b 40 [some (.inr (.inr 66)), some (.inl 0), some (.inl k), some (.inl o), some (.inl s9), some (.inl e)] [] (xup h 66 0 0)
                have x1 := hr k e (by omega) (by omega) he0 (by omega)
                have x2 := hr o e (by omega) (by omega) he0 (by omega)
                refine E_s 8 (i' := 48) (ls' := [some (.inr (.inr 66)), some (.inl 0), some (.inl k), some (.inl o), some (.inl s9), some (.inl e)]) (sk' := [.inl ((12 * k) + e), .inr (.inr 77), .inl s9]) (h' := (xup h 66 0 0)) rfl ?_
                refine E_ld (x := (.iaload, 0, [], [])) (ty := .int) (n := 3600) rfl rfl rfl (by omega) (by omega) ?_
                show xEx G0 cdX12_unlike (some .int) (xRn G0 MT (d + 4)) Q b 49 [some (.inr (.inr 66)), some (.inl 0), some (.inl k), some (.inl o), some (.inl s9), some (.inl e)] [.inl (h 77 ((12 * k) + e)), .inl s9] (xup h 66 0 0)
                refine E_s 7 (i' := 56) (ls' := [some (.inr (.inr 66)), some (.inl 0), some (.inl k), some (.inl o), some (.inl s9), some (.inl e)]) (sk' := [.inl ((12 * o) + e), .inr (.inr 77), .inl (h 77 ((12 * k) + e)), .inl s9]) (h' := (xup h 66 0 0)) rfl ?_
                refine E_ld (x := (.iaload, 0, [], [])) (ty := .int) (n := 3600) rfl rfl rfl (by omega) (by omega) ?_
                show xEx G0 cdX12_unlike (some .int) (xRn G0 MT (d + 4)) Q b 57 [some (.inr (.inr 66)), some (.inl 0), some (.inl k), some (.inl o), some (.inl s9), some (.inl e)] [.inl (h 77 ((12 * o) + e)), .inl (h 77 ((12 * k) + e)), .inl s9] (xup h 66 0 0)
                refine E_b (x := (.if_icmp .eq 10, 62, [], [])) rfl rfl (fun c57 => ?_) (fun c57 => ?_)
                · rw [c_eq (by assumption) (by assumption)] at c57
                  simp only [decide_eq_true_eq, decide_eq_false_iff_not, Decidable.not_not] at c57
                  show xEx G0 cdX12_unlike (some .int) (xRn G0 MT (d + 4)) Q b 62 [some (.inr (.inr 66)), some (.inl 0), some (.inl k), some (.inl o), some (.inl s9), some (.inl e)] [.inl s9] (xup h 66 0 0)
                  refine E_s 5 (i' := 36) (ls' := [some (.inr (.inr 66)), some (.inl 0), some (.inl k), some (.inl o), some (.inl (xor_ s9 0)), some (.inl (e + 1))]) (sk' := []) (h' := (xup h 66 0 0)) rfl ?_
                  exact ih36 _ (e + 1) (by omega) (by omega) (by rw [hs9]; exact cv_z he0 (by omega) (fun z => z c57)) (by omega)
                · rw [c_eq (by assumption) (by assumption)] at c57
                  simp only [decide_eq_true_eq, decide_eq_false_iff_not, Decidable.not_not] at c57
                  show xEx G0 cdX12_unlike (some .int) (xRn G0 MT (d + 4)) Q b 58 [some (.inr (.inr 66)), some (.inl 0), some (.inl k), some (.inl o), some (.inl s9), some (.inl e)] [.inl s9] (xup h 66 0 0)
                  refine E_s 8 (i' := 36) (ls' := [some (.inr (.inr 66)), some (.inl 0), some (.inl k), some (.inl o), some (.inl (xor_ s9 (xshl 1 e))), some (.inl (e + 1))]) (sk' := []) (h' := (xup h 66 0 0)) rfl ?_
                  exact ih36 _ (e + 1) (by omega) (by omega) (by rw [hs9]; exact cv_s1 he0 (by omega) c57) (by omega)
          exact key36 _ 0 0 (by omega) (by omega) rfl (Nat.lt_succ_self _)
        · show xEx G0 cdX12_unlike (some .int) (xRn G0 MT (d + 4)) Q b 22 [some (.inr (.inr 66)), some (.inl 0), some (.inl k), some (.inl o), none, none] [] (xup h 66 0 0)
          exact absurd c21 (by decide)
      · show xEx G0 cdX12_unlike (some .int) (xRn G0 MT (d + 4)) Q b 18 [some (.inr (.inr 66)), some (.inl 0), some (.inl k), some (.inl o), none, none] [] (xup h 66 0 0)
        exact absurd c17 (by decide)
set_option maxHeartbeats 1000000 in
theorem CO_unlike0 (d : Nat) {h : xH} (hI : Inv h) (k o : Int) (hk : xr k) (ho : xr o) : CO (d + 6) 2 114 220 [.inl 0, .inl k, .inl o] ["java/util/NoSuchElementException"] h := by
  obtain ⟨b0, b1, -, -, -, -, -, -, b9⟩ := Inv_e hI
  obtain ⟨c1, -, -, -, -, -, m4, -⟩ := Inv_b hI
  have b8 : 0 ≤ h 66 8 ∧ h 66 8 ≤ 300 := by rw [b1]; exact b0
  have c8 : 0 ≤ h 66 4 ∧ h 66 4 ≤ 12 := by rw [m4]; exact c1
  have cc : ((0 ≤ k ∧ k < h 66 8) ∧ (0 ≤ o ∧ o < h 66 8)) ↔ ((0 ≤ k ∧ k < h 9 9) ∧ (0 ≤ o ∧ o < h 9 9)) := by rw [b1]
  refine o_unlike0 (d + 1) h k o hk ho c1 (fun k e z1 z2 z3 z4 => (far_k hI k e z1 z2 z3 z4).1) b0 (fun q u => ?_) (fun q u => ?_)
  · exact m_unlike0 (d + 1) 0 (xup h 112 0 u) k o hk ho c8 (fun k e z1 z2 z3 z4 => (far_m hI k e z1 z2 z3 z4).1) b8 (fun z => CO_v hI u (by
      show (cv (fun e => ¬ h 24 (k * 12 + e) = h 24 (o * 12 + e)) (h 1 2).toNat : Int) = (cv (fun e => ¬ h 77 (12 * k + e) = h 77 (12 * o + e)) (h 66 4).toNat : Int)
      rw [m4]
      refine congrArg _ (cv_congr _ (fun i hi => by rw [((b9 k q.1.1 q.1.2).2.2.2.2.2.2 i (by omega) (by omega)).1, ((b9 o q.2.1 q.2.2).2.2.2.2.2.2 i (by omega) (by omega)).1])))) (fun z => absurd (cc.mpr q) z)
  · exact m_unlike0 (d + 1) 0 (xup h 112 0 u) k o hk ho c8 (fun k e z1 z2 z3 z4 => (far_m hI k e z1 z2 z3 z4).1) b8 (fun z => absurd (cc.mp z) q) (fun _ => CO_x hI 0 rfl u 0)
set_option maxHeartbeats 1000000 in
theorem o_unlike1 (d  : Nat) (h : xH) (k o : Int) (hk : xr k) (ho : xr o) (hn : 0 ≤ h 1 2 ∧ h 1 2 ≤ 12) (hK1 : 0 ≤ h 28 9 ∧ h 28 9 ≤ 150) {Q : xO → xH → Prop} (h1 : (0 ≤ k ∧ k < h 28 9) ∧ (0 ≤ o ∧ o < h 28 9) → Q (.inl (some (.inl ((cv (fun e => ¬ xand (xshr (h 39 k) e) 1 = xand (xshr (h 39 o) e) 1) (h 1 2).toNat : Int))))) h) (hX : ¬ ((0 ≤ k ∧ k < h 28 9) ∧ (0 ≤ o ∧ o < h 28 9)) → Q (.inr "java/util/NoSuchElementException") h) : xRn G0 MT (d + 5) 2 114 [.inr (.inr 0), .inl 1, .inl k, .inl o] h Q := by
  refine R_of (M := mX11_unlike) rfl (Nat.le_of_ble_eq_true rfl) ?_
  show xEx G0 cdX11_unlike (some .int) (xRn G0 MT (d + 4)) Q 2 0 [some (.inr (.inr 0)), some (.inl 1), some (.inl k), some (.inl o), none, none, none] [] h
  refine E_s 3 (i' := 3) (ls' := [some (.inr (.inr 0)), some (.inl 1), some (.inl k), some (.inl o), none, none, none]) (sk' := [.inl k, .inl 1, .inr (.inr 0)]) (h' := h) rfl ?_
  refine E_cx (x := (.invokevirtual 194, 2, [(9, 143)], [0])) (b1 := 1) (b2 := 1) (v := (some (.inr (.inr 28)))) (q := fun h9 => (0 ≤ k ∧ k < h 28 9) ∧ h = h9) rfl rfl (Nat.le_of_ble_eq_true rfl) (fun z => by cases z) (c_growthWith1 (d + 1) h k hk hK1 (fun z => Or.inl ⟨rfl, z, rfl⟩) (fun z => Or.inr ⟨_, rfl, hX (fun y => z y.1)⟩)) (fun h9 hq9 => ?_)
  obtain ⟨qk, rfl⟩ := hq9
  show xEx G0 cdX11_unlike (some .int) (xRn G0 MT (d + 4)) Q 1 4 [some (.inr (.inr 0)), some (.inl 1), some (.inl k), some (.inl o), none, none, none] [.inr (.inr 28)] h
  refine E_s 4 (i' := 8) (ls' := [some (.inr (.inr 0)), some (.inl 1), some (.inl k), some (.inl o), some (.inr (.inr 28)), none, none]) (sk' := [.inl o, .inl 1, .inr (.inr 0)]) (h' := h) rfl ?_
  refine E_cx (x := (.invokevirtual 244, 2, [(9, 144)], [0])) (b1 := 1) (b2 := 0) (v := none) (q := fun h9 => (0 ≤ o ∧ o < h 28 9) ∧ h = h9) rfl rfl (Nat.le_of_ble_eq_true rfl) (fun z => by cases z) (c_refNotKept1 (d + 2) h o ho hK1 (fun z => Or.inl ⟨rfl, z, rfl⟩) (fun z => Or.inr ⟨_, rfl, hX (fun y => z y.2)⟩)) (fun h9 hq9 => ?_)
  obtain ⟨qo, rfl⟩ := hq9
  show xEx G0 cdX11_unlike (some .int) (xRn G0 MT (d + 4)) Q 0 9 [some (.inr (.inr 0)), some (.inl 1), some (.inl k), some (.inl o), some (.inr (.inr 28)), none, none] [] h
  refine E_s 4 (i' := 13) (ls' := [some (.inr (.inr 0)), some (.inl 1), some (.inl k), some (.inl o), some (.inr (.inr 28)), some (.inl 0), some (.inl 0)]) (sk' := []) (h' := h) rfl ?_
  have key13 : ∀ (n : Nat) (s9 e : Int), (0 ≤ e) → (e ≤ h 1 2) → (s9 = (cv (fun e => ¬ xand (xshr (h 39 k) e) 1 = xand (xshr (h 39 o) e) 1) e.toNat : Int)) → ((h 1 2 - e).toNat) < n → xEx G0 cdX11_unlike (some .int) (xRn G0 MT (d + 4)) Q 0 13 [some (.inr (.inr 0)), some (.inl 1), some (.inl k), some (.inl o), some (.inr (.inr 28)), some (.inl s9), some (.inl e)] [] h := by
    intro n
    induction n with
    | zero => intro s9 e _ _ _ hm; exact absurd hm (Nat.not_lt_zero _)
    | succ n ih13 =>
      intro s9 e he0 he9 hs9 hm13
      refine E_s 4 (i' := 17) (ls' := [some (.inr (.inr 0)), some (.inl 1), some (.inl k), some (.inl o), some (.inr (.inr 28)), some (.inl s9), some (.inl e)]) (sk' := [.inl (h 1 2), .inl e]) (h' := h) rfl ?_
      refine E_b (x := (.if_icmp .ge 37, 35, [], [])) rfl rfl (fun c17 => ?_) (fun c17 => ?_)
      · rw [c_ge (by first | assumption | (refine ⟨?_, ?_⟩ <;> omega) | (simp only [xr] at *; omega)) (by first | assumption | (refine ⟨?_, ?_⟩ <;> omega) | (simp only [xr] at *; omega))] at c17
        simp only [decide_eq_true_eq, decide_eq_false_iff_not, Decidable.not_not] at c17
        show xEx G0 cdX11_unlike (some .int) (xRn G0 MT (d + 4)) Q 0 35 [some (.inr (.inr 0)), some (.inl 1), some (.inl k), some (.inl o), some (.inr (.inr 28)), some (.inl s9), some (.inl e)] [] h
        refine E_s 1 (i' := 36) (ls' := [some (.inr (.inr 0)), some (.inl 1), some (.inl k), some (.inl o), some (.inr (.inr 28)), some (.inl s9), some (.inl e)]) (sk' := [.inl s9]) (h' := h) rfl ?_
        exact E_ret (x := (.ireturn, 0, [], [])) (v := some (.inl s9)) rfl (Or.inl rfl) (by
          have e9 : e = h 1 2 := by omega
          rw [hs9, e9]
          exact h1 ⟨qk, qo⟩)
      · rw [c_ge (by first | assumption | (refine ⟨?_, ?_⟩ <;> omega) | (simp only [xr] at *; omega)) (by first | assumption | (refine ⟨?_, ?_⟩ <;> omega) | (simp only [xr] at *; omega))] at c17
        simp only [decide_eq_true_eq, decide_eq_false_iff_not, Decidable.not_not] at c17
        show xEx G0 cdX11_unlike (some .int) (xRn G0 MT (d + 4)) Q 0 18 [some (.inr (.inr 0)), some (.inl 1), some (.inl k), some (.inl o), some (.inr (.inr 28)), some (.inl s9), some (.inl e)] [] h
        refine E_s 3 (i' := 21) (ls' := [some (.inr (.inr 0)), some (.inl 1), some (.inl k), some (.inl o), some (.inr (.inr 28)), some (.inl s9), some (.inl e)]) (sk' := [.inl e, .inl k, .inr (.inr 28)]) (h' := h) rfl ?_
        refine E_ci (x := (.invokevirtual 210, 2, [(1, 19), (7, 90)], [1])) (r := (xand (xshr (h 39 k) e) 1)) (h' := h) rfl rfl (Nat.le_of_ble_eq_true rfl) (c_outputOnT (d + 3) 0 h k e ⟨by omega, by omega⟩ ⟨rfl, rfl⟩) ?_
        show xEx G0 cdX11_unlike (some .int) (xRn G0 MT (d + 4)) Q 0 22 [some (.inr (.inr 0)), some (.inl 1), some (.inl k), some (.inl o), some (.inr (.inr 28)), some (.inl s9), some (.inl e)] [.inl (xand (xshr (h 39 k) e) 1)] h
        refine E_s 3 (i' := 25) (ls' := [some (.inr (.inr 0)), some (.inl 1), some (.inl k), some (.inl o), some (.inr (.inr 28)), some (.inl s9), some (.inl e)]) (sk' := [.inl e, .inl o, .inr (.inr 28), .inl (xand (xshr (h 39 k) e) 1)]) (h' := h) rfl ?_
        refine E_ci (x := (.invokevirtual 210, 2, [(1, 19), (7, 90)], [1])) (r := (xand (xshr (h 39 o) e) 1)) (h' := h) rfl rfl (Nat.le_of_ble_eq_true rfl) (c_outputOnT (d + 3) 0 h o e ⟨by omega, by omega⟩ ⟨rfl, rfl⟩) ?_
        show xEx G0 cdX11_unlike (some .int) (xRn G0 MT (d + 4)) Q 0 26 [some (.inr (.inr 0)), some (.inl 1), some (.inl k), some (.inl o), some (.inr (.inr 28)), some (.inl s9), some (.inl e)] [.inl (xand (xshr (h 39 o) e) 1), .inl (xand (xshr (h 39 k) e) 1)] h
        refine E_b (x := (.if_icmp .eq 12, 33, [], [])) rfl rfl (fun c26 => ?_) (fun c26 => ?_)
        · rw [c_eq (by first | exact xand_r _ _ | assumption) (by first | exact xand_r _ _ | assumption)] at c26
          simp only [decide_eq_true_eq, decide_eq_false_iff_not, Decidable.not_not] at c26
          show xEx G0 cdX11_unlike (some .int) (xRn G0 MT (d + 4)) Q 0 33 [some (.inr (.inr 0)), some (.inl 1), some (.inl k), some (.inl o), some (.inr (.inr 28)), some (.inl s9), some (.inl e)] [] h
          refine E_s 2 (i' := 13) (ls' := [some (.inr (.inr 0)), some (.inl 1), some (.inl k), some (.inl o), some (.inr (.inr 28)), some (.inl s9), some (.inl (e + 1))]) (sk' := []) (h' := h) rfl ?_
          exact ih13 _ (e + 1) (by omega) (by omega) (by rw [hs9]; exact cv_s0 he0 (fun z => z c26)) (by omega)
        · rw [c_eq (by first | exact xand_r _ _ | assumption) (by first | exact xand_r _ _ | assumption)] at c26
          simp only [decide_eq_true_eq, decide_eq_false_iff_not, Decidable.not_not] at c26
          show xEx G0 cdX11_unlike (some .int) (xRn G0 MT (d + 4)) Q 0 27 [some (.inr (.inr 0)), some (.inl 1), some (.inl k), some (.inl o), some (.inr (.inr 28)), some (.inl s9), some (.inl e)] [] h
          refine E_s 8 (i' := 13) (ls' := [some (.inr (.inr 0)), some (.inl 1), some (.inl k), some (.inl o), some (.inr (.inr 28)), some (.inl (xor_ s9 (xshl 1 e))), some (.inl (e + 1))]) (sk' := []) (h' := h) rfl ?_
          exact ih13 _ (e + 1) (by omega) (by omega) (by rw [hs9]; exact cv_s1 he0 (by omega) c26) (by omega)
  exact key13 _ 0 0 (by omega) (by omega) rfl (Nat.lt_succ_self _)
set_option maxHeartbeats 1000000 in
theorem m_unlike1 (d b : Nat) (h : xH) (k o : Int) (hk : xr k) (ho : xr o) (hn : 0 ≤ h 66 4 ∧ h 66 4 ≤ 12) (hM1 : 0 ≤ h 66 19 ∧ h 66 19 ≤ 150) {Q : xO → xH → Prop} (h1 : (0 ≤ k ∧ k < h 66 19) ∧ (0 ≤ o ∧ o < h 66 19) → Q (.inl (some (.inl (xxor (h 87 k) (h 87 o))))) (xup h 66 0 0)) (hX : ¬ ((0 ≤ k ∧ k < h 66 19) ∧ (0 ≤ o ∧ o < h 66 19)) → Q (.inl (some (.inl (0)))) (xup h 66 0 1)) : xRn G0 MT (d + 5) b 220 [.inr (.inr 66), .inl 1, .inl k, .inl o] h Q := by
  refine R_of (M := mX12_unlike) rfl (Nat.le_of_ble_eq_true rfl) ?_
  show xEx G0 cdX12_unlike (some .int) (xRn G0 MT (d + 4)) Q b 0 [some (.inr (.inr 66)), some (.inl 1), some (.inl k), some (.inl o), none, none] [] h
  refine E_s 4 (i' := 4) (ls' := [some (.inr (.inr 66)), some (.inl 1), some (.inl k), some (.inl o), none, none]) (sk' := [.inl k, .inl 1, .inr (.inr 66), .inr (.inr 66)]) (h' := h) rfl ?_
  refine E_cp (x := (.invokevirtual 295, 2, [(10, 193)], [0])) (q := fun r1 h9 => ((r1 = 1 ∧ (0 ≤ k ∧ k < h 66 19)) ∨ (r1 = 0 ∧ ¬ (0 ≤ k ∧ k < h 66 19))) ∧ h = h9) rfl rfl (Nat.le_of_ble_eq_true rfl) (m_isKept1 (d + 2) 0 h k hk hM1 (fun z => ⟨_, rfl, Or.inl ⟨rfl, z⟩, rfl⟩) (fun z => ⟨_, rfl, Or.inr ⟨rfl, z⟩, rfl⟩)) (fun r1 h9 q1 => ?_)
  obtain ⟨q1, rfl⟩ := q1
  show xEx G0 cdX12_unlike (some .int) (xRn G0 MT (d + 4)) Q b 5 [some (.inr (.inr 66)), some (.inl 1), some (.inl k), some (.inl o), none, none] [.inl r1, .inr (.inr 66)] h
  refine E_b (x := (.ifCond .eq 16, 13, [], [])) rfl rfl (fun c5 => ?_) (fun c5 => ?_)
  · rw [c_eq (by first | assumption | (refine ⟨?_, ?_⟩ <;> omega) | (simp only [xr] at *; omega)) (by first | assumption | (refine ⟨?_, ?_⟩ <;> omega) | (simp only [xr] at *; omega))] at c5
    simp only [decide_eq_true_eq, decide_eq_false_iff_not, Decidable.not_not] at c5
    show xEx G0 cdX12_unlike (some .int) (xRn G0 MT (d + 4)) Q b 13 [some (.inr (.inr 66)), some (.inl 1), some (.inl k), some (.inl o), none, none] [.inr (.inr 66)] h
    refine E_s 4 (i' := 17) (ls' := [some (.inr (.inr 66)), some (.inl 1), some (.inl k), some (.inl o), none, none]) (sk' := [.inl 1]) (h' := (xup h 66 0 1)) rfl ?_
    refine E_b (x := (.ifCond .le 5, 20, [], [])) rfl rfl (fun c17 => ?_) (fun c17 => ?_)
    · show xEx G0 cdX12_unlike (some .int) (xRn G0 MT (d + 4)) Q b 20 [some (.inr (.inr 66)), some (.inl 1), some (.inl k), some (.inl o), none, none] [] (xup h 66 0 1)
      exact absurd c17 (by decide)
    · show xEx G0 cdX12_unlike (some .int) (xRn G0 MT (d + 4)) Q b 18 [some (.inr (.inr 66)), some (.inl 1), some (.inl k), some (.inl o), none, none] [] (xup h 66 0 1)
      refine E_s 1 (i' := 19) (ls' := [some (.inr (.inr 66)), some (.inl 1), some (.inl k), some (.inl o), none, none]) (sk' := [.inl 0]) (h' := (xup h 66 0 1)) rfl ?_
      exact E_ret (x := (.ireturn, 0, [], [])) (v := some (.inl 0)) rfl (Or.inl rfl) (hX (by omega))
  · rw [c_eq (by first | assumption | (refine ⟨?_, ?_⟩ <;> omega) | (simp only [xr] at *; omega)) (by first | assumption | (refine ⟨?_, ?_⟩ <;> omega) | (simp only [xr] at *; omega))] at c5
    simp only [decide_eq_true_eq, decide_eq_false_iff_not, Decidable.not_not] at c5
    show xEx G0 cdX12_unlike (some .int) (xRn G0 MT (d + 4)) Q b 6 [some (.inr (.inr 66)), some (.inl 1), some (.inl k), some (.inl o), none, none] [.inr (.inr 66)] h
    refine E_s 3 (i' := 9) (ls' := [some (.inr (.inr 66)), some (.inl 1), some (.inl k), some (.inl o), none, none]) (sk' := [.inl o, .inl 1, .inr (.inr 66), .inr (.inr 66)]) (h' := h) rfl ?_
    refine E_cp (x := (.invokevirtual 295, 2, [(10, 193)], [0])) (q := fun r2 h9 => ((r2 = 1 ∧ (0 ≤ o ∧ o < h 66 19)) ∨ (r2 = 0 ∧ ¬ (0 ≤ o ∧ o < h 66 19))) ∧ h = h9) rfl rfl (Nat.le_of_ble_eq_true rfl) (m_isKept1 (d + 2) 0 h o ho hM1 (fun z => ⟨_, rfl, Or.inl ⟨rfl, z⟩, rfl⟩) (fun z => ⟨_, rfl, Or.inr ⟨rfl, z⟩, rfl⟩)) (fun r2 h9 q2 => ?_)
    obtain ⟨q2, rfl⟩ := q2
    show xEx G0 cdX12_unlike (some .int) (xRn G0 MT (d + 4)) Q b 10 [some (.inr (.inr 66)), some (.inl 1), some (.inl k), some (.inl o), none, none] [.inl r2, .inr (.inr 66)] h
    refine E_b (x := (.ifCond .eq 7, 13, [], [])) rfl rfl (fun c10 => ?_) (fun c10 => ?_)
    · rw [c_eq (by first | assumption | (refine ⟨?_, ?_⟩ <;> omega) | (simp only [xr] at *; omega)) (by first | assumption | (refine ⟨?_, ?_⟩ <;> omega) | (simp only [xr] at *; omega))] at c10
      simp only [decide_eq_true_eq, decide_eq_false_iff_not, Decidable.not_not] at c10
      show xEx G0 cdX12_unlike (some .int) (xRn G0 MT (d + 4)) Q b 13 [some (.inr (.inr 66)), some (.inl 1), some (.inl k), some (.inl o), none, none] [.inr (.inr 66)] h
      refine E_s 4 (i' := 17) (ls' := [some (.inr (.inr 66)), some (.inl 1), some (.inl k), some (.inl o), none, none]) (sk' := [.inl 1]) (h' := (xup h 66 0 1)) rfl ?_
      refine E_b (x := (.ifCond .le 5, 20, [], [])) rfl rfl (fun c17 => ?_) (fun c17 => ?_)
      · show xEx G0 cdX12_unlike (some .int) (xRn G0 MT (d + 4)) Q b 20 [some (.inr (.inr 66)), some (.inl 1), some (.inl k), some (.inl o), none, none] [] (xup h 66 0 1)
        exact absurd c17 (by decide)
      · show xEx G0 cdX12_unlike (some .int) (xRn G0 MT (d + 4)) Q b 18 [some (.inr (.inr 66)), some (.inl 1), some (.inl k), some (.inl o), none, none] [] (xup h 66 0 1)
        refine E_s 1 (i' := 19) (ls' := [some (.inr (.inr 66)), some (.inl 1), some (.inl k), some (.inl o), none, none]) (sk' := [.inl 0]) (h' := (xup h 66 0 1)) rfl ?_
        exact E_ret (x := (.ireturn, 0, [], [])) (v := some (.inl 0)) rfl (Or.inl rfl) (hX (by omega))
    · rw [c_eq (by first | assumption | (refine ⟨?_, ?_⟩ <;> omega) | (simp only [xr] at *; omega)) (by first | assumption | (refine ⟨?_, ?_⟩ <;> omega) | (simp only [xr] at *; omega))] at c10
      simp only [decide_eq_true_eq, decide_eq_false_iff_not, Decidable.not_not] at c10
      show xEx G0 cdX12_unlike (some .int) (xRn G0 MT (d + 4)) Q b 11 [some (.inr (.inr 66)), some (.inl 1), some (.inl k), some (.inl o), none, none] [.inr (.inr 66)] h
      refine E_s 5 (i' := 17) (ls' := [some (.inr (.inr 66)), some (.inl 1), some (.inl k), some (.inl o), none, none]) (sk' := [.inl 0]) (h' := (xup h 66 0 0)) rfl ?_
      refine E_b (x := (.ifCond .le 5, 20, [], [])) rfl rfl (fun c17 => ?_) (fun c17 => ?_)
      · show xEx G0 cdX12_unlike (some .int) (xRn G0 MT (d + 4)) Q b 20 [some (.inr (.inr 66)), some (.inl 1), some (.inl k), some (.inl o), none, none] [] (xup h 66 0 0)
        refine E_s 1 (i' := 21) (ls' := [some (.inr (.inr 66)), some (.inl 1), some (.inl k), some (.inl o), none, none]) (sk' := [.inl 1]) (h' := (xup h 66 0 0)) rfl ?_
        refine E_b (x := (.ifCond .eq 17, 32, [], [])) rfl rfl (fun c21 => ?_) (fun c21 => ?_)
        · show xEx G0 cdX12_unlike (some .int) (xRn G0 MT (d + 4)) Q b 32 [some (.inr (.inr 66)), some (.inl 1), some (.inl k), some (.inl o), none, none] [] (xup h 66 0 0)
          exact absurd c21 (by decide)
        · show xEx G0 cdX12_unlike (some .int) (xRn G0 MT (d + 4)) Q b 22 [some (.inr (.inr 66)), some (.inl 1), some (.inl k), some (.inl o), none, none] [] (xup h 66 0 0)
          refine E_s 3 (i' := 25) (ls' := [some (.inr (.inr 66)), some (.inl 1), some (.inl k), some (.inl o), none, none]) (sk' := [.inl k, .inr (.inr 87)]) (h' := (xup h 66 0 0)) rfl ?_
          refine E_ld (x := (.iaload, 0, [], [])) (ty := .int) (n := 150) rfl rfl rfl (by omega) (by omega) ?_
          show xEx G0 cdX12_unlike (some .int) (xRn G0 MT (d + 4)) Q b 26 [some (.inr (.inr 66)), some (.inl 1), some (.inl k), some (.inl o), none, none] [.inl (h 87 k)] (xup h 66 0 0)
          refine E_s 3 (i' := 29) (ls' := [some (.inr (.inr 66)), some (.inl 1), some (.inl k), some (.inl o), none, none]) (sk' := [.inl o, .inr (.inr 87), .inl (h 87 k)]) (h' := (xup h 66 0 0)) rfl ?_
          refine E_ld (x := (.iaload, 0, [], [])) (ty := .int) (n := 150) rfl rfl rfl (by omega) (by omega) ?_
          show xEx G0 cdX12_unlike (some .int) (xRn G0 MT (d + 4)) Q b 30 [some (.inr (.inr 66)), some (.inl 1), some (.inl k), some (.inl o), none, none] [.inl (h 87 o), .inl (h 87 k)] (xup h 66 0 0)
          refine E_s 1 (i' := 31) (ls' := [some (.inr (.inr 66)), some (.inl 1), some (.inl k), some (.inl o), none, none]) (sk' := [.inl (xxor (h 87 k) (h 87 o))]) (h' := (xup h 66 0 0)) rfl ?_
          exact E_ret (x := (.ireturn, 0, [], [])) (v := some (.inl (xxor (h 87 k) (h 87 o)))) rfl (Or.inl rfl) (h1 (by omega))
      · show xEx G0 cdX12_unlike (some .int) (xRn G0 MT (d + 4)) Q b 18 [some (.inr (.inr 66)), some (.inl 1), some (.inl k), some (.inl o), none, none] [] (xup h 66 0 0)
        exact absurd c17 (by decide)
set_option maxHeartbeats 1000000 in
theorem CO_unlike1 (d : Nat) {h : xH} (hI : Inv h) (k o : Int) (hk : xr k) (ho : xr o) : CO (d + 6) 2 114 220 [.inl 1, .inl k, .inl o] ["java/util/NoSuchElementException"] h := by
  obtain ⟨b0, b1, -, -, -, -, -, -, b9⟩ := Inv_t hI
  obtain ⟨c1, -, -, -, -, -, m4, -⟩ := Inv_b hI
  have b8 : 0 ≤ h 66 19 ∧ h 66 19 ≤ 150 := by rw [b1]; exact b0
  have c8 : 0 ≤ h 66 4 ∧ h 66 4 ≤ 12 := by rw [m4]; exact c1
  have cc : ((0 ≤ k ∧ k < h 66 19) ∧ (0 ≤ o ∧ o < h 66 19)) ↔ ((0 ≤ k ∧ k < h 28 9) ∧ (0 ≤ o ∧ o < h 28 9)) := by rw [b1]
  refine o_unlike1 (d + 1) h k o hk ho c1 b0 (fun q u => ?_) (fun q u => ?_)
  · exact m_unlike1 (d + 1) 0 (xup h 112 0 u) k o hk ho c8 b8 (fun z => CO_v hI u (by
      show _ = xxor (h 87 k) (h 87 o)
      rw [(b9 k q.1.1 q.1.2).2.2.1, (b9 o q.2.1 q.2.2).2.2.1]
      exact (xxor_cv c1.1 c1.2 (b9 k q.1.1 q.1.2).2.2.2.2.1 (b9 o q.2.1 q.2.2).2.2.2.2.1).symm)) (fun z => absurd (cc.mpr q) z)
  · exact m_unlike1 (d + 1) 0 (xup h 112 0 u) k o hk ho c8 b8 (fun z => absurd (cc.mp z) q) (fun _ => CO_x hI 0 rfl u 0)
