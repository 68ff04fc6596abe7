theorem andn_0 {a b : Nat} : andn a b = 0 ↔ b &&& a = a := by
  constructor
  · intro h
    apply Nat.eq_of_testBit_eq
    intro i
    have h1 := congrArg (fun x => Nat.testBit x i) h
    simp only [andn, Nat.testBit_and, Nat.testBit_xor, Nat.zero_testBit] at h1 ⊢
    revert h1
    cases a.testBit i <;> cases b.testBit i <;> decide
  · intro h
    apply Nat.eq_of_testBit_eq
    intro i
    have h1 := congrArg (fun x => Nat.testBit x i) h
    simp only [andn, Nat.testBit_and, Nat.testBit_xor, Nat.zero_testBit] at h1 ⊢
    revert h1
    cases a.testBit i <;> cases b.testBit i <;> decide
theorem sub_iff {a b : Int} (ha : 0 ≤ a ∧ a < 4096) (hb : 0 ≤ b ∧ b < 4096) : xand b a = a ↔ sub a b := by
  obtain ⟨x, rfl⟩ : ∃ x : Nat, a = (x : Int) := ⟨a.toNat, by omega⟩
  obtain ⟨y, rfl⟩ : ∃ y : Nat, b = (y : Int) := ⟨b.toNat, by omega⟩
  unfold sub
  rw [n_andn (by omega) (by omega), n_and (by omega) (by omega)]
  constructor
  · intro h
    have := andn_0.mpr (Int.ofNat_inj.mp h)
    rw [this]; rfl
  · intro h
    have h9 : andn x y = 0 := by omega
    rw [andn_0.mp h9]
theorem xand_cm (a b : Int) : xand a b = xand b a := by unfold xand; rw [Int32.and_comm]
theorem neg_and {a b : Int} (ha : w32 a < 0) (hb : w32 b < 0) : xand a b < 0 := by
  have e1 : (Int32.ofInt a).toBitVec.msb = true := by rw [BitVec.msb_eq_toInt]; exact decide_eq_true ha
  have e2 : (Int32.ofInt b).toBitVec.msb = true := by rw [BitVec.msb_eq_toInt]; exact decide_eq_true hb
  have e3 : (Int32.ofInt a &&& Int32.ofInt b).toBitVec.msb = true := by rw [Int32.toBitVec_and, BitVec.msb_and, e1, e2]; rfl
  rw [BitVec.msb_eq_toInt] at e3
  exact of_decide_eq_true e3
theorem neg_not {a : Int} (ha : 0 ≤ w32 a) : xxor a (-1) < 0 := by
  have e1 : (Int32.ofInt a).toBitVec.msb = false := by rw [BitVec.msb_eq_toInt]; exact decide_eq_false (fun h => absurd ha (Int.not_le.mpr h))
  have e2 : (Int32.ofInt (-1)).toBitVec.msb = true := by decide
  have e3 : (Int32.ofInt a ^^^ Int32.ofInt (-1)).toBitVec.msb = true := by rw [Int32.toBitVec_xor, BitVec.msb_xor, e1, e2]; rfl
  rw [BitVec.msb_eq_toInt] at e3
  exact of_decide_eq_true e3
theorem xxor_wi (a b : Int) : w32 (xxor a b) = xxor a b := by unfold w32 xxor; rw [Int32.ofInt_toInt]
theorem str_iff {s n : Int} (hs : xr s) (h0 : 0 ≤ n) (h1 : n ≤ 12) : xand s (xxor (xshl 1 n - 1) (-1)) = 0 ↔ 0 ≤ s ∧ s < (2 ^ n.toNat : Nat) := by
  have hp := pw31 h1
  have ha := all_e h0 h1
  by_cases z : 0 ≤ s
  · obtain ⟨x, rfl⟩ : ∃ x : Nat, s = (x : Int) := ⟨s.toNat, by omega⟩
    have hx : x < 2 ^ 31 := by have := hs.2; omega
    have hq : 0 < 2 ^ n.toNat := Nat.two_pow_pos _
    rw [n_all h0 h1, n_andn hx (by omega)]
    constructor
    · intro h
      have h9 : andn x (2 ^ n.toNat - 1) = 0 := by omega
      have h8 := andn_0.mp h9
      rw [Nat.and_comm, Nat.and_two_pow_sub_one_eq_mod] at h8
      have := Nat.mod_lt x hq
      omega
    · intro h
      have h9 : andn x (2 ^ n.toNat - 1) = 0 := by
        apply andn_0.mpr
        rw [Nat.and_comm, Nat.and_two_pow_sub_one_eq_mod]
        exact Nat.mod_eq_of_lt (by omega)
      rw [h9]; rfl
  · constructor
    · intro h
      have := neg_and (a := s) (b := xxor (xshl 1 n - 1) (-1)) (by rw [w32_id hs]; omega) (by rw [xxor_wi]; exact neg_not (by rw [w32_id ⟨by omega, by omega⟩]; exact ha.1))
      omega
    · intro h; exact absurd h.1 z
theorem i32_0 (x : Int32) : x.toInt = 0 ↔ x.toBitVec = 0#32 := by
  constructor
  · intro h
    have : x = 0 := Int32.toInt_inj.mp (h.trans (by decide))
    rw [this]; rfl
  · intro h
    have : x = 0 := Int32.toBitVec_inj.mp (h.trans (by rfl))
    rw [this]; rfl
theorem or_and0 {a b m : Int} : xand (xor_ a b) m = 0 ↔ xand a m = 0 ∧ xand b m = 0 := by
  unfold xand xor_
  rw [Int32.ofInt_toInt, i32_0, i32_0, i32_0, Int32.toBitVec_and, Int32.toBitVec_or, Int32.toBitVec_and, Int32.toBitVec_and]
  generalize (Int32.ofInt a).toBitVec = A
  generalize (Int32.ofInt b).toBitVec = B
  generalize (Int32.ofInt m).toBitVec = M
  constructor
  · intro h
    constructor
    · apply BitVec.eq_of_getLsbD_eq
      intro i hi
      have h1 := congrArg (fun x => BitVec.getLsbD x i) h
      simp only [BitVec.getLsbD_and, BitVec.getLsbD_or, BitVec.getLsbD_zero] at h1 ⊢
      revert h1
      cases A.getLsbD i <;> cases B.getLsbD i <;> cases M.getLsbD i <;> decide
    · apply BitVec.eq_of_getLsbD_eq
      intro i hi
      have h1 := congrArg (fun x => BitVec.getLsbD x i) h
      simp only [BitVec.getLsbD_and, BitVec.getLsbD_or, BitVec.getLsbD_zero] at h1 ⊢
      revert h1
      cases A.getLsbD i <;> cases B.getLsbD i <;> cases M.getLsbD i <;> decide
  · rintro ⟨h, g⟩
    apply BitVec.eq_of_getLsbD_eq
    intro i hi
    have h1 := congrArg (fun x => BitVec.getLsbD x i) h
    have h2 := congrArg (fun x => BitVec.getLsbD x i) g
    simp only [BitVec.getLsbD_and, BitVec.getLsbD_or, BitVec.getLsbD_zero] at h1 h2 ⊢
    revert h1 h2
    cases A.getLsbD i <;> cases B.getLsbD i <;> cases M.getLsbD i <;> decide
theorem xor_r (a b : Int) : xr (xor_ a b) := by
  have := w32_r (xor_ a b)
  unfold w32 xor_ at this
  rw [Int32.ofInt_toInt] at this
  exact this
/-- how many have it -/
def cntZ (f : Int → Int) (z : Int) : Nat → Int
  | 0 => 0
  | m + 1 => cntZ f z m + if f m = z then 1 else 0
theorem cntZ_1 (f : Int → Int) (z : Int) {k : Int} (h : 0 ≤ k) : cntZ f z (k + 1).toNat = cntZ f z k.toNat + if f k = z then 1 else 0 := by
  obtain ⟨m, rfl⟩ : ∃ m : Nat, k = m := ⟨k.toNat, by omega⟩
  have : ((m : Int) + 1).toNat = m + 1 := by omega
  rw [this]
  rfl
theorem cntZ_r (f : Int → Int) (z : Int) : ∀ m : Nat, 0 ≤ cntZ f z m ∧ cntZ f z m ≤ m
  | 0 => ⟨Int.le_refl _, Int.le_refl _⟩
  | m + 1 => by
    have := cntZ_r f z m
    unfold cntZ
    split <;> omega
theorem cntZ_congr {f g : Int → Int} (z : Int) : ∀ m : Nat, (∀ k : Int, 0 ≤ k → k < m → f k = g k) → cntZ f z m = cntZ g z m
  | 0, _ => rfl
  | m + 1, h => by
    unfold cntZ
    rw [cntZ_congr z m (fun k a b => h k a (by omega)), h m (by omega) (by omega)]
theorem first_u {P : Int → Prop} {a b : Int} (ha : P a) (hb : P b) (a0 : 0 ≤ a) (b0 : 0 ≤ b) (la : ∀ j, 0 ≤ j → j < a → ¬ P j) (lb : ∀ j, 0 ≤ j → j < b → ¬ P j) : a = b := by
  rcases Int.lt_trichotomy a b with z | z | z
  · exact absurd ha (lb a a0 z)
  · exact z
  · exact absurd hb (la b b0 z)
set_option maxHeartbeats 1000000 in
theorem o_ofSize0 (d  : Nat) (h : xH) (z : Int) (hz : xr z) (hr : ∀ k, 0 ≤ k → k < h 9 9 → 1 ≤ h 18 k ∧ h 18 k ≤ 9) (hK0 : 0 ≤ h 9 9 ∧ h 9 9 ≤ 300) {Q : xO → xH → Prop} (hQ : Q (.inl (some (.inl (cntZ (h 18) z (h 9 9).toNat)))) h) : xRn G0 MT (d + 2) 0 113 [.inr (.inr 0), .inl 0, .inl z] h Q := by
  refine R_of (M := mX11_ofSize) rfl (Nat.le_of_ble_eq_true rfl) ?_
  show xEx G0 cdX11_ofSize (some .int) (xRn G0 MT (d + 1)) Q 0 0 [some (.inr (.inr 0)), some (.inl 0), some (.inl z), none, none, none] [] h
  refine E_s 2 (i' := 2) (ls' := [some (.inr (.inr 0)), some (.inl 0), some (.inl z), none, none, none]) (sk' := [.inl 0, .inr (.inr 0)]) (h' := h) rfl ?_
  refine E_cx (x := (.invokevirtual 161, 1, [(9, 142)], [0])) (b1 := 0) (b2 := 0) (v := (some (.inr (.inr 9)))) (q := fun h9 => (True) ∧ h = h9) rfl rfl (Nat.le_of_ble_eq_true rfl) (fun z => by cases z) (c_growthOf0 d 0 h (Or.inl ⟨rfl, trivial, rfl⟩)) (fun h9 hq9 => ?_)
  obtain ⟨_t, rfl⟩ := hq9
  show xEx G0 cdX11_ofSize (some .int) (xRn G0 MT (d + 1)) Q 0 3 [some (.inr (.inr 0)), some (.inl 0), some (.inl z), none, none, none] [.inr (.inr 9)] h
  refine E_s 5 (i' := 8) (ls' := [some (.inr (.inr 0)), some (.inl 0), some (.inl z), some (.inr (.inr 9)), some (.inl 0), some (.inl 0)]) (sk' := []) (h' := h) rfl ?_
  have key8 : ∀ (n : Nat) (n9 k : Int), (0 ≤ k) → (k ≤ h 9 9) → (n9 = cntZ (h 18) z k.toNat) → ((h 9 9 - k).toNat) < n → xEx G0 cdX11_ofSize (some .int) (xRn G0 MT (d + 1)) Q 0 8 [some (.inr (.inr 0)), some (.inl 0), some (.inl z), some (.inr (.inr 9)), some (.inl n9), some (.inl k)] [] h := by
    intro n
    induction n with
    | zero => intro n9 k _ _ _ hm; exact absurd hm (Nat.not_lt_zero _)
    | succ n ih8 =>
      intro n9 k hk0 hk9 hn9 hm8
      refine E_s 3 (i' := 11) (ls' := [some (.inr (.inr 0)), some (.inl 0), some (.inl z), some (.inr (.inr 9)), some (.inl n9), some (.inl k)]) (sk' := [.inl (h 9 9), .inl k]) (h' := h) rfl ?_
      refine E_b (x := (.if_icmp .ge 23, 21, [], [])) rfl rfl (fun c11 => ?_) (fun c11 => ?_)
      · rw [c_ge (by first | assumption | (refine ⟨?_, ?_⟩ <;> omega) | (simp only [xr] at *; omega)) (by first | assumption | (refine ⟨?_, ?_⟩ <;> omega) | (simp only [xr] at *; omega))] at c11
        simp only [decide_eq_true_eq, decide_eq_false_iff_not, Decidable.not_not] at c11
        show xEx G0 cdX11_ofSize (some .int) (xRn G0 MT (d + 1)) Q 0 21 [some (.inr (.inr 0)), some (.inl 0), some (.inl z), some (.inr (.inr 9)), some (.inl n9), some (.inl k)] [] h
        refine E_s 1 (i' := 22) (ls' := [some (.inr (.inr 0)), some (.inl 0), some (.inl z), some (.inr (.inr 9)), some (.inl n9), some (.inl k)]) (sk' := [.inl n9]) (h' := h) rfl ?_
        exact E_ret (x := (.ireturn, 0, [], [])) (v := some (.inl n9)) rfl (Or.inl rfl) (by
          have e9 : k = h 9 9 := by omega
          rw [hn9, e9]
          exact hQ)
      · rw [c_ge (by first | assumption | (refine ⟨?_, ?_⟩ <;> omega) | (simp only [xr] at *; omega)) (by first | assumption | (refine ⟨?_, ?_⟩ <;> omega) | (simp only [xr] at *; omega))] at c11
        simp only [decide_eq_true_eq, decide_eq_false_iff_not, Decidable.not_not] at c11
        show xEx G0 cdX11_ofSize (some .int) (xRn G0 MT (d + 1)) Q 0 12 [some (.inr (.inr 0)), some (.inl 0), some (.inl z), some (.inr (.inr 9)), some (.inl n9), some (.inl k)] [] h
        refine E_s 3 (i' := 15) (ls' := [some (.inr (.inr 0)), some (.inl 0), some (.inl z), some (.inr (.inr 9)), some (.inl n9), some (.inl k)]) (sk' := [.inl k, .inr (.inr 18)]) (h' := h) rfl ?_
        have r9 := hr k hk0 (by omega)
        refine E_ld (x := (.iaload, 0, [], [])) (ty := .int) (n := 300) rfl rfl rfl (by omega) (by omega) ?_
        show xEx G0 cdX11_ofSize (some .int) (xRn G0 MT (d + 1)) Q 0 16 [some (.inr (.inr 0)), some (.inl 0), some (.inl z), some (.inr (.inr 9)), some (.inl n9), some (.inl k)] [.inl (h 18 k)] h
        refine E_s 1 (i' := 17) (ls' := [some (.inr (.inr 0)), some (.inl 0), some (.inl z), some (.inr (.inr 9)), some (.inl n9), some (.inl k)]) (sk' := [.inl z, .inl (h 18 k)]) (h' := h) rfl ?_
        refine E_b (x := (.if_icmp .ne 6, 19, [], [])) rfl rfl (fun c17 => ?_) (fun c17 => ?_)
        · rw [c_ne (by first | assumption | (refine ⟨?_, ?_⟩ <;> omega) | (simp only [xr] at *; omega)) (by first | assumption | (refine ⟨?_, ?_⟩ <;> omega) | (simp only [xr] at *; omega))] at c17
          simp only [decide_eq_true_eq, decide_eq_false_iff_not, Decidable.not_not] at c17
          show xEx G0 cdX11_ofSize (some .int) (xRn G0 MT (d + 1)) Q 0 19 [some (.inr (.inr 0)), some (.inl 0), some (.inl z), some (.inr (.inr 9)), some (.inl n9), some (.inl k)] [] h
          refine E_s 2 (i' := 8) (ls' := [some (.inr (.inr 0)), some (.inl 0), some (.inl z), some (.inr (.inr 9)), some (.inl n9), some (.inl (k + 1))]) (sk' := []) (h' := h) rfl ?_
          exact ih8 _ (k + 1) (by omega) (by omega) (by rw [cntZ_1 _ _ hk0, hn9]; first | rw [if_pos c17] | (rw [if_neg c17]; omega)) (by omega)
        · rw [c_ne (by first | assumption | (refine ⟨?_, ?_⟩ <;> omega) | (simp only [xr] at *; omega)) (by first | assumption | (refine ⟨?_, ?_⟩ <;> omega) | (simp only [xr] at *; omega))] at c17
          simp only [decide_eq_true_eq, decide_eq_false_iff_not, Decidable.not_not] at c17
          show xEx G0 cdX11_ofSize (some .int) (xRn G0 MT (d + 1)) Q 0 18 [some (.inr (.inr 0)), some (.inl 0), some (.inl z), some (.inr (.inr 9)), some (.inl n9), some (.inl k)] [] h
          refine E_s 3 (i' := 8) (ls' := [some (.inr (.inr 0)), some (.inl 0), some (.inl z), some (.inr (.inr 9)), some (.inl (n9 + 1)), some (.inl (k + 1))]) (sk' := []) (h' := h) rfl ?_
          exact ih8 _ (k + 1) (by omega) (by omega) (by rw [cntZ_1 _ _ hk0, hn9]; first | rw [if_pos c17] | (rw [if_neg c17]; omega)) (by omega)
  exact key8 _ 0 0 (by omega) (by omega) rfl (Nat.lt_succ_self _)
set_option maxHeartbeats 1000000 in
theorem m_ofSize0 (d b : Nat) (h : xH) (z : Int) (hz : xr z) (hr : ∀ k, 0 ≤ k → k < h 66 8 → 1 ≤ h 75 k ∧ h 75 k ≤ 9) (hM0 : 0 ≤ h 66 8 ∧ h 66 8 ≤ 300) {Q : xO → xH → Prop} (hQ : Q (.inl (some (.inl (cntZ (h 75) z (h 66 8).toNat)))) (xup h 66 0 0)) : xRn G0 MT (d + 1) b 219 [.inr (.inr 66), .inl 0, .inl z] h Q := by
  refine R_of (M := mX12_ofSize) rfl (Nat.le_of_ble_eq_true rfl) ?_
  show xEx G0 cdX12_ofSize (some .int) (xRn G0 MT d) Q b 0 [some (.inr (.inr 66)), some (.inl 0), some (.inl z), none, none] [] h
  refine E_s 7 (i' := 7) (ls' := [some (.inr (.inr 66)), some (.inl 0), some (.inl z), some (.inl 0), some (.inl 0)]) (sk' := []) (h' := (xup h 66 0 0)) rfl ?_
  have key7 : ∀ (n : Nat) (n9 k : Int), (0 ≤ k) → (k ≤ h 66 8) → (n9 = cntZ (h 75) z k.toNat) → ((h 66 8 - k).toNat) < n → xEx G0 cdX12_ofSize (some .int) (xRn G0 MT d) Q b 7 [some (.inr (.inr 66)), some (.inl 0), some (.inl z), some (.inl n9), some (.inl k)] [] (xup h 66 0 0) := by
    intro n
    induction n with
    | zero => intro n9 k _ _ _ hm; exact absurd hm (Nat.not_lt_zero _)
    | succ n ih7 =>
      intro n9 k hk0 hk9 hn9 hm7
      refine E_s 2 (i' := 9) (ls' := [some (.inr (.inr 66)), some (.inl 0), some (.inl z), some (.inl n9), some (.inl k)]) (sk' := [.inl 0, .inl k]) (h' := (xup h 66 0 0)) rfl ?_
      refine E_b (x := (.ifCond .eq 10, 13, [], [])) rfl rfl (fun c9 => ?_) (fun c9 => ?_)
      · show xEx G0 cdX12_ofSize (some .int) (xRn G0 MT d) Q b 13 [some (.inr (.inr 66)), some (.inl 0), some (.inl z), some (.inl n9), some (.inl k)] [.inl k] (xup h 66 0 0)
        refine E_s 2 (i' := 15) (ls' := [some (.inr (.inr 66)), some (.inl 0), some (.inl z), some (.inl n9), some (.inl k)]) (sk' := [.inl (h 66 8), .inl k]) (h' := (xup h 66 0 0)) rfl ?_
        refine E_b (x := (.if_icmp .ge 42, 37, [], [])) rfl rfl (fun c15 => ?_) (fun c15 => ?_)
        · rw [c_ge (by first | assumption | (refine ⟨?_, ?_⟩ <;> omega) | (simp only [xr] at *; omega)) (by first | assumption | (refine ⟨?_, ?_⟩ <;> omega) | (simp only [xr] at *; omega))] at c15
          simp only [decide_eq_true_eq, decide_eq_false_iff_not, Decidable.not_not] at c15
          show xEx G0 cdX12_ofSize (some .int) (xRn G0 MT d) Q b 37 [some (.inr (.inr 66)), some (.inl 0), some (.inl z), some (.inl n9), some (.inl k)] [] (xup h 66 0 0)
          refine E_s 1 (i' := 38) (ls' := [some (.inr (.inr 66)), some (.inl 0), some (.inl z), some (.inl n9), some (.inl k)]) (sk' := [.inl n9]) (h' := (xup h 66 0 0)) rfl ?_
          exact E_ret (x := (.ireturn, 0, [], [])) (v := some (.inl n9)) rfl (Or.inl rfl) (by
            have e9 : k = h 66 8 := by omega
            rw [hn9, e9]
            exact hQ)
        · rw [c_ge (by first | assumption | (refine ⟨?_, ?_⟩ <;> omega) | (simp only [xr] at *; omega)) (by first | assumption | (refine ⟨?_, ?_⟩ <;> omega) | (simp only [xr] at *; omega))] at c15
          simp only [decide_eq_true_eq, decide_eq_false_iff_not, Decidable.not_not] at c15
          show xEx G0 cdX12_ofSize (some .int) (xRn G0 MT d) Q b 16 [some (.inr (.inr 66)), some (.inl 0), some (.inl z), some (.inl n9), some (.inl k)] [] (xup h 66 0 0)
          have r9 := hr k hk0 (by omega)
          refine E_s 2 (i' := 18) (ls' := [some (.inr (.inr 66)), some (.inl 0), some (.inl z), some (.inl n9), some (.inl k)]) (sk' := [.inl 0, .inl n9]) (h' := (xup h 66 0 0)) rfl ?_
          refine E_b (x := (.ifCond .eq 13, 24, [], [])) rfl rfl (fun c18 => ?_) (fun c18 => ?_)
          · show xEx G0 cdX12_ofSize (some .int) (xRn G0 MT d) Q b 24 [some (.inr (.inr 66)), some (.inl 0), some (.inl z), some (.inl n9), some (.inl k)] [.inl n9] (xup h 66 0 0)
            refine E_s 3 (i' := 27) (ls' := [some (.inr (.inr 66)), some (.inl 0), some (.inl z), some (.inl n9), some (.inl k)]) (sk' := [.inl k, .inr (.inr 75), .inl n9]) (h' := (xup h 66 0 0)) rfl ?_
            refine E_ld (x := (.iaload, 0, [], [])) (ty := .int) (n := 300) rfl rfl rfl (by omega) (by omega) ?_
            show xEx G0 cdX12_ofSize (some .int) (xRn G0 MT d) Q b 28 [some (.inr (.inr 66)), some (.inl 0), some (.inl z), some (.inl n9), some (.inl k)] [.inl (h 75 k), .inl n9] (xup h 66 0 0)
            refine E_s 1 (i' := 29) (ls' := [some (.inr (.inr 66)), some (.inl 0), some (.inl z), some (.inl n9), some (.inl k)]) (sk' := [.inl z, .inl (h 75 k), .inl n9]) (h' := (xup h 66 0 0)) rfl ?_
            refine E_b (x := (.if_icmp .ne 7, 32, [], [])) rfl rfl (fun c29 => ?_) (fun c29 => ?_)
            · rw [c_ne (by first | assumption | (refine ⟨?_, ?_⟩ <;> omega) | (simp only [xr] at *; omega)) (by first | assumption | (refine ⟨?_, ?_⟩ <;> omega) | (simp only [xr] at *; omega))] at c29
              simp only [decide_eq_true_eq, decide_eq_false_iff_not, Decidable.not_not] at c29
              show xEx G0 cdX12_ofSize (some .int) (xRn G0 MT d) Q b 32 [some (.inr (.inr 66)), some (.inl 0), some (.inl z), some (.inl n9), some (.inl k)] [.inl n9] (xup h 66 0 0)
              refine E_s 5 (i' := 7) (ls' := [some (.inr (.inr 66)), some (.inl 0), some (.inl z), some (.inl (n9 + 0)), some (.inl (k + 1))]) (sk' := []) (h' := (xup h 66 0 0)) rfl ?_
              exact ih7 _ (k + 1) (by omega) (by omega) (by rw [cntZ_1 _ _ hk0, hn9]; first | rw [if_pos c29] | rw [if_neg c29]) (by omega)
            · rw [c_ne (by first | assumption | (refine ⟨?_, ?_⟩ <;> omega) | (simp only [xr] at *; omega)) (by first | assumption | (refine ⟨?_, ?_⟩ <;> omega) | (simp only [xr] at *; omega))] at c29
              simp only [decide_eq_true_eq, decide_eq_false_iff_not, Decidable.not_not] at c29
              show xEx G0 cdX12_ofSize (some .int) (xRn G0 MT d) Q b 30 [some (.inr (.inr 66)), some (.inl 0), some (.inl z), some (.inl n9), some (.inl k)] [.inl n9] (xup h 66 0 0)
              refine E_s 6 (i' := 7) (ls' := [some (.inr (.inr 66)), some (.inl 0), some (.inl z), some (.inl (n9 + 1)), some (.inl (k + 1))]) (sk' := []) (h' := (xup h 66 0 0)) rfl ?_
              exact ih7 _ (k + 1) (by omega) (by omega) (by rw [cntZ_1 _ _ hk0, hn9]; first | rw [if_pos c29] | rw [if_neg c29]) (by omega)
          · show xEx G0 cdX12_ofSize (some .int) (xRn G0 MT d) Q b 19 [some (.inr (.inr 66)), some (.inl 0), some (.inl z), some (.inl n9), some (.inl k)] [.inl n9] (xup h 66 0 0)
            exact absurd c18 (by decide)
      · show xEx G0 cdX12_ofSize (some .int) (xRn G0 MT d) Q b 10 [some (.inr (.inr 66)), some (.inl 0), some (.inl z), some (.inl n9), some (.inl k)] [.inl k] (xup h 66 0 0)
        exact absurd c9 (by decide)
  exact key7 _ 0 0 (by omega) (by omega) rfl (Nat.lt_succ_self _)
set_option maxHeartbeats 1000000 in
theorem CO_ofSize0 (d : Nat) {h : xH} (hI : Inv h) (z : Int) (hz : xr z) : CO (d + 6) 0 113 219 [.inl 0, .inl z] [] h := by
  obtain ⟨b0, b1, -, -, -, -, -, -, b9⟩ := Inv_e hI
  have b8 : 0 ≤ h 66 8 ∧ h 66 8 ≤ 300 := by rw [b1]; exact b0
  refine o_ofSize0 (d + 4) h z hz (fun k z1 z2 => by have := (b9 k z1 z2).2.2.2.1; omega) b0 (fun u => ?_)
  refine m_ofSize0 (d + 5) 0 (xup h 112 0 u) z hz (fun k z1 z2 => ?_) b8 (CO_v hI u ?_)
  · have z2 : k < h 66 8 := z2
    rw [b1] at z2
    have e := b9 k z1 z2
    show 1 ≤ h 75 k ∧ h 75 k ≤ 9
    rw [e.1]
    have := e.2.2.2.1
    omega
  · show cntZ (h 18) z (h 9 9).toNat = cntZ (h 75) z (h 66 8).toNat
    rw [b1]
    exact cntZ_congr z _ (fun k z1 z2 => (b9 k z1 (by omega)).1.symm)
set_option maxHeartbeats 1000000 in
theorem o_ofSize1 (d  : Nat) (h : xH) (z : Int) (hz : xr z) (hr : ∀ k, 0 ≤ k → k < h 28 9 → 1 ≤ h 37 k ∧ h 37 k ≤ 9) (hK1 : 0 ≤ h 28 9 ∧ h 28 9 ≤ 150) {Q : xO → xH → Prop} (hQ : Q (.inl (some (.inl (cntZ (h 37) z (h 28 9).toNat)))) h) : xRn G0 MT (d + 2) 0 113 [.inr (.inr 0), .inl 1, .inl z] h Q := by
  refine R_of (M := mX11_ofSize) rfl (Nat.le_of_ble_eq_true rfl) ?_
  show xEx G0 cdX11_ofSize (some .int) (xRn G0 MT (d + 1)) Q 0 0 [some (.inr (.inr 0)), some (.inl 1), some (.inl z), none, none, none] [] h
  refine E_s 2 (i' := 2) (ls' := [some (.inr (.inr 0)), some (.inl 1), some (.inl z), none, none, none]) (sk' := [.inl 1, .inr (.inr 0)]) (h' := h) rfl ?_
  refine E_cx (x := (.invokevirtual 161, 1, [(9, 142)], [0])) (b1 := 0) (b2 := 0) (v := (some (.inr (.inr 28)))) (q := fun h9 => (True) ∧ h = h9) rfl rfl (Nat.le_of_ble_eq_true rfl) (fun z => by cases z) (c_growthOf1 d 0 h (Or.inl ⟨rfl, trivial, rfl⟩)) (fun h9 hq9 => ?_)
  obtain ⟨_t, rfl⟩ := hq9
  show xEx G0 cdX11_ofSize (some .int) (xRn G0 MT (d + 1)) Q 0 3 [some (.inr (.inr 0)), some (.inl 1), some (.inl z), none, none, none] [.inr (.inr 28)] h
  refine E_s 5 (i' := 8) (ls' := [some (.inr (.inr 0)), some (.inl 1), some (.inl z), some (.inr (.inr 28)), some (.inl 0), some (.inl 0)]) (sk' := []) (h' := h) rfl ?_
  have key8 : ∀ (n : Nat) (n9 k : Int), (0 ≤ k) → (k ≤ h 28 9) → (n9 = cntZ (h 37) z k.toNat) → ((h 28 9 - k).toNat) < n → xEx G0 cdX11_ofSize (some .int) (xRn G0 MT (d + 1)) Q 0 8 [some (.inr (.inr 0)), some (.inl 1), some (.inl z), some (.inr (.inr 28)), some (.inl n9), some (.inl k)] [] h := by
    intro n
    induction n with
    | zero => intro n9 k _ _ _ hm; exact absurd hm (Nat.not_lt_zero _)
    | succ n ih8 =>
      intro n9 k hk0 hk9 hn9 hm8
      refine E_s 3 (i' := 11) (ls' := [some (.inr (.inr 0)), some (.inl 1), some (.inl z), some (.inr (.inr 28)), some (.inl n9), some (.inl k)]) (sk' := [.inl (h 28 9), .inl k]) (h' := h) rfl ?_
      refine E_b (x := (.if_icmp .ge 23, 21, [], [])) rfl rfl (fun c11 => ?_) (fun c11 => ?_)
      · rw [c_ge (by first | assumption | (refine ⟨?_, ?_⟩ <;> omega) | (simp only [xr] at *; omega)) (by first | assumption | (refine ⟨?_, ?_⟩ <;> omega) | (simp only [xr] at *; omega))] at c11
        simp only [decide_eq_true_eq, decide_eq_false_iff_not, Decidable.not_not] at c11
        show xEx G0 cdX11_ofSize (some .int) (xRn G0 MT (d + 1)) Q 0 21 [some (.inr (.inr 0)), some (.inl 1), some (.inl z), some (.inr (.inr 28)), some (.inl n9), some (.inl k)] [] h
        refine E_s 1 (i' := 22) (ls' := [some (.inr (.inr 0)), some (.inl 1), some (.inl z), some (.inr (.inr 28)), some (.inl n9), some (.inl k)]) (sk' := [.inl n9]) (h' := h) rfl ?_
        exact E_ret (x := (.ireturn, 0, [], [])) (v := some (.inl n9)) rfl (Or.inl rfl) (by
          have e9 : k = h 28 9 := by omega
          rw [hn9, e9]
          exact hQ)
      · rw [c_ge (by first | assumption | (refine ⟨?_, ?_⟩ <;> omega) | (simp only [xr] at *; omega)) (by first | assumption | (refine ⟨?_, ?_⟩ <;> omega) | (simp only [xr] at *; omega))] at c11
        simp only [decide_eq_true_eq, decide_eq_false_iff_not, Decidable.not_not] at c11
        show xEx G0 cdX11_ofSize (some .int) (xRn G0 MT (d + 1)) Q 0 12 [some (.inr (.inr 0)), some (.inl 1), some (.inl z), some (.inr (.inr 28)), some (.inl n9), some (.inl k)] [] h
        refine E_s 3 (i' := 15) (ls' := [some (.inr (.inr 0)), some (.inl 1), some (.inl z), some (.inr (.inr 28)), some (.inl n9), some (.inl k)]) (sk' := [.inl k, .inr (.inr 37)]) (h' := h) rfl ?_
        have r9 := hr k hk0 (by omega)
        refine E_ld (x := (.iaload, 0, [], [])) (ty := .int) (n := 150) rfl rfl rfl (by omega) (by omega) ?_
        show xEx G0 cdX11_ofSize (some .int) (xRn G0 MT (d + 1)) Q 0 16 [some (.inr (.inr 0)), some (.inl 1), some (.inl z), some (.inr (.inr 28)), some (.inl n9), some (.inl k)] [.inl (h 37 k)] h
        refine E_s 1 (i' := 17) (ls' := [some (.inr (.inr 0)), some (.inl 1), some (.inl z), some (.inr (.inr 28)), some (.inl n9), some (.inl k)]) (sk' := [.inl z, .inl (h 37 k)]) (h' := h) rfl ?_
        refine E_b (x := (.if_icmp .ne 6, 19, [], [])) rfl rfl (fun c17 => ?_) (fun c17 => ?_)
        · rw [c_ne (by first | assumption | (refine ⟨?_, ?_⟩ <;> omega) | (simp only [xr] at *; omega)) (by first | assumption | (refine ⟨?_, ?_⟩ <;> omega) | (simp only [xr] at *; omega))] at c17
          simp only [decide_eq_true_eq, decide_eq_false_iff_not, Decidable.not_not] at c17
          show xEx G0 cdX11_ofSize (some .int) (xRn G0 MT (d + 1)) Q 0 19 [some (.inr (.inr 0)), some (.inl 1), some (.inl z), some (.inr (.inr 28)), some (.inl n9), some (.inl k)] [] h
          refine E_s 2 (i' := 8) (ls' := [some (.inr (.inr 0)), some (.inl 1), some (.inl z), some (.inr (.inr 28)), some (.inl n9), some (.inl (k + 1))]) (sk' := []) (h' := h) rfl ?_
          exact ih8 _ (k + 1) (by omega) (by omega) (by rw [cntZ_1 _ _ hk0, hn9]; first | rw [if_pos c17] | (rw [if_neg c17]; omega)) (by omega)
        · rw [c_ne (by first | assumption | (refine ⟨?_, ?_⟩ <;> omega) | (simp only [xr] at *; omega)) (by first | assumption | (refine ⟨?_, ?_⟩ <;> omega) | (simp only [xr] at *; omega))] at c17
          simp only [decide_eq_true_eq, decide_eq_false_iff_not, Decidable.not_not] at c17
          show xEx G0 cdX11_ofSize (some .int) (xRn G0 MT (d + 1)) Q 0 18 [some (.inr (.inr 0)), some (.inl 1), some (.inl z), some (.inr (.inr 28)), some (.inl n9), some (.inl k)] [] h
          refine E_s 3 (i' := 8) (ls' := [some (.inr (.inr 0)), some (.inl 1), some (.inl z), some (.inr (.inr 28)), some (.inl (n9 + 1)), some (.inl (k + 1))]) (sk' := []) (h' := h) rfl ?_
          exact ih8 _ (k + 1) (by omega) (by omega) (by rw [cntZ_1 _ _ hk0, hn9]; first | rw [if_pos c17] | (rw [if_neg c17]; omega)) (by omega)
  exact key8 _ 0 0 (by omega) (by omega) rfl (Nat.lt_succ_self _)
set_option maxHeartbeats 1000000 in
theorem m_ofSize1 (d b : Nat) (h : xH) (z : Int) (hz : xr z) (hr : ∀ k, 0 ≤ k → k < h 66 19 → 1 ≤ h 85 k ∧ h 85 k ≤ 9) (hM1 : 0 ≤ h 66 19 ∧ h 66 19 ≤ 150) {Q : xO → xH → Prop} (hQ : Q (.inl (some (.inl (cntZ (h 85) z (h 66 19).toNat)))) (xup h 66 0 0)) : xRn G0 MT (d + 1) b 219 [.inr (.inr 66), .inl 1, .inl z] h Q := by
  refine R_of (M := mX12_ofSize) rfl (Nat.le_of_ble_eq_true rfl) ?_
  show xEx G0 cdX12_ofSize (some .int) (xRn G0 MT d) Q b 0 [some (.inr (.inr 66)), some (.inl 1), some (.inl z), none, none] [] h
  refine E_s 7 (i' := 7) (ls' := [some (.inr (.inr 66)), some (.inl 1), some (.inl z), some (.inl 0), some (.inl 0)]) (sk' := []) (h' := (xup h 66 0 0)) rfl ?_
  have key7 : ∀ (n : Nat) (n9 k : Int), (0 ≤ k) → (k ≤ h 66 19) → (n9 = cntZ (h 85) z k.toNat) → ((h 66 19 - k).toNat) < n → xEx G0 cdX12_ofSize (some .int) (xRn G0 MT d) Q b 7 [some (.inr (.inr 66)), some (.inl 1), some (.inl z), some (.inl n9), some (.inl k)] [] (xup h 66 0 0) := by
    intro n
    induction n with
    | zero => intro n9 k _ _ _ hm; exact absurd hm (Nat.not_lt_zero _)
    | succ n ih7 =>
      intro n9 k hk0 hk9 hn9 hm7
      refine E_s 2 (i' := 9) (ls' := [some (.inr (.inr 66)), some (.inl 1), some (.inl z), some (.inl n9), some (.inl k)]) (sk' := [.inl 1, .inl k]) (h' := (xup h 66 0 0)) rfl ?_
      refine E_b (x := (.ifCond .eq 10, 13, [], [])) rfl rfl (fun c9 => ?_) (fun c9 => ?_)
      · show xEx G0 cdX12_ofSize (some .int) (xRn G0 MT d) Q b 13 [some (.inr (.inr 66)), some (.inl 1), some (.inl z), some (.inl n9), some (.inl k)] [.inl k] (xup h 66 0 0)
        exact absurd c9 (by decide)
      · show xEx G0 cdX12_ofSize (some .int) (xRn G0 MT d) Q b 10 [some (.inr (.inr 66)), some (.inl 1), some (.inl z), some (.inl n9), some (.inl k)] [.inl k] (xup h 66 0 0)
        refine E_s 3 (i' := 15) (ls' := [some (.inr (.inr 66)), some (.inl 1), some (.inl z), some (.inl n9), some (.inl k)]) (sk' := [.inl (h 66 19), .inl k]) (h' := (xup h 66 0 0)) rfl ?_
        refine E_b (x := (.if_icmp .ge 42, 37, [], [])) rfl rfl (fun c15 => ?_) (fun c15 => ?_)
        · rw [c_ge (by first | assumption | (refine ⟨?_, ?_⟩ <;> omega) | (simp only [xr] at *; omega)) (by first | assumption | (refine ⟨?_, ?_⟩ <;> omega) | (simp only [xr] at *; omega))] at c15
          simp only [decide_eq_true_eq, decide_eq_false_iff_not, Decidable.not_not] at c15
          show xEx G0 cdX12_ofSize (some .int) (xRn G0 MT d) Q b 37 [some (.inr (.inr 66)), some (.inl 1), some (.inl z), some (.inl n9), some (.inl k)] [] (xup h 66 0 0)
          refine E_s 1 (i' := 38) (ls' := [some (.inr (.inr 66)), some (.inl 1), some (.inl z), some (.inl n9), some (.inl k)]) (sk' := [.inl n9]) (h' := (xup h 66 0 0)) rfl ?_
          exact E_ret (x := (.ireturn, 0, [], [])) (v := some (.inl n9)) rfl (Or.inl rfl) (by
            have e9 : k = h 66 19 := by omega
            rw [hn9, e9]
            exact hQ)
        · rw [c_ge (by first | assumption | (refine ⟨?_, ?_⟩ <;> omega) | (simp only [xr] at *; omega)) (by first | assumption | (refine ⟨?_, ?_⟩ <;> omega) | (simp only [xr] at *; omega))] at c15
          simp only [decide_eq_true_eq, decide_eq_false_iff_not, Decidable.not_not] at c15
          show xEx G0 cdX12_ofSize (some .int) (xRn G0 MT d) Q b 16 [some (.inr (.inr 66)), some (.inl 1), some (.inl z), some (.inl n9), some (.inl k)] [] (xup h 66 0 0)
          have r9 := hr k hk0 (by omega)
          refine E_s 2 (i' := 18) (ls' := [some (.inr (.inr 66)), some (.inl 1), some (.inl z), some (.inl n9), some (.inl k)]) (sk' := [.inl 1, .inl n9]) (h' := (xup h 66 0 0)) rfl ?_
          refine E_b (x := (.ifCond .eq 13, 24, [], [])) rfl rfl (fun c18 => ?_) (fun c18 => ?_)
          · show xEx G0 cdX12_ofSize (some .int) (xRn G0 MT d) Q b 24 [some (.inr (.inr 66)), some (.inl 1), some (.inl z), some (.inl n9), some (.inl k)] [.inl n9] (xup h 66 0 0)
            exact absurd c18 (by decide)
          · show xEx G0 cdX12_ofSize (some .int) (xRn G0 MT d) Q b 19 [some (.inr (.inr 66)), some (.inl 1), some (.inl z), some (.inl n9), some (.inl k)] [.inl n9] (xup h 66 0 0)
            refine E_s 3 (i' := 22) (ls' := [some (.inr (.inr 66)), some (.inl 1), some (.inl z), some (.inl n9), some (.inl k)]) (sk' := [.inl k, .inr (.inr 85), .inl n9]) (h' := (xup h 66 0 0)) rfl ?_
            refine E_ld (x := (.iaload, 0, [], [])) (ty := .int) (n := 150) rfl rfl rfl (by omega) (by omega) ?_
            show xEx G0 cdX12_ofSize (some .int) (xRn G0 MT d) Q b 23 [some (.inr (.inr 66)), some (.inl 1), some (.inl z), some (.inl n9), some (.inl k)] [.inl (h 85 k), .inl n9] (xup h 66 0 0)
            refine E_s 2 (i' := 29) (ls' := [some (.inr (.inr 66)), some (.inl 1), some (.inl z), some (.inl n9), some (.inl k)]) (sk' := [.inl z, .inl (h 85 k), .inl n9]) (h' := (xup h 66 0 0)) rfl ?_
            refine E_b (x := (.if_icmp .ne 7, 32, [], [])) rfl rfl (fun c29 => ?_) (fun c29 => ?_)
            · rw [c_ne (by first | assumption | (refine ⟨?_, ?_⟩ <;> omega) | (simp only [xr] at *; omega)) (by first | assumption | (refine ⟨?_, ?_⟩ <;> omega) | (simp only [xr] at *; omega))] at c29
              simp only [decide_eq_true_eq, decide_eq_false_iff_not, Decidable.not_not] at c29
              show xEx G0 cdX12_ofSize (some .int) (xRn G0 MT d) Q b 32 [some (.inr (.inr 66)), some (.inl 1), some (.inl z), some (.inl n9), some (.inl k)] [.inl n9] (xup h 66 0 0)
              refine E_s 5 (i' := 7) (ls' := [some (.inr (.inr 66)), some (.inl 1), some (.inl z), some (.inl (n9 + 0)), some (.inl (k + 1))]) (sk' := []) (h' := (xup h 66 0 0)) rfl ?_
              exact ih7 _ (k + 1) (by omega) (by omega) (by rw [cntZ_1 _ _ hk0, hn9]; first | rw [if_pos c29] | rw [if_neg c29]) (by omega)
            · rw [c_ne (by first | assumption | (refine ⟨?_, ?_⟩ <;> omega) | (simp only [xr] at *; omega)) (by first | assumption | (refine ⟨?_, ?_⟩ <;> omega) | (simp only [xr] at *; omega))] at c29
              simp only [decide_eq_true_eq, decide_eq_false_iff_not, Decidable.not_not] at c29
              show xEx G0 cdX12_ofSize (some .int) (xRn G0 MT d) Q b 30 [some (.inr (.inr 66)), some (.inl 1), some (.inl z), some (.inl n9), some (.inl k)] [.inl n9] (xup h 66 0 0)
              refine E_s 6 (i' := 7) (ls' := [some (.inr (.inr 66)), some (.inl 1), some (.inl z), some (.inl (n9 + 1)), some (.inl (k + 1))]) (sk' := []) (h' := (xup h 66 0 0)) rfl ?_
              exact ih7 _ (k + 1) (by omega) (by omega) (by rw [cntZ_1 _ _ hk0, hn9]; first | rw [if_pos c29] | rw [if_neg c29]) (by omega)
  exact key7 _ 0 0 (by omega) (by omega) rfl (Nat.lt_succ_self _)
set_option maxHeartbeats 1000000 in
theorem CO_ofSize1 (d : Nat) {h : xH} (hI : Inv h) (z : Int) (hz : xr z) : CO (d + 6) 0 113 219 [.inl 1, .inl z] [] h := by
  obtain ⟨b0, b1, -, -, -, -, -, -, b9⟩ := Inv_t hI
  have b8 : 0 ≤ h 66 19 ∧ h 66 19 ≤ 150 := by rw [b1]; exact b0
  refine o_ofSize1 (d + 4) h z hz (fun k z1 z2 => by have := (b9 k z1 z2).2.2.2.1; omega) b0 (fun u => ?_)
  refine m_ofSize1 (d + 5) 0 (xup h 112 0 u) z hz (fun k z1 z2 => ?_) b8 (CO_v hI u ?_)
  · have z2 : k < h 66 19 := z2
    rw [b1] at z2
    have e := b9 k z1 z2
    show 1 ≤ h 85 k ∧ h 85 k ≤ 9
    rw [e.1]
    have := e.2.2.2.1
    omega
  · show cntZ (h 37) z (h 28 9).toNat = cntZ (h 85) z (h 66 19).toNat
    rw [b1]
    exact cntZ_congr z _ (fun k z1 z2 => (b9 k z1 (by omega)).1.symm)
