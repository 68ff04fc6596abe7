/-! GROWTH of TESTS as a pure thing, over EXPRESSIONS as they stand in h0: T 0 0 KEPT, T 0 1 MERGED, T 0 2 MADE, T 0 3 what may still be MADE, T 0 4 how it stands, T 0 5 IDLE; the rest as with EXPRESSIONS -/
def cmpT (h0 : xH) (c1 c2 c3 e : Int) : Prop := if c1 = 0 then h0 24 (c2 * 12 + e) < h0 24 (c3 * 12 + e) else h0 24 (c2 * 12 + e) = h0 24 (c3 * 12 + e)
noncomputable def oT (h0 T : xH) (c1 c2 c3 : Int) : Int := if c1 = 2 then xand (xshl 1 (h0 1 2) - 1) (xxor (T 6 c2) (-1)) else if c1 = 3 then xand (T 6 c2) (T 6 c3) else (cv (cmpT h0 c1 c2 c3) (h0 1 2).toNat : Int)
def usT (h0 T : xH) (c1 c2 c3 : Int) : Int := if c1 = 2 then T 11 c2 else if c1 = 3 then T 11 c2 + T 11 c3 else h0 19 c2 + h0 19 c3
noncomputable def offT (h0 T : xH) (c1 c2 c3 : Int) : xH :=
  if T 0 4 ≠ 0 then T else if T 0 3 = 0 then xup T 0 4 2 else
    if oT h0 T c1 c2 c3 = 0 ∨ oT h0 T c1 c2 c3 = xshl 1 (h0 1 2) - 1 then xup (mad T) 0 5 (T 0 5 + 1)
    else if fnd (fun k => T 6 k = oT h0 T c1 c2 c3) (T 0 0).toNat ≠ -1 then mrgS (mad T) (fnd (fun k => T 6 k = oT h0 T c1 c2 c3) (T 0 0).toNat) c1 c2 c3
    else if 150 ≤ T 0 0 then xup (mad T) 0 4 1
    else put0 (mad T) (h0 28 15) c1 c2 c3 (oT h0 T c1 c2 c3) (usT h0 T c1 c2 c3)
section OFFT
variable {h0 T : xH} {c1 c2 c3 : Int}
theorem offT_s (h : T 0 4 ≠ 0) : offT h0 T c1 c2 c3 = T := if_pos h
theorem offT_b (h : T 0 4 = 0) (h3 : T 0 3 = 0) : offT h0 T c1 c2 c3 = xup T 0 4 2 := by
  unfold offT; rw [if_neg (by omega), if_pos h3]
theorem offT_i (h : T 0 4 = 0) (h3 : T 0 3 ≠ 0) (hi : oT h0 T c1 c2 c3 = 0 ∨ oT h0 T c1 c2 c3 = xshl 1 (h0 1 2) - 1) : offT h0 T c1 c2 c3 = xup (mad T) 0 5 (T 0 5 + 1) := by
  unfold offT; rw [if_neg (by omega), if_neg h3, if_pos hi]
theorem offT_m {r : Int} (h : T 0 4 = 0) (h3 : T 0 3 ≠ 0) (hi : ¬ (oT h0 T c1 c2 c3 = 0 ∨ oT h0 T c1 c2 c3 = xshl 1 (h0 1 2) - 1)) (hr : fnd (fun k => T 6 k = oT h0 T c1 c2 c3) (T 0 0).toNat = r) (h0' : r ≠ -1) : offT h0 T c1 c2 c3 = mrgS (mad T) r c1 c2 c3 := by
  unfold offT; rw [if_neg (by omega), if_neg h3, if_neg hi, hr, if_pos h0']
theorem offT_f (h : T 0 4 = 0) (h3 : T 0 3 ≠ 0) (hi : ¬ (oT h0 T c1 c2 c3 = 0 ∨ oT h0 T c1 c2 c3 = xshl 1 (h0 1 2) - 1)) (hr : fnd (fun k => T 6 k = oT h0 T c1 c2 c3) (T 0 0).toNat = -1) (hK : 150 ≤ T 0 0) : offT h0 T c1 c2 c3 = xup (mad T) 0 4 1 := by
  unfold offT; rw [if_neg (by omega), if_neg h3, if_neg hi, hr, if_neg (by omega), if_pos hK]
theorem offT_a (h : T 0 4 = 0) (h3 : T 0 3 ≠ 0) (hi : ¬ (oT h0 T c1 c2 c3 = 0 ∨ oT h0 T c1 c2 c3 = xshl 1 (h0 1 2) - 1)) (hr : fnd (fun k => T 6 k = oT h0 T c1 c2 c3) (T 0 0).toNat = -1) (hK : T 0 0 < 150) : offT h0 T c1 c2 c3 = put0 (mad T) (h0 28 15) c1 c2 c3 (oT h0 T c1 c2 c3) (usT h0 T c1 c2 c3) := by
  unfold offT; rw [if_neg (by omega), if_neg h3, if_neg hi, hr, if_neg (by omega), if_neg (by omega)]
end OFFT
def okt (h0 T : xH) (c1 c2 c3 : Int) : Prop := (0 ≤ c1 ∧ c1 ≤ 1 ∧ 0 ≤ c2 ∧ c2 < h0 9 9 ∧ 0 ≤ c3 ∧ c3 < h0 9 9) ∨ (c1 = 2 ∧ 0 ≤ c2 ∧ c2 < T 0 0 ∧ c3 = 0) ∨ (c1 = 3 ∧ 0 ≤ c2 ∧ c2 < T 0 0 ∧ 0 ≤ c3 ∧ c3 < T 0 0)
/-- what T must be -/
def WT (n : Int) (T : xH) : Prop := 0 ≤ T 0 0 ∧ T 0 0 ≤ 150 ∧ (∀ k, 0 ≤ k → k < T 0 0 → 0 ≤ T 6 k ∧ T 6 k < (2 ^ n.toNat : Nat)) ∧ (∀ j k, 0 ≤ j → j < k → k < T 0 0 → T 6 j ≠ T 6 k) ∧ (∀ k, 0 ≤ k → k < T 0 0 → 0 ≤ T 7 k ∧ T 7 k ≤ T 0 1) ∧ 0 ≤ T 0 1 ∧ T 0 1 ≤ T 0 2 ∧ T 0 2 + T 0 3 ≤ 400000 ∧ 0 ≤ T 0 3 ∧ T 0 3 ≤ 20000 ∧ 0 ≤ T 0 4 ∧ T 0 4 ≤ 2 ∧ 0 ≤ T 0 5 ∧ T 0 5 ≤ T 0 2
/-- EXPRESSIONS as TESTS need them -/
def BT (h0 : xH) : Prop := (0 ≤ h0 1 2 ∧ h0 1 2 ≤ 12) ∧ (0 ≤ h0 9 9 ∧ h0 9 9 ≤ 300) ∧ ∀ k e, 0 ≤ k → k < h0 9 9 → 0 ≤ e → e < h0 1 2 → xr (h0 24 (k * 12 + e))
def RCT (h T : xH) : Prop := h 28 9 = T 0 0 ∧ h 28 10 = T 0 1 ∧ h 28 12 = T 0 2 ∧ h 28 16 = T 0 3 ∧ h 28 17 = T 0 4 ∧ h 28 11 = T 0 5 ∧
  (∀ k, 0 ≤ k → k < T 0 0 → h 30 k = T 1 k ∧ h 31 k = T 2 k ∧ h 32 k = T 3 k ∧ h 37 k = T 4 k ∧ h 39 k = T 6 k ∧ h 40 k = T 7 k ∧ h 38 k = T 11 k ∧ (T 7 k ≠ 0 → h 34 k = T 8 k ∧ h 35 k = T 9 k ∧ h 36 k = T 10 k)) ∧ num h (T 0 0)
def FT (h h' : xH) : Prop := (∀ a, (a < 28 ∨ 43 < a ∨ a = 41 ∨ a = 42) → h' a = h a) ∧ h' 28 13 = h 28 13 ∧ h' 28 14 = h 28 14 ∧ h' 28 15 = h 28 15
theorem FT.rf (h : xH) : FT h h := ⟨fun _ _ => rfl, rfl, rfl, rfl⟩
theorem FT.tr {h1 h2 h3 : xH} (a : FT h1 h2) (b : FT h2 h3) : FT h1 h3 := ⟨fun x hx => (b.1 x hx).trans (a.1 x hx), b.2.1.trans a.2.1, b.2.2.1.trans a.2.2.1, b.2.2.2.trans a.2.2.2⟩
theorem FT.up {h h' : xH} (f : FT h h') {a : Nat} {j z : Int} (ha : (28 ≤ a ∧ a ≤ 43 ∧ a ≠ 41 ∧ a ≠ 42)) (hj : a = 28 → j ≠ 13 ∧ j ≠ 14 ∧ j ≠ 15) : FT h (xup h' a j z) := by
  refine ⟨fun x hx => ?_, ?_, ?_, ?_⟩
  · rw [← f.1 x hx]
    exact xup_o h' a j z x (by omega)
  all_goals
    by_cases e : a = 28
    · subst e
      have := hj rfl
      rw [xup_j (by omega)]
      first | exact f.2.1 | exact f.2.2.1 | exact f.2.2.2
    · rw [xup_a (fun z => e z.symm)]
      first | exact f.2.1 | exact f.2.2.1 | exact f.2.2.2
theorem pw31 {n : Int} (h1 : n ≤ 12) : 2 ^ n.toNat ≤ 4096 := Nat.pow_le_pow_right (n := 2) (j := 12) (by decide) (by omega)
theorem all_e {n : Int} (h0 : 0 ≤ n) (h1 : n ≤ 12) : 0 ≤ xshl 1 n - 1 ∧ xshl 1 n - 1 < (2 ^ n.toNat : Nat) := by
  rw [n_all h0 h1]
  have : 0 < 2 ^ n.toNat := Nat.two_pow_pos _
  omega
theorem and_r {a b : Int} {m : Nat} (hm : m ≤ 12) (ha : 0 ≤ a ∧ a < (2 ^ m : Nat)) (hb : 0 ≤ b ∧ b < (2 ^ m : Nat)) : 0 ≤ xand a b ∧ xand a b < (2 ^ m : Nat) := by
  obtain ⟨x, rfl⟩ : ∃ x : Nat, a = (x : Int) := ⟨a.toNat, by omega⟩
  obtain ⟨y, rfl⟩ : ∃ y : Nat, b = (y : Int) := ⟨b.toNat, by omega⟩
  have hp : (2 : Nat) ^ m ≤ 4096 := Nat.pow_le_pow_right (n := 2) (j := 12) (by decide) hm
  rw [n_and (by omega) (by omega)]
  have : x &&& y < 2 ^ m := Nat.and_lt_two_pow _ (by omega)
  omega
theorem andn_r {a b : Int} {m : Nat} (hm : m ≤ 12) (ha : 0 ≤ a ∧ a < (2 ^ m : Nat)) (hb : 0 ≤ b ∧ b < (2 ^ m : Nat)) : 0 ≤ xand a (xxor b (-1)) ∧ xand a (xxor b (-1)) < (2 ^ m : Nat) := by
  obtain ⟨x, rfl⟩ : ∃ x : Nat, a = (x : Int) := ⟨a.toNat, by omega⟩
  obtain ⟨y, rfl⟩ : ∃ y : Nat, b = (y : Int) := ⟨b.toNat, by omega⟩
  have hp : (2 : Nat) ^ m ≤ 4096 := Nat.pow_le_pow_right (n := 2) (j := 12) (by decide) hm
  rw [n_andn (by omega) (by omega)]
  have : andn x y < 2 ^ m := by
    unfold andn
    exact Nat.and_lt_two_pow _ (Nat.xor_lt_two_pow (by omega) (by omega))
  omega
theorem oT_r {h0 T : xH} {c1 c2 c3 : Int} (hB : BT h0) (hW : WT (h0 1 2) T) (hc : okt h0 T c1 c2 c3) : 0 ≤ oT h0 T c1 c2 c3 ∧ oT h0 T c1 c2 c3 < (2 ^ (h0 1 2).toNat : Nat) := by
  have hn := hB.1
  unfold oT
  rcases hc with ⟨a, b, -⟩ | ⟨a, b, c, -⟩ | ⟨a, b, c, e, f⟩
  · rw [if_neg (by omega), if_neg (by omega)]
    have := cv_lt (cmpT h0 c1 c2 c3) (h0 1 2).toNat
    omega
  · rw [if_pos a]
    exact andn_r (by omega) (all_e hn.1 hn.2) (hW.2.2.1 c2 b c)
  · rw [if_neg (by omega), if_pos a]
    exact and_r (by omega) (hW.2.2.1 c2 b c) (hW.2.2.1 c3 e f)
set_option maxHeartbeats 1000000 in
theorem c_compared (d b : Nat) (h : xH) (c1 c2 c3 : Int) (hB : BT h) (h1 : 0 ≤ c1 ∧ c1 ≤ 1) (h2 : 0 ≤ c2 ∧ c2 < h 9 9) (h3 : 0 ≤ c3 ∧ c3 < h 9 9) {Q : xO → xH → Prop} (hQ : Q (.inl (some (.inl (cv (cmpT h c1 c2 c3) (h 1 2).toNat : Int)))) h) : xRn G0 MT (d + 2) b 84 [.inr (.inr 28), .inl c1, .inl c2, .inl c3] h Q := by
  refine R_of (M := mX9_compared) rfl (Nat.le_of_ble_eq_true rfl) ?_
  show xEx G0 cdX9_compared (some .int) (xRn G0 MT (d + 1)) Q b 0 [some (.inr (.inr 28)), some (.inl c1), some (.inl c2), some (.inl c3), none, none, none, none] [] h
  obtain ⟨hn, hK, hr⟩ := hB
  refine E_s 4 (i' := 4) (ls' := [some (.inr (.inr 28)), some (.inl c1), some (.inl c2), some (.inl c3), some (.inl 0), some (.inl 0), none, none]) (sk' := []) (h' := h) rfl ?_
  have key4 : ∀ (n : Nat) (e : Int) (v6 v7 : Option xV), (0 ≤ e) → (e ≤ h 1 2) → ((h 1 2 - e).toNat) < n → xEx G0 cdX9_compared (some .int) (xRn G0 MT (d + 1)) Q b 4 [some (.inr (.inr 28)), some (.inl c1), some (.inl c2), some (.inl c3), some (.inl (cv (cmpT h c1 c2 c3) e.toNat : Int)), some (.inl e), v6, v7] [] h := by
    intro n
    induction n with
    | zero => intro e v6 v7 _ _ hm; exact absurd hm (Nat.not_lt_zero _)
    | succ n ih4 =>
      intro e v6 v7 he0 he1 hm4
      refine E_s 4 (i' := 8) (ls' := [some (.inr (.inr 28)), some (.inl c1), some (.inl c2), some (.inl c3), some (.inl (cv (cmpT h c1 c2 c3) e.toNat : Int)), some (.inl e), v6, v7]) (sk' := [.inl (h 1 2), .inl e]) (h' := h) rfl ?_
      refine E_b (x := (.if_icmp .ge 63, 38, [], [])) rfl rfl (fun c8 => ?_) (fun c8 => ?_)
      · rw [c_ge (by first | assumption | (refine ⟨?_, ?_⟩ <;> omega) | (simp only [xr] at *; omega)) (by first | assumption | (refine ⟨?_, ?_⟩ <;> omega) | (simp only [xr] at *; omega))] at c8
        simp only [decide_eq_true_eq, decide_eq_false_iff_not, Decidable.not_not] at c8
        show xEx G0 cdX9_compared (some .int) (xRn G0 MT (d + 1)) Q b 38 [some (.inr (.inr 28)), some (.inl c1), some (.inl c2), some (.inl c3), some (.inl (cv (cmpT h c1 c2 c3) e.toNat : Int)), some (.inl e), v6, v7] [] h
        refine E_s 1 (i' := 39) (ls' := [some (.inr (.inr 28)), some (.inl c1), some (.inl c2), some (.inl c3), some (.inl (cv (cmpT h c1 c2 c3) e.toNat : Int)), some (.inl e), v6, v7]) (sk' := [.inl (cv (cmpT h c1 c2 c3) e.toNat : Int)]) (h' := h) rfl ?_
        exact E_ret (x := (.ireturn, 0, [], [])) (v := some (.inl (cv (cmpT h c1 c2 c3) e.toNat : Int))) rfl (Or.inl rfl) (by obtain e9 : e = h 1 2 := (by omega); rw [e9]; exact hQ)
      · rw [c_ge (by first | assumption | (refine ⟨?_, ?_⟩ <;> omega) | (simp only [xr] at *; omega)) (by first | assumption | (refine ⟨?_, ?_⟩ <;> omega) | (simp only [xr] at *; omega))] at c8
        simp only [decide_eq_true_eq, decide_eq_false_iff_not, Decidable.not_not] at c8
        show xEx G0 cdX9_compared (some .int) (xRn G0 MT (d + 1)) Q b 9 [some (.inr (.inr 28)), some (.inl c1), some (.inl c2), some (.inl c3), some (.inl (cv (cmpT h c1 c2 c3) e.toNat : Int)), some (.inl e), v6, v7] [] h
        have r1 := hr c2 e h2.1 h2.2 he0 (by omega)
        have r2 := hr c3 e h3.1 h3.2 he0 (by omega)
        refine E_s 4 (i' := 13) (ls' := [some (.inr (.inr 28)), some (.inl c1), some (.inl c2), some (.inl c3), some (.inl (cv (cmpT h c1 c2 c3) e.toNat : Int)), some (.inl e), v6, v7]) (sk' := [.inl e, .inl c2, .inr (.inr 9)]) (h' := h) rfl ?_
        refine E_ci (x := (.invokevirtual 79, 2, [(1, 19)], [0])) (r := (h 24 (c2 * 12 + e))) (h' := h) rfl rfl (Nat.le_of_ble_eq_true rfl) (c_outputOn d 0 h c2 e (by omega) (by omega) ⟨rfl, rfl⟩) ?_
        show xEx G0 cdX9_compared (some .int) (xRn G0 MT (d + 1)) Q b 14 [some (.inr (.inr 28)), some (.inl c1), some (.inl c2), some (.inl c3), some (.inl (cv (cmpT h c1 c2 c3) e.toNat : Int)), some (.inl e), v6, v7] [.inl (h 24 (c2 * 12 + e))] h
        refine E_s 5 (i' := 19) (ls' := [some (.inr (.inr 28)), some (.inl c1), some (.inl c2), some (.inl c3), some (.inl (cv (cmpT h c1 c2 c3) e.toNat : Int)), some (.inl e), some (.inl (h 24 (c2 * 12 + e))), v7]) (sk' := [.inl e, .inl c3, .inr (.inr 9)]) (h' := h) rfl ?_
        refine E_ci (x := (.invokevirtual 79, 2, [(1, 19)], [0])) (r := (h 24 (c3 * 12 + e))) (h' := h) rfl rfl (Nat.le_of_ble_eq_true rfl) (c_outputOn d 0 h c3 e (by omega) (by omega) ⟨rfl, rfl⟩) ?_
        show xEx G0 cdX9_compared (some .int) (xRn G0 MT (d + 1)) Q b 20 [some (.inr (.inr 28)), some (.inl c1), some (.inl c2), some (.inl c3), some (.inl (cv (cmpT h c1 c2 c3) e.toNat : Int)), some (.inl e), some (.inl (h 24 (c2 * 12 + e))), v7] [.inl (h 24 (c3 * 12 + e))] h
        refine E_s 2 (i' := 22) (ls' := [some (.inr (.inr 28)), some (.inl c1), some (.inl c2), some (.inl c3), some (.inl (cv (cmpT h c1 c2 c3) e.toNat : Int)), some (.inl e), some (.inl (h 24 (c2 * 12 + e))), some (.inl (h 24 (c3 * 12 + e)))]) (sk' := [.inl c1]) (h' := h) rfl ?_
        refine E_b (x := (.ifCond .ne 13, 27, [], [])) rfl rfl (fun c22 => ?_) (fun c22 => ?_)
        · rw [c_ne (by first | assumption | (refine ⟨?_, ?_⟩ <;> omega) | (simp only [xr] at *; omega)) (by first | assumption | (refine ⟨?_, ?_⟩ <;> omega) | (simp only [xr] at *; omega))] at c22
          simp only [decide_eq_true_eq, decide_eq_false_iff_not, Decidable.not_not] at c22
          show xEx G0 cdX9_compared (some .int) (xRn G0 MT (d + 1)) Q b 27 [some (.inr (.inr 28)), some (.inl c1), some (.inl c2), some (.inl c3), some (.inl (cv (cmpT h c1 c2 c3) e.toNat : Int)), some (.inl e), some (.inl (h 24 (c2 * 12 + e))), some (.inl (h 24 (c3 * 12 + e)))] [] h
          
          refine E_s 2 (i' := 29) (ls' := [some (.inr (.inr 28)), some (.inl c1), some (.inl c2), some (.inl c3), some (.inl (cv (cmpT h c1 c2 c3) e.toNat : Int)), some (.inl e), some (.inl (h 24 (c2 * 12 + e))), some (.inl (h 24 (c3 * 12 + e)))]) (sk' := [.inl (h 24 (c3 * 12 + e)), .inl (h 24 (c2 * 12 + e))]) (h' := h) rfl ?_
          refine E_b (x := (.if_icmp .ne 12, 36, [], [])) rfl rfl (fun c29 => ?_) (fun c29 => ?_)
          · rw [c_ne (by first | assumption | (refine ⟨?_, ?_⟩ <;> omega) | (simp only [xr] at *; omega)) (by first | assumption | (refine ⟨?_, ?_⟩ <;> omega) | (simp only [xr] at *; omega))] at c29
            simp only [decide_eq_true_eq, decide_eq_false_iff_not, Decidable.not_not] at c29
            show xEx G0 cdX9_compared (some .int) (xRn G0 MT (d + 1)) Q b 36 [some (.inr (.inr 28)), some (.inl c1), some (.inl c2), some (.inl c3), some (.inl (cv (cmpT h c1 c2 c3) e.toNat : Int)), some (.inl e), some (.inl (h 24 (c2 * 12 + e))), some (.inl (h 24 (c3 * 12 + e)))] [] h
            rw [cv_s0 (p := cmpT h c1 c2 c3) he0 (by unfold cmpT; rw [if_neg c22]; first | exact c25 | exact c29 | exact Int.not_lt.mpr c25 | exact Int.not_le.mp c25)]
            refine E_s 2 (i' := 4) (ls' := [some (.inr (.inr 28)), some (.inl c1), some (.inl c2), some (.inl c3), some (.inl (cv (cmpT h c1 c2 c3) (e + 1).toNat : Int)), some (.inl (e + 1)), some (.inl (h 24 (c2 * 12 + e))), some (.inl (h 24 (c3 * 12 + e)))]) (sk' := []) (h' := h) rfl ?_
            exact ih4 (e + 1) _ _ (by omega) (by omega) (by omega)
          · rw [c_ne (by first | assumption | (refine ⟨?_, ?_⟩ <;> omega) | (simp only [xr] at *; omega)) (by first | assumption | (refine ⟨?_, ?_⟩ <;> omega) | (simp only [xr] at *; omega))] at c29
            simp only [decide_eq_true_eq, decide_eq_false_iff_not, Decidable.not_not] at c29
            show xEx G0 cdX9_compared (some .int) (xRn G0 MT (d + 1)) Q b 30 [some (.inr (.inr 28)), some (.inl c1), some (.inl c2), some (.inl c3), some (.inl (cv (cmpT h c1 c2 c3) e.toNat : Int)), some (.inl e), some (.inl (h 24 (c2 * 12 + e))), some (.inl (h 24 (c3 * 12 + e)))] [] h
            refine E_s 6 (i' := 36) (ls' := [some (.inr (.inr 28)), some (.inl c1), some (.inl c2), some (.inl c3), some (.inl (xor_ (cv (cmpT h c1 c2 c3) e.toNat : Int) (xshl 1 e))), some (.inl e), some (.inl (h 24 (c2 * 12 + e))), some (.inl (h 24 (c3 * 12 + e)))]) (sk' := []) (h' := h) rfl ?_
            rw [cv_s1 (p := cmpT h c1 c2 c3) he0 (by omega) (by unfold cmpT; rw [if_neg c22]; first | exact c25 | exact c29 | exact Int.not_lt.mpr c25 | exact Int.not_le.mp c25)]
            refine E_s 2 (i' := 4) (ls' := [some (.inr (.inr 28)), some (.inl c1), some (.inl c2), some (.inl c3), some (.inl (cv (cmpT h c1 c2 c3) (e + 1).toNat : Int)), some (.inl (e + 1)), some (.inl (h 24 (c2 * 12 + e))), some (.inl (h 24 (c3 * 12 + e)))]) (sk' := []) (h' := h) rfl ?_
            exact ih4 (e + 1) _ _ (by omega) (by omega) (by omega)
        · rw [c_ne (by first | assumption | (refine ⟨?_, ?_⟩ <;> omega) | (simp only [xr] at *; omega)) (by first | assumption | (refine ⟨?_, ?_⟩ <;> omega) | (simp only [xr] at *; omega))] at c22
          simp only [decide_eq_true_eq, decide_eq_false_iff_not, Decidable.not_not] at c22
          show xEx G0 cdX9_compared (some .int) (xRn G0 MT (d + 1)) Q b 23 [some (.inr (.inr 28)), some (.inl c1), some (.inl c2), some (.inl c3), some (.inl (cv (cmpT h c1 c2 c3) e.toNat : Int)), some (.inl e), some (.inl (h 24 (c2 * 12 + e))), some (.inl (h 24 (c3 * 12 + e)))] [] h
          
          refine E_s 2 (i' := 25) (ls' := [some (.inr (.inr 28)), some (.inl c1), some (.inl c2), some (.inl c3), some (.inl (cv (cmpT h c1 c2 c3) e.toNat : Int)), some (.inl e), some (.inl (h 24 (c2 * 12 + e))), some (.inl (h 24 (c3 * 12 + e)))]) (sk' := [.inl (h 24 (c3 * 12 + e)), .inl (h 24 (c2 * 12 + e))]) (h' := h) rfl ?_
          refine E_b (x := (.if_icmp .ge 22, 36, [], [])) rfl rfl (fun c25 => ?_) (fun c25 => ?_)
          · rw [c_ge (by first | assumption | (refine ⟨?_, ?_⟩ <;> omega) | (simp only [xr] at *; omega)) (by first | assumption | (refine ⟨?_, ?_⟩ <;> omega) | (simp only [xr] at *; omega))] at c25
            simp only [decide_eq_true_eq, decide_eq_false_iff_not, Decidable.not_not] at c25
            show xEx G0 cdX9_compared (some .int) (xRn G0 MT (d + 1)) Q b 36 [some (.inr (.inr 28)), some (.inl c1), some (.inl c2), some (.inl c3), some (.inl (cv (cmpT h c1 c2 c3) e.toNat : Int)), some (.inl e), some (.inl (h 24 (c2 * 12 + e))), some (.inl (h 24 (c3 * 12 + e)))] [] h
            rw [cv_s0 (p := cmpT h c1 c2 c3) he0 (by unfold cmpT; rw [if_pos c22]; first | exact c25 | exact c29 | exact Int.not_lt.mpr c25 | exact Int.not_le.mp c25)]
            refine E_s 2 (i' := 4) (ls' := [some (.inr (.inr 28)), some (.inl c1), some (.inl c2), some (.inl c3), some (.inl (cv (cmpT h c1 c2 c3) (e + 1).toNat : Int)), some (.inl (e + 1)), some (.inl (h 24 (c2 * 12 + e))), some (.inl (h 24 (c3 * 12 + e)))]) (sk' := []) (h' := h) rfl ?_
            exact ih4 (e + 1) _ _ (by omega) (by omega) (by omega)
          · rw [c_ge (by first | assumption | (refine ⟨?_, ?_⟩ <;> omega) | (simp only [xr] at *; omega)) (by first | assumption | (refine ⟨?_, ?_⟩ <;> omega) | (simp only [xr] at *; omega))] at c25
            simp only [decide_eq_true_eq, decide_eq_false_iff_not, Decidable.not_not] at c25
            show xEx G0 cdX9_compared (some .int) (xRn G0 MT (d + 1)) Q b 26 [some (.inr (.inr 28)), some (.inl c1), some (.inl c2), some (.inl c3), some (.inl (cv (cmpT h c1 c2 c3) e.toNat : Int)), some (.inl e), some (.inl (h 24 (c2 * 12 + e))), some (.inl (h 24 (c3 * 12 + e)))] [] h
            refine E_s 7 (i' := 36) (ls' := [some (.inr (.inr 28)), some (.inl c1), some (.inl c2), some (.inl c3), some (.inl (xor_ (cv (cmpT h c1 c2 c3) e.toNat : Int) (xshl 1 e))), some (.inl e), some (.inl (h 24 (c2 * 12 + e))), some (.inl (h 24 (c3 * 12 + e)))]) (sk' := []) (h' := h) rfl ?_
            rw [cv_s1 (p := cmpT h c1 c2 c3) he0 (by omega) (by unfold cmpT; rw [if_pos c22]; first | exact c25 | exact c29 | exact Int.not_lt.mpr c25 | exact Int.not_le.mp c25)]
            refine E_s 2 (i' := 4) (ls' := [some (.inr (.inr 28)), some (.inl c1), some (.inl c2), some (.inl c3), some (.inl (cv (cmpT h c1 c2 c3) (e + 1).toNat : Int)), some (.inl (e + 1)), some (.inl (h 24 (c2 * 12 + e))), some (.inl (h 24 (c3 * 12 + e)))]) (sk' := []) (h' := h) rfl ?_
            exact ih4 (e + 1) _ _ (by omega) (by omega) (by omega)
  have e0 := key4 _ 0 none none (by omega) (by omega) (Nat.lt_succ_self _)
  skip
  exact e0
set_option maxHeartbeats 1000000 in
theorem c_reckonT (d b : Nat) (h T : xH) (c1 c2 c3 : Int) (hB : BT h) (hK9 : 0 ≤ T 0 0 ∧ T 0 0 ≤ 150) (hs : ∀ k, 0 ≤ k → k < T 0 0 → h 39 k = T 6 k) (hc : okt h T c1 c2 c3) {Q : xO → xH → Prop} (hQ : Q (.inl none) (xup h 28 20 (oT h T c1 c2 c3))) : xRn G0 MT (d + 3) b 83 [.inr (.inr 28), .inl c1, .inl c2, .inl c3] h Q := by
  refine R_of (M := mX9_reckon) rfl (Nat.le_of_ble_eq_true rfl) ?_
  show xEx G0 cdX9_reckon none (xRn G0 MT (d + 2)) Q b 0 [some (.inr (.inr 28)), some (.inl c1), some (.inl c2), some (.inl c3)] [] h
  have hn := hB.1
  unfold okt at hc
  have hK := hB.2.1
  refine E_s 2 (i' := 2) (ls' := [some (.inr (.inr 28)), some (.inl c1), some (.inl c2), some (.inl c3)]) (sk' := [.inl 2, .inl c1]) (h' := h) rfl ?_
  refine E_b (x := (.if_icmp .ne 26, 16, [], [])) rfl rfl (fun cb2 => ?_) (fun cb2 => ?_)
  · rw [c_ne (by first | assumption | (refine ⟨?_, ?_⟩ <;> omega) | (simp only [xr] at *; omega)) (by first | assumption | (refine ⟨?_, ?_⟩ <;> omega) | (simp only [xr] at *; omega))] at cb2
    simp only [decide_eq_true_eq, decide_eq_false_iff_not, Decidable.not_not] at cb2
    show xEx G0 cdX9_reckon none (xRn G0 MT (d + 2)) Q b 16 [some (.inr (.inr 28)), some (.inl c1), some (.inl c2), some (.inl c3)] [] h
    refine E_s 2 (i' := 18) (ls' := [some (.inr (.inr 28)), some (.inl c1), some (.inl c2), some (.inl c3)]) (sk' := [.inl 3, .inl c1]) (h' := h) rfl ?_
    refine E_b (x := (.if_icmp .ne 23, 31, [], [])) rfl rfl (fun cb18 => ?_) (fun cb18 => ?_)
    · rw [c_ne (by first | assumption | (refine ⟨?_, ?_⟩ <;> omega) | (simp only [xr] at *; omega)) (by first | assumption | (refine ⟨?_, ?_⟩ <;> omega) | (simp only [xr] at *; omega))] at cb18
      simp only [decide_eq_true_eq, decide_eq_false_iff_not, Decidable.not_not] at cb18
      show xEx G0 cdX9_reckon none (xRn G0 MT (d + 2)) Q b 31 [some (.inr (.inr 28)), some (.inl c1), some (.inl c2), some (.inl c3)] [] h
      refine E_s 5 (i' := 36) (ls' := [some (.inr (.inr 28)), some (.inl c1), some (.inl c2), some (.inl c3)]) (sk' := [.inl c3, .inl c2, .inl c1, .inr (.inr 28), .inr (.inr 28)]) (h' := h) rfl ?_
      refine E_ci (x := (.invokevirtual 72, 3, [(7, 84)], [0])) (r := (cv (cmpT h c1 c2 c3) (h 1 2).toNat : Int)) (h' := h) rfl rfl (Nat.le_of_ble_eq_true rfl) (c_compared d 0 h c1 c2 c3 hB (by omega) (by omega) (by omega) ⟨rfl, rfl⟩) ?_
      show xEx G0 cdX9_reckon none (xRn G0 MT (d + 2)) Q b 37 [some (.inr (.inr 28)), some (.inl c1), some (.inl c2), some (.inl c3)] [.inl (cv (cmpT h c1 c2 c3) (h 1 2).toNat : Int), .inr (.inr 28)] h
      refine E_s 1 (i' := 38) (ls' := [some (.inr (.inr 28)), some (.inl c1), some (.inl c2), some (.inl c3)]) (sk' := []) (h' := (xup h 28 20 (cv (cmpT h c1 c2 c3) (h 1 2).toNat : Int))) rfl ?_
      exact E_ret (x := (.return_, 0, [], [])) (v := none) rfl (trivial) (by
        unfold oT at hQ
        rw [if_neg cb2] at hQ
        rw [if_neg cb18] at hQ
        exact hQ)
    · rw [c_ne (by first | assumption | (refine ⟨?_, ?_⟩ <;> omega) | (simp only [xr] at *; omega)) (by first | assumption | (refine ⟨?_, ?_⟩ <;> omega) | (simp only [xr] at *; omega))] at cb18
      simp only [decide_eq_true_eq, decide_eq_false_iff_not, Decidable.not_not] at cb18
      show xEx G0 cdX9_reckon none (xRn G0 MT (d + 2)) Q b 19 [some (.inr (.inr 28)), some (.inl c1), some (.inl c2), some (.inl c3)] [] h
      refine E_s 4 (i' := 23) (ls' := [some (.inr (.inr 28)), some (.inl c1), some (.inl c2), some (.inl c3)]) (sk' := [.inl c2, .inr (.inr 39), .inr (.inr 28)]) (h' := h) rfl ?_
      refine E_ld (x := (.iaload, 0, [], [])) (ty := .int) (n := 150) rfl rfl rfl (by omega) (by omega) ?_
      show xEx G0 cdX9_reckon none (xRn G0 MT (d + 2)) Q b 24 [some (.inr (.inr 28)), some (.inl c1), some (.inl c2), some (.inl c3)] [.inl (h 39 c2), .inr (.inr 28)] h
      refine E_s 3 (i' := 27) (ls' := [some (.inr (.inr 28)), some (.inl c1), some (.inl c2), some (.inl c3)]) (sk' := [.inl c3, .inr (.inr 39), .inl (h 39 c2), .inr (.inr 28)]) (h' := h) rfl ?_
      refine E_ld (x := (.iaload, 0, [], [])) (ty := .int) (n := 150) rfl rfl rfl (by omega) (by omega) ?_
      show xEx G0 cdX9_reckon none (xRn G0 MT (d + 2)) Q b 28 [some (.inr (.inr 28)), some (.inl c1), some (.inl c2), some (.inl c3)] [.inl (h 39 c3), .inl (h 39 c2), .inr (.inr 28)] h
      refine E_s 3 (i' := 38) (ls' := [some (.inr (.inr 28)), some (.inl c1), some (.inl c2), some (.inl c3)]) (sk' := []) (h' := (xup h 28 20 (xand (h 39 c2) (h 39 c3)))) rfl ?_
      exact E_ret (x := (.return_, 0, [], [])) (v := none) rfl (trivial) (by
        unfold oT at hQ
        rw [if_neg cb2] at hQ
        rw [if_pos cb18] at hQ
        rw [hs c2 (by omega) (by omega), hs c3 (by omega) (by omega)]
        exact hQ)
  · rw [c_ne (by first | assumption | (refine ⟨?_, ?_⟩ <;> omega) | (simp only [xr] at *; omega)) (by first | assumption | (refine ⟨?_, ?_⟩ <;> omega) | (simp only [xr] at *; omega))] at cb2
    simp only [decide_eq_true_eq, decide_eq_false_iff_not, Decidable.not_not] at cb2
    show xEx G0 cdX9_reckon none (xRn G0 MT (d + 2)) Q b 3 [some (.inr (.inr 28)), some (.inl c1), some (.inl c2), some (.inl c3)] [] h
    refine E_s 3 (i' := 6) (ls' := [some (.inr (.inr 28)), some (.inl c1), some (.inl c2), some (.inl c3)]) (sk' := [.inr (.inr 1), .inr (.inr 28)]) (h' := h) rfl ?_
    refine E_ci (x := (.invokevirtual 61, 0, [(0, 0)], [0])) (r := (xshl 1 (h 1 2) - 1)) (h' := h) rfl rfl (Nat.le_of_ble_eq_true rfl) (c_all (d + 1) 0 h ⟨rfl, rfl⟩) ?_
    show xEx G0 cdX9_reckon none (xRn G0 MT (d + 2)) Q b 7 [some (.inr (.inr 28)), some (.inl c1), some (.inl c2), some (.inl c3)] [.inl (xshl 1 (h 1 2) - 1), .inr (.inr 28)] h
    refine E_s 3 (i' := 10) (ls' := [some (.inr (.inr 28)), some (.inl c1), some (.inl c2), some (.inl c3)]) (sk' := [.inl c2, .inr (.inr 39), .inl (xshl 1 (h 1 2) - 1), .inr (.inr 28)]) (h' := h) rfl ?_
    refine E_ld (x := (.iaload, 0, [], [])) (ty := .int) (n := 150) rfl rfl rfl (by omega) (by omega) ?_
    show xEx G0 cdX9_reckon none (xRn G0 MT (d + 2)) Q b 11 [some (.inr (.inr 28)), some (.inl c1), some (.inl c2), some (.inl c3)] [.inl (h 39 c2), .inl (xshl 1 (h 1 2) - 1), .inr (.inr 28)] h
    refine E_s 5 (i' := 38) (ls' := [some (.inr (.inr 28)), some (.inl c1), some (.inl c2), some (.inl c3)]) (sk' := []) (h' := (xup h 28 20 (xand (xshl 1 (h 1 2) - 1) (xxor (h 39 c2) (-1))))) rfl ?_
    exact E_ret (x := (.return_, 0, [], [])) (v := none) rfl (trivial) (by
      unfold oT at hQ
      rw [if_pos cb2] at hQ
      rw [hs c2 (by omega) (by omega)]
      exact hQ)
set_option maxHeartbeats 1000000 in
theorem c_saysNothingT (d b : Nat) (h : xH) (hn : 0 ≤ h 1 2 ∧ h 1 2 ≤ 12) (hr : 0 ≤ h 28 20 ∧ h 28 20 < 4096) {Q : xO → xH → Prop} (h1 : (h 28 20 = 0 ∨ h 28 20 = xshl 1 (h 1 2) - 1) → Q (.inl (some (.inl 1))) h) (h0 : ¬ (h 28 20 = 0 ∨ h 28 20 = xshl 1 (h 1 2) - 1) → Q (.inl (some (.inl 0))) h) : xRn G0 MT (d + 2) b 85 [.inr (.inr 28)] h Q := by
  refine R_of (M := mX9_saysNothing) rfl (Nat.le_of_ble_eq_true rfl) ?_
  show xEx G0 cdX9_saysNothing (some .boolean) (xRn G0 MT (d + 1)) Q b 0 [some (.inr (.inr 28))] [] h
  refine E_s 2 (i' := 2) (ls' := [some (.inr (.inr 28))]) (sk' := [.inl (h 28 20)]) (h' := h) rfl ?_
  refine E_b (x := (.ifCond .eq 17, 9, [], [])) rfl rfl (fun c2 => ?_) (fun c2 => ?_)
  · rw [c_eq (by first | assumption | (refine ⟨?_, ?_⟩ <;> omega) | (simp only [xr] at *; omega)) (by first | assumption | (refine ⟨?_, ?_⟩ <;> omega) | (simp only [xr] at *; omega))] at c2
    simp only [decide_eq_true_eq, decide_eq_false_iff_not, Decidable.not_not] at c2
    show xEx G0 cdX9_saysNothing (some .boolean) (xRn G0 MT (d + 1)) Q b 9 [some (.inr (.inr 28))] [] h
    refine E_s 2 (i' := 12) (ls' := [some (.inr (.inr 28))]) (sk' := [.inl 1]) (h' := h) rfl ?_
    exact E_ret (x := (.ireturn, 0, [], [])) (v := some (.inl 1)) rfl (Or.inr ⟨rfl, by omega⟩) (h1 (by omega))
  · rw [c_eq (by first | assumption | (refine ⟨?_, ?_⟩ <;> omega) | (simp only [xr] at *; omega)) (by first | assumption | (refine ⟨?_, ?_⟩ <;> omega) | (simp only [xr] at *; omega))] at c2
    simp only [decide_eq_true_eq, decide_eq_false_iff_not, Decidable.not_not] at c2
    show xEx G0 cdX9_saysNothing (some .boolean) (xRn G0 MT (d + 1)) Q b 3 [some (.inr (.inr 28))] [] h
    refine E_s 4 (i' := 7) (ls' := [some (.inr (.inr 28))]) (sk' := [.inr (.inr 1), .inl (h 28 20)]) (h' := h) rfl ?_
    refine E_ci (x := (.invokevirtual 61, 0, [(0, 0)], [0])) (r := (xshl 1 (h 1 2) - 1)) (h' := h) rfl rfl (Nat.le_of_ble_eq_true rfl) (c_all d 0 h ⟨rfl, rfl⟩) ?_
    show xEx G0 cdX9_saysNothing (some .boolean) (xRn G0 MT (d + 1)) Q b 8 [some (.inr (.inr 28))] [.inl (xshl 1 (h 1 2) - 1), .inl (h 28 20)] h
    refine E_b (x := (.if_icmp .ne 7, 11, [], [])) rfl rfl (fun c8 => ?_) (fun c8 => ?_)
    · rw [c_ne (by first | exact ⟨by omega, by omega⟩ | (have h9 := all_e hn.1 hn.2; have h8 := pw31 hn.2; exact ⟨by omega, by omega⟩)) (by first | exact ⟨by omega, by omega⟩ | (have h9 := all_e hn.1 hn.2; have h8 := pw31 hn.2; exact ⟨by omega, by omega⟩))] at c8
      simp only [decide_eq_true_eq, decide_eq_false_iff_not, Decidable.not_not] at c8
      show xEx G0 cdX9_saysNothing (some .boolean) (xRn G0 MT (d + 1)) Q b 11 [some (.inr (.inr 28))] [] h
      refine E_s 1 (i' := 12) (ls' := [some (.inr (.inr 28))]) (sk' := [.inl 0]) (h' := h) rfl ?_
      exact E_ret (x := (.ireturn, 0, [], [])) (v := some (.inl 0)) rfl (Or.inr ⟨rfl, by omega⟩) (h0 (by omega))
    · rw [c_ne (by first | exact ⟨by omega, by omega⟩ | (have h9 := all_e hn.1 hn.2; have h8 := pw31 hn.2; exact ⟨by omega, by omega⟩)) (by first | exact ⟨by omega, by omega⟩ | (have h9 := all_e hn.1 hn.2; have h8 := pw31 hn.2; exact ⟨by omega, by omega⟩))] at c8
      simp only [decide_eq_true_eq, decide_eq_false_iff_not, Decidable.not_not] at c8
      show xEx G0 cdX9_saysNothing (some .boolean) (xRn G0 MT (d + 1)) Q b 9 [some (.inr (.inr 28))] [] h
      refine E_s 2 (i' := 12) (ls' := [some (.inr (.inr 28))]) (sk' := [.inl 1]) (h' := h) rfl ?_
      exact E_ret (x := (.ireturn, 0, [], [])) (v := some (.inl 1)) rfl (Or.inr ⟨rfl, by omega⟩) (h1 (by omega))
set_option maxHeartbeats 1000000 in
theorem c_holderT (d b : Nat) (h : xH) (hr : 0 ≤ h 28 20 ∧ h 28 20 < 4096) {Q : xO → xH → Prop} (hQ : Q (.inl (some (.inl (h 43 (h 28 20))))) h) : xRn G0 MT (d + 1) b 86 [.inr (.inr 28)] h Q := by
  refine R_of (M := mX9_holder) rfl (Nat.le_of_ble_eq_true rfl) ?_
  show xEx G0 cdX9_holder (some .int) (xRn G0 MT d) Q b 0 [some (.inr (.inr 28))] [] h
  refine E_s 4 (i' := 4) (ls' := [some (.inr (.inr 28))]) (sk' := [.inl (h 28 20), .inr (.inr 43)]) (h' := h) rfl ?_
  refine E_ld (x := (.iaload, 0, [], [])) (ty := .int) (n := 4096) rfl rfl rfl (by omega) (by omega) ?_
  show xEx G0 cdX9_holder (some .int) (xRn G0 MT d) Q b 5 [some (.inr (.inr 28))] [.inl (h 43 (h 28 20))] h
  exact E_ret (x := (.ireturn, 0, [], [])) (v := some (.inl (h 43 (h 28 20)))) rfl (Or.inl rfl) (hQ)
set_option maxHeartbeats 1000000 in
theorem c_usageOfT (d b : Nat) (h T : xH) (c1 c2 c3 : Int) (hK9 : 0 ≤ T 0 0 ∧ T 0 0 ≤ 150) (hK : h 9 9 ≤ 300) (hs : ∀ k, 0 ≤ k → k < T 0 0 → h 38 k = T 11 k) (hc : okt h T c1 c2 c3) {Q : xO → xH → Prop} (hQ : Q (.inl (some (.inr (.inl (usT h T c1 c2 c3))))) h) : xRn G0 MT (d + 1) b 89 [.inr (.inr 28), .inl c1, .inl c2, .inl c3] h Q := by
  refine R_of (M := mX9_usageOf) rfl (Nat.le_of_ble_eq_true rfl) ?_
  show xEx G0 cdX9_usageOf (some .long) (xRn G0 MT d) Q b 0 [some (.inr (.inr 28)), some (.inl c1), some (.inl c2), some (.inl c3)] [] h
  unfold okt at hc
  refine E_s 2 (i' := 2) (ls' := [some (.inr (.inr 28)), some (.inl c1), some (.inl c2), some (.inl c3)]) (sk' := [.inl 2, .inl c1]) (h' := h) rfl ?_
  refine E_b (x := (.if_icmp .ne 10, 8, [], [])) rfl rfl (fun cb2 => ?_) (fun cb2 => ?_)
  · rw [c_ne (by first | assumption | (refine ⟨?_, ?_⟩ <;> omega) | (simp only [xr] at *; omega)) (by first | assumption | (refine ⟨?_, ?_⟩ <;> omega) | (simp only [xr] at *; omega))] at cb2
    simp only [decide_eq_true_eq, decide_eq_false_iff_not, Decidable.not_not] at cb2
    show xEx G0 cdX9_usageOf (some .long) (xRn G0 MT d) Q b 8 [some (.inr (.inr 28)), some (.inl c1), some (.inl c2), some (.inl c3)] [] h
    refine E_s 2 (i' := 10) (ls' := [some (.inr (.inr 28)), some (.inl c1), some (.inl c2), some (.inl c3)]) (sk' := [.inl 3, .inl c1]) (h' := h) rfl ?_
    refine E_b (x := (.if_icmp .ne 17, 21, [], [])) rfl rfl (fun cb10 => ?_) (fun cb10 => ?_)
    · rw [c_ne (by first | assumption | (refine ⟨?_, ?_⟩ <;> omega) | (simp only [xr] at *; omega)) (by first | assumption | (refine ⟨?_, ?_⟩ <;> omega) | (simp only [xr] at *; omega))] at cb10
      simp only [decide_eq_true_eq, decide_eq_false_iff_not, Decidable.not_not] at cb10
      show xEx G0 cdX9_usageOf (some .long) (xRn G0 MT d) Q b 21 [some (.inr (.inr 28)), some (.inl c1), some (.inl c2), some (.inl c3)] [] h
      refine E_s 4 (i' := 25) (ls' := [some (.inr (.inr 28)), some (.inl c1), some (.inl c2), some (.inl c3)]) (sk' := [.inl c2, .inr (.inr 19)]) (h' := h) rfl ?_
      refine E_ld (x := (.laload, 0, [], [])) (ty := .long) (n := 300) rfl rfl rfl (by omega) (by omega) ?_
      show xEx G0 cdX9_usageOf (some .long) (xRn G0 MT d) Q b 26 [some (.inr (.inr 28)), some (.inl c1), some (.inl c2), some (.inl c3)] [.inr (.inl (h 19 c2))] h
      refine E_s 4 (i' := 30) (ls' := [some (.inr (.inr 28)), some (.inl c1), some (.inl c2), some (.inl c3)]) (sk' := [.inl c3, .inr (.inr 19), .inr (.inl (h 19 c2))]) (h' := h) rfl ?_
      refine E_ld (x := (.laload, 0, [], [])) (ty := .long) (n := 300) rfl rfl rfl (by omega) (by omega) ?_
      show xEx G0 cdX9_usageOf (some .long) (xRn G0 MT d) Q b 31 [some (.inr (.inr 28)), some (.inl c1), some (.inl c2), some (.inl c3)] [.inr (.inl (h 19 c3)), .inr (.inl (h 19 c2))] h
      refine E_s 1 (i' := 32) (ls' := [some (.inr (.inr 28)), some (.inl c1), some (.inl c2), some (.inl c3)]) (sk' := [.inr (.inl ((h 19 c2) + (h 19 c3)))]) (h' := h) rfl ?_
      exact E_ret (x := (.lreturn, 0, [], [])) (v := some (.inr (.inl ((h 19 c2) + (h 19 c3))))) rfl (rfl) (by
        unfold usT at hQ
        rw [if_neg cb2, if_neg cb10] at hQ
        exact hQ)
    · rw [c_ne (by first | assumption | (refine ⟨?_, ?_⟩ <;> omega) | (simp only [xr] at *; omega)) (by first | assumption | (refine ⟨?_, ?_⟩ <;> omega) | (simp only [xr] at *; omega))] at cb10
      simp only [decide_eq_true_eq, decide_eq_false_iff_not, Decidable.not_not] at cb10
      show xEx G0 cdX9_usageOf (some .long) (xRn G0 MT d) Q b 11 [some (.inr (.inr 28)), some (.inl c1), some (.inl c2), some (.inl c3)] [] h
      refine E_s 3 (i' := 14) (ls' := [some (.inr (.inr 28)), some (.inl c1), some (.inl c2), some (.inl c3)]) (sk' := [.inl c2, .inr (.inr 38)]) (h' := h) rfl ?_
      refine E_ld (x := (.laload, 0, [], [])) (ty := .long) (n := 150) rfl rfl rfl (by omega) (by omega) ?_
      show xEx G0 cdX9_usageOf (some .long) (xRn G0 MT d) Q b 15 [some (.inr (.inr 28)), some (.inl c1), some (.inl c2), some (.inl c3)] [.inr (.inl (h 38 c2))] h
      refine E_s 3 (i' := 18) (ls' := [some (.inr (.inr 28)), some (.inl c1), some (.inl c2), some (.inl c3)]) (sk' := [.inl c3, .inr (.inr 38), .inr (.inl (h 38 c2))]) (h' := h) rfl ?_
      refine E_ld (x := (.laload, 0, [], [])) (ty := .long) (n := 150) rfl rfl rfl (by omega) (by omega) ?_
      show xEx G0 cdX9_usageOf (some .long) (xRn G0 MT d) Q b 19 [some (.inr (.inr 28)), some (.inl c1), some (.inl c2), some (.inl c3)] [.inr (.inl (h 38 c3)), .inr (.inl (h 38 c2))] h
      refine E_s 1 (i' := 20) (ls' := [some (.inr (.inr 28)), some (.inl c1), some (.inl c2), some (.inl c3)]) (sk' := [.inr (.inl ((h 38 c2) + (h 38 c3)))]) (h' := h) rfl ?_
      exact E_ret (x := (.lreturn, 0, [], [])) (v := some (.inr (.inl ((h 38 c2) + (h 38 c3))))) rfl (rfl) (by
        unfold usT at hQ
        rw [if_neg cb2, if_pos cb10] at hQ
        rw [hs c2 (by omega) (by omega), hs c3 (by omega) (by omega)]
        exact hQ)
  · rw [c_ne (by first | assumption | (refine ⟨?_, ?_⟩ <;> omega) | (simp only [xr] at *; omega)) (by first | assumption | (refine ⟨?_, ?_⟩ <;> omega) | (simp only [xr] at *; omega))] at cb2
    simp only [decide_eq_true_eq, decide_eq_false_iff_not, Decidable.not_not] at cb2
    show xEx G0 cdX9_usageOf (some .long) (xRn G0 MT d) Q b 3 [some (.inr (.inr 28)), some (.inl c1), some (.inl c2), some (.inl c3)] [] h
    refine E_s 3 (i' := 6) (ls' := [some (.inr (.inr 28)), some (.inl c1), some (.inl c2), some (.inl c3)]) (sk' := [.inl c2, .inr (.inr 38)]) (h' := h) rfl ?_
    refine E_ld (x := (.laload, 0, [], [])) (ty := .long) (n := 150) rfl rfl rfl (by omega) (by omega) ?_
    show xEx G0 cdX9_usageOf (some .long) (xRn G0 MT d) Q b 7 [some (.inr (.inr 28)), some (.inl c1), some (.inl c2), some (.inl c3)] [.inr (.inl (h 38 c2))] h
    exact E_ret (x := (.lreturn, 0, [], [])) (v := some (.inr (.inl (h 38 c2)))) rfl (rfl) (by
      unfold usT at hQ
      rw [if_pos cb2] at hQ
      rw [hs c2 (by omega) (by omega)]
      exact hQ)
