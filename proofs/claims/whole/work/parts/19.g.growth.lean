/-! GROWTH of EXPRESSIONS as a pure thing: S 0 0 KEPT, S 0 1 MERGED, S 0 2 MADE, S 0 3 what may still be MADE, S 0 4 how it stands (1 FULL, 2 BUDGET); S 1, S 2, S 3 forms; S 4 SIZES; S 5 OUTPUTS; S 6 COVER; S 7 how many MERGED; S 8, S 9, S 10 the first of them; S 11 uses of PARTS -/
noncomputable def fnd (p : Int → Prop) : Nat → Int
  | 0 => -1
  | n + 1 => if 0 ≤ fnd p n then fnd p n else @ite _ (p n) (Classical.propDecidable _) n (-1)
theorem fnd_spec (p : Int → Prop) : ∀ n : Nat, (fnd p n = -1 ∧ ∀ k : Int, 0 ≤ k → k < n → ¬ p k) ∨ (0 ≤ fnd p n ∧ fnd p n < n ∧ p (fnd p n) ∧ ∀ k : Int, 0 ≤ k → k < fnd p n → ¬ p k)
  | 0 => Or.inl ⟨rfl, fun k h1 h2 => by omega⟩
  | n + 1 => by
    rcases fnd_spec p n with ⟨h1, h2⟩ | ⟨h1, h2, h3, h4⟩
    · have e : fnd p (n + 1) = @ite _ (p n) (Classical.propDecidable _) (n : Int) (-1) := by
        simp only [fnd]
        rw [if_neg (by omega)]
      rw [e]
      by_cases hp : p n
      · rw [if_pos hp]
        exact Or.inr ⟨by omega, by omega, hp, fun k a b => h2 k a b⟩
      · rw [if_neg hp]
        refine Or.inl ⟨rfl, fun k a b => ?_⟩
        rcases Int.lt_or_eq_of_le (show k ≤ n by omega) with z | z
        · exact h2 k a z
        · rw [z]; exact hp
    · have e : fnd p (n + 1) = fnd p n := by
        simp only [fnd]
        rw [if_pos h1]
      rw [e]
      exact Or.inr ⟨h1, by omega, h3, h4⟩
theorem fnd_is {p : Int → Prop} {K k : Int} (h1 : 0 ≤ k) (h2 : k < K) (hp : p k) (hu : ∀ j, 0 ≤ j → j < k → ¬ p j) : fnd p K.toNat = k := by
  rcases fnd_spec p K.toNat with ⟨-, a⟩ | ⟨a, b, c, e⟩
  · exact absurd hp (a k h1 (by omega))
  · rcases Int.lt_trichotomy (fnd p K.toNat) k with z | z | z
    · exact absurd c (hu _ a z)
    · exact z
    · exact absurd hp (e k h1 z)
theorem fnd_no {p : Int → Prop} {K : Int} (h : ∀ k, 0 ≤ k → k < K → ¬ p k) : fnd p K.toNat = -1 := by
  rcases fnd_spec p K.toNat with ⟨a, -⟩ | ⟨a, b, c, -⟩
  · exact a
  · exact absurd c (h _ a (by omega))
def rwf (h : xH) (j e : Int) : Int := if j = 0 then h 3 e else if j = 1 then h 4 e else h 5 e
def oE (rw : Int → Int → Int) (S : xH) (c1 c2 c3 e : Int) : Int := if c1 = 10 then rw c2 e else if c1 = 11 then c2 else ap c1 (S 5 (c2 * 12 + e)) (S 5 (c3 * 12 + e))
def eqr (n : Int) (S : xH) (o : Int → Int) (k : Int) : Prop := ∀ e, 0 ≤ e → e < n → S 5 (k * 12 + e) = o e
def usE (S : xH) (c1 c2 c3 : Int) : Int := if 10 ≤ c1 then 0 else if c1 = 5 ∨ c1 = 8 ∨ c1 = 9 then 16 ^ c1.toNat + S 11 c2 else 16 ^ c1.toNat + S 11 c2 + S 11 c3
def put0 (S : xH) (sz c1 c2 c3 cov us : Int) : xH := xup (xup (xup (xup (xup (xup (xup (xup S 1 (S 0 0) c1) 2 (S 0 0) c2) 3 (S 0 0) c3) 4 (S 0 0) sz) 6 (S 0 0) cov) 7 (S 0 0) 0) 11 (S 0 0) us) 0 0 (S 0 0 + 1)
def appE (S : xH) (n sz c1 c2 c3 : Int) (o : Int → Int) (cov us : Int) : xH := fun a j => if a = 5 then (if S 0 0 * 12 ≤ j ∧ j < S 0 0 * 12 + n then o (j - S 0 0 * 12) else S 5 j) else put0 S sz c1 c2 c3 cov us a j
def mrgS (S : xH) (r c1 c2 c3 : Int) : xH := xup (xup (if S 7 r = 0 then xup (xup (xup S 8 r c1) 9 r c2) 10 r c3 else S) 7 r (S 7 r + 1)) 0 1 (S 0 1 + 1)
def mad (S : xH) : xH := xup (xup S 0 3 (S 0 3 - 1)) 0 2 (S 0 2 + 1)
noncomputable def offE (n : Int) (rw : Int → Int → Int) (wt : Int → Int) (sz : Int) (S : xH) (c1 c2 c3 : Int) : xH :=
  if S 0 4 ≠ 0 then S else if S 0 3 = 0 then xup S 0 4 2 else
    if fnd (eqr n S (oE rw S c1 c2 c3)) (S 0 0).toNat ≠ -1 then mrgS (mad S) (fnd (eqr n S (oE rw S c1 c2 c3)) (S 0 0).toNat) c1 c2 c3
    else if 300 ≤ S 0 0 then xup (mad S) 0 4 1
    else appE (mad S) n sz c1 c2 c3 (oE rw S c1 c2 c3) (cv (fun e => oE rw S c1 c2 c3 e = wt e) n.toNat) (usE S c1 c2 c3)
/-- the class's rows hold S -/
def RC (h S : xH) : Prop := h 9 9 = S 0 0 ∧ h 9 10 = S 0 1 ∧ h 9 12 = S 0 2 ∧ h 9 16 = S 0 3 ∧ h 9 17 = S 0 4 ∧
  (∀ k, 0 ≤ k → k < S 0 0 → h 11 k = S 1 k ∧ h 12 k = S 2 k ∧ h 13 k = S 3 k ∧ h 18 k = S 4 k ∧ h 20 k = S 6 k ∧ h 21 k = S 7 k ∧ h 19 k = S 11 k ∧ (S 7 k ≠ 0 → h 15 k = S 8 k ∧ h 16 k = S 9 k ∧ h 17 k = S 10 k)) ∧
  (∀ k e, 0 ≤ k → k < S 0 0 → 0 ≤ e → e < h 1 2 → h 24 (k * 12 + e) = S 5 (k * 12 + e)) ∧ chn h (S 0 0) ∧ (∀ k, 0 ≤ k → k < S 0 0 → h 27 k = HS (h 1 2) (fun e => S 5 (k * 12 + e)))
/-- what S must be -/
def WE (n : Int) (S : xH) : Prop := 0 ≤ S 0 0 ∧ S 0 0 ≤ 300 ∧ (∀ k e, 0 ≤ k → k < S 0 0 → 0 ≤ e → e < n → xr (S 5 (k * 12 + e))) ∧ (∀ j k, 0 ≤ j → j < k → k < S 0 0 → ¬ ∀ e, 0 ≤ e → e < n → S 5 (j * 12 + e) = S 5 (k * 12 + e)) ∧ (∀ k, 0 ≤ k → k < S 0 0 → 0 ≤ S 7 k ∧ S 7 k ≤ S 0 1) ∧ 0 ≤ S 0 1 ∧ S 0 1 ≤ S 0 2 ∧ S 0 2 + S 0 3 ≤ 400000 ∧ 0 ≤ S 0 3 ∧ S 0 3 ≤ 20000 ∧ 0 ≤ S 0 4 ∧ S 0 4 ≤ 2
/-- one that may be MADE -/
def okc (S : xH) (c1 c2 c3 : Int) : Prop := (c1 = 10 ∧ 0 ≤ c2 ∧ c2 ≤ 2 ∧ c3 = 0) ∨ (c1 = 11 ∧ -99 ≤ c2 ∧ c2 ≤ 99 ∧ c3 = 0) ∨ (0 ≤ c1 ∧ c1 ≤ 9 ∧ 0 ≤ c2 ∧ c2 < S 0 0 ∧ 0 ≤ c3 ∧ c3 < S 0 0)
/-- what GROWTH of EXPRESSIONS does not touch -/
def FG (h h' : xH) : Prop := (∀ a, (a < 9 ∨ 27 < a ∨ a = 22 ∨ a = 23) → h' a = h a) ∧ h' 9 11 = h 9 11 ∧ h' 9 13 = h 9 13 ∧ h' 9 14 = h 9 14 ∧ h' 9 15 = h 9 15
theorem FG.rf (h : xH) : FG h h := ⟨fun _ _ => rfl, rfl, rfl, rfl, rfl⟩
theorem FG.tr {h1 h2 h3 : xH} (a : FG h1 h2) (b : FG h2 h3) : FG h1 h3 := ⟨fun x hx => (b.1 x hx).trans (a.1 x hx), b.2.1.trans a.2.1, b.2.2.1.trans a.2.2.1, b.2.2.2.1.trans a.2.2.2.1, b.2.2.2.2.trans a.2.2.2.2⟩
theorem FG.up {h h' : xH} (f : FG h h') {a : Nat} {j z : Int} (ha : (9 ≤ a ∧ a ≤ 27 ∧ a ≠ 22 ∧ a ≠ 23)) (hj : a = 9 → j ≠ 11 ∧ j ≠ 13 ∧ j ≠ 14 ∧ j ≠ 15) : FG h (xup h' a j z) := by
  refine ⟨fun x hx => ?_, ?_, ?_, ?_, ?_⟩
  · rw [← f.1 x hx]
    exact xup_o h' a j z x (by omega)
  all_goals
    by_cases e : a = 9
    · subst e
      have := hj rfl
      rw [xup_j (by omega)]
      first | exact f.2.1 | exact f.2.2.1 | exact f.2.2.2.1 | exact f.2.2.2.2
    · rw [xup_a (fun z => e z.symm)]
      first | exact f.2.1 | exact f.2.2.1 | exact f.2.2.2.1 | exact f.2.2.2.2
theorem FG.rk {h h' : xH} {o : Int → Int} (r : RK h h' o) : FG h h' := ⟨fun x hx => r.1 x (by omega) (by omega), r.2.1 _ (by decide), r.2.1 _ (by decide), r.2.1 _ (by decide), r.2.1 _ (by decide)⟩
set_option maxHeartbeats 1000000 in
theorem c_saysNothing (d b : Nat) (h : xH) {Q : xO → xH → Prop} (hQ : Q (.inl (some (.inl 0))) h) : xRn G0 MT (d + 1) b 13 [.inr (.inr 9)] h Q := by
  refine R_of (M := mX1_saysNothing) rfl (Nat.le_of_ble_eq_true rfl) ?_
  show xEx G0 cdX1_saysNothing (some .boolean) (xRn G0 MT d) Q b 0 [some (.inr (.inr 9))] [] h
  refine E_s 1 (i' := 1) (ls' := [some (.inr (.inr 9))]) (sk' := [.inl 0]) (h' := h) rfl ?_
  exact E_ret (x := (.ireturn, 0, [], [])) (v := some (.inl 0)) rfl (Or.inr ⟨rfl, by omega⟩) (hQ)
theorem p3 {c : Int} (h1 : 0 ≤ c) (h2 : c ≤ 2) : c = 0 ∨ c = 1 ∨ c = 2 := by omega
theorem c_reckon (d b : Nat) (h : xH) (c1 c2 c3 K : Int) (hK9 : h 9 9 = K) (hn : 0 ≤ h 1 2 ∧ h 1 2 ≤ 12) (hK : 0 ≤ K ∧ K ≤ 300) (hr : ∀ k e : Int, 0 ≤ k → k < K → 0 ≤ e → e < h 1 2 → xr (h 24 (k * 12 + e))) (hc : (c1 = 10 ∧ 0 ≤ c2 ∧ c2 ≤ 2 ∧ c3 = 0) ∨ (c1 = 11 ∧ -99 ≤ c2 ∧ c2 ≤ 99 ∧ c3 = 0) ∨ (0 ≤ c1 ∧ c1 ≤ 9 ∧ 0 ≤ c2 ∧ c2 < K ∧ 0 ≤ c3 ∧ c3 < K)) {Q : xO → xH → Prop}
    (hQ : ∀ h', RK h h' (fun e => if c1 = 10 then rwf h c2 e else if c1 = 11 then c2 else ap c1 (h 24 (c2 * 12 + e)) (h 24 (c3 * 12 + e))) → Q (.inl none) h') : xRn G0 MT (d + 3) b 11 [.inr (.inr 9), .inl c1, .inl c2, .inl c3] h Q := by
  subst hK9
  rcases hc with ⟨rfl, h1, h2, -⟩ | ⟨rfl, -, -, -⟩ | ⟨h1, h2, h3, h4, h5, h6⟩
  · rcases p3 h1 h2 with rfl | rfl | rfl
    · exact c_reckon_in0 (d + 1) b h c3 hn hK hQ
    · exact c_reckon_in1 (d + 1) b h c3 hn hK hQ
    · exact c_reckon_in2 (d + 1) b h c3 hn hK hQ
  · exact c_reckon_c d b h c2 c3 hn hK hQ
  · refine c_reckon_o d b h c1 c2 c3 hn hK ⟨h1, h2⟩ ⟨h3, h4⟩ ⟨h5, h6⟩ hr ?_
    have e1 : ¬ c1 = 10 := by omega
    have e2 : ¬ c1 = 11 := by omega
    simp only [e1, e2, if_false] at hQ
    exact hQ
theorem x16 (c : Int) (h : 0 ≤ c ∧ c ≤ 9) : xlshl 1 (4 * c) = 16 ^ c.toNat := by
  rcases p10 h with rfl | rfl | rfl | rfl | rfl | rfl | rfl | rfl | rfl | rfl <;> decide +kernel
set_option maxHeartbeats 1000000 in
theorem c_usageOf (d b : Nat) (h : xH) (c1 c2 c3 : Int) (hc : (10 ≤ c1 ∧ c1 ≤ 11) ∨ (0 ≤ c1 ∧ c1 ≤ 9 ∧ 0 ≤ c2 ∧ c2 < 300 ∧ 0 ≤ c3 ∧ c3 < 300)) {Q : xO → xH → Prop} (hQ : Q (.inl (some (.inr (.inl (if 10 ≤ c1 then 0 else if c1 = 5 ∨ c1 = 8 ∨ c1 = 9 then 16 ^ c1.toNat + h 19 c2 else 16 ^ c1.toNat + h 19 c2 + h 19 c3))))) h) : xRn G0 MT (d + 2) b 18 [.inr (.inr 9), .inl c1, .inl c2, .inl c3] h Q := by
  refine R_of (M := mX1_usageOf) rfl (Nat.le_of_ble_eq_true rfl) ?_
  show xEx G0 cdX1_usageOf (some .long) (xRn G0 MT (d + 1)) Q b 0 [some (.inr (.inr 9)), some (.inl c1), some (.inl c2), some (.inl c3), none, none] [] h
  refine E_s 2 (i' := 2) (ls' := [some (.inr (.inr 9)), some (.inl c1), some (.inl c2), some (.inl c3), none, none]) (sk' := [.inl 10, .inl c1]) (h' := h) rfl ?_
  refine E_b (x := (.if_icmp .lt 5, 5, [], [])) rfl rfl (fun cb2 => ?_) (fun cb2 => ?_)
  · rw [c_lt (by first | assumption | (refine ⟨?_, ?_⟩ <;> omega) | (simp only [xr] at *; omega)) (by first | assumption | (refine ⟨?_, ?_⟩ <;> omega) | (simp only [xr] at *; omega))] at cb2
    simp only [decide_eq_true_eq, decide_eq_false_iff_not, Decidable.not_not] at cb2
    show xEx G0 cdX1_usageOf (some .long) (xRn G0 MT (d + 1)) Q b 5 [some (.inr (.inr 9)), some (.inl c1), some (.inl c2), some (.inl c3), none, none] [] h
    refine E_s 6 (i' := 11) (ls' := [some (.inr (.inr 9)), some (.inl c1), some (.inl c2), some (.inl c3), some (.inr (.inl (xlshl 1 (4 * c1)))), none]) (sk' := []) (h' := h) rfl ?_
    rw [x16 c1 (by omega)]
    refine E_s 1 (i' := 12) (ls' := [some (.inr (.inr 9)), some (.inl c1), some (.inl c2), some (.inl c3), some (.inr (.inl (16 ^ c1.toNat))), none]) (sk' := [.inl c1]) (h' := h) rfl ?_
    refine E_cp (x := (.invokestatic 51, 1, [(0, 38)], [])) (q := fun r h9 => ((r = 1 ∧ (c1 = 5 ∨ c1 = 8 ∨ c1 = 9)) ∨ (r = 0 ∧ ¬ (c1 = 5 ∨ c1 = 8 ∨ c1 = 9))) ∧ h = h9) rfl rfl (Nat.le_of_ble_eq_true rfl) (c_isOfOne d 0 h c1 ⟨by omega, by omega⟩ (fun z9 => ⟨1, rfl, Or.inl ⟨rfl, z9⟩, rfl⟩) (fun z9 => ⟨0, rfl, Or.inr ⟨rfl, z9⟩, rfl⟩)) (fun r h9 hq => ?_)
    obtain ⟨hq, rfl⟩ := hq
    show xEx G0 cdX1_usageOf (some .long) (xRn G0 MT (d + 1)) Q b 13 [some (.inr (.inr 9)), some (.inl c1), some (.inl c2), some (.inl c3), some (.inr (.inl (16 ^ c1.toNat))), none] [.inl r] h
    refine E_b (x := (.ifCond .eq 15, 21, [], [])) rfl rfl (fun c13 => ?_) (fun c13 => ?_)
    · rw [c_eq ⟨by omega, by omega⟩ ⟨by omega, by omega⟩] at c13
      simp only [decide_eq_true_eq, decide_eq_false_iff_not, Decidable.not_not] at c13
      show xEx G0 cdX1_usageOf (some .long) (xRn G0 MT (d + 1)) Q b 21 [some (.inr (.inr 9)), some (.inl c1), some (.inl c2), some (.inl c3), some (.inr (.inl (16 ^ c1.toNat))), none] [] h
      refine E_s 4 (i' := 25) (ls' := [some (.inr (.inr 9)), some (.inl c1), some (.inl c2), some (.inl c3), some (.inr (.inl (16 ^ c1.toNat))), none]) (sk' := [.inl c2, .inr (.inr 19), .inr (.inl (16 ^ c1.toNat))]) (h' := h) rfl ?_
      refine E_ld (x := (.laload, 0, [], [])) (ty := .long) (n := 300) rfl rfl rfl (by omega) (by omega) ?_
      show xEx G0 cdX1_usageOf (some .long) (xRn G0 MT (d + 1)) Q b 26 [some (.inr (.inr 9)), some (.inl c1), some (.inl c2), some (.inl c3), some (.inr (.inl (16 ^ c1.toNat))), none] [.inr (.inl (h 19 c2)), .inr (.inl (16 ^ c1.toNat))] h
      refine E_s 4 (i' := 30) (ls' := [some (.inr (.inr 9)), some (.inl c1), some (.inl c2), some (.inl c3), some (.inr (.inl (16 ^ c1.toNat))), none]) (sk' := [.inl c3, .inr (.inr 19), .inr (.inl ((16 ^ c1.toNat) + (h 19 c2)))]) (h' := h) rfl ?_
      refine E_ld (x := (.laload, 0, [], [])) (ty := .long) (n := 300) rfl rfl rfl (by omega) (by omega) ?_
      show xEx G0 cdX1_usageOf (some .long) (xRn G0 MT (d + 1)) Q b 31 [some (.inr (.inr 9)), some (.inl c1), some (.inl c2), some (.inl c3), some (.inr (.inl (16 ^ c1.toNat))), none] [.inr (.inl (h 19 c3)), .inr (.inl ((16 ^ c1.toNat) + (h 19 c2)))] h
      refine E_s 1 (i' := 32) (ls' := [some (.inr (.inr 9)), some (.inl c1), some (.inl c2), some (.inl c3), some (.inr (.inl (16 ^ c1.toNat))), none]) (sk' := [.inr (.inl (((16 ^ c1.toNat) + (h 19 c2)) + (h 19 c3)))]) (h' := h) rfl ?_
      exact E_ret (x := (.lreturn, 0, [], [])) (v := some (.inr (.inl (((16 ^ c1.toNat) + (h 19 c2)) + (h 19 c3))))) rfl (rfl) (by rw [if_neg (by omega)] at hQ; first | (rw [if_pos (by omega)] at hQ; exact hQ) | (rw [if_neg (by omega)] at hQ; exact hQ))
    · rw [c_eq ⟨by omega, by omega⟩ ⟨by omega, by omega⟩] at c13
      simp only [decide_eq_true_eq, decide_eq_false_iff_not, Decidable.not_not] at c13
      show xEx G0 cdX1_usageOf (some .long) (xRn G0 MT (d + 1)) Q b 14 [some (.inr (.inr 9)), some (.inl c1), some (.inl c2), some (.inl c3), some (.inr (.inl (16 ^ c1.toNat))), none] [] h
      refine E_s 4 (i' := 18) (ls' := [some (.inr (.inr 9)), some (.inl c1), some (.inl c2), some (.inl c3), some (.inr (.inl (16 ^ c1.toNat))), none]) (sk' := [.inl c2, .inr (.inr 19), .inr (.inl (16 ^ c1.toNat))]) (h' := h) rfl ?_
      refine E_ld (x := (.laload, 0, [], [])) (ty := .long) (n := 300) rfl rfl rfl (by omega) (by omega) ?_
      show xEx G0 cdX1_usageOf (some .long) (xRn G0 MT (d + 1)) Q b 19 [some (.inr (.inr 9)), some (.inl c1), some (.inl c2), some (.inl c3), some (.inr (.inl (16 ^ c1.toNat))), none] [.inr (.inl (h 19 c2)), .inr (.inl (16 ^ c1.toNat))] h
      refine E_s 2 (i' := 32) (ls' := [some (.inr (.inr 9)), some (.inl c1), some (.inl c2), some (.inl c3), some (.inr (.inl (16 ^ c1.toNat))), none]) (sk' := [.inr (.inl ((16 ^ c1.toNat) + (h 19 c2)))]) (h' := h) rfl ?_
      exact E_ret (x := (.lreturn, 0, [], [])) (v := some (.inr (.inl ((16 ^ c1.toNat) + (h 19 c2))))) rfl (rfl) (by rw [if_neg (by omega)] at hQ; first | (rw [if_pos (by omega)] at hQ; exact hQ) | (rw [if_neg (by omega)] at hQ; exact hQ))
  · rw [c_lt (by first | assumption | (refine ⟨?_, ?_⟩ <;> omega) | (simp only [xr] at *; omega)) (by first | assumption | (refine ⟨?_, ?_⟩ <;> omega) | (simp only [xr] at *; omega))] at cb2
    simp only [decide_eq_true_eq, decide_eq_false_iff_not, Decidable.not_not] at cb2
    show xEx G0 cdX1_usageOf (some .long) (xRn G0 MT (d + 1)) Q b 3 [some (.inr (.inr 9)), some (.inl c1), some (.inl c2), some (.inl c3), none, none] [] h
    refine E_s 1 (i' := 4) (ls' := [some (.inr (.inr 9)), some (.inl c1), some (.inl c2), some (.inl c3), none, none]) (sk' := [.inr (.inl 0)]) (h' := h) rfl ?_
    exact E_ret (x := (.lreturn, 0, [], [])) (v := some (.inr (.inl 0))) rfl (rfl) (by rw [if_pos (by omega)] at hQ; exact hQ)
set_option maxHeartbeats 1000000 in
theorem c_merge_ge (d b : Nat) (h : xH) (r c1 c2 c3 : Int) (hr : 0 ≤ r ∧ r < 300) (hm : 0 ≤ h 21 r ∧ h 21 r ≤ 1000000) {Q : xO → xH → Prop} (hQ : Q (.inl none) (xup (xup (if h 21 r = 0 then xup (xup (xup h 15 r c1) 16 r c2) 17 r c3 else h) 21 r (h 21 r + 1)) 9 10 (h 9 10 + 1))) : xRn G0 MT (d + 2) b 36 [.inr (.inr 9), .inl r, .inl c1, .inl c2, .inl c3] h Q := by
  refine R_of (M := mX3_merge) rfl (Nat.le_of_ble_eq_true rfl) ?_
  show xEx G0 cdX3_merge none (xRn G0 MT (d + 1)) Q b 0 [some (.inr (.inr 9)), some (.inl r), some (.inl c1), some (.inl c2), some (.inl c3)] [] h
  refine E_s 3 (i' := 3) (ls' := [some (.inr (.inr 9)), some (.inl r), some (.inl c1), some (.inl c2), some (.inl c3)]) (sk' := [.inl r, .inr (.inr 21)]) (h' := h) rfl ?_
  refine E_ld (x := (.iaload, 0, [], [])) (ty := .int) (n := 300) rfl rfl rfl (by omega) (by omega) ?_
  show xEx G0 cdX3_merge none (xRn G0 MT (d + 1)) Q b 4 [some (.inr (.inr 9)), some (.inl r), some (.inl c1), some (.inl c2), some (.inl c3)] [.inl (h 21 r)] h
  refine E_b (x := (.ifCond .ne 15, 12, [], [])) rfl rfl (fun c4 => ?_) (fun c4 => ?_)
  · rw [c_ne (by first | assumption | (refine ⟨?_, ?_⟩ <;> omega) | (simp only [xr] at *; omega)) (by first | assumption | (refine ⟨?_, ?_⟩ <;> omega) | (simp only [xr] at *; omega))] at c4
    simp only [decide_eq_true_eq, decide_eq_false_iff_not, Decidable.not_not] at c4
    show xEx G0 cdX3_merge none (xRn G0 MT (d + 1)) Q b 12 [some (.inr (.inr 9)), some (.inl r), some (.inl c1), some (.inl c2), some (.inl c3)] [] h
    refine E_s 4 (i' := 16) (ls' := [some (.inr (.inr 9)), some (.inl r), some (.inl c1), some (.inl c2), some (.inl c3)]) (sk' := [.inl r, .inr (.inr 21), .inl r, .inr (.inr 21)]) (h' := h) rfl ?_
    refine E_ld (x := (.iaload, 0, [], [])) (ty := .int) (n := 300) rfl rfl rfl (by omega) (by omega) ?_
    show xEx G0 cdX3_merge none (xRn G0 MT (d + 1)) Q b 17 [some (.inr (.inr 9)), some (.inl r), some (.inl c1), some (.inl c2), some (.inl c3)] [.inl (h 21 r), .inl r, .inr (.inr 21)] h
    refine E_s 2 (i' := 19) (ls' := [some (.inr (.inr 9)), some (.inl r), some (.inl c1), some (.inl c2), some (.inl c3)]) (sk' := [.inl ((h 21 r) + 1), .inl r, .inr (.inr 21)]) (h' := h) rfl ?_
    refine E_sd (x := (.iastore, 0, [], [])) (ty := .int) (n := 300) (y := ((h 21 r) + 1)) rfl rfl rfl (by omega) (by omega) (trivial) ?_
    show xEx G0 cdX3_merge none (xRn G0 MT (d + 1)) Q b 20 [some (.inr (.inr 9)), some (.inl r), some (.inl c1), some (.inl c2), some (.inl c3)] [] (xup h 21 r ((h 21 r) + 1))
    refine E_s 6 (i' := 26) (ls' := [some (.inr (.inr 9)), some (.inl r), some (.inl c1), some (.inl c2), some (.inl c3)]) (sk' := []) (h' := (xup (xup h 21 r ((h 21 r) + 1)) 9 10 ((h 9 10) + 1))) rfl ?_
    exact E_ret (x := (.return_, 0, [], [])) (v := none) rfl (trivial) (by first | (rw [if_pos (by assumption)] at hQ; exact hQ) | (rw [if_neg (by assumption)] at hQ; exact hQ))
  · rw [c_ne (by first | assumption | (refine ⟨?_, ?_⟩ <;> omega) | (simp only [xr] at *; omega)) (by first | assumption | (refine ⟨?_, ?_⟩ <;> omega) | (simp only [xr] at *; omega))] at c4
    simp only [decide_eq_true_eq, decide_eq_false_iff_not, Decidable.not_not] at c4
    show xEx G0 cdX3_merge none (xRn G0 MT (d + 1)) Q b 5 [some (.inr (.inr 9)), some (.inl r), some (.inl c1), some (.inl c2), some (.inl c3)] [] h
    refine E_s 6 (i' := 11) (ls' := [some (.inr (.inr 9)), some (.inl r), some (.inl c1), some (.inl c2), some (.inl c3)]) (sk' := [.inl c3, .inl c2, .inl c1, .inl r, .inr (.inr 14)]) (h' := h) rfl ?_
    refine E_cv (x := (.invokevirtual 134, 4, [(2, 23)], [0])) (q := fun h9 => h9 = xup (xup (xup h 15 r c1) 16 r c2) 17 r c3) rfl rfl (Nat.le_of_ble_eq_true rfl) (c_put_gem d 0 h r c1 c2 c3 (by omega) ⟨rfl, rfl⟩) (fun h9 e9 => ?_)
    subst e9
    show xEx G0 cdX3_merge none (xRn G0 MT (d + 1)) Q b 12 [some (.inr (.inr 9)), some (.inl r), some (.inl c1), some (.inl c2), some (.inl c3)] [] (xup (xup (xup h 15 r c1) 16 r c2) 17 r c3)
    refine E_s 4 (i' := 16) (ls' := [some (.inr (.inr 9)), some (.inl r), some (.inl c1), some (.inl c2), some (.inl c3)]) (sk' := [.inl r, .inr (.inr 21), .inl r, .inr (.inr 21)]) (h' := (xup (xup (xup h 15 r c1) 16 r c2) 17 r c3)) rfl ?_
    refine E_ld (x := (.iaload, 0, [], [])) (ty := .int) (n := 300) rfl rfl rfl (by omega) (by omega) ?_
    show xEx G0 cdX3_merge none (xRn G0 MT (d + 1)) Q b 17 [some (.inr (.inr 9)), some (.inl r), some (.inl c1), some (.inl c2), some (.inl c3)] [.inl (h 21 r), .inl r, .inr (.inr 21)] (xup (xup (xup h 15 r c1) 16 r c2) 17 r c3)
    refine E_s 2 (i' := 19) (ls' := [some (.inr (.inr 9)), some (.inl r), some (.inl c1), some (.inl c2), some (.inl c3)]) (sk' := [.inl ((h 21 r) + 1), .inl r, .inr (.inr 21)]) (h' := (xup (xup (xup h 15 r c1) 16 r c2) 17 r c3)) rfl ?_
    refine E_sd (x := (.iastore, 0, [], [])) (ty := .int) (n := 300) (y := ((h 21 r) + 1)) rfl rfl rfl (by omega) (by omega) (trivial) ?_
    show xEx G0 cdX3_merge none (xRn G0 MT (d + 1)) Q b 20 [some (.inr (.inr 9)), some (.inl r), some (.inl c1), some (.inl c2), some (.inl c3)] [] (xup (xup (xup (xup h 15 r c1) 16 r c2) 17 r c3) 21 r ((h 21 r) + 1))
    refine E_s 6 (i' := 26) (ls' := [some (.inr (.inr 9)), some (.inl r), some (.inl c1), some (.inl c2), some (.inl c3)]) (sk' := []) (h' := (xup (xup (xup (xup (xup h 15 r c1) 16 r c2) 17 r c3) 21 r ((h 21 r) + 1)) 9 10 ((h 9 10) + 1))) rfl ?_
    exact E_ret (x := (.return_, 0, [], [])) (v := none) rfl (trivial) (by first | (rw [if_pos (by assumption)] at hQ; exact hQ) | (rw [if_neg (by assumption)] at hQ; exact hQ))
set_option maxHeartbeats 1000000 in
theorem c_merge_gt (d b : Nat) (h : xH) (r c1 c2 c3 : Int) (hr : 0 ≤ r ∧ r < 150) (hm : 0 ≤ h 40 r ∧ h 40 r ≤ 1000000) {Q : xO → xH → Prop} (hQ : Q (.inl none) (xup (xup (if h 40 r = 0 then xup (xup (xup h 34 r c1) 35 r c2) 36 r c3 else h) 40 r (h 40 r + 1)) 28 10 (h 28 10 + 1))) : xRn G0 MT (d + 2) b 36 [.inr (.inr 28), .inl r, .inl c1, .inl c2, .inl c3] h Q := by
  refine R_of (M := mX3_merge) rfl (Nat.le_of_ble_eq_true rfl) ?_
  show xEx G0 cdX3_merge none (xRn G0 MT (d + 1)) Q b 0 [some (.inr (.inr 28)), some (.inl r), some (.inl c1), some (.inl c2), some (.inl c3)] [] h
  refine E_s 3 (i' := 3) (ls' := [some (.inr (.inr 28)), some (.inl r), some (.inl c1), some (.inl c2), some (.inl c3)]) (sk' := [.inl r, .inr (.inr 40)]) (h' := h) rfl ?_
  refine E_ld (x := (.iaload, 0, [], [])) (ty := .int) (n := 150) rfl rfl rfl (by omega) (by omega) ?_
  show xEx G0 cdX3_merge none (xRn G0 MT (d + 1)) Q b 4 [some (.inr (.inr 28)), some (.inl r), some (.inl c1), some (.inl c2), some (.inl c3)] [.inl (h 40 r)] h
  refine E_b (x := (.ifCond .ne 15, 12, [], [])) rfl rfl (fun c4 => ?_) (fun c4 => ?_)
  · rw [c_ne (by first | assumption | (refine ⟨?_, ?_⟩ <;> omega) | (simp only [xr] at *; omega)) (by first | assumption | (refine ⟨?_, ?_⟩ <;> omega) | (simp only [xr] at *; omega))] at c4
    simp only [decide_eq_true_eq, decide_eq_false_iff_not, Decidable.not_not] at c4
    show xEx G0 cdX3_merge none (xRn G0 MT (d + 1)) Q b 12 [some (.inr (.inr 28)), some (.inl r), some (.inl c1), some (.inl c2), some (.inl c3)] [] h
    refine E_s 4 (i' := 16) (ls' := [some (.inr (.inr 28)), some (.inl r), some (.inl c1), some (.inl c2), some (.inl c3)]) (sk' := [.inl r, .inr (.inr 40), .inl r, .inr (.inr 40)]) (h' := h) rfl ?_
    refine E_ld (x := (.iaload, 0, [], [])) (ty := .int) (n := 150) rfl rfl rfl (by omega) (by omega) ?_
    show xEx G0 cdX3_merge none (xRn G0 MT (d + 1)) Q b 17 [some (.inr (.inr 28)), some (.inl r), some (.inl c1), some (.inl c2), some (.inl c3)] [.inl (h 40 r), .inl r, .inr (.inr 40)] h
    refine E_s 2 (i' := 19) (ls' := [some (.inr (.inr 28)), some (.inl r), some (.inl c1), some (.inl c2), some (.inl c3)]) (sk' := [.inl ((h 40 r) + 1), .inl r, .inr (.inr 40)]) (h' := h) rfl ?_
    refine E_sd (x := (.iastore, 0, [], [])) (ty := .int) (n := 150) (y := ((h 40 r) + 1)) rfl rfl rfl (by omega) (by omega) (trivial) ?_
    show xEx G0 cdX3_merge none (xRn G0 MT (d + 1)) Q b 20 [some (.inr (.inr 28)), some (.inl r), some (.inl c1), some (.inl c2), some (.inl c3)] [] (xup h 40 r ((h 40 r) + 1))
    refine E_s 6 (i' := 26) (ls' := [some (.inr (.inr 28)), some (.inl r), some (.inl c1), some (.inl c2), some (.inl c3)]) (sk' := []) (h' := (xup (xup h 40 r ((h 40 r) + 1)) 28 10 ((h 28 10) + 1))) rfl ?_
    exact E_ret (x := (.return_, 0, [], [])) (v := none) rfl (trivial) (by first | (rw [if_pos (by assumption)] at hQ; exact hQ) | (rw [if_neg (by assumption)] at hQ; exact hQ))
  · rw [c_ne (by first | assumption | (refine ⟨?_, ?_⟩ <;> omega) | (simp only [xr] at *; omega)) (by first | assumption | (refine ⟨?_, ?_⟩ <;> omega) | (simp only [xr] at *; omega))] at c4
    simp only [decide_eq_true_eq, decide_eq_false_iff_not, Decidable.not_not] at c4
    show xEx G0 cdX3_merge none (xRn G0 MT (d + 1)) Q b 5 [some (.inr (.inr 28)), some (.inl r), some (.inl c1), some (.inl c2), some (.inl c3)] [] h
    refine E_s 6 (i' := 11) (ls' := [some (.inr (.inr 28)), some (.inl r), some (.inl c1), some (.inl c2), some (.inl c3)]) (sk' := [.inl c3, .inl c2, .inl c1, .inl r, .inr (.inr 33)]) (h' := h) rfl ?_
    refine E_cv (x := (.invokevirtual 134, 4, [(2, 23)], [0])) (q := fun h9 => h9 = xup (xup (xup h 34 r c1) 35 r c2) 36 r c3) rfl rfl (Nat.le_of_ble_eq_true rfl) (c_put_gtm d 0 h r c1 c2 c3 (by omega) ⟨rfl, rfl⟩) (fun h9 e9 => ?_)
    subst e9
    show xEx G0 cdX3_merge none (xRn G0 MT (d + 1)) Q b 12 [some (.inr (.inr 28)), some (.inl r), some (.inl c1), some (.inl c2), some (.inl c3)] [] (xup (xup (xup h 34 r c1) 35 r c2) 36 r c3)
    refine E_s 4 (i' := 16) (ls' := [some (.inr (.inr 28)), some (.inl r), some (.inl c1), some (.inl c2), some (.inl c3)]) (sk' := [.inl r, .inr (.inr 40), .inl r, .inr (.inr 40)]) (h' := (xup (xup (xup h 34 r c1) 35 r c2) 36 r c3)) rfl ?_
    refine E_ld (x := (.iaload, 0, [], [])) (ty := .int) (n := 150) rfl rfl rfl (by omega) (by omega) ?_
    show xEx G0 cdX3_merge none (xRn G0 MT (d + 1)) Q b 17 [some (.inr (.inr 28)), some (.inl r), some (.inl c1), some (.inl c2), some (.inl c3)] [.inl (h 40 r), .inl r, .inr (.inr 40)] (xup (xup (xup h 34 r c1) 35 r c2) 36 r c3)
    refine E_s 2 (i' := 19) (ls' := [some (.inr (.inr 28)), some (.inl r), some (.inl c1), some (.inl c2), some (.inl c3)]) (sk' := [.inl ((h 40 r) + 1), .inl r, .inr (.inr 40)]) (h' := (xup (xup (xup h 34 r c1) 35 r c2) 36 r c3)) rfl ?_
    refine E_sd (x := (.iastore, 0, [], [])) (ty := .int) (n := 150) (y := ((h 40 r) + 1)) rfl rfl rfl (by omega) (by omega) (trivial) ?_
    show xEx G0 cdX3_merge none (xRn G0 MT (d + 1)) Q b 20 [some (.inr (.inr 28)), some (.inl r), some (.inl c1), some (.inl c2), some (.inl c3)] [] (xup (xup (xup (xup h 34 r c1) 35 r c2) 36 r c3) 40 r ((h 40 r) + 1))
    refine E_s 6 (i' := 26) (ls' := [some (.inr (.inr 28)), some (.inl r), some (.inl c1), some (.inl c2), some (.inl c3)]) (sk' := []) (h' := (xup (xup (xup (xup (xup h 34 r c1) 35 r c2) 36 r c3) 40 r ((h 40 r) + 1)) 28 10 ((h 28 10) + 1))) rfl ?_
    exact E_ret (x := (.return_, 0, [], [])) (v := none) rfl (trivial) (by first | (rw [if_pos (by assumption)] at hQ; exact hQ) | (rw [if_neg (by assumption)] at hQ; exact hQ))
