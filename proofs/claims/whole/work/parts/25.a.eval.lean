/-! what EXPRESSIONS and TESTS come to -/
abbrev one (p : Int) : Prop := p = 5 ∨ p = 8 ∨ p = 9
def vE (S : xH) (x : Int → Int) : Nat → Int → Int
  | 0, _ => 0
  | n + 1, k => if S 1 k = 10 then x (S 2 k) else if S 1 k = 11 then S 2 k else ap (S 1 k) (vE S x n (S 2 k)) (if one (S 1 k) then 0 else vE S x n (S 3 k))
def VE (S : xH) (x : Int → Int) (k : Int) : Int := vE S x 300 k
def fE (S : xH) (x : Int → Int) (c1 c2 c3 : Int) : Int := if c1 = 10 then x c2 else if c1 = 11 then c2 else ap c1 (VE S x c2) (if one c1 then 0 else VE S x c3)
/-- what an EXPRESSION is MADE of stands ahead of it and is smaller -/
theorem cw_ch {n : Int} {wt : Int → Int} {z : Int} {S : xH} (hF : FW n wt z S) {K y c1 c2 c3 : Int} (hK : K ≤ S 0 0) (cw : cwf S K y c1 c2 c3) : (c1 = 10 ∧ 0 ≤ c2 ∧ c2 ≤ 2) ∨ (c1 = 11 ∧ -99 ≤ c2 ∧ c2 ≤ 99) ∨ (0 ≤ c1 ∧ c1 ≤ 9 ∧ 0 ≤ c2 ∧ c2 < K ∧ 0 ≤ c3 ∧ c3 < K ∧ S 4 c2 + 1 ≤ y ∧ 2 ≤ y ∧ (¬ one c1 → S 4 c3 + 1 ≤ y)) := by
  rcases cw with ⟨a, b, c, -⟩ | ⟨a, b, c, -⟩ | ⟨a, b, c, e, f, g, r⟩
  · exact Or.inl ⟨a, b, c⟩
  · exact Or.inr (Or.inl ⟨a, b, c⟩)
  · have h2 := (hF c2 c (by omega)).2.1
    have h3 := (hF c3 f (by omega)).2.1
    refine Or.inr (Or.inr ⟨a, b, c, e, f, g, ?_⟩)
    rcases r with ⟨r1, r2, r3⟩ | ⟨r1, r2⟩
    · exact ⟨by omega, by omega, fun q => absurd r1 q⟩
    · exact ⟨by omega, by omega, fun _ => by omega⟩
theorem vE_st {n : Int} {wt : Int → Int} {z : Int} {S : xH} (x : Int → Int) (hF : FW n wt z S) : ∀ (a b : Nat) (k : Int), 0 ≤ k → k < S 0 0 → k < a → k < b → vE S x a k = vE S x b k
  | 0, _, k, h0, _, h1, _ => by omega
  | _ + 1, 0, k, h0, _, _, h1 => by omega
  | a + 1, b + 1, k, h0, h1, h2, h3 => by
    have c := cw_ch hF (Int.le_of_lt h1) (hF k h0 h1).1
    unfold vE
    rcases c with ⟨c1, -⟩ | ⟨c1, -⟩ | ⟨c1, c2, c3, c4, c5, c6, -⟩
    · rw [if_pos c1, if_pos c1]
    · have n10 : ¬ S 1 k = 10 := by omega
      rw [if_neg n10, if_pos c1, if_neg n10, if_pos c1]
    · have n10 : ¬ S 1 k = 10 := by omega
      have n11 : ¬ S 1 k = 11 := by omega
      rw [if_neg n10, if_neg n11, if_neg n10, if_neg n11, vE_st x hF a b (S 2 k) c3 (by omega) (by omega) (by omega), vE_st x hF a b (S 3 k) c5 (by omega) (by omega) (by omega)]
theorem VE_eq {n : Int} {wt : Int → Int} {z : Int} {S : xH} (x : Int → Int) (hF : FW n wt z S) (h3 : S 0 0 ≤ 300) {k : Int} (h0 : 0 ≤ k) (h1 : k < S 0 0) : VE S x k = fE S x (S 1 k) (S 2 k) (S 3 k) := by
  have c := cw_ch hF (Int.le_of_lt h1) (hF k h0 h1).1
  have e : VE S x k = vE S x 301 k := vE_st x hF 300 301 k h0 h1 (by omega) (by omega)
  rw [e]
  unfold vE fE VE
  rfl
theorem VE_r {n : Int} {wt : Int → Int} {z : Int} {S : xH} {x : Int → Int} (hF : FW n wt z S) (hx : ∀ i, 0 ≤ i → i ≤ 2 → xr (x i)) : ∀ (m : Nat) (k : Int), 0 ≤ k → k < S 0 0 → xr (vE S x m k)
  | 0, _, _, _ => ⟨by show (-2147483648 : Int) ≤ 0; decide, by show (0 : Int) ≤ 2147483647; decide⟩
  | m + 1, k, h0, h1 => by
    have c := cw_ch hF (Int.le_of_lt h1) (hF k h0 h1).1
    unfold vE
    rcases c with ⟨c1, c2, c3⟩ | ⟨c1, c2, c3⟩ | ⟨c1, c2, c3, c4, c5, c6, -⟩
    · rw [if_pos c1]; exact hx _ c2 c3
    · rw [if_neg (by omega), if_pos c1]; exact ⟨by omega, by omega⟩
    · rw [if_neg (by omega), if_neg (by omega)]
      refine ap_r (VE_r hF hx m _ c3 (by omega)) ?_
      split
      · exact ⟨by decide, by decide⟩
      · exact VE_r hF hx m _ c5 (by omega)
theorem fE_r {n : Int} {wt : Int → Int} {z : Int} {S : xH} {x : Int → Int} (hF : FW n wt z S) (hx : ∀ i, 0 ≤ i → i ≤ 2 → xr (x i)) {K y c1 c2 c3 : Int} (hK : K ≤ S 0 0) (cw : cwf S K y c1 c2 c3) : xr (fE S x c1 c2 c3) := by
  have c := cw_ch hF hK cw
  unfold fE
  rcases c with ⟨c1, c2, c3⟩ | ⟨c1, c2, c3⟩ | ⟨c1, c2, c3, c4, c5, c6, -⟩
  · rw [if_pos c1]; exact hx _ c2 c3
  · rw [if_neg (by omega), if_pos c1]; exact ⟨by omega, by omega⟩
  · rw [if_neg (by omega), if_neg (by omega)]
    refine ap_r (VE_r hF hx 300 _ c3 (by omega)) ?_
    split
    · exact ⟨by decide, by decide⟩
    · exact VE_r hF hx 300 _ c5 (by omega)
theorem vE_x {n : Int} {wt : Int → Int} {z : Int} {S : xH} {x y : Int → Int} (hF : FW n wt z S) (hx : ∀ i, 0 ≤ i → i ≤ 2 → x i = y i) : ∀ (m : Nat) (k : Int), 0 ≤ k → k < S 0 0 → vE S x m k = vE S y m k
  | 0, _, _, _ => rfl
  | m + 1, k, h0, h1 => by
    have c := cw_ch hF (Int.le_of_lt h1) (hF k h0 h1).1
    unfold vE
    rcases c with ⟨c1, c2, c3⟩ | ⟨c1, c2, c3⟩ | ⟨c1, c2, c3, c4, c5, c6, -⟩
    · rw [if_pos c1, if_pos c1]; exact hx _ c2 c3
    · have n10 : ¬ S 1 k = 10 := by omega
      rw [if_neg n10, if_pos c1, if_neg n10, if_pos c1]
    · have n10 : ¬ S 1 k = 10 := by omega
      have n11 : ¬ S 1 k = 11 := by omega
      rw [if_neg n10, if_neg n11, if_neg n10, if_neg n11, vE_x hF hx m _ c3 (by omega), vE_x hF hx m _ c5 (by omega)]
set_option maxHeartbeats 1000000 in
theorem c_come1_f (d b : Nat) (h S : xH) (k dp : Int) (hR : RC h S) (hF : FW (h 1 2) (h 6) 9 S) (h3 : S 0 0 ≤ 300) (hk : 0 ≤ k ∧ k < S 0 0) (hd : 0 ≤ dp ∧ dp ≤ 9) (hz : S 4 k ≤ dp + 1) (hx : ∀ i, 0 ≤ i → i ≤ 2 → xr (h 63 i)) (IH : ∀ j, 0 ≤ j → j < S 0 0 → S 4 j ≤ dp → ∀ Q9 : xO → xH → Prop, (∀ v, w32 v = VE S (h 63) j → Q9 (.inl (some (.inl v))) h) → xRn G0 MT (d + 1) 0 20 [.inr (.inr 9), .inr (.inr 10), .inl j, .inr (.inr 63), .inl (dp - 1)] h Q9) {Q : xO → xH → Prop} (hQ : ∀ v, w32 v = fE S (h 63) (S 1 k) (S 2 k) (S 3 k) → Q (.inl (some (.inl v))) h) : xRn G0 MT (d + 2) b 20 [.inr (.inr 9), .inr (.inr 10), .inl k, .inr (.inr 63), .inl dp] h Q := by
  refine R_of (M := mX1_come) rfl (Nat.le_of_ble_eq_true rfl) ?_
  show xEx G0 cdX1_come (some .int) (xRn G0 MT (d + 1)) Q b 0 [some (.inr (.inr 9)), some (.inr (.inr 10)), some (.inl k), some (.inr (.inr 63)), some (.inl dp), none, none, none] [] h
  obtain ⟨-, -, -, -, -, r6, -⟩ := hR
  obtain ⟨x1, x2, x3, -, -, -, -, x8⟩ := r6 k hk.1 hk.2
  have a1 : h 11 k = S 1 k := x1
  have a2 : h 12 k = S 2 k := x2
  have a3 : h 13 k = S 3 k := x3
  have ch := cw_ch hF (Int.le_of_lt hk.2) (hF k hk.1 hk.2).1
  have y9 := hz
  refine E_s 3 (i' := 3) (ls' := [some (.inr (.inr 9)), some (.inr (.inr 10)), some (.inl k), some (.inr (.inr 63)), some (.inl dp), none, none, none]) (sk' := [.inl k, .inr (.inr 11)]) (h' := h) rfl ?_
  refine E_ld (x := (.iaload, 0, [], [])) (ty := .int) (n := 300) rfl rfl rfl (by omega) (by omega) ?_
  show xEx G0 cdX1_come (some .int) (xRn G0 MT (d + 1)) Q b 4 [some (.inr (.inr 9)), some (.inr (.inr 10)), some (.inl k), some (.inr (.inr 63)), some (.inl dp), none, none, none] [.inl (h 11 k)] h
  refine E_s 3 (i' := 7) (ls' := [some (.inr (.inr 9)), some (.inr (.inr 10)), some (.inl k), some (.inr (.inr 63)), some (.inl dp), some (.inl (h 11 k)), none, none]) (sk' := [.inl 10, .inl (h 11 k)]) (h' := h) rfl ?_
  refine E_b (x := (.if_icmp .ne 12, 15, [], [])) rfl rfl (fun c7 => ?_) (fun c7 => ?_)
  · rw [c_ne (by first | assumption | (refine ⟨?_, ?_⟩ <;> omega) | (simp only [xr] at *; omega)) (by first | assumption | (refine ⟨?_, ?_⟩ <;> omega) | (simp only [xr] at *; omega))] at c7
    simp only [decide_eq_true_eq, decide_eq_false_iff_not, Decidable.not_not] at c7
    show xEx G0 cdX1_come (some .int) (xRn G0 MT (d + 1)) Q b 15 [some (.inr (.inr 9)), some (.inr (.inr 10)), some (.inl k), some (.inr (.inr 63)), some (.inl dp), some (.inl (h 11 k)), none, none] [] h
    refine E_s 2 (i' := 17) (ls' := [some (.inr (.inr 9)), some (.inr (.inr 10)), some (.inl k), some (.inr (.inr 63)), some (.inl dp), some (.inl (h 11 k)), none, none]) (sk' := [.inl 11, .inl (h 11 k)]) (h' := h) rfl ?_
    refine E_b (x := (.if_icmp .eq 8, 20, [], [])) rfl rfl (fun c17 => ?_) (fun c17 => ?_)
    · rw [c_eq (by first | assumption | (refine ⟨?_, ?_⟩ <;> omega) | (simp only [xr] at *; omega)) (by first | assumption | (refine ⟨?_, ?_⟩ <;> omega) | (simp only [xr] at *; omega))] at c17
      simp only [decide_eq_true_eq, decide_eq_false_iff_not, Decidable.not_not] at c17
      show xEx G0 cdX1_come (some .int) (xRn G0 MT (d + 1)) Q b 20 [some (.inr (.inr 9)), some (.inr (.inr 10)), some (.inl k), some (.inr (.inr 63)), some (.inl dp), some (.inl (h 11 k)), none, none] [] h
      refine E_s 3 (i' := 23) (ls' := [some (.inr (.inr 9)), some (.inr (.inr 10)), some (.inl k), some (.inr (.inr 63)), some (.inl dp), some (.inl (h 11 k)), none, none]) (sk' := [.inl k, .inr (.inr 12)]) (h' := h) rfl ?_
      refine E_ld (x := (.iaload, 0, [], [])) (ty := .int) (n := 300) rfl rfl rfl (by omega) (by omega) ?_
      show xEx G0 cdX1_come (some .int) (xRn G0 MT (d + 1)) Q b 24 [some (.inr (.inr 9)), some (.inr (.inr 10)), some (.inl k), some (.inr (.inr 63)), some (.inl dp), some (.inl (h 11 k)), none, none] [.inl (h 12 k)] h
      exact E_ret (x := (.ireturn, 0, [], [])) (v := some (.inl (h 12 k))) rfl (Or.inl rfl) (hQ _ (by
        have k11 : h 11 k = 11 := by omega
        rw [w32_id ⟨by omega, by omega⟩, a2]; unfold fE; rw [if_neg (by omega), if_pos (by omega)]))
    · rw [c_eq (by first | assumption | (refine ⟨?_, ?_⟩ <;> omega) | (simp only [xr] at *; omega)) (by first | assumption | (refine ⟨?_, ?_⟩ <;> omega) | (simp only [xr] at *; omega))] at c17
      simp only [decide_eq_true_eq, decide_eq_false_iff_not, Decidable.not_not] at c17
      show xEx G0 cdX1_come (some .int) (xRn G0 MT (d + 1)) Q b 18 [some (.inr (.inr 9)), some (.inr (.inr 10)), some (.inl k), some (.inr (.inr 63)), some (.inl dp), some (.inl (h 11 k)), none, none] [] h
      refine E_s 1 (i' := 19) (ls' := [some (.inr (.inr 9)), some (.inr (.inr 10)), some (.inl k), some (.inr (.inr 63)), some (.inl dp), some (.inl (h 11 k)), none, none]) (sk' := [.inl dp]) (h' := h) rfl ?_
      refine E_b (x := (.ifCond .ne 10, 25, [], [])) rfl rfl (fun c19 => ?_) (fun c19 => ?_)
      · rw [c_ne (by first | assumption | (refine ⟨?_, ?_⟩ <;> omega) | (simp only [xr] at *; omega)) (by first | assumption | (refine ⟨?_, ?_⟩ <;> omega) | (simp only [xr] at *; omega))] at c19
        simp only [decide_eq_true_eq, decide_eq_false_iff_not, Decidable.not_not] at c19
        show xEx G0 cdX1_come (some .int) (xRn G0 MT (d + 1)) Q b 25 [some (.inr (.inr 9)), some (.inr (.inr 10)), some (.inl k), some (.inr (.inr 63)), some (.inl dp), some (.inl (h 11 k)), none, none] [] h
        refine E_s 6 (i' := 31) (ls' := [some (.inr (.inr 9)), some (.inr (.inr 10)), some (.inl k), some (.inr (.inr 63)), some (.inl dp), some (.inl (h 11 k)), none, none]) (sk' := [.inl k, .inr (.inr 12), .inr (.inr 10), .inr (.inr 9)]) (h' := h) rfl ?_
        refine E_ld (x := (.iaload, 0, [], [])) (ty := .int) (n := 300) rfl rfl rfl (by omega) (by omega) ?_
        show xEx G0 cdX1_come (some .int) (xRn G0 MT (d + 1)) Q b 32 [some (.inr (.inr 9)), some (.inr (.inr 10)), some (.inl k), some (.inr (.inr 63)), some (.inl dp), some (.inl (h 11 k)), none, none] [.inl (h 12 k), .inr (.inr 10), .inr (.inr 9)] h
        refine E_s 4 (i' := 36) (ls' := [some (.inr (.inr 9)), some (.inr (.inr 10)), some (.inl k), some (.inr (.inr 63)), some (.inl dp), some (.inl (h 11 k)), none, none]) (sk' := [.inl (dp - 1), .inr (.inr 63), .inl (h 12 k), .inr (.inr 10), .inr (.inr 9)]) (h' := h) rfl ?_
        have j1 : 0 ≤ h 12 k ∧ h 12 k < S 0 0 ∧ S 4 (h 12 k) ≤ dp := by
          rw [a2]
          rcases ch with ch | ch | ch
          · omega
          · omega
          · omega
        refine E_cp (x := (.invokevirtual 149, 4, [(1, 20)], [0])) (q := fun r h9 => w32 r = VE S (h 63) (h 12 k) ∧ h = h9) rfl rfl (Nat.le_of_ble_eq_true rfl) (IH (h 12 k) j1.1 j1.2.1 j1.2.2 _ (fun v hv => ⟨v, rfl, hv, rfl⟩)) (fun r1 h9 hv1 => ?_)
        obtain ⟨hv1, rfl⟩ := hv1
        show xEx G0 cdX1_come (some .int) (xRn G0 MT (d + 1)) Q b 37 [some (.inr (.inr 9)), some (.inr (.inr 10)), some (.inl k), some (.inr (.inr 63)), some (.inl dp), some (.inl (h 11 k)), none, none] [.inl r1] h
        have xv1 : xr (VE S (h 63) (h 12 k)) := VE_r hF hx 300 _ j1.1 j1.2.1
        refine E_ti (y := (VE S (h 63) (h 12 k))) (by rw [hv1, w32_id xv1]) ?_
        refine E_s 2 (i' := 39) (ls' := [some (.inr (.inr 9)), some (.inr (.inr 10)), some (.inl k), some (.inr (.inr 63)), some (.inl dp), some (.inl (h 11 k)), some (.inl (VE S (h 63) (h 12 k))), none]) (sk' := [.inl (h 11 k)]) (h' := h) rfl ?_
        refine E_cp (x := (.invokestatic 51, 1, [(0, 38)], [])) (q := fun r9 h9 => ((r9 = 1 ∧ (h 11 k = 5 ∨ h 11 k = 8 ∨ h 11 k = 9)) ∨ (r9 = 0 ∧ ¬ (h 11 k = 5 ∨ h 11 k = 8 ∨ h 11 k = 9))) ∧ h = h9) rfl rfl (Nat.le_of_ble_eq_true rfl) (c_isOfOne d 0 h (h 11 k) ⟨by omega, by omega⟩ (fun z => ⟨_, rfl, Or.inl ⟨rfl, z⟩, rfl⟩) (fun z => ⟨_, rfl, Or.inr ⟨rfl, z⟩, rfl⟩)) (fun r9 h9 q5 => ?_)
        obtain ⟨q5, rfl⟩ := q5
        show xEx G0 cdX1_come (some .int) (xRn G0 MT (d + 1)) Q b 40 [some (.inr (.inr 9)), some (.inr (.inr 10)), some (.inl k), some (.inr (.inr 63)), some (.inl dp), some (.inl (h 11 k)), some (.inl (VE S (h 63) (h 12 k))), none] [.inl r9] h
        refine E_b (x := (.ifCond .eq 7, 43, [], [])) rfl rfl (fun c40 => ?_) (fun c40 => ?_)
        · rw [c_eq (by first | assumption | (refine ⟨?_, ?_⟩ <;> omega) | (simp only [xr] at *; omega)) (by first | assumption | (refine ⟨?_, ?_⟩ <;> omega) | (simp only [xr] at *; omega))] at c40
          simp only [decide_eq_true_eq, decide_eq_false_iff_not, Decidable.not_not] at c40
          show xEx G0 cdX1_come (some .int) (xRn G0 MT (d + 1)) Q b 43 [some (.inr (.inr 9)), some (.inr (.inr 10)), some (.inl k), some (.inr (.inr 63)), some (.inl dp), some (.inl (h 11 k)), some (.inl (VE S (h 63) (h 12 k))), none] [] h
          refine E_s 6 (i' := 49) (ls' := [some (.inr (.inr 9)), some (.inr (.inr 10)), some (.inl k), some (.inr (.inr 63)), some (.inl dp), some (.inl (h 11 k)), some (.inl (VE S (h 63) (h 12 k))), none]) (sk' := [.inl k, .inr (.inr 13), .inr (.inr 10), .inr (.inr 9)]) (h' := h) rfl ?_
          refine E_ld (x := (.iaload, 0, [], [])) (ty := .int) (n := 300) rfl rfl rfl (by omega) (by omega) ?_
          show xEx G0 cdX1_come (some .int) (xRn G0 MT (d + 1)) Q b 50 [some (.inr (.inr 9)), some (.inr (.inr 10)), some (.inl k), some (.inr (.inr 63)), some (.inl dp), some (.inl (h 11 k)), some (.inl (VE S (h 63) (h 12 k))), none] [.inl (h 13 k), .inr (.inr 10), .inr (.inr 9)] h
          refine E_s 4 (i' := 54) (ls' := [some (.inr (.inr 9)), some (.inr (.inr 10)), some (.inl k), some (.inr (.inr 63)), some (.inl dp), some (.inl (h 11 k)), some (.inl (VE S (h 63) (h 12 k))), none]) (sk' := [.inl (dp - 1), .inr (.inr 63), .inl (h 13 k), .inr (.inr 10), .inr (.inr 9)]) (h' := h) rfl ?_
          have j2 : 0 ≤ h 13 k ∧ h 13 k < S 0 0 ∧ S 4 (h 13 k) ≤ dp := by
            rw [a3]
            rcases ch with ch | ch | ch
            · omega
            · omega
            · have := ch.2.2.2.2.2.2.2.2 (by rw [← a1]; exact o0 q5 c40)
              omega
          refine E_cp (x := (.invokevirtual 149, 4, [(1, 20)], [0])) (q := fun r h9 => w32 r = VE S (h 63) (h 13 k) ∧ h = h9) rfl rfl (Nat.le_of_ble_eq_true rfl) (IH (h 13 k) j2.1 j2.2.1 j2.2.2 _ (fun v hv => ⟨v, rfl, hv, rfl⟩)) (fun r2 h9 hv2 => ?_)
          obtain ⟨hv2, rfl⟩ := hv2
          show xEx G0 cdX1_come (some .int) (xRn G0 MT (d + 1)) Q b 55 [some (.inr (.inr 9)), some (.inr (.inr 10)), some (.inl k), some (.inr (.inr 63)), some (.inl dp), some (.inl (h 11 k)), some (.inl (VE S (h 63) (h 12 k))), none] [.inl r2] h
          have xv2 : xr (VE S (h 63) (h 13 k)) := VE_r hF hx 300 _ j2.1 j2.2.1
          refine E_ti (y := (VE S (h 63) (h 13 k))) (by rw [hv2, w32_id xv2]) ?_
          refine E_s 4 (i' := 59) (ls' := [some (.inr (.inr 9)), some (.inr (.inr 10)), some (.inl k), some (.inr (.inr 63)), some (.inl dp), some (.inl (h 11 k)), some (.inl (VE S (h 63) (h 12 k))), some (.inl (VE S (h 63) (h 13 k)))]) (sk' := [.inl (VE S (h 63) (h 13 k)), .inl (VE S (h 63) (h 12 k)), .inl (h 11 k)]) (h' := h) rfl ?_
          have hp9 : 0 ≤ h 11 k ∧ h 11 k ≤ 9 := by omega
          refine E_cp (x := (.invokestatic 112, 3, [(0, 40)], [])) (q := fun r h9 => w32 r = ap (h 11 k) (VE S (h 63) (h 12 k)) (VE S (h 63) (h 13 k)) ∧ h = h9) rfl rfl (Nat.le_of_ble_eq_true rfl) (c_apply d 0 h (h 11 k) (VE S (h 63) (h 12 k)) (VE S (h 63) (h 13 k)) hp9 xv1 (by first | exact xv2 | exact ⟨by decide, by decide⟩) (fun v hv => ⟨v, rfl, hv, rfl⟩)) (fun r3 h9 hv3 => ?_)
          obtain ⟨hv3, rfl⟩ := hv3
          show xEx G0 cdX1_come (some .int) (xRn G0 MT (d + 1)) Q b 60 [some (.inr (.inr 9)), some (.inr (.inr 10)), some (.inl k), some (.inr (.inr 63)), some (.inl dp), some (.inl (h 11 k)), some (.inl (VE S (h 63) (h 12 k))), some (.inl (VE S (h 63) (h 13 k)))] [.inl r3] h
          exact E_ret (x := (.ireturn, 0, [], [])) (v := some (.inl r3)) rfl (Or.inl rfl) (hQ _ (by
            rw [hv3]; unfold fE; rw [if_neg (by omega), if_neg (by omega), ← a1, ← a2, ← a3]
            rw [if_neg (o0 q5 c40)]))
        · rw [c_eq (by first | assumption | (refine ⟨?_, ?_⟩ <;> omega) | (simp only [xr] at *; omega)) (by first | assumption | (refine ⟨?_, ?_⟩ <;> omega) | (simp only [xr] at *; omega))] at c40
          simp only [decide_eq_true_eq, decide_eq_false_iff_not, Decidable.not_not] at c40
          show xEx G0 cdX1_come (some .int) (xRn G0 MT (d + 1)) Q b 41 [some (.inr (.inr 9)), some (.inr (.inr 10)), some (.inl k), some (.inr (.inr 63)), some (.inl dp), some (.inl (h 11 k)), some (.inl (VE S (h 63) (h 12 k))), none] [] h
          refine E_s 6 (i' := 59) (ls' := [some (.inr (.inr 9)), some (.inr (.inr 10)), some (.inl k), some (.inr (.inr 63)), some (.inl dp), some (.inl (h 11 k)), some (.inl (VE S (h 63) (h 12 k))), some (.inl 0)]) (sk' := [.inl 0, .inl (VE S (h 63) (h 12 k)), .inl (h 11 k)]) (h' := h) rfl ?_
          have hp9 : 0 ≤ h 11 k ∧ h 11 k ≤ 9 := by omega
          refine E_cp (x := (.invokestatic 112, 3, [(0, 40)], [])) (q := fun r h9 => w32 r = ap (h 11 k) (VE S (h 63) (h 12 k)) 0 ∧ h = h9) rfl rfl (Nat.le_of_ble_eq_true rfl) (c_apply d 0 h (h 11 k) (VE S (h 63) (h 12 k)) 0 hp9 xv1 (by first | exact xv2 | exact ⟨by decide, by decide⟩) (fun v hv => ⟨v, rfl, hv, rfl⟩)) (fun r3 h9 hv3 => ?_)
          obtain ⟨hv3, rfl⟩ := hv3
          show xEx G0 cdX1_come (some .int) (xRn G0 MT (d + 1)) Q b 60 [some (.inr (.inr 9)), some (.inr (.inr 10)), some (.inl k), some (.inr (.inr 63)), some (.inl dp), some (.inl (h 11 k)), some (.inl (VE S (h 63) (h 12 k))), some (.inl 0)] [.inl r3] h
          exact E_ret (x := (.ireturn, 0, [], [])) (v := some (.inl r3)) rfl (Or.inl rfl) (hQ _ (by
            rw [hv3]; unfold fE; rw [if_neg (by omega), if_neg (by omega), ← a1, ← a2, ← a3]
            rw [if_pos (o1 q5 c40)]))
      · rw [c_ne (by first | assumption | (refine ⟨?_, ?_⟩ <;> omega) | (simp only [xr] at *; omega)) (by first | assumption | (refine ⟨?_, ?_⟩ <;> omega) | (simp only [xr] at *; omega))] at c19
        simp only [decide_eq_true_eq, decide_eq_false_iff_not, Decidable.not_not] at c19
        show xEx G0 cdX1_come (some .int) (xRn G0 MT (d + 1)) Q b 20 [some (.inr (.inr 9)), some (.inr (.inr 10)), some (.inl k), some (.inr (.inr 63)), some (.inl dp), some (.inl (h 11 k)), none, none] [] h
        refine E_s 3 (i' := 23) (ls' := [some (.inr (.inr 9)), some (.inr (.inr 10)), some (.inl k), some (.inr (.inr 63)), some (.inl dp), some (.inl (h 11 k)), none, none]) (sk' := [.inl k, .inr (.inr 12)]) (h' := h) rfl ?_
        refine E_ld (x := (.iaload, 0, [], [])) (ty := .int) (n := 300) rfl rfl rfl (by omega) (by omega) ?_
        show xEx G0 cdX1_come (some .int) (xRn G0 MT (d + 1)) Q b 24 [some (.inr (.inr 9)), some (.inr (.inr 10)), some (.inl k), some (.inr (.inr 63)), some (.inl dp), some (.inl (h 11 k)), none, none] [.inl (h 12 k)] h
        exact E_ret (x := (.ireturn, 0, [], [])) (v := some (.inl (h 12 k))) rfl (Or.inl rfl) (hQ _ (by
          have k11 : h 11 k = 11 := by omega
          rw [w32_id ⟨by omega, by omega⟩, a2]; unfold fE; rw [if_neg (by omega), if_pos (by omega)]))
  · rw [c_ne (by first | assumption | (refine ⟨?_, ?_⟩ <;> omega) | (simp only [xr] at *; omega)) (by first | assumption | (refine ⟨?_, ?_⟩ <;> omega) | (simp only [xr] at *; omega))] at c7
    simp only [decide_eq_true_eq, decide_eq_false_iff_not, Decidable.not_not] at c7
    show xEx G0 cdX1_come (some .int) (xRn G0 MT (d + 1)) Q b 8 [some (.inr (.inr 9)), some (.inr (.inr 10)), some (.inl k), some (.inr (.inr 63)), some (.inl dp), some (.inl (h 11 k)), none, none] [] h
    have b8 : 0 ≤ h 12 k ∧ h 12 k ≤ 2 := by omega
    refine E_s 4 (i' := 12) (ls' := [some (.inr (.inr 9)), some (.inr (.inr 10)), some (.inl k), some (.inr (.inr 63)), some (.inl dp), some (.inl (h 11 k)), none, none]) (sk' := [.inl k, .inr (.inr 12), .inr (.inr 63)]) (h' := h) rfl ?_
    refine E_ld (x := (.iaload, 0, [], [])) (ty := .int) (n := 300) rfl rfl rfl (by omega) (by omega) ?_
    show xEx G0 cdX1_come (some .int) (xRn G0 MT (d + 1)) Q b 13 [some (.inr (.inr 9)), some (.inr (.inr 10)), some (.inl k), some (.inr (.inr 63)), some (.inl dp), some (.inl (h 11 k)), none, none] [.inl (h 12 k), .inr (.inr 63)] h
    refine E_ld (x := (.iaload, 0, [], [])) (ty := .int) (n := 3) rfl rfl rfl (b8.1) (by omega) ?_
    show xEx G0 cdX1_come (some .int) (xRn G0 MT (d + 1)) Q b 14 [some (.inr (.inr 9)), some (.inr (.inr 10)), some (.inl k), some (.inr (.inr 63)), some (.inl dp), some (.inl (h 11 k)), none, none] [.inl (h 63 (h 12 k))] h
    exact E_ret (x := (.ireturn, 0, [], [])) (v := some (.inl (h 63 (h 12 k)))) rfl (Or.inl rfl) (hQ _ (by rw [w32_id (hx _ b8.1 b8.2), a2]; unfold fE; rw [if_pos (by omega)]))
set_option maxHeartbeats 1000000 in
theorem c_come1_m (d b : Nat) (h S : xH) (k dp : Int) (hR : RC h S) (hF : FW (h 1 2) (h 6) 9 S) (h3 : S 0 0 ≤ 300) (hk : 0 ≤ k ∧ k < S 0 0) (h7 : S 7 k ≠ 0) (hd : 0 ≤ dp ∧ dp ≤ 9) (hd9 : dp = 9) (hx : ∀ i, 0 ≤ i → i ≤ 2 → xr (h 63 i)) (IH : ∀ j, 0 ≤ j → j < S 0 0 → S 4 j ≤ dp → ∀ Q9 : xO → xH → Prop, (∀ v, w32 v = VE S (h 63) j → Q9 (.inl (some (.inl v))) h) → xRn G0 MT (d + 1) 0 20 [.inr (.inr 9), .inr (.inr 10), .inl j, .inr (.inr 63), .inl (dp - 1)] h Q9) {Q : xO → xH → Prop} (hQ : ∀ v, w32 v = fE S (h 63) (S 8 k) (S 9 k) (S 10 k) → Q (.inl (some (.inl v))) h) : xRn G0 MT (d + 2) b 20 [.inr (.inr 9), .inr (.inr 14), .inl k, .inr (.inr 63), .inl dp] h Q := by
  refine R_of (M := mX1_come) rfl (Nat.le_of_ble_eq_true rfl) ?_
  show xEx G0 cdX1_come (some .int) (xRn G0 MT (d + 1)) Q b 0 [some (.inr (.inr 9)), some (.inr (.inr 14)), some (.inl k), some (.inr (.inr 63)), some (.inl dp), none, none, none] [] h
  obtain ⟨-, -, -, -, -, r6, -⟩ := hR
  obtain ⟨x1, x2, x3, -, -, -, -, x8⟩ := r6 k hk.1 hk.2
  obtain ⟨a1, a2, a3⟩ := x8 h7
  obtain ⟨y, y9, cw⟩ := (hF k hk.1 hk.2).2.2.2.2.2.2 h7
  have ch := cw_ch hF (Int.le_refl _) cw
  refine E_s 3 (i' := 3) (ls' := [some (.inr (.inr 9)), some (.inr (.inr 14)), some (.inl k), some (.inr (.inr 63)), some (.inl dp), none, none, none]) (sk' := [.inl k, .inr (.inr 15)]) (h' := h) rfl ?_
  refine E_ld (x := (.iaload, 0, [], [])) (ty := .int) (n := 300) rfl rfl rfl (by omega) (by omega) ?_
  show xEx G0 cdX1_come (some .int) (xRn G0 MT (d + 1)) Q b 4 [some (.inr (.inr 9)), some (.inr (.inr 14)), some (.inl k), some (.inr (.inr 63)), some (.inl dp), none, none, none] [.inl (h 15 k)] h
  refine E_s 3 (i' := 7) (ls' := [some (.inr (.inr 9)), some (.inr (.inr 14)), some (.inl k), some (.inr (.inr 63)), some (.inl dp), some (.inl (h 15 k)), none, none]) (sk' := [.inl 10, .inl (h 15 k)]) (h' := h) rfl ?_
  refine E_b (x := (.if_icmp .ne 12, 15, [], [])) rfl rfl (fun c7 => ?_) (fun c7 => ?_)
  · rw [c_ne (by first | assumption | (refine ⟨?_, ?_⟩ <;> omega) | (simp only [xr] at *; omega)) (by first | assumption | (refine ⟨?_, ?_⟩ <;> omega) | (simp only [xr] at *; omega))] at c7
    simp only [decide_eq_true_eq, decide_eq_false_iff_not, Decidable.not_not] at c7
    show xEx G0 cdX1_come (some .int) (xRn G0 MT (d + 1)) Q b 15 [some (.inr (.inr 9)), some (.inr (.inr 14)), some (.inl k), some (.inr (.inr 63)), some (.inl dp), some (.inl (h 15 k)), none, none] [] h
    refine E_s 2 (i' := 17) (ls' := [some (.inr (.inr 9)), some (.inr (.inr 14)), some (.inl k), some (.inr (.inr 63)), some (.inl dp), some (.inl (h 15 k)), none, none]) (sk' := [.inl 11, .inl (h 15 k)]) (h' := h) rfl ?_
    refine E_b (x := (.if_icmp .eq 8, 20, [], [])) rfl rfl (fun c17 => ?_) (fun c17 => ?_)
    · rw [c_eq (by first | assumption | (refine ⟨?_, ?_⟩ <;> omega) | (simp only [xr] at *; omega)) (by first | assumption | (refine ⟨?_, ?_⟩ <;> omega) | (simp only [xr] at *; omega))] at c17
      simp only [decide_eq_true_eq, decide_eq_false_iff_not, Decidable.not_not] at c17
      show xEx G0 cdX1_come (some .int) (xRn G0 MT (d + 1)) Q b 20 [some (.inr (.inr 9)), some (.inr (.inr 14)), some (.inl k), some (.inr (.inr 63)), some (.inl dp), some (.inl (h 15 k)), none, none] [] h
      refine E_s 3 (i' := 23) (ls' := [some (.inr (.inr 9)), some (.inr (.inr 14)), some (.inl k), some (.inr (.inr 63)), some (.inl dp), some (.inl (h 15 k)), none, none]) (sk' := [.inl k, .inr (.inr 16)]) (h' := h) rfl ?_
      refine E_ld (x := (.iaload, 0, [], [])) (ty := .int) (n := 300) rfl rfl rfl (by omega) (by omega) ?_
      show xEx G0 cdX1_come (some .int) (xRn G0 MT (d + 1)) Q b 24 [some (.inr (.inr 9)), some (.inr (.inr 14)), some (.inl k), some (.inr (.inr 63)), some (.inl dp), some (.inl (h 15 k)), none, none] [.inl (h 16 k)] h
      exact E_ret (x := (.ireturn, 0, [], [])) (v := some (.inl (h 16 k))) rfl (Or.inl rfl) (hQ _ (by
        have k11 : h 15 k = 11 := by omega
        rw [w32_id ⟨by omega, by omega⟩, a2]; unfold fE; rw [if_neg (by omega), if_pos (by omega)]))
    · rw [c_eq (by first | assumption | (refine ⟨?_, ?_⟩ <;> omega) | (simp only [xr] at *; omega)) (by first | assumption | (refine ⟨?_, ?_⟩ <;> omega) | (simp only [xr] at *; omega))] at c17
      simp only [decide_eq_true_eq, decide_eq_false_iff_not, Decidable.not_not] at c17
      show xEx G0 cdX1_come (some .int) (xRn G0 MT (d + 1)) Q b 18 [some (.inr (.inr 9)), some (.inr (.inr 14)), some (.inl k), some (.inr (.inr 63)), some (.inl dp), some (.inl (h 15 k)), none, none] [] h
      refine E_s 1 (i' := 19) (ls' := [some (.inr (.inr 9)), some (.inr (.inr 14)), some (.inl k), some (.inr (.inr 63)), some (.inl dp), some (.inl (h 15 k)), none, none]) (sk' := [.inl dp]) (h' := h) rfl ?_
      refine E_b (x := (.ifCond .ne 10, 25, [], [])) rfl rfl (fun c19 => ?_) (fun c19 => ?_)
      · rw [c_ne (by first | assumption | (refine ⟨?_, ?_⟩ <;> omega) | (simp only [xr] at *; omega)) (by first | assumption | (refine ⟨?_, ?_⟩ <;> omega) | (simp only [xr] at *; omega))] at c19
        simp only [decide_eq_true_eq, decide_eq_false_iff_not, Decidable.not_not] at c19
        show xEx G0 cdX1_come (some .int) (xRn G0 MT (d + 1)) Q b 25 [some (.inr (.inr 9)), some (.inr (.inr 14)), some (.inl k), some (.inr (.inr 63)), some (.inl dp), some (.inl (h 15 k)), none, none] [] h
        refine E_s 6 (i' := 31) (ls' := [some (.inr (.inr 9)), some (.inr (.inr 14)), some (.inl k), some (.inr (.inr 63)), some (.inl dp), some (.inl (h 15 k)), none, none]) (sk' := [.inl k, .inr (.inr 16), .inr (.inr 10), .inr (.inr 9)]) (h' := h) rfl ?_
        refine E_ld (x := (.iaload, 0, [], [])) (ty := .int) (n := 300) rfl rfl rfl (by omega) (by omega) ?_
        show xEx G0 cdX1_come (some .int) (xRn G0 MT (d + 1)) Q b 32 [some (.inr (.inr 9)), some (.inr (.inr 14)), some (.inl k), some (.inr (.inr 63)), some (.inl dp), some (.inl (h 15 k)), none, none] [.inl (h 16 k), .inr (.inr 10), .inr (.inr 9)] h
        refine E_s 4 (i' := 36) (ls' := [some (.inr (.inr 9)), some (.inr (.inr 14)), some (.inl k), some (.inr (.inr 63)), some (.inl dp), some (.inl (h 15 k)), none, none]) (sk' := [.inl (dp - 1), .inr (.inr 63), .inl (h 16 k), .inr (.inr 10), .inr (.inr 9)]) (h' := h) rfl ?_
        have j1 : 0 ≤ h 16 k ∧ h 16 k < S 0 0 ∧ S 4 (h 16 k) ≤ dp := by
          rw [a2]
          rcases ch with ch | ch | ch
          · omega
          · omega
          · omega
        refine E_cp (x := (.invokevirtual 149, 4, [(1, 20)], [0])) (q := fun r h9 => w32 r = VE S (h 63) (h 16 k) ∧ h = h9) rfl rfl (Nat.le_of_ble_eq_true rfl) (IH (h 16 k) j1.1 j1.2.1 j1.2.2 _ (fun v hv => ⟨v, rfl, hv, rfl⟩)) (fun r1 h9 hv1 => ?_)
        obtain ⟨hv1, rfl⟩ := hv1
        show xEx G0 cdX1_come (some .int) (xRn G0 MT (d + 1)) Q b 37 [some (.inr (.inr 9)), some (.inr (.inr 14)), some (.inl k), some (.inr (.inr 63)), some (.inl dp), some (.inl (h 15 k)), none, none] [.inl r1] h
        have xv1 : xr (VE S (h 63) (h 16 k)) := VE_r hF hx 300 _ j1.1 j1.2.1
        refine E_ti (y := (VE S (h 63) (h 16 k))) (by rw [hv1, w32_id xv1]) ?_
        refine E_s 2 (i' := 39) (ls' := [some (.inr (.inr 9)), some (.inr (.inr 14)), some (.inl k), some (.inr (.inr 63)), some (.inl dp), some (.inl (h 15 k)), some (.inl (VE S (h 63) (h 16 k))), none]) (sk' := [.inl (h 15 k)]) (h' := h) rfl ?_
        refine E_cp (x := (.invokestatic 51, 1, [(0, 38)], [])) (q := fun r9 h9 => ((r9 = 1 ∧ (h 15 k = 5 ∨ h 15 k = 8 ∨ h 15 k = 9)) ∨ (r9 = 0 ∧ ¬ (h 15 k = 5 ∨ h 15 k = 8 ∨ h 15 k = 9))) ∧ h = h9) rfl rfl (Nat.le_of_ble_eq_true rfl) (c_isOfOne d 0 h (h 15 k) ⟨by omega, by omega⟩ (fun z => ⟨_, rfl, Or.inl ⟨rfl, z⟩, rfl⟩) (fun z => ⟨_, rfl, Or.inr ⟨rfl, z⟩, rfl⟩)) (fun r9 h9 q5 => ?_)
        obtain ⟨q5, rfl⟩ := q5
        show xEx G0 cdX1_come (some .int) (xRn G0 MT (d + 1)) Q b 40 [some (.inr (.inr 9)), some (.inr (.inr 14)), some (.inl k), some (.inr (.inr 63)), some (.inl dp), some (.inl (h 15 k)), some (.inl (VE S (h 63) (h 16 k))), none] [.inl r9] h
        refine E_b (x := (.ifCond .eq 7, 43, [], [])) rfl rfl (fun c40 => ?_) (fun c40 => ?_)
        · rw [c_eq (by first | assumption | (refine ⟨?_, ?_⟩ <;> omega) | (simp only [xr] at *; omega)) (by first | assumption | (refine ⟨?_, ?_⟩ <;> omega) | (simp only [xr] at *; omega))] at c40
          simp only [decide_eq_true_eq, decide_eq_false_iff_not, Decidable.not_not] at c40
          show xEx G0 cdX1_come (some .int) (xRn G0 MT (d + 1)) Q b 43 [some (.inr (.inr 9)), some (.inr (.inr 14)), some (.inl k), some (.inr (.inr 63)), some (.inl dp), some (.inl (h 15 k)), some (.inl (VE S (h 63) (h 16 k))), none] [] h
          refine E_s 6 (i' := 49) (ls' := [some (.inr (.inr 9)), some (.inr (.inr 14)), some (.inl k), some (.inr (.inr 63)), some (.inl dp), some (.inl (h 15 k)), some (.inl (VE S (h 63) (h 16 k))), none]) (sk' := [.inl k, .inr (.inr 17), .inr (.inr 10), .inr (.inr 9)]) (h' := h) rfl ?_
          refine E_ld (x := (.iaload, 0, [], [])) (ty := .int) (n := 300) rfl rfl rfl (by omega) (by omega) ?_
          show xEx G0 cdX1_come (some .int) (xRn G0 MT (d + 1)) Q b 50 [some (.inr (.inr 9)), some (.inr (.inr 14)), some (.inl k), some (.inr (.inr 63)), some (.inl dp), some (.inl (h 15 k)), some (.inl (VE S (h 63) (h 16 k))), none] [.inl (h 17 k), .inr (.inr 10), .inr (.inr 9)] h
          refine E_s 4 (i' := 54) (ls' := [some (.inr (.inr 9)), some (.inr (.inr 14)), some (.inl k), some (.inr (.inr 63)), some (.inl dp), some (.inl (h 15 k)), some (.inl (VE S (h 63) (h 16 k))), none]) (sk' := [.inl (dp - 1), .inr (.inr 63), .inl (h 17 k), .inr (.inr 10), .inr (.inr 9)]) (h' := h) rfl ?_
          have j2 : 0 ≤ h 17 k ∧ h 17 k < S 0 0 ∧ S 4 (h 17 k) ≤ dp := by
            rw [a3]
            rcases ch with ch | ch | ch
            · omega
            · omega
            · have := ch.2.2.2.2.2.2.2.2 (by rw [← a1]; exact o0 q5 c40)
              omega
          refine E_cp (x := (.invokevirtual 149, 4, [(1, 20)], [0])) (q := fun r h9 => w32 r = VE S (h 63) (h 17 k) ∧ h = h9) rfl rfl (Nat.le_of_ble_eq_true rfl) (IH (h 17 k) j2.1 j2.2.1 j2.2.2 _ (fun v hv => ⟨v, rfl, hv, rfl⟩)) (fun r2 h9 hv2 => ?_)
          obtain ⟨hv2, rfl⟩ := hv2
          show xEx G0 cdX1_come (some .int) (xRn G0 MT (d + 1)) Q b 55 [some (.inr (.inr 9)), some (.inr (.inr 14)), some (.inl k), some (.inr (.inr 63)), some (.inl dp), some (.inl (h 15 k)), some (.inl (VE S (h 63) (h 16 k))), none] [.inl r2] h
          have xv2 : xr (VE S (h 63) (h 17 k)) := VE_r hF hx 300 _ j2.1 j2.2.1
          refine E_ti (y := (VE S (h 63) (h 17 k))) (by rw [hv2, w32_id xv2]) ?_
          refine E_s 4 (i' := 59) (ls' := [some (.inr (.inr 9)), some (.inr (.inr 14)), some (.inl k), some (.inr (.inr 63)), some (.inl dp), some (.inl (h 15 k)), some (.inl (VE S (h 63) (h 16 k))), some (.inl (VE S (h 63) (h 17 k)))]) (sk' := [.inl (VE S (h 63) (h 17 k)), .inl (VE S (h 63) (h 16 k)), .inl (h 15 k)]) (h' := h) rfl ?_
          have hp9 : 0 ≤ h 15 k ∧ h 15 k ≤ 9 := by omega
          refine E_cp (x := (.invokestatic 112, 3, [(0, 40)], [])) (q := fun r h9 => w32 r = ap (h 15 k) (VE S (h 63) (h 16 k)) (VE S (h 63) (h 17 k)) ∧ h = h9) rfl rfl (Nat.le_of_ble_eq_true rfl) (c_apply d 0 h (h 15 k) (VE S (h 63) (h 16 k)) (VE S (h 63) (h 17 k)) hp9 xv1 (by first | exact xv2 | exact ⟨by decide, by decide⟩) (fun v hv => ⟨v, rfl, hv, rfl⟩)) (fun r3 h9 hv3 => ?_)
          obtain ⟨hv3, rfl⟩ := hv3
          show xEx G0 cdX1_come (some .int) (xRn G0 MT (d + 1)) Q b 60 [some (.inr (.inr 9)), some (.inr (.inr 14)), some (.inl k), some (.inr (.inr 63)), some (.inl dp), some (.inl (h 15 k)), some (.inl (VE S (h 63) (h 16 k))), some (.inl (VE S (h 63) (h 17 k)))] [.inl r3] h
          exact E_ret (x := (.ireturn, 0, [], [])) (v := some (.inl r3)) rfl (Or.inl rfl) (hQ _ (by
            rw [hv3]; unfold fE; rw [if_neg (by omega), if_neg (by omega), ← a1, ← a2, ← a3]
            rw [if_neg (o0 q5 c40)]))
        · rw [c_eq (by first | assumption | (refine ⟨?_, ?_⟩ <;> omega) | (simp only [xr] at *; omega)) (by first | assumption | (refine ⟨?_, ?_⟩ <;> omega) | (simp only [xr] at *; omega))] at c40
          simp only [decide_eq_true_eq, decide_eq_false_iff_not, Decidable.not_not] at c40
          show xEx G0 cdX1_come (some .int) (xRn G0 MT (d + 1)) Q b 41 [some (.inr (.inr 9)), some (.inr (.inr 14)), some (.inl k), some (.inr (.inr 63)), some (.inl dp), some (.inl (h 15 k)), some (.inl (VE S (h 63) (h 16 k))), none] [] h
          refine E_s 6 (i' := 59) (ls' := [some (.inr (.inr 9)), some (.inr (.inr 14)), some (.inl k), some (.inr (.inr 63)), some (.inl dp), some (.inl (h 15 k)), some (.inl (VE S (h 63) (h 16 k))), some (.inl 0)]) (sk' := [.inl 0, .inl (VE S (h 63) (h 16 k)), .inl (h 15 k)]) (h' := h) rfl ?_
          have hp9 : 0 ≤ h 15 k ∧ h 15 k ≤ 9 := by omega
          refine E_cp (x := (.invokestatic 112, 3, [(0, 40)], [])) (q := fun r h9 => w32 r = ap (h 15 k) (VE S (h 63) (h 16 k)) 0 ∧ h = h9) rfl rfl (Nat.le_of_ble_eq_true rfl) (c_apply d 0 h (h 15 k) (VE S (h 63) (h 16 k)) 0 hp9 xv1 (by first | exact xv2 | exact ⟨by decide, by decide⟩) (fun v hv => ⟨v, rfl, hv, rfl⟩)) (fun r3 h9 hv3 => ?_)
          obtain ⟨hv3, rfl⟩ := hv3
          show xEx G0 cdX1_come (some .int) (xRn G0 MT (d + 1)) Q b 60 [some (.inr (.inr 9)), some (.inr (.inr 14)), some (.inl k), some (.inr (.inr 63)), some (.inl dp), some (.inl (h 15 k)), some (.inl (VE S (h 63) (h 16 k))), some (.inl 0)] [.inl r3] h
          exact E_ret (x := (.ireturn, 0, [], [])) (v := some (.inl r3)) rfl (Or.inl rfl) (hQ _ (by
            rw [hv3]; unfold fE; rw [if_neg (by omega), if_neg (by omega), ← a1, ← a2, ← a3]
            rw [if_pos (o1 q5 c40)]))
      · rw [c_ne (by first | assumption | (refine ⟨?_, ?_⟩ <;> omega) | (simp only [xr] at *; omega)) (by first | assumption | (refine ⟨?_, ?_⟩ <;> omega) | (simp only [xr] at *; omega))] at c19
        simp only [decide_eq_true_eq, decide_eq_false_iff_not, Decidable.not_not] at c19
        show xEx G0 cdX1_come (some .int) (xRn G0 MT (d + 1)) Q b 20 [some (.inr (.inr 9)), some (.inr (.inr 14)), some (.inl k), some (.inr (.inr 63)), some (.inl dp), some (.inl (h 15 k)), none, none] [] h
        refine E_s 3 (i' := 23) (ls' := [some (.inr (.inr 9)), some (.inr (.inr 14)), some (.inl k), some (.inr (.inr 63)), some (.inl dp), some (.inl (h 15 k)), none, none]) (sk' := [.inl k, .inr (.inr 16)]) (h' := h) rfl ?_
        refine E_ld (x := (.iaload, 0, [], [])) (ty := .int) (n := 300) rfl rfl rfl (by omega) (by omega) ?_
        show xEx G0 cdX1_come (some .int) (xRn G0 MT (d + 1)) Q b 24 [some (.inr (.inr 9)), some (.inr (.inr 14)), some (.inl k), some (.inr (.inr 63)), some (.inl dp), some (.inl (h 15 k)), none, none] [.inl (h 16 k)] h
        exact E_ret (x := (.ireturn, 0, [], [])) (v := some (.inl (h 16 k))) rfl (Or.inl rfl) (hQ _ (by
          have k11 : h 15 k = 11 := by omega
          rw [w32_id ⟨by omega, by omega⟩, a2]; unfold fE; rw [if_neg (by omega), if_pos (by omega)]))
  · rw [c_ne (by first | assumption | (refine ⟨?_, ?_⟩ <;> omega) | (simp only [xr] at *; omega)) (by first | assumption | (refine ⟨?_, ?_⟩ <;> omega) | (simp only [xr] at *; omega))] at c7
    simp only [decide_eq_true_eq, decide_eq_false_iff_not, Decidable.not_not] at c7
    show xEx G0 cdX1_come (some .int) (xRn G0 MT (d + 1)) Q b 8 [some (.inr (.inr 9)), some (.inr (.inr 14)), some (.inl k), some (.inr (.inr 63)), some (.inl dp), some (.inl (h 15 k)), none, none] [] h
    have b8 : 0 ≤ h 16 k ∧ h 16 k ≤ 2 := by omega
    refine E_s 4 (i' := 12) (ls' := [some (.inr (.inr 9)), some (.inr (.inr 14)), some (.inl k), some (.inr (.inr 63)), some (.inl dp), some (.inl (h 15 k)), none, none]) (sk' := [.inl k, .inr (.inr 16), .inr (.inr 63)]) (h' := h) rfl ?_
    refine E_ld (x := (.iaload, 0, [], [])) (ty := .int) (n := 300) rfl rfl rfl (by omega) (by omega) ?_
    show xEx G0 cdX1_come (some .int) (xRn G0 MT (d + 1)) Q b 13 [some (.inr (.inr 9)), some (.inr (.inr 14)), some (.inl k), some (.inr (.inr 63)), some (.inl dp), some (.inl (h 15 k)), none, none] [.inl (h 16 k), .inr (.inr 63)] h
    refine E_ld (x := (.iaload, 0, [], [])) (ty := .int) (n := 3) rfl rfl rfl (b8.1) (by omega) ?_
    show xEx G0 cdX1_come (some .int) (xRn G0 MT (d + 1)) Q b 14 [some (.inr (.inr 9)), some (.inr (.inr 14)), some (.inl k), some (.inr (.inr 63)), some (.inl dp), some (.inl (h 15 k)), none, none] [.inl (h 63 (h 16 k))] h
    exact E_ret (x := (.ireturn, 0, [], [])) (v := some (.inl (h 63 (h 16 k)))) rfl (Or.inl rfl) (hQ _ (by rw [w32_id (hx _ b8.1 b8.2), a2]; unfold fE; rw [if_pos (by omega)]))
theorem c_come : ∀ (n d b : Nat) (h S : xH) (k dp : Int), dp = (n : Int) → RC h S → FW (h 1 2) (h 6) 9 S → S 0 0 ≤ 300 → (0 ≤ k ∧ k < S 0 0) → dp ≤ 9 → S 4 k ≤ dp + 1 → (∀ i, 0 ≤ i → i ≤ 2 → xr (h 63 i)) → ∀ {Q : xO → xH → Prop}, (∀ v, w32 v = VE S (h 63) k → Q (.inl (some (.inl v))) h) → xRn G0 MT (d + n + 2) b 20 [.inr (.inr 9), .inr (.inr 10), .inl k, .inr (.inr 63), .inl dp] h Q
  | 0, d, b, h, S, k, dp, hn, hR, hF, h3, hk, hd, hz, hx, Q, hQ => by
    refine c_come1_f d b h S k dp hR hF h3 hk (by omega) hz hx (fun j j1 j2 j3 Q9 hQ9 => ?_) (fun v hv => hQ v (by rw [hv]; exact (VE_eq _ hF h3 hk.1 hk.2).symm))
    have := (hF j j1 j2).2.1
    omega
  | n + 1, d, b, h, S, k, dp, hn, hR, hF, h3, hk, hd, hz, hx, Q, hQ => by
    have e : d + (n + 1) + 2 = (d + n + 1) + 2 := by omega
    rw [e]
    refine c_come1_f (d + n + 1) b h S k dp hR hF h3 hk (by omega) hz hx (fun j j1 j2 j3 Q9 hQ9 => ?_) (fun v hv => hQ v (by rw [hv]; exact (VE_eq _ hF h3 hk.1 hk.2).symm))
    exact c_come n d 0 h S j (dp - 1) (by omega) hR hF h3 ⟨j1, j2⟩ (by omega) (by omega) hx hQ9
theorem c_come_m (d b : Nat) (h S : xH) (k : Int) (hR : RC h S) (hF : FW (h 1 2) (h 6) 9 S) (h3 : S 0 0 ≤ 300) (hk : 0 ≤ k ∧ k < S 0 0) (h7 : S 7 k ≠ 0) (hx : ∀ i, 0 ≤ i → i ≤ 2 → xr (h 63 i)) {Q : xO → xH → Prop} (hQ : ∀ v, w32 v = fE S (h 63) (S 8 k) (S 9 k) (S 10 k) → Q (.inl (some (.inl v))) h) : xRn G0 MT (d + 11) b 20 [.inr (.inr 9), .inr (.inr 14), .inl k, .inr (.inr 63), .inl 9] h Q :=
  c_come1_m (d + 9) b h S k 9 hR hF h3 hk h7 (by omega) rfl hx (fun j j1 j2 j3 Q9 hQ9 => c_come 8 d 0 h S j (9 - 1) rfl hR hF h3 ⟨j1, j2⟩ (by omega) (by omega) hx hQ9) hQ
set_option maxHeartbeats 1000000 in
theorem c_comesTo (d b : Nat) (h S : xH) (k : Int) (hR : RC h S) (hF : FW (h 1 2) (h 6) 9 S) (h3 : S 0 0 ≤ 300) (hk : 0 ≤ k ∧ k < S 0 0) (hx : ∀ i, 0 ≤ i → i ≤ 2 → xr (h 63 i)) {Q : xO → xH → Prop} (hQ : ∀ v, w32 v = VE S (h 63) k → Q (.inl (some (.inl v))) h) : xRn G0 MT (d + 12) b 24 [.inr (.inr 9), .inl k, .inr (.inr 63)] h Q := by
  refine R_of (M := mX3_comesTo) rfl (Nat.le_of_ble_eq_true rfl) ?_
  show xEx G0 cdX3_comesTo (some .int) (xRn G0 MT (d + 11)) Q b 0 [some (.inr (.inr 9)), some (.inl k), some (.inr (.inr 63))] [] h
  refine E_s 6 (i' := 6) (ls' := [some (.inr (.inr 9)), some (.inl k), some (.inr (.inr 63))]) (sk' := [.inl 9, .inr (.inr 63), .inl k, .inr (.inr 10), .inr (.inr 9)]) (h' := h) rfl ?_
  refine E_cp (x := (.invokevirtual 47, 4, [(1, 20), (7, 91)], [1])) (q := fun r h9 => w32 r = VE S (h 63) k ∧ h = h9) rfl rfl (Nat.le_of_ble_eq_true rfl) (c_come 9 d 0 h S k 9 rfl hR hF h3 hk (by omega) (by have := (hF k hk.1 hk.2).2.2.1; omega) hx (fun v hv => ⟨v, rfl, hv, rfl⟩)) (fun r h9 hv => ?_)
  obtain ⟨hv, rfl⟩ := hv
  show xEx G0 cdX3_comesTo (some .int) (xRn G0 MT (d + 11)) Q b 7 [some (.inr (.inr 9)), some (.inl k), some (.inr (.inr 63))] [.inl r] h
  exact E_ret (x := (.ireturn, 0, [], [])) (v := some (.inl r)) rfl (Or.inl rfl) (hQ _ hv)
set_option maxHeartbeats 1000000 in
theorem c_firstM (d b : Nat) (h S : xH) (k : Int) (hR : RC h S) (hF : FW (h 1 2) (h 6) 9 S) (h3 : S 0 0 ≤ 300) (hk : 0 ≤ k ∧ k < S 0 0) (h7 : S 7 k ≠ 0) (hx : ∀ i, 0 ≤ i → i ≤ 2 → xr (h 63 i)) {Q : xO → xH → Prop} (hQ : ∀ v, w32 v = fE S (h 63) (S 8 k) (S 9 k) (S 10 k) → Q (.inl (some (.inl v))) h) : xRn G0 MT (d + 12) b 25 [.inr (.inr 9), .inl k, .inr (.inr 63)] h Q := by
  refine R_of (M := mX3_firstMergedComesTo) rfl (Nat.le_of_ble_eq_true rfl) ?_
  show xEx G0 cdX3_firstMergedComesTo (some .int) (xRn G0 MT (d + 11)) Q b 0 [some (.inr (.inr 9)), some (.inl k), some (.inr (.inr 63))] [] h
  refine E_s 6 (i' := 6) (ls' := [some (.inr (.inr 9)), some (.inl k), some (.inr (.inr 63))]) (sk' := [.inl 9, .inr (.inr 63), .inl k, .inr (.inr 14), .inr (.inr 9)]) (h' := h) rfl ?_
  refine E_cp (x := (.invokevirtual 47, 4, [(1, 20), (7, 91)], [1])) (q := fun r h9 => w32 r = fE S (h 63) (S 8 k) (S 9 k) (S 10 k) ∧ h = h9) rfl rfl (Nat.le_of_ble_eq_true rfl) (c_come_m d 0 h S k hR hF h3 hk h7 hx (fun v hv => ⟨v, rfl, hv, rfl⟩)) (fun r h9 hv => ?_)
  obtain ⟨hv, rfl⟩ := hv
  show xEx G0 cdX3_firstMergedComesTo (some .int) (xRn G0 MT (d + 11)) Q b 7 [some (.inr (.inr 9)), some (.inl k), some (.inr (.inr 63))] [.inl r] h
  exact E_ret (x := (.ireturn, 0, [], [])) (v := some (.inl r)) rfl (Or.inl rfl) (hQ _ hv)
