/-! a PROGRAM's text, the class -/
def tn1 (S T : xH) (N : Int → List Int) (a l nd : Int) : List Int := if a = -1 then TE S l else [91] ++ TT S T a ++ [63] ++ N (2 * nd + 1) ++ [58] ++ N (2 * nd + 2) ++ [93]
theorem tn_p {S T : xH} {N : Int → List Int} {a l nd : Int} (h : a = -1) : tn1 S T N a l nd = TE S l := by unfold tn1; rw [if_pos h]
theorem tn_n {S T : xH} {N : Int → List Int} {a l nd : Int} (h : ¬ a = -1) : tn1 S T N a l nd = [91] ++ TT S T a ++ [63] ++ N (2 * nd + 1) ++ [58] ++ N (2 * nd + 2) ++ [93] := by unfold tn1; rw [if_neg h]
set_option maxHeartbeats 1000000 in
theorem c_spN1 (d b : Nat) (h S T : xH) (nd n0 : Int) (wt : Int → Int) (N : Int → List Int) (hF : FW n0 wt 9 S) (hR : RC h S) (h3 : S 0 0 ≤ 300) (hT : FWT S 7 T) (hRT : RCT h T) (h4 : T 0 0 ≤ 150) (hn : 0 ≤ nd ∧ nd ≤ 14) (ha : h 57 nd = -1 → 0 ≤ h 58 nd ∧ h 58 nd < S 0 0) (hb : ¬ h 57 nd = -1 → nd ≤ 6 ∧ 0 ≤ h 57 nd ∧ h 57 nd < T 0 0) (hl : 0 ≤ h 64 1 ∧ h 64 1 + ((tn1 S T N (h 57 nd) (h 58 nd) nd).length : Nat) + 3 ≤ 1024) (hrec : ∀ (hh : xH) (j : Int), (h 57 nd ≠ -1 ∧ (j = 2 * nd + 1 ∨ j = 2 * nd + 2)) → (∀ a, a ≠ 64 → a ≠ 65 → hh a = h a) → hh 64 1 + ((N j).length : Nat) + 3 ≤ 1024 → 0 ≤ hh 64 1 → ∀ {Q9 : xO → xH → Prop}, Q9 (.inl none) (tadds hh (N j)) → xRn2 G0 MT (d + 22) 0 57 [.inr (.inr 56), .inr (.inr 64), .inl j] hh Q9) {Q : xO → xH → Prop} (hQ : Q (.inl none) (tadds h (tn1 S T N (h 57 nd) (h 58 nd) nd))) : xRn2 G0 MT (d + 23) b 57 [.inr (.inr 56), .inr (.inr 64), .inl nd] h Q := by
  refine R2_of (M := mX6_spellFrom) rfl (Nat.le_of_ble_eq_true rfl) ?_
  show xEx2 RX6 G0 cdX6_spellFrom none (xRn2 G0 MT (d + 22)) Q b 0 [some (.inr (.inr 56)), some (.inr (.inr 64)), some (.inl nd)] [] h
  refine E2_s 3 (i' := 3) (ls' := [some (.inr (.inr 56)), some (.inr (.inr 64)), some (.inl nd)]) (sk' := [.inl nd, .inr (.inr 57)]) (h' := h) rfl ?_
  refine E2_ld (x := (.iaload, 0, [], [])) (ty := .int) (n := 15) rfl rfl rfl (by omega) (by omega) ?_
  show xEx2 RX6 G0 cdX6_spellFrom none (xRn2 G0 MT (d + 22)) Q b 4 [some (.inr (.inr 56)), some (.inr (.inr 64)), some (.inl nd)] [.inl (h 57 nd)] h
  refine E2_s 1 (i' := 5) (ls' := [some (.inr (.inr 56)), some (.inr (.inr 64)), some (.inl nd)]) (sk' := [.inl (-1), .inl (h 57 nd)]) (h' := h) rfl ?_
  have ra : -1 ≤ h 57 nd ∧ h 57 nd ≤ 150 := by omega
  refine E2_b (x := (.if_icmp .eq 10, 9, [], [])) rfl rfl (fun c5 => ?_) (fun c5 => ?_)
  · rw [c_eq (by first | assumption | (refine ⟨?_, ?_⟩ <;> omega) | (simp only [xr] at *; omega)) (by first | assumption | (refine ⟨?_, ?_⟩ <;> omega) | (simp only [xr] at *; omega))] at c5
    simp only [decide_eq_true_eq, decide_eq_false_iff_not, Decidable.not_not] at c5
    show xEx2 RX6 G0 cdX6_spellFrom none (xRn2 G0 MT (d + 22)) Q b 9 [some (.inr (.inr 56)), some (.inr (.inr 64)), some (.inl nd)] [] h
    refine E2_s 6 (i' := 15) (ls' := [some (.inr (.inr 56)), some (.inr (.inr 64)), some (.inl nd)]) (sk' := [.inl nd, .inr (.inr 58), .inr (.inr 64), .inr (.inr 9)]) (h' := h) rfl ?_
    refine E2_ld (x := (.iaload, 0, [], [])) (ty := .int) (n := 15) rfl rfl rfl (by omega) (by omega) ?_
    show xEx2 RX6 G0 cdX6_spellFrom none (xRn2 G0 MT (d + 22)) Q b 16 [some (.inr (.inr 56)), some (.inr (.inr 64)), some (.inl nd)] [.inl (h 58 nd), .inr (.inr 64), .inr (.inr 9)] h
    refine E2_cv (x := (.invokevirtual 60, 2, [(1, 26)], [1])) (q := fun h9 => h9 = (tadds h (TE S (h 58 nd)))) rfl rfl (Nat.le_of_ble_eq_true rfl) (c_spK0_ (d + 10) 0 h S (h 58 nd) n0 wt hF hR h3 (ha c5) (by omega) (by have q := hl.2; rw [tn_p c5] at q; omega) ⟨rfl, rfl⟩) (fun h9 e9 => ?_)
    subst e9
    show xEx2 RX6 G0 cdX6_spellFrom none (xRn2 G0 MT (d + 22)) Q b 17 [some (.inr (.inr 56)), some (.inr (.inr 64)), some (.inl nd)] [] (tadds h (TE S (h 58 nd)))
    exact E2_ret (x := (.return_, 0, [], [])) (v := none) rfl (trivial) (by
      have r9 := hQ
      rw [tn_p c5] at r9
      exact r9)
  · rw [c_eq (by first | assumption | (refine ⟨?_, ?_⟩ <;> omega) | (simp only [xr] at *; omega)) (by first | assumption | (refine ⟨?_, ?_⟩ <;> omega) | (simp only [xr] at *; omega))] at c5
    simp only [decide_eq_true_eq, decide_eq_false_iff_not, Decidable.not_not] at c5
    show xEx2 RX6 G0 cdX6_spellFrom none (xRn2 G0 MT (d + 22)) Q b 6 [some (.inr (.inr 56)), some (.inr (.inr 64)), some (.inl nd)] [] h
    have hb9 := hb c5
    have q := hl.2
    rw [tn_n c5] at q
    simp only [List.length_append, List.length_cons, List.length_nil] at q
    refine E2_s 1 (i' := 7) (ls' := [some (.inr (.inr 56)), some (.inr (.inr 64)), some (.inl nd)]) (sk' := [.inl nd]) (h' := h) rfl ?_
    refine E2_ci (x := (.invokestatic 57, 1, [(0, 46)], [])) (r := 1) (h' := h) rfl rfl (Nat.le_of_ble_eq_true rfl) (xRn_2 _ _ _ _ _ _ (c_mayAsk (d + 21) 0 h nd (by omega) ⟨rfl, rfl⟩)) ?_
    show xEx2 RX6 G0 cdX6_spellFrom none (xRn2 G0 MT (d + 22)) Q b 8 [some (.inr (.inr 56)), some (.inr (.inr 64)), some (.inl nd)] [.inl 1] h
    refine E2_b (x := (.ifCond .ne 18, 18, [], [])) rfl rfl (fun c8 => ?_) (fun c8 => ?_)
    · show xEx2 RX6 G0 cdX6_spellFrom none (xRn2 G0 MT (d + 22)) Q b 18 [some (.inr (.inr 56)), some (.inr (.inr 64)), some (.inl nd)] [] h
      refine E2_s 2 (i' := 20) (ls' := [some (.inr (.inr 56)), some (.inr (.inr 64)), some (.inl nd)]) (sk' := [.inl 91, .inr (.inr 64)]) (h' := h) rfl ?_
      refine E2_cv (x := (.invokevirtual 64, 1, [(8, 94)], [0])) (q := fun h9 => h9 = (tadd h 91)) rfl rfl (Nat.le_of_ble_eq_true rfl) (xRn_2 _ _ _ _ _ _ (c_tadd (d + 21) 0 h 91 ⟨by omega, by omega⟩ (by omega) ⟨rfl, rfl⟩)) (fun h9 e9 => ?_)
      subst e9
      show xEx2 RX6 G0 cdX6_spellFrom none (xRn2 G0 MT (d + 22)) Q b 21 [some (.inr (.inr 56)), some (.inr (.inr 64)), some (.inl nd)] [] (tadd h 91)
      refine E2_s 6 (i' := 27) (ls' := [some (.inr (.inr 56)), some (.inr (.inr 64)), some (.inl nd)]) (sk' := [.inl nd, .inr (.inr 57), .inr (.inr 64), .inr (.inr 28)]) (h' := (tadd h 91)) rfl ?_
      refine E2_ld (x := (.iaload, 0, [], [])) (ty := .int) (n := 15) rfl rfl rfl (by omega) (by omega) ?_
      show xEx2 RX6 G0 cdX6_spellFrom none (xRn2 G0 MT (d + 22)) Q b 28 [some (.inr (.inr 56)), some (.inr (.inr 64)), some (.inl nd)] [.inl ((tadd h 91) 57 nd), .inr (.inr 64), .inr (.inr 28)] (tadd h 91)
      have ru : (tadd h 91) 57 nd = h 57 nd := by rw [tadd_o (by decide) (by decide)]
      refine E2_cv (x := (.invokevirtual 70, 2, [(7, 26)], [1])) (q := fun h9 => h9 = (tadds (tadd h 91) (TT S T (h 57 nd)))) rfl rfl (Nat.le_of_ble_eq_true rfl) (by rw [ru]; exact c_spK1_ d 0 (tadd h 91) S T (h 57 nd) n0 wt hF (RC_fr (fun a z1 z2 => by rw [tadd_o (by omega) (by omega)]) (by rw [tadd_o (by decide) (by decide)]) hR) h3 hT (RCT_fr (fun a z1 z2 => by rw [tadd_o (by omega) (by omega)]) hRT) h4 (by omega) (by rw [tadd_l]; omega) (by rw [tadd_l]; omega) ⟨rfl, rfl⟩) (fun h9 e9 => ?_)
      subst e9
      show xEx2 RX6 G0 cdX6_spellFrom none (xRn2 G0 MT (d + 22)) Q b 29 [some (.inr (.inr 56)), some (.inr (.inr 64)), some (.inl nd)] [] (tadds (tadd h 91) (TT S T (h 57 nd)))
      refine E2_s 2 (i' := 31) (ls' := [some (.inr (.inr 56)), some (.inr (.inr 64)), some (.inl nd)]) (sk' := [.inl 63, .inr (.inr 64)]) (h' := (tadds (tadd h 91) (TT S T (h 57 nd)))) rfl ?_
      refine E2_cv (x := (.invokevirtual 64, 1, [(8, 94)], [0])) (q := fun h9 => h9 = (tadd (tadds (tadd h 91) (TT S T (h 57 nd))) 63)) rfl rfl (Nat.le_of_ble_eq_true rfl) (xRn_2 _ _ _ _ _ _ (c_tadd (d + 21) 0 (tadds (tadd h 91) (TT S T (h 57 nd))) 63 ⟨by omega, by omega⟩ (by rw [tadds_l, tadd_l]; omega) ⟨rfl, rfl⟩)) (fun h9 e9 => ?_)
      subst e9
      show xEx2 RX6 G0 cdX6_spellFrom none (xRn2 G0 MT (d + 22)) Q b 32 [some (.inr (.inr 56)), some (.inr (.inr 64)), some (.inl nd)] [] (tadd (tadds (tadd h 91) (TT S T (h 57 nd))) 63)
      refine E2_s 4 (i' := 36) (ls' := [some (.inr (.inr 56)), some (.inr (.inr 64)), some (.inl nd)]) (sk' := [.inl 1, .inl nd, .inr (.inr 64), .inr (.inr 56)]) (h' := (tadd (tadds (tadd h 91) (TT S T (h 57 nd))) 63)) rfl ?_
      refine E2_ci (x := (.invokestatic 42, 2, [(0, 45)], [])) (r := (2 * nd + 1)) (h' := (tadd (tadds (tadd h 91) (TT S T (h 57 nd))) 63)) rfl rfl (Nat.le_of_ble_eq_true rfl) (xRn_2 _ _ _ _ _ _ (c_nb1 (d + 21) 0 (tadd (tadds (tadd h 91) (TT S T (h 57 nd))) 63) nd ⟨rfl, rfl⟩)) ?_
      show xEx2 RX6 G0 cdX6_spellFrom none (xRn2 G0 MT (d + 22)) Q b 37 [some (.inr (.inr 56)), some (.inr (.inr 64)), some (.inl nd)] [.inl (2 * nd + 1), .inr (.inr 64), .inr (.inr 56)] (tadd (tadds (tadd h 91) (TT S T (h 57 nd))) 63)
      refine E2_cv (x := (.invokevirtual 71, 2, [(4, 57)], [0])) (q := fun h9 => h9 = (tadds (tadd (tadds (tadd h 91) (TT S T (h 57 nd))) 63) (N (2 * nd + 1)))) rfl rfl (Nat.le_of_ble_eq_true rfl) (hrec (tadd (tadds (tadd h 91) (TT S T (h 57 nd))) 63) (2 * nd + 1) (by omega) (fun a z1 z2 => by rw [tadd_o z1 z2, tadds_o z1 z2, tadd_o z1 z2]) (by rw [tadd_l, tadds_l, tadd_l]; omega) (by rw [tadd_l, tadds_l, tadd_l]; omega) ⟨rfl, rfl⟩) (fun h9 e9 => ?_)
      subst e9
      show xEx2 RX6 G0 cdX6_spellFrom none (xRn2 G0 MT (d + 22)) Q b 38 [some (.inr (.inr 56)), some (.inr (.inr 64)), some (.inl nd)] [] (tadds (tadd (tadds (tadd h 91) (TT S T (h 57 nd))) 63) (N (2 * nd + 1)))
      refine E2_s 2 (i' := 40) (ls' := [some (.inr (.inr 56)), some (.inr (.inr 64)), some (.inl nd)]) (sk' := [.inl 58, .inr (.inr 64)]) (h' := (tadds (tadd (tadds (tadd h 91) (TT S T (h 57 nd))) 63) (N (2 * nd + 1)))) rfl ?_
      refine E2_cv (x := (.invokevirtual 64, 1, [(8, 94)], [0])) (q := fun h9 => h9 = (tadd (tadds (tadd (tadds (tadd h 91) (TT S T (h 57 nd))) 63) (N (2 * nd + 1))) 58)) rfl rfl (Nat.le_of_ble_eq_true rfl) (xRn_2 _ _ _ _ _ _ (c_tadd (d + 21) 0 (tadds (tadd (tadds (tadd h 91) (TT S T (h 57 nd))) 63) (N (2 * nd + 1))) 58 ⟨by omega, by omega⟩ (by rw [tadds_l, tadd_l, tadds_l, tadd_l]; omega) ⟨rfl, rfl⟩)) (fun h9 e9 => ?_)
      subst e9
      show xEx2 RX6 G0 cdX6_spellFrom none (xRn2 G0 MT (d + 22)) Q b 41 [some (.inr (.inr 56)), some (.inr (.inr 64)), some (.inl nd)] [] (tadd (tadds (tadd (tadds (tadd h 91) (TT S T (h 57 nd))) 63) (N (2 * nd + 1))) 58)
      refine E2_s 4 (i' := 45) (ls' := [some (.inr (.inr 56)), some (.inr (.inr 64)), some (.inl nd)]) (sk' := [.inl 0, .inl nd, .inr (.inr 64), .inr (.inr 56)]) (h' := (tadd (tadds (tadd (tadds (tadd h 91) (TT S T (h 57 nd))) 63) (N (2 * nd + 1))) 58)) rfl ?_
      refine E2_ci (x := (.invokestatic 42, 2, [(0, 45)], [])) (r := (2 * nd + 2)) (h' := (tadd (tadds (tadd (tadds (tadd h 91) (TT S T (h 57 nd))) 63) (N (2 * nd + 1))) 58)) rfl rfl (Nat.le_of_ble_eq_true rfl) (xRn_2 _ _ _ _ _ _ (c_nb0 (d + 21) 0 (tadd (tadds (tadd (tadds (tadd h 91) (TT S T (h 57 nd))) 63) (N (2 * nd + 1))) 58) nd ⟨rfl, rfl⟩)) ?_
      show xEx2 RX6 G0 cdX6_spellFrom none (xRn2 G0 MT (d + 22)) Q b 46 [some (.inr (.inr 56)), some (.inr (.inr 64)), some (.inl nd)] [.inl (2 * nd + 2), .inr (.inr 64), .inr (.inr 56)] (tadd (tadds (tadd (tadds (tadd h 91) (TT S T (h 57 nd))) 63) (N (2 * nd + 1))) 58)
      refine E2_cv (x := (.invokevirtual 71, 2, [(4, 57)], [0])) (q := fun h9 => h9 = (tadds (tadd (tadds (tadd (tadds (tadd h 91) (TT S T (h 57 nd))) 63) (N (2 * nd + 1))) 58) (N (2 * nd + 2)))) rfl rfl (Nat.le_of_ble_eq_true rfl) (hrec (tadd (tadds (tadd (tadds (tadd h 91) (TT S T (h 57 nd))) 63) (N (2 * nd + 1))) 58) (2 * nd + 2) (by omega) (fun a z1 z2 => by rw [tadd_o z1 z2, tadds_o z1 z2, tadd_o z1 z2, tadds_o z1 z2, tadd_o z1 z2]) (by rw [tadd_l, tadds_l, tadd_l, tadds_l, tadd_l]; omega) (by rw [tadd_l, tadds_l, tadd_l, tadds_l, tadd_l]; omega) ⟨rfl, rfl⟩) (fun h9 e9 => ?_)
      subst e9
      show xEx2 RX6 G0 cdX6_spellFrom none (xRn2 G0 MT (d + 22)) Q b 47 [some (.inr (.inr 56)), some (.inr (.inr 64)), some (.inl nd)] [] (tadds (tadd (tadds (tadd (tadds (tadd h 91) (TT S T (h 57 nd))) 63) (N (2 * nd + 1))) 58) (N (2 * nd + 2)))
      refine E2_s 2 (i' := 49) (ls' := [some (.inr (.inr 56)), some (.inr (.inr 64)), some (.inl nd)]) (sk' := [.inl 93, .inr (.inr 64)]) (h' := (tadds (tadd (tadds (tadd (tadds (tadd h 91) (TT S T (h 57 nd))) 63) (N (2 * nd + 1))) 58) (N (2 * nd + 2)))) rfl ?_
      refine E2_cv (x := (.invokevirtual 64, 1, [(8, 94)], [0])) (q := fun h9 => h9 = (tadd (tadds (tadd (tadds (tadd (tadds (tadd h 91) (TT S T (h 57 nd))) 63) (N (2 * nd + 1))) 58) (N (2 * nd + 2))) 93)) rfl rfl (Nat.le_of_ble_eq_true rfl) (xRn_2 _ _ _ _ _ _ (c_tadd (d + 21) 0 (tadds (tadd (tadds (tadd (tadds (tadd h 91) (TT S T (h 57 nd))) 63) (N (2 * nd + 1))) 58) (N (2 * nd + 2))) 93 ⟨by omega, by omega⟩ (by rw [tadds_l, tadd_l, tadds_l, tadd_l, tadds_l, tadd_l]; omega) ⟨rfl, rfl⟩)) (fun h9 e9 => ?_)
      subst e9
      show xEx2 RX6 G0 cdX6_spellFrom none (xRn2 G0 MT (d + 22)) Q b 50 [some (.inr (.inr 56)), some (.inr (.inr 64)), some (.inl nd)] [] (tadd (tadds (tadd (tadds (tadd (tadds (tadd h 91) (TT S T (h 57 nd))) 63) (N (2 * nd + 1))) 58) (N (2 * nd + 2))) 93)
      exact E2_ret (x := (.return_, 0, [], [])) (v := none) rfl (trivial) (by
        have r9 := hQ
        rw [tn_n c5, tadds_a, tadds_a, tadds_a, tadds_a, tadds_a, tadds_a] at r9
        exact r9)
    · show xEx2 RX6 G0 cdX6_spellFrom none (xRn2 G0 MT (d + 22)) Q b 9 [some (.inr (.inr 56)), some (.inr (.inr 64)), some (.inl nd)] [] h
      exact absurd c8 (by decide)
theorem txN_s {S T : xH} {as le : Int → Int} {d : Nat} {nd : Int} : txN S T as le (d + 1) nd = tn1 S T (txN S T as le d) (as nd) (le nd) nd := rfl
theorem txN_r {n0 : Int} {wt : Int → Int} {S T : xH} {as le : Int → Int} (hF : FW n0 wt 9 S) (hT : FWT S 7 T) : ∀ (d : Nat) (nd : Int), TRp as le S T d nd → ((txN S T as le d nd).length : Int) + 46 ≤ 97 * (2 ^ d : Nat)
  | 0, nd, h => by
    have r := TE_r hF h.2.1 h.2.2
    have q := (hF _ h.2.1 h.2.2).2.2.1
    show ((TE S (le nd)).length : Int) + 46 ≤ 97 * ((1 : Nat) : Int)
    omega
  | d + 1, nd, h => by
    rw [txN_s]
    have p9 : (2 ^ (d + 1) : Nat) = 2 * 2 ^ d := by rw [Nat.pow_succ, Nat.mul_comm]
    have p1 : 1 ≤ 2 ^ d := Nat.one_le_two_pow
    rcases h with ⟨a, b, c⟩ | ⟨a, b, -, c, e⟩
    · rw [tn_p a]
      have r := TE_r hF b c
      have q := (hF _ b c).2.2.1
      omega
    · rw [tn_n (by omega)]
      have r := TT_r hF hT a b
      have i1 := txN_r hF hT d _ c
      have i2 := txN_r hF hT d _ e
      simp only [List.length_append, List.length_cons, List.length_nil]
      omega
theorem c_spN {n0 : Int} {wt : Int → Int} {S T : xH} {as le : Int → Int} (hF : FW n0 wt 9 S) (hT : FWT S 7 T) : ∀ (n d b : Nat) (h : xH) (nd : Int), (∀ j, 0 ≤ j → j ≤ 14 → h 57 j = as j ∧ h 58 j = le j) → RC h S → S 0 0 ≤ 300 → RCT h T → T 0 0 ≤ 150 → 0 ≤ nd → (nd + 2) * (2 ^ n : Nat) ≤ 16 → TRp as le S T n nd → 0 ≤ h 64 1 → h 64 1 + ((txN S T as le n nd).length : Nat) + 3 ≤ 1024 → ∀ {Q : xO → xH → Prop}, Q (.inl none) (tadds h (txN S T as le n nd)) → xRn2 G0 MT (d + n + 23) b 57 [.inr (.inr 56), .inr (.inr 64), .inl nd] h Q
  | 0, d, b, h, nd, hp, hR, h3, hRT, h4, n0, hn, ht, l0, l1, Q, hQ => by
    have hn' : nd + 2 ≤ 16 := by omega
    obtain ⟨e1, e2⟩ := hp nd n0 (by omega)
    obtain ⟨a, b1, c⟩ := ht
    have et : txN S T as le 0 nd = tn1 S T (fun _ => []) (h 57 nd) (h 58 nd) nd := by rw [tn_p (by omega), e2]; rfl
    rw [et] at l1 hQ
    exact c_spN1 d b h S T nd _ _ (fun _ => []) hF hR h3 hT hRT h4 ⟨n0, by omega⟩ (fun _ => by rw [e2]; exact ⟨b1, c⟩) (fun z => by omega) ⟨l0, l1⟩ (fun hh j hj => by omega) hQ
  | n + 1, d, b, h, nd, hp, hR, h3, hRT, h4, n0, hn, ht, l0, l1, Q, hQ => by
    have p9 : (2 ^ (n + 1) : Nat) = 2 * 2 ^ n := by rw [Nat.pow_succ, Nat.mul_comm]
    have p1 : 1 ≤ 2 ^ n := Nat.one_le_two_pow
    rw [p9] at hn
    have hn2 : (nd + 2) * 2 * ((2 ^ n : Nat) : Int) ≤ 16 := by
      have e : (nd + 2) * ((2 * 2 ^ n : Nat) : Int) = (nd + 2) * 2 * ((2 ^ n : Nat) : Int) := by rw [Int.natCast_mul, Int.mul_assoc]; rfl
      omega
    have hn3 : (nd + 2) * 2 ≤ 16 := by
      have : (nd + 2) * 2 * 1 ≤ (nd + 2) * 2 * ((2 ^ n : Nat) : Int) := Int.mul_le_mul_of_nonneg_left (by omega) (by omega)
      omega
    obtain ⟨e1, e2⟩ := hp nd n0 (by omega)
    have et : txN S T as le (n + 1) nd = tn1 S T (txN S T as le n) (h 57 nd) (h 58 nd) nd := by rw [e1, e2]; rfl
    rw [et] at l1 hQ
    have e : d + (n + 1) + 23 = (d + n + 1) + 23 := by omega
    rw [e]
    refine c_spN1 (d + n + 1) b h S T nd _ _ (txN S T as le n) hF hR h3 hT hRT h4 ⟨n0, by omega⟩ (fun z => ?_) (fun z => ?_) ⟨l0, l1⟩ (fun hh j hj he hl h0 Q9 q9 => ?_) hQ
    · rw [e2]
      rcases ht with ⟨a, b1, c⟩ | ⟨a, -⟩
      · exact ⟨b1, c⟩
      · omega
    · rw [e1]
      rcases ht with ⟨a, b1, c⟩ | ⟨a, a2, -⟩
      · omega
      · exact ⟨by omega, a, a2⟩
    · have hR' : RC hh S := RC_fr (fun a z1 z2 => he a (by omega) (by omega)) (he 1 (by decide) (by decide)) hR
      have hRT' : RCT hh T := RCT_fr (fun a z1 z2 => he a (by omega) (by omega)) hRT
      have hp' : ∀ j, 0 ≤ j → j ≤ 14 → hh 57 j = as j ∧ hh 58 j = le j := fun j z1 z2 => by rw [he 57 (by decide) (by decide), he 58 (by decide) (by decide)]; exact hp j z1 z2
      have m1 : ∀ q : Int, q ≤ (nd + 2) * 2 → 0 ≤ q → q * ((2 ^ n : Nat) : Int) ≤ 16 := fun q q1 q0 => Int.le_trans (Int.mul_le_mul_of_nonneg_right q1 (by omega)) hn2
      have e3 : d + n + 1 + 22 = d + n + 23 := by omega
      rw [e3]
      rcases ht with ⟨a, b1, c⟩ | ⟨a, a2, -, t1, t2⟩
      · omega
      · rcases hj.2 with rfl | rfl
        · exact c_spN hF hT n d 0 hh _ hp' hR' h3 hRT' h4 (by omega) (m1 _ (by omega) (by omega)) t1 h0 hl q9
        · exact c_spN hF hT n d 0 hh _ hp' hR' h3 hRT' h4 (by omega) (m1 _ (by omega) (by omega)) t2 h0 hl q9
