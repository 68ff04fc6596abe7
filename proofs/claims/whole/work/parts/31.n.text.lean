/-! TESTS' texts, the class -/
def sgT (k : Int) : Int := if k = 3 then 38 else if k = 0 then 60 else 61
theorem mid_t {k : Int} (h : k = 0 ∨ k = 1 ∨ k = 3) : ([60, 61, 32, 38] : List Int).getD k.toNat 0 = sgT k ∧ 0 ≤ sgT k ∧ sgT k ≤ 127 := by
  rcases h with rfl | rfl | rfl <;> decide
theorem tt_2 {k u w : Int} {f g : Int → List Int} (h : k = 2) : tt1 k u w f g = [33, 40] ++ g u ++ [41] := by unfold tt1; rw [if_pos h]
theorem tt_3 {k u w : Int} {f g : Int → List Int} (h : k = 3) : tt1 k u w f g = [40] ++ g u ++ [sgT k] ++ g w ++ [41] := by unfold tt1 sgT; rw [if_neg (show ¬ k = 2 by omega), if_pos h, if_pos h]
theorem tt_1 {k u w : Int} {f g : Int → List Int} (h : 0 ≤ k ∧ k ≤ 1) : tt1 k u w f g = [40] ++ f u ++ [sgT k] ++ f w ++ [41] := by unfold tt1 sgT; rw [if_neg (show ¬ k = 2 by omega), if_neg (show ¬ k = 3 by omega), if_neg (show ¬ k = 3 by omega)]
set_option maxHeartbeats 1000000 in
theorem c_sp2_gtf (d b : Nat) (h S : xH) (k dp n0 : Int) (wt : Int → Int) (g : Int → List Int) (hF : FW n0 wt 9 S) (hR : RC h S) (h3 : S 0 0 ≤ 300) (hk : 0 ≤ k ∧ k < 150) (hd : 0 ≤ dp ∧ dp ≤ 9) (c0 : 0 ≤ (h 30 k) ∧ (h 30 k) ≤ 3) (cE : (h 30 k) ≤ 1 → (0 ≤ (h 31 k) ∧ (h 31 k) < S 0 0) ∧ (0 ≤ (h 32 k) ∧ (h 32 k) < S 0 0)) (cd : 2 ≤ (h 30 k) → 1 ≤ dp) (hl : 0 ≤ h 64 1 ∧ h 64 1 + ((tt1 (h 30 k) (h 31 k) (h 32 k) (TE S) g).length : Nat) + 3 ≤ 1024) (hrec : ∀ (hh : xH) (j : Int), (2 ≤ (h 30 k) ∧ (j = (h 31 k) ∨ (j = (h 32 k) ∧ (h 30 k) = 3))) → (∀ a, a ≠ 64 → a ≠ 65 → hh a = h a) → hh 64 1 + ((g j).length : Nat) + 3 ≤ 1024 → 0 ≤ hh 64 1 → ∀ {Q9 : xO → xH → Prop}, Q9 (.inl none) (tadds hh (g j)) → xRn2 G0 MT (d + 12) 0 92 [.inr (.inr 28), .inr (.inr 64), .inr (.inr 29), .inl j, .inl (dp - 1)] hh Q9) {Q : xO → xH → Prop} (hQ : Q (.inl none) (tadds h (tt1 (h 30 k) (h 31 k) (h 32 k) (TE S) g))) : xRn2 G0 MT (d + 13) b 92 [.inr (.inr 28), .inr (.inr 64), .inr (.inr 29), .inl k, .inl dp] h Q := by
  refine R2_of (M := mX9_spell) rfl (Nat.le_of_ble_eq_true rfl) ?_
  show xEx2 RX9 G0 cdX9_spell none (xRn2 G0 MT (d + 12)) Q b 0 [some (.inr (.inr 28)), some (.inr (.inr 64)), some (.inr (.inr 29)), some (.inl k), some (.inl dp), none] [] h
  refine E2_s 3 (i' := 3) (ls' := [some (.inr (.inr 28)), some (.inr (.inr 64)), some (.inr (.inr 29)), some (.inl k), some (.inl dp), none]) (sk' := [.inl k, .inr (.inr 30)]) (h' := h) rfl ?_
  refine E2_ld (x := (.iaload, 0, [], [])) (ty := .int) (n := 150) rfl rfl rfl (by omega) (by omega) ?_
  show xEx2 RX9 G0 cdX9_spell none (xRn2 G0 MT (d + 12)) Q b 4 [some (.inr (.inr 28)), some (.inr (.inr 64)), some (.inr (.inr 29)), some (.inl k), some (.inl dp), none] [.inl (h 30 k)] h
  refine E2_s 4 (i' := 8) (ls' := [some (.inr (.inr 28)), some (.inr (.inr 64)), some (.inr (.inr 29)), some (.inl k), some (.inl dp), some (.inl (h 30 k))]) (sk' := [.inl 2, .inl (h 30 k), .inr (.inr 64)]) (h' := h) rfl ?_
  refine E2_b (x := (.if_icmp .ne 8, 11, [], [])) rfl rfl (fun c8 => ?_) (fun c8 => ?_)
  · rw [c_ne (by first | assumption | (refine ⟨?_, ?_⟩ <;> omega) | (simp only [xr] at *; omega)) (by first | assumption | (refine ⟨?_, ?_⟩ <;> omega) | (simp only [xr] at *; omega))] at c8
    simp only [decide_eq_true_eq, decide_eq_false_iff_not, Decidable.not_not] at c8
    show xEx2 RX9 G0 cdX9_spell none (xRn2 G0 MT (d + 12)) Q b 11 [some (.inr (.inr 28)), some (.inr (.inr 64)), some (.inr (.inr 29)), some (.inl k), some (.inl dp), some (.inl (h 30 k))] [.inr (.inr 64)] h
    have hL : h 64 1 + 4 ≤ 1024 := by
      have q := hl.2
      by_cases y : (h 30 k) = 3
      · rw [tt_3 y] at q; simp only [List.length_append, List.length_cons, List.length_nil] at q; omega
      · rw [tt_1 (by omega)] at q; simp only [List.length_append, List.length_cons, List.length_nil] at q; omega
    refine E2_str (x := (.ldc 113, 0, [(1, 0)], [])) 7 rfl (Or.inl rfl) rfl ?_
    show xEx2 RX9 G0 cdX9_spell none (xRn2 G0 MT (d + 12)) Q b 12 [some (.inr (.inr 28)), some (.inr (.inr 64)), some (.inr (.inr 29)), some (.inl k), some (.inl dp), some (.inl (h 30 k))] [.inr (.inr (1000 + 7)), .inr (.inr 64)] h
    refine E2_cv (x := (.invokevirtual 115, 1, [(8, 95)], [0])) (q := fun h9 => h9 = (tadds h [40])) rfl rfl (Nat.le_of_ble_eq_true rfl) (c_tall (d + 10) 0 h 7 (RX9, 113, [40]) rfl (by decide) ⟨by omega, by show h 64 1 + (([40] : List Int).length : Nat) ≤ 1024; simp only [List.length_cons, List.length_nil]; omega⟩ ⟨rfl, rfl⟩) (fun h9 e9 => ?_)
    subst e9
    show xEx2 RX9 G0 cdX9_spell none (xRn2 G0 MT (d + 12)) Q b 13 [some (.inr (.inr 28)), some (.inr (.inr 64)), some (.inr (.inr 29)), some (.inl k), some (.inl dp), some (.inl (h 30 k))] [] (tadds h [40])
    refine E2_s 1 (i' := 14) (ls' := [some (.inr (.inr 28)), some (.inr (.inr 64)), some (.inr (.inr 29)), some (.inl k), some (.inl dp), some (.inl (h 30 k))]) (sk' := [.inl (h 30 k)]) (h' := (tadds h [40])) rfl ?_
    refine E2_b (x := (.ifCond .eq 9, 18, [], [])) rfl rfl (fun c14 => ?_) (fun c14 => ?_)
    · rw [c_eq (by first | assumption | (refine ⟨?_, ?_⟩ <;> omega) | (simp only [xr] at *; omega)) (by first | assumption | (refine ⟨?_, ?_⟩ <;> omega) | (simp only [xr] at *; omega))] at c14
      simp only [decide_eq_true_eq, decide_eq_false_iff_not, Decidable.not_not] at c14
      show xEx2 RX9 G0 cdX9_spell none (xRn2 G0 MT (d + 12)) Q b 18 [some (.inr (.inr 28)), some (.inr (.inr 64)), some (.inr (.inr 29)), some (.inl k), some (.inl dp), some (.inl (h 30 k))] [] (tadds h [40])
      have q := hl.2
      rw [tt_1 (by omega)] at q
      simp only [List.length_append, List.length_cons, List.length_nil] at q
      refine E2_s 6 (i' := 24) (ls' := [some (.inr (.inr 28)), some (.inr (.inr 64)), some (.inr (.inr 29)), some (.inl k), some (.inl dp), some (.inl (h 30 k))]) (sk' := [.inl k, .inr (.inr 31), .inr (.inr 64), .inr (.inr 9)]) (h' := (tadds h [40])) rfl ?_
      refine E2_ld (x := (.iaload, 0, [], [])) (ty := .int) (n := 150) rfl rfl rfl (by omega) (by omega) ?_
      show xEx2 RX9 G0 cdX9_spell none (xRn2 G0 MT (d + 12)) Q b 25 [some (.inr (.inr 28)), some (.inr (.inr 64)), some (.inr (.inr 29)), some (.inl k), some (.inl dp), some (.inl (h 30 k))] [.inl ((tadds h [40]) 31 k), .inr (.inr 64), .inr (.inr 9)] (tadds h [40])
      have ru1 : (tadds h [40]) 31 k = h 31 k := by rw [tadds_o (by decide) (by decide)]
      refine E2_cv (x := (.invokevirtual 121, 2, [(1, 26)], [1])) (q := fun h9 => h9 = (tadds (tadds h [40]) (TE S (h 31 k)))) rfl rfl (Nat.le_of_ble_eq_true rfl) (by rw [ru1]; exact c_spK0_ d 0 (tadds h [40]) S (h 31 k) n0 wt hF (RC_fr (fun a z1 z2 => by rw [tadds_o (by omega) (by omega)]) (by rw [tadds_o (by decide) (by decide)]) hR) h3 (by omega) (by rw [tadds_l]; simp only [List.length_cons, List.length_nil]; omega) (by rw [tadds_l]; simp only [List.length_cons, List.length_nil]; omega) ⟨rfl, rfl⟩) (fun h9 e9 => ?_)
      subst e9
      show xEx2 RX9 G0 cdX9_spell none (xRn2 G0 MT (d + 12)) Q b 26 [some (.inr (.inr 28)), some (.inr (.inr 64)), some (.inr (.inr 29)), some (.inl k), some (.inl dp), some (.inl (h 30 k))] [] (tadds (tadds h [40]) (TE S (h 31 k)))
      refine E2_s 1 (i' := 27) (ls' := [some (.inr (.inr 28)), some (.inr (.inr 64)), some (.inr (.inr 29)), some (.inl k), some (.inl dp), some (.inl (h 30 k))]) (sk' := [.inr (.inr 64)]) (h' := (tadds (tadds h [40]) (TE S (h 31 k)))) rfl ?_
      refine E2_sta (x := (.getstatic 125, 0, [], [])) (t := 1) rfl rfl (List.Mem.tail _ (List.Mem.head _)) ?_
      show xEx2 RX9 G0 cdX9_spell none (xRn2 G0 MT (d + 12)) Q b 28 [some (.inr (.inr 28)), some (.inr (.inr 64)), some (.inr (.inr 29)), some (.inl k), some (.inl dp), some (.inl (h 30 k))] [.inr (.inr (2000 + 1)), .inr (.inr 64)] (tadds (tadds h [40]) (TE S (h 31 k)))
      refine E2_s 1 (i' := 29) (ls' := [some (.inr (.inr 28)), some (.inr (.inr 64)), some (.inr (.inr 29)), some (.inl k), some (.inl dp), some (.inl (h 30 k))]) (sk' := [.inl (h 30 k), .inr (.inr (2000 + 1)), .inr (.inr 64)]) (h' := (tadds (tadds h [40]) (TE S (h 31 k)))) rfl ?_
      refine E2_cld (x := (.caload, 0, [], [])) (t := 1) rfl rfl rfl (by omega) (by show (h 30 k) < ((4 : Nat) : Int); omega) ?_
      show xEx2 RX9 G0 cdX9_spell none (xRn2 G0 MT (d + 12)) Q b 30 [some (.inr (.inr 28)), some (.inr (.inr 64)), some (.inr (.inr 29)), some (.inl k), some (.inl dp), some (.inl (h 30 k))] [.inl (([60, 61, 32, 38]).getD (h 30 k).toNat 0), .inr (.inr 64)] (tadds (tadds h [40]) (TE S (h 31 k)))
      have ms := mid_t (k := (h 30 k)) (by omega)
      refine E2_ti (y := (sgT (h 30 k))) (by rw [ms.1]) ?_
      skip
      refine E2_cv (x := (.invokevirtual 129, 1, [(8, 94)], [0])) (q := fun h9 => h9 = (tadd (tadds (tadds h [40]) (TE S (h 31 k))) (sgT (h 30 k)))) rfl rfl (Nat.le_of_ble_eq_true rfl) (xRn_2 _ _ _ _ _ _ (c_tadd (d + 11) 0 (tadds (tadds h [40]) (TE S (h 31 k))) (sgT (h 30 k)) ms.2 (by rw [tadds_l, tadds_l]; simp only [List.length_cons, List.length_nil]; omega) ⟨rfl, rfl⟩)) (fun h9 e9 => ?_)
      subst e9
      show xEx2 RX9 G0 cdX9_spell none (xRn2 G0 MT (d + 12)) Q b 31 [some (.inr (.inr 28)), some (.inr (.inr 64)), some (.inr (.inr 29)), some (.inl k), some (.inl dp), some (.inl (h 30 k))] [] (tadd (tadds (tadds h [40]) (TE S (h 31 k))) (sgT (h 30 k)))
      refine E2_s 6 (i' := 37) (ls' := [some (.inr (.inr 28)), some (.inr (.inr 64)), some (.inr (.inr 29)), some (.inl k), some (.inl dp), some (.inl (h 30 k))]) (sk' := [.inl k, .inr (.inr 32), .inr (.inr 64), .inr (.inr 9)]) (h' := (tadd (tadds (tadds h [40]) (TE S (h 31 k))) (sgT (h 30 k)))) rfl ?_
      refine E2_ld (x := (.iaload, 0, [], [])) (ty := .int) (n := 150) rfl rfl rfl (by omega) (by omega) ?_
      show xEx2 RX9 G0 cdX9_spell none (xRn2 G0 MT (d + 12)) Q b 38 [some (.inr (.inr 28)), some (.inr (.inr 64)), some (.inr (.inr 29)), some (.inl k), some (.inl dp), some (.inl (h 30 k))] [.inl ((tadd (tadds (tadds h [40]) (TE S (h 31 k))) (sgT (h 30 k))) 32 k), .inr (.inr 64), .inr (.inr 9)] (tadd (tadds (tadds h [40]) (TE S (h 31 k))) (sgT (h 30 k)))
      have ru2 : (tadd (tadds (tadds h [40]) (TE S (h 31 k))) (sgT (h 30 k))) 32 k = h 32 k := by rw [tadd_o (by decide) (by decide), tadds_o (by decide) (by decide), tadds_o (by decide) (by decide)]
      refine E2_cv (x := (.invokevirtual 121, 2, [(1, 26)], [1])) (q := fun h9 => h9 = (tadds (tadd (tadds (tadds h [40]) (TE S (h 31 k))) (sgT (h 30 k))) (TE S (h 32 k)))) rfl rfl (Nat.le_of_ble_eq_true rfl) (by rw [ru2]; exact c_spK0_ d 0 (tadd (tadds (tadds h [40]) (TE S (h 31 k))) (sgT (h 30 k))) S (h 32 k) n0 wt hF (RC_fr (fun a z1 z2 => by rw [tadd_o (by omega) (by omega), tadds_o (by omega) (by omega), tadds_o (by omega) (by omega)]) (by rw [tadd_o (by decide) (by decide), tadds_o (by decide) (by decide), tadds_o (by decide) (by decide)]) hR) h3 (by omega) (by rw [tadd_l, tadds_l, tadds_l]; simp only [List.length_cons, List.length_nil]; omega) (by rw [tadd_l, tadds_l, tadds_l]; simp only [List.length_cons, List.length_nil]; omega) ⟨rfl, rfl⟩) (fun h9 e9 => ?_)
      subst e9
      show xEx2 RX9 G0 cdX9_spell none (xRn2 G0 MT (d + 12)) Q b 39 [some (.inr (.inr 28)), some (.inr (.inr 64)), some (.inr (.inr 29)), some (.inl k), some (.inl dp), some (.inl (h 30 k))] [] (tadds (tadd (tadds (tadds h [40]) (TE S (h 31 k))) (sgT (h 30 k))) (TE S (h 32 k)))
      refine E2_s 3 (i' := 76) (ls' := [some (.inr (.inr 28)), some (.inr (.inr 64)), some (.inr (.inr 29)), some (.inl k), some (.inl dp), some (.inl (h 30 k))]) (sk' := [.inl 41, .inr (.inr 64)]) (h' := (tadds (tadd (tadds (tadds h [40]) (TE S (h 31 k))) (sgT (h 30 k))) (TE S (h 32 k)))) rfl ?_
      refine E2_cv (x := (.invokevirtual 129, 1, [(8, 94)], [0])) (q := fun h9 => h9 = (tadd (tadds (tadd (tadds (tadds h [40]) (TE S (h 31 k))) (sgT (h 30 k))) (TE S (h 32 k))) 41)) rfl rfl (Nat.le_of_ble_eq_true rfl) (xRn_2 _ _ _ _ _ _ (c_tadd (d + 11) 0 (tadds (tadd (tadds (tadds h [40]) (TE S (h 31 k))) (sgT (h 30 k))) (TE S (h 32 k))) 41 ⟨by omega, by omega⟩ (by rw [tadds_l, tadd_l, tadds_l, tadds_l]; simp only [List.length_cons, List.length_nil]; omega) ⟨rfl, rfl⟩)) (fun h9 e9 => ?_)
      subst e9
      show xEx2 RX9 G0 cdX9_spell none (xRn2 G0 MT (d + 12)) Q b 77 [some (.inr (.inr 28)), some (.inr (.inr 64)), some (.inr (.inr 29)), some (.inl k), some (.inl dp), some (.inl (h 30 k))] [] (tadd (tadds (tadd (tadds (tadds h [40]) (TE S (h 31 k))) (sgT (h 30 k))) (TE S (h 32 k))) 41)
      exact E2_ret (x := (.return_, 0, [], [])) (v := none) rfl (trivial) (by
        have r9 := hQ
        rw [tt_1 (by omega), tadds_a, tadds_a, tadds_a, tadds_a] at r9
        exact r9)
    · rw [c_eq (by first | assumption | (refine ⟨?_, ?_⟩ <;> omega) | (simp only [xr] at *; omega)) (by first | assumption | (refine ⟨?_, ?_⟩ <;> omega) | (simp only [xr] at *; omega))] at c14
      simp only [decide_eq_true_eq, decide_eq_false_iff_not, Decidable.not_not] at c14
      show xEx2 RX9 G0 cdX9_spell none (xRn2 G0 MT (d + 12)) Q b 15 [some (.inr (.inr 28)), some (.inr (.inr 64)), some (.inr (.inr 29)), some (.inl k), some (.inl dp), some (.inl (h 30 k))] [] (tadds h [40])
      refine E2_s 2 (i' := 17) (ls' := [some (.inr (.inr 28)), some (.inr (.inr 64)), some (.inr (.inr 29)), some (.inl k), some (.inl dp), some (.inl (h 30 k))]) (sk' := [.inl 1, .inl (h 30 k)]) (h' := (tadds h [40])) rfl ?_
      refine E2_b (x := (.if_icmp .ne 44, 40, [], [])) rfl rfl (fun c17 => ?_) (fun c17 => ?_)
      · rw [c_ne (by first | assumption | (refine ⟨?_, ?_⟩ <;> omega) | (simp only [xr] at *; omega)) (by first | assumption | (refine ⟨?_, ?_⟩ <;> omega) | (simp only [xr] at *; omega))] at c17
        simp only [decide_eq_true_eq, decide_eq_false_iff_not, Decidable.not_not] at c17
        show xEx2 RX9 G0 cdX9_spell none (xRn2 G0 MT (d + 12)) Q b 40 [some (.inr (.inr 28)), some (.inr (.inr 64)), some (.inr (.inr 29)), some (.inl k), some (.inl dp), some (.inl (h 30 k))] [] (tadds h [40])
        refine E2_s 1 (i' := 41) (ls' := [some (.inr (.inr 28)), some (.inr (.inr 64)), some (.inr (.inr 29)), some (.inl k), some (.inl dp), some (.inl (h 30 k))]) (sk' := [.inl dp]) (h' := (tadds h [40])) rfl ?_
        refine E2_b (x := (.ifCond .le 57, 74, [], [])) rfl rfl (fun c41 => ?_) (fun c41 => ?_)
        · rw [c_le (by first | assumption | (refine ⟨?_, ?_⟩ <;> omega) | (simp only [xr] at *; omega)) (by first | assumption | (refine ⟨?_, ?_⟩ <;> omega) | (simp only [xr] at *; omega))] at c41
          simp only [decide_eq_true_eq, decide_eq_false_iff_not, Decidable.not_not] at c41
          show xEx2 RX9 G0 cdX9_spell none (xRn2 G0 MT (d + 12)) Q b 74 [some (.inr (.inr 28)), some (.inr (.inr 64)), some (.inr (.inr 29)), some (.inl k), some (.inl dp), some (.inl (h 30 k))] [] (tadds h [40])
          refine E2_s 2 (i' := 76) (ls' := [some (.inr (.inr 28)), some (.inr (.inr 64)), some (.inr (.inr 29)), some (.inl k), some (.inl dp), some (.inl (h 30 k))]) (sk' := [.inl 41, .inr (.inr 64)]) (h' := (tadds h [40])) rfl ?_
          exfalso; omega
        · rw [c_le (by first | assumption | (refine ⟨?_, ?_⟩ <;> omega) | (simp only [xr] at *; omega)) (by first | assumption | (refine ⟨?_, ?_⟩ <;> omega) | (simp only [xr] at *; omega))] at c41
          simp only [decide_eq_true_eq, decide_eq_false_iff_not, Decidable.not_not] at c41
          show xEx2 RX9 G0 cdX9_spell none (xRn2 G0 MT (d + 12)) Q b 42 [some (.inr (.inr 28)), some (.inr (.inr 64)), some (.inr (.inr 29)), some (.inl k), some (.inl dp), some (.inl (h 30 k))] [] (tadds h [40])
          have q := hl.2
          rw [tt_3 (by omega)] at q
          simp only [List.length_append, List.length_cons, List.length_nil] at q
          refine E2_s 7 (i' := 49) (ls' := [some (.inr (.inr 28)), some (.inr (.inr 64)), some (.inr (.inr 29)), some (.inl k), some (.inl dp), some (.inl (h 30 k))]) (sk' := [.inl k, .inr (.inr 31), .inr (.inr 29), .inr (.inr 64), .inr (.inr 28)]) (h' := (tadds h [40])) rfl ?_
          refine E2_ld (x := (.iaload, 0, [], [])) (ty := .int) (n := 150) rfl rfl rfl (by omega) (by omega) ?_
          show xEx2 RX9 G0 cdX9_spell none (xRn2 G0 MT (d + 12)) Q b 50 [some (.inr (.inr 28)), some (.inr (.inr 64)), some (.inr (.inr 29)), some (.inl k), some (.inl dp), some (.inl (h 30 k))] [.inl ((tadds h [40]) 31 k), .inr (.inr 29), .inr (.inr 64), .inr (.inr 28)] (tadds h [40])
          refine E2_s 3 (i' := 53) (ls' := [some (.inr (.inr 28)), some (.inr (.inr 64)), some (.inr (.inr 29)), some (.inl k), some (.inl dp), some (.inl (h 30 k))]) (sk' := [.inl (dp - 1), .inl ((tadds h [40]) 31 k), .inr (.inr 29), .inr (.inr 64), .inr (.inr 28)]) (h' := (tadds h [40])) rfl ?_
          have ru1 : (tadds h [40]) 31 k = h 31 k := by rw [tadds_o (by decide) (by decide)]
          refine E2_cv (x := (.invokevirtual 133, 4, [(7, 92)], [0])) (q := fun h9 => h9 = (tadds (tadds h [40]) (g (h 31 k)))) rfl rfl (Nat.le_of_ble_eq_true rfl) (by rw [ru1]; exact hrec (tadds h [40]) (h 31 k) (by omega) (fun a z1 z2 => by rw [tadds_o z1 z2]) (by rw [tadds_l]; simp only [List.length_cons, List.length_nil]; omega) (by rw [tadds_l]; simp only [List.length_cons, List.length_nil]; omega) ⟨rfl, rfl⟩) (fun h9 e9 => ?_)
          subst e9
          show xEx2 RX9 G0 cdX9_spell none (xRn2 G0 MT (d + 12)) Q b 54 [some (.inr (.inr 28)), some (.inr (.inr 64)), some (.inr (.inr 29)), some (.inl k), some (.inl dp), some (.inl (h 30 k))] [] (tadds (tadds h [40]) (g (h 31 k)))
          refine E2_s 2 (i' := 56) (ls' := [some (.inr (.inr 28)), some (.inr (.inr 64)), some (.inr (.inr 29)), some (.inl k), some (.inl dp), some (.inl (h 30 k))]) (sk' := [.inl 3, .inl (h 30 k)]) (h' := (tadds (tadds h [40]) (g (h 31 k)))) rfl ?_
          refine E2_b (x := (.if_icmp .ne 32, 74, [], [])) rfl rfl (fun c56 => ?_) (fun c56 => ?_)
          · rw [c_ne (by first | assumption | (refine ⟨?_, ?_⟩ <;> omega) | (simp only [xr] at *; omega)) (by first | assumption | (refine ⟨?_, ?_⟩ <;> omega) | (simp only [xr] at *; omega))] at c56
            simp only [decide_eq_true_eq, decide_eq_false_iff_not, Decidable.not_not] at c56
            show xEx2 RX9 G0 cdX9_spell none (xRn2 G0 MT (d + 12)) Q b 74 [some (.inr (.inr 28)), some (.inr (.inr 64)), some (.inr (.inr 29)), some (.inl k), some (.inl dp), some (.inl (h 30 k))] [] (tadds (tadds h [40]) (g (h 31 k)))
            refine E2_s 2 (i' := 76) (ls' := [some (.inr (.inr 28)), some (.inr (.inr 64)), some (.inr (.inr 29)), some (.inl k), some (.inl dp), some (.inl (h 30 k))]) (sk' := [.inl 41, .inr (.inr 64)]) (h' := (tadds (tadds h [40]) (g (h 31 k)))) rfl ?_
            exfalso; omega
          · rw [c_ne (by first | assumption | (refine ⟨?_, ?_⟩ <;> omega) | (simp only [xr] at *; omega)) (by first | assumption | (refine ⟨?_, ?_⟩ <;> omega) | (simp only [xr] at *; omega))] at c56
            simp only [decide_eq_true_eq, decide_eq_false_iff_not, Decidable.not_not] at c56
            show xEx2 RX9 G0 cdX9_spell none (xRn2 G0 MT (d + 12)) Q b 57 [some (.inr (.inr 28)), some (.inr (.inr 64)), some (.inr (.inr 29)), some (.inl k), some (.inl dp), some (.inl (h 30 k))] [] (tadds (tadds h [40]) (g (h 31 k)))
            refine E2_s 1 (i' := 58) (ls' := [some (.inr (.inr 28)), some (.inr (.inr 64)), some (.inr (.inr 29)), some (.inl k), some (.inl dp), some (.inl (h 30 k))]) (sk' := [.inr (.inr 64)]) (h' := (tadds (tadds h [40]) (g (h 31 k)))) rfl ?_
            refine E2_sta (x := (.getstatic 125, 0, [], [])) (t := 1) rfl rfl (List.Mem.tail _ (List.Mem.head _)) ?_
            show xEx2 RX9 G0 cdX9_spell none (xRn2 G0 MT (d + 12)) Q b 59 [some (.inr (.inr 28)), some (.inr (.inr 64)), some (.inr (.inr 29)), some (.inl k), some (.inl dp), some (.inl (h 30 k))] [.inr (.inr (2000 + 1)), .inr (.inr 64)] (tadds (tadds h [40]) (g (h 31 k)))
            refine E2_s 1 (i' := 60) (ls' := [some (.inr (.inr 28)), some (.inr (.inr 64)), some (.inr (.inr 29)), some (.inl k), some (.inl dp), some (.inl (h 30 k))]) (sk' := [.inl (h 30 k), .inr (.inr (2000 + 1)), .inr (.inr 64)]) (h' := (tadds (tadds h [40]) (g (h 31 k)))) rfl ?_
            refine E2_cld (x := (.caload, 0, [], [])) (t := 1) rfl rfl rfl (by omega) (by show (h 30 k) < ((4 : Nat) : Int); omega) ?_
            show xEx2 RX9 G0 cdX9_spell none (xRn2 G0 MT (d + 12)) Q b 61 [some (.inr (.inr 28)), some (.inr (.inr 64)), some (.inr (.inr 29)), some (.inl k), some (.inl dp), some (.inl (h 30 k))] [.inl (([60, 61, 32, 38]).getD (h 30 k).toNat 0), .inr (.inr 64)] (tadds (tadds h [40]) (g (h 31 k)))
            have ms := mid_t (k := (h 30 k)) (by omega)
            refine E2_ti (y := (sgT (h 30 k))) (by rw [ms.1]) ?_
            skip
            refine E2_cv (x := (.invokevirtual 129, 1, [(8, 94)], [0])) (q := fun h9 => h9 = (tadd (tadds (tadds h [40]) (g (h 31 k))) (sgT (h 30 k)))) rfl rfl (Nat.le_of_ble_eq_true rfl) (xRn_2 _ _ _ _ _ _ (c_tadd (d + 11) 0 (tadds (tadds h [40]) (g (h 31 k))) (sgT (h 30 k)) ms.2 (by rw [tadds_l, tadds_l]; simp only [List.length_cons, List.length_nil]; omega) ⟨rfl, rfl⟩)) (fun h9 e9 => ?_)
            subst e9
            show xEx2 RX9 G0 cdX9_spell none (xRn2 G0 MT (d + 12)) Q b 62 [some (.inr (.inr 28)), some (.inr (.inr 64)), some (.inr (.inr 29)), some (.inl k), some (.inl dp), some (.inl (h 30 k))] [] (tadd (tadds (tadds h [40]) (g (h 31 k))) (sgT (h 30 k)))
            refine E2_s 7 (i' := 69) (ls' := [some (.inr (.inr 28)), some (.inr (.inr 64)), some (.inr (.inr 29)), some (.inl k), some (.inl dp), some (.inl (h 30 k))]) (sk' := [.inl k, .inr (.inr 32), .inr (.inr 29), .inr (.inr 64), .inr (.inr 28)]) (h' := (tadd (tadds (tadds h [40]) (g (h 31 k))) (sgT (h 30 k)))) rfl ?_
            refine E2_ld (x := (.iaload, 0, [], [])) (ty := .int) (n := 150) rfl rfl rfl (by omega) (by omega) ?_
            show xEx2 RX9 G0 cdX9_spell none (xRn2 G0 MT (d + 12)) Q b 70 [some (.inr (.inr 28)), some (.inr (.inr 64)), some (.inr (.inr 29)), some (.inl k), some (.inl dp), some (.inl (h 30 k))] [.inl ((tadd (tadds (tadds h [40]) (g (h 31 k))) (sgT (h 30 k))) 32 k), .inr (.inr 29), .inr (.inr 64), .inr (.inr 28)] (tadd (tadds (tadds h [40]) (g (h 31 k))) (sgT (h 30 k)))
            refine E2_s 3 (i' := 73) (ls' := [some (.inr (.inr 28)), some (.inr (.inr 64)), some (.inr (.inr 29)), some (.inl k), some (.inl dp), some (.inl (h 30 k))]) (sk' := [.inl (dp - 1), .inl ((tadd (tadds (tadds h [40]) (g (h 31 k))) (sgT (h 30 k))) 32 k), .inr (.inr 29), .inr (.inr 64), .inr (.inr 28)]) (h' := (tadd (tadds (tadds h [40]) (g (h 31 k))) (sgT (h 30 k)))) rfl ?_
            have ru2 : (tadd (tadds (tadds h [40]) (g (h 31 k))) (sgT (h 30 k))) 32 k = h 32 k := by rw [tadd_o (by decide) (by decide), tadds_o (by decide) (by decide), tadds_o (by decide) (by decide)]
            refine E2_cv (x := (.invokevirtual 133, 4, [(7, 92)], [0])) (q := fun h9 => h9 = (tadds (tadd (tadds (tadds h [40]) (g (h 31 k))) (sgT (h 30 k))) (g (h 32 k)))) rfl rfl (Nat.le_of_ble_eq_true rfl) (by rw [ru2]; exact hrec (tadd (tadds (tadds h [40]) (g (h 31 k))) (sgT (h 30 k))) (h 32 k) (by omega) (fun a z1 z2 => by rw [tadd_o z1 z2, tadds_o z1 z2, tadds_o z1 z2]) (by rw [tadd_l, tadds_l, tadds_l]; simp only [List.length_cons, List.length_nil]; omega) (by rw [tadd_l, tadds_l, tadds_l]; simp only [List.length_cons, List.length_nil]; omega) ⟨rfl, rfl⟩) (fun h9 e9 => ?_)
            subst e9
            show xEx2 RX9 G0 cdX9_spell none (xRn2 G0 MT (d + 12)) Q b 74 [some (.inr (.inr 28)), some (.inr (.inr 64)), some (.inr (.inr 29)), some (.inl k), some (.inl dp), some (.inl (h 30 k))] [] (tadds (tadd (tadds (tadds h [40]) (g (h 31 k))) (sgT (h 30 k))) (g (h 32 k)))
            refine E2_s 2 (i' := 76) (ls' := [some (.inr (.inr 28)), some (.inr (.inr 64)), some (.inr (.inr 29)), some (.inl k), some (.inl dp), some (.inl (h 30 k))]) (sk' := [.inl 41, .inr (.inr 64)]) (h' := (tadds (tadd (tadds (tadds h [40]) (g (h 31 k))) (sgT (h 30 k))) (g (h 32 k)))) rfl ?_
            refine E2_cv (x := (.invokevirtual 129, 1, [(8, 94)], [0])) (q := fun h9 => h9 = (tadd (tadds (tadd (tadds (tadds h [40]) (g (h 31 k))) (sgT (h 30 k))) (g (h 32 k))) 41)) rfl rfl (Nat.le_of_ble_eq_true rfl) (xRn_2 _ _ _ _ _ _ (c_tadd (d + 11) 0 (tadds (tadd (tadds (tadds h [40]) (g (h 31 k))) (sgT (h 30 k))) (g (h 32 k))) 41 ⟨by omega, by omega⟩ (by rw [tadds_l, tadd_l, tadds_l, tadds_l]; simp only [List.length_cons, List.length_nil]; omega) ⟨rfl, rfl⟩)) (fun h9 e9 => ?_)
            subst e9
            show xEx2 RX9 G0 cdX9_spell none (xRn2 G0 MT (d + 12)) Q b 77 [some (.inr (.inr 28)), some (.inr (.inr 64)), some (.inr (.inr 29)), some (.inl k), some (.inl dp), some (.inl (h 30 k))] [] (tadd (tadds (tadd (tadds (tadds h [40]) (g (h 31 k))) (sgT (h 30 k))) (g (h 32 k))) 41)
            exact E2_ret (x := (.return_, 0, [], [])) (v := none) rfl (trivial) (by
              have r9 := hQ
              rw [tt_3 (by omega), tadds_a, tadds_a, tadds_a, tadds_a] at r9
              exact r9)
      · rw [c_ne (by first | assumption | (refine ⟨?_, ?_⟩ <;> omega) | (simp only [xr] at *; omega)) (by first | assumption | (refine ⟨?_, ?_⟩ <;> omega) | (simp only [xr] at *; omega))] at c17
        simp only [decide_eq_true_eq, decide_eq_false_iff_not, Decidable.not_not] at c17
        show xEx2 RX9 G0 cdX9_spell none (xRn2 G0 MT (d + 12)) Q b 18 [some (.inr (.inr 28)), some (.inr (.inr 64)), some (.inr (.inr 29)), some (.inl k), some (.inl dp), some (.inl (h 30 k))] [] (tadds h [40])
        have q := hl.2
        rw [tt_1 (by omega)] at q
        simp only [List.length_append, List.length_cons, List.length_nil] at q
        refine E2_s 6 (i' := 24) (ls' := [some (.inr (.inr 28)), some (.inr (.inr 64)), some (.inr (.inr 29)), some (.inl k), some (.inl dp), some (.inl (h 30 k))]) (sk' := [.inl k, .inr (.inr 31), .inr (.inr 64), .inr (.inr 9)]) (h' := (tadds h [40])) rfl ?_
        refine E2_ld (x := (.iaload, 0, [], [])) (ty := .int) (n := 150) rfl rfl rfl (by omega) (by omega) ?_
        show xEx2 RX9 G0 cdX9_spell none (xRn2 G0 MT (d + 12)) Q b 25 [some (.inr (.inr 28)), some (.inr (.inr 64)), some (.inr (.inr 29)), some (.inl k), some (.inl dp), some (.inl (h 30 k))] [.inl ((tadds h [40]) 31 k), .inr (.inr 64), .inr (.inr 9)] (tadds h [40])
        have ru1 : (tadds h [40]) 31 k = h 31 k := by rw [tadds_o (by decide) (by decide)]
        refine E2_cv (x := (.invokevirtual 121, 2, [(1, 26)], [1])) (q := fun h9 => h9 = (tadds (tadds h [40]) (TE S (h 31 k)))) rfl rfl (Nat.le_of_ble_eq_true rfl) (by rw [ru1]; exact c_spK0_ d 0 (tadds h [40]) S (h 31 k) n0 wt hF (RC_fr (fun a z1 z2 => by rw [tadds_o (by omega) (by omega)]) (by rw [tadds_o (by decide) (by decide)]) hR) h3 (by omega) (by rw [tadds_l]; simp only [List.length_cons, List.length_nil]; omega) (by rw [tadds_l]; simp only [List.length_cons, List.length_nil]; omega) ⟨rfl, rfl⟩) (fun h9 e9 => ?_)
        subst e9
        show xEx2 RX9 G0 cdX9_spell none (xRn2 G0 MT (d + 12)) Q b 26 [some (.inr (.inr 28)), some (.inr (.inr 64)), some (.inr (.inr 29)), some (.inl k), some (.inl dp), some (.inl (h 30 k))] [] (tadds (tadds h [40]) (TE S (h 31 k)))
        refine E2_s 1 (i' := 27) (ls' := [some (.inr (.inr 28)), some (.inr (.inr 64)), some (.inr (.inr 29)), some (.inl k), some (.inl dp), some (.inl (h 30 k))]) (sk' := [.inr (.inr 64)]) (h' := (tadds (tadds h [40]) (TE S (h 31 k)))) rfl ?_
        refine E2_sta (x := (.getstatic 125, 0, [], [])) (t := 1) rfl rfl (List.Mem.tail _ (List.Mem.head _)) ?_
        show xEx2 RX9 G0 cdX9_spell none (xRn2 G0 MT (d + 12)) Q b 28 [some (.inr (.inr 28)), some (.inr (.inr 64)), some (.inr (.inr 29)), some (.inl k), some (.inl dp), some (.inl (h 30 k))] [.inr (.inr (2000 + 1)), .inr (.inr 64)] (tadds (tadds h [40]) (TE S (h 31 k)))
        refine E2_s 1 (i' := 29) (ls' := [some (.inr (.inr 28)), some (.inr (.inr 64)), some (.inr (.inr 29)), some (.inl k), some (.inl dp), some (.inl (h 30 k))]) (sk' := [.inl (h 30 k), .inr (.inr (2000 + 1)), .inr (.inr 64)]) (h' := (tadds (tadds h [40]) (TE S (h 31 k)))) rfl ?_
        refine E2_cld (x := (.caload, 0, [], [])) (t := 1) rfl rfl rfl (by omega) (by show (h 30 k) < ((4 : Nat) : Int); omega) ?_
        show xEx2 RX9 G0 cdX9_spell none (xRn2 G0 MT (d + 12)) Q b 30 [some (.inr (.inr 28)), some (.inr (.inr 64)), some (.inr (.inr 29)), some (.inl k), some (.inl dp), some (.inl (h 30 k))] [.inl (([60, 61, 32, 38]).getD (h 30 k).toNat 0), .inr (.inr 64)] (tadds (tadds h [40]) (TE S (h 31 k)))
        have ms := mid_t (k := (h 30 k)) (by omega)
        refine E2_ti (y := (sgT (h 30 k))) (by rw [ms.1]) ?_
        skip
        refine E2_cv (x := (.invokevirtual 129, 1, [(8, 94)], [0])) (q := fun h9 => h9 = (tadd (tadds (tadds h [40]) (TE S (h 31 k))) (sgT (h 30 k)))) rfl rfl (Nat.le_of_ble_eq_true rfl) (xRn_2 _ _ _ _ _ _ (c_tadd (d + 11) 0 (tadds (tadds h [40]) (TE S (h 31 k))) (sgT (h 30 k)) ms.2 (by rw [tadds_l, tadds_l]; simp only [List.length_cons, List.length_nil]; omega) ⟨rfl, rfl⟩)) (fun h9 e9 => ?_)
        subst e9
        show xEx2 RX9 G0 cdX9_spell none (xRn2 G0 MT (d + 12)) Q b 31 [some (.inr (.inr 28)), some (.inr (.inr 64)), some (.inr (.inr 29)), some (.inl k), some (.inl dp), some (.inl (h 30 k))] [] (tadd (tadds (tadds h [40]) (TE S (h 31 k))) (sgT (h 30 k)))
        refine E2_s 6 (i' := 37) (ls' := [some (.inr (.inr 28)), some (.inr (.inr 64)), some (.inr (.inr 29)), some (.inl k), some (.inl dp), some (.inl (h 30 k))]) (sk' := [.inl k, .inr (.inr 32), .inr (.inr 64), .inr (.inr 9)]) (h' := (tadd (tadds (tadds h [40]) (TE S (h 31 k))) (sgT (h 30 k)))) rfl ?_
        refine E2_ld (x := (.iaload, 0, [], [])) (ty := .int) (n := 150) rfl rfl rfl (by omega) (by omega) ?_
        show xEx2 RX9 G0 cdX9_spell none (xRn2 G0 MT (d + 12)) Q b 38 [some (.inr (.inr 28)), some (.inr (.inr 64)), some (.inr (.inr 29)), some (.inl k), some (.inl dp), some (.inl (h 30 k))] [.inl ((tadd (tadds (tadds h [40]) (TE S (h 31 k))) (sgT (h 30 k))) 32 k), .inr (.inr 64), .inr (.inr 9)] (tadd (tadds (tadds h [40]) (TE S (h 31 k))) (sgT (h 30 k)))
        have ru2 : (tadd (tadds (tadds h [40]) (TE S (h 31 k))) (sgT (h 30 k))) 32 k = h 32 k := by rw [tadd_o (by decide) (by decide), tadds_o (by decide) (by decide), tadds_o (by decide) (by decide)]
        refine E2_cv (x := (.invokevirtual 121, 2, [(1, 26)], [1])) (q := fun h9 => h9 = (tadds (tadd (tadds (tadds h [40]) (TE S (h 31 k))) (sgT (h 30 k))) (TE S (h 32 k)))) rfl rfl (Nat.le_of_ble_eq_true rfl) (by rw [ru2]; exact c_spK0_ d 0 (tadd (tadds (tadds h [40]) (TE S (h 31 k))) (sgT (h 30 k))) S (h 32 k) n0 wt hF (RC_fr (fun a z1 z2 => by rw [tadd_o (by omega) (by omega), tadds_o (by omega) (by omega), tadds_o (by omega) (by omega)]) (by rw [tadd_o (by decide) (by decide), tadds_o (by decide) (by decide), tadds_o (by decide) (by decide)]) hR) h3 (by omega) (by rw [tadd_l, tadds_l, tadds_l]; simp only [List.length_cons, List.length_nil]; omega) (by rw [tadd_l, tadds_l, tadds_l]; simp only [List.length_cons, List.length_nil]; omega) ⟨rfl, rfl⟩) (fun h9 e9 => ?_)
        subst e9
        show xEx2 RX9 G0 cdX9_spell none (xRn2 G0 MT (d + 12)) Q b 39 [some (.inr (.inr 28)), some (.inr (.inr 64)), some (.inr (.inr 29)), some (.inl k), some (.inl dp), some (.inl (h 30 k))] [] (tadds (tadd (tadds (tadds h [40]) (TE S (h 31 k))) (sgT (h 30 k))) (TE S (h 32 k)))
        refine E2_s 3 (i' := 76) (ls' := [some (.inr (.inr 28)), some (.inr (.inr 64)), some (.inr (.inr 29)), some (.inl k), some (.inl dp), some (.inl (h 30 k))]) (sk' := [.inl 41, .inr (.inr 64)]) (h' := (tadds (tadd (tadds (tadds h [40]) (TE S (h 31 k))) (sgT (h 30 k))) (TE S (h 32 k)))) rfl ?_
        refine E2_cv (x := (.invokevirtual 129, 1, [(8, 94)], [0])) (q := fun h9 => h9 = (tadd (tadds (tadd (tadds (tadds h [40]) (TE S (h 31 k))) (sgT (h 30 k))) (TE S (h 32 k))) 41)) rfl rfl (Nat.le_of_ble_eq_true rfl) (xRn_2 _ _ _ _ _ _ (c_tadd (d + 11) 0 (tadds (tadd (tadds (tadds h [40]) (TE S (h 31 k))) (sgT (h 30 k))) (TE S (h 32 k))) 41 ⟨by omega, by omega⟩ (by rw [tadds_l, tadd_l, tadds_l, tadds_l]; simp only [List.length_cons, List.length_nil]; omega) ⟨rfl, rfl⟩)) (fun h9 e9 => ?_)
        subst e9
        show xEx2 RX9 G0 cdX9_spell none (xRn2 G0 MT (d + 12)) Q b 77 [some (.inr (.inr 28)), some (.inr (.inr 64)), some (.inr (.inr 29)), some (.inl k), some (.inl dp), some (.inl (h 30 k))] [] (tadd (tadds (tadd (tadds (tadds h [40]) (TE S (h 31 k))) (sgT (h 30 k))) (TE S (h 32 k))) 41)
        exact E2_ret (x := (.return_, 0, [], [])) (v := none) rfl (trivial) (by
          have r9 := hQ
          rw [tt_1 (by omega), tadds_a, tadds_a, tadds_a, tadds_a] at r9
          exact r9)
  · rw [c_ne (by first | assumption | (refine ⟨?_, ?_⟩ <;> omega) | (simp only [xr] at *; omega)) (by first | assumption | (refine ⟨?_, ?_⟩ <;> omega) | (simp only [xr] at *; omega))] at c8
    simp only [decide_eq_true_eq, decide_eq_false_iff_not, Decidable.not_not] at c8
    show xEx2 RX9 G0 cdX9_spell none (xRn2 G0 MT (d + 12)) Q b 9 [some (.inr (.inr 28)), some (.inr (.inr 64)), some (.inr (.inr 29)), some (.inl k), some (.inl dp), some (.inl (h 30 k))] [.inr (.inr 64)] h
    have q := hl.2
    rw [tt_2 (by omega)] at q
    simp only [List.length_append, List.length_cons, List.length_nil] at q
    refine E2_str (x := (.ldc 111, 0, [(1, 0)], [])) 6 rfl (Or.inl rfl) rfl ?_
    show xEx2 RX9 G0 cdX9_spell none (xRn2 G0 MT (d + 12)) Q b 10 [some (.inr (.inr 28)), some (.inr (.inr 64)), some (.inr (.inr 29)), some (.inl k), some (.inl dp), some (.inl (h 30 k))] [.inr (.inr (1000 + 6)), .inr (.inr 64)] h
    refine E2_s 1 (i' := 12) (ls' := [some (.inr (.inr 28)), some (.inr (.inr 64)), some (.inr (.inr 29)), some (.inl k), some (.inl dp), some (.inl (h 30 k))]) (sk' := [.inr (.inr (1000 + 6)), .inr (.inr 64)]) (h' := h) rfl ?_
    refine E2_cv (x := (.invokevirtual 115, 1, [(8, 95)], [0])) (q := fun h9 => h9 = (tadds h [33, 40])) rfl rfl (Nat.le_of_ble_eq_true rfl) (c_tall (d + 10) 0 h 6 (RX9, 111, [33, 40]) rfl (by decide) ⟨by omega, by show h 64 1 + (([33, 40] : List Int).length : Nat) ≤ 1024; simp only [List.length_cons, List.length_nil]; omega⟩ ⟨rfl, rfl⟩) (fun h9 e9 => ?_)
    subst e9
    show xEx2 RX9 G0 cdX9_spell none (xRn2 G0 MT (d + 12)) Q b 13 [some (.inr (.inr 28)), some (.inr (.inr 64)), some (.inr (.inr 29)), some (.inl k), some (.inl dp), some (.inl (h 30 k))] [] (tadds h [33, 40])
    refine E2_s 1 (i' := 14) (ls' := [some (.inr (.inr 28)), some (.inr (.inr 64)), some (.inr (.inr 29)), some (.inl k), some (.inl dp), some (.inl (h 30 k))]) (sk' := [.inl (h 30 k)]) (h' := (tadds h [33, 40])) rfl ?_
    refine E2_b (x := (.ifCond .eq 9, 18, [], [])) rfl rfl (fun c14 => ?_) (fun c14 => ?_)
    · rw [c_eq (by first | assumption | (refine ⟨?_, ?_⟩ <;> omega) | (simp only [xr] at *; omega)) (by first | assumption | (refine ⟨?_, ?_⟩ <;> omega) | (simp only [xr] at *; omega))] at c14
      simp only [decide_eq_true_eq, decide_eq_false_iff_not, Decidable.not_not] at c14
      show xEx2 RX9 G0 cdX9_spell none (xRn2 G0 MT (d + 12)) Q b 18 [some (.inr (.inr 28)), some (.inr (.inr 64)), some (.inr (.inr 29)), some (.inl k), some (.inl dp), some (.inl (h 30 k))] [] (tadds h [33, 40])
      have q := hl.2
      rw [tt_1 (by omega)] at q
      simp only [List.length_append, List.length_cons, List.length_nil] at q
      refine E2_s 6 (i' := 24) (ls' := [some (.inr (.inr 28)), some (.inr (.inr 64)), some (.inr (.inr 29)), some (.inl k), some (.inl dp), some (.inl (h 30 k))]) (sk' := [.inl k, .inr (.inr 31), .inr (.inr 64), .inr (.inr 9)]) (h' := (tadds h [33, 40])) rfl ?_
      refine E2_ld (x := (.iaload, 0, [], [])) (ty := .int) (n := 150) rfl rfl rfl (by omega) (by omega) ?_
      show xEx2 RX9 G0 cdX9_spell none (xRn2 G0 MT (d + 12)) Q b 25 [some (.inr (.inr 28)), some (.inr (.inr 64)), some (.inr (.inr 29)), some (.inl k), some (.inl dp), some (.inl (h 30 k))] [.inl ((tadds h [33, 40]) 31 k), .inr (.inr 64), .inr (.inr 9)] (tadds h [33, 40])
      exfalso; omega
    · rw [c_eq (by first | assumption | (refine ⟨?_, ?_⟩ <;> omega) | (simp only [xr] at *; omega)) (by first | assumption | (refine ⟨?_, ?_⟩ <;> omega) | (simp only [xr] at *; omega))] at c14
      simp only [decide_eq_true_eq, decide_eq_false_iff_not, Decidable.not_not] at c14
      show xEx2 RX9 G0 cdX9_spell none (xRn2 G0 MT (d + 12)) Q b 15 [some (.inr (.inr 28)), some (.inr (.inr 64)), some (.inr (.inr 29)), some (.inl k), some (.inl dp), some (.inl (h 30 k))] [] (tadds h [33, 40])
      refine E2_s 2 (i' := 17) (ls' := [some (.inr (.inr 28)), some (.inr (.inr 64)), some (.inr (.inr 29)), some (.inl k), some (.inl dp), some (.inl (h 30 k))]) (sk' := [.inl 1, .inl (h 30 k)]) (h' := (tadds h [33, 40])) rfl ?_
      refine E2_b (x := (.if_icmp .ne 44, 40, [], [])) rfl rfl (fun c17 => ?_) (fun c17 => ?_)
      · rw [c_ne (by first | assumption | (refine ⟨?_, ?_⟩ <;> omega) | (simp only [xr] at *; omega)) (by first | assumption | (refine ⟨?_, ?_⟩ <;> omega) | (simp only [xr] at *; omega))] at c17
        simp only [decide_eq_true_eq, decide_eq_false_iff_not, Decidable.not_not] at c17
        show xEx2 RX9 G0 cdX9_spell none (xRn2 G0 MT (d + 12)) Q b 40 [some (.inr (.inr 28)), some (.inr (.inr 64)), some (.inr (.inr 29)), some (.inl k), some (.inl dp), some (.inl (h 30 k))] [] (tadds h [33, 40])
        refine E2_s 1 (i' := 41) (ls' := [some (.inr (.inr 28)), some (.inr (.inr 64)), some (.inr (.inr 29)), some (.inl k), some (.inl dp), some (.inl (h 30 k))]) (sk' := [.inl dp]) (h' := (tadds h [33, 40])) rfl ?_
        refine E2_b (x := (.ifCond .le 57, 74, [], [])) rfl rfl (fun c41 => ?_) (fun c41 => ?_)
        · rw [c_le (by first | assumption | (refine ⟨?_, ?_⟩ <;> omega) | (simp only [xr] at *; omega)) (by first | assumption | (refine ⟨?_, ?_⟩ <;> omega) | (simp only [xr] at *; omega))] at c41
          simp only [decide_eq_true_eq, decide_eq_false_iff_not, Decidable.not_not] at c41
          show xEx2 RX9 G0 cdX9_spell none (xRn2 G0 MT (d + 12)) Q b 74 [some (.inr (.inr 28)), some (.inr (.inr 64)), some (.inr (.inr 29)), some (.inl k), some (.inl dp), some (.inl (h 30 k))] [] (tadds h [33, 40])
          refine E2_s 2 (i' := 76) (ls' := [some (.inr (.inr 28)), some (.inr (.inr 64)), some (.inr (.inr 29)), some (.inl k), some (.inl dp), some (.inl (h 30 k))]) (sk' := [.inl 41, .inr (.inr 64)]) (h' := (tadds h [33, 40])) rfl ?_
          exfalso; omega
        · rw [c_le (by first | assumption | (refine ⟨?_, ?_⟩ <;> omega) | (simp only [xr] at *; omega)) (by first | assumption | (refine ⟨?_, ?_⟩ <;> omega) | (simp only [xr] at *; omega))] at c41
          simp only [decide_eq_true_eq, decide_eq_false_iff_not, Decidable.not_not] at c41
          show xEx2 RX9 G0 cdX9_spell none (xRn2 G0 MT (d + 12)) Q b 42 [some (.inr (.inr 28)), some (.inr (.inr 64)), some (.inr (.inr 29)), some (.inl k), some (.inl dp), some (.inl (h 30 k))] [] (tadds h [33, 40])
          have q := hl.2
          rw [tt_2 (by omega)] at q
          simp only [List.length_append, List.length_cons, List.length_nil] at q
          refine E2_s 7 (i' := 49) (ls' := [some (.inr (.inr 28)), some (.inr (.inr 64)), some (.inr (.inr 29)), some (.inl k), some (.inl dp), some (.inl (h 30 k))]) (sk' := [.inl k, .inr (.inr 31), .inr (.inr 29), .inr (.inr 64), .inr (.inr 28)]) (h' := (tadds h [33, 40])) rfl ?_
          refine E2_ld (x := (.iaload, 0, [], [])) (ty := .int) (n := 150) rfl rfl rfl (by omega) (by omega) ?_
          show xEx2 RX9 G0 cdX9_spell none (xRn2 G0 MT (d + 12)) Q b 50 [some (.inr (.inr 28)), some (.inr (.inr 64)), some (.inr (.inr 29)), some (.inl k), some (.inl dp), some (.inl (h 30 k))] [.inl ((tadds h [33, 40]) 31 k), .inr (.inr 29), .inr (.inr 64), .inr (.inr 28)] (tadds h [33, 40])
          refine E2_s 3 (i' := 53) (ls' := [some (.inr (.inr 28)), some (.inr (.inr 64)), some (.inr (.inr 29)), some (.inl k), some (.inl dp), some (.inl (h 30 k))]) (sk' := [.inl (dp - 1), .inl ((tadds h [33, 40]) 31 k), .inr (.inr 29), .inr (.inr 64), .inr (.inr 28)]) (h' := (tadds h [33, 40])) rfl ?_
          have ru1 : (tadds h [33, 40]) 31 k = h 31 k := by rw [tadds_o (by decide) (by decide)]
          refine E2_cv (x := (.invokevirtual 133, 4, [(7, 92)], [0])) (q := fun h9 => h9 = (tadds (tadds h [33, 40]) (g (h 31 k)))) rfl rfl (Nat.le_of_ble_eq_true rfl) (by rw [ru1]; exact hrec (tadds h [33, 40]) (h 31 k) (by omega) (fun a z1 z2 => by rw [tadds_o z1 z2]) (by rw [tadds_l]; simp only [List.length_cons, List.length_nil]; omega) (by rw [tadds_l]; simp only [List.length_cons, List.length_nil]; omega) ⟨rfl, rfl⟩) (fun h9 e9 => ?_)
          subst e9
          show xEx2 RX9 G0 cdX9_spell none (xRn2 G0 MT (d + 12)) Q b 54 [some (.inr (.inr 28)), some (.inr (.inr 64)), some (.inr (.inr 29)), some (.inl k), some (.inl dp), some (.inl (h 30 k))] [] (tadds (tadds h [33, 40]) (g (h 31 k)))
          refine E2_s 2 (i' := 56) (ls' := [some (.inr (.inr 28)), some (.inr (.inr 64)), some (.inr (.inr 29)), some (.inl k), some (.inl dp), some (.inl (h 30 k))]) (sk' := [.inl 3, .inl (h 30 k)]) (h' := (tadds (tadds h [33, 40]) (g (h 31 k)))) rfl ?_
          refine E2_b (x := (.if_icmp .ne 32, 74, [], [])) rfl rfl (fun c56 => ?_) (fun c56 => ?_)
          · rw [c_ne (by first | assumption | (refine ⟨?_, ?_⟩ <;> omega) | (simp only [xr] at *; omega)) (by first | assumption | (refine ⟨?_, ?_⟩ <;> omega) | (simp only [xr] at *; omega))] at c56
            simp only [decide_eq_true_eq, decide_eq_false_iff_not, Decidable.not_not] at c56
            show xEx2 RX9 G0 cdX9_spell none (xRn2 G0 MT (d + 12)) Q b 74 [some (.inr (.inr 28)), some (.inr (.inr 64)), some (.inr (.inr 29)), some (.inl k), some (.inl dp), some (.inl (h 30 k))] [] (tadds (tadds h [33, 40]) (g (h 31 k)))
            refine E2_s 2 (i' := 76) (ls' := [some (.inr (.inr 28)), some (.inr (.inr 64)), some (.inr (.inr 29)), some (.inl k), some (.inl dp), some (.inl (h 30 k))]) (sk' := [.inl 41, .inr (.inr 64)]) (h' := (tadds (tadds h [33, 40]) (g (h 31 k)))) rfl ?_
            refine E2_cv (x := (.invokevirtual 129, 1, [(8, 94)], [0])) (q := fun h9 => h9 = (tadd (tadds (tadds h [33, 40]) (g (h 31 k))) 41)) rfl rfl (Nat.le_of_ble_eq_true rfl) (xRn_2 _ _ _ _ _ _ (c_tadd (d + 11) 0 (tadds (tadds h [33, 40]) (g (h 31 k))) 41 ⟨by omega, by omega⟩ (by rw [tadds_l, tadds_l]; simp only [List.length_cons, List.length_nil]; omega) ⟨rfl, rfl⟩)) (fun h9 e9 => ?_)
            subst e9
            show xEx2 RX9 G0 cdX9_spell none (xRn2 G0 MT (d + 12)) Q b 77 [some (.inr (.inr 28)), some (.inr (.inr 64)), some (.inr (.inr 29)), some (.inl k), some (.inl dp), some (.inl (h 30 k))] [] (tadd (tadds (tadds h [33, 40]) (g (h 31 k))) 41)
            exact E2_ret (x := (.return_, 0, [], [])) (v := none) rfl (trivial) (by
              have r9 := hQ
              rw [tt_2 (by omega), tadds_a, tadds_a] at r9
              exact r9)
          · rw [c_ne (by first | assumption | (refine ⟨?_, ?_⟩ <;> omega) | (simp only [xr] at *; omega)) (by first | assumption | (refine ⟨?_, ?_⟩ <;> omega) | (simp only [xr] at *; omega))] at c56
            simp only [decide_eq_true_eq, decide_eq_false_iff_not, Decidable.not_not] at c56
            show xEx2 RX9 G0 cdX9_spell none (xRn2 G0 MT (d + 12)) Q b 57 [some (.inr (.inr 28)), some (.inr (.inr 64)), some (.inr (.inr 29)), some (.inl k), some (.inl dp), some (.inl (h 30 k))] [] (tadds (tadds h [33, 40]) (g (h 31 k)))
            refine E2_s 1 (i' := 58) (ls' := [some (.inr (.inr 28)), some (.inr (.inr 64)), some (.inr (.inr 29)), some (.inl k), some (.inl dp), some (.inl (h 30 k))]) (sk' := [.inr (.inr 64)]) (h' := (tadds (tadds h [33, 40]) (g (h 31 k)))) rfl ?_
            refine E2_sta (x := (.getstatic 125, 0, [], [])) (t := 1) rfl rfl (List.Mem.tail _ (List.Mem.head _)) ?_
            show xEx2 RX9 G0 cdX9_spell none (xRn2 G0 MT (d + 12)) Q b 59 [some (.inr (.inr 28)), some (.inr (.inr 64)), some (.inr (.inr 29)), some (.inl k), some (.inl dp), some (.inl (h 30 k))] [.inr (.inr (2000 + 1)), .inr (.inr 64)] (tadds (tadds h [33, 40]) (g (h 31 k)))
            refine E2_s 1 (i' := 60) (ls' := [some (.inr (.inr 28)), some (.inr (.inr 64)), some (.inr (.inr 29)), some (.inl k), some (.inl dp), some (.inl (h 30 k))]) (sk' := [.inl (h 30 k), .inr (.inr (2000 + 1)), .inr (.inr 64)]) (h' := (tadds (tadds h [33, 40]) (g (h 31 k)))) rfl ?_
            refine E2_cld (x := (.caload, 0, [], [])) (t := 1) rfl rfl rfl (by omega) (by show (h 30 k) < ((4 : Nat) : Int); omega) ?_
            show xEx2 RX9 G0 cdX9_spell none (xRn2 G0 MT (d + 12)) Q b 61 [some (.inr (.inr 28)), some (.inr (.inr 64)), some (.inr (.inr 29)), some (.inl k), some (.inl dp), some (.inl (h 30 k))] [.inl (([60, 61, 32, 38]).getD (h 30 k).toNat 0), .inr (.inr 64)] (tadds (tadds h [33, 40]) (g (h 31 k)))
            have ms := mid_t (k := (h 30 k)) (by omega)
            refine E2_ti (y := (sgT (h 30 k))) (by rw [ms.1]) ?_
            skip
            refine E2_cv (x := (.invokevirtual 129, 1, [(8, 94)], [0])) (q := fun h9 => h9 = (tadd (tadds (tadds h [33, 40]) (g (h 31 k))) (sgT (h 30 k)))) rfl rfl (Nat.le_of_ble_eq_true rfl) (xRn_2 _ _ _ _ _ _ (c_tadd (d + 11) 0 (tadds (tadds h [33, 40]) (g (h 31 k))) (sgT (h 30 k)) ms.2 (by rw [tadds_l, tadds_l]; simp only [List.length_cons, List.length_nil]; omega) ⟨rfl, rfl⟩)) (fun h9 e9 => ?_)
            subst e9
            show xEx2 RX9 G0 cdX9_spell none (xRn2 G0 MT (d + 12)) Q b 62 [some (.inr (.inr 28)), some (.inr (.inr 64)), some (.inr (.inr 29)), some (.inl k), some (.inl dp), some (.inl (h 30 k))] [] (tadd (tadds (tadds h [33, 40]) (g (h 31 k))) (sgT (h 30 k)))
            refine E2_s 7 (i' := 69) (ls' := [some (.inr (.inr 28)), some (.inr (.inr 64)), some (.inr (.inr 29)), some (.inl k), some (.inl dp), some (.inl (h 30 k))]) (sk' := [.inl k, .inr (.inr 32), .inr (.inr 29), .inr (.inr 64), .inr (.inr 28)]) (h' := (tadd (tadds (tadds h [33, 40]) (g (h 31 k))) (sgT (h 30 k)))) rfl ?_
            refine E2_ld (x := (.iaload, 0, [], [])) (ty := .int) (n := 150) rfl rfl rfl (by omega) (by omega) ?_
            show xEx2 RX9 G0 cdX9_spell none (xRn2 G0 MT (d + 12)) Q b 70 [some (.inr (.inr 28)), some (.inr (.inr 64)), some (.inr (.inr 29)), some (.inl k), some (.inl dp), some (.inl (h 30 k))] [.inl ((tadd (tadds (tadds h [33, 40]) (g (h 31 k))) (sgT (h 30 k))) 32 k), .inr (.inr 29), .inr (.inr 64), .inr (.inr 28)] (tadd (tadds (tadds h [33, 40]) (g (h 31 k))) (sgT (h 30 k)))
            refine E2_s 3 (i' := 73) (ls' := [some (.inr (.inr 28)), some (.inr (.inr 64)), some (.inr (.inr 29)), some (.inl k), some (.inl dp), some (.inl (h 30 k))]) (sk' := [.inl (dp - 1), .inl ((tadd (tadds (tadds h [33, 40]) (g (h 31 k))) (sgT (h 30 k))) 32 k), .inr (.inr 29), .inr (.inr 64), .inr (.inr 28)]) (h' := (tadd (tadds (tadds h [33, 40]) (g (h 31 k))) (sgT (h 30 k)))) rfl ?_
            have ru2 : (tadd (tadds (tadds h [33, 40]) (g (h 31 k))) (sgT (h 30 k))) 32 k = h 32 k := by rw [tadd_o (by decide) (by decide), tadds_o (by decide) (by decide), tadds_o (by decide) (by decide)]
            refine E2_cv (x := (.invokevirtual 133, 4, [(7, 92)], [0])) (q := fun h9 => h9 = (tadds (tadd (tadds (tadds h [33, 40]) (g (h 31 k))) (sgT (h 30 k))) (g (h 32 k)))) rfl rfl (Nat.le_of_ble_eq_true rfl) (by rw [ru2]; exact hrec (tadd (tadds (tadds h [33, 40]) (g (h 31 k))) (sgT (h 30 k))) (h 32 k) (by omega) (fun a z1 z2 => by rw [tadd_o z1 z2, tadds_o z1 z2, tadds_o z1 z2]) (by rw [tadd_l, tadds_l, tadds_l]; simp only [List.length_cons, List.length_nil]; omega) (by rw [tadd_l, tadds_l, tadds_l]; simp only [List.length_cons, List.length_nil]; omega) ⟨rfl, rfl⟩) (fun h9 e9 => ?_)
            subst e9
            show xEx2 RX9 G0 cdX9_spell none (xRn2 G0 MT (d + 12)) Q b 74 [some (.inr (.inr 28)), some (.inr (.inr 64)), some (.inr (.inr 29)), some (.inl k), some (.inl dp), some (.inl (h 30 k))] [] (tadds (tadd (tadds (tadds h [33, 40]) (g (h 31 k))) (sgT (h 30 k))) (g (h 32 k)))
            refine E2_s 2 (i' := 76) (ls' := [some (.inr (.inr 28)), some (.inr (.inr 64)), some (.inr (.inr 29)), some (.inl k), some (.inl dp), some (.inl (h 30 k))]) (sk' := [.inl 41, .inr (.inr 64)]) (h' := (tadds (tadd (tadds (tadds h [33, 40]) (g (h 31 k))) (sgT (h 30 k))) (g (h 32 k)))) rfl ?_
            exfalso; omega
      · rw [c_ne (by first | assumption | (refine ⟨?_, ?_⟩ <;> omega) | (simp only [xr] at *; omega)) (by first | assumption | (refine ⟨?_, ?_⟩ <;> omega) | (simp only [xr] at *; omega))] at c17
        simp only [decide_eq_true_eq, decide_eq_false_iff_not, Decidable.not_not] at c17
        show xEx2 RX9 G0 cdX9_spell none (xRn2 G0 MT (d + 12)) Q b 18 [some (.inr (.inr 28)), some (.inr (.inr 64)), some (.inr (.inr 29)), some (.inl k), some (.inl dp), some (.inl (h 30 k))] [] (tadds h [33, 40])
        have q := hl.2
        rw [tt_1 (by omega)] at q
        simp only [List.length_append, List.length_cons, List.length_nil] at q
        refine E2_s 6 (i' := 24) (ls' := [some (.inr (.inr 28)), some (.inr (.inr 64)), some (.inr (.inr 29)), some (.inl k), some (.inl dp), some (.inl (h 30 k))]) (sk' := [.inl k, .inr (.inr 31), .inr (.inr 64), .inr (.inr 9)]) (h' := (tadds h [33, 40])) rfl ?_
        refine E2_ld (x := (.iaload, 0, [], [])) (ty := .int) (n := 150) rfl rfl rfl (by omega) (by omega) ?_
        show xEx2 RX9 G0 cdX9_spell none (xRn2 G0 MT (d + 12)) Q b 25 [some (.inr (.inr 28)), some (.inr (.inr 64)), some (.inr (.inr 29)), some (.inl k), some (.inl dp), some (.inl (h 30 k))] [.inl ((tadds h [33, 40]) 31 k), .inr (.inr 64), .inr (.inr 9)] (tadds h [33, 40])
        exfalso; omega
set_option maxHeartbeats 1000000 in
theorem c_sp2_gtm (d b : Nat) (h S : xH) (k dp n0 : Int) (wt : Int → Int) (g : Int → List Int) (hF : FW n0 wt 9 S) (hR : RC h S) (h3 : S 0 0 ≤ 300) (hk : 0 ≤ k ∧ k < 150) (hd : 0 ≤ dp ∧ dp ≤ 9) (c0 : 0 ≤ (h 34 k) ∧ (h 34 k) ≤ 3) (cE : (h 34 k) ≤ 1 → (0 ≤ (h 35 k) ∧ (h 35 k) < S 0 0) ∧ (0 ≤ (h 36 k) ∧ (h 36 k) < S 0 0)) (cd : 2 ≤ (h 34 k) → 1 ≤ dp) (hl : 0 ≤ h 64 1 ∧ h 64 1 + ((tt1 (h 34 k) (h 35 k) (h 36 k) (TE S) g).length : Nat) + 3 ≤ 1024) (hrec : ∀ (hh : xH) (j : Int), (2 ≤ (h 34 k) ∧ (j = (h 35 k) ∨ (j = (h 36 k) ∧ (h 34 k) = 3))) → (∀ a, a ≠ 64 → a ≠ 65 → hh a = h a) → hh 64 1 + ((g j).length : Nat) + 3 ≤ 1024 → 0 ≤ hh 64 1 → ∀ {Q9 : xO → xH → Prop}, Q9 (.inl none) (tadds hh (g j)) → xRn2 G0 MT (d + 12) 0 92 [.inr (.inr 28), .inr (.inr 64), .inr (.inr 29), .inl j, .inl (dp - 1)] hh Q9) {Q : xO → xH → Prop} (hQ : Q (.inl none) (tadds h (tt1 (h 34 k) (h 35 k) (h 36 k) (TE S) g))) : xRn2 G0 MT (d + 13) b 92 [.inr (.inr 28), .inr (.inr 64), .inr (.inr 33), .inl k, .inl dp] h Q := by
  refine R2_of (M := mX9_spell) rfl (Nat.le_of_ble_eq_true rfl) ?_
  show xEx2 RX9 G0 cdX9_spell none (xRn2 G0 MT (d + 12)) Q b 0 [some (.inr (.inr 28)), some (.inr (.inr 64)), some (.inr (.inr 33)), some (.inl k), some (.inl dp), none] [] h
  refine E2_s 3 (i' := 3) (ls' := [some (.inr (.inr 28)), some (.inr (.inr 64)), some (.inr (.inr 33)), some (.inl k), some (.inl dp), none]) (sk' := [.inl k, .inr (.inr 34)]) (h' := h) rfl ?_
  refine E2_ld (x := (.iaload, 0, [], [])) (ty := .int) (n := 150) rfl rfl rfl (by omega) (by omega) ?_
  show xEx2 RX9 G0 cdX9_spell none (xRn2 G0 MT (d + 12)) Q b 4 [some (.inr (.inr 28)), some (.inr (.inr 64)), some (.inr (.inr 33)), some (.inl k), some (.inl dp), none] [.inl (h 34 k)] h
  refine E2_s 4 (i' := 8) (ls' := [some (.inr (.inr 28)), some (.inr (.inr 64)), some (.inr (.inr 33)), some (.inl k), some (.inl dp), some (.inl (h 34 k))]) (sk' := [.inl 2, .inl (h 34 k), .inr (.inr 64)]) (h' := h) rfl ?_
  refine E2_b (x := (.if_icmp .ne 8, 11, [], [])) rfl rfl (fun c8 => ?_) (fun c8 => ?_)
  · rw [c_ne (by first | assumption | (refine ⟨?_, ?_⟩ <;> omega) | (simp only [xr] at *; omega)) (by first | assumption | (refine ⟨?_, ?_⟩ <;> omega) | (simp only [xr] at *; omega))] at c8
    simp only [decide_eq_true_eq, decide_eq_false_iff_not, Decidable.not_not] at c8
    show xEx2 RX9 G0 cdX9_spell none (xRn2 G0 MT (d + 12)) Q b 11 [some (.inr (.inr 28)), some (.inr (.inr 64)), some (.inr (.inr 33)), some (.inl k), some (.inl dp), some (.inl (h 34 k))] [.inr (.inr 64)] h
    have hL : h 64 1 + 4 ≤ 1024 := by
      have q := hl.2
      by_cases y : (h 34 k) = 3
      · rw [tt_3 y] at q; simp only [List.length_append, List.length_cons, List.length_nil] at q; omega
      · rw [tt_1 (by omega)] at q; simp only [List.length_append, List.length_cons, List.length_nil] at q; omega
    refine E2_str (x := (.ldc 113, 0, [(1, 0)], [])) 7 rfl (Or.inl rfl) rfl ?_
    show xEx2 RX9 G0 cdX9_spell none (xRn2 G0 MT (d + 12)) Q b 12 [some (.inr (.inr 28)), some (.inr (.inr 64)), some (.inr (.inr 33)), some (.inl k), some (.inl dp), some (.inl (h 34 k))] [.inr (.inr (1000 + 7)), .inr (.inr 64)] h
    refine E2_cv (x := (.invokevirtual 115, 1, [(8, 95)], [0])) (q := fun h9 => h9 = (tadds h [40])) rfl rfl (Nat.le_of_ble_eq_true rfl) (c_tall (d + 10) 0 h 7 (RX9, 113, [40]) rfl (by decide) ⟨by omega, by show h 64 1 + (([40] : List Int).length : Nat) ≤ 1024; simp only [List.length_cons, List.length_nil]; omega⟩ ⟨rfl, rfl⟩) (fun h9 e9 => ?_)
    subst e9
    show xEx2 RX9 G0 cdX9_spell none (xRn2 G0 MT (d + 12)) Q b 13 [some (.inr (.inr 28)), some (.inr (.inr 64)), some (.inr (.inr 33)), some (.inl k), some (.inl dp), some (.inl (h 34 k))] [] (tadds h [40])
    refine E2_s 1 (i' := 14) (ls' := [some (.inr (.inr 28)), some (.inr (.inr 64)), some (.inr (.inr 33)), some (.inl k), some (.inl dp), some (.inl (h 34 k))]) (sk' := [.inl (h 34 k)]) (h' := (tadds h [40])) rfl ?_
    refine E2_b (x := (.ifCond .eq 9, 18, [], [])) rfl rfl (fun c14 => ?_) (fun c14 => ?_)
    · rw [c_eq (by first | assumption | (refine ⟨?_, ?_⟩ <;> omega) | (simp only [xr] at *; omega)) (by first | assumption | (refine ⟨?_, ?_⟩ <;> omega) | (simp only [xr] at *; omega))] at c14
      simp only [decide_eq_true_eq, decide_eq_false_iff_not, Decidable.not_not] at c14
      show xEx2 RX9 G0 cdX9_spell none (xRn2 G0 MT (d + 12)) Q b 18 [some (.inr (.inr 28)), some (.inr (.inr 64)), some (.inr (.inr 33)), some (.inl k), some (.inl dp), some (.inl (h 34 k))] [] (tadds h [40])
      have q := hl.2
      rw [tt_1 (by omega)] at q
      simp only [List.length_append, List.length_cons, List.length_nil] at q
      refine E2_s 6 (i' := 24) (ls' := [some (.inr (.inr 28)), some (.inr (.inr 64)), some (.inr (.inr 33)), some (.inl k), some (.inl dp), some (.inl (h 34 k))]) (sk' := [.inl k, .inr (.inr 35), .inr (.inr 64), .inr (.inr 9)]) (h' := (tadds h [40])) rfl ?_
      refine E2_ld (x := (.iaload, 0, [], [])) (ty := .int) (n := 150) rfl rfl rfl (by omega) (by omega) ?_
      show xEx2 RX9 G0 cdX9_spell none (xRn2 G0 MT (d + 12)) Q b 25 [some (.inr (.inr 28)), some (.inr (.inr 64)), some (.inr (.inr 33)), some (.inl k), some (.inl dp), some (.inl (h 34 k))] [.inl ((tadds h [40]) 35 k), .inr (.inr 64), .inr (.inr 9)] (tadds h [40])
      have ru1 : (tadds h [40]) 35 k = h 35 k := by rw [tadds_o (by decide) (by decide)]
      refine E2_cv (x := (.invokevirtual 121, 2, [(1, 26)], [1])) (q := fun h9 => h9 = (tadds (tadds h [40]) (TE S (h 35 k)))) rfl rfl (Nat.le_of_ble_eq_true rfl) (by rw [ru1]; exact c_spK0_ d 0 (tadds h [40]) S (h 35 k) n0 wt hF (RC_fr (fun a z1 z2 => by rw [tadds_o (by omega) (by omega)]) (by rw [tadds_o (by decide) (by decide)]) hR) h3 (by omega) (by rw [tadds_l]; simp only [List.length_cons, List.length_nil]; omega) (by rw [tadds_l]; simp only [List.length_cons, List.length_nil]; omega) ⟨rfl, rfl⟩) (fun h9 e9 => ?_)
      subst e9
      show xEx2 RX9 G0 cdX9_spell none (xRn2 G0 MT (d + 12)) Q b 26 [some (.inr (.inr 28)), some (.inr (.inr 64)), some (.inr (.inr 33)), some (.inl k), some (.inl dp), some (.inl (h 34 k))] [] (tadds (tadds h [40]) (TE S (h 35 k)))
      refine E2_s 1 (i' := 27) (ls' := [some (.inr (.inr 28)), some (.inr (.inr 64)), some (.inr (.inr 33)), some (.inl k), some (.inl dp), some (.inl (h 34 k))]) (sk' := [.inr (.inr 64)]) (h' := (tadds (tadds h [40]) (TE S (h 35 k)))) rfl ?_
      refine E2_sta (x := (.getstatic 125, 0, [], [])) (t := 1) rfl rfl (List.Mem.tail _ (List.Mem.head _)) ?_
      show xEx2 RX9 G0 cdX9_spell none (xRn2 G0 MT (d + 12)) Q b 28 [some (.inr (.inr 28)), some (.inr (.inr 64)), some (.inr (.inr 33)), some (.inl k), some (.inl dp), some (.inl (h 34 k))] [.inr (.inr (2000 + 1)), .inr (.inr 64)] (tadds (tadds h [40]) (TE S (h 35 k)))
      refine E2_s 1 (i' := 29) (ls' := [some (.inr (.inr 28)), some (.inr (.inr 64)), some (.inr (.inr 33)), some (.inl k), some (.inl dp), some (.inl (h 34 k))]) (sk' := [.inl (h 34 k), .inr (.inr (2000 + 1)), .inr (.inr 64)]) (h' := (tadds (tadds h [40]) (TE S (h 35 k)))) rfl ?_
      refine E2_cld (x := (.caload, 0, [], [])) (t := 1) rfl rfl rfl (by omega) (by show (h 34 k) < ((4 : Nat) : Int); omega) ?_
      show xEx2 RX9 G0 cdX9_spell none (xRn2 G0 MT (d + 12)) Q b 30 [some (.inr (.inr 28)), some (.inr (.inr 64)), some (.inr (.inr 33)), some (.inl k), some (.inl dp), some (.inl (h 34 k))] [.inl (([60, 61, 32, 38]).getD (h 34 k).toNat 0), .inr (.inr 64)] (tadds (tadds h [40]) (TE S (h 35 k)))
      have ms := mid_t (k := (h 34 k)) (by omega)
      refine E2_ti (y := (sgT (h 34 k))) (by rw [ms.1]) ?_
      skip
      refine E2_cv (x := (.invokevirtual 129, 1, [(8, 94)], [0])) (q := fun h9 => h9 = (tadd (tadds (tadds h [40]) (TE S (h 35 k))) (sgT (h 34 k)))) rfl rfl (Nat.le_of_ble_eq_true rfl) (xRn_2 _ _ _ _ _ _ (c_tadd (d + 11) 0 (tadds (tadds h [40]) (TE S (h 35 k))) (sgT (h 34 k)) ms.2 (by rw [tadds_l, tadds_l]; simp only [List.length_cons, List.length_nil]; omega) ⟨rfl, rfl⟩)) (fun h9 e9 => ?_)
      subst e9
      show xEx2 RX9 G0 cdX9_spell none (xRn2 G0 MT (d + 12)) Q b 31 [some (.inr (.inr 28)), some (.inr (.inr 64)), some (.inr (.inr 33)), some (.inl k), some (.inl dp), some (.inl (h 34 k))] [] (tadd (tadds (tadds h [40]) (TE S (h 35 k))) (sgT (h 34 k)))
      refine E2_s 6 (i' := 37) (ls' := [some (.inr (.inr 28)), some (.inr (.inr 64)), some (.inr (.inr 33)), some (.inl k), some (.inl dp), some (.inl (h 34 k))]) (sk' := [.inl k, .inr (.inr 36), .inr (.inr 64), .inr (.inr 9)]) (h' := (tadd (tadds (tadds h [40]) (TE S (h 35 k))) (sgT (h 34 k)))) rfl ?_
      refine E2_ld (x := (.iaload, 0, [], [])) (ty := .int) (n := 150) rfl rfl rfl (by omega) (by omega) ?_
      show xEx2 RX9 G0 cdX9_spell none (xRn2 G0 MT (d + 12)) Q b 38 [some (.inr (.inr 28)), some (.inr (.inr 64)), some (.inr (.inr 33)), some (.inl k), some (.inl dp), some (.inl (h 34 k))] [.inl ((tadd (tadds (tadds h [40]) (TE S (h 35 k))) (sgT (h 34 k))) 36 k), .inr (.inr 64), .inr (.inr 9)] (tadd (tadds (tadds h [40]) (TE S (h 35 k))) (sgT (h 34 k)))
      have ru2 : (tadd (tadds (tadds h [40]) (TE S (h 35 k))) (sgT (h 34 k))) 36 k = h 36 k := by rw [tadd_o (by decide) (by decide), tadds_o (by decide) (by decide), tadds_o (by decide) (by decide)]
      refine E2_cv (x := (.invokevirtual 121, 2, [(1, 26)], [1])) (q := fun h9 => h9 = (tadds (tadd (tadds (tadds h [40]) (TE S (h 35 k))) (sgT (h 34 k))) (TE S (h 36 k)))) rfl rfl (Nat.le_of_ble_eq_true rfl) (by rw [ru2]; exact c_spK0_ d 0 (tadd (tadds (tadds h [40]) (TE S (h 35 k))) (sgT (h 34 k))) S (h 36 k) n0 wt hF (RC_fr (fun a z1 z2 => by rw [tadd_o (by omega) (by omega), tadds_o (by omega) (by omega), tadds_o (by omega) (by omega)]) (by rw [tadd_o (by decide) (by decide), tadds_o (by decide) (by decide), tadds_o (by decide) (by decide)]) hR) h3 (by omega) (by rw [tadd_l, tadds_l, tadds_l]; simp only [List.length_cons, List.length_nil]; omega) (by rw [tadd_l, tadds_l, tadds_l]; simp only [List.length_cons, List.length_nil]; omega) ⟨rfl, rfl⟩) (fun h9 e9 => ?_)
      subst e9
      show xEx2 RX9 G0 cdX9_spell none (xRn2 G0 MT (d + 12)) Q b 39 [some (.inr (.inr 28)), some (.inr (.inr 64)), some (.inr (.inr 33)), some (.inl k), some (.inl dp), some (.inl (h 34 k))] [] (tadds (tadd (tadds (tadds h [40]) (TE S (h 35 k))) (sgT (h 34 k))) (TE S (h 36 k)))
      refine E2_s 3 (i' := 76) (ls' := [some (.inr (.inr 28)), some (.inr (.inr 64)), some (.inr (.inr 33)), some (.inl k), some (.inl dp), some (.inl (h 34 k))]) (sk' := [.inl 41, .inr (.inr 64)]) (h' := (tadds (tadd (tadds (tadds h [40]) (TE S (h 35 k))) (sgT (h 34 k))) (TE S (h 36 k)))) rfl ?_
      refine E2_cv (x := (.invokevirtual 129, 1, [(8, 94)], [0])) (q := fun h9 => h9 = (tadd (tadds (tadd (tadds (tadds h [40]) (TE S (h 35 k))) (sgT (h 34 k))) (TE S (h 36 k))) 41)) rfl rfl (Nat.le_of_ble_eq_true rfl) (xRn_2 _ _ _ _ _ _ (c_tadd (d + 11) 0 (tadds (tadd (tadds (tadds h [40]) (TE S (h 35 k))) (sgT (h 34 k))) (TE S (h 36 k))) 41 ⟨by omega, by omega⟩ (by rw [tadds_l, tadd_l, tadds_l, tadds_l]; simp only [List.length_cons, List.length_nil]; omega) ⟨rfl, rfl⟩)) (fun h9 e9 => ?_)
      subst e9
      show xEx2 RX9 G0 cdX9_spell none (xRn2 G0 MT (d + 12)) Q b 77 [some (.inr (.inr 28)), some (.inr (.inr 64)), some (.inr (.inr 33)), some (.inl k), some (.inl dp), some (.inl (h 34 k))] [] (tadd (tadds (tadd (tadds (tadds h [40]) (TE S (h 35 k))) (sgT (h 34 k))) (TE S (h 36 k))) 41)
      exact E2_ret (x := (.return_, 0, [], [])) (v := none) rfl (trivial) (by
        have r9 := hQ
        rw [tt_1 (by omega), tadds_a, tadds_a, tadds_a, tadds_a] at r9
        exact r9)
    · rw [c_eq (by first | assumption | (refine ⟨?_, ?_⟩ <;> omega) | (simp only [xr] at *; omega)) (by first | assumption | (refine ⟨?_, ?_⟩ <;> omega) | (simp only [xr] at *; omega))] at c14
      simp only [decide_eq_true_eq, decide_eq_false_iff_not, Decidable.not_not] at c14
      show xEx2 RX9 G0 cdX9_spell none (xRn2 G0 MT (d + 12)) Q b 15 [some (.inr (.inr 28)), some (.inr (.inr 64)), some (.inr (.inr 33)), some (.inl k), some (.inl dp), some (.inl (h 34 k))] [] (tadds h [40])
      refine E2_s 2 (i' := 17) (ls' := [some (.inr (.inr 28)), some (.inr (.inr 64)), some (.inr (.inr 33)), some (.inl k), some (.inl dp), some (.inl (h 34 k))]) (sk' := [.inl 1, .inl (h 34 k)]) (h' := (tadds h [40])) rfl ?_
      refine E2_b (x := (.if_icmp .ne 44, 40, [], [])) rfl rfl (fun c17 => ?_) (fun c17 => ?_)
      · rw [c_ne (by first | assumption | (refine ⟨?_, ?_⟩ <;> omega) | (simp only [xr] at *; omega)) (by first | assumption | (refine ⟨?_, ?_⟩ <;> omega) | (simp only [xr] at *; omega))] at c17
        simp only [decide_eq_true_eq, decide_eq_false_iff_not, Decidable.not_not] at c17
        show xEx2 RX9 G0 cdX9_spell none (xRn2 G0 MT (d + 12)) Q b 40 [some (.inr (.inr 28)), some (.inr (.inr 64)), some (.inr (.inr 33)), some (.inl k), some (.inl dp), some (.inl (h 34 k))] [] (tadds h [40])
        refine E2_s 1 (i' := 41) (ls' := [some (.inr (.inr 28)), some (.inr (.inr 64)), some (.inr (.inr 33)), some (.inl k), some (.inl dp), some (.inl (h 34 k))]) (sk' := [.inl dp]) (h' := (tadds h [40])) rfl ?_
        refine E2_b (x := (.ifCond .le 57, 74, [], [])) rfl rfl (fun c41 => ?_) (fun c41 => ?_)
        · rw [c_le (by first | assumption | (refine ⟨?_, ?_⟩ <;> omega) | (simp only [xr] at *; omega)) (by first | assumption | (refine ⟨?_, ?_⟩ <;> omega) | (simp only [xr] at *; omega))] at c41
          simp only [decide_eq_true_eq, decide_eq_false_iff_not, Decidable.not_not] at c41
          show xEx2 RX9 G0 cdX9_spell none (xRn2 G0 MT (d + 12)) Q b 74 [some (.inr (.inr 28)), some (.inr (.inr 64)), some (.inr (.inr 33)), some (.inl k), some (.inl dp), some (.inl (h 34 k))] [] (tadds h [40])
          refine E2_s 2 (i' := 76) (ls' := [some (.inr (.inr 28)), some (.inr (.inr 64)), some (.inr (.inr 33)), some (.inl k), some (.inl dp), some (.inl (h 34 k))]) (sk' := [.inl 41, .inr (.inr 64)]) (h' := (tadds h [40])) rfl ?_
          exfalso; omega
        · rw [c_le (by first | assumption | (refine ⟨?_, ?_⟩ <;> omega) | (simp only [xr] at *; omega)) (by first | assumption | (refine ⟨?_, ?_⟩ <;> omega) | (simp only [xr] at *; omega))] at c41
          simp only [decide_eq_true_eq, decide_eq_false_iff_not, Decidable.not_not] at c41
          show xEx2 RX9 G0 cdX9_spell none (xRn2 G0 MT (d + 12)) Q b 42 [some (.inr (.inr 28)), some (.inr (.inr 64)), some (.inr (.inr 33)), some (.inl k), some (.inl dp), some (.inl (h 34 k))] [] (tadds h [40])
          have q := hl.2
          rw [tt_3 (by omega)] at q
          simp only [List.length_append, List.length_cons, List.length_nil] at q
          refine E2_s 7 (i' := 49) (ls' := [some (.inr (.inr 28)), some (.inr (.inr 64)), some (.inr (.inr 33)), some (.inl k), some (.inl dp), some (.inl (h 34 k))]) (sk' := [.inl k, .inr (.inr 35), .inr (.inr 29), .inr (.inr 64), .inr (.inr 28)]) (h' := (tadds h [40])) rfl ?_
          refine E2_ld (x := (.iaload, 0, [], [])) (ty := .int) (n := 150) rfl rfl rfl (by omega) (by omega) ?_
          show xEx2 RX9 G0 cdX9_spell none (xRn2 G0 MT (d + 12)) Q b 50 [some (.inr (.inr 28)), some (.inr (.inr 64)), some (.inr (.inr 33)), some (.inl k), some (.inl dp), some (.inl (h 34 k))] [.inl ((tadds h [40]) 35 k), .inr (.inr 29), .inr (.inr 64), .inr (.inr 28)] (tadds h [40])
          refine E2_s 3 (i' := 53) (ls' := [some (.inr (.inr 28)), some (.inr (.inr 64)), some (.inr (.inr 33)), some (.inl k), some (.inl dp), some (.inl (h 34 k))]) (sk' := [.inl (dp - 1), .inl ((tadds h [40]) 35 k), .inr (.inr 29), .inr (.inr 64), .inr (.inr 28)]) (h' := (tadds h [40])) rfl ?_
          have ru1 : (tadds h [40]) 35 k = h 35 k := by rw [tadds_o (by decide) (by decide)]
          refine E2_cv (x := (.invokevirtual 133, 4, [(7, 92)], [0])) (q := fun h9 => h9 = (tadds (tadds h [40]) (g (h 35 k)))) rfl rfl (Nat.le_of_ble_eq_true rfl) (by rw [ru1]; exact hrec (tadds h [40]) (h 35 k) (by omega) (fun a z1 z2 => by rw [tadds_o z1 z2]) (by rw [tadds_l]; simp only [List.length_cons, List.length_nil]; omega) (by rw [tadds_l]; simp only [List.length_cons, List.length_nil]; omega) ⟨rfl, rfl⟩) (fun h9 e9 => ?_)
          subst e9
          show xEx2 RX9 G0 cdX9_spell none (xRn2 G0 MT (d + 12)) Q b 54 [some (.inr (.inr 28)), some (.inr (.inr 64)), some (.inr (.inr 33)), some (.inl k), some (.inl dp), some (.inl (h 34 k))] [] (tadds (tadds h [40]) (g (h 35 k)))
          refine E2_s 2 (i' := 56) (ls' := [some (.inr (.inr 28)), some (.inr (.inr 64)), some (.inr (.inr 33)), some (.inl k), some (.inl dp), some (.inl (h 34 k))]) (sk' := [.inl 3, .inl (h 34 k)]) (h' := (tadds (tadds h [40]) (g (h 35 k)))) rfl ?_
          refine E2_b (x := (.if_icmp .ne 32, 74, [], [])) rfl rfl (fun c56 => ?_) (fun c56 => ?_)
          · rw [c_ne (by first | assumption | (refine ⟨?_, ?_⟩ <;> omega) | (simp only [xr] at *; omega)) (by first | assumption | (refine ⟨?_, ?_⟩ <;> omega) | (simp only [xr] at *; omega))] at c56
            simp only [decide_eq_true_eq, decide_eq_false_iff_not, Decidable.not_not] at c56
            show xEx2 RX9 G0 cdX9_spell none (xRn2 G0 MT (d + 12)) Q b 74 [some (.inr (.inr 28)), some (.inr (.inr 64)), some (.inr (.inr 33)), some (.inl k), some (.inl dp), some (.inl (h 34 k))] [] (tadds (tadds h [40]) (g (h 35 k)))
            refine E2_s 2 (i' := 76) (ls' := [some (.inr (.inr 28)), some (.inr (.inr 64)), some (.inr (.inr 33)), some (.inl k), some (.inl dp), some (.inl (h 34 k))]) (sk' := [.inl 41, .inr (.inr 64)]) (h' := (tadds (tadds h [40]) (g (h 35 k)))) rfl ?_
            exfalso; omega
          · rw [c_ne (by first | assumption | (refine ⟨?_, ?_⟩ <;> omega) | (simp only [xr] at *; omega)) (by first | assumption | (refine ⟨?_, ?_⟩ <;> omega) | (simp only [xr] at *; omega))] at c56
            simp only [decide_eq_true_eq, decide_eq_false_iff_not, Decidable.not_not] at c56
            show xEx2 RX9 G0 cdX9_spell none (xRn2 G0 MT (d + 12)) Q b 57 [some (.inr (.inr 28)), some (.inr (.inr 64)), some (.inr (.inr 33)), some (.inl k), some (.inl dp), some (.inl (h 34 k))] [] (tadds (tadds h [40]) (g (h 35 k)))
            refine E2_s 1 (i' := 58) (ls' := [some (.inr (.inr 28)), some (.inr (.inr 64)), some (.inr (.inr 33)), some (.inl k), some (.inl dp), some (.inl (h 34 k))]) (sk' := [.inr (.inr 64)]) (h' := (tadds (tadds h [40]) (g (h 35 k)))) rfl ?_
            refine E2_sta (x := (.getstatic 125, 0, [], [])) (t := 1) rfl rfl (List.Mem.tail _ (List.Mem.head _)) ?_
            show xEx2 RX9 G0 cdX9_spell none (xRn2 G0 MT (d + 12)) Q b 59 [some (.inr (.inr 28)), some (.inr (.inr 64)), some (.inr (.inr 33)), some (.inl k), some (.inl dp), some (.inl (h 34 k))] [.inr (.inr (2000 + 1)), .inr (.inr 64)] (tadds (tadds h [40]) (g (h 35 k)))
            refine E2_s 1 (i' := 60) (ls' := [some (.inr (.inr 28)), some (.inr (.inr 64)), some (.inr (.inr 33)), some (.inl k), some (.inl dp), some (.inl (h 34 k))]) (sk' := [.inl (h 34 k), .inr (.inr (2000 + 1)), .inr (.inr 64)]) (h' := (tadds (tadds h [40]) (g (h 35 k)))) rfl ?_
            refine E2_cld (x := (.caload, 0, [], [])) (t := 1) rfl rfl rfl (by omega) (by show (h 34 k) < ((4 : Nat) : Int); omega) ?_
            show xEx2 RX9 G0 cdX9_spell none (xRn2 G0 MT (d + 12)) Q b 61 [some (.inr (.inr 28)), some (.inr (.inr 64)), some (.inr (.inr 33)), some (.inl k), some (.inl dp), some (.inl (h 34 k))] [.inl (([60, 61, 32, 38]).getD (h 34 k).toNat 0), .inr (.inr 64)] (tadds (tadds h [40]) (g (h 35 k)))
            have ms := mid_t (k := (h 34 k)) (by omega)
            refine E2_ti (y := (sgT (h 34 k))) (by rw [ms.1]) ?_
            skip
            refine E2_cv (x := (.invokevirtual 129, 1, [(8, 94)], [0])) (q := fun h9 => h9 = (tadd (tadds (tadds h [40]) (g (h 35 k))) (sgT (h 34 k)))) rfl rfl (Nat.le_of_ble_eq_true rfl) (xRn_2 _ _ _ _ _ _ (c_tadd (d + 11) 0 (tadds (tadds h [40]) (g (h 35 k))) (sgT (h 34 k)) ms.2 (by rw [tadds_l, tadds_l]; simp only [List.length_cons, List.length_nil]; omega) ⟨rfl, rfl⟩)) (fun h9 e9 => ?_)
            subst e9
            show xEx2 RX9 G0 cdX9_spell none (xRn2 G0 MT (d + 12)) Q b 62 [some (.inr (.inr 28)), some (.inr (.inr 64)), some (.inr (.inr 33)), some (.inl k), some (.inl dp), some (.inl (h 34 k))] [] (tadd (tadds (tadds h [40]) (g (h 35 k))) (sgT (h 34 k)))
            refine E2_s 7 (i' := 69) (ls' := [some (.inr (.inr 28)), some (.inr (.inr 64)), some (.inr (.inr 33)), some (.inl k), some (.inl dp), some (.inl (h 34 k))]) (sk' := [.inl k, .inr (.inr 36), .inr (.inr 29), .inr (.inr 64), .inr (.inr 28)]) (h' := (tadd (tadds (tadds h [40]) (g (h 35 k))) (sgT (h 34 k)))) rfl ?_
            refine E2_ld (x := (.iaload, 0, [], [])) (ty := .int) (n := 150) rfl rfl rfl (by omega) (by omega) ?_
            show xEx2 RX9 G0 cdX9_spell none (xRn2 G0 MT (d + 12)) Q b 70 [some (.inr (.inr 28)), some (.inr (.inr 64)), some (.inr (.inr 33)), some (.inl k), some (.inl dp), some (.inl (h 34 k))] [.inl ((tadd (tadds (tadds h [40]) (g (h 35 k))) (sgT (h 34 k))) 36 k), .inr (.inr 29), .inr (.inr 64), .inr (.inr 28)] (tadd (tadds (tadds h [40]) (g (h 35 k))) (sgT (h 34 k)))
            refine E2_s 3 (i' := 73) (ls' := [some (.inr (.inr 28)), some (.inr (.inr 64)), some (.inr (.inr 33)), some (.inl k), some (.inl dp), some (.inl (h 34 k))]) (sk' := [.inl (dp - 1), .inl ((tadd (tadds (tadds h [40]) (g (h 35 k))) (sgT (h 34 k))) 36 k), .inr (.inr 29), .inr (.inr 64), .inr (.inr 28)]) (h' := (tadd (tadds (tadds h [40]) (g (h 35 k))) (sgT (h 34 k)))) rfl ?_
            have ru2 : (tadd (tadds (tadds h [40]) (g (h 35 k))) (sgT (h 34 k))) 36 k = h 36 k := by rw [tadd_o (by decide) (by decide), tadds_o (by decide) (by decide), tadds_o (by decide) (by decide)]
            refine E2_cv (x := (.invokevirtual 133, 4, [(7, 92)], [0])) (q := fun h9 => h9 = (tadds (tadd (tadds (tadds h [40]) (g (h 35 k))) (sgT (h 34 k))) (g (h 36 k)))) rfl rfl (Nat.le_of_ble_eq_true rfl) (by rw [ru2]; exact hrec (tadd (tadds (tadds h [40]) (g (h 35 k))) (sgT (h 34 k))) (h 36 k) (by omega) (fun a z1 z2 => by rw [tadd_o z1 z2, tadds_o z1 z2, tadds_o z1 z2]) (by rw [tadd_l, tadds_l, tadds_l]; simp only [List.length_cons, List.length_nil]; omega) (by rw [tadd_l, tadds_l, tadds_l]; simp only [List.length_cons, List.length_nil]; omega) ⟨rfl, rfl⟩) (fun h9 e9 => ?_)
            subst e9
            show xEx2 RX9 G0 cdX9_spell none (xRn2 G0 MT (d + 12)) Q b 74 [some (.inr (.inr 28)), some (.inr (.inr 64)), some (.inr (.inr 33)), some (.inl k), some (.inl dp), some (.inl (h 34 k))] [] (tadds (tadd (tadds (tadds h [40]) (g (h 35 k))) (sgT (h 34 k))) (g (h 36 k)))
            refine E2_s 2 (i' := 76) (ls' := [some (.inr (.inr 28)), some (.inr (.inr 64)), some (.inr (.inr 33)), some (.inl k), some (.inl dp), some (.inl (h 34 k))]) (sk' := [.inl 41, .inr (.inr 64)]) (h' := (tadds (tadd (tadds (tadds h [40]) (g (h 35 k))) (sgT (h 34 k))) (g (h 36 k)))) rfl ?_
            refine E2_cv (x := (.invokevirtual 129, 1, [(8, 94)], [0])) (q := fun h9 => h9 = (tadd (tadds (tadd (tadds (tadds h [40]) (g (h 35 k))) (sgT (h 34 k))) (g (h 36 k))) 41)) rfl rfl (Nat.le_of_ble_eq_true rfl) (xRn_2 _ _ _ _ _ _ (c_tadd (d + 11) 0 (tadds (tadd (tadds (tadds h [40]) (g (h 35 k))) (sgT (h 34 k))) (g (h 36 k))) 41 ⟨by omega, by omega⟩ (by rw [tadds_l, tadd_l, tadds_l, tadds_l]; simp only [List.length_cons, List.length_nil]; omega) ⟨rfl, rfl⟩)) (fun h9 e9 => ?_)
            subst e9
            show xEx2 RX9 G0 cdX9_spell none (xRn2 G0 MT (d + 12)) Q b 77 [some (.inr (.inr 28)), some (.inr (.inr 64)), some (.inr (.inr 33)), some (.inl k), some (.inl dp), some (.inl (h 34 k))] [] (tadd (tadds (tadd (tadds (tadds h [40]) (g (h 35 k))) (sgT (h 34 k))) (g (h 36 k))) 41)
            exact E2_ret (x := (.return_, 0, [], [])) (v := none) rfl (trivial) (by
              have r9 := hQ
              rw [tt_3 (by omega), tadds_a, tadds_a, tadds_a, tadds_a] at r9
              exact r9)
      · rw [c_ne (by first | assumption | (refine ⟨?_, ?_⟩ <;> omega) | (simp only [xr] at *; omega)) (by first | assumption | (refine ⟨?_, ?_⟩ <;> omega) | (simp only [xr] at *; omega))] at c17
        simp only [decide_eq_true_eq, decide_eq_false_iff_not, Decidable.not_not] at c17
        show xEx2 RX9 G0 cdX9_spell none (xRn2 G0 MT (d + 12)) Q b 18 [some (.inr (.inr 28)), some (.inr (.inr 64)), some (.inr (.inr 33)), some (.inl k), some (.inl dp), some (.inl (h 34 k))] [] (tadds h [40])
        have q := hl.2
        rw [tt_1 (by omega)] at q
        simp only [List.length_append, List.length_cons, List.length_nil] at q
        refine E2_s 6 (i' := 24) (ls' := [some (.inr (.inr 28)), some (.inr (.inr 64)), some (.inr (.inr 33)), some (.inl k), some (.inl dp), some (.inl (h 34 k))]) (sk' := [.inl k, .inr (.inr 35), .inr (.inr 64), .inr (.inr 9)]) (h' := (tadds h [40])) rfl ?_
        refine E2_ld (x := (.iaload, 0, [], [])) (ty := .int) (n := 150) rfl rfl rfl (by omega) (by omega) ?_
        show xEx2 RX9 G0 cdX9_spell none (xRn2 G0 MT (d + 12)) Q b 25 [some (.inr (.inr 28)), some (.inr (.inr 64)), some (.inr (.inr 33)), some (.inl k), some (.inl dp), some (.inl (h 34 k))] [.inl ((tadds h [40]) 35 k), .inr (.inr 64), .inr (.inr 9)] (tadds h [40])
        have ru1 : (tadds h [40]) 35 k = h 35 k := by rw [tadds_o (by decide) (by decide)]
        refine E2_cv (x := (.invokevirtual 121, 2, [(1, 26)], [1])) (q := fun h9 => h9 = (tadds (tadds h [40]) (TE S (h 35 k)))) rfl rfl (Nat.le_of_ble_eq_true rfl) (by rw [ru1]; exact c_spK0_ d 0 (tadds h [40]) S (h 35 k) n0 wt hF (RC_fr (fun a z1 z2 => by rw [tadds_o (by omega) (by omega)]) (by rw [tadds_o (by decide) (by decide)]) hR) h3 (by omega) (by rw [tadds_l]; simp only [List.length_cons, List.length_nil]; omega) (by rw [tadds_l]; simp only [List.length_cons, List.length_nil]; omega) ⟨rfl, rfl⟩) (fun h9 e9 => ?_)
        subst e9
        show xEx2 RX9 G0 cdX9_spell none (xRn2 G0 MT (d + 12)) Q b 26 [some (.inr (.inr 28)), some (.inr (.inr 64)), some (.inr (.inr 33)), some (.inl k), some (.inl dp), some (.inl (h 34 k))] [] (tadds (tadds h [40]) (TE S (h 35 k)))
        refine E2_s 1 (i' := 27) (ls' := [some (.inr (.inr 28)), some (.inr (.inr 64)), some (.inr (.inr 33)), some (.inl k), some (.inl dp), some (.inl (h 34 k))]) (sk' := [.inr (.inr 64)]) (h' := (tadds (tadds h [40]) (TE S (h 35 k)))) rfl ?_
        refine E2_sta (x := (.getstatic 125, 0, [], [])) (t := 1) rfl rfl (List.Mem.tail _ (List.Mem.head _)) ?_
        show xEx2 RX9 G0 cdX9_spell none (xRn2 G0 MT (d + 12)) Q b 28 [some (.inr (.inr 28)), some (.inr (.inr 64)), some (.inr (.inr 33)), some (.inl k), some (.inl dp), some (.inl (h 34 k))] [.inr (.inr (2000 + 1)), .inr (.inr 64)] (tadds (tadds h [40]) (TE S (h 35 k)))
        refine E2_s 1 (i' := 29) (ls' := [some (.inr (.inr 28)), some (.inr (.inr 64)), some (.inr (.inr 33)), some (.inl k), some (.inl dp), some (.inl (h 34 k))]) (sk' := [.inl (h 34 k), .inr (.inr (2000 + 1)), .inr (.inr 64)]) (h' := (tadds (tadds h [40]) (TE S (h 35 k)))) rfl ?_
        refine E2_cld (x := (.caload, 0, [], [])) (t := 1) rfl rfl rfl (by omega) (by show (h 34 k) < ((4 : Nat) : Int); omega) ?_
        show xEx2 RX9 G0 cdX9_spell none (xRn2 G0 MT (d + 12)) Q b 30 [some (.inr (.inr 28)), some (.inr (.inr 64)), some (.inr (.inr 33)), some (.inl k), some (.inl dp), some (.inl (h 34 k))] [.inl (([60, 61, 32, 38]).getD (h 34 k).toNat 0), .inr (.inr 64)] (tadds (tadds h [40]) (TE S (h 35 k)))
        have ms := mid_t (k := (h 34 k)) (by omega)
        refine E2_ti (y := (sgT (h 34 k))) (by rw [ms.1]) ?_
        skip
        refine E2_cv (x := (.invokevirtual 129, 1, [(8, 94)], [0])) (q := fun h9 => h9 = (tadd (tadds (tadds h [40]) (TE S (h 35 k))) (sgT (h 34 k)))) rfl rfl (Nat.le_of_ble_eq_true rfl) (xRn_2 _ _ _ _ _ _ (c_tadd (d + 11) 0 (tadds (tadds h [40]) (TE S (h 35 k))) (sgT (h 34 k)) ms.2 (by rw [tadds_l, tadds_l]; simp only [List.length_cons, List.length_nil]; omega) ⟨rfl, rfl⟩)) (fun h9 e9 => ?_)
        subst e9
        show xEx2 RX9 G0 cdX9_spell none (xRn2 G0 MT (d + 12)) Q b 31 [some (.inr (.inr 28)), some (.inr (.inr 64)), some (.inr (.inr 33)), some (.inl k), some (.inl dp), some (.inl (h 34 k))] [] (tadd (tadds (tadds h [40]) (TE S (h 35 k))) (sgT (h 34 k)))
        refine E2_s 6 (i' := 37) (ls' := [some (.inr (.inr 28)), some (.inr (.inr 64)), some (.inr (.inr 33)), some (.inl k), some (.inl dp), some (.inl (h 34 k))]) (sk' := [.inl k, .inr (.inr 36), .inr (.inr 64), .inr (.inr 9)]) (h' := (tadd (tadds (tadds h [40]) (TE S (h 35 k))) (sgT (h 34 k)))) rfl ?_
        refine E2_ld (x := (.iaload, 0, [], [])) (ty := .int) (n := 150) rfl rfl rfl (by omega) (by omega) ?_
        show xEx2 RX9 G0 cdX9_spell none (xRn2 G0 MT (d + 12)) Q b 38 [some (.inr (.inr 28)), some (.inr (.inr 64)), some (.inr (.inr 33)), some (.inl k), some (.inl dp), some (.inl (h 34 k))] [.inl ((tadd (tadds (tadds h [40]) (TE S (h 35 k))) (sgT (h 34 k))) 36 k), .inr (.inr 64), .inr (.inr 9)] (tadd (tadds (tadds h [40]) (TE S (h 35 k))) (sgT (h 34 k)))
        have ru2 : (tadd (tadds (tadds h [40]) (TE S (h 35 k))) (sgT (h 34 k))) 36 k = h 36 k := by rw [tadd_o (by decide) (by decide), tadds_o (by decide) (by decide), tadds_o (by decide) (by decide)]
        refine E2_cv (x := (.invokevirtual 121, 2, [(1, 26)], [1])) (q := fun h9 => h9 = (tadds (tadd (tadds (tadds h [40]) (TE S (h 35 k))) (sgT (h 34 k))) (TE S (h 36 k)))) rfl rfl (Nat.le_of_ble_eq_true rfl) (by rw [ru2]; exact c_spK0_ d 0 (tadd (tadds (tadds h [40]) (TE S (h 35 k))) (sgT (h 34 k))) S (h 36 k) n0 wt hF (RC_fr (fun a z1 z2 => by rw [tadd_o (by omega) (by omega), tadds_o (by omega) (by omega), tadds_o (by omega) (by omega)]) (by rw [tadd_o (by decide) (by decide), tadds_o (by decide) (by decide), tadds_o (by decide) (by decide)]) hR) h3 (by omega) (by rw [tadd_l, tadds_l, tadds_l]; simp only [List.length_cons, List.length_nil]; omega) (by rw [tadd_l, tadds_l, tadds_l]; simp only [List.length_cons, List.length_nil]; omega) ⟨rfl, rfl⟩) (fun h9 e9 => ?_)
        subst e9
        show xEx2 RX9 G0 cdX9_spell none (xRn2 G0 MT (d + 12)) Q b 39 [some (.inr (.inr 28)), some (.inr (.inr 64)), some (.inr (.inr 33)), some (.inl k), some (.inl dp), some (.inl (h 34 k))] [] (tadds (tadd (tadds (tadds h [40]) (TE S (h 35 k))) (sgT (h 34 k))) (TE S (h 36 k)))
        refine E2_s 3 (i' := 76) (ls' := [some (.inr (.inr 28)), some (.inr (.inr 64)), some (.inr (.inr 33)), some (.inl k), some (.inl dp), some (.inl (h 34 k))]) (sk' := [.inl 41, .inr (.inr 64)]) (h' := (tadds (tadd (tadds (tadds h [40]) (TE S (h 35 k))) (sgT (h 34 k))) (TE S (h 36 k)))) rfl ?_
        refine E2_cv (x := (.invokevirtual 129, 1, [(8, 94)], [0])) (q := fun h9 => h9 = (tadd (tadds (tadd (tadds (tadds h [40]) (TE S (h 35 k))) (sgT (h 34 k))) (TE S (h 36 k))) 41)) rfl rfl (Nat.le_of_ble_eq_true rfl) (xRn_2 _ _ _ _ _ _ (c_tadd (d + 11) 0 (tadds (tadd (tadds (tadds h [40]) (TE S (h 35 k))) (sgT (h 34 k))) (TE S (h 36 k))) 41 ⟨by omega, by omega⟩ (by rw [tadds_l, tadd_l, tadds_l, tadds_l]; simp only [List.length_cons, List.length_nil]; omega) ⟨rfl, rfl⟩)) (fun h9 e9 => ?_)
        subst e9
        show xEx2 RX9 G0 cdX9_spell none (xRn2 G0 MT (d + 12)) Q b 77 [some (.inr (.inr 28)), some (.inr (.inr 64)), some (.inr (.inr 33)), some (.inl k), some (.inl dp), some (.inl (h 34 k))] [] (tadd (tadds (tadd (tadds (tadds h [40]) (TE S (h 35 k))) (sgT (h 34 k))) (TE S (h 36 k))) 41)
        exact E2_ret (x := (.return_, 0, [], [])) (v := none) rfl (trivial) (by
          have r9 := hQ
          rw [tt_1 (by omega), tadds_a, tadds_a, tadds_a, tadds_a] at r9
          exact r9)
  · rw [c_ne (by first | assumption | (refine ⟨?_, ?_⟩ <;> omega) | (simp only [xr] at *; omega)) (by first | assumption | (refine ⟨?_, ?_⟩ <;> omega) | (simp only [xr] at *; omega))] at c8
    simp only [decide_eq_true_eq, decide_eq_false_iff_not, Decidable.not_not] at c8
    show xEx2 RX9 G0 cdX9_spell none (xRn2 G0 MT (d + 12)) Q b 9 [some (.inr (.inr 28)), some (.inr (.inr 64)), some (.inr (.inr 33)), some (.inl k), some (.inl dp), some (.inl (h 34 k))] [.inr (.inr 64)] h
    have q := hl.2
    rw [tt_2 (by omega)] at q
    simp only [List.length_append, List.length_cons, List.length_nil] at q
    refine E2_str (x := (.ldc 111, 0, [(1, 0)], [])) 6 rfl (Or.inl rfl) rfl ?_
    show xEx2 RX9 G0 cdX9_spell none (xRn2 G0 MT (d + 12)) Q b 10 [some (.inr (.inr 28)), some (.inr (.inr 64)), some (.inr (.inr 33)), some (.inl k), some (.inl dp), some (.inl (h 34 k))] [.inr (.inr (1000 + 6)), .inr (.inr 64)] h
    refine E2_s 1 (i' := 12) (ls' := [some (.inr (.inr 28)), some (.inr (.inr 64)), some (.inr (.inr 33)), some (.inl k), some (.inl dp), some (.inl (h 34 k))]) (sk' := [.inr (.inr (1000 + 6)), .inr (.inr 64)]) (h' := h) rfl ?_
    refine E2_cv (x := (.invokevirtual 115, 1, [(8, 95)], [0])) (q := fun h9 => h9 = (tadds h [33, 40])) rfl rfl (Nat.le_of_ble_eq_true rfl) (c_tall (d + 10) 0 h 6 (RX9, 111, [33, 40]) rfl (by decide) ⟨by omega, by show h 64 1 + (([33, 40] : List Int).length : Nat) ≤ 1024; simp only [List.length_cons, List.length_nil]; omega⟩ ⟨rfl, rfl⟩) (fun h9 e9 => ?_)
    subst e9
    show xEx2 RX9 G0 cdX9_spell none (xRn2 G0 MT (d + 12)) Q b 13 [some (.inr (.inr 28)), some (.inr (.inr 64)), some (.inr (.inr 33)), some (.inl k), some (.inl dp), some (.inl (h 34 k))] [] (tadds h [33, 40])
    refine E2_s 1 (i' := 14) (ls' := [some (.inr (.inr 28)), some (.inr (.inr 64)), some (.inr (.inr 33)), some (.inl k), some (.inl dp), some (.inl (h 34 k))]) (sk' := [.inl (h 34 k)]) (h' := (tadds h [33, 40])) rfl ?_
    refine E2_b (x := (.ifCond .eq 9, 18, [], [])) rfl rfl (fun c14 => ?_) (fun c14 => ?_)
    · rw [c_eq (by first | assumption | (refine ⟨?_, ?_⟩ <;> omega) | (simp only [xr] at *; omega)) (by first | assumption | (refine ⟨?_, ?_⟩ <;> omega) | (simp only [xr] at *; omega))] at c14
      simp only [decide_eq_true_eq, decide_eq_false_iff_not, Decidable.not_not] at c14
      show xEx2 RX9 G0 cdX9_spell none (xRn2 G0 MT (d + 12)) Q b 18 [some (.inr (.inr 28)), some (.inr (.inr 64)), some (.inr (.inr 33)), some (.inl k), some (.inl dp), some (.inl (h 34 k))] [] (tadds h [33, 40])
      have q := hl.2
      rw [tt_1 (by omega)] at q
      simp only [List.length_append, List.length_cons, List.length_nil] at q
      refine E2_s 6 (i' := 24) (ls' := [some (.inr (.inr 28)), some (.inr (.inr 64)), some (.inr (.inr 33)), some (.inl k), some (.inl dp), some (.inl (h 34 k))]) (sk' := [.inl k, .inr (.inr 35), .inr (.inr 64), .inr (.inr 9)]) (h' := (tadds h [33, 40])) rfl ?_
      refine E2_ld (x := (.iaload, 0, [], [])) (ty := .int) (n := 150) rfl rfl rfl (by omega) (by omega) ?_
      show xEx2 RX9 G0 cdX9_spell none (xRn2 G0 MT (d + 12)) Q b 25 [some (.inr (.inr 28)), some (.inr (.inr 64)), some (.inr (.inr 33)), some (.inl k), some (.inl dp), some (.inl (h 34 k))] [.inl ((tadds h [33, 40]) 35 k), .inr (.inr 64), .inr (.inr 9)] (tadds h [33, 40])
      exfalso; omega
    · rw [c_eq (by first | assumption | (refine ⟨?_, ?_⟩ <;> omega) | (simp only [xr] at *; omega)) (by first | assumption | (refine ⟨?_, ?_⟩ <;> omega) | (simp only [xr] at *; omega))] at c14
      simp only [decide_eq_true_eq, decide_eq_false_iff_not, Decidable.not_not] at c14
      show xEx2 RX9 G0 cdX9_spell none (xRn2 G0 MT (d + 12)) Q b 15 [some (.inr (.inr 28)), some (.inr (.inr 64)), some (.inr (.inr 33)), some (.inl k), some (.inl dp), some (.inl (h 34 k))] [] (tadds h [33, 40])
      refine E2_s 2 (i' := 17) (ls' := [some (.inr (.inr 28)), some (.inr (.inr 64)), some (.inr (.inr 33)), some (.inl k), some (.inl dp), some (.inl (h 34 k))]) (sk' := [.inl 1, .inl (h 34 k)]) (h' := (tadds h [33, 40])) rfl ?_
      refine E2_b (x := (.if_icmp .ne 44, 40, [], [])) rfl rfl (fun c17 => ?_) (fun c17 => ?_)
      · rw [c_ne (by first | assumption | (refine ⟨?_, ?_⟩ <;> omega) | (simp only [xr] at *; omega)) (by first | assumption | (refine ⟨?_, ?_⟩ <;> omega) | (simp only [xr] at *; omega))] at c17
        simp only [decide_eq_true_eq, decide_eq_false_iff_not, Decidable.not_not] at c17
        show xEx2 RX9 G0 cdX9_spell none (xRn2 G0 MT (d + 12)) Q b 40 [some (.inr (.inr 28)), some (.inr (.inr 64)), some (.inr (.inr 33)), some (.inl k), some (.inl dp), some (.inl (h 34 k))] [] (tadds h [33, 40])
        refine E2_s 1 (i' := 41) (ls' := [some (.inr (.inr 28)), some (.inr (.inr 64)), some (.inr (.inr 33)), some (.inl k), some (.inl dp), some (.inl (h 34 k))]) (sk' := [.inl dp]) (h' := (tadds h [33, 40])) rfl ?_
        refine E2_b (x := (.ifCond .le 57, 74, [], [])) rfl rfl (fun c41 => ?_) (fun c41 => ?_)
        · rw [c_le (by first | assumption | (refine ⟨?_, ?_⟩ <;> omega) | (simp only [xr] at *; omega)) (by first | assumption | (refine ⟨?_, ?_⟩ <;> omega) | (simp only [xr] at *; omega))] at c41
          simp only [decide_eq_true_eq, decide_eq_false_iff_not, Decidable.not_not] at c41
          show xEx2 RX9 G0 cdX9_spell none (xRn2 G0 MT (d + 12)) Q b 74 [some (.inr (.inr 28)), some (.inr (.inr 64)), some (.inr (.inr 33)), some (.inl k), some (.inl dp), some (.inl (h 34 k))] [] (tadds h [33, 40])
          refine E2_s 2 (i' := 76) (ls' := [some (.inr (.inr 28)), some (.inr (.inr 64)), some (.inr (.inr 33)), some (.inl k), some (.inl dp), some (.inl (h 34 k))]) (sk' := [.inl 41, .inr (.inr 64)]) (h' := (tadds h [33, 40])) rfl ?_
          exfalso; omega
        · rw [c_le (by first | assumption | (refine ⟨?_, ?_⟩ <;> omega) | (simp only [xr] at *; omega)) (by first | assumption | (refine ⟨?_, ?_⟩ <;> omega) | (simp only [xr] at *; omega))] at c41
          simp only [decide_eq_true_eq, decide_eq_false_iff_not, Decidable.not_not] at c41
          show xEx2 RX9 G0 cdX9_spell none (xRn2 G0 MT (d + 12)) Q b 42 [some (.inr (.inr 28)), some (.inr (.inr 64)), some (.inr (.inr 33)), some (.inl k), some (.inl dp), some (.inl (h 34 k))] [] (tadds h [33, 40])
          have q := hl.2
          rw [tt_2 (by omega)] at q
          simp only [List.length_append, List.length_cons, List.length_nil] at q
          refine E2_s 7 (i' := 49) (ls' := [some (.inr (.inr 28)), some (.inr (.inr 64)), some (.inr (.inr 33)), some (.inl k), some (.inl dp), some (.inl (h 34 k))]) (sk' := [.inl k, .inr (.inr 35), .inr (.inr 29), .inr (.inr 64), .inr (.inr 28)]) (h' := (tadds h [33, 40])) rfl ?_
          refine E2_ld (x := (.iaload, 0, [], [])) (ty := .int) (n := 150) rfl rfl rfl (by omega) (by omega) ?_
          show xEx2 RX9 G0 cdX9_spell none (xRn2 G0 MT (d + 12)) Q b 50 [some (.inr (.inr 28)), some (.inr (.inr 64)), some (.inr (.inr 33)), some (.inl k), some (.inl dp), some (.inl (h 34 k))] [.inl ((tadds h [33, 40]) 35 k), .inr (.inr 29), .inr (.inr 64), .inr (.inr 28)] (tadds h [33, 40])
          refine E2_s 3 (i' := 53) (ls' := [some (.inr (.inr 28)), some (.inr (.inr 64)), some (.inr (.inr 33)), some (.inl k), some (.inl dp), some (.inl (h 34 k))]) (sk' := [.inl (dp - 1), .inl ((tadds h [33, 40]) 35 k), .inr (.inr 29), .inr (.inr 64), .inr (.inr 28)]) (h' := (tadds h [33, 40])) rfl ?_
          have ru1 : (tadds h [33, 40]) 35 k = h 35 k := by rw [tadds_o (by decide) (by decide)]
          refine E2_cv (x := (.invokevirtual 133, 4, [(7, 92)], [0])) (q := fun h9 => h9 = (tadds (tadds h [33, 40]) (g (h 35 k)))) rfl rfl (Nat.le_of_ble_eq_true rfl) (by rw [ru1]; exact hrec (tadds h [33, 40]) (h 35 k) (by omega) (fun a z1 z2 => by rw [tadds_o z1 z2]) (by rw [tadds_l]; simp only [List.length_cons, List.length_nil]; omega) (by rw [tadds_l]; simp only [List.length_cons, List.length_nil]; omega) ⟨rfl, rfl⟩) (fun h9 e9 => ?_)
          subst e9
          show xEx2 RX9 G0 cdX9_spell none (xRn2 G0 MT (d + 12)) Q b 54 [some (.inr (.inr 28)), some (.inr (.inr 64)), some (.inr (.inr 33)), some (.inl k), some (.inl dp), some (.inl (h 34 k))] [] (tadds (tadds h [33, 40]) (g (h 35 k)))
          refine E2_s 2 (i' := 56) (ls' := [some (.inr (.inr 28)), some (.inr (.inr 64)), some (.inr (.inr 33)), some (.inl k), some (.inl dp), some (.inl (h 34 k))]) (sk' := [.inl 3, .inl (h 34 k)]) (h' := (tadds (tadds h [33, 40]) (g (h 35 k)))) rfl ?_
          refine E2_b (x := (.if_icmp .ne 32, 74, [], [])) rfl rfl (fun c56 => ?_) (fun c56 => ?_)
          · rw [c_ne (by first | assumption | (refine ⟨?_, ?_⟩ <;> omega) | (simp only [xr] at *; omega)) (by first | assumption | (refine ⟨?_, ?_⟩ <;> omega) | (simp only [xr] at *; omega))] at c56
            simp only [decide_eq_true_eq, decide_eq_false_iff_not, Decidable.not_not] at c56
            show xEx2 RX9 G0 cdX9_spell none (xRn2 G0 MT (d + 12)) Q b 74 [some (.inr (.inr 28)), some (.inr (.inr 64)), some (.inr (.inr 33)), some (.inl k), some (.inl dp), some (.inl (h 34 k))] [] (tadds (tadds h [33, 40]) (g (h 35 k)))
            refine E2_s 2 (i' := 76) (ls' := [some (.inr (.inr 28)), some (.inr (.inr 64)), some (.inr (.inr 33)), some (.inl k), some (.inl dp), some (.inl (h 34 k))]) (sk' := [.inl 41, .inr (.inr 64)]) (h' := (tadds (tadds h [33, 40]) (g (h 35 k)))) rfl ?_
            refine E2_cv (x := (.invokevirtual 129, 1, [(8, 94)], [0])) (q := fun h9 => h9 = (tadd (tadds (tadds h [33, 40]) (g (h 35 k))) 41)) rfl rfl (Nat.le_of_ble_eq_true rfl) (xRn_2 _ _ _ _ _ _ (c_tadd (d + 11) 0 (tadds (tadds h [33, 40]) (g (h 35 k))) 41 ⟨by omega, by omega⟩ (by rw [tadds_l, tadds_l]; simp only [List.length_cons, List.length_nil]; omega) ⟨rfl, rfl⟩)) (fun h9 e9 => ?_)
            subst e9
            show xEx2 RX9 G0 cdX9_spell none (xRn2 G0 MT (d + 12)) Q b 77 [some (.inr (.inr 28)), some (.inr (.inr 64)), some (.inr (.inr 33)), some (.inl k), some (.inl dp), some (.inl (h 34 k))] [] (tadd (tadds (tadds h [33, 40]) (g (h 35 k))) 41)
            exact E2_ret (x := (.return_, 0, [], [])) (v := none) rfl (trivial) (by
              have r9 := hQ
              rw [tt_2 (by omega), tadds_a, tadds_a] at r9
              exact r9)
          · rw [c_ne (by first | assumption | (refine ⟨?_, ?_⟩ <;> omega) | (simp only [xr] at *; omega)) (by first | assumption | (refine ⟨?_, ?_⟩ <;> omega) | (simp only [xr] at *; omega))] at c56
            simp only [decide_eq_true_eq, decide_eq_false_iff_not, Decidable.not_not] at c56
            show xEx2 RX9 G0 cdX9_spell none (xRn2 G0 MT (d + 12)) Q b 57 [some (.inr (.inr 28)), some (.inr (.inr 64)), some (.inr (.inr 33)), some (.inl k), some (.inl dp), some (.inl (h 34 k))] [] (tadds (tadds h [33, 40]) (g (h 35 k)))
            refine E2_s 1 (i' := 58) (ls' := [some (.inr (.inr 28)), some (.inr (.inr 64)), some (.inr (.inr 33)), some (.inl k), some (.inl dp), some (.inl (h 34 k))]) (sk' := [.inr (.inr 64)]) (h' := (tadds (tadds h [33, 40]) (g (h 35 k)))) rfl ?_
            refine E2_sta (x := (.getstatic 125, 0, [], [])) (t := 1) rfl rfl (List.Mem.tail _ (List.Mem.head _)) ?_
            show xEx2 RX9 G0 cdX9_spell none (xRn2 G0 MT (d + 12)) Q b 59 [some (.inr (.inr 28)), some (.inr (.inr 64)), some (.inr (.inr 33)), some (.inl k), some (.inl dp), some (.inl (h 34 k))] [.inr (.inr (2000 + 1)), .inr (.inr 64)] (tadds (tadds h [33, 40]) (g (h 35 k)))
            refine E2_s 1 (i' := 60) (ls' := [some (.inr (.inr 28)), some (.inr (.inr 64)), some (.inr (.inr 33)), some (.inl k), some (.inl dp), some (.inl (h 34 k))]) (sk' := [.inl (h 34 k), .inr (.inr (2000 + 1)), .inr (.inr 64)]) (h' := (tadds (tadds h [33, 40]) (g (h 35 k)))) rfl ?_
            refine E2_cld (x := (.caload, 0, [], [])) (t := 1) rfl rfl rfl (by omega) (by show (h 34 k) < ((4 : Nat) : Int); omega) ?_
            show xEx2 RX9 G0 cdX9_spell none (xRn2 G0 MT (d + 12)) Q b 61 [some (.inr (.inr 28)), some (.inr (.inr 64)), some (.inr (.inr 33)), some (.inl k), some (.inl dp), some (.inl (h 34 k))] [.inl (([60, 61, 32, 38]).getD (h 34 k).toNat 0), .inr (.inr 64)] (tadds (tadds h [33, 40]) (g (h 35 k)))
            have ms := mid_t (k := (h 34 k)) (by omega)
            refine E2_ti (y := (sgT (h 34 k))) (by rw [ms.1]) ?_
            skip
            refine E2_cv (x := (.invokevirtual 129, 1, [(8, 94)], [0])) (q := fun h9 => h9 = (tadd (tadds (tadds h [33, 40]) (g (h 35 k))) (sgT (h 34 k)))) rfl rfl (Nat.le_of_ble_eq_true rfl) (xRn_2 _ _ _ _ _ _ (c_tadd (d + 11) 0 (tadds (tadds h [33, 40]) (g (h 35 k))) (sgT (h 34 k)) ms.2 (by rw [tadds_l, tadds_l]; simp only [List.length_cons, List.length_nil]; omega) ⟨rfl, rfl⟩)) (fun h9 e9 => ?_)
            subst e9
            show xEx2 RX9 G0 cdX9_spell none (xRn2 G0 MT (d + 12)) Q b 62 [some (.inr (.inr 28)), some (.inr (.inr 64)), some (.inr (.inr 33)), some (.inl k), some (.inl dp), some (.inl (h 34 k))] [] (tadd (tadds (tadds h [33, 40]) (g (h 35 k))) (sgT (h 34 k)))
            refine E2_s 7 (i' := 69) (ls' := [some (.inr (.inr 28)), some (.inr (.inr 64)), some (.inr (.inr 33)), some (.inl k), some (.inl dp), some (.inl (h 34 k))]) (sk' := [.inl k, .inr (.inr 36), .inr (.inr 29), .inr (.inr 64), .inr (.inr 28)]) (h' := (tadd (tadds (tadds h [33, 40]) (g (h 35 k))) (sgT (h 34 k)))) rfl ?_
            refine E2_ld (x := (.iaload, 0, [], [])) (ty := .int) (n := 150) rfl rfl rfl (by omega) (by omega) ?_
            show xEx2 RX9 G0 cdX9_spell none (xRn2 G0 MT (d + 12)) Q b 70 [some (.inr (.inr 28)), some (.inr (.inr 64)), some (.inr (.inr 33)), some (.inl k), some (.inl dp), some (.inl (h 34 k))] [.inl ((tadd (tadds (tadds h [33, 40]) (g (h 35 k))) (sgT (h 34 k))) 36 k), .inr (.inr 29), .inr (.inr 64), .inr (.inr 28)] (tadd (tadds (tadds h [33, 40]) (g (h 35 k))) (sgT (h 34 k)))
            refine E2_s 3 (i' := 73) (ls' := [some (.inr (.inr 28)), some (.inr (.inr 64)), some (.inr (.inr 33)), some (.inl k), some (.inl dp), some (.inl (h 34 k))]) (sk' := [.inl (dp - 1), .inl ((tadd (tadds (tadds h [33, 40]) (g (h 35 k))) (sgT (h 34 k))) 36 k), .inr (.inr 29), .inr (.inr 64), .inr (.inr 28)]) (h' := (tadd (tadds (tadds h [33, 40]) (g (h 35 k))) (sgT (h 34 k)))) rfl ?_
            have ru2 : (tadd (tadds (tadds h [33, 40]) (g (h 35 k))) (sgT (h 34 k))) 36 k = h 36 k := by rw [tadd_o (by decide) (by decide), tadds_o (by decide) (by decide), tadds_o (by decide) (by decide)]
            refine E2_cv (x := (.invokevirtual 133, 4, [(7, 92)], [0])) (q := fun h9 => h9 = (tadds (tadd (tadds (tadds h [33, 40]) (g (h 35 k))) (sgT (h 34 k))) (g (h 36 k)))) rfl rfl (Nat.le_of_ble_eq_true rfl) (by rw [ru2]; exact hrec (tadd (tadds (tadds h [33, 40]) (g (h 35 k))) (sgT (h 34 k))) (h 36 k) (by omega) (fun a z1 z2 => by rw [tadd_o z1 z2, tadds_o z1 z2, tadds_o z1 z2]) (by rw [tadd_l, tadds_l, tadds_l]; simp only [List.length_cons, List.length_nil]; omega) (by rw [tadd_l, tadds_l, tadds_l]; simp only [List.length_cons, List.length_nil]; omega) ⟨rfl, rfl⟩) (fun h9 e9 => ?_)
            subst e9
            show xEx2 RX9 G0 cdX9_spell none (xRn2 G0 MT (d + 12)) Q b 74 [some (.inr (.inr 28)), some (.inr (.inr 64)), some (.inr (.inr 33)), some (.inl k), some (.inl dp), some (.inl (h 34 k))] [] (tadds (tadd (tadds (tadds h [33, 40]) (g (h 35 k))) (sgT (h 34 k))) (g (h 36 k)))
            refine E2_s 2 (i' := 76) (ls' := [some (.inr (.inr 28)), some (.inr (.inr 64)), some (.inr (.inr 33)), some (.inl k), some (.inl dp), some (.inl (h 34 k))]) (sk' := [.inl 41, .inr (.inr 64)]) (h' := (tadds (tadd (tadds (tadds h [33, 40]) (g (h 35 k))) (sgT (h 34 k))) (g (h 36 k)))) rfl ?_
            exfalso; omega
      · rw [c_ne (by first | assumption | (refine ⟨?_, ?_⟩ <;> omega) | (simp only [xr] at *; omega)) (by first | assumption | (refine ⟨?_, ?_⟩ <;> omega) | (simp only [xr] at *; omega))] at c17
        simp only [decide_eq_true_eq, decide_eq_false_iff_not, Decidable.not_not] at c17
        show xEx2 RX9 G0 cdX9_spell none (xRn2 G0 MT (d + 12)) Q b 18 [some (.inr (.inr 28)), some (.inr (.inr 64)), some (.inr (.inr 33)), some (.inl k), some (.inl dp), some (.inl (h 34 k))] [] (tadds h [33, 40])
        have q := hl.2
        rw [tt_1 (by omega)] at q
        simp only [List.length_append, List.length_cons, List.length_nil] at q
        refine E2_s 6 (i' := 24) (ls' := [some (.inr (.inr 28)), some (.inr (.inr 64)), some (.inr (.inr 33)), some (.inl k), some (.inl dp), some (.inl (h 34 k))]) (sk' := [.inl k, .inr (.inr 35), .inr (.inr 64), .inr (.inr 9)]) (h' := (tadds h [33, 40])) rfl ?_
        refine E2_ld (x := (.iaload, 0, [], [])) (ty := .int) (n := 150) rfl rfl rfl (by omega) (by omega) ?_
        show xEx2 RX9 G0 cdX9_spell none (xRn2 G0 MT (d + 12)) Q b 25 [some (.inr (.inr 28)), some (.inr (.inr 64)), some (.inr (.inr 33)), some (.inl k), some (.inl dp), some (.inl (h 34 k))] [.inl ((tadds h [33, 40]) 35 k), .inr (.inr 64), .inr (.inr 9)] (tadds h [33, 40])
        exfalso; omega
