set_option maxHeartbeats 1000000 in
theorem c_sp1_gef (d b : Nat) (h : xH) (k dp : Int) (f : Int → List Int) (hk : 0 ≤ k ∧ k < 300) (hd : 1 ≤ dp ∧ dp ≤ 9) (c0 : 0 ≤ (h 11 k) ∧ (h 11 k) ≤ 11) (c10 : (h 11 k) = 10 → 0 ≤ (h 12 k) ∧ (h 12 k) ≤ 2) (c11 : (h 11 k) = 11 → -99 ≤ (h 12 k) ∧ (h 12 k) ≤ 99) (hl : 0 ≤ h 64 1 ∧ h 64 1 + ((tx1 (h 11 k) (h 12 k) (h 13 k) f).length : Nat) + 3 ≤ 1024) (hrec : ∀ (hh : xH) (j : Int), ((h 11 k) ≤ 9 ∧ (j = (h 12 k) ∨ (j = (h 13 k) ∧ ¬ ((h 11 k) = 5 ∨ (h 11 k) = 8 ∨ (h 11 k) = 9)))) → (∀ a, a ≠ 64 → a ≠ 65 → hh a = h a) → hh 64 1 + ((f j).length : Nat) + 3 ≤ 1024 → 0 ≤ hh 64 1 → ∀ {Q9 : xO → xH → Prop}, Q9 (.inl none) (tadds hh (f j)) → xRn2 G0 MT (d + 2) 0 21 [.inr (.inr 9), .inr (.inr 64), .inr (.inr 10), .inl j, .inl (dp - 1)] hh Q9) {Q : xO → xH → Prop} (hQ : Q (.inl none) (tadds h (tx1 (h 11 k) (h 12 k) (h 13 k) f))) : xRn2 G0 MT (d + 3) b 21 [.inr (.inr 9), .inr (.inr 64), .inr (.inr 10), .inl k, .inl dp] h Q := by
  refine R2_of (M := mX1_spell) rfl (Nat.le_of_ble_eq_true rfl) ?_
  show xEx2 RX1 G0 cdX1_spell none (xRn2 G0 MT (d + 2)) Q b 0 [some (.inr (.inr 9)), some (.inr (.inr 64)), some (.inr (.inr 10)), some (.inl k), some (.inl dp), none] [] h
  refine E2_s 3 (i' := 3) (ls' := [some (.inr (.inr 9)), some (.inr (.inr 64)), some (.inr (.inr 10)), some (.inl k), some (.inl dp), none]) (sk' := [.inl k, .inr (.inr 11)]) (h' := h) rfl ?_
  refine E2_ld (x := (.iaload, 0, [], [])) (ty := .int) (n := 300) rfl rfl rfl (by omega) (by omega) ?_
  show xEx2 RX1 G0 cdX1_spell none (xRn2 G0 MT (d + 2)) Q b 4 [some (.inr (.inr 9)), some (.inr (.inr 64)), some (.inr (.inr 10)), some (.inl k), some (.inl dp), none] [.inl (h 11 k)] h
  refine E2_s 3 (i' := 7) (ls' := [some (.inr (.inr 9)), some (.inr (.inr 64)), some (.inr (.inr 10)), some (.inl k), some (.inl dp), some (.inl (h 11 k))]) (sk' := [.inl 10, .inl (h 11 k)]) (h' := h) rfl ?_
  refine E2_b (x := (.if_icmp .ne 18, 18, [], [])) rfl rfl (fun c7 => ?_) (fun c7 => ?_)
  · rw [c_ne (by first | assumption | (refine ⟨?_, ?_⟩ <;> omega) | (simp only [xr] at *; omega)) (by first | assumption | (refine ⟨?_, ?_⟩ <;> omega) | (simp only [xr] at *; omega))] at c7
    simp only [decide_eq_true_eq, decide_eq_false_iff_not, Decidable.not_not] at c7
    show xEx2 RX1 G0 cdX1_spell none (xRn2 G0 MT (d + 2)) Q b 18 [some (.inr (.inr 9)), some (.inr (.inr 64)), some (.inr (.inr 10)), some (.inl k), some (.inl dp), some (.inl (h 11 k))] [] h
    refine E2_s 2 (i' := 20) (ls' := [some (.inr (.inr 9)), some (.inr (.inr 64)), some (.inr (.inr 10)), some (.inl k), some (.inl dp), some (.inl (h 11 k))]) (sk' := [.inl 11, .inl (h 11 k)]) (h' := h) rfl ?_
    refine E2_b (x := (.if_icmp .eq 8, 23, [], [])) rfl rfl (fun c20 => ?_) (fun c20 => ?_)
    · rw [c_eq (by first | assumption | (refine ⟨?_, ?_⟩ <;> omega) | (simp only [xr] at *; omega)) (by first | assumption | (refine ⟨?_, ?_⟩ <;> omega) | (simp only [xr] at *; omega))] at c20
      simp only [decide_eq_true_eq, decide_eq_false_iff_not, Decidable.not_not] at c20
      show xEx2 RX1 G0 cdX1_spell none (xRn2 G0 MT (d + 2)) Q b 23 [some (.inr (.inr 9)), some (.inr (.inr 64)), some (.inr (.inr 10)), some (.inl k), some (.inl dp), some (.inl (h 11 k))] [] h
      refine E2_s 4 (i' := 27) (ls' := [some (.inr (.inr 9)), some (.inr (.inr 64)), some (.inr (.inr 10)), some (.inl k), some (.inl dp), some (.inl (h 11 k))]) (sk' := [.inl k, .inr (.inr 12), .inr (.inr 64)]) (h' := h) rfl ?_
      refine E2_ld (x := (.iaload, 0, [], [])) (ty := .int) (n := 300) rfl rfl rfl (by omega) (by omega) ?_
      show xEx2 RX1 G0 cdX1_spell none (xRn2 G0 MT (d + 2)) Q b 28 [some (.inr (.inr 9)), some (.inr (.inr 64)), some (.inr (.inr 10)), some (.inl k), some (.inl dp), some (.inl (h 11 k))] [.inl (h 12 k), .inr (.inr 64)] h
      refine E2_cv (x := (.invokevirtual 162, 1, [(8, 96)], [0])) (q := fun h9 => h9 = (tadds h (dgt (h 12 k)))) rfl rfl (Nat.le_of_ble_eq_true rfl) (xRn_2 _ _ _ _ _ _ (c_tnum d 0 h (h 12 k) ⟨by omega, by omega⟩ ⟨by omega, by omega⟩ ⟨rfl, rfl⟩)) (fun h9 e9 => ?_)
      subst e9
      show xEx2 RX1 G0 cdX1_spell none (xRn2 G0 MT (d + 2)) Q b 29 [some (.inr (.inr 9)), some (.inr (.inr 64)), some (.inr (.inr 10)), some (.inl k), some (.inl dp), some (.inl (h 11 k))] [] (tadds h (dgt (h 12 k)))
      exact E2_ret (x := (.return_, 0, [], [])) (v := none) rfl (trivial) (by
        have r9 := hQ
        unfold tx1 at r9
        first
        | (exfalso; omega)
        | (rw [if_neg (by omega), if_pos (by omega)] at r9; exact r9))
    · rw [c_eq (by first | assumption | (refine ⟨?_, ?_⟩ <;> omega) | (simp only [xr] at *; omega)) (by first | assumption | (refine ⟨?_, ?_⟩ <;> omega) | (simp only [xr] at *; omega))] at c20
      simp only [decide_eq_true_eq, decide_eq_false_iff_not, Decidable.not_not] at c20
      show xEx2 RX1 G0 cdX1_spell none (xRn2 G0 MT (d + 2)) Q b 21 [some (.inr (.inr 9)), some (.inr (.inr 64)), some (.inr (.inr 10)), some (.inl k), some (.inl dp), some (.inl (h 11 k))] [] h
      refine E2_s 1 (i' := 22) (ls' := [some (.inr (.inr 9)), some (.inr (.inr 64)), some (.inr (.inr 10)), some (.inl k), some (.inl dp), some (.inl (h 11 k))]) (sk' := [.inl dp]) (h' := h) rfl ?_
      refine E2_b (x := (.ifCond .ne 14, 30, [], [])) rfl rfl (fun c22 => ?_) (fun c22 => ?_)
      · rw [c_ne (by first | assumption | (refine ⟨?_, ?_⟩ <;> omega) | (simp only [xr] at *; omega)) (by first | assumption | (refine ⟨?_, ?_⟩ <;> omega) | (simp only [xr] at *; omega))] at c22
        simp only [decide_eq_true_eq, decide_eq_false_iff_not, Decidable.not_not] at c22
        show xEx2 RX1 G0 cdX1_spell none (xRn2 G0 MT (d + 2)) Q b 30 [some (.inr (.inr 9)), some (.inr (.inr 64)), some (.inr (.inr 10)), some (.inl k), some (.inl dp), some (.inl (h 11 k))] [] h
        have k9 : 0 ≤ (h 11 k) ∧ (h 11 k) ≤ 9 := by omega
        have hL1 : h 64 1 + ((opB (h 11 k)).length : Nat) + ((f (h 12 k)).length : Nat) + 1 + 3 ≤ 1024 := by
          by_cases y : (h 11 k) = 5 ∨ (h 11 k) = 8 ∨ (h 11 k) = 9
          · have q := hl.2
            rw [tx1_u y] at q
            simp only [List.length_append, List.length_cons, List.length_nil] at q
            omega
          · have q := hl.2
            rw [tx1_b y k9] at q
            simp only [List.length_append, List.length_cons, List.length_nil] at q
            omega
        refine E2_s 2 (i' := 32) (ls' := [some (.inr (.inr 9)), some (.inr (.inr 64)), some (.inr (.inr 10)), some (.inl k), some (.inl dp), some (.inl (h 11 k))]) (sk' := [.inl (h 11 k), .inr (.inr 64)]) (h' := h) rfl ?_
        refine E2_cr (x := (.invokestatic 166, 1, [(0, 41)], [])) (v := .inr (.inr (1000 + opn (h 11 k)))) rfl rfl (Nat.le_of_ble_eq_true rfl) (c_open (d + 1) 0 h (h 11 k) ⟨by omega, by omega⟩ ⟨rfl, rfl⟩) ?_
        show xEx2 RX1 G0 cdX1_spell none (xRn2 G0 MT (d + 2)) Q b 33 [some (.inr (.inr 9)), some (.inr (.inr 64)), some (.inr (.inr 10)), some (.inl k), some (.inl dp), some (.inl (h 11 k))] [.inr (.inr (1000 + opn (h 11 k))), .inr (.inr 64)] h
        refine E2_cv (x := (.invokevirtual 170, 1, [(8, 95)], [0])) (q := fun h9 => h9 = (tadds h (opB (h 11 k)))) rfl rfl (Nat.le_of_ble_eq_true rfl) (c_tall d 0 h (opn (h 11 k)) (RX4, opK (h 11 k), opB (h 11 k)) (opn_s _) (opn_b _) ⟨by omega, by show h 64 1 + ((opB (h 11 k)).length : Nat) ≤ 1024; omega⟩ ⟨rfl, rfl⟩) (fun h9 e9 => ?_)
        subst e9
        show xEx2 RX1 G0 cdX1_spell none (xRn2 G0 MT (d + 2)) Q b 34 [some (.inr (.inr 9)), some (.inr (.inr 64)), some (.inr (.inr 10)), some (.inl k), some (.inl dp), some (.inl (h 11 k))] [] (tadds h (opB (h 11 k)))
        refine E2_s 7 (i' := 41) (ls' := [some (.inr (.inr 9)), some (.inr (.inr 64)), some (.inr (.inr 10)), some (.inl k), some (.inl dp), some (.inl (h 11 k))]) (sk' := [.inl k, .inr (.inr 12), .inr (.inr 10), .inr (.inr 64), .inr (.inr 9)]) (h' := (tadds h (opB (h 11 k)))) rfl ?_
        refine E2_ld (x := (.iaload, 0, [], [])) (ty := .int) (n := 300) rfl rfl rfl (by omega) (by omega) ?_
        show xEx2 RX1 G0 cdX1_spell none (xRn2 G0 MT (d + 2)) Q b 42 [some (.inr (.inr 9)), some (.inr (.inr 64)), some (.inr (.inr 10)), some (.inl k), some (.inl dp), some (.inl (h 11 k))] [.inl ((tadds h (opB (h 11 k))) 12 k), .inr (.inr 10), .inr (.inr 64), .inr (.inr 9)] (tadds h (opB (h 11 k)))
        refine E2_s 3 (i' := 45) (ls' := [some (.inr (.inr 9)), some (.inr (.inr 64)), some (.inr (.inr 10)), some (.inl k), some (.inl dp), some (.inl (h 11 k))]) (sk' := [.inl (dp - 1), .inl ((tadds h (opB (h 11 k))) 12 k), .inr (.inr 10), .inr (.inr 64), .inr (.inr 9)]) (h' := (tadds h (opB (h 11 k)))) rfl ?_
        have ru1 : (tadds h (opB (h 11 k))) 12 k = h 12 k := by rw [tadds_o (by decide) (by decide)]
        refine E2_cv (x := (.invokevirtual 174, 4, [(1, 21)], [0])) (q := fun h9 => h9 = (tadds (tadds h (opB (h 11 k))) (f (h 12 k)))) rfl rfl (Nat.le_of_ble_eq_true rfl) (by rw [ru1]; exact hrec (tadds h (opB (h 11 k))) (h 12 k) (by omega) (fun a z1 z2 => by rw [tadds_o z1 z2]) (by rw [tadds_l]; omega) (by rw [tadds_l]; omega) ⟨rfl, rfl⟩) (fun h9 e9 => ?_)
        subst e9
        show xEx2 RX1 G0 cdX1_spell none (xRn2 G0 MT (d + 2)) Q b 46 [some (.inr (.inr 9)), some (.inr (.inr 64)), some (.inr (.inr 10)), some (.inl k), some (.inl dp), some (.inl (h 11 k))] [] (tadds (tadds h (opB (h 11 k))) (f (h 12 k)))
        refine E2_s 1 (i' := 47) (ls' := [some (.inr (.inr 9)), some (.inr (.inr 64)), some (.inr (.inr 10)), some (.inl k), some (.inl dp), some (.inl (h 11 k))]) (sk' := [.inl (h 11 k)]) (h' := (tadds (tadds h (opB (h 11 k))) (f (h 12 k)))) rfl ?_
        refine E2_cp (x := (.invokestatic 51, 1, [(0, 38)], [])) (q := fun r h9 => ((r = 1 ∧ ((h 11 k) = 5 ∨ (h 11 k) = 8 ∨ (h 11 k) = 9)) ∨ (r = 0 ∧ ¬ ((h 11 k) = 5 ∨ (h 11 k) = 8 ∨ (h 11 k) = 9))) ∧ (tadds (tadds h (opB (h 11 k))) (f (h 12 k))) = h9) rfl rfl (Nat.le_of_ble_eq_true rfl) (xRn_2 _ _ _ _ _ _ (c_isOfOne (d + 1) 0 (tadds (tadds h (opB (h 11 k))) (f (h 12 k))) (h 11 k) ⟨by omega, by omega⟩ (fun z => ⟨_, rfl, Or.inl ⟨rfl, z⟩, rfl⟩) (fun z => ⟨_, rfl, Or.inr ⟨rfl, z⟩, rfl⟩))) (fun r1 h9 hq1 => ?_)
        obtain ⟨hq1, rfl⟩ := hq1
        show xEx2 RX1 G0 cdX1_spell none (xRn2 G0 MT (d + 2)) Q b 48 [some (.inr (.inr 9)), some (.inr (.inr 64)), some (.inr (.inr 10)), some (.inl k), some (.inl dp), some (.inl (h 11 k))] [.inl r1] (tadds (tadds h (opB (h 11 k))) (f (h 12 k)))
        refine E2_b (x := (.ifCond .ne 32, 66, [], [])) rfl rfl (fun c48 => ?_) (fun c48 => ?_)
        · rw [c_ne (by first | assumption | (refine ⟨?_, ?_⟩ <;> omega) | (simp only [xr] at *; omega)) (by first | assumption | (refine ⟨?_, ?_⟩ <;> omega) | (simp only [xr] at *; omega))] at c48
          simp only [decide_eq_true_eq, decide_eq_false_iff_not, Decidable.not_not] at c48
          show xEx2 RX1 G0 cdX1_spell none (xRn2 G0 MT (d + 2)) Q b 66 [some (.inr (.inr 9)), some (.inr (.inr 64)), some (.inr (.inr 10)), some (.inl k), some (.inl dp), some (.inl (h 11 k))] [] (tadds (tadds h (opB (h 11 k))) (f (h 12 k)))
          refine E2_s 2 (i' := 68) (ls' := [some (.inr (.inr 9)), some (.inr (.inr 64)), some (.inr (.inr 10)), some (.inl k), some (.inl dp), some (.inl (h 11 k))]) (sk' := [.inl 41, .inr (.inr 64)]) (h' := (tadds (tadds h (opB (h 11 k))) (f (h 12 k)))) rfl ?_
          refine E2_cv (x := (.invokevirtual 156, 1, [(8, 94)], [0])) (q := fun h9 => h9 = (tadd (tadds (tadds h (opB (h 11 k))) (f (h 12 k))) 41)) rfl rfl (Nat.le_of_ble_eq_true rfl) (xRn_2 _ _ _ _ _ _ (c_tadd (d + 1) 0 (tadds (tadds h (opB (h 11 k))) (f (h 12 k))) 41 ⟨by omega, by omega⟩ (by rw [tadds_l, tadds_l]; omega) ⟨rfl, rfl⟩)) (fun h9 e9 => ?_)
          subst e9
          show xEx2 RX1 G0 cdX1_spell none (xRn2 G0 MT (d + 2)) Q b 69 [some (.inr (.inr 9)), some (.inr (.inr 64)), some (.inr (.inr 10)), some (.inl k), some (.inl dp), some (.inl (h 11 k))] [] (tadd (tadds (tadds h (opB (h 11 k))) (f (h 12 k))) 41)
          exact E2_ret (x := (.return_, 0, [], [])) (v := none) rfl (trivial) (by
            have r9 := hQ
            rw [tx1_u (by omega), tadds_a, tadds_a] at r9
            exact r9)
        · rw [c_ne (by first | assumption | (refine ⟨?_, ?_⟩ <;> omega) | (simp only [xr] at *; omega)) (by first | assumption | (refine ⟨?_, ?_⟩ <;> omega) | (simp only [xr] at *; omega))] at c48
          simp only [decide_eq_true_eq, decide_eq_false_iff_not, Decidable.not_not] at c48
          show xEx2 RX1 G0 cdX1_spell none (xRn2 G0 MT (d + 2)) Q b 49 [some (.inr (.inr 9)), some (.inr (.inr 64)), some (.inr (.inr 10)), some (.inl k), some (.inl dp), some (.inl (h 11 k))] [] (tadds (tadds h (opB (h 11 k))) (f (h 12 k)))
          have hL2 : h 64 1 + ((opB (h 11 k)).length : Nat) + ((f (h 12 k)).length : Nat) + 1 + ((f (h 13 k)).length : Nat) + 1 + 3 ≤ 1024 := by
            have q := hl.2
            rw [tx1_b (by omega) k9] at q
            simp only [List.length_append, List.length_cons, List.length_nil] at q
            omega
          refine E2_s 1 (i' := 50) (ls' := [some (.inr (.inr 9)), some (.inr (.inr 64)), some (.inr (.inr 10)), some (.inl k), some (.inl dp), some (.inl (h 11 k))]) (sk' := [.inr (.inr 64)]) (h' := (tadds (tadds h (opB (h 11 k))) (f (h 12 k)))) rfl ?_
          refine E2_sta (x := (.getstatic 178, 0, [], [])) (t := 0) rfl rfl (List.Mem.head _) ?_
          show xEx2 RX1 G0 cdX1_spell none (xRn2 G0 MT (d + 2)) Q b 51 [some (.inr (.inr 9)), some (.inr (.inr 64)), some (.inr (.inr 10)), some (.inl k), some (.inl dp), some (.inl (h 11 k))] [.inr (.inr (2000 + 0)), .inr (.inr 64)] (tadds (tadds h (opB (h 11 k))) (f (h 12 k)))
          refine E2_s 1 (i' := 52) (ls' := [some (.inr (.inr 9)), some (.inr (.inr 64)), some (.inr (.inr 10)), some (.inl k), some (.inl dp), some (.inl (h 11 k))]) (sk' := [.inl (h 11 k), .inr (.inr (2000 + 0)), .inr (.inr 64)]) (h' := (tadds (tadds h (opB (h 11 k))) (f (h 12 k)))) rfl ?_
          refine E2_cld (x := (.caload, 0, [], [])) (t := 0) rfl rfl rfl (by omega) (by show (h 11 k) < ((10 : Nat) : Int); omega) ?_
          show xEx2 RX1 G0 cdX1_spell none (xRn2 G0 MT (d + 2)) Q b 53 [some (.inr (.inr 9)), some (.inr (.inr 64)), some (.inr (.inr 10)), some (.inl k), some (.inl dp), some (.inl (h 11 k))] [.inl (([43, 45, 42, 44, 44, 32, 47, 37, 32, 32]).getD (h 11 k).toNat 0), .inr (.inr 64)] (tadds (tadds h (opB (h 11 k))) (f (h 12 k)))
          have ms := mid_s (k := (h 11 k)) (by omega) ⟨by omega, by omega⟩
          refine E2_ti (y := (sgB (h 11 k))) (by rw [ms.1]) ?_
          skip
          refine E2_cv (x := (.invokevirtual 156, 1, [(8, 94)], [0])) (q := fun h9 => h9 = (tadd (tadds (tadds h (opB (h 11 k))) (f (h 12 k))) (sgB (h 11 k)))) rfl rfl (Nat.le_of_ble_eq_true rfl) (xRn_2 _ _ _ _ _ _ (c_tadd (d + 1) 0 (tadds (tadds h (opB (h 11 k))) (f (h 12 k))) (sgB (h 11 k)) ms.2 (by rw [tadds_l, tadds_l]; omega) ⟨rfl, rfl⟩)) (fun h9 e9 => ?_)
          subst e9
          show xEx2 RX1 G0 cdX1_spell none (xRn2 G0 MT (d + 2)) Q b 54 [some (.inr (.inr 9)), some (.inr (.inr 64)), some (.inr (.inr 10)), some (.inl k), some (.inl dp), some (.inl (h 11 k))] [] (tadd (tadds (tadds h (opB (h 11 k))) (f (h 12 k))) (sgB (h 11 k)))
          refine E2_s 7 (i' := 61) (ls' := [some (.inr (.inr 9)), some (.inr (.inr 64)), some (.inr (.inr 10)), some (.inl k), some (.inl dp), some (.inl (h 11 k))]) (sk' := [.inl k, .inr (.inr 13), .inr (.inr 10), .inr (.inr 64), .inr (.inr 9)]) (h' := (tadd (tadds (tadds h (opB (h 11 k))) (f (h 12 k))) (sgB (h 11 k)))) rfl ?_
          refine E2_ld (x := (.iaload, 0, [], [])) (ty := .int) (n := 300) rfl rfl rfl (by omega) (by omega) ?_
          show xEx2 RX1 G0 cdX1_spell none (xRn2 G0 MT (d + 2)) Q b 62 [some (.inr (.inr 9)), some (.inr (.inr 64)), some (.inr (.inr 10)), some (.inl k), some (.inl dp), some (.inl (h 11 k))] [.inl ((tadd (tadds (tadds h (opB (h 11 k))) (f (h 12 k))) (sgB (h 11 k))) 13 k), .inr (.inr 10), .inr (.inr 64), .inr (.inr 9)] (tadd (tadds (tadds h (opB (h 11 k))) (f (h 12 k))) (sgB (h 11 k)))
          refine E2_s 3 (i' := 65) (ls' := [some (.inr (.inr 9)), some (.inr (.inr 64)), some (.inr (.inr 10)), some (.inl k), some (.inl dp), some (.inl (h 11 k))]) (sk' := [.inl (dp - 1), .inl ((tadd (tadds (tadds h (opB (h 11 k))) (f (h 12 k))) (sgB (h 11 k))) 13 k), .inr (.inr 10), .inr (.inr 64), .inr (.inr 9)]) (h' := (tadd (tadds (tadds h (opB (h 11 k))) (f (h 12 k))) (sgB (h 11 k)))) rfl ?_
          have ru2 : (tadd (tadds (tadds h (opB (h 11 k))) (f (h 12 k))) (sgB (h 11 k))) 13 k = h 13 k := by rw [tadd_o (by decide) (by decide), tadds_o (by decide) (by decide), tadds_o (by decide) (by decide)]
          refine E2_cv (x := (.invokevirtual 174, 4, [(1, 21)], [0])) (q := fun h9 => h9 = (tadds (tadd (tadds (tadds h (opB (h 11 k))) (f (h 12 k))) (sgB (h 11 k))) (f (h 13 k)))) rfl rfl (Nat.le_of_ble_eq_true rfl) (by rw [ru2]; exact hrec (tadd (tadds (tadds h (opB (h 11 k))) (f (h 12 k))) (sgB (h 11 k))) (h 13 k) (by omega) (fun a z1 z2 => by rw [tadd_o z1 z2, tadds_o z1 z2, tadds_o z1 z2]) (by rw [tadd_l, tadds_l, tadds_l]; omega) (by rw [tadd_l, tadds_l, tadds_l]; omega) ⟨rfl, rfl⟩) (fun h9 e9 => ?_)
          subst e9
          show xEx2 RX1 G0 cdX1_spell none (xRn2 G0 MT (d + 2)) Q b 66 [some (.inr (.inr 9)), some (.inr (.inr 64)), some (.inr (.inr 10)), some (.inl k), some (.inl dp), some (.inl (h 11 k))] [] (tadds (tadd (tadds (tadds h (opB (h 11 k))) (f (h 12 k))) (sgB (h 11 k))) (f (h 13 k)))
          refine E2_s 2 (i' := 68) (ls' := [some (.inr (.inr 9)), some (.inr (.inr 64)), some (.inr (.inr 10)), some (.inl k), some (.inl dp), some (.inl (h 11 k))]) (sk' := [.inl 41, .inr (.inr 64)]) (h' := (tadds (tadd (tadds (tadds h (opB (h 11 k))) (f (h 12 k))) (sgB (h 11 k))) (f (h 13 k)))) rfl ?_
          refine E2_cv (x := (.invokevirtual 156, 1, [(8, 94)], [0])) (q := fun h9 => h9 = (tadd (tadds (tadd (tadds (tadds h (opB (h 11 k))) (f (h 12 k))) (sgB (h 11 k))) (f (h 13 k))) 41)) rfl rfl (Nat.le_of_ble_eq_true rfl) (xRn_2 _ _ _ _ _ _ (c_tadd (d + 1) 0 (tadds (tadd (tadds (tadds h (opB (h 11 k))) (f (h 12 k))) (sgB (h 11 k))) (f (h 13 k))) 41 ⟨by omega, by omega⟩ (by rw [tadds_l, tadd_l, tadds_l, tadds_l]; omega) ⟨rfl, rfl⟩)) (fun h9 e9 => ?_)
          subst e9
          show xEx2 RX1 G0 cdX1_spell none (xRn2 G0 MT (d + 2)) Q b 69 [some (.inr (.inr 9)), some (.inr (.inr 64)), some (.inr (.inr 10)), some (.inl k), some (.inl dp), some (.inl (h 11 k))] [] (tadd (tadds (tadd (tadds (tadds h (opB (h 11 k))) (f (h 12 k))) (sgB (h 11 k))) (f (h 13 k))) 41)
          exact E2_ret (x := (.return_, 0, [], [])) (v := none) rfl (trivial) (by
            have r9 := hQ
            rw [tx1_b (by omega) ⟨by omega, by omega⟩, tadds_a, tadds_a, tadds_a, tadds_a] at r9
            exact r9)
      · rw [c_ne (by first | assumption | (refine ⟨?_, ?_⟩ <;> omega) | (simp only [xr] at *; omega)) (by first | assumption | (refine ⟨?_, ?_⟩ <;> omega) | (simp only [xr] at *; omega))] at c22
        simp only [decide_eq_true_eq, decide_eq_false_iff_not, Decidable.not_not] at c22
        show xEx2 RX1 G0 cdX1_spell none (xRn2 G0 MT (d + 2)) Q b 23 [some (.inr (.inr 9)), some (.inr (.inr 64)), some (.inr (.inr 10)), some (.inl k), some (.inl dp), some (.inl (h 11 k))] [] h
        refine E2_s 4 (i' := 27) (ls' := [some (.inr (.inr 9)), some (.inr (.inr 64)), some (.inr (.inr 10)), some (.inl k), some (.inl dp), some (.inl (h 11 k))]) (sk' := [.inl k, .inr (.inr 12), .inr (.inr 64)]) (h' := h) rfl ?_
        refine E2_ld (x := (.iaload, 0, [], [])) (ty := .int) (n := 300) rfl rfl rfl (by omega) (by omega) ?_
        show xEx2 RX1 G0 cdX1_spell none (xRn2 G0 MT (d + 2)) Q b 28 [some (.inr (.inr 9)), some (.inr (.inr 64)), some (.inr (.inr 10)), some (.inl k), some (.inl dp), some (.inl (h 11 k))] [.inl (h 12 k), .inr (.inr 64)] h
        refine E2_cv (x := (.invokevirtual 162, 1, [(8, 96)], [0])) (q := fun h9 => h9 = (tadds h (dgt (h 12 k)))) rfl rfl (Nat.le_of_ble_eq_true rfl) (xRn_2 _ _ _ _ _ _ (c_tnum d 0 h (h 12 k) ⟨by omega, by omega⟩ ⟨by omega, by omega⟩ ⟨rfl, rfl⟩)) (fun h9 e9 => ?_)
        subst e9
        show xEx2 RX1 G0 cdX1_spell none (xRn2 G0 MT (d + 2)) Q b 29 [some (.inr (.inr 9)), some (.inr (.inr 64)), some (.inr (.inr 10)), some (.inl k), some (.inl dp), some (.inl (h 11 k))] [] (tadds h (dgt (h 12 k)))
        exact E2_ret (x := (.return_, 0, [], [])) (v := none) rfl (trivial) (by
          have r9 := hQ
          unfold tx1 at r9
          first
          | (exfalso; omega)
          | (rw [if_neg (by omega), if_pos (by omega)] at r9; exact r9))
  · rw [c_ne (by first | assumption | (refine ⟨?_, ?_⟩ <;> omega) | (simp only [xr] at *; omega)) (by first | assumption | (refine ⟨?_, ?_⟩ <;> omega) | (simp only [xr] at *; omega))] at c7
    simp only [decide_eq_true_eq, decide_eq_false_iff_not, Decidable.not_not] at c7
    show xEx2 RX1 G0 cdX1_spell none (xRn2 G0 MT (d + 2)) Q b 8 [some (.inr (.inr 9)), some (.inr (.inr 64)), some (.inr (.inr 10)), some (.inl k), some (.inl dp), some (.inl (h 11 k))] [] h
    refine E2_s 5 (i' := 13) (ls' := [some (.inr (.inr 9)), some (.inr (.inr 64)), some (.inr (.inr 10)), some (.inl k), some (.inl dp), some (.inl (h 11 k))]) (sk' := [.inl k, .inr (.inr 12), .inl 120, .inr (.inr 64)]) (h' := h) rfl ?_
    refine E2_ld (x := (.iaload, 0, [], [])) (ty := .int) (n := 300) rfl rfl rfl (by omega) (by omega) ?_
    show xEx2 RX1 G0 cdX1_spell none (xRn2 G0 MT (d + 2)) Q b 14 [some (.inr (.inr 9)), some (.inr (.inr 64)), some (.inr (.inr 10)), some (.inl k), some (.inl dp), some (.inl (h 11 k))] [.inl (h 12 k), .inl 120, .inr (.inr 64)] h
    refine E2_s 2 (i' := 16) (ls' := [some (.inr (.inr 9)), some (.inr (.inr 64)), some (.inr (.inr 10)), some (.inl k), some (.inl dp), some (.inl (h 11 k))]) (sk' := [.inl (xi2c (120 + (h 12 k))), .inr (.inr 64)]) (h' := h) rfl ?_
    refine E2_ti (y := (120 + (h 12 k))) (by rw [xi2c_id (by omega) (by omega)]) ?_
    skip
    refine E2_cv (x := (.invokevirtual 156, 1, [(8, 94)], [0])) (q := fun h9 => h9 = (tadd h (120 + (h 12 k)))) rfl rfl (Nat.le_of_ble_eq_true rfl) (xRn_2 _ _ _ _ _ _ (c_tadd (d + 1) 0 h (120 + (h 12 k)) ⟨by omega, by omega⟩ (by skip; omega) ⟨rfl, rfl⟩)) (fun h9 e9 => ?_)
    subst e9
    show xEx2 RX1 G0 cdX1_spell none (xRn2 G0 MT (d + 2)) Q b 17 [some (.inr (.inr 9)), some (.inr (.inr 64)), some (.inr (.inr 10)), some (.inl k), some (.inl dp), some (.inl (h 11 k))] [] (tadd h (120 + (h 12 k)))
    exact E2_ret (x := (.return_, 0, [], [])) (v := none) rfl (trivial) (by
      have r9 := hQ
      unfold tx1 at r9
      rw [if_pos (by omega)] at r9
      exact r9)
set_option maxHeartbeats 1000000 in
theorem c_sp1_gem (d b : Nat) (h : xH) (k dp : Int) (f : Int → List Int) (hk : 0 ≤ k ∧ k < 300) (hd : 1 ≤ dp ∧ dp ≤ 9) (c0 : 0 ≤ (h 15 k) ∧ (h 15 k) ≤ 11) (c10 : (h 15 k) = 10 → 0 ≤ (h 16 k) ∧ (h 16 k) ≤ 2) (c11 : (h 15 k) = 11 → -99 ≤ (h 16 k) ∧ (h 16 k) ≤ 99) (hl : 0 ≤ h 64 1 ∧ h 64 1 + ((tx1 (h 15 k) (h 16 k) (h 17 k) f).length : Nat) + 3 ≤ 1024) (hrec : ∀ (hh : xH) (j : Int), ((h 15 k) ≤ 9 ∧ (j = (h 16 k) ∨ (j = (h 17 k) ∧ ¬ ((h 15 k) = 5 ∨ (h 15 k) = 8 ∨ (h 15 k) = 9)))) → (∀ a, a ≠ 64 → a ≠ 65 → hh a = h a) → hh 64 1 + ((f j).length : Nat) + 3 ≤ 1024 → 0 ≤ hh 64 1 → ∀ {Q9 : xO → xH → Prop}, Q9 (.inl none) (tadds hh (f j)) → xRn2 G0 MT (d + 2) 0 21 [.inr (.inr 9), .inr (.inr 64), .inr (.inr 10), .inl j, .inl (dp - 1)] hh Q9) {Q : xO → xH → Prop} (hQ : Q (.inl none) (tadds h (tx1 (h 15 k) (h 16 k) (h 17 k) f))) : xRn2 G0 MT (d + 3) b 21 [.inr (.inr 9), .inr (.inr 64), .inr (.inr 14), .inl k, .inl dp] h Q := by
  refine R2_of (M := mX1_spell) rfl (Nat.le_of_ble_eq_true rfl) ?_
  show xEx2 RX1 G0 cdX1_spell none (xRn2 G0 MT (d + 2)) Q b 0 [some (.inr (.inr 9)), some (.inr (.inr 64)), some (.inr (.inr 14)), some (.inl k), some (.inl dp), none] [] h
  refine E2_s 3 (i' := 3) (ls' := [some (.inr (.inr 9)), some (.inr (.inr 64)), some (.inr (.inr 14)), some (.inl k), some (.inl dp), none]) (sk' := [.inl k, .inr (.inr 15)]) (h' := h) rfl ?_
  refine E2_ld (x := (.iaload, 0, [], [])) (ty := .int) (n := 300) rfl rfl rfl (by omega) (by omega) ?_
  show xEx2 RX1 G0 cdX1_spell none (xRn2 G0 MT (d + 2)) Q b 4 [some (.inr (.inr 9)), some (.inr (.inr 64)), some (.inr (.inr 14)), some (.inl k), some (.inl dp), none] [.inl (h 15 k)] h
  refine E2_s 3 (i' := 7) (ls' := [some (.inr (.inr 9)), some (.inr (.inr 64)), some (.inr (.inr 14)), some (.inl k), some (.inl dp), some (.inl (h 15 k))]) (sk' := [.inl 10, .inl (h 15 k)]) (h' := h) rfl ?_
  refine E2_b (x := (.if_icmp .ne 18, 18, [], [])) rfl rfl (fun c7 => ?_) (fun c7 => ?_)
  · rw [c_ne (by first | assumption | (refine ⟨?_, ?_⟩ <;> omega) | (simp only [xr] at *; omega)) (by first | assumption | (refine ⟨?_, ?_⟩ <;> omega) | (simp only [xr] at *; omega))] at c7
    simp only [decide_eq_true_eq, decide_eq_false_iff_not, Decidable.not_not] at c7
    show xEx2 RX1 G0 cdX1_spell none (xRn2 G0 MT (d + 2)) Q b 18 [some (.inr (.inr 9)), some (.inr (.inr 64)), some (.inr (.inr 14)), some (.inl k), some (.inl dp), some (.inl (h 15 k))] [] h
    refine E2_s 2 (i' := 20) (ls' := [some (.inr (.inr 9)), some (.inr (.inr 64)), some (.inr (.inr 14)), some (.inl k), some (.inl dp), some (.inl (h 15 k))]) (sk' := [.inl 11, .inl (h 15 k)]) (h' := h) rfl ?_
    refine E2_b (x := (.if_icmp .eq 8, 23, [], [])) rfl rfl (fun c20 => ?_) (fun c20 => ?_)
    · rw [c_eq (by first | assumption | (refine ⟨?_, ?_⟩ <;> omega) | (simp only [xr] at *; omega)) (by first | assumption | (refine ⟨?_, ?_⟩ <;> omega) | (simp only [xr] at *; omega))] at c20
      simp only [decide_eq_true_eq, decide_eq_false_iff_not, Decidable.not_not] at c20
      show xEx2 RX1 G0 cdX1_spell none (xRn2 G0 MT (d + 2)) Q b 23 [some (.inr (.inr 9)), some (.inr (.inr 64)), some (.inr (.inr 14)), some (.inl k), some (.inl dp), some (.inl (h 15 k))] [] h
      refine E2_s 4 (i' := 27) (ls' := [some (.inr (.inr 9)), some (.inr (.inr 64)), some (.inr (.inr 14)), some (.inl k), some (.inl dp), some (.inl (h 15 k))]) (sk' := [.inl k, .inr (.inr 16), .inr (.inr 64)]) (h' := h) rfl ?_
      refine E2_ld (x := (.iaload, 0, [], [])) (ty := .int) (n := 300) rfl rfl rfl (by omega) (by omega) ?_
      show xEx2 RX1 G0 cdX1_spell none (xRn2 G0 MT (d + 2)) Q b 28 [some (.inr (.inr 9)), some (.inr (.inr 64)), some (.inr (.inr 14)), some (.inl k), some (.inl dp), some (.inl (h 15 k))] [.inl (h 16 k), .inr (.inr 64)] h
      refine E2_cv (x := (.invokevirtual 162, 1, [(8, 96)], [0])) (q := fun h9 => h9 = (tadds h (dgt (h 16 k)))) rfl rfl (Nat.le_of_ble_eq_true rfl) (xRn_2 _ _ _ _ _ _ (c_tnum d 0 h (h 16 k) ⟨by omega, by omega⟩ ⟨by omega, by omega⟩ ⟨rfl, rfl⟩)) (fun h9 e9 => ?_)
      subst e9
      show xEx2 RX1 G0 cdX1_spell none (xRn2 G0 MT (d + 2)) Q b 29 [some (.inr (.inr 9)), some (.inr (.inr 64)), some (.inr (.inr 14)), some (.inl k), some (.inl dp), some (.inl (h 15 k))] [] (tadds h (dgt (h 16 k)))
      exact E2_ret (x := (.return_, 0, [], [])) (v := none) rfl (trivial) (by
        have r9 := hQ
        unfold tx1 at r9
        first
        | (exfalso; omega)
        | (rw [if_neg (by omega), if_pos (by omega)] at r9; exact r9))
    · rw [c_eq (by first | assumption | (refine ⟨?_, ?_⟩ <;> omega) | (simp only [xr] at *; omega)) (by first | assumption | (refine ⟨?_, ?_⟩ <;> omega) | (simp only [xr] at *; omega))] at c20
      simp only [decide_eq_true_eq, decide_eq_false_iff_not, Decidable.not_not] at c20
      show xEx2 RX1 G0 cdX1_spell none (xRn2 G0 MT (d + 2)) Q b 21 [some (.inr (.inr 9)), some (.inr (.inr 64)), some (.inr (.inr 14)), some (.inl k), some (.inl dp), some (.inl (h 15 k))] [] h
      refine E2_s 1 (i' := 22) (ls' := [some (.inr (.inr 9)), some (.inr (.inr 64)), some (.inr (.inr 14)), some (.inl k), some (.inl dp), some (.inl (h 15 k))]) (sk' := [.inl dp]) (h' := h) rfl ?_
      refine E2_b (x := (.ifCond .ne 14, 30, [], [])) rfl rfl (fun c22 => ?_) (fun c22 => ?_)
      · rw [c_ne (by first | assumption | (refine ⟨?_, ?_⟩ <;> omega) | (simp only [xr] at *; omega)) (by first | assumption | (refine ⟨?_, ?_⟩ <;> omega) | (simp only [xr] at *; omega))] at c22
        simp only [decide_eq_true_eq, decide_eq_false_iff_not, Decidable.not_not] at c22
        show xEx2 RX1 G0 cdX1_spell none (xRn2 G0 MT (d + 2)) Q b 30 [some (.inr (.inr 9)), some (.inr (.inr 64)), some (.inr (.inr 14)), some (.inl k), some (.inl dp), some (.inl (h 15 k))] [] h
        have k9 : 0 ≤ (h 15 k) ∧ (h 15 k) ≤ 9 := by omega
        have hL1 : h 64 1 + ((opB (h 15 k)).length : Nat) + ((f (h 16 k)).length : Nat) + 1 + 3 ≤ 1024 := by
          by_cases y : (h 15 k) = 5 ∨ (h 15 k) = 8 ∨ (h 15 k) = 9
          · have q := hl.2
            rw [tx1_u y] at q
            simp only [List.length_append, List.length_cons, List.length_nil] at q
            omega
          · have q := hl.2
            rw [tx1_b y k9] at q
            simp only [List.length_append, List.length_cons, List.length_nil] at q
            omega
        refine E2_s 2 (i' := 32) (ls' := [some (.inr (.inr 9)), some (.inr (.inr 64)), some (.inr (.inr 14)), some (.inl k), some (.inl dp), some (.inl (h 15 k))]) (sk' := [.inl (h 15 k), .inr (.inr 64)]) (h' := h) rfl ?_
        refine E2_cr (x := (.invokestatic 166, 1, [(0, 41)], [])) (v := .inr (.inr (1000 + opn (h 15 k)))) rfl rfl (Nat.le_of_ble_eq_true rfl) (c_open (d + 1) 0 h (h 15 k) ⟨by omega, by omega⟩ ⟨rfl, rfl⟩) ?_
        show xEx2 RX1 G0 cdX1_spell none (xRn2 G0 MT (d + 2)) Q b 33 [some (.inr (.inr 9)), some (.inr (.inr 64)), some (.inr (.inr 14)), some (.inl k), some (.inl dp), some (.inl (h 15 k))] [.inr (.inr (1000 + opn (h 15 k))), .inr (.inr 64)] h
        refine E2_cv (x := (.invokevirtual 170, 1, [(8, 95)], [0])) (q := fun h9 => h9 = (tadds h (opB (h 15 k)))) rfl rfl (Nat.le_of_ble_eq_true rfl) (c_tall d 0 h (opn (h 15 k)) (RX4, opK (h 15 k), opB (h 15 k)) (opn_s _) (opn_b _) ⟨by omega, by show h 64 1 + ((opB (h 15 k)).length : Nat) ≤ 1024; omega⟩ ⟨rfl, rfl⟩) (fun h9 e9 => ?_)
        subst e9
        show xEx2 RX1 G0 cdX1_spell none (xRn2 G0 MT (d + 2)) Q b 34 [some (.inr (.inr 9)), some (.inr (.inr 64)), some (.inr (.inr 14)), some (.inl k), some (.inl dp), some (.inl (h 15 k))] [] (tadds h (opB (h 15 k)))
        refine E2_s 7 (i' := 41) (ls' := [some (.inr (.inr 9)), some (.inr (.inr 64)), some (.inr (.inr 14)), some (.inl k), some (.inl dp), some (.inl (h 15 k))]) (sk' := [.inl k, .inr (.inr 16), .inr (.inr 10), .inr (.inr 64), .inr (.inr 9)]) (h' := (tadds h (opB (h 15 k)))) rfl ?_
        refine E2_ld (x := (.iaload, 0, [], [])) (ty := .int) (n := 300) rfl rfl rfl (by omega) (by omega) ?_
        show xEx2 RX1 G0 cdX1_spell none (xRn2 G0 MT (d + 2)) Q b 42 [some (.inr (.inr 9)), some (.inr (.inr 64)), some (.inr (.inr 14)), some (.inl k), some (.inl dp), some (.inl (h 15 k))] [.inl ((tadds h (opB (h 15 k))) 16 k), .inr (.inr 10), .inr (.inr 64), .inr (.inr 9)] (tadds h (opB (h 15 k)))
        refine E2_s 3 (i' := 45) (ls' := [some (.inr (.inr 9)), some (.inr (.inr 64)), some (.inr (.inr 14)), some (.inl k), some (.inl dp), some (.inl (h 15 k))]) (sk' := [.inl (dp - 1), .inl ((tadds h (opB (h 15 k))) 16 k), .inr (.inr 10), .inr (.inr 64), .inr (.inr 9)]) (h' := (tadds h (opB (h 15 k)))) rfl ?_
        have ru1 : (tadds h (opB (h 15 k))) 16 k = h 16 k := by rw [tadds_o (by decide) (by decide)]
        refine E2_cv (x := (.invokevirtual 174, 4, [(1, 21)], [0])) (q := fun h9 => h9 = (tadds (tadds h (opB (h 15 k))) (f (h 16 k)))) rfl rfl (Nat.le_of_ble_eq_true rfl) (by rw [ru1]; exact hrec (tadds h (opB (h 15 k))) (h 16 k) (by omega) (fun a z1 z2 => by rw [tadds_o z1 z2]) (by rw [tadds_l]; omega) (by rw [tadds_l]; omega) ⟨rfl, rfl⟩) (fun h9 e9 => ?_)
        subst e9
        show xEx2 RX1 G0 cdX1_spell none (xRn2 G0 MT (d + 2)) Q b 46 [some (.inr (.inr 9)), some (.inr (.inr 64)), some (.inr (.inr 14)), some (.inl k), some (.inl dp), some (.inl (h 15 k))] [] (tadds (tadds h (opB (h 15 k))) (f (h 16 k)))
        refine E2_s 1 (i' := 47) (ls' := [some (.inr (.inr 9)), some (.inr (.inr 64)), some (.inr (.inr 14)), some (.inl k), some (.inl dp), some (.inl (h 15 k))]) (sk' := [.inl (h 15 k)]) (h' := (tadds (tadds h (opB (h 15 k))) (f (h 16 k)))) rfl ?_
        refine E2_cp (x := (.invokestatic 51, 1, [(0, 38)], [])) (q := fun r h9 => ((r = 1 ∧ ((h 15 k) = 5 ∨ (h 15 k) = 8 ∨ (h 15 k) = 9)) ∨ (r = 0 ∧ ¬ ((h 15 k) = 5 ∨ (h 15 k) = 8 ∨ (h 15 k) = 9))) ∧ (tadds (tadds h (opB (h 15 k))) (f (h 16 k))) = h9) rfl rfl (Nat.le_of_ble_eq_true rfl) (xRn_2 _ _ _ _ _ _ (c_isOfOne (d + 1) 0 (tadds (tadds h (opB (h 15 k))) (f (h 16 k))) (h 15 k) ⟨by omega, by omega⟩ (fun z => ⟨_, rfl, Or.inl ⟨rfl, z⟩, rfl⟩) (fun z => ⟨_, rfl, Or.inr ⟨rfl, z⟩, rfl⟩))) (fun r1 h9 hq1 => ?_)
        obtain ⟨hq1, rfl⟩ := hq1
        show xEx2 RX1 G0 cdX1_spell none (xRn2 G0 MT (d + 2)) Q b 48 [some (.inr (.inr 9)), some (.inr (.inr 64)), some (.inr (.inr 14)), some (.inl k), some (.inl dp), some (.inl (h 15 k))] [.inl r1] (tadds (tadds h (opB (h 15 k))) (f (h 16 k)))
        refine E2_b (x := (.ifCond .ne 32, 66, [], [])) rfl rfl (fun c48 => ?_) (fun c48 => ?_)
        · rw [c_ne (by first | assumption | (refine ⟨?_, ?_⟩ <;> omega) | (simp only [xr] at *; omega)) (by first | assumption | (refine ⟨?_, ?_⟩ <;> omega) | (simp only [xr] at *; omega))] at c48
          simp only [decide_eq_true_eq, decide_eq_false_iff_not, Decidable.not_not] at c48
          show xEx2 RX1 G0 cdX1_spell none (xRn2 G0 MT (d + 2)) Q b 66 [some (.inr (.inr 9)), some (.inr (.inr 64)), some (.inr (.inr 14)), some (.inl k), some (.inl dp), some (.inl (h 15 k))] [] (tadds (tadds h (opB (h 15 k))) (f (h 16 k)))
          refine E2_s 2 (i' := 68) (ls' := [some (.inr (.inr 9)), some (.inr (.inr 64)), some (.inr (.inr 14)), some (.inl k), some (.inl dp), some (.inl (h 15 k))]) (sk' := [.inl 41, .inr (.inr 64)]) (h' := (tadds (tadds h (opB (h 15 k))) (f (h 16 k)))) rfl ?_
          refine E2_cv (x := (.invokevirtual 156, 1, [(8, 94)], [0])) (q := fun h9 => h9 = (tadd (tadds (tadds h (opB (h 15 k))) (f (h 16 k))) 41)) rfl rfl (Nat.le_of_ble_eq_true rfl) (xRn_2 _ _ _ _ _ _ (c_tadd (d + 1) 0 (tadds (tadds h (opB (h 15 k))) (f (h 16 k))) 41 ⟨by omega, by omega⟩ (by rw [tadds_l, tadds_l]; omega) ⟨rfl, rfl⟩)) (fun h9 e9 => ?_)
          subst e9
          show xEx2 RX1 G0 cdX1_spell none (xRn2 G0 MT (d + 2)) Q b 69 [some (.inr (.inr 9)), some (.inr (.inr 64)), some (.inr (.inr 14)), some (.inl k), some (.inl dp), some (.inl (h 15 k))] [] (tadd (tadds (tadds h (opB (h 15 k))) (f (h 16 k))) 41)
          exact E2_ret (x := (.return_, 0, [], [])) (v := none) rfl (trivial) (by
            have r9 := hQ
            rw [tx1_u (by omega), tadds_a, tadds_a] at r9
            exact r9)
        · rw [c_ne (by first | assumption | (refine ⟨?_, ?_⟩ <;> omega) | (simp only [xr] at *; omega)) (by first | assumption | (refine ⟨?_, ?_⟩ <;> omega) | (simp only [xr] at *; omega))] at c48
          simp only [decide_eq_true_eq, decide_eq_false_iff_not, Decidable.not_not] at c48
          show xEx2 RX1 G0 cdX1_spell none (xRn2 G0 MT (d + 2)) Q b 49 [some (.inr (.inr 9)), some (.inr (.inr 64)), some (.inr (.inr 14)), some (.inl k), some (.inl dp), some (.inl (h 15 k))] [] (tadds (tadds h (opB (h 15 k))) (f (h 16 k)))
          have hL2 : h 64 1 + ((opB (h 15 k)).length : Nat) + ((f (h 16 k)).length : Nat) + 1 + ((f (h 17 k)).length : Nat) + 1 + 3 ≤ 1024 := by
            have q := hl.2
            rw [tx1_b (by omega) k9] at q
            simp only [List.length_append, List.length_cons, List.length_nil] at q
            omega
          refine E2_s 1 (i' := 50) (ls' := [some (.inr (.inr 9)), some (.inr (.inr 64)), some (.inr (.inr 14)), some (.inl k), some (.inl dp), some (.inl (h 15 k))]) (sk' := [.inr (.inr 64)]) (h' := (tadds (tadds h (opB (h 15 k))) (f (h 16 k)))) rfl ?_
          refine E2_sta (x := (.getstatic 178, 0, [], [])) (t := 0) rfl rfl (List.Mem.head _) ?_
          show xEx2 RX1 G0 cdX1_spell none (xRn2 G0 MT (d + 2)) Q b 51 [some (.inr (.inr 9)), some (.inr (.inr 64)), some (.inr (.inr 14)), some (.inl k), some (.inl dp), some (.inl (h 15 k))] [.inr (.inr (2000 + 0)), .inr (.inr 64)] (tadds (tadds h (opB (h 15 k))) (f (h 16 k)))
          refine E2_s 1 (i' := 52) (ls' := [some (.inr (.inr 9)), some (.inr (.inr 64)), some (.inr (.inr 14)), some (.inl k), some (.inl dp), some (.inl (h 15 k))]) (sk' := [.inl (h 15 k), .inr (.inr (2000 + 0)), .inr (.inr 64)]) (h' := (tadds (tadds h (opB (h 15 k))) (f (h 16 k)))) rfl ?_
          refine E2_cld (x := (.caload, 0, [], [])) (t := 0) rfl rfl rfl (by omega) (by show (h 15 k) < ((10 : Nat) : Int); omega) ?_
          show xEx2 RX1 G0 cdX1_spell none (xRn2 G0 MT (d + 2)) Q b 53 [some (.inr (.inr 9)), some (.inr (.inr 64)), some (.inr (.inr 14)), some (.inl k), some (.inl dp), some (.inl (h 15 k))] [.inl (([43, 45, 42, 44, 44, 32, 47, 37, 32, 32]).getD (h 15 k).toNat 0), .inr (.inr 64)] (tadds (tadds h (opB (h 15 k))) (f (h 16 k)))
          have ms := mid_s (k := (h 15 k)) (by omega) ⟨by omega, by omega⟩
          refine E2_ti (y := (sgB (h 15 k))) (by rw [ms.1]) ?_
          skip
          refine E2_cv (x := (.invokevirtual 156, 1, [(8, 94)], [0])) (q := fun h9 => h9 = (tadd (tadds (tadds h (opB (h 15 k))) (f (h 16 k))) (sgB (h 15 k)))) rfl rfl (Nat.le_of_ble_eq_true rfl) (xRn_2 _ _ _ _ _ _ (c_tadd (d + 1) 0 (tadds (tadds h (opB (h 15 k))) (f (h 16 k))) (sgB (h 15 k)) ms.2 (by rw [tadds_l, tadds_l]; omega) ⟨rfl, rfl⟩)) (fun h9 e9 => ?_)
          subst e9
          show xEx2 RX1 G0 cdX1_spell none (xRn2 G0 MT (d + 2)) Q b 54 [some (.inr (.inr 9)), some (.inr (.inr 64)), some (.inr (.inr 14)), some (.inl k), some (.inl dp), some (.inl (h 15 k))] [] (tadd (tadds (tadds h (opB (h 15 k))) (f (h 16 k))) (sgB (h 15 k)))
          refine E2_s 7 (i' := 61) (ls' := [some (.inr (.inr 9)), some (.inr (.inr 64)), some (.inr (.inr 14)), some (.inl k), some (.inl dp), some (.inl (h 15 k))]) (sk' := [.inl k, .inr (.inr 17), .inr (.inr 10), .inr (.inr 64), .inr (.inr 9)]) (h' := (tadd (tadds (tadds h (opB (h 15 k))) (f (h 16 k))) (sgB (h 15 k)))) rfl ?_
          refine E2_ld (x := (.iaload, 0, [], [])) (ty := .int) (n := 300) rfl rfl rfl (by omega) (by omega) ?_
          show xEx2 RX1 G0 cdX1_spell none (xRn2 G0 MT (d + 2)) Q b 62 [some (.inr (.inr 9)), some (.inr (.inr 64)), some (.inr (.inr 14)), some (.inl k), some (.inl dp), some (.inl (h 15 k))] [.inl ((tadd (tadds (tadds h (opB (h 15 k))) (f (h 16 k))) (sgB (h 15 k))) 17 k), .inr (.inr 10), .inr (.inr 64), .inr (.inr 9)] (tadd (tadds (tadds h (opB (h 15 k))) (f (h 16 k))) (sgB (h 15 k)))
          refine E2_s 3 (i' := 65) (ls' := [some (.inr (.inr 9)), some (.inr (.inr 64)), some (.inr (.inr 14)), some (.inl k), some (.inl dp), some (.inl (h 15 k))]) (sk' := [.inl (dp - 1), .inl ((tadd (tadds (tadds h (opB (h 15 k))) (f (h 16 k))) (sgB (h 15 k))) 17 k), .inr (.inr 10), .inr (.inr 64), .inr (.inr 9)]) (h' := (tadd (tadds (tadds h (opB (h 15 k))) (f (h 16 k))) (sgB (h 15 k)))) rfl ?_
          have ru2 : (tadd (tadds (tadds h (opB (h 15 k))) (f (h 16 k))) (sgB (h 15 k))) 17 k = h 17 k := by rw [tadd_o (by decide) (by decide), tadds_o (by decide) (by decide), tadds_o (by decide) (by decide)]
          refine E2_cv (x := (.invokevirtual 174, 4, [(1, 21)], [0])) (q := fun h9 => h9 = (tadds (tadd (tadds (tadds h (opB (h 15 k))) (f (h 16 k))) (sgB (h 15 k))) (f (h 17 k)))) rfl rfl (Nat.le_of_ble_eq_true rfl) (by rw [ru2]; exact hrec (tadd (tadds (tadds h (opB (h 15 k))) (f (h 16 k))) (sgB (h 15 k))) (h 17 k) (by omega) (fun a z1 z2 => by rw [tadd_o z1 z2, tadds_o z1 z2, tadds_o z1 z2]) (by rw [tadd_l, tadds_l, tadds_l]; omega) (by rw [tadd_l, tadds_l, tadds_l]; omega) ⟨rfl, rfl⟩) (fun h9 e9 => ?_)
          subst e9
          show xEx2 RX1 G0 cdX1_spell none (xRn2 G0 MT (d + 2)) Q b 66 [some (.inr (.inr 9)), some (.inr (.inr 64)), some (.inr (.inr 14)), some (.inl k), some (.inl dp), some (.inl (h 15 k))] [] (tadds (tadd (tadds (tadds h (opB (h 15 k))) (f (h 16 k))) (sgB (h 15 k))) (f (h 17 k)))
          refine E2_s 2 (i' := 68) (ls' := [some (.inr (.inr 9)), some (.inr (.inr 64)), some (.inr (.inr 14)), some (.inl k), some (.inl dp), some (.inl (h 15 k))]) (sk' := [.inl 41, .inr (.inr 64)]) (h' := (tadds (tadd (tadds (tadds h (opB (h 15 k))) (f (h 16 k))) (sgB (h 15 k))) (f (h 17 k)))) rfl ?_
          refine E2_cv (x := (.invokevirtual 156, 1, [(8, 94)], [0])) (q := fun h9 => h9 = (tadd (tadds (tadd (tadds (tadds h (opB (h 15 k))) (f (h 16 k))) (sgB (h 15 k))) (f (h 17 k))) 41)) rfl rfl (Nat.le_of_ble_eq_true rfl) (xRn_2 _ _ _ _ _ _ (c_tadd (d + 1) 0 (tadds (tadd (tadds (tadds h (opB (h 15 k))) (f (h 16 k))) (sgB (h 15 k))) (f (h 17 k))) 41 ⟨by omega, by omega⟩ (by rw [tadds_l, tadd_l, tadds_l, tadds_l]; omega) ⟨rfl, rfl⟩)) (fun h9 e9 => ?_)
          subst e9
          show xEx2 RX1 G0 cdX1_spell none (xRn2 G0 MT (d + 2)) Q b 69 [some (.inr (.inr 9)), some (.inr (.inr 64)), some (.inr (.inr 14)), some (.inl k), some (.inl dp), some (.inl (h 15 k))] [] (tadd (tadds (tadd (tadds (tadds h (opB (h 15 k))) (f (h 16 k))) (sgB (h 15 k))) (f (h 17 k))) 41)
          exact E2_ret (x := (.return_, 0, [], [])) (v := none) rfl (trivial) (by
            have r9 := hQ
            rw [tx1_b (by omega) ⟨by omega, by omega⟩, tadds_a, tadds_a, tadds_a, tadds_a] at r9
            exact r9)
      · rw [c_ne (by first | assumption | (refine ⟨?_, ?_⟩ <;> omega) | (simp only [xr] at *; omega)) (by first | assumption | (refine ⟨?_, ?_⟩ <;> omega) | (simp only [xr] at *; omega))] at c22
        simp only [decide_eq_true_eq, decide_eq_false_iff_not, Decidable.not_not] at c22
        show xEx2 RX1 G0 cdX1_spell none (xRn2 G0 MT (d + 2)) Q b 23 [some (.inr (.inr 9)), some (.inr (.inr 64)), some (.inr (.inr 14)), some (.inl k), some (.inl dp), some (.inl (h 15 k))] [] h
        refine E2_s 4 (i' := 27) (ls' := [some (.inr (.inr 9)), some (.inr (.inr 64)), some (.inr (.inr 14)), some (.inl k), some (.inl dp), some (.inl (h 15 k))]) (sk' := [.inl k, .inr (.inr 16), .inr (.inr 64)]) (h' := h) rfl ?_
        refine E2_ld (x := (.iaload, 0, [], [])) (ty := .int) (n := 300) rfl rfl rfl (by omega) (by omega) ?_
        show xEx2 RX1 G0 cdX1_spell none (xRn2 G0 MT (d + 2)) Q b 28 [some (.inr (.inr 9)), some (.inr (.inr 64)), some (.inr (.inr 14)), some (.inl k), some (.inl dp), some (.inl (h 15 k))] [.inl (h 16 k), .inr (.inr 64)] h
        refine E2_cv (x := (.invokevirtual 162, 1, [(8, 96)], [0])) (q := fun h9 => h9 = (tadds h (dgt (h 16 k)))) rfl rfl (Nat.le_of_ble_eq_true rfl) (xRn_2 _ _ _ _ _ _ (c_tnum d 0 h (h 16 k) ⟨by omega, by omega⟩ ⟨by omega, by omega⟩ ⟨rfl, rfl⟩)) (fun h9 e9 => ?_)
        subst e9
        show xEx2 RX1 G0 cdX1_spell none (xRn2 G0 MT (d + 2)) Q b 29 [some (.inr (.inr 9)), some (.inr (.inr 64)), some (.inr (.inr 14)), some (.inl k), some (.inl dp), some (.inl (h 15 k))] [] (tadds h (dgt (h 16 k)))
        exact E2_ret (x := (.return_, 0, [], [])) (v := none) rfl (trivial) (by
          have r9 := hQ
          unfold tx1 at r9
          first
          | (exfalso; omega)
          | (rw [if_neg (by omega), if_pos (by omega)] at r9; exact r9))
  · rw [c_ne (by first | assumption | (refine ⟨?_, ?_⟩ <;> omega) | (simp only [xr] at *; omega)) (by first | assumption | (refine ⟨?_, ?_⟩ <;> omega) | (simp only [xr] at *; omega))] at c7
    simp only [decide_eq_true_eq, decide_eq_false_iff_not, Decidable.not_not] at c7
    show xEx2 RX1 G0 cdX1_spell none (xRn2 G0 MT (d + 2)) Q b 8 [some (.inr (.inr 9)), some (.inr (.inr 64)), some (.inr (.inr 14)), some (.inl k), some (.inl dp), some (.inl (h 15 k))] [] h
    refine E2_s 5 (i' := 13) (ls' := [some (.inr (.inr 9)), some (.inr (.inr 64)), some (.inr (.inr 14)), some (.inl k), some (.inl dp), some (.inl (h 15 k))]) (sk' := [.inl k, .inr (.inr 16), .inl 120, .inr (.inr 64)]) (h' := h) rfl ?_
    refine E2_ld (x := (.iaload, 0, [], [])) (ty := .int) (n := 300) rfl rfl rfl (by omega) (by omega) ?_
    show xEx2 RX1 G0 cdX1_spell none (xRn2 G0 MT (d + 2)) Q b 14 [some (.inr (.inr 9)), some (.inr (.inr 64)), some (.inr (.inr 14)), some (.inl k), some (.inl dp), some (.inl (h 15 k))] [.inl (h 16 k), .inl 120, .inr (.inr 64)] h
    refine E2_s 2 (i' := 16) (ls' := [some (.inr (.inr 9)), some (.inr (.inr 64)), some (.inr (.inr 14)), some (.inl k), some (.inl dp), some (.inl (h 15 k))]) (sk' := [.inl (xi2c (120 + (h 16 k))), .inr (.inr 64)]) (h' := h) rfl ?_
    refine E2_ti (y := (120 + (h 16 k))) (by rw [xi2c_id (by omega) (by omega)]) ?_
    skip
    refine E2_cv (x := (.invokevirtual 156, 1, [(8, 94)], [0])) (q := fun h9 => h9 = (tadd h (120 + (h 16 k)))) rfl rfl (Nat.le_of_ble_eq_true rfl) (xRn_2 _ _ _ _ _ _ (c_tadd (d + 1) 0 h (120 + (h 16 k)) ⟨by omega, by omega⟩ (by skip; omega) ⟨rfl, rfl⟩)) (fun h9 e9 => ?_)
    subst e9
    show xEx2 RX1 G0 cdX1_spell none (xRn2 G0 MT (d + 2)) Q b 17 [some (.inr (.inr 9)), some (.inr (.inr 64)), some (.inr (.inr 14)), some (.inl k), some (.inl dp), some (.inl (h 15 k))] [] (tadd h (120 + (h 16 k)))
    exact E2_ret (x := (.return_, 0, [], [])) (v := none) rfl (trivial) (by
      have r9 := hQ
      unfold tx1 at r9
      rw [if_pos (by omega)] at r9
      exact r9)
