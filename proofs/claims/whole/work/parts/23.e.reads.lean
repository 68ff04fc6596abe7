set_option maxHeartbeats 1000000 in
theorem c_refStrangers (d  : Nat) (h : xH) (s : Int) (hs : xr s) (hn : 0 ≤ h 1 2 ∧ h 1 2 ≤ 12) {Q : xO → xH → Prop} (h1 : (0 ≤ s ∧ s < (2 ^ (h 1 2).toNat : Nat)) → Q (.inl none) h) (h0 : ¬ (0 ≤ s ∧ s < (2 ^ (h 1 2).toNat : Nat)) → Q (.inr "java/lang/IllegalArgumentException") h) : xRn G0 MT (d + 2) 1 153 [.inr (.inr 0), .inl s] h Q := by
  refine R_of (M := mX11_refuseStrangers) rfl (Nat.le_of_ble_eq_true rfl) ?_
  show xEx G0 cdX11_refuseStrangers none (xRn G0 MT (d + 1)) Q 1 0 [some (.inr (.inr 0)), some (.inl s)] [] h
  refine E_s 3 (i' := 3) (ls' := [some (.inr (.inr 0)), some (.inl s)]) (sk' := [.inr (.inr 1), .inl s]) (h' := h) rfl ?_
  refine E_ci (x := (.invokevirtual 323, 0, [(0, 0)], [0])) (r := (xshl 1 (h 1 2) - 1)) (h' := h) rfl rfl (Nat.le_of_ble_eq_true rfl) (c_all d 0 h ⟨rfl, rfl⟩) ?_
  show xEx G0 cdX11_refuseStrangers none (xRn G0 MT (d + 1)) Q 1 4 [some (.inr (.inr 0)), some (.inl s)] [.inl (xshl 1 (h 1 2) - 1), .inl s] h
  refine E_s 3 (i' := 7) (ls' := [some (.inr (.inr 0)), some (.inl s)]) (sk' := [.inl (xand s (xxor (xshl 1 (h 1 2) - 1) (-1)))]) (h' := h) rfl ?_
  refine E_b (x := (.ifCond .eq 14, 13, [], [])) rfl rfl (fun c7 => ?_) (fun c7 => ?_)
  · rw [c_eq (by first | exact xand_r _ _ | exact ⟨by omega, by omega⟩) (by first | exact xand_r _ _ | exact ⟨by omega, by omega⟩)] at c7
    simp only [decide_eq_true_eq, decide_eq_false_iff_not, Decidable.not_not] at c7
    show xEx G0 cdX11_refuseStrangers none (xRn G0 MT (d + 1)) Q 1 13 [some (.inr (.inr 0)), some (.inl s)] [] h
    exact E_ret (x := (.return_, 0, [], [])) (v := none) rfl (trivial) (h1 ((str_iff hs hn.1 hn.2).mp c7))
  · rw [c_eq (by first | exact xand_r _ _ | exact ⟨by omega, by omega⟩) (by first | exact xand_r _ _ | exact ⟨by omega, by omega⟩)] at c7
    simp only [decide_eq_true_eq, decide_eq_false_iff_not, Decidable.not_not] at c7
    show xEx G0 cdX11_refuseStrangers none (xRn G0 MT (d + 1)) Q 1 8 [some (.inr (.inr 0)), some (.inl s)] [] h
    exact E_thr (x := (.new 80, 0, [(0, 1)], [])) rfl rfl rfl (Nat.le_of_ble_eq_true rfl) (h0 (fun z => c7 ((str_iff hs hn.1 hn.2).mpr z)))
set_option maxHeartbeats 1000000 in
theorem m_isSet (d b : Nat) (h : xH) (s : Int) (hs : xr s) (hn : 0 ≤ h 66 4 ∧ h 66 4 ≤ 12) {Q : xO → xH → Prop} (h1 : (0 ≤ s ∧ s < (2 ^ (h 66 4).toNat : Nat)) → Q (.inl (some (.inl 1))) h) (h0 : ¬ (0 ≤ s ∧ s < (2 ^ (h 66 4).toNat : Nat)) → Q (.inl (some (.inl 0))) h) : xRn G0 MT (d + 2) b 216 [.inr (.inr 66), .inl s] h Q := by
  refine R_of (M := mX12_isSet) rfl (Nat.le_of_ble_eq_true rfl) ?_
  show xEx G0 cdX12_isSet (some .boolean) (xRn G0 MT (d + 1)) Q b 0 [some (.inr (.inr 66)), some (.inl s)] [] h
  have ha := all_e hn.1 hn.2
  have hp := pw31 hn.2
  have hq := n_all hn.1 hn.2
  have hz := Nat.two_pow_pos (h 66 4).toNat
  refine E_s 3 (i' := 3) (ls' := [some (.inr (.inr 66)), some (.inl s)]) (sk' := [.inr (.inr 66), .inl 0, .inl s]) (h' := h) rfl ?_
  refine E_ci (x := (.invokevirtual 257, 0, [(10, 156)], [0])) (r := (xshl 1 (h 66 4) - 1)) (h' := h) rfl rfl (Nat.le_of_ble_eq_true rfl) (m_all d 0 h ⟨rfl, rfl⟩) ?_
  show xEx G0 cdX12_isSet (some .boolean) (xRn G0 MT (d + 1)) Q b 4 [some (.inr (.inr 66)), some (.inl s)] [.inl (xshl 1 (h 66 4) - 1), .inl 0, .inl s] h
  refine E_cp (x := (.invokestatic 180, 3, [(0, 155)], [])) (q := fun r h9 => ((r = 1 ∧ (0 ≤ s ∧ s ≤ xshl 1 (h 66 4) - 1)) ∨ (r = 0 ∧ ¬ (0 ≤ s ∧ s ≤ xshl 1 (h 66 4) - 1))) ∧ h = h9) rfl rfl (Nat.le_of_ble_eq_true rfl) (m_isIn d 0 h s 0 (xshl 1 (h 66 4) - 1) hs ⟨by omega, by omega⟩ ⟨by omega, by omega⟩ (fun z => ⟨_, rfl, Or.inl ⟨rfl, z⟩, rfl⟩) (fun z => ⟨_, rfl, Or.inr ⟨rfl, z⟩, rfl⟩)) (fun r h9 q1 => ?_)
  obtain ⟨q1, rfl⟩ := q1
  show xEx G0 cdX12_isSet (some .boolean) (xRn G0 MT (d + 1)) Q b 5 [some (.inr (.inr 66)), some (.inl s)] [.inl r] h
  exact E_ret (x := (.ireturn, 0, [], [])) (v := some (.inl r)) rfl (Or.inr ⟨rfl, by omega⟩) (by
    have : r = 1 ∨ r = 0 := by omega
    rcases this with e | e
    · subst e; exact h1 (by omega)
    · subst e; exact h0 (by omega))
set_option maxHeartbeats 1000000 in
theorem o_testOf (d  : Nat) (h : xH) (s : Int) (hs : xr s) (hn : 0 ≤ h 1 2 ∧ h 1 2 ≤ 12) {Q : xO → xH → Prop} (h1 : (0 ≤ s ∧ s < (2 ^ (h 1 2).toNat : Nat)) → Q (.inl (some (.inl (h 43 s)))) h) (h0 : ¬ (0 ≤ s ∧ s < (2 ^ (h 1 2).toNat : Nat)) → Q (.inr "java/lang/IllegalArgumentException") h) : xRn G0 MT (d + 6) 1 111 [.inr (.inr 0), .inl s] h Q := by
  refine R_of (M := mX11_testOf) rfl (Nat.le_of_ble_eq_true rfl) ?_
  show xEx G0 cdX11_testOf (some .int) (xRn G0 MT (d + 5)) Q 1 0 [some (.inr (.inr 0)), some (.inl s)] [] h
  refine E_s 2 (i' := 2) (ls' := [some (.inr (.inr 0)), some (.inl s)]) (sk' := [.inl s, .inr (.inr 0)]) (h' := h) rfl ?_
  refine E_cx (x := (.invokevirtual 238, 1, [(9, 153)], [0])) (b1 := 1) (b2 := 0) (v := none) (q := fun h9 => (0 ≤ s ∧ s < (2 ^ (h 1 2).toNat : Nat)) ∧ h = h9) rfl rfl (Nat.le_of_ble_eq_true rfl) (fun z => by cases z) (c_refStrangers (d + 3) h s hs hn (fun z => Or.inl ⟨rfl, z, rfl⟩) (fun z => Or.inr ⟨_, rfl, h0 z⟩)) (fun h9 hq9 => ?_)
  obtain ⟨qs, rfl⟩ := hq9
  show xEx G0 cdX11_testOf (some .int) (xRn G0 MT (d + 5)) Q 0 3 [some (.inr (.inr 0)), some (.inl s)] [] h
  have hp := pw31 hn.2
  refine E_s 4 (i' := 7) (ls' := [some (.inr (.inr 0)), some (.inl s)]) (sk' := [.inl s, .inr (.inr 43)]) (h' := h) rfl ?_
  refine E_ld (x := (.iaload, 0, [], [])) (ty := .int) (n := 4096) rfl rfl rfl (by omega) (by omega) ?_
  show xEx G0 cdX11_testOf (some .int) (xRn G0 MT (d + 5)) Q 0 8 [some (.inr (.inr 0)), some (.inl s)] [.inl (h 43 s)] h
  exact E_ret (x := (.ireturn, 0, [], [])) (v := some (.inl (h 43 s))) rfl (Or.inl rfl) (h1 qs)
set_option maxHeartbeats 1000000 in
theorem m_testOf (d b : Nat) (h : xH) (s : Int) (hs : xr s) (hr : ∀ k, 0 ≤ k → k < h 66 19 → 0 ≤ h 87 k ∧ h 87 k < 4096) (hn : 0 ≤ h 66 4 ∧ h 66 4 ≤ 12) (hM1 : 0 ≤ h 66 19 ∧ h 66 19 ≤ 150) {Q : xO → xH → Prop} (h1 : (0 ≤ s ∧ s < (2 ^ (h 66 4).toNat : Nat)) → ∀ k, 0 ≤ k → k < h 66 19 → h 87 k = s → Q (.inl (some (.inl (k)))) (xup h 66 0 0)) (h2 : (0 ≤ s ∧ s < (2 ^ (h 66 4).toNat : Nat)) → (∀ k, 0 ≤ k → k < h 66 19 → ¬ h 87 k = s) → Q (.inl (some (.inl (-1)))) (xup h 66 0 0)) (h0 : ¬ (0 ≤ s ∧ s < (2 ^ (h 66 4).toNat : Nat)) → Q (.inl (some (.inl (0)))) (xup h 66 0 1)) : xRn G0 MT (d + 6) b 217 [.inr (.inr 66), .inl s] h Q := by
  refine R_of (M := mX12_testOf) rfl (Nat.le_of_ble_eq_true rfl) ?_
  show xEx G0 cdX12_testOf (some .int) (xRn G0 MT (d + 5)) Q b 0 [some (.inr (.inr 66)), some (.inl s), none] [] h
  refine E_s 3 (i' := 3) (ls' := [some (.inr (.inr 66)), some (.inl s), none]) (sk' := [.inl s, .inr (.inr 66), .inr (.inr 66)]) (h' := h) rfl ?_
  refine E_cp (x := (.invokevirtual 372, 1, [(10, 216)], [0])) (q := fun r h9 => ((r = 1 ∧ (0 ≤ s ∧ s < (2 ^ (h 66 4).toNat : Nat))) ∨ (r = 0 ∧ ¬ (0 ≤ s ∧ s < (2 ^ (h 66 4).toNat : Nat)))) ∧ h = h9) rfl rfl (Nat.le_of_ble_eq_true rfl) (m_isSet (d + 3) 0 h s hs hn (fun z => ⟨_, rfl, Or.inl ⟨rfl, z⟩, rfl⟩) (fun z => ⟨_, rfl, Or.inr ⟨rfl, z⟩, rfl⟩)) (fun r h9 q1 => ?_)
  obtain ⟨q1, rfl⟩ := q1
  show xEx G0 cdX12_testOf (some .int) (xRn G0 MT (d + 5)) Q b 4 [some (.inr (.inr 66)), some (.inl s), none] [.inl r, .inr (.inr 66)] h
  refine E_b (x := (.ifCond .eq 7, 7, [], [])) rfl rfl (fun c4 => ?_) (fun c4 => ?_)
  · rw [c_eq (by first | assumption | (refine ⟨?_, ?_⟩ <;> omega) | (simp only [xr] at *; omega)) (by first | assumption | (refine ⟨?_, ?_⟩ <;> omega) | (simp only [xr] at *; omega))] at c4
    simp only [decide_eq_true_eq, decide_eq_false_iff_not, Decidable.not_not] at c4
    show xEx G0 cdX12_testOf (some .int) (xRn G0 MT (d + 5)) Q b 7 [some (.inr (.inr 66)), some (.inl s), none] [.inr (.inr 66)] h
    refine E_s 4 (i' := 11) (ls' := [some (.inr (.inr 66)), some (.inl s), none]) (sk' := [.inl 1]) (h' := (xup h 66 0 1)) rfl ?_
    refine E_b (x := (.ifCond .le 5, 14, [], [])) rfl rfl (fun c11 => ?_) (fun c11 => ?_)
    · show xEx G0 cdX12_testOf (some .int) (xRn G0 MT (d + 5)) Q b 14 [some (.inr (.inr 66)), some (.inl s), none] [] (xup h 66 0 1)
      exact absurd c11 (by decide)
    · show xEx G0 cdX12_testOf (some .int) (xRn G0 MT (d + 5)) Q b 12 [some (.inr (.inr 66)), some (.inl s), none] [] (xup h 66 0 1)
      refine E_s 1 (i' := 13) (ls' := [some (.inr (.inr 66)), some (.inl s), none]) (sk' := [.inl 0]) (h' := (xup h 66 0 1)) rfl ?_
      exact E_ret (x := (.ireturn, 0, [], [])) (v := some (.inl 0)) rfl (Or.inl rfl) (h0 (o0 q1 c4))
  · rw [c_eq (by first | assumption | (refine ⟨?_, ?_⟩ <;> omega) | (simp only [xr] at *; omega)) (by first | assumption | (refine ⟨?_, ?_⟩ <;> omega) | (simp only [xr] at *; omega))] at c4
    simp only [decide_eq_true_eq, decide_eq_false_iff_not, Decidable.not_not] at c4
    show xEx G0 cdX12_testOf (some .int) (xRn G0 MT (d + 5)) Q b 5 [some (.inr (.inr 66)), some (.inl s), none] [.inr (.inr 66)] h
    refine E_s 5 (i' := 11) (ls' := [some (.inr (.inr 66)), some (.inl s), none]) (sk' := [.inl 0]) (h' := (xup h 66 0 0)) rfl ?_
    refine E_b (x := (.ifCond .le 5, 14, [], [])) rfl rfl (fun c11 => ?_) (fun c11 => ?_)
    · show xEx G0 cdX12_testOf (some .int) (xRn G0 MT (d + 5)) Q b 14 [some (.inr (.inr 66)), some (.inl s), none] [] (xup h 66 0 0)
      refine E_s 2 (i' := 16) (ls' := [some (.inr (.inr 66)), some (.inl s), some (.inl 0)]) (sk' := []) (h' := (xup h 66 0 0)) rfl ?_
      have key16 : ∀ (n : Nat) (k : Int), (0 ≤ k) → (k ≤ h 66 19) → (∀ j, 0 ≤ j → j < k → ¬ h 87 j = s) → ((h 66 19 - k).toNat) < n → xEx G0 cdX12_testOf (some .int) (xRn G0 MT (d + 5)) Q b 16 [some (.inr (.inr 66)), some (.inl s), some (.inl k)] [] (xup h 66 0 0) := by
        intro n
        induction n with
        | zero => intro k _ _ _ hm; exact absurd hm (Nat.not_lt_zero _)
        | succ n ih16 =>
          intro k hk0 hk9 hno hm16
          refine E_s 3 (i' := 19) (ls' := [some (.inr (.inr 66)), some (.inl s), some (.inl k)]) (sk' := [.inl (h 66 19), .inl k]) (h' := (xup h 66 0 0)) rfl ?_
          refine E_b (x := (.if_icmp .ge 21, 30, [], [])) rfl rfl (fun c19 => ?_) (fun c19 => ?_)
          · rw [c_ge (by first | assumption | (refine ⟨?_, ?_⟩ <;> omega) | (simp only [xr] at *; omega)) (by first | assumption | (refine ⟨?_, ?_⟩ <;> omega) | (simp only [xr] at *; omega))] at c19
            simp only [decide_eq_true_eq, decide_eq_false_iff_not, Decidable.not_not] at c19
            show xEx G0 cdX12_testOf (some .int) (xRn G0 MT (d + 5)) Q b 30 [some (.inr (.inr 66)), some (.inl s), some (.inl k)] [] (xup h 66 0 0)
            refine E_s 1 (i' := 31) (ls' := [some (.inr (.inr 66)), some (.inl s), some (.inl k)]) (sk' := [.inl (-1)]) (h' := (xup h 66 0 0)) rfl ?_
            exact E_ret (x := (.ireturn, 0, [], [])) (v := some (.inl (-1))) rfl (Or.inl rfl) (h2 (o1 q1 c4) (fun j z1 z2 => hno j z1 (by omega)))
          · rw [c_ge (by first | assumption | (refine ⟨?_, ?_⟩ <;> omega) | (simp only [xr] at *; omega)) (by first | assumption | (refine ⟨?_, ?_⟩ <;> omega) | (simp only [xr] at *; omega))] at c19
            simp only [decide_eq_true_eq, decide_eq_false_iff_not, Decidable.not_not] at c19
            show xEx G0 cdX12_testOf (some .int) (xRn G0 MT (d + 5)) Q b 20 [some (.inr (.inr 66)), some (.inl s), some (.inl k)] [] (xup h 66 0 0)
            have r9 := hr k hk0 (by omega)
            refine E_s 3 (i' := 23) (ls' := [some (.inr (.inr 66)), some (.inl s), some (.inl k)]) (sk' := [.inl k, .inr (.inr 87)]) (h' := (xup h 66 0 0)) rfl ?_
            refine E_ld (x := (.iaload, 0, [], [])) (ty := .int) (n := 150) rfl rfl rfl (by omega) (by omega) ?_
            show xEx G0 cdX12_testOf (some .int) (xRn G0 MT (d + 5)) Q b 24 [some (.inr (.inr 66)), some (.inl s), some (.inl k)] [.inl (h 87 k)] (xup h 66 0 0)
            refine E_s 1 (i' := 25) (ls' := [some (.inr (.inr 66)), some (.inl s), some (.inl k)]) (sk' := [.inl s, .inl (h 87 k)]) (h' := (xup h 66 0 0)) rfl ?_
            refine E_b (x := (.if_icmp .ne 5, 28, [], [])) rfl rfl (fun c25 => ?_) (fun c25 => ?_)
            · rw [c_ne (by first | assumption | (refine ⟨?_, ?_⟩ <;> omega) | (simp only [xr] at *; omega)) (by first | assumption | (refine ⟨?_, ?_⟩ <;> omega) | (simp only [xr] at *; omega))] at c25
              simp only [decide_eq_true_eq, decide_eq_false_iff_not, Decidable.not_not] at c25
              show xEx G0 cdX12_testOf (some .int) (xRn G0 MT (d + 5)) Q b 28 [some (.inr (.inr 66)), some (.inl s), some (.inl k)] [] (xup h 66 0 0)
              refine E_s 2 (i' := 16) (ls' := [some (.inr (.inr 66)), some (.inl s), some (.inl (k + 1))]) (sk' := []) (h' := (xup h 66 0 0)) rfl ?_
              exact ih16 (k + 1) (by omega) (by omega) (fun j z1 z2 => by
                rcases Int.lt_or_eq_of_le (show j ≤ k by omega) with z9 | z9
                · exact hno j z1 z9
                · subst z9; exact c25) (by omega)
            · rw [c_ne (by first | assumption | (refine ⟨?_, ?_⟩ <;> omega) | (simp only [xr] at *; omega)) (by first | assumption | (refine ⟨?_, ?_⟩ <;> omega) | (simp only [xr] at *; omega))] at c25
              simp only [decide_eq_true_eq, decide_eq_false_iff_not, Decidable.not_not] at c25
              show xEx G0 cdX12_testOf (some .int) (xRn G0 MT (d + 5)) Q b 26 [some (.inr (.inr 66)), some (.inl s), some (.inl k)] [] (xup h 66 0 0)
              refine E_s 1 (i' := 27) (ls' := [some (.inr (.inr 66)), some (.inl s), some (.inl k)]) (sk' := [.inl k]) (h' := (xup h 66 0 0)) rfl ?_
              exact E_ret (x := (.ireturn, 0, [], [])) (v := some (.inl k)) rfl (Or.inl rfl) (h1 (o1 q1 c4) k hk0 (by omega) c25)
      exact key16 _ 0 (by omega) (by omega) (fun j z1 z2 => by omega) (Nat.lt_succ_self _)
    · show xEx G0 cdX12_testOf (some .int) (xRn G0 MT (d + 5)) Q b 12 [some (.inr (.inr 66)), some (.inl s), none] [] (xup h 66 0 0)
      exact absurd c11 (by decide)
set_option maxHeartbeats 1000000 in
theorem CO_testOf (d : Nat) {h : xH} (hI : Inv h) (s : Int) (hs : xr s) : CO (d + 6) 1 111 217 [.inl s] ["java/lang/IllegalArgumentException"] h := by
  obtain ⟨b0, b1, -, -, -, -, -, -, b9⟩ := Inv_t hI
  obtain ⟨c1, -, -, -, -, -, m4, -⟩ := Inv_b hI
  obtain ⟨-, -, -, k4⟩ := Inv_K hI
  have b8 : 0 ≤ h 66 19 ∧ h 66 19 ≤ 150 := by rw [b1]; exact b0
  have c8 : 0 ≤ h 66 4 ∧ h 66 4 ≤ 12 := by rw [m4]; exact c1
  have hp := pw31 c1.2
  have hr : ∀ k, 0 ≤ k → k < h 66 19 → 0 ≤ h 87 k ∧ h 87 k < 4096 := fun k z1 z2 => by
    rw [b1] at z2
    obtain ⟨-, -, e3, -, e5, -⟩ := b9 k z1 z2
    rw [e3]; omega
  refine o_testOf d h s hs c1 (fun q u => ?_) (fun q u => ?_)
  · have l := k4.1 s q.1 (by omega)
    refine m_testOf d 0 (xup h 112 0 u) s hs hr c8 b8 (fun _ k z1 z2 z3 => CO_v hI u ?_) (fun _ z => CO_v hI u ?_) (fun z => absurd (show 0 ≤ s ∧ s < (2 ^ (h 66 4).toNat : Nat) by rw [m4]; exact q) z)
    · have z2 : k < h 66 19 := z2
      have z3 : h 87 k = s := z3
      rw [b1] at z2
      rw [(b9 k z1 z2).2.2.1] at z3
      rcases l with ⟨-, l⟩ | ⟨l1, l2, l3, l4⟩
      · exact absurd z3 (l k z1 z2)
      · rcases Int.lt_trichotomy (h 43 s) k with y | y | y
        · exact absurd z3 (l4 k y z2)
        · exact y
        · exact absurd (z3.trans l3.symm) (k4.2.2 k (h 43 s) z1 y l2)
    · have z : ∀ k, 0 ≤ k → k < h 66 19 → ¬ h 87 k = s := z
      rcases l with ⟨l, -⟩ | ⟨l1, l2, l3, l4⟩
      · exact l
      · refine absurd ?_ (z (h 43 s) l1 (by omega))
        rw [(b9 _ l1 l2).2.2.1]
        exact l3
  · exact m_testOf d 0 (xup h 112 0 u) s hs hr c8 b8 (fun z => absurd (show 0 ≤ s ∧ s < (2 ^ (h 1 2).toNat : Nat) by rw [← m4]; exact z) q) (fun z => absurd (show 0 ≤ s ∧ s < (2 ^ (h 1 2).toNat : Nat) by rw [← m4]; exact z) q) (fun _ => CO_x hI 0 rfl u 0)
set_option maxHeartbeats 1000000 in
theorem o_fits (d  : Nat) (h : xH) (s w : Int) (hs : xr s) (hw : xr w) (hn : 0 ≤ h 1 2 ∧ h 1 2 ≤ 12) (hK0 : 0 ≤ h 9 9 ∧ h 9 9 ≤ 300) {Q : xO → xH → Prop} (h1 : (s ≠ 0 ∧ (0 ≤ s ∧ s < (2 ^ (h 1 2).toNat : Nat))) → w = 0 → ∀ k, 0 ≤ k → k < h 9 9 → sub s (h 20 k) → (∀ j, 0 ≤ j → j < k → ¬ sub s (h 20 j)) → Q (.inl (some (.inl (h 18 k)))) h) (h2 : (s ≠ 0 ∧ (0 ≤ s ∧ s < (2 ^ (h 1 2).toNat : Nat))) → w = 1 → ∀ k, 0 ≤ k → k < h 9 9 → sub s (h 20 k) → (∀ j, 0 ≤ j → j < k → ¬ sub s (h 20 j)) → Q (.inl (some (.inl (k)))) h) (h3 : (s ≠ 0 ∧ (0 ≤ s ∧ s < (2 ^ (h 1 2).toNat : Nat))) → (w = 0 ∨ w = 1) → (∀ j, 0 ≤ j → j < h 9 9 → ¬ sub s (h 20 j)) → Q (.inl (some (.inl (-1)))) h) (hA : ¬ (s ≠ 0 ∧ (0 ≤ s ∧ s < (2 ^ (h 1 2).toNat : Nat))) → Q (.inr "java/lang/IllegalArgumentException") h) (hN : (s ≠ 0 ∧ (0 ≤ s ∧ s < (2 ^ (h 1 2).toNat : Nat))) → ¬ (w = 0 ∨ w = 1) → Q (.inr "java/util/NoSuchElementException") h) : xRn G0 MT (d + 6) 3 134 [.inr (.inr 0), .inl s, .inl w] h Q := by
  refine R_of (M := mX11_fits) rfl (Nat.le_of_ble_eq_true rfl) ?_
  show xEx G0 cdX11_fits (some .int) (xRn G0 MT (d + 5)) Q 3 0 [some (.inr (.inr 0)), some (.inl s), some (.inl w), none] [] h
  refine E_s 1 (i' := 1) (ls' := [some (.inr (.inr 0)), some (.inl s), some (.inl w), none]) (sk' := [.inl s]) (h' := h) rfl ?_
  refine E_cx (x := (.invokestatic 350, 1, [(0, 152)], [])) (b1 := 1) (b2 := 2) (v := none) (q := fun h9 => (s ≠ 0) ∧ h = h9) rfl rfl (Nat.le_of_ble_eq_true rfl) (fun z => by cases z) (c_refEmpty (d + 4) h s hs (fun z => Or.inl ⟨rfl, z, rfl⟩) (fun z => Or.inr ⟨_, rfl, hA (fun y => z y.1)⟩)) (fun h9 hq9 => ?_)
  obtain ⟨qz, rfl⟩ := hq9
  show xEx G0 cdX11_fits (some .int) (xRn G0 MT (d + 5)) Q 2 2 [some (.inr (.inr 0)), some (.inl s), some (.inl w), none] [] h
  refine E_s 2 (i' := 4) (ls' := [some (.inr (.inr 0)), some (.inl s), some (.inl w), none]) (sk' := [.inl s, .inr (.inr 0)]) (h' := h) rfl ?_
  refine E_cx (x := (.invokevirtual 238, 1, [(9, 153)], [0])) (b1 := 1) (b2 := 1) (v := none) (q := fun h9 => (0 ≤ s ∧ s < (2 ^ (h 1 2).toNat : Nat)) ∧ h = h9) rfl rfl (Nat.le_of_ble_eq_true rfl) (fun z => by cases z) (c_refStrangers (d + 3) h s hs hn (fun z => Or.inl ⟨rfl, z, rfl⟩) (fun z => Or.inr ⟨_, rfl, hA (fun y => z y.2)⟩)) (fun h9 hq9 => ?_)
  obtain ⟨qs, rfl⟩ := hq9
  show xEx G0 cdX11_fits (some .int) (xRn G0 MT (d + 5)) Q 1 5 [some (.inr (.inr 0)), some (.inl s), some (.inl w), none] [] h
  refine E_s 1 (i' := 6) (ls' := [some (.inr (.inr 0)), some (.inl s), some (.inl w), none]) (sk' := [.inl w]) (h' := h) rfl ?_
  refine E_b (x := (.ifCond .eq 19, 15, [], [])) rfl rfl (fun c6 => ?_) (fun c6 => ?_)
  · rw [c_eq (by first | assumption | (refine ⟨?_, ?_⟩ <;> omega) | (simp only [xr] at *; omega)) (by first | assumption | (refine ⟨?_, ?_⟩ <;> omega) | (simp only [xr] at *; omega))] at c6
    simp only [decide_eq_true_eq, decide_eq_false_iff_not, Decidable.not_not] at c6
    show xEx G0 cdX11_fits (some .int) (xRn G0 MT (d + 5)) Q 1 15 [some (.inr (.inr 0)), some (.inl s), some (.inl w), none] [] h
    refine E_s 2 (i' := 17) (ls' := [some (.inr (.inr 0)), some (.inl s), some (.inl w), some (.inl 0)]) (sk' := []) (h' := h) rfl ?_
    have key17 : ∀ (n : Nat) (k : Int), (0 ≤ k) → (k ≤ h 9 9) → (∀ j, 0 ≤ j → j < k → ¬ sub s (h 20 j)) → (w = 0 ∨ w = 1) → ((h 9 9 - k).toNat) < n → xEx G0 cdX11_fits (some .int) (xRn G0 MT (d + 5)) Q 1 17 [some (.inr (.inr 0)), some (.inl s), some (.inl w), some (.inl k)] [] h := by
      intro n
      induction n with
      | zero => intro k _ _ _ _ hm; exact absurd hm (Nat.not_lt_zero _)
      | succ n ih17 =>
        intro k hk0 hk9 hno hw9 hm17
        refine E_s 4 (i' := 21) (ls' := [some (.inr (.inr 0)), some (.inl s), some (.inl w), some (.inl k)]) (sk' := [.inl (h 9 9), .inl k]) (h' := h) rfl ?_
        refine E_b (x := (.if_icmp .ge 43, 44, [], [])) rfl rfl (fun c21 => ?_) (fun c21 => ?_)
        · rw [c_ge (by first | assumption | (refine ⟨?_, ?_⟩ <;> omega) | (simp only [xr] at *; omega)) (by first | assumption | (refine ⟨?_, ?_⟩ <;> omega) | (simp only [xr] at *; omega))] at c21
          simp only [decide_eq_true_eq, decide_eq_false_iff_not, Decidable.not_not] at c21
          show xEx G0 cdX11_fits (some .int) (xRn G0 MT (d + 5)) Q 1 44 [some (.inr (.inr 0)), some (.inl s), some (.inl w), some (.inl k)] [] h
          refine E_s 1 (i' := 45) (ls' := [some (.inr (.inr 0)), some (.inl s), some (.inl w), some (.inl k)]) (sk' := [.inl (-1)]) (h' := h) rfl ?_
          exact E_ret (x := (.ireturn, 0, [], [])) (v := some (.inl (-1))) rfl (Or.inl rfl) (h3 ⟨qz, qs⟩ hw9 (fun j z1 z2 => hno j z1 (by omega)))
        · rw [c_ge (by first | assumption | (refine ⟨?_, ?_⟩ <;> omega) | (simp only [xr] at *; omega)) (by first | assumption | (refine ⟨?_, ?_⟩ <;> omega) | (simp only [xr] at *; omega))] at c21
          simp only [decide_eq_true_eq, decide_eq_false_iff_not, Decidable.not_not] at c21
          show xEx G0 cdX11_fits (some .int) (xRn G0 MT (d + 5)) Q 1 22 [some (.inr (.inr 0)), some (.inl s), some (.inl w), some (.inl k)] [] h
          refine E_s 5 (i' := 27) (ls' := [some (.inr (.inr 0)), some (.inl s), some (.inl w), some (.inl k)]) (sk' := [.inl k, .inr (.inr 20), .inl s]) (h' := h) rfl ?_
          refine E_ld (x := (.iaload, 0, [], [])) (ty := .int) (n := 300) rfl rfl rfl (by omega) (by omega) ?_
          show xEx G0 cdX11_fits (some .int) (xRn G0 MT (d + 5)) Q 1 28 [some (.inr (.inr 0)), some (.inl s), some (.inl w), some (.inl k)] [.inl (h 20 k), .inl s] h
          refine E_s 3 (i' := 31) (ls' := [some (.inr (.inr 0)), some (.inl s), some (.inl w), some (.inl k)]) (sk' := [.inl (xand s (xxor (h 20 k) (-1)))]) (h' := h) rfl ?_
          refine E_b (x := (.ifCond .ne 21, 42, [], [])) rfl rfl (fun c31 => ?_) (fun c31 => ?_)
          · rw [c_ne (by first | exact xand_r _ _ | exact ⟨by omega, by omega⟩) (by first | exact xand_r _ _ | exact ⟨by omega, by omega⟩)] at c31
            simp only [decide_eq_true_eq, decide_eq_false_iff_not, Decidable.not_not] at c31
            show xEx G0 cdX11_fits (some .int) (xRn G0 MT (d + 5)) Q 1 42 [some (.inr (.inr 0)), some (.inl s), some (.inl w), some (.inl k)] [] h
            refine E_s 2 (i' := 17) (ls' := [some (.inr (.inr 0)), some (.inl s), some (.inl w), some (.inl (k + 1))]) (sk' := []) (h' := h) rfl ?_
            exact ih17 (k + 1) (by omega) (by omega) (fun j z1 z2 => by
              rcases Int.lt_or_eq_of_le (show j ≤ k by omega) with z9 | z9
              · exact hno j z1 z9
              · subst z9; exact c31) hw9 (by omega)
          · rw [c_ne (by first | exact xand_r _ _ | exact ⟨by omega, by omega⟩) (by first | exact xand_r _ _ | exact ⟨by omega, by omega⟩)] at c31
            simp only [decide_eq_true_eq, decide_eq_false_iff_not, Decidable.not_not] at c31
            show xEx G0 cdX11_fits (some .int) (xRn G0 MT (d + 5)) Q 1 32 [some (.inr (.inr 0)), some (.inl s), some (.inl w), some (.inl k)] [] h
            refine E_s 1 (i' := 33) (ls' := [some (.inr (.inr 0)), some (.inl s), some (.inl w), some (.inl k)]) (sk' := [.inl w]) (h' := h) rfl ?_
            refine E_b (x := (.ifCond .ne 15, 40, [], [])) rfl rfl (fun c33 => ?_) (fun c33 => ?_)
            · rw [c_ne (by first | assumption | (refine ⟨?_, ?_⟩ <;> omega) | (simp only [xr] at *; omega)) (by first | assumption | (refine ⟨?_, ?_⟩ <;> omega) | (simp only [xr] at *; omega))] at c33
              simp only [decide_eq_true_eq, decide_eq_false_iff_not, Decidable.not_not] at c33
              show xEx G0 cdX11_fits (some .int) (xRn G0 MT (d + 5)) Q 1 40 [some (.inr (.inr 0)), some (.inl s), some (.inl w), some (.inl k)] [] h
              refine E_s 1 (i' := 41) (ls' := [some (.inr (.inr 0)), some (.inl s), some (.inl w), some (.inl k)]) (sk' := [.inl k]) (h' := h) rfl ?_
              exact E_ret (x := (.ireturn, 0, [], [])) (v := some (.inl k)) rfl (Or.inl rfl) (h2 ⟨qz, qs⟩ (by omega) k hk0 (by omega) c31 hno)
            · rw [c_ne (by first | assumption | (refine ⟨?_, ?_⟩ <;> omega) | (simp only [xr] at *; omega)) (by first | assumption | (refine ⟨?_, ?_⟩ <;> omega) | (simp only [xr] at *; omega))] at c33
              simp only [decide_eq_true_eq, decide_eq_false_iff_not, Decidable.not_not] at c33
              show xEx G0 cdX11_fits (some .int) (xRn G0 MT (d + 5)) Q 1 34 [some (.inr (.inr 0)), some (.inl s), some (.inl w), some (.inl k)] [] h
              refine E_s 4 (i' := 38) (ls' := [some (.inr (.inr 0)), some (.inl s), some (.inl w), some (.inl k)]) (sk' := [.inl k, .inr (.inr 18)]) (h' := h) rfl ?_
              refine E_ld (x := (.iaload, 0, [], [])) (ty := .int) (n := 300) rfl rfl rfl (by omega) (by omega) ?_
              show xEx G0 cdX11_fits (some .int) (xRn G0 MT (d + 5)) Q 1 39 [some (.inr (.inr 0)), some (.inl s), some (.inl w), some (.inl k)] [.inl (h 18 k)] h
              refine E_s 1 (i' := 41) (ls' := [some (.inr (.inr 0)), some (.inl s), some (.inl w), some (.inl k)]) (sk' := [.inl (h 18 k)]) (h' := h) rfl ?_
              exact E_ret (x := (.ireturn, 0, [], [])) (v := some (.inl (h 18 k))) rfl (Or.inl rfl) (h1 ⟨qz, qs⟩ (by omega) k hk0 (by omega) c31 hno)
    exact key17 _ 0 (by omega) (by omega) (fun j z1 z2 => by omega) (by omega) (Nat.lt_succ_self _)
  · rw [c_eq (by first | assumption | (refine ⟨?_, ?_⟩ <;> omega) | (simp only [xr] at *; omega)) (by first | assumption | (refine ⟨?_, ?_⟩ <;> omega) | (simp only [xr] at *; omega))] at c6
    simp only [decide_eq_true_eq, decide_eq_false_iff_not, Decidable.not_not] at c6
    show xEx G0 cdX11_fits (some .int) (xRn G0 MT (d + 5)) Q 1 7 [some (.inr (.inr 0)), some (.inl s), some (.inl w), none] [] h
    refine E_s 2 (i' := 9) (ls' := [some (.inr (.inr 0)), some (.inl s), some (.inl w), none]) (sk' := [.inl 1, .inl w]) (h' := h) rfl ?_
    refine E_b (x := (.if_icmp .eq 14, 15, [], [])) rfl rfl (fun c9 => ?_) (fun c9 => ?_)
    · rw [c_eq (by first | assumption | (refine ⟨?_, ?_⟩ <;> omega) | (simp only [xr] at *; omega)) (by first | assumption | (refine ⟨?_, ?_⟩ <;> omega) | (simp only [xr] at *; omega))] at c9
      simp only [decide_eq_true_eq, decide_eq_false_iff_not, Decidable.not_not] at c9
      show xEx G0 cdX11_fits (some .int) (xRn G0 MT (d + 5)) Q 1 15 [some (.inr (.inr 0)), some (.inl s), some (.inl w), none] [] h
      refine E_s 2 (i' := 17) (ls' := [some (.inr (.inr 0)), some (.inl s), some (.inl w), some (.inl 0)]) (sk' := []) (h' := h) rfl ?_
      have key17 : ∀ (n : Nat) (k : Int), (0 ≤ k) → (k ≤ h 9 9) → (∀ j, 0 ≤ j → j < k → ¬ sub s (h 20 j)) → (w = 0 ∨ w = 1) → ((h 9 9 - k).toNat) < n → xEx G0 cdX11_fits (some .int) (xRn G0 MT (d + 5)) Q 1 17 [some (.inr (.inr 0)), some (.inl s), some (.inl w), some (.inl k)] [] h := by
        intro n
        induction n with
        | zero => intro k _ _ _ _ hm; exact absurd hm (Nat.not_lt_zero _)
        | succ n ih17 =>
          intro k hk0 hk9 hno hw9 hm17
          refine E_s 4 (i' := 21) (ls' := [some (.inr (.inr 0)), some (.inl s), some (.inl w), some (.inl k)]) (sk' := [.inl (h 9 9), .inl k]) (h' := h) rfl ?_
          refine E_b (x := (.if_icmp .ge 43, 44, [], [])) rfl rfl (fun c21 => ?_) (fun c21 => ?_)
          · rw [c_ge (by first | assumption | (refine ⟨?_, ?_⟩ <;> omega) | (simp only [xr] at *; omega)) (by first | assumption | (refine ⟨?_, ?_⟩ <;> omega) | (simp only [xr] at *; omega))] at c21
            simp only [decide_eq_true_eq, decide_eq_false_iff_not, Decidable.not_not] at c21
            show xEx G0 cdX11_fits (some .int) (xRn G0 MT (d + 5)) Q 1 44 [some (.inr (.inr 0)), some (.inl s), some (.inl w), some (.inl k)] [] h
            refine E_s 1 (i' := 45) (ls' := [some (.inr (.inr 0)), some (.inl s), some (.inl w), some (.inl k)]) (sk' := [.inl (-1)]) (h' := h) rfl ?_
            exact E_ret (x := (.ireturn, 0, [], [])) (v := some (.inl (-1))) rfl (Or.inl rfl) (h3 ⟨qz, qs⟩ hw9 (fun j z1 z2 => hno j z1 (by omega)))
          · rw [c_ge (by first | assumption | (refine ⟨?_, ?_⟩ <;> omega) | (simp only [xr] at *; omega)) (by first | assumption | (refine ⟨?_, ?_⟩ <;> omega) | (simp only [xr] at *; omega))] at c21
            simp only [decide_eq_true_eq, decide_eq_false_iff_not, Decidable.not_not] at c21
            show xEx G0 cdX11_fits (some .int) (xRn G0 MT (d + 5)) Q 1 22 [some (.inr (.inr 0)), some (.inl s), some (.inl w), some (.inl k)] [] h
            refine E_s 5 (i' := 27) (ls' := [some (.inr (.inr 0)), some (.inl s), some (.inl w), some (.inl k)]) (sk' := [.inl k, .inr (.inr 20), .inl s]) (h' := h) rfl ?_
            refine E_ld (x := (.iaload, 0, [], [])) (ty := .int) (n := 300) rfl rfl rfl (by omega) (by omega) ?_
            show xEx G0 cdX11_fits (some .int) (xRn G0 MT (d + 5)) Q 1 28 [some (.inr (.inr 0)), some (.inl s), some (.inl w), some (.inl k)] [.inl (h 20 k), .inl s] h
            refine E_s 3 (i' := 31) (ls' := [some (.inr (.inr 0)), some (.inl s), some (.inl w), some (.inl k)]) (sk' := [.inl (xand s (xxor (h 20 k) (-1)))]) (h' := h) rfl ?_
            refine E_b (x := (.ifCond .ne 21, 42, [], [])) rfl rfl (fun c31 => ?_) (fun c31 => ?_)
            · rw [c_ne (by first | exact xand_r _ _ | exact ⟨by omega, by omega⟩) (by first | exact xand_r _ _ | exact ⟨by omega, by omega⟩)] at c31
              simp only [decide_eq_true_eq, decide_eq_false_iff_not, Decidable.not_not] at c31
              show xEx G0 cdX11_fits (some .int) (xRn G0 MT (d + 5)) Q 1 42 [some (.inr (.inr 0)), some (.inl s), some (.inl w), some (.inl k)] [] h
              refine E_s 2 (i' := 17) (ls' := [some (.inr (.inr 0)), some (.inl s), some (.inl w), some (.inl (k + 1))]) (sk' := []) (h' := h) rfl ?_
              exact ih17 (k + 1) (by omega) (by omega) (fun j z1 z2 => by
                rcases Int.lt_or_eq_of_le (show j ≤ k by omega) with z9 | z9
                · exact hno j z1 z9
                · subst z9; exact c31) hw9 (by omega)
            · rw [c_ne (by first | exact xand_r _ _ | exact ⟨by omega, by omega⟩) (by first | exact xand_r _ _ | exact ⟨by omega, by omega⟩)] at c31
              simp only [decide_eq_true_eq, decide_eq_false_iff_not, Decidable.not_not] at c31
              show xEx G0 cdX11_fits (some .int) (xRn G0 MT (d + 5)) Q 1 32 [some (.inr (.inr 0)), some (.inl s), some (.inl w), some (.inl k)] [] h
              refine E_s 1 (i' := 33) (ls' := [some (.inr (.inr 0)), some (.inl s), some (.inl w), some (.inl k)]) (sk' := [.inl w]) (h' := h) rfl ?_
              refine E_b (x := (.ifCond .ne 15, 40, [], [])) rfl rfl (fun c33 => ?_) (fun c33 => ?_)
              · rw [c_ne (by first | assumption | (refine ⟨?_, ?_⟩ <;> omega) | (simp only [xr] at *; omega)) (by first | assumption | (refine ⟨?_, ?_⟩ <;> omega) | (simp only [xr] at *; omega))] at c33
                simp only [decide_eq_true_eq, decide_eq_false_iff_not, Decidable.not_not] at c33
                show xEx G0 cdX11_fits (some .int) (xRn G0 MT (d + 5)) Q 1 40 [some (.inr (.inr 0)), some (.inl s), some (.inl w), some (.inl k)] [] h
                refine E_s 1 (i' := 41) (ls' := [some (.inr (.inr 0)), some (.inl s), some (.inl w), some (.inl k)]) (sk' := [.inl k]) (h' := h) rfl ?_
                exact E_ret (x := (.ireturn, 0, [], [])) (v := some (.inl k)) rfl (Or.inl rfl) (h2 ⟨qz, qs⟩ (by omega) k hk0 (by omega) c31 hno)
              · rw [c_ne (by first | assumption | (refine ⟨?_, ?_⟩ <;> omega) | (simp only [xr] at *; omega)) (by first | assumption | (refine ⟨?_, ?_⟩ <;> omega) | (simp only [xr] at *; omega))] at c33
                simp only [decide_eq_true_eq, decide_eq_false_iff_not, Decidable.not_not] at c33
                show xEx G0 cdX11_fits (some .int) (xRn G0 MT (d + 5)) Q 1 34 [some (.inr (.inr 0)), some (.inl s), some (.inl w), some (.inl k)] [] h
                refine E_s 4 (i' := 38) (ls' := [some (.inr (.inr 0)), some (.inl s), some (.inl w), some (.inl k)]) (sk' := [.inl k, .inr (.inr 18)]) (h' := h) rfl ?_
                refine E_ld (x := (.iaload, 0, [], [])) (ty := .int) (n := 300) rfl rfl rfl (by omega) (by omega) ?_
                show xEx G0 cdX11_fits (some .int) (xRn G0 MT (d + 5)) Q 1 39 [some (.inr (.inr 0)), some (.inl s), some (.inl w), some (.inl k)] [.inl (h 18 k)] h
                refine E_s 1 (i' := 41) (ls' := [some (.inr (.inr 0)), some (.inl s), some (.inl w), some (.inl k)]) (sk' := [.inl (h 18 k)]) (h' := h) rfl ?_
                exact E_ret (x := (.ireturn, 0, [], [])) (v := some (.inl (h 18 k))) rfl (Or.inl rfl) (h1 ⟨qz, qs⟩ (by omega) k hk0 (by omega) c31 hno)
      exact key17 _ 0 (by omega) (by omega) (fun j z1 z2 => by omega) (by omega) (Nat.lt_succ_self _)
    · rw [c_eq (by first | assumption | (refine ⟨?_, ?_⟩ <;> omega) | (simp only [xr] at *; omega)) (by first | assumption | (refine ⟨?_, ?_⟩ <;> omega) | (simp only [xr] at *; omega))] at c9
      simp only [decide_eq_true_eq, decide_eq_false_iff_not, Decidable.not_not] at c9
      show xEx G0 cdX11_fits (some .int) (xRn G0 MT (d + 5)) Q 1 10 [some (.inr (.inr 0)), some (.inl s), some (.inl w), none] [] h
      exact E_thr (x := (.new 189, 0, [(2, 1)], [])) rfl rfl rfl (Nat.le_of_ble_eq_true rfl) (hN ⟨qz, qs⟩ (by omega))
set_option maxHeartbeats 1000000 in
theorem m_fits (d b : Nat) (h : xH) (s w : Int) (hs : xr s) (hw : xr w) (hn : 0 ≤ h 66 4 ∧ h 66 4 ≤ 12) (hM0 : 0 ≤ h 66 8 ∧ h 66 8 ≤ 300) {Q : xO → xH → Prop} (h1 : (s ≠ 0 ∧ (0 ≤ s ∧ s < (2 ^ (h 66 4).toNat : Nat))) → w = 0 → ∀ k, 0 ≤ k → k < h 66 8 → xand (h 78 k) s = s → (∀ j, 0 ≤ j → j < k → ¬ xand (h 78 j) s = s) → Q (.inl (some (.inl (h 75 k)))) (xup h 66 0 0)) (h2 : (s ≠ 0 ∧ (0 ≤ s ∧ s < (2 ^ (h 66 4).toNat : Nat))) → w = 1 → ∀ k, 0 ≤ k → k < h 66 8 → xand (h 78 k) s = s → (∀ j, 0 ≤ j → j < k → ¬ xand (h 78 j) s = s) → Q (.inl (some (.inl (k)))) (xup h 66 0 0)) (h3 : (s ≠ 0 ∧ (0 ≤ s ∧ s < (2 ^ (h 66 4).toNat : Nat))) → (w = 0 ∨ w = 1) → (∀ j, 0 ≤ j → j < h 66 8 → ¬ xand (h 78 j) s = s) → Q (.inl (some (.inl (-1)))) (xup h 66 0 0)) (hA : ¬ (s ≠ 0 ∧ (0 ≤ s ∧ s < (2 ^ (h 66 4).toNat : Nat))) → Q (.inl (some (.inl (0)))) (xup h 66 0 1)) (hN : (s ≠ 0 ∧ (0 ≤ s ∧ s < (2 ^ (h 66 4).toNat : Nat))) → ¬ (w = 0 ∨ w = 1) → Q (.inl (some (.inl (0)))) (xup h 66 0 2)) : xRn G0 MT (d + 6) b 248 [.inr (.inr 66), .inl s, .inl w] h Q := by
  refine R_of (M := mX12_fits) rfl (Nat.le_of_ble_eq_true rfl) ?_
  show xEx G0 cdX12_fits (some .int) (xRn G0 MT (d + 5)) Q b 0 [some (.inr (.inr 66)), some (.inl s), some (.inl w), none] [] h
  refine E_s 3 (i' := 3) (ls' := [some (.inr (.inr 66)), some (.inl s), some (.inl w), none]) (sk' := [.inl s, .inr (.inr 66), .inr (.inr 66)]) (h' := h) rfl ?_
  refine E_cp (x := (.invokevirtual 372, 1, [(10, 216)], [0])) (q := fun r1 h9 => ((r1 = 1 ∧ (0 ≤ s ∧ s < (2 ^ (h 66 4).toNat : Nat))) ∨ (r1 = 0 ∧ ¬ (0 ≤ s ∧ s < (2 ^ (h 66 4).toNat : Nat)))) ∧ h = h9) rfl rfl (Nat.le_of_ble_eq_true rfl) (m_isSet (d + 3) 0 h s hs hn (fun z => ⟨_, rfl, Or.inl ⟨rfl, z⟩, rfl⟩) (fun z => ⟨_, rfl, Or.inr ⟨rfl, z⟩, rfl⟩)) (fun r1 h9 q1 => ?_)
  obtain ⟨q1, rfl⟩ := q1
  show xEx G0 cdX12_fits (some .int) (xRn G0 MT (d + 5)) Q b 4 [some (.inr (.inr 66)), some (.inl s), some (.inl w), none] [.inl r1, .inr (.inr 66)] h
  refine E_b (x := (.ifCond .eq 7, 7, [], [])) rfl rfl (fun c4 => ?_) (fun c4 => ?_)
  · rw [c_eq (by first | assumption | (refine ⟨?_, ?_⟩ <;> omega) | (simp only [xr] at *; omega)) (by first | assumption | (refine ⟨?_, ?_⟩ <;> omega) | (simp only [xr] at *; omega))] at c4
    simp only [decide_eq_true_eq, decide_eq_false_iff_not, Decidable.not_not] at c4
    show xEx G0 cdX12_fits (some .int) (xRn G0 MT (d + 5)) Q b 7 [some (.inr (.inr 66)), some (.inl s), some (.inl w), none] [.inr (.inr 66)] h
    refine E_s 3 (i' := 18) (ls' := [some (.inr (.inr 66)), some (.inl s), some (.inl w), none]) (sk' := []) (h' := (xup h 66 0 1)) rfl ?_
    
    refine E_s 2 (i' := 20) (ls' := [some (.inr (.inr 66)), some (.inl s), some (.inl w), none]) (sk' := [.inl 1]) (h' := (xup h 66 0 1)) rfl ?_
    refine E_b (x := (.ifCond .le 5, 23, [], [])) rfl rfl (fun c20 => ?_) (fun c20 => ?_)
    · show xEx G0 cdX12_fits (some .int) (xRn G0 MT (d + 5)) Q b 23 [some (.inr (.inr 66)), some (.inl s), some (.inl w), none] [] (xup h 66 0 1)
      exact absurd c20 (by decide)
    · show xEx G0 cdX12_fits (some .int) (xRn G0 MT (d + 5)) Q b 21 [some (.inr (.inr 66)), some (.inl s), some (.inl w), none] [] (xup h 66 0 1)
      refine E_s 1 (i' := 22) (ls' := [some (.inr (.inr 66)), some (.inl s), some (.inl w), none]) (sk' := [.inl 0]) (h' := (xup h 66 0 1)) rfl ?_
      exact E_ret (x := (.ireturn, 0, [], [])) (v := some (.inl 0)) rfl (Or.inl rfl) (hA (fun z => by first | exact c6 z | exact o0 q1 c4 z.2 | exact z.1 c6))
  · rw [c_eq (by first | assumption | (refine ⟨?_, ?_⟩ <;> omega) | (simp only [xr] at *; omega)) (by first | assumption | (refine ⟨?_, ?_⟩ <;> omega) | (simp only [xr] at *; omega))] at c4
    simp only [decide_eq_true_eq, decide_eq_false_iff_not, Decidable.not_not] at c4
    show xEx G0 cdX12_fits (some .int) (xRn G0 MT (d + 5)) Q b 5 [some (.inr (.inr 66)), some (.inl s), some (.inl w), none] [.inr (.inr 66)] h
    refine E_s 1 (i' := 6) (ls' := [some (.inr (.inr 66)), some (.inl s), some (.inl w), none]) (sk' := [.inl s, .inr (.inr 66)]) (h' := h) rfl ?_
    refine E_b (x := (.ifCond .ne 7, 9, [], [])) rfl rfl (fun c6 => ?_) (fun c6 => ?_)
    · rw [c_ne (by first | assumption | (refine ⟨?_, ?_⟩ <;> omega) | (simp only [xr] at *; omega)) (by first | assumption | (refine ⟨?_, ?_⟩ <;> omega) | (simp only [xr] at *; omega))] at c6
      simp only [decide_eq_true_eq, decide_eq_false_iff_not, Decidable.not_not] at c6
      show xEx G0 cdX12_fits (some .int) (xRn G0 MT (d + 5)) Q b 9 [some (.inr (.inr 66)), some (.inl s), some (.inl w), none] [.inr (.inr 66)] h
      refine E_s 3 (i' := 12) (ls' := [some (.inr (.inr 66)), some (.inl s), some (.inl w), none]) (sk' := [.inl 1, .inl 0, .inl w, .inr (.inr 66)]) (h' := h) rfl ?_
      refine E_cp (x := (.invokestatic 180, 3, [(0, 155)], [])) (q := fun r2 h9 => ((r2 = 1 ∧ (0 ≤ w ∧ w ≤ 1)) ∨ (r2 = 0 ∧ ¬ (0 ≤ w ∧ w ≤ 1))) ∧ h = h9) rfl rfl (Nat.le_of_ble_eq_true rfl) (m_isIn (d + 4) 0 (h) w 0 1 hw ⟨by omega, by omega⟩ ⟨by omega, by omega⟩ (fun z => ⟨_, rfl, Or.inl ⟨rfl, z⟩, rfl⟩) (fun z => ⟨_, rfl, Or.inr ⟨rfl, z⟩, rfl⟩)) (fun r2 h9 q2 => ?_)
      obtain ⟨q2, rfl⟩ := q2
      show xEx G0 cdX12_fits (some .int) (xRn G0 MT (d + 5)) Q b 13 [some (.inr (.inr 66)), some (.inl s), some (.inl w), none] [.inl r2, .inr (.inr 66)] h
      refine E_b (x := (.ifCond .ne 7, 16, [], [])) rfl rfl (fun c13 => ?_) (fun c13 => ?_)
      · rw [c_ne (by first | assumption | (refine ⟨?_, ?_⟩ <;> omega) | (simp only [xr] at *; omega)) (by first | assumption | (refine ⟨?_, ?_⟩ <;> omega) | (simp only [xr] at *; omega))] at c13
        simp only [decide_eq_true_eq, decide_eq_false_iff_not, Decidable.not_not] at c13
        show xEx G0 cdX12_fits (some .int) (xRn G0 MT (d + 5)) Q b 16 [some (.inr (.inr 66)), some (.inl s), some (.inl w), none] [.inr (.inr 66)] h
        have hok : s ≠ 0 ∧ (0 ≤ s ∧ s < (2 ^ (h 66 4).toNat : Nat)) := ⟨c6, o1 q1 c4⟩
        refine E_s 2 (i' := 18) (ls' := [some (.inr (.inr 66)), some (.inl s), some (.inl w), none]) (sk' := []) (h' := (xup h 66 0 0)) rfl ?_
        
        refine E_s 2 (i' := 20) (ls' := [some (.inr (.inr 66)), some (.inl s), some (.inl w), none]) (sk' := [.inl 0]) (h' := (xup h 66 0 0)) rfl ?_
        refine E_b (x := (.ifCond .le 5, 23, [], [])) rfl rfl (fun c20 => ?_) (fun c20 => ?_)
        · show xEx G0 cdX12_fits (some .int) (xRn G0 MT (d + 5)) Q b 23 [some (.inr (.inr 66)), some (.inl s), some (.inl w), none] [] (xup h 66 0 0)
          refine E_s 2 (i' := 25) (ls' := [some (.inr (.inr 66)), some (.inl s), some (.inl w), some (.inl 0)]) (sk' := []) (h' := (xup h 66 0 0)) rfl ?_
          have key25 : ∀ (n : Nat) (k : Int), (0 ≤ k) → (k ≤ h 66 8) → (∀ j, 0 ≤ j → j < k → ¬ xand (h 78 j) s = s) → ((h 66 8 - k).toNat) < n → xEx G0 cdX12_fits (some .int) (xRn G0 MT (d + 5)) Q b 25 [some (.inr (.inr 66)), some (.inl s), some (.inl w), some (.inl k)] [] (xup h 66 0 0) := by
            intro n
            induction n with
            | zero => intro k _ _ _ hm; exact absurd hm (Nat.not_lt_zero _)
            | succ n ih25 =>
              intro k hk0 hk9 hno hm25
              refine E_s 3 (i' := 28) (ls' := [some (.inr (.inr 66)), some (.inl s), some (.inl w), some (.inl k)]) (sk' := [.inl (h 66 8), .inl k]) (h' := (xup h 66 0 0)) rfl ?_
              refine E_b (x := (.if_icmp .ge 36, 48, [], [])) rfl rfl (fun c28 => ?_) (fun c28 => ?_)
              · rw [c_ge (by first | assumption | (refine ⟨?_, ?_⟩ <;> omega) | (simp only [xr] at *; omega)) (by first | assumption | (refine ⟨?_, ?_⟩ <;> omega) | (simp only [xr] at *; omega))] at c28
                simp only [decide_eq_true_eq, decide_eq_false_iff_not, Decidable.not_not] at c28
                show xEx G0 cdX12_fits (some .int) (xRn G0 MT (d + 5)) Q b 48 [some (.inr (.inr 66)), some (.inl s), some (.inl w), some (.inl k)] [] (xup h 66 0 0)
                refine E_s 1 (i' := 49) (ls' := [some (.inr (.inr 66)), some (.inl s), some (.inl w), some (.inl k)]) (sk' := [.inl (-1)]) (h' := (xup h 66 0 0)) rfl ?_
                exact E_ret (x := (.ireturn, 0, [], [])) (v := some (.inl (-1))) rfl (Or.inl rfl) (h3 hok (by omega) (fun j z1 z2 => hno j z1 (by omega)))
              · rw [c_ge (by first | assumption | (refine ⟨?_, ?_⟩ <;> omega) | (simp only [xr] at *; omega)) (by first | assumption | (refine ⟨?_, ?_⟩ <;> omega) | (simp only [xr] at *; omega))] at c28
                simp only [decide_eq_true_eq, decide_eq_false_iff_not, Decidable.not_not] at c28
                show xEx G0 cdX12_fits (some .int) (xRn G0 MT (d + 5)) Q b 29 [some (.inr (.inr 66)), some (.inl s), some (.inl w), some (.inl k)] [] (xup h 66 0 0)
                refine E_s 3 (i' := 32) (ls' := [some (.inr (.inr 66)), some (.inl s), some (.inl w), some (.inl k)]) (sk' := [.inl k, .inr (.inr 78)]) (h' := (xup h 66 0 0)) rfl ?_
                refine E_ld (x := (.iaload, 0, [], [])) (ty := .int) (n := 300) rfl rfl rfl (by omega) (by omega) ?_
                show xEx G0 cdX12_fits (some .int) (xRn G0 MT (d + 5)) Q b 33 [some (.inr (.inr 66)), some (.inl s), some (.inl w), some (.inl k)] [.inl (h 78 k)] (xup h 66 0 0)
                refine E_s 3 (i' := 36) (ls' := [some (.inr (.inr 66)), some (.inl s), some (.inl w), some (.inl k)]) (sk' := [.inl s, .inl (xand (h 78 k) s)]) (h' := (xup h 66 0 0)) rfl ?_
                refine E_b (x := (.if_icmp .ne 18, 46, [], [])) rfl rfl (fun c36 => ?_) (fun c36 => ?_)
                · rw [c_ne (by first | exact xand_r _ _ | exact hs) (by first | exact xand_r _ _ | exact hs)] at c36
                  simp only [decide_eq_true_eq, decide_eq_false_iff_not, Decidable.not_not] at c36
                  show xEx G0 cdX12_fits (some .int) (xRn G0 MT (d + 5)) Q b 46 [some (.inr (.inr 66)), some (.inl s), some (.inl w), some (.inl k)] [] (xup h 66 0 0)
                  refine E_s 2 (i' := 25) (ls' := [some (.inr (.inr 66)), some (.inl s), some (.inl w), some (.inl (k + 1))]) (sk' := []) (h' := (xup h 66 0 0)) rfl ?_
                  exact ih25 (k + 1) (by omega) (by omega) (fun j z1 z2 => by
                    rcases Int.lt_or_eq_of_le (show j ≤ k by omega) with z9 | z9
                    · exact hno j z1 z9
                    · subst z9; exact c36) (by omega)
                · rw [c_ne (by first | exact xand_r _ _ | exact hs) (by first | exact xand_r _ _ | exact hs)] at c36
                  simp only [decide_eq_true_eq, decide_eq_false_iff_not, Decidable.not_not] at c36
                  show xEx G0 cdX12_fits (some .int) (xRn G0 MT (d + 5)) Q b 37 [some (.inr (.inr 66)), some (.inl s), some (.inl w), some (.inl k)] [] (xup h 66 0 0)
                  refine E_s 1 (i' := 38) (ls' := [some (.inr (.inr 66)), some (.inl s), some (.inl w), some (.inl k)]) (sk' := [.inl w]) (h' := (xup h 66 0 0)) rfl ?_
                  refine E_b (x := (.ifCond .ne 12, 44, [], [])) rfl rfl (fun c38 => ?_) (fun c38 => ?_)
                  · rw [c_ne (by first | assumption | (refine ⟨?_, ?_⟩ <;> omega) | (simp only [xr] at *; omega)) (by first | assumption | (refine ⟨?_, ?_⟩ <;> omega) | (simp only [xr] at *; omega))] at c38
                    simp only [decide_eq_true_eq, decide_eq_false_iff_not, Decidable.not_not] at c38
                    show xEx G0 cdX12_fits (some .int) (xRn G0 MT (d + 5)) Q b 44 [some (.inr (.inr 66)), some (.inl s), some (.inl w), some (.inl k)] [] (xup h 66 0 0)
                    refine E_s 1 (i' := 45) (ls' := [some (.inr (.inr 66)), some (.inl s), some (.inl w), some (.inl k)]) (sk' := [.inl k]) (h' := (xup h 66 0 0)) rfl ?_
                    exact E_ret (x := (.ireturn, 0, [], [])) (v := some (.inl k)) rfl (Or.inl rfl) (h2 hok (by omega) k hk0 (by omega) c36 hno)
                  · rw [c_ne (by first | assumption | (refine ⟨?_, ?_⟩ <;> omega) | (simp only [xr] at *; omega)) (by first | assumption | (refine ⟨?_, ?_⟩ <;> omega) | (simp only [xr] at *; omega))] at c38
                    simp only [decide_eq_true_eq, decide_eq_false_iff_not, Decidable.not_not] at c38
                    show xEx G0 cdX12_fits (some .int) (xRn G0 MT (d + 5)) Q b 39 [some (.inr (.inr 66)), some (.inl s), some (.inl w), some (.inl k)] [] (xup h 66 0 0)
                    refine E_s 3 (i' := 42) (ls' := [some (.inr (.inr 66)), some (.inl s), some (.inl w), some (.inl k)]) (sk' := [.inl k, .inr (.inr 75)]) (h' := (xup h 66 0 0)) rfl ?_
                    refine E_ld (x := (.iaload, 0, [], [])) (ty := .int) (n := 300) rfl rfl rfl (by omega) (by omega) ?_
                    show xEx G0 cdX12_fits (some .int) (xRn G0 MT (d + 5)) Q b 43 [some (.inr (.inr 66)), some (.inl s), some (.inl w), some (.inl k)] [.inl (h 75 k)] (xup h 66 0 0)
                    refine E_s 1 (i' := 45) (ls' := [some (.inr (.inr 66)), some (.inl s), some (.inl w), some (.inl k)]) (sk' := [.inl (h 75 k)]) (h' := (xup h 66 0 0)) rfl ?_
                    exact E_ret (x := (.ireturn, 0, [], [])) (v := some (.inl (h 75 k))) rfl (Or.inl rfl) (h1 hok (by omega) k hk0 (by omega) c36 hno)
          exact key25 _ 0 (by omega) (by omega) (fun j z1 z2 => by omega) (Nat.lt_succ_self _)
        · show xEx G0 cdX12_fits (some .int) (xRn G0 MT (d + 5)) Q b 21 [some (.inr (.inr 66)), some (.inl s), some (.inl w), none] [] (xup h 66 0 0)
          exact absurd c20 (by decide)
      · rw [c_ne (by first | assumption | (refine ⟨?_, ?_⟩ <;> omega) | (simp only [xr] at *; omega)) (by first | assumption | (refine ⟨?_, ?_⟩ <;> omega) | (simp only [xr] at *; omega))] at c13
        simp only [decide_eq_true_eq, decide_eq_false_iff_not, Decidable.not_not] at c13
        show xEx G0 cdX12_fits (some .int) (xRn G0 MT (d + 5)) Q b 14 [some (.inr (.inr 66)), some (.inl s), some (.inl w), none] [.inr (.inr 66)] h
        refine E_s 1 (i' := 15) (ls' := [some (.inr (.inr 66)), some (.inl s), some (.inl w), none]) (sk' := [.inl 2, .inr (.inr 66)]) (h' := h) rfl ?_
        
        refine E_s 2 (i' := 18) (ls' := [some (.inr (.inr 66)), some (.inl s), some (.inl w), none]) (sk' := []) (h' := (xup h 66 0 2)) rfl ?_
        
        refine E_s 2 (i' := 20) (ls' := [some (.inr (.inr 66)), some (.inl s), some (.inl w), none]) (sk' := [.inl 2]) (h' := (xup h 66 0 2)) rfl ?_
        refine E_b (x := (.ifCond .le 5, 23, [], [])) rfl rfl (fun c20 => ?_) (fun c20 => ?_)
        · show xEx G0 cdX12_fits (some .int) (xRn G0 MT (d + 5)) Q b 23 [some (.inr (.inr 66)), some (.inl s), some (.inl w), none] [] (xup h 66 0 2)
          exact absurd c20 (by decide)
        · show xEx G0 cdX12_fits (some .int) (xRn G0 MT (d + 5)) Q b 21 [some (.inr (.inr 66)), some (.inl s), some (.inl w), none] [] (xup h 66 0 2)
          refine E_s 1 (i' := 22) (ls' := [some (.inr (.inr 66)), some (.inl s), some (.inl w), none]) (sk' := [.inl 0]) (h' := (xup h 66 0 2)) rfl ?_
          exact E_ret (x := (.ireturn, 0, [], [])) (v := some (.inl 0)) rfl (Or.inl rfl) (hN ⟨c6, o1 q1 c4⟩ (by omega))
    · rw [c_ne (by first | assumption | (refine ⟨?_, ?_⟩ <;> omega) | (simp only [xr] at *; omega)) (by first | assumption | (refine ⟨?_, ?_⟩ <;> omega) | (simp only [xr] at *; omega))] at c6
      simp only [decide_eq_true_eq, decide_eq_false_iff_not, Decidable.not_not] at c6
      show xEx G0 cdX12_fits (some .int) (xRn G0 MT (d + 5)) Q b 7 [some (.inr (.inr 66)), some (.inl s), some (.inl w), none] [.inr (.inr 66)] h
      refine E_s 3 (i' := 18) (ls' := [some (.inr (.inr 66)), some (.inl s), some (.inl w), none]) (sk' := []) (h' := (xup h 66 0 1)) rfl ?_
      
      refine E_s 2 (i' := 20) (ls' := [some (.inr (.inr 66)), some (.inl s), some (.inl w), none]) (sk' := [.inl 1]) (h' := (xup h 66 0 1)) rfl ?_
      refine E_b (x := (.ifCond .le 5, 23, [], [])) rfl rfl (fun c20 => ?_) (fun c20 => ?_)
      · show xEx G0 cdX12_fits (some .int) (xRn G0 MT (d + 5)) Q b 23 [some (.inr (.inr 66)), some (.inl s), some (.inl w), none] [] (xup h 66 0 1)
        exact absurd c20 (by decide)
      · show xEx G0 cdX12_fits (some .int) (xRn G0 MT (d + 5)) Q b 21 [some (.inr (.inr 66)), some (.inl s), some (.inl w), none] [] (xup h 66 0 1)
        refine E_s 1 (i' := 22) (ls' := [some (.inr (.inr 66)), some (.inl s), some (.inl w), none]) (sk' := [.inl 0]) (h' := (xup h 66 0 1)) rfl ?_
        exact E_ret (x := (.ireturn, 0, [], [])) (v := some (.inl 0)) rfl (Or.inl rfl) (hA (fun z => by first | exact c6 z | exact o0 q1 c4 z.2 | exact z.1 c6))
