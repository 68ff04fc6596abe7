theorem first_e {P R : Int → Prop} {K k k2 : Int} (e : ∀ j, 0 ≤ j → j < K → (R j ↔ P j)) (a : 0 ≤ k) (b : k < K) (p : P k) (l : ∀ j, 0 ≤ j → j < k → ¬ P j) (a2 : 0 ≤ k2) (b2 : k2 < K) (r : R k2) (l2 : ∀ j, 0 ≤ j → j < k2 → ¬ R j) : k = k2 := by
  rcases Int.lt_trichotomy k k2 with z | z | z
  · exact absurd ((e k a b).mpr p) (l2 k a z)
  · exact z
  · exact absurd ((e k2 a2 b2).mp r) (l k2 a2 z)
set_option maxHeartbeats 1000000 in
theorem CO_fits (d : Nat) {h : xH} (hI : Inv h) (s w : Int) (hs : xr s) (hw : xr w) : CO (d + 6) 3 134 248 [.inl s, .inl w] ["java/lang/IllegalArgumentException", "java/util/NoSuchElementException"] h := by
  obtain ⟨b0, b1, -, -, -, -, -, -, b9⟩ := Inv_e hI
  obtain ⟨c1, -, -, -, -, -, m4, -⟩ := Inv_b hI
  have b8 : 0 ≤ h 66 8 ∧ h 66 8 ≤ 300 := by rw [b1]; exact b0
  have c8 : 0 ≤ h 66 4 ∧ h 66 4 ≤ 12 := by rw [m4]; exact c1
  have hp := pw31 c1.2
  have ok : (s ≠ 0 ∧ (0 ≤ s ∧ s < (2 ^ (h 1 2).toNat : Nat))) → (s ≠ 0 ∧ (0 ≤ s ∧ s < (2 ^ (h 66 4).toNat : Nat))) := fun q => by rw [m4]; exact q
  have ko : (s ≠ 0 ∧ (0 ≤ s ∧ s < (2 ^ (h 66 4).toNat : Nat))) → (s ≠ 0 ∧ (0 ≤ s ∧ s < (2 ^ (h 1 2).toNat : Nat))) := fun q => by rw [← m4]; exact q
  have pr : (0 ≤ s ∧ s < (2 ^ (h 1 2).toNat : Nat)) → ∀ k, 0 ≤ k → k < h 9 9 → (xand (h 78 k) s = s ↔ sub s (h 20 k)) := fun q k z1 z2 => by
    obtain ⟨-, -, e3, -, e5, -⟩ := b9 k z1 z2
    rw [e3]
    exact sub_iff (by omega) (by omega)
  refine o_fits d h s w hs hw c1 b0 (fun q qw k z1 z2 z3 z4 u => ?_) (fun q qw k z1 z2 z3 z4 u => ?_) (fun q qw z u => ?_) (fun q u => ?_) (fun q qw u => ?_)
  · exact m_fits d 0 (xup h 112 0 u) s w hs hw c8 b8 (fun _ _ k2 y1 y2 y3 y4 => CO_v hI u (by have e : k = k2 := (first_e (P := fun j => sub s (h 20 j)) (R := fun j => xand (h 78 j) s = s) (pr q.2) z1 z2 z3 z4 y1 (by have y2 : k2 < h 66 8 := y2; omega) y3 y4); subst e; exact (b9 k z1 z2).1.symm)) (fun _ y => by omega) (fun _ _ y => absurd ((pr q.2 k z1 z2).mpr z3) (y k z1 (show k < h 66 8 by omega))) (fun y => absurd (ok q) y) (fun _ y => absurd (Or.inl qw) y)
  · exact m_fits d 0 (xup h 112 0 u) s w hs hw c8 b8 (fun _ y => by omega) (fun _ _ k2 y1 y2 y3 y4 => CO_v hI u (first_e (P := fun j => sub s (h 20 j)) (R := fun j => xand (h 78 j) s = s) (pr q.2) z1 z2 z3 z4 y1 (by have y2 : k2 < h 66 8 := y2; omega) y3 y4)) (fun _ _ y => absurd ((pr q.2 k z1 z2).mpr z3) (y k z1 (show k < h 66 8 by omega))) (fun y => absurd (ok q) y) (fun _ y => absurd (Or.inr qw) y)
  · exact m_fits d 0 (xup h 112 0 u) s w hs hw c8 b8 (fun _ _ k2 y1 y2 y3 y4 => absurd ((pr q.2 k2 y1 (by have y2 : k2 < h 66 8 := y2; omega)).mp y3) (z k2 y1 (by have y2 : k2 < h 66 8 := y2; omega))) (fun _ _ k2 y1 y2 y3 y4 => absurd ((pr q.2 k2 y1 (by have y2 : k2 < h 66 8 := y2; omega)).mp y3) (z k2 y1 (by have y2 : k2 < h 66 8 := y2; omega))) (fun _ _ _ => CO_v hI u rfl) (fun y => absurd (ok q) y) (fun _ y => absurd qw y)
  · exact m_fits d 0 (xup h 112 0 u) s w hs hw c8 b8 (fun y => absurd (ko y) q) (fun y => absurd (ko y) q) (fun y => absurd (ko y) q) (fun _ => CO_x hI 0 rfl u 0) (fun y => absurd (ko y) q)
  · exact m_fits d 0 (xup h 112 0 u) s w hs hw c8 b8 (fun _ y => absurd (Or.inl y) qw) (fun _ y => absurd (Or.inr y) qw) (fun _ y => absurd y qw) (fun y => absurd (ok q) y) (fun _ _ => CO_x hI 1 rfl u 0)
set_option maxHeartbeats 1000000 in
theorem o_splits (d  : Nat) (h : xH) (o mn : Int) (ho : xr o) (hnn : xr mn) (hn : 0 ≤ h 1 2 ∧ h 1 2 ≤ 12) (hK1 : 0 ≤ h 28 9 ∧ h 28 9 ≤ 150) {Q : xO → xH → Prop} (h1 : (o ≠ 0 ∧ mn ≠ 0 ∧ (0 ≤ xor_ o mn ∧ xor_ o mn < (2 ^ (h 1 2).toNat : Nat)) ∧ xand o mn = 0) → ∀ k, 0 ≤ k → k < h 28 9 → (sub o (h 39 k) ∧ xand mn (h 39 k) = 0) → (∀ j, 0 ≤ j → j < k → ¬ (sub o (h 39 j) ∧ xand mn (h 39 j) = 0)) → Q (.inl (some (.inl (k)))) h) (h3 : (o ≠ 0 ∧ mn ≠ 0 ∧ (0 ≤ xor_ o mn ∧ xor_ o mn < (2 ^ (h 1 2).toNat : Nat)) ∧ xand o mn = 0) → (∀ j, 0 ≤ j → j < h 28 9 → ¬ (sub o (h 39 j) ∧ xand mn (h 39 j) = 0)) → Q (.inl (some (.inl (-1)))) h) (hA : ¬ (o ≠ 0 ∧ mn ≠ 0 ∧ (0 ≤ xor_ o mn ∧ xor_ o mn < (2 ^ (h 1 2).toNat : Nat)) ∧ xand o mn = 0) → Q (.inr "java/lang/IllegalArgumentException") h) : xRn G0 MT (d + 6) 4 136 [.inr (.inr 0), .inl o, .inl mn] h Q := by
  refine R_of (M := mX11_splits) rfl (Nat.le_of_ble_eq_true rfl) ?_
  show xEx G0 cdX11_splits (some .int) (xRn G0 MT (d + 5)) Q 4 0 [some (.inr (.inr 0)), some (.inl o), some (.inl mn), none, none] [] h
  refine E_s 1 (i' := 1) (ls' := [some (.inr (.inr 0)), some (.inl o), some (.inl mn), none, none]) (sk' := [.inl o]) (h' := h) rfl ?_
  refine E_cx (x := (.invokestatic 350, 1, [(0, 152)], [])) (b1 := 1) (b2 := 3) (v := none) (q := fun h9 => (o ≠ 0) ∧ h = h9) rfl rfl (Nat.le_of_ble_eq_true rfl) (fun z => by cases z) (c_refEmpty (d + 4) h o ho (fun z => Or.inl ⟨rfl, z, rfl⟩) (fun z => Or.inr ⟨_, rfl, hA (fun y => z y.1)⟩)) (fun h9 hq9 => ?_)
  obtain ⟨qo, rfl⟩ := hq9
  show xEx G0 cdX11_splits (some .int) (xRn G0 MT (d + 5)) Q 3 2 [some (.inr (.inr 0)), some (.inl o), some (.inl mn), none, none] [] h
  refine E_s 1 (i' := 3) (ls' := [some (.inr (.inr 0)), some (.inl o), some (.inl mn), none, none]) (sk' := [.inl mn]) (h' := h) rfl ?_
  refine E_cx (x := (.invokestatic 350, 1, [(0, 152)], [])) (b1 := 1) (b2 := 2) (v := none) (q := fun h9 => (mn ≠ 0) ∧ h = h9) rfl rfl (Nat.le_of_ble_eq_true rfl) (fun z => by cases z) (c_refEmpty (d + 4) h mn hnn (fun z => Or.inl ⟨rfl, z, rfl⟩) (fun z => Or.inr ⟨_, rfl, hA (fun y => z y.2.1)⟩)) (fun h9 hq9 => ?_)
  obtain ⟨qn, rfl⟩ := hq9
  show xEx G0 cdX11_splits (some .int) (xRn G0 MT (d + 5)) Q 2 4 [some (.inr (.inr 0)), some (.inl o), some (.inl mn), none, none] [] h
  refine E_s 4 (i' := 8) (ls' := [some (.inr (.inr 0)), some (.inl o), some (.inl mn), none, none]) (sk' := [.inl (xor_ o mn), .inr (.inr 0)]) (h' := h) rfl ?_
  refine E_cx (x := (.invokevirtual 238, 1, [(9, 153)], [0])) (b1 := 1) (b2 := 1) (v := none) (q := fun h9 => (0 ≤ xor_ o mn ∧ xor_ o mn < (2 ^ (h 1 2).toNat : Nat)) ∧ h = h9) rfl rfl (Nat.le_of_ble_eq_true rfl) (fun z => by cases z) (c_refStrangers (d + 3) h (xor_ o mn) (xor_r o mn) hn (fun z => Or.inl ⟨rfl, z, rfl⟩) (fun z => Or.inr ⟨_, rfl, hA (fun y => z y.2.2.1)⟩)) (fun h9 hq9 => ?_)
  obtain ⟨qs, rfl⟩ := hq9
  show xEx G0 cdX11_splits (some .int) (xRn G0 MT (d + 5)) Q 1 9 [some (.inr (.inr 0)), some (.inl o), some (.inl mn), none, none] [] h
  refine E_s 3 (i' := 12) (ls' := [some (.inr (.inr 0)), some (.inl o), some (.inl mn), none, none]) (sk' := [.inl (xand o mn)]) (h' := h) rfl ?_
  refine E_b (x := (.ifCond .eq 14, 18, [], [])) rfl rfl (fun c12 => ?_) (fun c12 => ?_)
  · rw [c_eq (by first | exact xand_r _ _ | exact ⟨by omega, by omega⟩) (by first | exact xand_r _ _ | exact ⟨by omega, by omega⟩)] at c12
    simp only [decide_eq_true_eq, decide_eq_false_iff_not, Decidable.not_not] at c12
    show xEx G0 cdX11_splits (some .int) (xRn G0 MT (d + 5)) Q 1 18 [some (.inr (.inr 0)), some (.inl o), some (.inl mn), none, none] [] h
    refine E_s 2 (i' := 20) (ls' := [some (.inr (.inr 0)), some (.inl o), some (.inl mn), some (.inl 0), none]) (sk' := []) (h' := h) rfl ?_
    have key20 : ∀ (n : Nat) (k : Int) (v4 : Option xV), (0 ≤ k) → (k ≤ h 28 9) → (∀ j, 0 ≤ j → j < k → ¬ (sub o (h 39 j) ∧ xand mn (h 39 j) = 0)) → ((h 28 9 - k).toNat) < n → xEx G0 cdX11_splits (some .int) (xRn G0 MT (d + 5)) Q 1 20 [some (.inr (.inr 0)), some (.inl o), some (.inl mn), some (.inl k), v4] [] h := by
      intro n
      induction n with
      | zero => intro k v4 _ _ _ hm; exact absurd hm (Nat.not_lt_zero _)
      | succ n ih20 =>
        intro k v4 hk0 hk9 hno hm20
        refine E_s 4 (i' := 24) (ls' := [some (.inr (.inr 0)), some (.inl o), some (.inl mn), some (.inl k), v4]) (sk' := [.inl (h 28 9), .inl k]) (h' := h) rfl ?_
        refine E_b (x := (.if_icmp .ge 38, 45, [], [])) rfl rfl (fun c24 => ?_) (fun c24 => ?_)
        · rw [c_ge (by first | assumption | (refine ⟨?_, ?_⟩ <;> omega) | (simp only [xr] at *; omega)) (by first | assumption | (refine ⟨?_, ?_⟩ <;> omega) | (simp only [xr] at *; omega))] at c24
          simp only [decide_eq_true_eq, decide_eq_false_iff_not, Decidable.not_not] at c24
          show xEx G0 cdX11_splits (some .int) (xRn G0 MT (d + 5)) Q 1 45 [some (.inr (.inr 0)), some (.inl o), some (.inl mn), some (.inl k), v4] [] h
          refine E_s 1 (i' := 46) (ls' := [some (.inr (.inr 0)), some (.inl o), some (.inl mn), some (.inl k), v4]) (sk' := [.inl (-1)]) (h' := h) rfl ?_
          exact E_ret (x := (.ireturn, 0, [], [])) (v := some (.inl (-1))) rfl (Or.inl rfl) (h3 ⟨qo, qn, qs, c12⟩ (fun j z1 z2 => hno j z1 (by omega)))
        · rw [c_ge (by first | assumption | (refine ⟨?_, ?_⟩ <;> omega) | (simp only [xr] at *; omega)) (by first | assumption | (refine ⟨?_, ?_⟩ <;> omega) | (simp only [xr] at *; omega))] at c24
          simp only [decide_eq_true_eq, decide_eq_false_iff_not, Decidable.not_not] at c24
          show xEx G0 cdX11_splits (some .int) (xRn G0 MT (d + 5)) Q 1 25 [some (.inr (.inr 0)), some (.inl o), some (.inl mn), some (.inl k), v4] [] h
          refine E_s 4 (i' := 29) (ls' := [some (.inr (.inr 0)), some (.inl o), some (.inl mn), some (.inl k), v4]) (sk' := [.inl k, .inr (.inr 39)]) (h' := h) rfl ?_
          refine E_ld (x := (.iaload, 0, [], [])) (ty := .int) (n := 150) rfl rfl rfl (by omega) (by omega) ?_
          show xEx G0 cdX11_splits (some .int) (xRn G0 MT (d + 5)) Q 1 30 [some (.inr (.inr 0)), some (.inl o), some (.inl mn), some (.inl k), v4] [.inl (h 39 k)] h
          refine E_s 6 (i' := 36) (ls' := [some (.inr (.inr 0)), some (.inl o), some (.inl mn), some (.inl k), some (.inl (h 39 k))]) (sk' := [.inl (xand o (xxor (h 39 k) (-1)))]) (h' := h) rfl ?_
          refine E_b (x := (.ifCond .ne 12, 43, [], [])) rfl rfl (fun c36 => ?_) (fun c36 => ?_)
          · rw [c_ne (by first | exact xand_r _ _ | exact ⟨by omega, by omega⟩) (by first | exact xand_r _ _ | exact ⟨by omega, by omega⟩)] at c36
            simp only [decide_eq_true_eq, decide_eq_false_iff_not, Decidable.not_not] at c36
            show xEx G0 cdX11_splits (some .int) (xRn G0 MT (d + 5)) Q 1 43 [some (.inr (.inr 0)), some (.inl o), some (.inl mn), some (.inl k), some (.inl (h 39 k))] [] h
            refine E_s 2 (i' := 20) (ls' := [some (.inr (.inr 0)), some (.inl o), some (.inl mn), some (.inl (k + 1)), some (.inl (h 39 k))]) (sk' := []) (h' := h) rfl ?_
            exact ih20 (k + 1) _ (by omega) (by omega) (fun j z1 z2 => by
              rcases Int.lt_or_eq_of_le (show j ≤ k by omega) with z9 | z9
              · exact hno j z1 z9
              · subst z9; intro y9; first | exact c36 y9.1 | exact c40 y9.2) (by omega)
          · rw [c_ne (by first | exact xand_r _ _ | exact ⟨by omega, by omega⟩) (by first | exact xand_r _ _ | exact ⟨by omega, by omega⟩)] at c36
            simp only [decide_eq_true_eq, decide_eq_false_iff_not, Decidable.not_not] at c36
            show xEx G0 cdX11_splits (some .int) (xRn G0 MT (d + 5)) Q 1 37 [some (.inr (.inr 0)), some (.inl o), some (.inl mn), some (.inl k), some (.inl (h 39 k))] [] h
            refine E_s 3 (i' := 40) (ls' := [some (.inr (.inr 0)), some (.inl o), some (.inl mn), some (.inl k), some (.inl (h 39 k))]) (sk' := [.inl (xand mn (h 39 k))]) (h' := h) rfl ?_
            refine E_b (x := (.ifCond .ne 5, 43, [], [])) rfl rfl (fun c40 => ?_) (fun c40 => ?_)
            · rw [c_ne (by first | exact xand_r _ _ | exact ⟨by omega, by omega⟩) (by first | exact xand_r _ _ | exact ⟨by omega, by omega⟩)] at c40
              simp only [decide_eq_true_eq, decide_eq_false_iff_not, Decidable.not_not] at c40
              show xEx G0 cdX11_splits (some .int) (xRn G0 MT (d + 5)) Q 1 43 [some (.inr (.inr 0)), some (.inl o), some (.inl mn), some (.inl k), some (.inl (h 39 k))] [] h
              refine E_s 2 (i' := 20) (ls' := [some (.inr (.inr 0)), some (.inl o), some (.inl mn), some (.inl (k + 1)), some (.inl (h 39 k))]) (sk' := []) (h' := h) rfl ?_
              exact ih20 (k + 1) _ (by omega) (by omega) (fun j z1 z2 => by
                rcases Int.lt_or_eq_of_le (show j ≤ k by omega) with z9 | z9
                · exact hno j z1 z9
                · subst z9; intro y9; first | exact c36 y9.1 | exact c40 y9.2) (by omega)
            · rw [c_ne (by first | exact xand_r _ _ | exact ⟨by omega, by omega⟩) (by first | exact xand_r _ _ | exact ⟨by omega, by omega⟩)] at c40
              simp only [decide_eq_true_eq, decide_eq_false_iff_not, Decidable.not_not] at c40
              show xEx G0 cdX11_splits (some .int) (xRn G0 MT (d + 5)) Q 1 41 [some (.inr (.inr 0)), some (.inl o), some (.inl mn), some (.inl k), some (.inl (h 39 k))] [] h
              refine E_s 1 (i' := 42) (ls' := [some (.inr (.inr 0)), some (.inl o), some (.inl mn), some (.inl k), some (.inl (h 39 k))]) (sk' := [.inl k]) (h' := h) rfl ?_
              exact E_ret (x := (.ireturn, 0, [], [])) (v := some (.inl k)) rfl (Or.inl rfl) (h1 ⟨qo, qn, qs, c12⟩ k hk0 (by omega) ⟨c36, c40⟩ hno)
    exact key20 _ 0 none (by omega) (by omega) (fun j z1 z2 => by omega) (Nat.lt_succ_self _)
  · rw [c_eq (by first | exact xand_r _ _ | exact ⟨by omega, by omega⟩) (by first | exact xand_r _ _ | exact ⟨by omega, by omega⟩)] at c12
    simp only [decide_eq_true_eq, decide_eq_false_iff_not, Decidable.not_not] at c12
    show xEx G0 cdX11_splits (some .int) (xRn G0 MT (d + 5)) Q 1 13 [some (.inr (.inr 0)), some (.inl o), some (.inl mn), none, none] [] h
    exact E_thr (x := (.new 80, 0, [(0, 1)], [])) rfl rfl rfl (Nat.le_of_ble_eq_true rfl) (hA (fun y => c12 y.2.2.2))
set_option maxHeartbeats 1000000 in
theorem m_splits (d b : Nat) (h : xH) (o mn : Int) (ho : xr o) (hnn : xr mn) (hn : 0 ≤ h 66 4 ∧ h 66 4 ≤ 12) (hM1 : 0 ≤ h 66 19 ∧ h 66 19 ≤ 150) {Q : xO → xH → Prop} (h1 : ((0 ≤ o ∧ o < (2 ^ (h 66 4).toNat : Nat)) ∧ (0 ≤ mn ∧ mn < (2 ^ (h 66 4).toNat : Nat)) ∧ o ≠ 0 ∧ mn ≠ 0 ∧ xand o mn = 0) → ∀ k, 0 ≤ k → k < h 66 19 → (xand (h 87 k) o = o ∧ xand (h 87 k) mn = 0) → (∀ j, 0 ≤ j → j < k → ¬ (xand (h 87 j) o = o ∧ xand (h 87 j) mn = 0)) → Q (.inl (some (.inl (k)))) (xup h 66 0 0)) (h3 : ((0 ≤ o ∧ o < (2 ^ (h 66 4).toNat : Nat)) ∧ (0 ≤ mn ∧ mn < (2 ^ (h 66 4).toNat : Nat)) ∧ o ≠ 0 ∧ mn ≠ 0 ∧ xand o mn = 0) → (∀ j, 0 ≤ j → j < h 66 19 → ¬ (xand (h 87 j) o = o ∧ xand (h 87 j) mn = 0)) → Q (.inl (some (.inl (-1)))) (xup h 66 0 0)) (hA : ¬ ((0 ≤ o ∧ o < (2 ^ (h 66 4).toNat : Nat)) ∧ (0 ≤ mn ∧ mn < (2 ^ (h 66 4).toNat : Nat)) ∧ o ≠ 0 ∧ mn ≠ 0 ∧ xand o mn = 0) → Q (.inl (some (.inl (0)))) (xup h 66 0 1)) : xRn G0 MT (d + 6) b 250 [.inr (.inr 66), .inl o, .inl mn] h Q := by
  refine R_of (M := mX12_splits) rfl (Nat.le_of_ble_eq_true rfl) ?_
  show xEx G0 cdX12_splits (some .int) (xRn G0 MT (d + 5)) Q b 0 [some (.inr (.inr 66)), some (.inl o), some (.inl mn), none] [] h
  refine E_s 3 (i' := 3) (ls' := [some (.inr (.inr 66)), some (.inl o), some (.inl mn), none]) (sk' := [.inl o, .inr (.inr 66), .inr (.inr 66)]) (h' := h) rfl ?_
  refine E_cp (x := (.invokevirtual 372, 1, [(10, 216)], [0])) (q := fun r1 h9 => ((r1 = 1 ∧ (0 ≤ o ∧ o < (2 ^ (h 66 4).toNat : Nat))) ∨ (r1 = 0 ∧ ¬ (0 ≤ o ∧ o < (2 ^ (h 66 4).toNat : Nat)))) ∧ h = h9) rfl rfl (Nat.le_of_ble_eq_true rfl) (m_isSet (d + 3) 0 h o ho hn (fun z => ⟨_, rfl, Or.inl ⟨rfl, z⟩, rfl⟩) (fun z => ⟨_, rfl, Or.inr ⟨rfl, z⟩, rfl⟩)) (fun r1 h9 q1 => ?_)
  obtain ⟨q1, rfl⟩ := q1
  show xEx G0 cdX12_splits (some .int) (xRn G0 MT (d + 5)) Q b 4 [some (.inr (.inr 66)), some (.inl o), some (.inl mn), none] [.inl r1, .inr (.inr 66)] h
  refine E_b (x := (.ifCond .eq 25, 17, [], [])) rfl rfl (fun c4 => ?_) (fun c4 => ?_)
  · rw [c_eq (by first | assumption | (refine ⟨?_, ?_⟩ <;> omega) | (simp only [xr] at *; omega)) (by first | assumption | (refine ⟨?_, ?_⟩ <;> omega) | (simp only [xr] at *; omega))] at c4
    simp only [decide_eq_true_eq, decide_eq_false_iff_not, Decidable.not_not] at c4
    show xEx G0 cdX12_splits (some .int) (xRn G0 MT (d + 5)) Q b 17 [some (.inr (.inr 66)), some (.inl o), some (.inl mn), none] [.inr (.inr 66)] h
    refine E_s 5 (i' := 23) (ls' := [some (.inr (.inr 66)), some (.inl o), some (.inl mn), none]) (sk' := [.inl 1]) (h' := (xup h 66 0 1)) rfl ?_
    refine E_b (x := (.ifCond .le 5, 26, [], [])) rfl rfl (fun c23 => ?_) (fun c23 => ?_)
    · show xEx G0 cdX12_splits (some .int) (xRn G0 MT (d + 5)) Q b 26 [some (.inr (.inr 66)), some (.inl o), some (.inl mn), none] [] (xup h 66 0 1)
      exact absurd c23 (by decide)
    · show xEx G0 cdX12_splits (some .int) (xRn G0 MT (d + 5)) Q b 24 [some (.inr (.inr 66)), some (.inl o), some (.inl mn), none] [] (xup h 66 0 1)
      refine E_s 1 (i' := 25) (ls' := [some (.inr (.inr 66)), some (.inl o), some (.inl mn), none]) (sk' := [.inl 0]) (h' := (xup h 66 0 1)) rfl ?_
      exact E_ret (x := (.ireturn, 0, [], [])) (v := some (.inl 0)) rfl (Or.inl rfl) (hA (fun y => by first | exact o0 q1 c4 y.1 | exact o0 q2 c8 y.2.1 | exact y.2.2.1 c10 | exact y.2.2.2.1 c12 | exact c16 y.2.2.2.2))
  · rw [c_eq (by first | assumption | (refine ⟨?_, ?_⟩ <;> omega) | (simp only [xr] at *; omega)) (by first | assumption | (refine ⟨?_, ?_⟩ <;> omega) | (simp only [xr] at *; omega))] at c4
    simp only [decide_eq_true_eq, decide_eq_false_iff_not, Decidable.not_not] at c4
    show xEx G0 cdX12_splits (some .int) (xRn G0 MT (d + 5)) Q b 5 [some (.inr (.inr 66)), some (.inl o), some (.inl mn), none] [.inr (.inr 66)] h
    refine E_s 2 (i' := 7) (ls' := [some (.inr (.inr 66)), some (.inl o), some (.inl mn), none]) (sk' := [.inl mn, .inr (.inr 66), .inr (.inr 66)]) (h' := h) rfl ?_
    refine E_cp (x := (.invokevirtual 372, 1, [(10, 216)], [0])) (q := fun r2 h9 => ((r2 = 1 ∧ (0 ≤ mn ∧ mn < (2 ^ (h 66 4).toNat : Nat))) ∨ (r2 = 0 ∧ ¬ (0 ≤ mn ∧ mn < (2 ^ (h 66 4).toNat : Nat)))) ∧ h = h9) rfl rfl (Nat.le_of_ble_eq_true rfl) (m_isSet (d + 3) 0 h mn hnn hn (fun z => ⟨_, rfl, Or.inl ⟨rfl, z⟩, rfl⟩) (fun z => ⟨_, rfl, Or.inr ⟨rfl, z⟩, rfl⟩)) (fun r2 h9 q2 => ?_)
    obtain ⟨q2, rfl⟩ := q2
    show xEx G0 cdX12_splits (some .int) (xRn G0 MT (d + 5)) Q b 8 [some (.inr (.inr 66)), some (.inl o), some (.inl mn), none] [.inl r2, .inr (.inr 66)] h
    refine E_b (x := (.ifCond .eq 17, 17, [], [])) rfl rfl (fun c8 => ?_) (fun c8 => ?_)
    · rw [c_eq (by first | assumption | (refine ⟨?_, ?_⟩ <;> omega) | (simp only [xr] at *; omega)) (by first | assumption | (refine ⟨?_, ?_⟩ <;> omega) | (simp only [xr] at *; omega))] at c8
      simp only [decide_eq_true_eq, decide_eq_false_iff_not, Decidable.not_not] at c8
      show xEx G0 cdX12_splits (some .int) (xRn G0 MT (d + 5)) Q b 17 [some (.inr (.inr 66)), some (.inl o), some (.inl mn), none] [.inr (.inr 66)] h
      refine E_s 5 (i' := 23) (ls' := [some (.inr (.inr 66)), some (.inl o), some (.inl mn), none]) (sk' := [.inl 1]) (h' := (xup h 66 0 1)) rfl ?_
      refine E_b (x := (.ifCond .le 5, 26, [], [])) rfl rfl (fun c23 => ?_) (fun c23 => ?_)
      · show xEx G0 cdX12_splits (some .int) (xRn G0 MT (d + 5)) Q b 26 [some (.inr (.inr 66)), some (.inl o), some (.inl mn), none] [] (xup h 66 0 1)
        exact absurd c23 (by decide)
      · show xEx G0 cdX12_splits (some .int) (xRn G0 MT (d + 5)) Q b 24 [some (.inr (.inr 66)), some (.inl o), some (.inl mn), none] [] (xup h 66 0 1)
        refine E_s 1 (i' := 25) (ls' := [some (.inr (.inr 66)), some (.inl o), some (.inl mn), none]) (sk' := [.inl 0]) (h' := (xup h 66 0 1)) rfl ?_
        exact E_ret (x := (.ireturn, 0, [], [])) (v := some (.inl 0)) rfl (Or.inl rfl) (hA (fun y => by first | exact o0 q1 c4 y.1 | exact o0 q2 c8 y.2.1 | exact y.2.2.1 c10 | exact y.2.2.2.1 c12 | exact c16 y.2.2.2.2))
    · rw [c_eq (by first | assumption | (refine ⟨?_, ?_⟩ <;> omega) | (simp only [xr] at *; omega)) (by first | assumption | (refine ⟨?_, ?_⟩ <;> omega) | (simp only [xr] at *; omega))] at c8
      simp only [decide_eq_true_eq, decide_eq_false_iff_not, Decidable.not_not] at c8
      show xEx G0 cdX12_splits (some .int) (xRn G0 MT (d + 5)) Q b 9 [some (.inr (.inr 66)), some (.inl o), some (.inl mn), none] [.inr (.inr 66)] h
      refine E_s 1 (i' := 10) (ls' := [some (.inr (.inr 66)), some (.inl o), some (.inl mn), none]) (sk' := [.inl o, .inr (.inr 66)]) (h' := h) rfl ?_
      refine E_b (x := (.ifCond .eq 13, 17, [], [])) rfl rfl (fun c10 => ?_) (fun c10 => ?_)
      · rw [c_eq (by first | assumption | (refine ⟨?_, ?_⟩ <;> omega) | (simp only [xr] at *; omega)) (by first | assumption | (refine ⟨?_, ?_⟩ <;> omega) | (simp only [xr] at *; omega))] at c10
        simp only [decide_eq_true_eq, decide_eq_false_iff_not, Decidable.not_not] at c10
        show xEx G0 cdX12_splits (some .int) (xRn G0 MT (d + 5)) Q b 17 [some (.inr (.inr 66)), some (.inl o), some (.inl mn), none] [.inr (.inr 66)] h
        refine E_s 5 (i' := 23) (ls' := [some (.inr (.inr 66)), some (.inl o), some (.inl mn), none]) (sk' := [.inl 1]) (h' := (xup h 66 0 1)) rfl ?_
        refine E_b (x := (.ifCond .le 5, 26, [], [])) rfl rfl (fun c23 => ?_) (fun c23 => ?_)
        · show xEx G0 cdX12_splits (some .int) (xRn G0 MT (d + 5)) Q b 26 [some (.inr (.inr 66)), some (.inl o), some (.inl mn), none] [] (xup h 66 0 1)
          exact absurd c23 (by decide)
        · show xEx G0 cdX12_splits (some .int) (xRn G0 MT (d + 5)) Q b 24 [some (.inr (.inr 66)), some (.inl o), some (.inl mn), none] [] (xup h 66 0 1)
          refine E_s 1 (i' := 25) (ls' := [some (.inr (.inr 66)), some (.inl o), some (.inl mn), none]) (sk' := [.inl 0]) (h' := (xup h 66 0 1)) rfl ?_
          exact E_ret (x := (.ireturn, 0, [], [])) (v := some (.inl 0)) rfl (Or.inl rfl) (hA (fun y => by first | exact o0 q1 c4 y.1 | exact o0 q2 c8 y.2.1 | exact y.2.2.1 c10 | exact y.2.2.2.1 c12 | exact c16 y.2.2.2.2))
      · rw [c_eq (by first | assumption | (refine ⟨?_, ?_⟩ <;> omega) | (simp only [xr] at *; omega)) (by first | assumption | (refine ⟨?_, ?_⟩ <;> omega) | (simp only [xr] at *; omega))] at c10
        simp only [decide_eq_true_eq, decide_eq_false_iff_not, Decidable.not_not] at c10
        show xEx G0 cdX12_splits (some .int) (xRn G0 MT (d + 5)) Q b 11 [some (.inr (.inr 66)), some (.inl o), some (.inl mn), none] [.inr (.inr 66)] h
        refine E_s 1 (i' := 12) (ls' := [some (.inr (.inr 66)), some (.inl o), some (.inl mn), none]) (sk' := [.inl mn, .inr (.inr 66)]) (h' := h) rfl ?_
        refine E_b (x := (.ifCond .eq 9, 17, [], [])) rfl rfl (fun c12 => ?_) (fun c12 => ?_)
        · rw [c_eq (by first | assumption | (refine ⟨?_, ?_⟩ <;> omega) | (simp only [xr] at *; omega)) (by first | assumption | (refine ⟨?_, ?_⟩ <;> omega) | (simp only [xr] at *; omega))] at c12
          simp only [decide_eq_true_eq, decide_eq_false_iff_not, Decidable.not_not] at c12
          show xEx G0 cdX12_splits (some .int) (xRn G0 MT (d + 5)) Q b 17 [some (.inr (.inr 66)), some (.inl o), some (.inl mn), none] [.inr (.inr 66)] h
          refine E_s 5 (i' := 23) (ls' := [some (.inr (.inr 66)), some (.inl o), some (.inl mn), none]) (sk' := [.inl 1]) (h' := (xup h 66 0 1)) rfl ?_
          refine E_b (x := (.ifCond .le 5, 26, [], [])) rfl rfl (fun c23 => ?_) (fun c23 => ?_)
          · show xEx G0 cdX12_splits (some .int) (xRn G0 MT (d + 5)) Q b 26 [some (.inr (.inr 66)), some (.inl o), some (.inl mn), none] [] (xup h 66 0 1)
            exact absurd c23 (by decide)
          · show xEx G0 cdX12_splits (some .int) (xRn G0 MT (d + 5)) Q b 24 [some (.inr (.inr 66)), some (.inl o), some (.inl mn), none] [] (xup h 66 0 1)
            refine E_s 1 (i' := 25) (ls' := [some (.inr (.inr 66)), some (.inl o), some (.inl mn), none]) (sk' := [.inl 0]) (h' := (xup h 66 0 1)) rfl ?_
            exact E_ret (x := (.ireturn, 0, [], [])) (v := some (.inl 0)) rfl (Or.inl rfl) (hA (fun y => by first | exact o0 q1 c4 y.1 | exact o0 q2 c8 y.2.1 | exact y.2.2.1 c10 | exact y.2.2.2.1 c12 | exact c16 y.2.2.2.2))
        · rw [c_eq (by first | assumption | (refine ⟨?_, ?_⟩ <;> omega) | (simp only [xr] at *; omega)) (by first | assumption | (refine ⟨?_, ?_⟩ <;> omega) | (simp only [xr] at *; omega))] at c12
          simp only [decide_eq_true_eq, decide_eq_false_iff_not, Decidable.not_not] at c12
          show xEx G0 cdX12_splits (some .int) (xRn G0 MT (d + 5)) Q b 13 [some (.inr (.inr 66)), some (.inl o), some (.inl mn), none] [.inr (.inr 66)] h
          refine E_s 3 (i' := 16) (ls' := [some (.inr (.inr 66)), some (.inl o), some (.inl mn), none]) (sk' := [.inl (xand o mn), .inr (.inr 66)]) (h' := h) rfl ?_
          refine E_b (x := (.ifCond .eq 7, 19, [], [])) rfl rfl (fun c16 => ?_) (fun c16 => ?_)
          · rw [c_eq (by first | exact xand_r _ _ | exact ho | exact ⟨by omega, by omega⟩) (by first | exact xand_r _ _ | exact ho | exact ⟨by omega, by omega⟩)] at c16
            simp only [decide_eq_true_eq, decide_eq_false_iff_not, Decidable.not_not] at c16
            show xEx G0 cdX12_splits (some .int) (xRn G0 MT (d + 5)) Q b 19 [some (.inr (.inr 66)), some (.inl o), some (.inl mn), none] [.inr (.inr 66)] h
            have hok : (0 ≤ o ∧ o < (2 ^ (h 66 4).toNat : Nat)) ∧ (0 ≤ mn ∧ mn < (2 ^ (h 66 4).toNat : Nat)) ∧ o ≠ 0 ∧ mn ≠ 0 ∧ xand o mn = 0 := ⟨o1 q1 c4, o1 q2 c8, c10, c12, c16⟩
            refine E_s 4 (i' := 23) (ls' := [some (.inr (.inr 66)), some (.inl o), some (.inl mn), none]) (sk' := [.inl 0]) (h' := (xup h 66 0 0)) rfl ?_
            refine E_b (x := (.ifCond .le 5, 26, [], [])) rfl rfl (fun c23 => ?_) (fun c23 => ?_)
            · show xEx G0 cdX12_splits (some .int) (xRn G0 MT (d + 5)) Q b 26 [some (.inr (.inr 66)), some (.inl o), some (.inl mn), none] [] (xup h 66 0 0)
              refine E_s 2 (i' := 28) (ls' := [some (.inr (.inr 66)), some (.inl o), some (.inl mn), some (.inl 0)]) (sk' := []) (h' := (xup h 66 0 0)) rfl ?_
              have key28 : ∀ (n : Nat) (k : Int), (0 ≤ k) → (k ≤ h 66 19) → (∀ j, 0 ≤ j → j < k → ¬ (xand (h 87 j) o = o ∧ xand (h 87 j) mn = 0)) → ((h 66 19 - k).toNat) < n → xEx G0 cdX12_splits (some .int) (xRn G0 MT (d + 5)) Q b 28 [some (.inr (.inr 66)), some (.inl o), some (.inl mn), some (.inl k)] [] (xup h 66 0 0) := by
                intro n
                induction n with
                | zero => intro k _ _ _ hm; exact absurd hm (Nat.not_lt_zero _)
                | succ n ih28 =>
                  intro k hk0 hk9 hno hm28
                  refine E_s 3 (i' := 31) (ls' := [some (.inr (.inr 66)), some (.inl o), some (.inl mn), some (.inl k)]) (sk' := [.inl (h 66 19), .inl k]) (h' := (xup h 66 0 0)) rfl ?_
                  refine E_b (x := (.if_icmp .ge 34, 51, [], [])) rfl rfl (fun c31 => ?_) (fun c31 => ?_)
                  · rw [c_ge (by first | assumption | (refine ⟨?_, ?_⟩ <;> omega) | (simp only [xr] at *; omega)) (by first | assumption | (refine ⟨?_, ?_⟩ <;> omega) | (simp only [xr] at *; omega))] at c31
                    simp only [decide_eq_true_eq, decide_eq_false_iff_not, Decidable.not_not] at c31
                    show xEx G0 cdX12_splits (some .int) (xRn G0 MT (d + 5)) Q b 51 [some (.inr (.inr 66)), some (.inl o), some (.inl mn), some (.inl k)] [] (xup h 66 0 0)
                    refine E_s 1 (i' := 52) (ls' := [some (.inr (.inr 66)), some (.inl o), some (.inl mn), some (.inl k)]) (sk' := [.inl (-1)]) (h' := (xup h 66 0 0)) rfl ?_
                    exact E_ret (x := (.ireturn, 0, [], [])) (v := some (.inl (-1))) rfl (Or.inl rfl) (h3 hok (fun j z1 z2 => hno j z1 (by omega)))
                  · rw [c_ge (by first | assumption | (refine ⟨?_, ?_⟩ <;> omega) | (simp only [xr] at *; omega)) (by first | assumption | (refine ⟨?_, ?_⟩ <;> omega) | (simp only [xr] at *; omega))] at c31
                    simp only [decide_eq_true_eq, decide_eq_false_iff_not, Decidable.not_not] at c31
                    show xEx G0 cdX12_splits (some .int) (xRn G0 MT (d + 5)) Q b 32 [some (.inr (.inr 66)), some (.inl o), some (.inl mn), some (.inl k)] [] (xup h 66 0 0)
                    refine E_s 3 (i' := 35) (ls' := [some (.inr (.inr 66)), some (.inl o), some (.inl mn), some (.inl k)]) (sk' := [.inl k, .inr (.inr 87)]) (h' := (xup h 66 0 0)) rfl ?_
                    refine E_ld (x := (.iaload, 0, [], [])) (ty := .int) (n := 150) rfl rfl rfl (by omega) (by omega) ?_
                    show xEx G0 cdX12_splits (some .int) (xRn G0 MT (d + 5)) Q b 36 [some (.inr (.inr 66)), some (.inl o), some (.inl mn), some (.inl k)] [.inl (h 87 k)] (xup h 66 0 0)
                    refine E_s 3 (i' := 39) (ls' := [some (.inr (.inr 66)), some (.inl o), some (.inl mn), some (.inl k)]) (sk' := [.inl o, .inl (xand (h 87 k) o)]) (h' := (xup h 66 0 0)) rfl ?_
                    refine E_b (x := (.if_icmp .ne 16, 49, [], [])) rfl rfl (fun c39 => ?_) (fun c39 => ?_)
                    · rw [c_ne (by first | exact xand_r _ _ | exact ho | exact ⟨by omega, by omega⟩) (by first | exact xand_r _ _ | exact ho | exact ⟨by omega, by omega⟩)] at c39
                      simp only [decide_eq_true_eq, decide_eq_false_iff_not, Decidable.not_not] at c39
                      show xEx G0 cdX12_splits (some .int) (xRn G0 MT (d + 5)) Q b 49 [some (.inr (.inr 66)), some (.inl o), some (.inl mn), some (.inl k)] [] (xup h 66 0 0)
                      refine E_s 2 (i' := 28) (ls' := [some (.inr (.inr 66)), some (.inl o), some (.inl mn), some (.inl (k + 1))]) (sk' := []) (h' := (xup h 66 0 0)) rfl ?_
                      exact ih28 (k + 1) (by omega) (by omega) (fun j z1 z2 => by
                        rcases Int.lt_or_eq_of_le (show j ≤ k by omega) with z9 | z9
                        · exact hno j z1 z9
                        · subst z9; intro y9; first | exact c39 y9.1 | exact c46 y9.2) (by omega)
                    · rw [c_ne (by first | exact xand_r _ _ | exact ho | exact ⟨by omega, by omega⟩) (by first | exact xand_r _ _ | exact ho | exact ⟨by omega, by omega⟩)] at c39
                      simp only [decide_eq_true_eq, decide_eq_false_iff_not, Decidable.not_not] at c39
                      show xEx G0 cdX12_splits (some .int) (xRn G0 MT (d + 5)) Q b 40 [some (.inr (.inr 66)), some (.inl o), some (.inl mn), some (.inl k)] [] (xup h 66 0 0)
                      refine E_s 3 (i' := 43) (ls' := [some (.inr (.inr 66)), some (.inl o), some (.inl mn), some (.inl k)]) (sk' := [.inl k, .inr (.inr 87)]) (h' := (xup h 66 0 0)) rfl ?_
                      refine E_ld (x := (.iaload, 0, [], [])) (ty := .int) (n := 150) rfl rfl rfl (by omega) (by omega) ?_
                      show xEx G0 cdX12_splits (some .int) (xRn G0 MT (d + 5)) Q b 44 [some (.inr (.inr 66)), some (.inl o), some (.inl mn), some (.inl k)] [.inl (h 87 k)] (xup h 66 0 0)
                      refine E_s 2 (i' := 46) (ls' := [some (.inr (.inr 66)), some (.inl o), some (.inl mn), some (.inl k)]) (sk' := [.inl (xand (h 87 k) mn)]) (h' := (xup h 66 0 0)) rfl ?_
                      refine E_b (x := (.ifCond .ne 5, 49, [], [])) rfl rfl (fun c46 => ?_) (fun c46 => ?_)
                      · rw [c_ne (by first | exact xand_r _ _ | exact ho | exact ⟨by omega, by omega⟩) (by first | exact xand_r _ _ | exact ho | exact ⟨by omega, by omega⟩)] at c46
                        simp only [decide_eq_true_eq, decide_eq_false_iff_not, Decidable.not_not] at c46
                        show xEx G0 cdX12_splits (some .int) (xRn G0 MT (d + 5)) Q b 49 [some (.inr (.inr 66)), some (.inl o), some (.inl mn), some (.inl k)] [] (xup h 66 0 0)
                        refine E_s 2 (i' := 28) (ls' := [some (.inr (.inr 66)), some (.inl o), some (.inl mn), some (.inl (k + 1))]) (sk' := []) (h' := (xup h 66 0 0)) rfl ?_
                        exact ih28 (k + 1) (by omega) (by omega) (fun j z1 z2 => by
                          rcases Int.lt_or_eq_of_le (show j ≤ k by omega) with z9 | z9
                          · exact hno j z1 z9
                          · subst z9; intro y9; first | exact c39 y9.1 | exact c46 y9.2) (by omega)
                      · rw [c_ne (by first | exact xand_r _ _ | exact ho | exact ⟨by omega, by omega⟩) (by first | exact xand_r _ _ | exact ho | exact ⟨by omega, by omega⟩)] at c46
                        simp only [decide_eq_true_eq, decide_eq_false_iff_not, Decidable.not_not] at c46
                        show xEx G0 cdX12_splits (some .int) (xRn G0 MT (d + 5)) Q b 47 [some (.inr (.inr 66)), some (.inl o), some (.inl mn), some (.inl k)] [] (xup h 66 0 0)
                        refine E_s 1 (i' := 48) (ls' := [some (.inr (.inr 66)), some (.inl o), some (.inl mn), some (.inl k)]) (sk' := [.inl k]) (h' := (xup h 66 0 0)) rfl ?_
                        exact E_ret (x := (.ireturn, 0, [], [])) (v := some (.inl k)) rfl (Or.inl rfl) (h1 hok k hk0 (by omega) ⟨c39, c46⟩ hno)
              exact key28 _ 0 (by omega) (by omega) (fun j z1 z2 => by omega) (Nat.lt_succ_self _)
            · show xEx G0 cdX12_splits (some .int) (xRn G0 MT (d + 5)) Q b 24 [some (.inr (.inr 66)), some (.inl o), some (.inl mn), none] [] (xup h 66 0 0)
              exact absurd c23 (by decide)
          · rw [c_eq (by first | exact xand_r _ _ | exact ho | exact ⟨by omega, by omega⟩) (by first | exact xand_r _ _ | exact ho | exact ⟨by omega, by omega⟩)] at c16
            simp only [decide_eq_true_eq, decide_eq_false_iff_not, Decidable.not_not] at c16
            show xEx G0 cdX12_splits (some .int) (xRn G0 MT (d + 5)) Q b 17 [some (.inr (.inr 66)), some (.inl o), some (.inl mn), none] [.inr (.inr 66)] h
            refine E_s 5 (i' := 23) (ls' := [some (.inr (.inr 66)), some (.inl o), some (.inl mn), none]) (sk' := [.inl 1]) (h' := (xup h 66 0 1)) rfl ?_
            refine E_b (x := (.ifCond .le 5, 26, [], [])) rfl rfl (fun c23 => ?_) (fun c23 => ?_)
            · show xEx G0 cdX12_splits (some .int) (xRn G0 MT (d + 5)) Q b 26 [some (.inr (.inr 66)), some (.inl o), some (.inl mn), none] [] (xup h 66 0 1)
              exact absurd c23 (by decide)
            · show xEx G0 cdX12_splits (some .int) (xRn G0 MT (d + 5)) Q b 24 [some (.inr (.inr 66)), some (.inl o), some (.inl mn), none] [] (xup h 66 0 1)
              refine E_s 1 (i' := 25) (ls' := [some (.inr (.inr 66)), some (.inl o), some (.inl mn), none]) (sk' := [.inl 0]) (h' := (xup h 66 0 1)) rfl ?_
              exact E_ret (x := (.ireturn, 0, [], [])) (v := some (.inl 0)) rfl (Or.inl rfl) (hA (fun y => by first | exact o0 q1 c4 y.1 | exact o0 q2 c8 y.2.1 | exact y.2.2.1 c10 | exact y.2.2.2.1 c12 | exact c16 y.2.2.2.2))
set_option maxHeartbeats 1000000 in
theorem CO_splits (d : Nat) {h : xH} (hI : Inv h) (o mn : Int) (ho : xr o) (hnn : xr mn) : CO (d + 6) 4 136 250 [.inl o, .inl mn] ["java/lang/IllegalArgumentException"] h := by
  obtain ⟨b0, b1, -, -, -, -, -, -, b9⟩ := Inv_t hI
  obtain ⟨c1, -, -, -, -, -, m4, -⟩ := Inv_b hI
  have b8 : 0 ≤ h 66 19 ∧ h 66 19 ≤ 150 := by rw [b1]; exact b0
  have c8 : 0 ≤ h 66 4 ∧ h 66 4 ≤ 12 := by rw [m4]; exact c1
  have hp := pw31 c1.2
  have oi : (o ≠ 0 ∧ mn ≠ 0 ∧ (0 ≤ xor_ o mn ∧ xor_ o mn < (2 ^ (h 1 2).toNat : Nat)) ∧ xand o mn = 0) ↔ ((0 ≤ o ∧ o < (2 ^ (h 66 4).toNat : Nat)) ∧ (0 ≤ mn ∧ mn < (2 ^ (h 66 4).toNat : Nat)) ∧ o ≠ 0 ∧ mn ≠ 0 ∧ xand o mn = 0) := by
    rw [m4, ← str_iff (xor_r o mn) c1.1 c1.2, or_and0, str_iff ho c1.1 c1.2, str_iff hnn c1.1 c1.2]
    constructor
    · rintro ⟨a, b, ⟨c, e⟩, f⟩; exact ⟨c, e, a, b, f⟩
    · rintro ⟨c, e, a, b, f⟩; exact ⟨a, b, ⟨c, e⟩, f⟩
  have pr : ((0 ≤ o ∧ o < (2 ^ (h 66 4).toNat : Nat)) ∧ (0 ≤ mn ∧ mn < (2 ^ (h 66 4).toNat : Nat)) ∧ o ≠ 0 ∧ mn ≠ 0 ∧ xand o mn = 0) → ∀ k, 0 ≤ k → k < h 28 9 → ((xand (h 87 k) o = o ∧ xand (h 87 k) mn = 0) ↔ (sub o (h 39 k) ∧ xand mn (h 39 k) = 0)) := fun q k z1 z2 => by
    obtain ⟨-, -, e3, -, e5, -⟩ := b9 k z1 z2
    rw [m4] at q
    rw [e3, sub_iff (a := o) (b := h 39 k) (by omega) (by omega), xand_cm (h 39 k) mn]
  refine o_splits d h o mn ho hnn c1 b0 (fun q k z1 z2 z3 z4 u => ?_) (fun q z u => ?_) (fun q u => ?_)
  · exact m_splits d 0 (xup h 112 0 u) o mn ho hnn c8 b8 (fun _ k2 y1 y2 y3 y4 => CO_v hI u (first_e (pr (oi.mp q)) z1 z2 z3 z4 y1 (by have y2 : k2 < h 66 19 := y2; omega) y3 y4)) (fun _ y => absurd ((pr (oi.mp q) k z1 z2).mpr z3) (y k z1 (show k < h 66 19 by omega))) (fun y => absurd (oi.mp q) y)
  · exact m_splits d 0 (xup h 112 0 u) o mn ho hnn c8 b8 (fun _ k2 y1 y2 y3 y4 => absurd ((pr (oi.mp q) k2 y1 (by have y2 : k2 < h 66 19 := y2; omega)).mp y3) (z k2 y1 (by have y2 : k2 < h 66 19 := y2; omega))) (fun _ _ => CO_v hI u rfl) (fun y => absurd (oi.mp q) y)
  · exact m_splits d 0 (xup h 112 0 u) o mn ho hnn c8 b8 (fun y => absurd (oi.mpr y) q) (fun y => absurd (oi.mpr y) q) (fun _ => CO_x hI 0 rfl u 0)
