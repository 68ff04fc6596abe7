theorem m_lSet (d b : Nat) (h S T : xH) (p set n : Int) (m : Nat) (o : OKS S T (S 0 0) (T 0 0) m) (hA : RA h S T) (hB : RB h S T p) (hs : ir m set) (hs1 : set ≠ 0) (hl : h 100 set = lf S (S 0 0) p set) (hn : 0 ≤ n ∧ n ≤ 3) (hpv : 1 ≤ n → ∀ a, ir m a → a ≠ 0 → sub a set → h 101 (4096 * (n - 1) + a) = szf S T (S 0 0) (T 0 0) p (n - 1).toNat a) {Q : xO → xH → Prop} (hQ : ∀ h', (∀ a, a ≠ 101 → a ≠ 102 → h' a = h a) → (∀ j, j ≠ 4096 * n + set → h' 101 j = h 101 j ∧ h' 102 j = h 102 j) → h' 101 (4096 * n + set) = szf S T (S 0 0) (T 0 0) p n.toNat set → h' 102 (4096 * n + set) = bti S T (S 0 0) (T 0 0) p n.toNat set → Q (.inl none) h') : xRn G0 MT (d + 1) b 227 [.inr (.inr 66), .inl n, .inl set] h Q := by
  have : n = 0 ∨ n = 1 ∨ n = 2 ∨ n = 3 := by omega
  rcases this with rfl | rfl | rfl | rfl
  · exact m_lSet0 d b h S T p set m o hA hB hs hs1 hl hQ
  · exact m_lSet1 d b h S T p set m o hA hB hs hs1 hl (hpv (by decide)) hQ
  · exact m_lSet2 d b h S T p set m o hA hB hs hs1 hl (hpv (by decide)) hQ
  · exact m_lSet3 d b h S T p set m o hA hB hs hs1 hl (hpv (by decide)) hQ
set_option maxHeartbeats 1000000 in
theorem m_lays (d b : Nat) (h S T : xH) (p ifs whole : Int) (m : Nat) (o : OKS S T (S 0 0) (T 0 0) m) (hA : RA h S T) (hB : RB h S T p) (hw : ir m whole) (hw1 : whole ≠ 0) (hi : 0 ≤ ifs ∧ ifs ≤ 3) {Q : xO → xH → Prop} (hQ : ∀ h', (∀ a, a ≠ 100 → a ≠ 101 → a ≠ 102 → h' a = h a) → (∀ r : Int, ir m r → r ≠ 0 → sub r whole → h' 100 r = lf S (S 0 0) p r) → (∀ j : Int, 0 ≤ j → ∀ s : Int, ir m s → s ≠ 0 → sub s whole → (j ≤ ifs) → h' 101 (4096 * j + s) = szf S T (S 0 0) (T 0 0) p j.toNat s ∧ h' 102 (4096 * j + s) = bti S T (S 0 0) (T 0 0) p j.toNat s) → Q (.inl (some (.inl (szf S T (S 0 0) (T 0 0) p ifs.toNat whole)))) h') : xRn G0 MT (d + 2) b 228 [.inr (.inr 66), .inl ifs, .inl whole] h Q := by
  refine R_of (M := mX12_lays) rfl (Nat.le_of_ble_eq_true rfl) ?_
  show xEx G0 cdX12_lays (some .int) (xRn G0 MT (d + 1)) Q b 0 [some (.inr (.inr 66)), some (.inl ifs), some (.inl whole), none, none] [] h
  have w4 := ir4 o.1 hw
  have subl : ∀ r, ir m r → sub r whole → r ≤ whole := fun r y1 y2 => by
    have e := (sub_b o.1 y1 hw).mpr y2
    have n1 := xa_n o.1 y1 hw
    have l1 := Nat.and_le_right (n := r.toNat) (m := whole.toNat)
    have := y1.1
    omega
  refine E_s 2 (i' := 2) (ls' := [some (.inr (.inr 66)), some (.inl ifs), some (.inl whole), some (.inl 1), none]) (sk' := []) (h' := h) rfl ?_
  have key2 : ∀ (n : Nat) (hh : xH) (s : Int), (1 ≤ s) → (s ≤ whole + 1) → (∀ a, a ≠ 100 → hh a = h a) → (∀ r : Int, ir m r → r ≠ 0 → sub r whole → r < s → hh 100 r = lf S (S 0 0) p r) → ((whole + 1 - s).toNat) < n → xEx G0 cdX12_lays (some .int) (xRn G0 MT (d + 1)) Q b 2 [some (.inr (.inr 66)), some (.inl ifs), some (.inl whole), some (.inl s), none] [] hh := by
    intro n
    induction n with
    | zero => intro hh s _ _ _ _ hm; exact absurd hm (Nat.not_lt_zero _)
    | succ n ih2 =>
      intro hh s hs0 hs9 hf hl hm2
      refine E_s 2 (i' := 4) (ls' := [some (.inr (.inr 66)), some (.inl ifs), some (.inl whole), some (.inl s), none]) (sk' := [.inl whole, .inl s]) (h' := hh) rfl ?_
      refine E_b (x := (.if_icmp .gt 30, 20, [], [])) rfl rfl (fun c4 => ?_) (fun c4 => ?_)
      · rw [c_gt (by first | assumption | (refine ⟨?_, ?_⟩ <;> omega) | (simp only [xr] at *; omega)) (by first | assumption | (refine ⟨?_, ?_⟩ <;> omega) | (simp only [xr] at *; omega))] at c4
        simp only [decide_eq_true_eq, decide_eq_false_iff_not, Decidable.not_not] at c4
        show xEx G0 cdX12_lays (some .int) (xRn G0 MT (d + 1)) Q b 20 [some (.inr (.inr 66)), some (.inl ifs), some (.inl whole), some (.inl s), none] [] hh
        refine E_s 2 (i' := 22) (ls' := [some (.inr (.inr 66)), some (.inl ifs), some (.inl whole), some (.inl 0), none]) (sk' := []) (h' := hh) rfl ?_
        have key22 : ∀ (n : Nat) (hg : xH) (n9 : Int) (v4 : Option xV), (0 ≤ n9) → (n9 ≤ ifs + 1) → (∀ a, a ≠ 100 → a ≠ 101 → a ≠ 102 → hg a = h a) → (∀ r : Int, ir m r → r ≠ 0 → sub r whole → hg 100 r = lf S (S 0 0) p r) → (∀ j : Int, 0 ≤ j → ∀ s : Int, ir m s → s ≠ 0 → sub s whole → (j < n9) → hg 101 (4096 * j + s) = szf S T (S 0 0) (T 0 0) p j.toNat s ∧ hg 102 (4096 * j + s) = bti S T (S 0 0) (T 0 0) p j.toNat s) → ((ifs + 1 - n9).toNat) < n → xEx G0 cdX12_lays (some .int) (xRn G0 MT (d + 1)) Q b 22 [some (.inr (.inr 66)), some (.inl ifs), some (.inl whole), some (.inl n9), v4] [] hg := by
          intro n
          induction n with
          | zero => intro hg n9 v4 _ _ _ _ _ hm; exact absurd hm (Nat.not_lt_zero _)
          | succ n ih22 =>
            intro hg n9 v4 hn0 hn9 hgf hgl hgp hm22
            refine E_s 2 (i' := 24) (ls' := [some (.inr (.inr 66)), some (.inl ifs), some (.inl whole), some (.inl n9), v4]) (sk' := [.inl ifs, .inl n9]) (h' := hg) rfl ?_
            refine E_b (x := (.if_icmp .gt 40, 43, [], [])) rfl rfl (fun c24 => ?_) (fun c24 => ?_)
            · rw [c_gt (by first | assumption | (refine ⟨?_, ?_⟩ <;> omega) | (simp only [xr] at *; omega)) (by first | assumption | (refine ⟨?_, ?_⟩ <;> omega) | (simp only [xr] at *; omega))] at c24
              simp only [decide_eq_true_eq, decide_eq_false_iff_not, Decidable.not_not] at c24
              show xEx G0 cdX12_lays (some .int) (xRn G0 MT (d + 1)) Q b 43 [some (.inr (.inr 66)), some (.inl ifs), some (.inl whole), some (.inl n9), v4] [] hg
              refine E_s 7 (i' := 50) (ls' := [some (.inr (.inr 66)), some (.inl ifs), some (.inl whole), some (.inl n9), v4]) (sk' := [.inl ((4096 * ifs) + whole), .inr (.inr 101)]) (h' := hg) rfl ?_
              refine E_ld (x := (.iaload, 0, [], [])) (ty := .int) (n := 16384) rfl rfl rfl (by omega) (by omega) ?_
              show xEx G0 cdX12_lays (some .int) (xRn G0 MT (d + 1)) Q b 51 [some (.inr (.inr 66)), some (.inl ifs), some (.inl whole), some (.inl n9), v4] [.inl (hg 101 ((4096 * ifs) + whole))] hg
              exact E_ret (x := (.ireturn, 0, [], [])) (v := some (.inl (hg 101 ((4096 * ifs) + whole)))) rfl (Or.inl rfl) (by
                have sw : sub whole whole := (sub_t o.1 hw hw).mpr (fun _ y => y)
                have r9 := hQ _ hgf hgl (fun j y1 r y2 y3 y4 y5 => hgp j y1 r y2 y3 y4 (by omega))
                rw [← (hgp ifs hi.1 whole hw hw1 sw (by omega)).1] at r9
                exact r9)
            · rw [c_gt (by first | assumption | (refine ⟨?_, ?_⟩ <;> omega) | (simp only [xr] at *; omega)) (by first | assumption | (refine ⟨?_, ?_⟩ <;> omega) | (simp only [xr] at *; omega))] at c24
              simp only [decide_eq_true_eq, decide_eq_false_iff_not, Decidable.not_not] at c24
              show xEx G0 cdX12_lays (some .int) (xRn G0 MT (d + 1)) Q b 25 [some (.inr (.inr 66)), some (.inl ifs), some (.inl whole), some (.inl n9), v4] [] hg
              refine E_s 2 (i' := 27) (ls' := [some (.inr (.inr 66)), some (.inl ifs), some (.inl whole), some (.inl n9), some (.inl 1)]) (sk' := []) (h' := hg) rfl ?_
              have key27 : ∀ (n : Nat) (hk : xH) (s : Int), (1 ≤ s) → (s ≤ whole + 1) → (∀ a, a ≠ 100 → a ≠ 101 → a ≠ 102 → hk a = h a) → (∀ r : Int, ir m r → r ≠ 0 → sub r whole → hk 100 r = lf S (S 0 0) p r) → (∀ j : Int, 0 ≤ j → ∀ r : Int, ir m r → r ≠ 0 → sub r whole → (j < n9 ∨ (j = n9 ∧ r < s)) → hk 101 (4096 * j + r) = szf S T (S 0 0) (T 0 0) p j.toNat r ∧ hk 102 (4096 * j + r) = bti S T (S 0 0) (T 0 0) p j.toNat r) → ((whole + 1 - s).toNat) < n → xEx G0 cdX12_lays (some .int) (xRn G0 MT (d + 1)) Q b 27 [some (.inr (.inr 66)), some (.inl ifs), some (.inl whole), some (.inl n9), some (.inl s)] [] hk := by
                intro n
                induction n with
                | zero => intro hk s _ _ _ _ _ hm; exact absurd hm (Nat.not_lt_zero _)
                | succ n ih27 =>
                  intro hk s hs0 hs9 hkf hkl hkp hm27
                  refine E_s 2 (i' := 29) (ls' := [some (.inr (.inr 66)), some (.inl ifs), some (.inl whole), some (.inl n9), some (.inl s)]) (sk' := [.inl whole, .inl s]) (h' := hk) rfl ?_
                  refine E_b (x := (.if_icmp .gt 25, 41, [], [])) rfl rfl (fun c29 => ?_) (fun c29 => ?_)
                  · rw [c_gt (by first | assumption | (refine ⟨?_, ?_⟩ <;> omega) | (simp only [xr] at *; omega)) (by first | assumption | (refine ⟨?_, ?_⟩ <;> omega) | (simp only [xr] at *; omega))] at c29
                    simp only [decide_eq_true_eq, decide_eq_false_iff_not, Decidable.not_not] at c29
                    show xEx G0 cdX12_lays (some .int) (xRn G0 MT (d + 1)) Q b 41 [some (.inr (.inr 66)), some (.inl ifs), some (.inl whole), some (.inl n9), some (.inl s)] [] hk
                    refine E_s 2 (i' := 22) (ls' := [some (.inr (.inr 66)), some (.inl ifs), some (.inl whole), some (.inl (n9 + 1)), some (.inl s)]) (sk' := []) (h' := hk) rfl ?_
                    exact ih22 _ (n9 + 1) _ (by omega) (by omega) hkf hkl (fun j y1 r y2 y3 y4 y5 => hkp j y1 r y2 y3 y4 (by
                      have := subl r y2 y4
                      rcases Int.lt_or_eq_of_le (show j ≤ n9 by omega) with y7 | y7
                      · exact Or.inl y7
                      · exact Or.inr ⟨y7, by omega⟩)) (by omega)
                  · rw [c_gt (by first | assumption | (refine ⟨?_, ?_⟩ <;> omega) | (simp only [xr] at *; omega)) (by first | assumption | (refine ⟨?_, ?_⟩ <;> omega) | (simp only [xr] at *; omega))] at c29
                    simp only [decide_eq_true_eq, decide_eq_false_iff_not, Decidable.not_not] at c29
                    show xEx G0 cdX12_lays (some .int) (xRn G0 MT (d + 1)) Q b 30 [some (.inr (.inr 66)), some (.inl ifs), some (.inl whole), some (.inl n9), some (.inl s)] [] hk
                    have is9 : ir m s := ⟨by omega, by have := hw.2; omega⟩
                    have sa := sub_b o.1 is9 hw
                    have r4 := ir4 o.1 is9
                    refine E_s 4 (i' := 34) (ls' := [some (.inr (.inr 66)), some (.inl ifs), some (.inl whole), some (.inl n9), some (.inl s)]) (sk' := [.inl s, .inl (xand s whole)]) (h' := hk) rfl ?_
                    refine E_b (x := (.if_icmp .ne 10, 39, [], [])) rfl rfl (fun c34 => ?_) (fun c34 => ?_)
                    · rw [c_ne (by first | exact xand_r _ _ | exact ⟨by omega, by omega⟩) (by first | exact xand_r _ _ | exact ⟨by omega, by omega⟩)] at c34
                      simp only [decide_eq_true_eq, decide_eq_false_iff_not, Decidable.not_not] at c34
                      show xEx G0 cdX12_lays (some .int) (xRn G0 MT (d + 1)) Q b 39 [some (.inr (.inr 66)), some (.inl ifs), some (.inl whole), some (.inl n9), some (.inl s)] [] hk
                      have nw : ¬ sub s whole := fun y => c34 (sa.mpr y)
                      refine E_s 2 (i' := 27) (ls' := [some (.inr (.inr 66)), some (.inl ifs), some (.inl whole), some (.inl n9), some (.inl (s + 1))]) (sk' := []) (h' := hk) rfl ?_
                      exact ih27 _ (s + 1) (by omega) (by omega) hkf hkl (fun j y1 r y2 y3 y4 y5 => hkp j y1 r y2 y3 y4 (by
                        rcases y5 with y5 | ⟨y5, y6⟩
                        · exact Or.inl y5
                        · refine Or.inr ⟨y5, ?_⟩
                          rcases Int.lt_or_eq_of_le (show r ≤ s by omega) with y7 | y7
                          · exact y7
                          · rw [y7] at y4; exact absurd y4 nw)) (by omega)
                    · rw [c_ne (by first | exact xand_r _ _ | exact ⟨by omega, by omega⟩) (by first | exact xand_r _ _ | exact ⟨by omega, by omega⟩)] at c34
                      simp only [decide_eq_true_eq, decide_eq_false_iff_not, Decidable.not_not] at c34
                      show xEx G0 cdX12_lays (some .int) (xRn G0 MT (d + 1)) Q b 35 [some (.inr (.inr 66)), some (.inl ifs), some (.inl whole), some (.inl n9), some (.inl s)] [] hk
                      have sw := sa.mp c34
                      refine E_s 3 (i' := 38) (ls' := [some (.inr (.inr 66)), some (.inl ifs), some (.inl whole), some (.inl n9), some (.inl s)]) (sk' := [.inl s, .inl n9, .inr (.inr 66)]) (h' := hk) rfl ?_
                      refine E_cv (x := (.invokevirtual 387, 2, [(10, 227)], [0])) (q := fun h9 => (∀ a, a ≠ 101 → a ≠ 102 → h9 a = hk a) ∧ (∀ j, j ≠ 4096 * n9 + s → h9 101 j = hk 101 j ∧ h9 102 j = hk 102 j) ∧ h9 101 (4096 * n9 + s) = szf S T (S 0 0) (T 0 0) p n9.toNat s ∧ h9 102 (4096 * n9 + s) = bti S T (S 0 0) (T 0 0) p n9.toNat s) rfl rfl (Nat.le_of_ble_eq_true rfl) (m_lSet d 0 hk S T p s n9 m o (RA_fr (fun a z => hkf a (by omega) (by omega) (by omega)) hA) (RB_fr (fun a z => hkf a (by omega) (by omega) (by omega)) hB) is9 (by omega) (hkl s is9 (by omega) sw) ⟨hn0, by omega⟩ (fun y1 a y2 y3 y4 => (hkp (n9 - 1) (by omega) a y2 y3 (sub_tr o.1 y2 is9 hw y4 sw) (Or.inl (by omega))).1) (fun h9 z1 z2 z3 z4 => ⟨rfl, z1, z2, z3, z4⟩)) (fun h5 hq5 => ?_)
                      obtain ⟨l1, l2, l3, l4⟩ := hq5
                      show xEx G0 cdX12_lays (some .int) (xRn G0 MT (d + 1)) Q b 39 [some (.inr (.inr 66)), some (.inl ifs), some (.inl whole), some (.inl n9), some (.inl s)] [] h5
                      skip
                      refine E_s 2 (i' := 27) (ls' := [some (.inr (.inr 66)), some (.inl ifs), some (.inl whole), some (.inl n9), some (.inl (s + 1))]) (sk' := []) (h' := h5) rfl ?_
                      exact ih27 _ (s + 1) (by omega) (by omega) (fun a y1 y2 y3 => by rw [l1 a y2 y3]; exact hkf a y1 y2 y3) (fun r y1 y2 y3 => by rw [l1 _ (by decide) (by decide)]; exact hkl r y1 y2 y3) (fun j y1 r y2 y3 y4 y5 => by
                        have b1 := ir4 o.1 y2
                        by_cases e : 4096 * j + r = 4096 * n9 + s
                        · have e1 : j = n9 := by omega
                          have e2 : r = s := by omega
                          rw [e1, e2]; exact ⟨l3, l4⟩
                        · obtain ⟨x1, x2⟩ := l2 _ e
                          rw [x1, x2]
                          refine hkp j y1 r y2 y3 y4 ?_
                          rcases y5 with y5 | ⟨y5, y6⟩
                          · exact Or.inl y5
                          · refine Or.inr ⟨y5, ?_⟩
                            rcases Int.lt_or_eq_of_le (show r ≤ s by omega) with y7 | y7
                            · exact y7
                            · exact absurd (by rw [y5, y7]) e) (by omega)
              exact key27 _ hg 1 (by omega) (by omega) hgf hgl (fun j y1 r y2 y3 y4 y5 => hgp j y1 r y2 y3 y4 (by
                rcases y5 with y5 | ⟨y5, y6⟩
                · exact y5
                · have := y2.1; omega)) (Nat.lt_succ_self _)
        exact key22 _ hh 0 none (by omega) (by omega) (fun a z1 z2 z3 => hf a z1) (fun r y1 y2 y3 => hl r y1 y2 y3 (by have := (ir4 o.1 y1); have := subl r y1 y3; omega)) (fun j y1 r y2 y3 y4 y5 => by omega) (Nat.lt_succ_self _)
      · rw [c_gt (by first | assumption | (refine ⟨?_, ?_⟩ <;> omega) | (simp only [xr] at *; omega)) (by first | assumption | (refine ⟨?_, ?_⟩ <;> omega) | (simp only [xr] at *; omega))] at c4
        simp only [decide_eq_true_eq, decide_eq_false_iff_not, Decidable.not_not] at c4
        show xEx G0 cdX12_lays (some .int) (xRn G0 MT (d + 1)) Q b 5 [some (.inr (.inr 66)), some (.inl ifs), some (.inl whole), some (.inl s), none] [] hh
        have is9 : ir m s := ⟨by omega, by have := hw.2; omega⟩
        have sa := sub_b o.1 is9 hw
        have r4 := ir4 o.1 is9
        refine E_s 4 (i' := 9) (ls' := [some (.inr (.inr 66)), some (.inl ifs), some (.inl whole), some (.inl s), none]) (sk' := [.inl s, .inl (xand s whole)]) (h' := hh) rfl ?_
        refine E_b (x := (.if_icmp .eq 6, 11, [], [])) rfl rfl (fun c9 => ?_) (fun c9 => ?_)
        · rw [c_eq (by first | exact xand_r _ _ | exact ⟨by omega, by omega⟩) (by first | exact xand_r _ _ | exact ⟨by omega, by omega⟩)] at c9
          simp only [decide_eq_true_eq, decide_eq_false_iff_not, Decidable.not_not] at c9
          show xEx G0 cdX12_lays (some .int) (xRn G0 MT (d + 1)) Q b 11 [some (.inr (.inr 66)), some (.inl ifs), some (.inl whole), some (.inl s), none] [] hh
          have sw := sa.mp c9
          refine E_s 5 (i' := 16) (ls' := [some (.inr (.inr 66)), some (.inl ifs), some (.inl whole), some (.inl s), none]) (sk' := [.inl s, .inr (.inr 66), .inl s, .inr (.inr 100)]) (h' := hh) rfl ?_
          refine E_ci (x := (.invokevirtual 384, 1, [(10, 226)], [0])) (r := (lf S (S 0 0) p s)) (h' := hh) rfl rfl (Nat.le_of_ble_eq_true rfl) (m_leafOf d 0 hh S T p s m o (RA_fr (fun a z => hf a (by omega)) hA) (RB_fr (fun a z => hf a (by omega)) hB) is9 ⟨rfl, rfl⟩) ?_
          show xEx G0 cdX12_lays (some .int) (xRn G0 MT (d + 1)) Q b 17 [some (.inr (.inr 66)), some (.inl ifs), some (.inl whole), some (.inl s), none] [.inl (lf S (S 0 0) p s), .inl s, .inr (.inr 100)] hh
          refine E_sd (x := (.iastore, 0, [], [])) (ty := .int) (n := 4096) (y := (lf S (S 0 0) p s)) rfl rfl rfl (by omega) (by omega) (trivial) ?_
          show xEx G0 cdX12_lays (some .int) (xRn G0 MT (d + 1)) Q b 18 [some (.inr (.inr 66)), some (.inl ifs), some (.inl whole), some (.inl s), none] [] (xup hh 100 s (lf S (S 0 0) p s))
          refine E_s 2 (i' := 2) (ls' := [some (.inr (.inr 66)), some (.inl ifs), some (.inl whole), some (.inl (s + 1)), none]) (sk' := []) (h' := (xup hh 100 s (lf S (S 0 0) p s))) rfl ?_
          exact ih2 _ (s + 1) (by omega) (by omega) (fun a z => by rw [xup_o _ _ _ _ a z]; exact hf a z) (fun r y1 y2 y3 y4 => by
            by_cases e : r = s
            · rw [e, xup_s]
            · rw [xup_j e]; exact hl r y1 y2 y3 (by omega)) (by omega)
        · rw [c_eq (by first | exact xand_r _ _ | exact ⟨by omega, by omega⟩) (by first | exact xand_r _ _ | exact ⟨by omega, by omega⟩)] at c9
          simp only [decide_eq_true_eq, decide_eq_false_iff_not, Decidable.not_not] at c9
          show xEx G0 cdX12_lays (some .int) (xRn G0 MT (d + 1)) Q b 10 [some (.inr (.inr 66)), some (.inl ifs), some (.inl whole), some (.inl s), none] [] hh
          have nw : ¬ sub s whole := fun y => c9 (sa.mpr y)
          refine E_s 3 (i' := 2) (ls' := [some (.inr (.inr 66)), some (.inl ifs), some (.inl whole), some (.inl (s + 1)), none]) (sk' := []) (h' := hh) rfl ?_
          exact ih2 _ (s + 1) (by omega) (by omega) hf (fun r y1 y2 y3 y4 => by
            rcases Int.lt_or_eq_of_le (show r ≤ s by omega) with y7 | y7
            · exact hl r y1 y2 y3 y7
            · rw [y7] at y3; exact absurd y3 nw) (by omega)
  exact key2 _ h 1 (by omega) (by omega) (fun _ _ => rfl) (fun r y1 y2 y3 y4 => by have := y1.1; omega) (Nat.lt_succ_self _)
