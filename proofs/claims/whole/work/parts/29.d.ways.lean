/-- in how many ways, as far as laid -/
def WYA (hh S T : xH) (m : Nat) (j s : Int) : Prop := ∀ j2, 0 ≤ j2 → ∀ s2, ir m s2 → s2 ≠ 0 → (j2 < j ∨ (j2 = j ∧ s2 < s)) → hh 110 (4096 * j2 + s2) = wyf S T (S 0 0) (T 0 0) j2.toNat s2
theorem WYA_s {hh h2 S T : xH} {m : Nat} {j s : Int} (h12 : m ≤ 12) (hj : 0 ≤ j) (is : ir m s) (w : WYA hh S T m j s) (e1 : ∀ i, i ≠ (4096 * j) + s → h2 110 i = hh 110 i) (e2 : h2 110 ((4096 * j) + s) = wyf S T (S 0 0) (T 0 0) j.toNat s) : WYA h2 S T m j (s + 1) := by
  intro j2 z0 s2 z1 z2 z3
  have b1 := ir4 h12 is
  have b2 := ir4 h12 z1
  by_cases y : j2 = j ∧ s2 = s
  · obtain ⟨rfl, rfl⟩ := y
    exact e2
  · rw [e1 _ (by omega)]
    exact w j2 z0 s2 z1 z2 (by omega)
theorem WYA_j {hh S T : xH} {m : Nat} {j s all : Int} (ha : all + 1 = (2 ^ m : Nat)) (hs : all < s) (w : WYA hh S T m j s) : WYA hh S T m (j + 1) 1 := by
  intro j2 z0 s2 z1 z2 z3
  have := z1.2
  have := z1.1
  exact w j2 z0 s2 z1 z2 (by omega)
theorem WYA_0 {hh S T : xH} {m : Nat} : WYA hh S T m 0 1 := by
  intro j2 z0 s2 z1 z2 z3
  have := z1.1
  omega
theorem tb_all9 {h : xH} {m : Nat} (hn : 0 ≤ h 66 4 ∧ h 66 4 ≤ 12) (hm : m = (h 66 4).toNat) {s : Int} (hs : ir m s) (i : Nat) (hi : tb s i = true) : tb (xshl 1 (h 66 4) - 1) i = true := by
  rw [n_all hn.1 hn.2, ← hm]
  rcases Nat.lt_or_ge i m with y | y
  · unfold tb
    rw [Int.toNat_natCast, Nat.testBit_two_pow_sub_one]
    exact decide_eq_true y
  · rw [tb_hi hs y] at hi; cases hi
set_option maxHeartbeats 1000000 in
theorem m_ties (d b : Nat) (h S T : xH) (ifs n0 : Int) (wt : Int → Int) (hx : xr ifs) (m : Nat) (o : OKS S T (S 0 0) (T 0 0) m) (hm : m = (h 66 4).toNat) (hn : 0 ≤ h 66 4 ∧ h 66 4 ≤ 12) (hR : RR h S) (hRT : RRT h T) (hF : FW n0 wt 9 S) (hT : FWT S 7 T) (h3 : 0 ≤ S 0 0 ∧ S 0 0 ≤ 300) (h4 : 0 ≤ T 0 0 ∧ T 0 0 ≤ 150)  {Q : xO → xH → Prop} (hA : ¬ (0 ≤ ifs ∧ ifs ≤ 3) → Q (.inl (some (.inl (0)))) (xup h 66 0 1)) (hS : (0 ≤ ifs ∧ ifs ≤ 3) → ¬ (h 66 4 ≠ 0) → Q (.inl (some (.inl (0)))) (xup h 66 0 2)) (hO : (0 ≤ ifs ∧ ifs ≤ 3) → (h 66 4 ≠ 0) → ∀ h', (∀ a, (a < 98 ∨ (104 < a ∧ a ≠ 110)) → h' a = (xup h 66 0 0) a) → Q (.inl (some (.inl (wyf S T (S 0 0) (T 0 0) ifs.toNat (xshl 1 (h 66 4) - 1))))) h') : xRn G0 MT (d + 4) b 235 [.inr (.inr 66), .inl ifs] h Q := by
  refine R_of (M := mX12_ties) rfl (Nat.le_of_ble_eq_true rfl) ?_
  show xEx G0 cdX12_ties (some .int) (xRn G0 MT (d + 3)) Q b 0 [some (.inr (.inr 66)), some (.inl ifs), none, none, none, none] [] h
  refine E_s 4 (i' := 4) (ls' := [some (.inr (.inr 66)), some (.inl ifs), none, none, none, none]) (sk' := [.inl 3, .inl 0, .inl ifs, .inr (.inr 66)]) (h' := h) rfl ?_
  refine E_cp (x := (.invokestatic 180, 3, [(0, 155)], [])) (q := fun r1 h9 => ((r1 = 1 ∧ (0 ≤ ifs ∧ ifs ≤ 3)) ∨ (r1 = 0 ∧ ¬ (0 ≤ ifs ∧ ifs ≤ 3))) ∧ h = h9) rfl rfl (Nat.le_of_ble_eq_true rfl) (m_isIn (d + 2) 0 (h) ifs 0 3 hx ⟨by omega, by omega⟩ ⟨by omega, by omega⟩ (fun z => ⟨_, rfl, Or.inl ⟨rfl, z⟩, rfl⟩) (fun z => ⟨_, rfl, Or.inr ⟨rfl, z⟩, rfl⟩)) (fun r1 h9 q1 => ?_)
  obtain ⟨q1, rfl⟩ := q1
  show xEx G0 cdX12_ties (some .int) (xRn G0 MT (d + 3)) Q b 5 [some (.inr (.inr 66)), some (.inl ifs), none, none, none, none] [.inl r1, .inr (.inr 66)] h
  refine E_b (x := (.ifCond .ne 7, 8, [], [])) rfl rfl (fun c5 => ?_) (fun c5 => ?_)
  · rw [c_ne (by first | assumption | (refine ⟨?_, ?_⟩ <;> omega) | (simp only [xr] at *; omega)) (by first | assumption | (refine ⟨?_, ?_⟩ <;> omega) | (simp only [xr] at *; omega))] at c5
    simp only [decide_eq_true_eq, decide_eq_false_iff_not, Decidable.not_not] at c5
    show xEx G0 cdX12_ties (some .int) (xRn G0 MT (d + 3)) Q b 8 [some (.inr (.inr 66)), some (.inl ifs), none, none, none, none] [.inr (.inr 66)] h
    refine E_s 2 (i' := 10) (ls' := [some (.inr (.inr 66)), some (.inl ifs), none, none, none, none]) (sk' := [.inl (h 66 4), .inr (.inr 66)]) (h' := h) rfl ?_
    refine E_b (x := (.ifCond .ne 7, 13, [], [])) rfl rfl (fun c10 => ?_) (fun c10 => ?_)
    · rw [c_ne (by first | assumption | (refine ⟨?_, ?_⟩ <;> omega) | (simp only [xr] at *; omega)) (by first | assumption | (refine ⟨?_, ?_⟩ <;> omega) | (simp only [xr] at *; omega))] at c10
      simp only [decide_eq_true_eq, decide_eq_false_iff_not, Decidable.not_not] at c10
      show xEx G0 cdX12_ties (some .int) (xRn G0 MT (d + 3)) Q b 13 [some (.inr (.inr 66)), some (.inl ifs), none, none, none, none] [.inr (.inr 66)] h
      refine E_s 4 (i' := 17) (ls' := [some (.inr (.inr 66)), some (.inl ifs), none, none, none, none]) (sk' := [.inl 0]) (h' := (xup h 66 0 0)) rfl ?_
      refine E_b (x := (.ifCond .le 5, 20, [], [])) rfl rfl (fun c17 => ?_) (fun c17 => ?_)
      · show xEx G0 cdX12_ties (some .int) (xRn G0 MT (d + 3)) Q b 20 [some (.inr (.inr 66)), some (.inl ifs), none, none, none, none] [] (xup h 66 0 0)
        have qi := o1 q1 (by omega)
        have he : h 66 4 ≠ 0 := by omega
        have hR9 : RR (xup h 66 0 0) S := RR_vh0 hR
        have hRT9 : RRT (xup h 66 0 0) T := RRT_vh0 hRT
        have al1 : (xshl 1 (h 66 4) - 1) + 1 = (2 ^ m : Nat) := by have := n_all hn.1 hn.2; rw [this, hm]; have := Nat.two_pow_pos (h 66 4).toNat; omega
        have al2 : (2 ^ m : Nat) ≤ 4096 := Nat.pow_le_pow_right (n := 2) (i := m) (j := 12) (by decide) o.1
        refine E_s 2 (i' := 22) (ls' := [some (.inr (.inr 66)), some (.inl ifs), none, none, none, none]) (sk' := [.inl (-1), .inr (.inr 66)]) (h' := (xup h 66 0 0)) rfl ?_
        refine E_cv (x := (.invokevirtual 391, 1, [(10, 229)], [0])) (q := fun h9 => (∀ a, a ≠ 98 → a ≠ 99 → a ≠ 103 → a ≠ 104 → h9 a = (xup h 66 0 0) a) ∧ RB h9 S T (-1)) rfl rfl (Nat.le_of_ble_eq_true rfl) (m_barsN (d + 2) 0 (xup h 66 0 0) S T n0 wt hR9 hRT9 hF hT h3 h4 (fun h9 z1 z2 => ⟨rfl, z1, z2⟩)) (fun h1 hq1 => ?_)
        obtain ⟨f1, rb1⟩ := hq1
        have x1 : h1 66 = (xup h 66 0 0) 66 := f1 _ (by decide) (by decide) (by decide) (by decide)
        have ra1 : RA h1 S T := RA_fr (fun a z => f1 a (by omega) (by omega) (by omega) (by omega)) (RA_rr hR9 hRT9)
        have ia : ir m (xshl 1 (h 66 4) - 1) := ir_all hn.1 hn.2 hm
        have an : (xshl 1 (h 66 4) - 1) ≠ 0 := all_ne hn.1 hn.2 he
        show xEx G0 cdX12_ties (some .int) (xRn G0 MT (d + 3)) Q b 23 [some (.inr (.inr 66)), some (.inl ifs), none, none, none, none] [] h1
        refine E_s 1 (i' := 24) (ls' := [some (.inr (.inr 66)), some (.inl ifs), none, none, none, none]) (sk' := [.inr (.inr 66)]) (h' := h1) rfl ?_
        refine E_ci (x := (.invokevirtual 257, 0, [(10, 156)], [0])) (r := (xshl 1 (h 66 4) - 1)) (h' := h1) rfl rfl (Nat.le_of_ble_eq_true rfl) (m_all (d + 2) 0 h1 ⟨by show Sum.inl (some (Sum.inl (xshl 1 (h1 66 4) - 1))) = _; rw [x1]; rfl, rfl⟩) ?_
        show xEx G0 cdX12_ties (some .int) (xRn G0 MT (d + 3)) Q b 25 [some (.inr (.inr 66)), some (.inl ifs), none, none, none, none] [.inl (xshl 1 (h 66 4) - 1)] h1
        refine E_s 4 (i' := 29) (ls' := [some (.inr (.inr 66)), some (.inl ifs), some (.inl (xshl 1 (h 66 4) - 1)), none, none, none]) (sk' := [.inl (xshl 1 (h 66 4) - 1), .inl ifs, .inr (.inr 66)]) (h' := h1) rfl ?_
        refine E_cp (x := (.invokevirtual 394, 2, [(10, 228)], [0])) (q := fun r h9 => r = szf S T (S 0 0) (T 0 0) (-1) ifs.toNat (xshl 1 (h 66 4) - 1) ∧ (∀ a, a ≠ 100 → a ≠ 101 → a ≠ 102 → h9 a = h1 a) ∧ (∀ r : Int, ir m r → r ≠ 0 → sub r (xshl 1 (h 66 4) - 1) → h9 100 r = lf S (S 0 0) (-1) r) ∧ (∀ j : Int, 0 ≤ j → ∀ s : Int, ir m s → s ≠ 0 → sub s (xshl 1 (h 66 4) - 1) → (j ≤ ifs) → h9 101 (4096 * j + s) = szf S T (S 0 0) (T 0 0) (-1) j.toNat s ∧ h9 102 (4096 * j + s) = bti S T (S 0 0) (T 0 0) (-1) j.toNat s)) rfl rfl (Nat.le_of_ble_eq_true rfl) (m_lays (d + 1) 0 h1 S T (-1) ifs (xshl 1 (h 66 4) - 1) m o ra1 rb1 ia an qi (fun h9 z1 z2 z3 => ⟨_, rfl, rfl, z1, z2, z3⟩)) (fun r2 h2 hq2 => ?_)
        obtain ⟨er2, f2, lf2, ls2⟩ := hq2
        have zr2 := szf_r (p := (-1)) o (ifs.toNat) (xshl 1 (h 66 4) - 1)
        show xEx G0 cdX12_ties (some .int) (xRn G0 MT (d + 3)) Q b 30 [some (.inr (.inr 66)), some (.inl ifs), some (.inl (xshl 1 (h 66 4) - 1)), none, none, none] [.inl r2] h2
        refine E_ti (y := (szf S T (S 0 0) (T 0 0) (-1) ifs.toNat (xshl 1 (h 66 4) - 1))) (by rw [er2]) ?_
        have ra2 : RA h2 S T := RA_fr (fun a z => f2 a (by omega) (by omega) (by omega)) ra1
        have sal : ∀ s, ir m s → sub s (xshl 1 (h 66 4) - 1) := fun s hs => (sub_t o.1 hs ia).mpr (fun i hi => tb_all9 hn hm hs i hi)
        have alr := ir4 o.1 ia
        refine E_s 3 (i' := 33) (ls' := [some (.inr (.inr 66)), some (.inl ifs), some (.inl (xshl 1 (h 66 4) - 1)), some (.inl (szf S T (S 0 0) (T 0 0) (-1) ifs.toNat (xshl 1 (h 66 4) - 1))), some (.inl 0), none]) (sk' := []) (h' := h2) rfl ?_
        have key33 : ∀ (n : Nat) (hh : xH) (j : Int) (v5 : Option xV), (0 ≤ j) → (j ≤ ifs + 1) → (∀ a, a ≠ 110 → hh a = h2 a) → (WYA hh S T m j 1) → ((ifs + 1 - j).toNat) < n → xEx G0 cdX12_ties (some .int) (xRn G0 MT (d + 3)) Q b 33 [some (.inr (.inr 66)), some (.inl ifs), some (.inl (xshl 1 (h 66 4) - 1)), some (.inl (szf S T (S 0 0) (T 0 0) (-1) ifs.toNat (xshl 1 (h 66 4) - 1))), some (.inl j), v5] [] hh := by
          intro n
          induction n with
          | zero => intro hh j v5 _ _ _ _ hm; exact absurd hm (Nat.not_lt_zero _)
          | succ n ih33 =>
            intro hh j v5 j0 j1 fh0 wa0 hm33
            refine E_s 2 (i' := 35) (ls' := [some (.inr (.inr 66)), some (.inl ifs), some (.inl (xshl 1 (h 66 4) - 1)), some (.inl (szf S T (S 0 0) (T 0 0) (-1) ifs.toNat (xshl 1 (h 66 4) - 1))), some (.inl j), v5]) (sk' := [.inl ifs, .inl j]) (h' := hh) rfl ?_
            refine E_b (x := (.if_icmp .gt 32, 49, [], [])) rfl rfl (fun c35 => ?_) (fun c35 => ?_)
            · rw [c_gt (by first | assumption | (refine ⟨?_, ?_⟩ <;> omega) | (simp only [xr] at *; omega)) (by first | assumption | (refine ⟨?_, ?_⟩ <;> omega) | (simp only [xr] at *; omega))] at c35
              simp only [decide_eq_true_eq, decide_eq_false_iff_not, Decidable.not_not] at c35
              show xEx G0 cdX12_ties (some .int) (xRn G0 MT (d + 3)) Q b 49 [some (.inr (.inr 66)), some (.inl ifs), some (.inl (xshl 1 (h 66 4) - 1)), some (.inl (szf S T (S 0 0) (T 0 0) (-1) ifs.toNat (xshl 1 (h 66 4) - 1))), some (.inl j), v5] [] hh
              have w9 := wa0 ifs qi.1 (xshl 1 (h 66 4) - 1) ia an (by omega)
              have wr := wyf_r o ifs.toNat (xshl 1 (h 66 4) - 1)
              refine E_s 2 (i' := 51) (ls' := [some (.inr (.inr 66)), some (.inl ifs), some (.inl (xshl 1 (h 66 4) - 1)), some (.inl (szf S T (S 0 0) (T 0 0) (-1) ifs.toNat (xshl 1 (h 66 4) - 1))), some (.inl j), v5]) (sk' := [.inl 1000000, .inl (szf S T (S 0 0) (T 0 0) (-1) ifs.toNat (xshl 1 (h 66 4) - 1))]) (h' := hh) rfl ?_
              refine E_b (x := (.if_icmp .ge 19, 62, [], [])) rfl rfl (fun c51 => ?_) (fun c51 => ?_)
              · rw [c_ge (by first | assumption | (refine ⟨?_, ?_⟩ <;> omega) | (simp only [xr] at *; omega)) (by first | assumption | (refine ⟨?_, ?_⟩ <;> omega) | (simp only [xr] at *; omega))] at c51
                simp only [decide_eq_true_eq, decide_eq_false_iff_not, Decidable.not_not] at c51
                show xEx G0 cdX12_ties (some .int) (xRn G0 MT (d + 3)) Q b 62 [some (.inr (.inr 66)), some (.inl ifs), some (.inl (xshl 1 (h 66 4) - 1)), some (.inl (szf S T (S 0 0) (T 0 0) (-1) ifs.toNat (xshl 1 (h 66 4) - 1))), some (.inl j), v5] [] hh
                refine E_s 1 (i' := 63) (ls' := [some (.inr (.inr 66)), some (.inl ifs), some (.inl (xshl 1 (h 66 4) - 1)), some (.inl (szf S T (S 0 0) (T 0 0) (-1) ifs.toNat (xshl 1 (h 66 4) - 1))), some (.inl j), v5]) (sk' := [.inl 0]) (h' := hh) rfl ?_
                exact E_ret (x := (.ireturn, 0, [], [])) (v := some (.inl 0)) rfl (Or.inl rfl) (by
                  have r9 := hO qi he hh (fun a z => by rw [fh0 a (by omega), f2 a (by omega) (by omega) (by omega)]; exact f1 a (by omega) (by omega) (by omega) (by omega))
                  rw [wyf_j qi.1, if_pos (by omega)] at r9
                  exact r9)
              · rw [c_ge (by first | assumption | (refine ⟨?_, ?_⟩ <;> omega) | (simp only [xr] at *; omega)) (by first | assumption | (refine ⟨?_, ?_⟩ <;> omega) | (simp only [xr] at *; omega))] at c51
                simp only [decide_eq_true_eq, decide_eq_false_iff_not, Decidable.not_not] at c51
                show xEx G0 cdX12_ties (some .int) (xRn G0 MT (d + 3)) Q b 52 [some (.inr (.inr 66)), some (.inl ifs), some (.inl (xshl 1 (h 66 4) - 1)), some (.inl (szf S T (S 0 0) (T 0 0) (-1) ifs.toNat (xshl 1 (h 66 4) - 1))), some (.inl j), v5] [] hh
                refine E_s 7 (i' := 59) (ls' := [some (.inr (.inr 66)), some (.inl ifs), some (.inl (xshl 1 (h 66 4) - 1)), some (.inl (szf S T (S 0 0) (T 0 0) (-1) ifs.toNat (xshl 1 (h 66 4) - 1))), some (.inl j), v5]) (sk' := [.inl ((4096 * ifs) + (xshl 1 (h 66 4) - 1)), .inr (.inr 110)]) (h' := hh) rfl ?_
                refine E_ld (x := (.laload, 0, [], [])) (ty := .long) (n := 16384) rfl rfl rfl (by omega) (by omega) ?_
                show xEx G0 cdX12_ties (some .int) (xRn G0 MT (d + 3)) Q b 60 [some (.inr (.inr 66)), some (.inl ifs), some (.inl (xshl 1 (h 66 4) - 1)), some (.inl (szf S T (S 0 0) (T 0 0) (-1) ifs.toNat (xshl 1 (h 66 4) - 1))), some (.inl j), v5] [.inr (.inl (hh 110 ((4096 * ifs) + (xshl 1 (h 66 4) - 1))))] hh
                refine E_s 2 (i' := 63) (ls' := [some (.inr (.inr 66)), some (.inl ifs), some (.inl (xshl 1 (h 66 4) - 1)), some (.inl (szf S T (S 0 0) (T 0 0) (-1) ifs.toNat (xshl 1 (h 66 4) - 1))), some (.inl j), v5]) (sk' := [.inl (hh 110 ((4096 * ifs) + (xshl 1 (h 66 4) - 1)))]) (h' := hh) rfl ?_
                exact E_ret (x := (.ireturn, 0, [], [])) (v := some (.inl (hh 110 ((4096 * ifs) + (xshl 1 (h 66 4) - 1))))) rfl (Or.inl rfl) (by
                  have r9 := hO qi he hh (fun a z => by rw [fh0 a (by omega), f2 a (by omega) (by omega) (by omega)]; exact f1 a (by omega) (by omega) (by omega) (by omega))
                  rw [← w9] at r9
                  exact r9)
            · rw [c_gt (by first | assumption | (refine ⟨?_, ?_⟩ <;> omega) | (simp only [xr] at *; omega)) (by first | assumption | (refine ⟨?_, ?_⟩ <;> omega) | (simp only [xr] at *; omega))] at c35
              simp only [decide_eq_true_eq, decide_eq_false_iff_not, Decidable.not_not] at c35
              show xEx G0 cdX12_ties (some .int) (xRn G0 MT (d + 3)) Q b 36 [some (.inr (.inr 66)), some (.inl ifs), some (.inl (xshl 1 (h 66 4) - 1)), some (.inl (szf S T (S 0 0) (T 0 0) (-1) ifs.toNat (xshl 1 (h 66 4) - 1))), some (.inl j), v5] [] hh
              refine E_s 2 (i' := 38) (ls' := [some (.inr (.inr 66)), some (.inl ifs), some (.inl (xshl 1 (h 66 4) - 1)), some (.inl (szf S T (S 0 0) (T 0 0) (-1) ifs.toNat (xshl 1 (h 66 4) - 1))), some (.inl j), some (.inl 1)]) (sk' := []) (h' := hh) rfl ?_
              have key38 : ∀ (n : Nat) (hh : xH) (s : Int), (1 ≤ s) → (s ≤ (xshl 1 (h 66 4) - 1) + 1) → (∀ a, a ≠ 110 → hh a = h2 a) → (WYA hh S T m j s) → (((xshl 1 (h 66 4) - 1) + 1 - s).toNat) < n → xEx G0 cdX12_ties (some .int) (xRn G0 MT (d + 3)) Q b 38 [some (.inr (.inr 66)), some (.inl ifs), some (.inl (xshl 1 (h 66 4) - 1)), some (.inl (szf S T (S 0 0) (T 0 0) (-1) ifs.toNat (xshl 1 (h 66 4) - 1))), some (.inl j), some (.inl s)] [] hh := by
                intro n
                induction n with
                | zero => intro hh s _ _ _ _ hm; exact absurd hm (Nat.not_lt_zero _)
                | succ n ih38 =>
                  intro hh s s0 s1 fh wa hm38
                  refine E_s 2 (i' := 40) (ls' := [some (.inr (.inr 66)), some (.inl ifs), some (.inl (xshl 1 (h 66 4) - 1)), some (.inl (szf S T (S 0 0) (T 0 0) (-1) ifs.toNat (xshl 1 (h 66 4) - 1))), some (.inl j), some (.inl s)]) (sk' := [.inl (xshl 1 (h 66 4) - 1), .inl s]) (h' := hh) rfl ?_
                  refine E_b (x := (.if_icmp .gt 17, 47, [], [])) rfl rfl (fun c40 => ?_) (fun c40 => ?_)
                  · rw [c_gt (by first | assumption | (refine ⟨?_, ?_⟩ <;> omega) | (simp only [xr] at *; omega)) (by first | assumption | (refine ⟨?_, ?_⟩ <;> omega) | (simp only [xr] at *; omega))] at c40
                    simp only [decide_eq_true_eq, decide_eq_false_iff_not, Decidable.not_not] at c40
                    show xEx G0 cdX12_ties (some .int) (xRn G0 MT (d + 3)) Q b 47 [some (.inr (.inr 66)), some (.inl ifs), some (.inl (xshl 1 (h 66 4) - 1)), some (.inl (szf S T (S 0 0) (T 0 0) (-1) ifs.toNat (xshl 1 (h 66 4) - 1))), some (.inl j), some (.inl s)] [] hh
                    refine E_s 2 (i' := 33) (ls' := [some (.inr (.inr 66)), some (.inl ifs), some (.inl (xshl 1 (h 66 4) - 1)), some (.inl (szf S T (S 0 0) (T 0 0) (-1) ifs.toNat (xshl 1 (h 66 4) - 1))), some (.inl (j + 1)), some (.inl s)]) (sk' := []) (h' := hh) rfl ?_
                    exact ih33 hh (j + 1) _ (by omega) (by omega) fh (WYA_j (all := (xshl 1 (h 66 4) - 1)) al1 (by omega) wa) (by omega)
                  · rw [c_gt (by first | assumption | (refine ⟨?_, ?_⟩ <;> omega) | (simp only [xr] at *; omega)) (by first | assumption | (refine ⟨?_, ?_⟩ <;> omega) | (simp only [xr] at *; omega))] at c40
                    simp only [decide_eq_true_eq, decide_eq_false_iff_not, Decidable.not_not] at c40
                    show xEx G0 cdX12_ties (some .int) (xRn G0 MT (d + 3)) Q b 41 [some (.inr (.inr 66)), some (.inl ifs), some (.inl (xshl 1 (h 66 4) - 1)), some (.inl (szf S T (S 0 0) (T 0 0) (-1) ifs.toNat (xshl 1 (h 66 4) - 1))), some (.inl j), some (.inl s)] [] hh
                    refine E_s 3 (i' := 44) (ls' := [some (.inr (.inr 66)), some (.inl ifs), some (.inl (xshl 1 (h 66 4) - 1)), some (.inl (szf S T (S 0 0) (T 0 0) (-1) ifs.toNat (xshl 1 (h 66 4) - 1))), some (.inl j), some (.inl s)]) (sk' := [.inl s, .inl j, .inr (.inr 66)]) (h' := hh) rfl ?_
                    have is9 : ir m s := ⟨by omega, by omega⟩
                    have rA : RA hh S T := RA_fr (fun a z => fh a (by omega)) ra2
                    refine E_cv (x := (.invokevirtual 412, 2, [(10, 234)], [0])) (q := fun h9 => ((∀ a, a ≠ 110 → h9 a = hh a) ∧ (∀ i, i ≠ (4096 * j) + s → h9 110 i = hh 110 i)) ∧ h9 110 ((4096 * j) + s) = wyf S T (S 0 0) (T 0 0) j.toNat s) rfl rfl (Nat.le_of_ble_eq_true rfl) (m_lw (d + 2) 0 hh S T j s m o rA is9 (by omega) ⟨by omega, by omega⟩ (fun j2 z1 z2 s9 z3 z4 => by rw [fh _ (by decide)]; exact (ls2 j2 z1 s9 z3 z4 (sal s9 z3) (by omega)).1) (fun s9 z1 z2 z3 => wa (j - 1) (by omega) s9 z1 z2 (by omega)) (fun h9 z1 z2 => ⟨rfl, z1, z2⟩)) (fun h4x hq4 => ?_)
                    obtain ⟨f4, v4⟩ := hq4
                    show xEx G0 cdX12_ties (some .int) (xRn G0 MT (d + 3)) Q b 45 [some (.inr (.inr 66)), some (.inl ifs), some (.inl (xshl 1 (h 66 4) - 1)), some (.inl (szf S T (S 0 0) (T 0 0) (-1) ifs.toNat (xshl 1 (h 66 4) - 1))), some (.inl j), some (.inl s)] [] h4x
                    refine E_s 2 (i' := 38) (ls' := [some (.inr (.inr 66)), some (.inl ifs), some (.inl (xshl 1 (h 66 4) - 1)), some (.inl (szf S T (S 0 0) (T 0 0) (-1) ifs.toNat (xshl 1 (h 66 4) - 1))), some (.inl j), some (.inl (s + 1))]) (sk' := []) (h' := h4x) rfl ?_
                    exact ih38 h4x (s + 1) (by omega) (by omega) (fun a z => by rw [f4.1 a z]; exact fh a z) (WYA_s o.1 j0 is9 wa f4.2 v4) (by omega)
              exact key38 _ hh 1 (by omega) (by omega) fh0 wa0 (Nat.lt_succ_self _)
        exact key33 _ h2 0 none (by omega) (by omega) (fun _ _ => rfl) WYA_0 (Nat.lt_succ_self _)
      · show xEx G0 cdX12_ties (some .int) (xRn G0 MT (d + 3)) Q b 18 [some (.inr (.inr 66)), some (.inl ifs), none, none, none, none] [] (xup h 66 0 0)
        exact absurd c17 (by decide)
    · rw [c_ne (by first | assumption | (refine ⟨?_, ?_⟩ <;> omega) | (simp only [xr] at *; omega)) (by first | assumption | (refine ⟨?_, ?_⟩ <;> omega) | (simp only [xr] at *; omega))] at c10
      simp only [decide_eq_true_eq, decide_eq_false_iff_not, Decidable.not_not] at c10
      show xEx G0 cdX12_ties (some .int) (xRn G0 MT (d + 3)) Q b 11 [some (.inr (.inr 66)), some (.inl ifs), none, none, none, none] [.inr (.inr 66)] h
      refine E_s 5 (i' := 17) (ls' := [some (.inr (.inr 66)), some (.inl ifs), none, none, none, none]) (sk' := [.inl 2]) (h' := (xup h 66 0 2)) rfl ?_
      refine E_b (x := (.ifCond .le 5, 20, [], [])) rfl rfl (fun c17 => ?_) (fun c17 => ?_)
      · show xEx G0 cdX12_ties (some .int) (xRn G0 MT (d + 3)) Q b 20 [some (.inr (.inr 66)), some (.inl ifs), none, none, none, none] [] (xup h 66 0 2)
        exact absurd c17 (by decide)
      · show xEx G0 cdX12_ties (some .int) (xRn G0 MT (d + 3)) Q b 18 [some (.inr (.inr 66)), some (.inl ifs), none, none, none, none] [] (xup h 66 0 2)
        refine E_s 1 (i' := 19) (ls' := [some (.inr (.inr 66)), some (.inl ifs), none, none, none, none]) (sk' := [.inl 0]) (h' := (xup h 66 0 2)) rfl ?_
        exact E_ret (x := (.ireturn, 0, [], [])) (v := some (.inl 0)) rfl (Or.inl rfl) (hS (o1 q1 (by omega)) (by omega))
  · rw [c_ne (by first | assumption | (refine ⟨?_, ?_⟩ <;> omega) | (simp only [xr] at *; omega)) (by first | assumption | (refine ⟨?_, ?_⟩ <;> omega) | (simp only [xr] at *; omega))] at c5
    simp only [decide_eq_true_eq, decide_eq_false_iff_not, Decidable.not_not] at c5
    show xEx G0 cdX12_ties (some .int) (xRn G0 MT (d + 3)) Q b 6 [some (.inr (.inr 66)), some (.inl ifs), none, none, none, none] [.inr (.inr 66)] h
    refine E_s 5 (i' := 17) (ls' := [some (.inr (.inr 66)), some (.inl ifs), none, none, none, none]) (sk' := [.inl 1]) (h' := (xup h 66 0 1)) rfl ?_
    refine E_b (x := (.ifCond .le 5, 20, [], [])) rfl rfl (fun c17 => ?_) (fun c17 => ?_)
    · show xEx G0 cdX12_ties (some .int) (xRn G0 MT (d + 3)) Q b 20 [some (.inr (.inr 66)), some (.inl ifs), none, none, none, none] [] (xup h 66 0 1)
      exact absurd c17 (by decide)
    · show xEx G0 cdX12_ties (some .int) (xRn G0 MT (d + 3)) Q b 18 [some (.inr (.inr 66)), some (.inl ifs), none, none, none, none] [] (xup h 66 0 1)
      refine E_s 1 (i' := 19) (ls' := [some (.inr (.inr 66)), some (.inl ifs), none, none, none, none]) (sk' := [.inl 0]) (h' := (xup h 66 0 1)) rfl ?_
      exact E_ret (x := (.ireturn, 0, [], [])) (v := some (.inl 0)) rfl (Or.inl rfl) (hA (o0 q1 (by omega)))
set_option maxHeartbeats 1000000 in
theorem CO_ties (d : Nat) {h : xH} (hI : Inv h) (ifs : Int) (hx : xr ifs) : CO (d + 11) 2 129 235 [.inl ifs] ["java/lang/IllegalArgumentException", "java/lang/IllegalStateException"] h := by
  obtain ⟨S, T, ci, ri⟩ := Inv_i.mp hI
  obtain ⟨v1, v2, v3, v4, v5, v6⟩ := EV_ci ci
  have n1 : 0 ≤ h 1 2 ∧ h 1 2 ≤ 12 := ci.1.1
  have m4 : h 66 4 = h 1 2 := ri.1.1
  have n8 : 0 ≤ h 66 4 ∧ h 66 4 ≤ 12 := by rw [m4]; exact n1
  have o := OKS_ci ci
  have is0 : IS h S T := ci.2.2.2.2.1
  have nq : h 66 4 ≠ 0 ↔ h 1 2 ≠ 0 := by rw [m4]
  have fu : ∀ u, FM h (xup h 112 0 u) := fun u => (FM.rf h).up (Or.inl (by unfold scr; decide))
  obtain ⟨rr, rrt⟩ := RI_rr ri
  have hm8 : (h 1 2).toNat = (h 66 4).toNat := by rw [m4]
  refine o_ties d h S T ifs hx is0 v1 v4 _ o rfl n1 (fun q u => ?_) (fun q q2 u => ?_) (fun q q2 h1 f1 sv u => ?_)
  · exact m_ties (d + 7) 0 (xup h 112 0 u) S T ifs (h 1 2) (h 6) hx _ o (hm8) (n8) (RI_rr (FM_RI v3.2 v6.2 (fu u) ri)).1 (RI_rr (FM_RI v3.2 v6.2 (fu u) ri)).2 v2 v5 v3 v6 (fun _ => CO_x hI 0 rfl u 0) (fun z9 => absurd z9 q) (fun z9 => absurd z9 q)
  · exact m_ties (d + 7) 0 (xup h 112 0 u) S T ifs (h 1 2) (h 6) hx _ o (hm8) (n8) (RI_rr (FM_RI v3.2 v6.2 (fu u) ri)).1 (RI_rr (FM_RI v3.2 v6.2 (fu u) ri)).2 v2 v5 v3 v6 (fun z9 => absurd q z9) (fun _ _ => CO_x hI 1 rfl u 0) (fun _ z9 => absurd (nq.mp z9) q2)
  · have x1 : h1 1 = h 1 := f1 _ (by decide)
    have hI1 : Inv h1 := Inv_so ci ri f1 (IS_of (m := (h 1 2).toNat) (by rw [x1]; exact n1.1) (by rw [x1]) (Or.inl rfl) sv)
    have k66 : h1 66 = h 66 := f1 _ (by decide)
    have g9 : ∀ a, 66 ≤ a → a ≤ 91 → (xup h1 112 0 u) a = h a := fun a z1 z2 => by rw [xup_o _ _ _ _ a (by omega)]; exact f1 a (by omega)
    have e4 : (xup h1 112 0 u) 66 4 = h 1 2 := by show h1 66 4 = _; rw [k66]; exact m4
    have fm : FM h1 (xup (xup h1 112 0 u) 66 0 0) := ((FM.rf h1).up (Or.inl (by unfold scr; decide))).up (Or.inr ⟨rfl, by unfold mdf; decide⟩)
    refine m_ties (d + 7) 0 (xup h1 112 0 u) S T ifs (h 1 2) (h 6) hx _ o (by rw [e4]) (by rw [e4]; exact n1) (RR_hi g9 rr) (RRT_hi g9 rrt) v2 v5 v3 v6 (fun z9 => absurd q z9) (fun _ z9 => absurd (by rw [e4]; exact q2) z9) (fun _ _ h2 f2 => ?_)
    exact CO_f hI1 (fm.tr (FM_c (fun a => (98 ≤ a ∧ a ≤ 104) ∨ a = 110) (fun a z => by unfold scr; omega) (fun a z => f2 a (by show a < 98 ∨ (104 < a ∧ a ≠ 110); omega)))) (by rw [f2 _ (by decide)]; rfl) (by rw [f2 _ (by decide)]; rfl) (by rw [e4])
