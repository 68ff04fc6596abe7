theorem all_ne {n : Int} (h0 : 0 ≤ n) (h1 : n ≤ 12) (h2 : n ≠ 0) : xshl 1 n - 1 ≠ 0 := by
  rw [n_all h0 h1]
  have := Nat.pow_le_pow_right (n := 2) (i := 1) (j := n.toNat) (by decide) (by omega)
  omega
def SOLP (h h' S T : xH) (ifs : Int) : Prop := (∀ a, a ≠ 66 → (a < 98 ∨ 107 < a) → h' a = h a) ∧ (∀ j, j ≠ 50 → j ≠ 51 → j ≠ 60 → h' 66 j = h 66 j) ∧ ((szf S T (S 0 0) (T 0 0) (-1) ifs.toNat (xshl 1 (h 66 4) - 1) = 1000000 ∧ h' 66 50 = 0) ∨ (szf S T (S 0 0) (T 0 0) (-1) ifs.toNat (xshl 1 (h 66 4) - 1) < 1000000 ∧ h' 66 50 = 1 ∧ h' 66 51 = ifs ∧ h' 66 60 = szf S T (S 0 0) (T 0 0) (-1) ifs.toNat (xshl 1 (h 66 4) - 1) ∧ TV S T (S 0 0) (T 0 0) (-1) (fun j => h' 105 (j + 1)) (fun j => h' 106 (j + 1)) 3 ifs.toNat 0 (xshl 1 (h 66 4) - 1) ∧ ∀ j, 0 ≤ j → j < 32 → (j = 0 ∨ 16 ≤ j) → h' 105 j = -1 ∧ h' 106 j = -1))
set_option maxHeartbeats 1000000 in
theorem m_solves (d b : Nat) (h S T : xH) (ifs n0 : Int) (wt : Int → Int) (hi : 0 ≤ ifs ∧ ifs ≤ 3) (he : h 66 4 ≠ 0) (m : Nat) (o : OKS S T (S 0 0) (T 0 0) m) (hm : m = (h 66 4).toNat) (hn : 0 ≤ h 66 4 ∧ h 66 4 ≤ 12) (hR : RR h S) (hRT : RRT h T) (hF : FW n0 wt 9 S) (hT : FWT S 7 T) (k3 : 0 ≤ S 0 0 ∧ S 0 0 ≤ 300) (h4 : 0 ≤ T 0 0 ∧ T 0 0 ≤ 150)  {Q : xO → xH → Prop} (hQ : ∀ h', SOLP h h' S T ifs → Q (.inl (some (.inl (sno (szf S T (S 0 0) (T 0 0) (-1) ifs.toNat (xshl 1 (h 66 4) - 1)))))) h') : xRn G0 MT (d + 4) b 231 [.inr (.inr 66), .inl ifs] h Q := by
  refine R_of (M := mX12_solves) rfl (Nat.le_of_ble_eq_true rfl) ?_
  show xEx G0 cdX12_solves (some .int) (xRn G0 MT (d + 3)) Q b 0 [some (.inr (.inr 66)), some (.inl ifs), none] [] h
  have hR9 := hR
  have hRT9 := hRT
  refine E_s 2 (i' := 2) (ls' := [some (.inr (.inr 66)), some (.inl ifs), none]) (sk' := [.inl (-1), .inr (.inr 66)]) (h' := h) rfl ?_
  refine E_cv (x := (.invokevirtual 391, 1, [(10, 229)], [0])) (q := fun h9 => (∀ a, a ≠ 98 → a ≠ 99 → a ≠ 103 → a ≠ 104 → h9 a = h a) ∧ RB h9 S T (-1)) rfl rfl (Nat.le_of_ble_eq_true rfl) (m_barsN (d + 2) 0 h S T n0 wt hR9 hRT9 hF hT k3 h4 (fun h9 z1 z2 => ⟨rfl, z1, z2⟩)) (fun h1 hq1 => ?_)
  obtain ⟨f1, rb1⟩ := hq1
  have x1 : h1 66 = h 66 := f1 _ (by decide) (by decide) (by decide) (by decide)
  have ra1 : RA h1 S T := RA_fr (fun a z => f1 a (by omega) (by omega) (by omega) (by omega)) (RA_rr hR9 hRT9)
  have ia : ir m (xshl 1 (h 66 4) - 1) := ir_all hn.1 hn.2 hm
  have an : (xshl 1 (h 66 4) - 1) ≠ 0 := all_ne hn.1 hn.2 he
  show xEx G0 cdX12_solves (some .int) (xRn G0 MT (d + 3)) Q b 3 [some (.inr (.inr 66)), some (.inl ifs), none] [] h1
  refine E_s 3 (i' := 6) (ls' := [some (.inr (.inr 66)), some (.inl ifs), none]) (sk' := [.inr (.inr 66), .inl ifs, .inr (.inr 66)]) (h' := h1) rfl ?_
  refine E_ci (x := (.invokevirtual 257, 0, [(10, 156)], [0])) (r := (xshl 1 (h 66 4) - 1)) (h' := h1) rfl rfl (Nat.le_of_ble_eq_true rfl) (m_all (d + 2) 0 h1 ⟨by rw [x1], rfl⟩) ?_
  show xEx G0 cdX12_solves (some .int) (xRn G0 MT (d + 3)) Q b 7 [some (.inr (.inr 66)), some (.inl ifs), none] [.inl (xshl 1 (h 66 4) - 1), .inl ifs, .inr (.inr 66)] h1
  refine E_cp (x := (.invokevirtual 394, 2, [(10, 228)], [0])) (q := fun r h9 => r = szf S T (S 0 0) (T 0 0) (-1) ifs.toNat (xshl 1 (h 66 4) - 1) ∧ (∀ a, a ≠ 100 → a ≠ 101 → a ≠ 102 → h9 a = h1 a) ∧ (∀ r : Int, ir m r → r ≠ 0 → sub r (xshl 1 (h 66 4) - 1) → h9 100 r = lf S (S 0 0) (-1) r) ∧ (∀ j : Int, 0 ≤ j → ∀ s : Int, ir m s → s ≠ 0 → sub s (xshl 1 (h 66 4) - 1) → (j ≤ ifs) → h9 101 (4096 * j + s) = szf S T (S 0 0) (T 0 0) (-1) j.toNat s ∧ h9 102 (4096 * j + s) = bti S T (S 0 0) (T 0 0) (-1) j.toNat s)) rfl rfl (Nat.le_of_ble_eq_true rfl) (m_lays (d + 1) 0 h1 S T (-1) ifs (xshl 1 (h 66 4) - 1) m o ra1 rb1 ia an hi (fun h9 z1 z2 z3 => ⟨_, rfl, rfl, z1, z2, z3⟩)) (fun r2 h2 hq2 => ?_)
  obtain ⟨er2, f2, lf2, ls2⟩ := hq2
  have zr2 := szf_r (p := (-1)) o (ifs.toNat) (xshl 1 (h 66 4) - 1)
  show xEx G0 cdX12_solves (some .int) (xRn G0 MT (d + 3)) Q b 8 [some (.inr (.inr 66)), some (.inl ifs), none] [.inl r2] h2
  refine E_ti (y := (szf S T (S 0 0) (T 0 0) (-1) ifs.toNat (xshl 1 (h 66 4) - 1))) (by rw [er2]) ?_
  have x2 : h2 66 = h 66 := by rw [f2 _ (by decide) (by decide) (by decide)]; exact x1
  have ra2 : RA h2 S T := RA_fr (fun a z => f2 a (by omega) (by omega) (by omega)) ra1
  refine E_s 4 (i' := 12) (ls' := [some (.inr (.inr 66)), some (.inl ifs), some (.inl (szf S T (S 0 0) (T 0 0) (-1) ifs.toNat (xshl 1 (h 66 4) - 1)))]) (sk' := [.inl 1000000, .inl (szf S T (S 0 0) (T 0 0) (-1) ifs.toNat (xshl 1 (h 66 4) - 1)), .inr (.inr 66)]) (h' := h2) rfl ?_
  refine E_b (x := (.if_icmp .ge 7, 15, [], [])) rfl rfl (fun c12 => ?_) (fun c12 => ?_)
  · rw [c_ge (by first | assumption | (refine ⟨?_, ?_⟩ <;> omega) | (simp only [xr] at *; omega)) (by first | assumption | (refine ⟨?_, ?_⟩ <;> omega) | (simp only [xr] at *; omega))] at c12
    simp only [decide_eq_true_eq, decide_eq_false_iff_not, Decidable.not_not] at c12
    show xEx G0 cdX12_solves (some .int) (xRn G0 MT (d + 3)) Q b 15 [some (.inr (.inr 66)), some (.inl ifs), some (.inl (szf S T (S 0 0) (T 0 0) (-1) ifs.toNat (xshl 1 (h 66 4) - 1)))] [.inr (.inr 66)] h2
    refine E_s 1 (i' := 16) (ls' := [some (.inr (.inr 66)), some (.inl ifs), some (.inl (szf S T (S 0 0) (T 0 0) (-1) ifs.toNat (xshl 1 (h 66 4) - 1)))]) (sk' := [.inl 0, .inr (.inr 66)]) (h' := h2) rfl ?_
    refine E_pz (x := (.putfield 176, 0, [(10, 50)], [])) rfl rfl rfl (by first | exact Or.inl rfl | exact Or.inr rfl) ?_
    show xEx G0 cdX12_solves (some .int) (xRn G0 MT (d + 3)) Q b 17 [some (.inr (.inr 66)), some (.inl ifs), some (.inl (szf S T (S 0 0) (T 0 0) (-1) ifs.toNat (xshl 1 (h 66 4) - 1)))] [] (xup h2 66 50 0)
    refine E_s 8 (i' := 25) (ls' := [some (.inr (.inr 66)), some (.inl ifs), some (.inl (szf S T (S 0 0) (T 0 0) (-1) ifs.toNat (xshl 1 (h 66 4) - 1)))]) (sk' := [.inl 0]) (h' := (xup (xup (xup h2 66 50 0) 66 51 ifs) 66 60 (szf S T (S 0 0) (T 0 0) (-1) ifs.toNat (xshl 1 (h 66 4) - 1)))) rfl ?_
    refine E_b (x := (.ifCond .eq 12, 31, [], [])) rfl rfl (fun c25 => ?_) (fun c25 => ?_)
    · show xEx G0 cdX12_solves (some .int) (xRn G0 MT (d + 3)) Q b 31 [some (.inr (.inr 66)), some (.inl ifs), some (.inl (szf S T (S 0 0) (T 0 0) (-1) ifs.toNat (xshl 1 (h 66 4) - 1)))] [] (xup (xup (xup h2 66 50 0) 66 51 ifs) 66 60 (szf S T (S 0 0) (T 0 0) (-1) ifs.toNat (xshl 1 (h 66 4) - 1)))
      skip
      refine E_s 2 (i' := 33) (ls' := [some (.inr (.inr 66)), some (.inl ifs), some (.inl (szf S T (S 0 0) (T 0 0) (-1) ifs.toNat (xshl 1 (h 66 4) - 1)))]) (sk' := [.inl 0]) (h' := (xup (xup (xup h2 66 50 0) 66 51 ifs) 66 60 (szf S T (S 0 0) (T 0 0) (-1) ifs.toNat (xshl 1 (h 66 4) - 1)))) rfl ?_
      refine E_b (x := (.ifCond .eq 7, 36, [], [])) rfl rfl (fun c33 => ?_) (fun c33 => ?_)
      · show xEx G0 cdX12_solves (some .int) (xRn G0 MT (d + 3)) Q b 36 [some (.inr (.inr 66)), some (.inl ifs), some (.inl (szf S T (S 0 0) (T 0 0) (-1) ifs.toNat (xshl 1 (h 66 4) - 1)))] [] (xup (xup (xup h2 66 50 0) 66 51 ifs) 66 60 (szf S T (S 0 0) (T 0 0) (-1) ifs.toNat (xshl 1 (h 66 4) - 1)))
        refine E_s 1 (i' := 37) (ls' := [some (.inr (.inr 66)), some (.inl ifs), some (.inl (szf S T (S 0 0) (T 0 0) (-1) ifs.toNat (xshl 1 (h 66 4) - 1)))]) (sk' := [.inl (-1)]) (h' := (xup (xup (xup h2 66 50 0) 66 51 ifs) 66 60 (szf S T (S 0 0) (T 0 0) (-1) ifs.toNat (xshl 1 (h 66 4) - 1)))) rfl ?_
        exact E_ret (x := (.ireturn, 0, [], [])) (v := some (.inl (-1))) rfl (Or.inl rfl) (by
          have r9 := hQ (xup (xup (xup h2 66 50 0) 66 51 ifs) 66 60 (szf S T (S 0 0) (T 0 0) (-1) ifs.toNat (xshl 1 (h 66 4) - 1))) ⟨fun a z1 z2 => ?_, fun j z1 z2 z3 => ?_, Or.inl ⟨by omega, rfl⟩⟩
          · unfold sno at r9
            rw [if_pos (by omega)] at r9
            exact r9
          · rw [xup_o _ _ _ _ a z1, xup_o _ _ _ _ a z1, xup_o _ _ _ _ a z1, f2 a (by omega) (by omega) (by omega)]
            exact f1 a (by omega) (by omega) (by omega) (by omega)
          · rw [xup_j z3, xup_j z2, xup_j z1, f2 _ (by decide) (by decide) (by decide), x1])
      · show xEx G0 cdX12_solves (some .int) (xRn G0 MT (d + 3)) Q b 34 [some (.inr (.inr 66)), some (.inl ifs), some (.inl (szf S T (S 0 0) (T 0 0) (-1) ifs.toNat (xshl 1 (h 66 4) - 1)))] [] (xup (xup (xup h2 66 50 0) 66 51 ifs) 66 60 (szf S T (S 0 0) (T 0 0) (-1) ifs.toNat (xshl 1 (h 66 4) - 1)))
        exact absurd c33 (by decide)
    · show xEx G0 cdX12_solves (some .int) (xRn G0 MT (d + 3)) Q b 26 [some (.inr (.inr 66)), some (.inl ifs), some (.inl (szf S T (S 0 0) (T 0 0) (-1) ifs.toNat (xshl 1 (h 66 4) - 1)))] [] (xup (xup (xup h2 66 50 0) 66 51 ifs) 66 60 (szf S T (S 0 0) (T 0 0) (-1) ifs.toNat (xshl 1 (h 66 4) - 1)))
      exact absurd c25 (by decide)
  · rw [c_ge (by first | assumption | (refine ⟨?_, ?_⟩ <;> omega) | (simp only [xr] at *; omega)) (by first | assumption | (refine ⟨?_, ?_⟩ <;> omega) | (simp only [xr] at *; omega))] at c12
    simp only [decide_eq_true_eq, decide_eq_false_iff_not, Decidable.not_not] at c12
    show xEx G0 cdX12_solves (some .int) (xRn G0 MT (d + 3)) Q b 13 [some (.inr (.inr 66)), some (.inl ifs), some (.inl (szf S T (S 0 0) (T 0 0) (-1) ifs.toNat (xshl 1 (h 66 4) - 1)))] [.inr (.inr 66)] h2
    refine E_s 2 (i' := 16) (ls' := [some (.inr (.inr 66)), some (.inl ifs), some (.inl (szf S T (S 0 0) (T 0 0) (-1) ifs.toNat (xshl 1 (h 66 4) - 1)))]) (sk' := [.inl 1, .inr (.inr 66)]) (h' := h2) rfl ?_
    refine E_pz (x := (.putfield 176, 0, [(10, 50)], [])) rfl rfl rfl (by first | exact Or.inl rfl | exact Or.inr rfl) ?_
    show xEx G0 cdX12_solves (some .int) (xRn G0 MT (d + 3)) Q b 17 [some (.inr (.inr 66)), some (.inl ifs), some (.inl (szf S T (S 0 0) (T 0 0) (-1) ifs.toNat (xshl 1 (h 66 4) - 1)))] [] (xup h2 66 50 1)
    refine E_s 8 (i' := 25) (ls' := [some (.inr (.inr 66)), some (.inl ifs), some (.inl (szf S T (S 0 0) (T 0 0) (-1) ifs.toNat (xshl 1 (h 66 4) - 1)))]) (sk' := [.inl 1]) (h' := (xup (xup (xup h2 66 50 1) 66 51 ifs) 66 60 (szf S T (S 0 0) (T 0 0) (-1) ifs.toNat (xshl 1 (h 66 4) - 1)))) rfl ?_
    refine E_b (x := (.ifCond .eq 12, 31, [], [])) rfl rfl (fun c25 => ?_) (fun c25 => ?_)
    · show xEx G0 cdX12_solves (some .int) (xRn G0 MT (d + 3)) Q b 31 [some (.inr (.inr 66)), some (.inl ifs), some (.inl (szf S T (S 0 0) (T 0 0) (-1) ifs.toNat (xshl 1 (h 66 4) - 1)))] [] (xup (xup (xup h2 66 50 1) 66 51 ifs) 66 60 (szf S T (S 0 0) (T 0 0) (-1) ifs.toNat (xshl 1 (h 66 4) - 1)))
      exact absurd c25 (by decide)
    · show xEx G0 cdX12_solves (some .int) (xRn G0 MT (d + 3)) Q b 26 [some (.inr (.inr 66)), some (.inl ifs), some (.inl (szf S T (S 0 0) (T 0 0) (-1) ifs.toNat (xshl 1 (h 66 4) - 1)))] [] (xup (xup (xup h2 66 50 1) 66 51 ifs) 66 60 (szf S T (S 0 0) (T 0 0) (-1) ifs.toNat (xshl 1 (h 66 4) - 1)))
      refine E_s 3 (i' := 29) (ls' := [some (.inr (.inr 66)), some (.inl ifs), some (.inl (szf S T (S 0 0) (T 0 0) (-1) ifs.toNat (xshl 1 (h 66 4) - 1)))]) (sk' := [.inr (.inr 66), .inl ifs, .inr (.inr 66)]) (h' := (xup (xup (xup h2 66 50 1) 66 51 ifs) 66 60 (szf S T (S 0 0) (T 0 0) (-1) ifs.toNat (xshl 1 (h 66 4) - 1)))) rfl ?_
      refine E_ci (x := (.invokevirtual 257, 0, [(10, 156)], [0])) (r := (xshl 1 (h 66 4) - 1)) (h' := (xup (xup (xup h2 66 50 1) 66 51 ifs) 66 60 (szf S T (S 0 0) (T 0 0) (-1) ifs.toNat (xshl 1 (h 66 4) - 1)))) rfl rfl (Nat.le_of_ble_eq_true rfl) (m_all (d + 2) 0 (xup (xup (xup h2 66 50 1) 66 51 ifs) 66 60 (szf S T (S 0 0) (T 0 0) (-1) ifs.toNat (xshl 1 (h 66 4) - 1))) ⟨by show Sum.inl (some (Sum.inl (xshl 1 (h2 66 4) - 1))) = _; rw [x2], rfl⟩) ?_
      show xEx G0 cdX12_solves (some .int) (xRn G0 MT (d + 3)) Q b 30 [some (.inr (.inr 66)), some (.inl ifs), some (.inl (szf S T (S 0 0) (T 0 0) (-1) ifs.toNat (xshl 1 (h 66 4) - 1)))] [.inl (xshl 1 (h 66 4) - 1), .inl ifs, .inr (.inr 66)] (xup (xup (xup h2 66 50 1) 66 51 ifs) 66 60 (szf S T (S 0 0) (T 0 0) (-1) ifs.toNat (xshl 1 (h 66 4) - 1)))
      refine E_cv (x := (.invokevirtual 404, 2, [(10, 230)], [0])) (q := fun h9 => (∀ a, a ≠ 105 → a ≠ 106 → a ≠ 107 → h9 a = (xup (xup (xup h2 66 50 1) 66 51 ifs) 66 60 (szf S T (S 0 0) (T 0 0) (-1) ifs.toNat (xshl 1 (h 66 4) - 1))) a) ∧ TV S T (S 0 0) (T 0 0) (-1) (fun j => h9 105 (j + 1)) (fun j => h9 106 (j + 1)) 3 ifs.toNat 0 (xshl 1 (h 66 4) - 1) ∧ ∀ j, 0 ≤ j → j < 32 → (j = 0 ∨ 16 ≤ j) → h9 105 j = -1 ∧ h9 106 j = -1) rfl rfl (Nat.le_of_ble_eq_true rfl) (m_laysTree (d + 2) 0 (xup (xup (xup h2 66 50 1) 66 51 ifs) 66 60 (szf S T (S 0 0) (T 0 0) (-1) ifs.toNat (xshl 1 (h 66 4) - 1))) S T (-1) ifs (xshl 1 (h 66 4) - 1) m o ra2 ia an hi lf2 ls2 (fun h9 z1 z2 z3 => ⟨rfl, z1, z2, z3⟩)) (fun h3 hq3 => ?_)
      obtain ⟨f3, t3, u3⟩ := hq3
      show xEx G0 cdX12_solves (some .int) (xRn G0 MT (d + 3)) Q b 31 [some (.inr (.inr 66)), some (.inl ifs), some (.inl (szf S T (S 0 0) (T 0 0) (-1) ifs.toNat (xshl 1 (h 66 4) - 1)))] [] h3
      have s50 : h3 66 50 = 1 := by rw [f3 _ (by decide) (by decide) (by decide)]; rfl
      refine E_s 2 (i' := 33) (ls' := [some (.inr (.inr 66)), some (.inl ifs), some (.inl (szf S T (S 0 0) (T 0 0) (-1) ifs.toNat (xshl 1 (h 66 4) - 1)))]) (sk' := [.inl (h3 66 50)]) (h' := h3) rfl ?_
      refine E_b (x := (.ifCond .eq 7, 36, [], [])) rfl rfl (fun c33 => ?_) (fun c33 => ?_)
      · rw [c_eq (by first | assumption | (refine ⟨?_, ?_⟩ <;> omega) | (simp only [xr] at *; omega)) (by first | assumption | (refine ⟨?_, ?_⟩ <;> omega) | (simp only [xr] at *; omega))] at c33
        simp only [decide_eq_true_eq, decide_eq_false_iff_not, Decidable.not_not] at c33
        show xEx G0 cdX12_solves (some .int) (xRn G0 MT (d + 3)) Q b 36 [some (.inr (.inr 66)), some (.inl ifs), some (.inl (szf S T (S 0 0) (T 0 0) (-1) ifs.toNat (xshl 1 (h 66 4) - 1)))] [] h3
        refine E_s 1 (i' := 37) (ls' := [some (.inr (.inr 66)), some (.inl ifs), some (.inl (szf S T (S 0 0) (T 0 0) (-1) ifs.toNat (xshl 1 (h 66 4) - 1)))]) (sk' := [.inl (-1)]) (h' := h3) rfl ?_
        exact E_ret (x := (.ireturn, 0, [], [])) (v := some (.inl (-1))) rfl (Or.inl rfl) (by omega)
      · rw [c_eq (by first | assumption | (refine ⟨?_, ?_⟩ <;> omega) | (simp only [xr] at *; omega)) (by first | assumption | (refine ⟨?_, ?_⟩ <;> omega) | (simp only [xr] at *; omega))] at c33
        simp only [decide_eq_true_eq, decide_eq_false_iff_not, Decidable.not_not] at c33
        show xEx G0 cdX12_solves (some .int) (xRn G0 MT (d + 3)) Q b 34 [some (.inr (.inr 66)), some (.inl ifs), some (.inl (szf S T (S 0 0) (T 0 0) (-1) ifs.toNat (xshl 1 (h 66 4) - 1)))] [] h3
        refine E_s 2 (i' := 37) (ls' := [some (.inr (.inr 66)), some (.inl ifs), some (.inl (szf S T (S 0 0) (T 0 0) (-1) ifs.toNat (xshl 1 (h 66 4) - 1)))]) (sk' := [.inl (szf S T (S 0 0) (T 0 0) (-1) ifs.toNat (xshl 1 (h 66 4) - 1))]) (h' := h3) rfl ?_
        exact E_ret (x := (.ireturn, 0, [], [])) (v := some (.inl (szf S T (S 0 0) (T 0 0) (-1) ifs.toNat (xshl 1 (h 66 4) - 1)))) rfl (Or.inl rfl) (by
          have r9 := hQ _ ⟨fun a z1 z2 => ?_, fun j z1 z2 z3 => ?_, Or.inr ⟨by omega, by rw [f3 _ (by decide) (by decide) (by decide)]; rfl, by rw [f3 _ (by decide) (by decide) (by decide)]; rfl, by rw [f3 _ (by decide) (by decide) (by decide)]; rfl, t3, u3⟩⟩
          · unfold sno at r9
            rw [if_neg (by omega)] at r9
            exact r9
          · rw [f3 a (by omega) (by omega) (by omega), xup_o _ _ _ _ a z1, xup_o _ _ _ _ a z1, xup_o _ _ _ _ a z1, f2 a (by omega) (by omega) (by omega)]
            exact f1 a (by omega) (by omega) (by omega) (by omega)
          · rw [f3 _ (by decide) (by decide) (by decide), xup_j z3, xup_j z2, xup_j z1, f2 _ (by decide) (by decide) (by decide), x1])
set_option maxHeartbeats 1000000 in
theorem m_solve (d b : Nat) (h S T : xH) (ifs n0 : Int) (wt : Int → Int) (hx : xr ifs) (m : Nat) (o : OKS S T (S 0 0) (T 0 0) m) (hm : m = (h 66 4).toNat) (hn : 0 ≤ h 66 4 ∧ h 66 4 ≤ 12) (hR : RR h S) (hRT : RRT h T) (hF : FW n0 wt 9 S) (hT : FWT S 7 T) (h3 : 0 ≤ S 0 0 ∧ S 0 0 ≤ 300) (h4 : 0 ≤ T 0 0 ∧ T 0 0 ≤ 150)  {Q : xO → xH → Prop} (hA : ¬ (0 ≤ ifs ∧ ifs ≤ 3) → Q (.inl (some (.inl (0)))) (xup h 66 0 1)) (hS : (0 ≤ ifs ∧ ifs ≤ 3) → ¬ (h 66 4 ≠ 0) → Q (.inl (some (.inl (0)))) (xup h 66 0 2)) (hO : (0 ≤ ifs ∧ ifs ≤ 3) → (h 66 4 ≠ 0) → ∀ h', SOLP (xup h 66 0 0) h' S T ifs → Q (.inl (some (.inl (sno (szf S T (S 0 0) (T 0 0) (-1) ifs.toNat (xshl 1 (h 66 4) - 1)))))) h') : xRn G0 MT (d + 5) b 232 [.inr (.inr 66), .inl ifs] h Q := by
  refine R_of (M := mX12_solve) rfl (Nat.le_of_ble_eq_true rfl) ?_
  show xEx G0 cdX12_solve (some .int) (xRn G0 MT (d + 4)) Q b 0 [some (.inr (.inr 66)), some (.inl ifs)] [] h
  refine E_s 4 (i' := 4) (ls' := [some (.inr (.inr 66)), some (.inl ifs)]) (sk' := [.inl 3, .inl 0, .inl ifs, .inr (.inr 66)]) (h' := h) rfl ?_
  refine E_cp (x := (.invokestatic 180, 3, [(0, 155)], [])) (q := fun r1 h9 => ((r1 = 1 ∧ (0 ≤ ifs ∧ ifs ≤ 3)) ∨ (r1 = 0 ∧ ¬ (0 ≤ ifs ∧ ifs ≤ 3))) ∧ h = h9) rfl rfl (Nat.le_of_ble_eq_true rfl) (m_isIn (d + 3) 0 (h) ifs 0 3 hx ⟨by omega, by omega⟩ ⟨by omega, by omega⟩ (fun z => ⟨_, rfl, Or.inl ⟨rfl, z⟩, rfl⟩) (fun z => ⟨_, rfl, Or.inr ⟨rfl, z⟩, rfl⟩)) (fun r1 h9 q1 => ?_)
  obtain ⟨q1, rfl⟩ := q1
  show xEx G0 cdX12_solve (some .int) (xRn G0 MT (d + 4)) Q b 5 [some (.inr (.inr 66)), some (.inl ifs)] [.inl r1, .inr (.inr 66)] h
  refine E_b (x := (.ifCond .ne 7, 8, [], [])) rfl rfl (fun c5 => ?_) (fun c5 => ?_)
  · rw [c_ne (by first | assumption | (refine ⟨?_, ?_⟩ <;> omega) | (simp only [xr] at *; omega)) (by first | assumption | (refine ⟨?_, ?_⟩ <;> omega) | (simp only [xr] at *; omega))] at c5
    simp only [decide_eq_true_eq, decide_eq_false_iff_not, Decidable.not_not] at c5
    show xEx G0 cdX12_solve (some .int) (xRn G0 MT (d + 4)) Q b 8 [some (.inr (.inr 66)), some (.inl ifs)] [.inr (.inr 66)] h
    refine E_s 2 (i' := 10) (ls' := [some (.inr (.inr 66)), some (.inl ifs)]) (sk' := [.inl (h 66 4), .inr (.inr 66)]) (h' := h) rfl ?_
    refine E_b (x := (.ifCond .ne 7, 13, [], [])) rfl rfl (fun c10 => ?_) (fun c10 => ?_)
    · rw [c_ne (by first | assumption | (refine ⟨?_, ?_⟩ <;> omega) | (simp only [xr] at *; omega)) (by first | assumption | (refine ⟨?_, ?_⟩ <;> omega) | (simp only [xr] at *; omega))] at c10
      simp only [decide_eq_true_eq, decide_eq_false_iff_not, Decidable.not_not] at c10
      show xEx G0 cdX12_solve (some .int) (xRn G0 MT (d + 4)) Q b 13 [some (.inr (.inr 66)), some (.inl ifs)] [.inr (.inr 66)] h
      refine E_s 4 (i' := 17) (ls' := [some (.inr (.inr 66)), some (.inl ifs)]) (sk' := [.inl 0]) (h' := (xup h 66 0 0)) rfl ?_
      refine E_b (x := (.ifCond .le 7, 20, [], [])) rfl rfl (fun c17 => ?_) (fun c17 => ?_)
      · show xEx G0 cdX12_solve (some .int) (xRn G0 MT (d + 4)) Q b 20 [some (.inr (.inr 66)), some (.inl ifs)] [] (xup h 66 0 0)
        refine E_s 2 (i' := 22) (ls' := [some (.inr (.inr 66)), some (.inl ifs)]) (sk' := [.inl ifs, .inr (.inr 66)]) (h' := (xup h 66 0 0)) rfl ?_
        refine E_cp (x := (.invokevirtual 407, 1, [(10, 231)], [0])) (q := fun r h9 => r = sno (szf S T (S 0 0) (T 0 0) (-1) ifs.toNat (xshl 1 (h 66 4) - 1)) ∧ SOLP (xup h 66 0 0) h9 S T ifs) rfl rfl (Nat.le_of_ble_eq_true rfl) (m_solves d 0 (xup h 66 0 0) S T ifs n0 wt (o1 q1 (by omega)) (by show h 66 4 ≠ 0; omega) m o hm hn (RR_vh0 hR) (RRT_vh0 hRT) hF hT h3 h4 (fun h9 z => ⟨_, rfl, rfl, z⟩)) (fun r2 h1 hq2 => ?_)
        obtain ⟨er2, sp⟩ := hq2
        show xEx G0 cdX12_solve (some .int) (xRn G0 MT (d + 4)) Q b 23 [some (.inr (.inr 66)), some (.inl ifs)] [.inl r2] h1
        exact E_ret (x := (.ireturn, 0, [], [])) (v := some (.inl r2)) rfl (Or.inl rfl) (by
          rw [er2]
          exact hO (o1 q1 (by omega)) (by omega) h1 sp)
      · show xEx G0 cdX12_solve (some .int) (xRn G0 MT (d + 4)) Q b 18 [some (.inr (.inr 66)), some (.inl ifs)] [] (xup h 66 0 0)
        exact absurd c17 (by decide)
    · rw [c_ne (by first | assumption | (refine ⟨?_, ?_⟩ <;> omega) | (simp only [xr] at *; omega)) (by first | assumption | (refine ⟨?_, ?_⟩ <;> omega) | (simp only [xr] at *; omega))] at c10
      simp only [decide_eq_true_eq, decide_eq_false_iff_not, Decidable.not_not] at c10
      show xEx G0 cdX12_solve (some .int) (xRn G0 MT (d + 4)) Q b 11 [some (.inr (.inr 66)), some (.inl ifs)] [.inr (.inr 66)] h
      refine E_s 5 (i' := 17) (ls' := [some (.inr (.inr 66)), some (.inl ifs)]) (sk' := [.inl 2]) (h' := (xup h 66 0 2)) rfl ?_
      refine E_b (x := (.ifCond .le 7, 20, [], [])) rfl rfl (fun c17 => ?_) (fun c17 => ?_)
      · show xEx G0 cdX12_solve (some .int) (xRn G0 MT (d + 4)) Q b 20 [some (.inr (.inr 66)), some (.inl ifs)] [] (xup h 66 0 2)
        exact absurd c17 (by decide)
      · show xEx G0 cdX12_solve (some .int) (xRn G0 MT (d + 4)) Q b 18 [some (.inr (.inr 66)), some (.inl ifs)] [] (xup h 66 0 2)
        refine E_s 2 (i' := 23) (ls' := [some (.inr (.inr 66)), some (.inl ifs)]) (sk' := [.inl 0]) (h' := (xup h 66 0 2)) rfl ?_
        exact E_ret (x := (.ireturn, 0, [], [])) (v := some (.inl 0)) rfl (Or.inl rfl) (hS (o1 q1 (by omega)) (by omega))
  · rw [c_ne (by first | assumption | (refine ⟨?_, ?_⟩ <;> omega) | (simp only [xr] at *; omega)) (by first | assumption | (refine ⟨?_, ?_⟩ <;> omega) | (simp only [xr] at *; omega))] at c5
    simp only [decide_eq_true_eq, decide_eq_false_iff_not, Decidable.not_not] at c5
    show xEx G0 cdX12_solve (some .int) (xRn G0 MT (d + 4)) Q b 6 [some (.inr (.inr 66)), some (.inl ifs)] [.inr (.inr 66)] h
    refine E_s 5 (i' := 17) (ls' := [some (.inr (.inr 66)), some (.inl ifs)]) (sk' := [.inl 1]) (h' := (xup h 66 0 1)) rfl ?_
    refine E_b (x := (.ifCond .le 7, 20, [], [])) rfl rfl (fun c17 => ?_) (fun c17 => ?_)
    · show xEx G0 cdX12_solve (some .int) (xRn G0 MT (d + 4)) Q b 20 [some (.inr (.inr 66)), some (.inl ifs)] [] (xup h 66 0 1)
      exact absurd c17 (by decide)
    · show xEx G0 cdX12_solve (some .int) (xRn G0 MT (d + 4)) Q b 18 [some (.inr (.inr 66)), some (.inl ifs)] [] (xup h 66 0 1)
      refine E_s 2 (i' := 23) (ls' := [some (.inr (.inr 66)), some (.inl ifs)]) (sk' := [.inl 0]) (h' := (xup h 66 0 1)) rfl ?_
      exact E_ret (x := (.ireturn, 0, [], [])) (v := some (.inl 0)) rfl (Or.inl rfl) (hA (o0 q1 (by omega)))
set_option maxHeartbeats 1000000 in
theorem m_without (d b : Nat) (h S T : xH) (p ifs n0 : Int) (wt : Int → Int) (hp : xr p) (hx : xr ifs) (m : Nat) (o : OKS S T (S 0 0) (T 0 0) m) (hm : m = (h 66 4).toNat) (hn : 0 ≤ h 66 4 ∧ h 66 4 ≤ 12) (hR : RR h S) (hRT : RRT h T) (hF : FW n0 wt 9 S) (hT : FWT S 7 T) (h3 : 0 ≤ S 0 0 ∧ S 0 0 ≤ 300) (h4 : 0 ≤ T 0 0 ∧ T 0 0 ≤ 150)  {Q : xO → xH → Prop} (hA : ¬ ((0 ≤ p ∧ p ≤ 9) ∧ (0 ≤ ifs ∧ ifs ≤ 3)) → Q (.inl (some (.inl (0)))) (xup h 66 0 1)) (hS : ((0 ≤ p ∧ p ≤ 9) ∧ (0 ≤ ifs ∧ ifs ≤ 3)) → ¬ (h 66 4 ≠ 0) → Q (.inl (some (.inl (0)))) (xup h 66 0 2)) (hO : ((0 ≤ p ∧ p ≤ 9) ∧ (0 ≤ ifs ∧ ifs ≤ 3)) → (h 66 4 ≠ 0) → ∀ h', (∀ a, (a < 98 ∨ 104 < a) → h' a = (xup h 66 0 0) a) → Q (.inl (some (.inl (sno (szf S T (S 0 0) (T 0 0) p ifs.toNat (xshl 1 (h 66 4) - 1)))))) h') : xRn G0 MT (d + 4) b 246 [.inr (.inr 66), .inl p, .inl ifs] h Q := by
  refine R_of (M := mX12_without) rfl (Nat.le_of_ble_eq_true rfl) ?_
  show xEx G0 cdX12_without (some .int) (xRn G0 MT (d + 3)) Q b 0 [some (.inr (.inr 66)), some (.inl p), some (.inl ifs), none] [] h
  refine E_s 2 (i' := 2) (ls' := [some (.inr (.inr 66)), some (.inl p), some (.inl ifs), none]) (sk' := [.inl p, .inr (.inr 66)]) (h' := h) rfl ?_
  refine E_cp (x := (.invokestatic 197, 1, [(0, 164)], [])) (q := fun r1 h9 => ((r1 = 1 ∧ (0 ≤ p ∧ p ≤ 9)) ∨ (r1 = 0 ∧ ¬ (0 ≤ p ∧ p ≤ 9))) ∧ h = h9) rfl rfl (Nat.le_of_ble_eq_true rfl) (m_isPart (d + 1) 0 h p hp (fun z => ⟨_, rfl, Or.inl ⟨rfl, z⟩, rfl⟩) (fun z => ⟨_, rfl, Or.inr ⟨rfl, z⟩, rfl⟩)) (fun r1 h9 q1 => ?_)
  obtain ⟨q1, rfl⟩ := q1
  show xEx G0 cdX12_without (some .int) (xRn G0 MT (d + 3)) Q b 3 [some (.inr (.inr 66)), some (.inl p), some (.inl ifs), none] [.inl r1, .inr (.inr 66)] h
  refine E_b (x := (.ifCond .eq 12, 9, [], [])) rfl rfl (fun c3 => ?_) (fun c3 => ?_)
  · rw [c_eq (by first | assumption | (refine ⟨?_, ?_⟩ <;> omega) | (simp only [xr] at *; omega)) (by first | assumption | (refine ⟨?_, ?_⟩ <;> omega) | (simp only [xr] at *; omega))] at c3
    simp only [decide_eq_true_eq, decide_eq_false_iff_not, Decidable.not_not] at c3
    show xEx G0 cdX12_without (some .int) (xRn G0 MT (d + 3)) Q b 9 [some (.inr (.inr 66)), some (.inl p), some (.inl ifs), none] [.inr (.inr 66)] h
    refine E_s 5 (i' := 20) (ls' := [some (.inr (.inr 66)), some (.inl p), some (.inl ifs), none]) (sk' := [.inl 1]) (h' := (xup h 66 0 1)) rfl ?_
    refine E_b (x := (.ifCond .le 5, 23, [], [])) rfl rfl (fun c20 => ?_) (fun c20 => ?_)
    · show xEx G0 cdX12_without (some .int) (xRn G0 MT (d + 3)) Q b 23 [some (.inr (.inr 66)), some (.inl p), some (.inl ifs), none] [] (xup h 66 0 1)
      exact absurd c20 (by decide)
    · show xEx G0 cdX12_without (some .int) (xRn G0 MT (d + 3)) Q b 21 [some (.inr (.inr 66)), some (.inl p), some (.inl ifs), none] [] (xup h 66 0 1)
      refine E_s 1 (i' := 22) (ls' := [some (.inr (.inr 66)), some (.inl p), some (.inl ifs), none]) (sk' := [.inl 0]) (h' := (xup h 66 0 1)) rfl ?_
      exact E_ret (x := (.ireturn, 0, [], [])) (v := some (.inl 0)) rfl (Or.inl rfl) (hA (fun y => by
        first
        | exact (o0 q1 (by omega)) y.1
        | exact (o0 q3 (by omega)) y.2))
  · rw [c_eq (by first | assumption | (refine ⟨?_, ?_⟩ <;> omega) | (simp only [xr] at *; omega)) (by first | assumption | (refine ⟨?_, ?_⟩ <;> omega) | (simp only [xr] at *; omega))] at c3
    simp only [decide_eq_true_eq, decide_eq_false_iff_not, Decidable.not_not] at c3
    show xEx G0 cdX12_without (some .int) (xRn G0 MT (d + 3)) Q b 4 [some (.inr (.inr 66)), some (.inl p), some (.inl ifs), none] [.inr (.inr 66)] h
    refine E_s 3 (i' := 7) (ls' := [some (.inr (.inr 66)), some (.inl p), some (.inl ifs), none]) (sk' := [.inl 3, .inl 0, .inl ifs, .inr (.inr 66)]) (h' := h) rfl ?_
    refine E_cp (x := (.invokestatic 180, 3, [(0, 155)], [])) (q := fun r3 h9 => ((r3 = 1 ∧ (0 ≤ ifs ∧ ifs ≤ 3)) ∨ (r3 = 0 ∧ ¬ (0 ≤ ifs ∧ ifs ≤ 3))) ∧ h = h9) rfl rfl (Nat.le_of_ble_eq_true rfl) (m_isIn (d + 2) 0 (h) ifs 0 3 hx ⟨by omega, by omega⟩ ⟨by omega, by omega⟩ (fun z => ⟨_, rfl, Or.inl ⟨rfl, z⟩, rfl⟩) (fun z => ⟨_, rfl, Or.inr ⟨rfl, z⟩, rfl⟩)) (fun r3 h9 q3 => ?_)
    obtain ⟨q3, rfl⟩ := q3
    show xEx G0 cdX12_without (some .int) (xRn G0 MT (d + 3)) Q b 8 [some (.inr (.inr 66)), some (.inl p), some (.inl ifs), none] [.inl r3, .inr (.inr 66)] h
    refine E_b (x := (.ifCond .ne 7, 11, [], [])) rfl rfl (fun c8 => ?_) (fun c8 => ?_)
    · rw [c_ne (by first | assumption | (refine ⟨?_, ?_⟩ <;> omega) | (simp only [xr] at *; omega)) (by first | assumption | (refine ⟨?_, ?_⟩ <;> omega) | (simp only [xr] at *; omega))] at c8
      simp only [decide_eq_true_eq, decide_eq_false_iff_not, Decidable.not_not] at c8
      show xEx G0 cdX12_without (some .int) (xRn G0 MT (d + 3)) Q b 11 [some (.inr (.inr 66)), some (.inl p), some (.inl ifs), none] [.inr (.inr 66)] h
      refine E_s 2 (i' := 13) (ls' := [some (.inr (.inr 66)), some (.inl p), some (.inl ifs), none]) (sk' := [.inl (h 66 4), .inr (.inr 66)]) (h' := h) rfl ?_
      refine E_b (x := (.ifCond .ne 7, 16, [], [])) rfl rfl (fun c13 => ?_) (fun c13 => ?_)
      · rw [c_ne (by first | assumption | (refine ⟨?_, ?_⟩ <;> omega) | (simp only [xr] at *; omega)) (by first | assumption | (refine ⟨?_, ?_⟩ <;> omega) | (simp only [xr] at *; omega))] at c13
        simp only [decide_eq_true_eq, decide_eq_false_iff_not, Decidable.not_not] at c13
        show xEx G0 cdX12_without (some .int) (xRn G0 MT (d + 3)) Q b 16 [some (.inr (.inr 66)), some (.inl p), some (.inl ifs), none] [.inr (.inr 66)] h
        refine E_s 4 (i' := 20) (ls' := [some (.inr (.inr 66)), some (.inl p), some (.inl ifs), none]) (sk' := [.inl 0]) (h' := (xup h 66 0 0)) rfl ?_
        refine E_b (x := (.ifCond .le 5, 23, [], [])) rfl rfl (fun c20 => ?_) (fun c20 => ?_)
        · show xEx G0 cdX12_without (some .int) (xRn G0 MT (d + 3)) Q b 23 [some (.inr (.inr 66)), some (.inl p), some (.inl ifs), none] [] (xup h 66 0 0)
          have qp := o1 q1 (by omega)
          have qi := o1 q3 (by omega)
          have he : h 66 4 ≠ 0 := by omega
          have hR9 : RR (xup h 66 0 0) S := RR_vh0 hR
          have hRT9 : RRT (xup h 66 0 0) T := RRT_vh0 hRT
          refine E_s 2 (i' := 25) (ls' := [some (.inr (.inr 66)), some (.inl p), some (.inl ifs), none]) (sk' := [.inl p, .inr (.inr 66)]) (h' := (xup h 66 0 0)) rfl ?_
          refine E_cv (x := (.invokevirtual 391, 1, [(10, 229)], [0])) (q := fun h9 => (∀ a, a ≠ 98 → a ≠ 99 → a ≠ 103 → a ≠ 104 → h9 a = (xup h 66 0 0) a) ∧ RB h9 S T p) rfl rfl (Nat.le_of_ble_eq_true rfl) (m_barsP (d + 1) 0 (xup h 66 0 0) S T p n0 wt qp hR9 hRT9 hF hT h3 h4 (fun h9 z1 z2 => ⟨rfl, z1, z2⟩)) (fun h1 hq1 => ?_)
          obtain ⟨f1, rb1⟩ := hq1
          have x1 : h1 66 = (xup h 66 0 0) 66 := f1 _ (by decide) (by decide) (by decide) (by decide)
          have ra1 : RA h1 S T := RA_fr (fun a z => f1 a (by omega) (by omega) (by omega) (by omega)) (RA_rr hR9 hRT9)
          have ia : ir m (xshl 1 (h 66 4) - 1) := ir_all hn.1 hn.2 hm
          have an : (xshl 1 (h 66 4) - 1) ≠ 0 := all_ne hn.1 hn.2 he
          show xEx G0 cdX12_without (some .int) (xRn G0 MT (d + 3)) Q b 26 [some (.inr (.inr 66)), some (.inl p), some (.inl ifs), none] [] h1
          refine E_s 3 (i' := 29) (ls' := [some (.inr (.inr 66)), some (.inl p), some (.inl ifs), none]) (sk' := [.inr (.inr 66), .inl ifs, .inr (.inr 66)]) (h' := h1) rfl ?_
          refine E_ci (x := (.invokevirtual 257, 0, [(10, 156)], [0])) (r := (xshl 1 (h 66 4) - 1)) (h' := h1) rfl rfl (Nat.le_of_ble_eq_true rfl) (m_all (d + 2) 0 h1 ⟨by show Sum.inl (some (Sum.inl (xshl 1 (h1 66 4) - 1))) = _; rw [x1]; rfl, rfl⟩) ?_
          show xEx G0 cdX12_without (some .int) (xRn G0 MT (d + 3)) Q b 30 [some (.inr (.inr 66)), some (.inl p), some (.inl ifs), none] [.inl (xshl 1 (h 66 4) - 1), .inl ifs, .inr (.inr 66)] h1
          refine E_cp (x := (.invokevirtual 394, 2, [(10, 228)], [0])) (q := fun r h9 => r = szf S T (S 0 0) (T 0 0) p ifs.toNat (xshl 1 (h 66 4) - 1) ∧ (∀ a, a ≠ 100 → a ≠ 101 → a ≠ 102 → h9 a = h1 a) ∧ (∀ r : Int, ir m r → r ≠ 0 → sub r (xshl 1 (h 66 4) - 1) → h9 100 r = lf S (S 0 0) p r) ∧ (∀ j : Int, 0 ≤ j → ∀ s : Int, ir m s → s ≠ 0 → sub s (xshl 1 (h 66 4) - 1) → (j ≤ ifs) → h9 101 (4096 * j + s) = szf S T (S 0 0) (T 0 0) p j.toNat s ∧ h9 102 (4096 * j + s) = bti S T (S 0 0) (T 0 0) p j.toNat s)) rfl rfl (Nat.le_of_ble_eq_true rfl) (m_lays (d + 1) 0 h1 S T p ifs (xshl 1 (h 66 4) - 1) m o ra1 rb1 ia an qi (fun h9 z1 z2 z3 => ⟨_, rfl, rfl, z1, z2, z3⟩)) (fun r2 h2 hq2 => ?_)
          obtain ⟨er2, f2, lf2, ls2⟩ := hq2
          have zr2 := szf_r (p := p) o (ifs.toNat) (xshl 1 (h 66 4) - 1)
          show xEx G0 cdX12_without (some .int) (xRn G0 MT (d + 3)) Q b 31 [some (.inr (.inr 66)), some (.inl p), some (.inl ifs), none] [.inl r2] h2
          refine E_ti (y := (szf S T (S 0 0) (T 0 0) p ifs.toNat (xshl 1 (h 66 4) - 1))) (by rw [er2]) ?_
          refine E_s 3 (i' := 34) (ls' := [some (.inr (.inr 66)), some (.inl p), some (.inl ifs), some (.inl (szf S T (S 0 0) (T 0 0) p ifs.toNat (xshl 1 (h 66 4) - 1)))]) (sk' := [.inl 1000000, .inl (szf S T (S 0 0) (T 0 0) p ifs.toNat (xshl 1 (h 66 4) - 1))]) (h' := h2) rfl ?_
          refine E_b (x := (.if_icmp .ge 7, 37, [], [])) rfl rfl (fun c34 => ?_) (fun c34 => ?_)
          · rw [c_ge (by first | assumption | (refine ⟨?_, ?_⟩ <;> omega) | (simp only [xr] at *; omega)) (by first | assumption | (refine ⟨?_, ?_⟩ <;> omega) | (simp only [xr] at *; omega))] at c34
            simp only [decide_eq_true_eq, decide_eq_false_iff_not, Decidable.not_not] at c34
            show xEx G0 cdX12_without (some .int) (xRn G0 MT (d + 3)) Q b 37 [some (.inr (.inr 66)), some (.inl p), some (.inl ifs), some (.inl (szf S T (S 0 0) (T 0 0) p ifs.toNat (xshl 1 (h 66 4) - 1)))] [] h2
            refine E_s 1 (i' := 38) (ls' := [some (.inr (.inr 66)), some (.inl p), some (.inl ifs), some (.inl (szf S T (S 0 0) (T 0 0) p ifs.toNat (xshl 1 (h 66 4) - 1)))]) (sk' := [.inl (-1)]) (h' := h2) rfl ?_
            exact E_ret (x := (.ireturn, 0, [], [])) (v := some (.inl (-1))) rfl (Or.inl rfl) (by
              have r9 := hO ⟨qp, qi⟩ he h2 (fun a z => by rw [f2 a (by omega) (by omega) (by omega)]; exact f1 a (by omega) (by omega) (by omega) (by omega))
              unfold sno at r9
              rw [if_pos (by omega)] at r9
              exact r9)
          · rw [c_ge (by first | assumption | (refine ⟨?_, ?_⟩ <;> omega) | (simp only [xr] at *; omega)) (by first | assumption | (refine ⟨?_, ?_⟩ <;> omega) | (simp only [xr] at *; omega))] at c34
            simp only [decide_eq_true_eq, decide_eq_false_iff_not, Decidable.not_not] at c34
            show xEx G0 cdX12_without (some .int) (xRn G0 MT (d + 3)) Q b 35 [some (.inr (.inr 66)), some (.inl p), some (.inl ifs), some (.inl (szf S T (S 0 0) (T 0 0) p ifs.toNat (xshl 1 (h 66 4) - 1)))] [] h2
            refine E_s 2 (i' := 38) (ls' := [some (.inr (.inr 66)), some (.inl p), some (.inl ifs), some (.inl (szf S T (S 0 0) (T 0 0) p ifs.toNat (xshl 1 (h 66 4) - 1)))]) (sk' := [.inl (szf S T (S 0 0) (T 0 0) p ifs.toNat (xshl 1 (h 66 4) - 1))]) (h' := h2) rfl ?_
            exact E_ret (x := (.ireturn, 0, [], [])) (v := some (.inl (szf S T (S 0 0) (T 0 0) p ifs.toNat (xshl 1 (h 66 4) - 1)))) rfl (Or.inl rfl) (by
              have r9 := hO ⟨qp, qi⟩ he h2 (fun a z => by rw [f2 a (by omega) (by omega) (by omega)]; exact f1 a (by omega) (by omega) (by omega) (by omega))
              unfold sno at r9
              rw [if_neg (by omega)] at r9
              exact r9)
        · show xEx G0 cdX12_without (some .int) (xRn G0 MT (d + 3)) Q b 21 [some (.inr (.inr 66)), some (.inl p), some (.inl ifs), none] [] (xup h 66 0 0)
          exact absurd c20 (by decide)
      · rw [c_ne (by first | assumption | (refine ⟨?_, ?_⟩ <;> omega) | (simp only [xr] at *; omega)) (by first | assumption | (refine ⟨?_, ?_⟩ <;> omega) | (simp only [xr] at *; omega))] at c13
        simp only [decide_eq_true_eq, decide_eq_false_iff_not, Decidable.not_not] at c13
        show xEx G0 cdX12_without (some .int) (xRn G0 MT (d + 3)) Q b 14 [some (.inr (.inr 66)), some (.inl p), some (.inl ifs), none] [.inr (.inr 66)] h
        refine E_s 5 (i' := 20) (ls' := [some (.inr (.inr 66)), some (.inl p), some (.inl ifs), none]) (sk' := [.inl 2]) (h' := (xup h 66 0 2)) rfl ?_
        refine E_b (x := (.ifCond .le 5, 23, [], [])) rfl rfl (fun c20 => ?_) (fun c20 => ?_)
        · show xEx G0 cdX12_without (some .int) (xRn G0 MT (d + 3)) Q b 23 [some (.inr (.inr 66)), some (.inl p), some (.inl ifs), none] [] (xup h 66 0 2)
          exact absurd c20 (by decide)
        · show xEx G0 cdX12_without (some .int) (xRn G0 MT (d + 3)) Q b 21 [some (.inr (.inr 66)), some (.inl p), some (.inl ifs), none] [] (xup h 66 0 2)
          refine E_s 1 (i' := 22) (ls' := [some (.inr (.inr 66)), some (.inl p), some (.inl ifs), none]) (sk' := [.inl 0]) (h' := (xup h 66 0 2)) rfl ?_
          exact E_ret (x := (.ireturn, 0, [], [])) (v := some (.inl 0)) rfl (Or.inl rfl) (hS ⟨o1 q1 (by omega), o1 q3 (by omega)⟩ (by omega))
    · rw [c_ne (by first | assumption | (refine ⟨?_, ?_⟩ <;> omega) | (simp only [xr] at *; omega)) (by first | assumption | (refine ⟨?_, ?_⟩ <;> omega) | (simp only [xr] at *; omega))] at c8
      simp only [decide_eq_true_eq, decide_eq_false_iff_not, Decidable.not_not] at c8
      show xEx G0 cdX12_without (some .int) (xRn G0 MT (d + 3)) Q b 9 [some (.inr (.inr 66)), some (.inl p), some (.inl ifs), none] [.inr (.inr 66)] h
      refine E_s 5 (i' := 20) (ls' := [some (.inr (.inr 66)), some (.inl p), some (.inl ifs), none]) (sk' := [.inl 1]) (h' := (xup h 66 0 1)) rfl ?_
      refine E_b (x := (.ifCond .le 5, 23, [], [])) rfl rfl (fun c20 => ?_) (fun c20 => ?_)
      · show xEx G0 cdX12_without (some .int) (xRn G0 MT (d + 3)) Q b 23 [some (.inr (.inr 66)), some (.inl p), some (.inl ifs), none] [] (xup h 66 0 1)
        exact absurd c20 (by decide)
      · show xEx G0 cdX12_without (some .int) (xRn G0 MT (d + 3)) Q b 21 [some (.inr (.inr 66)), some (.inl p), some (.inl ifs), none] [] (xup h 66 0 1)
        refine E_s 1 (i' := 22) (ls' := [some (.inr (.inr 66)), some (.inl p), some (.inl ifs), none]) (sk' := [.inl 0]) (h' := (xup h 66 0 1)) rfl ?_
        exact E_ret (x := (.ireturn, 0, [], [])) (v := some (.inl 0)) rfl (Or.inl rfl) (hA (fun y => by
          first
          | exact (o0 q1 (by omega)) y.1
          | exact (o0 q3 (by omega)) y.2))
set_option maxHeartbeats 1000000 in
theorem m_needed (d b : Nat) (h S T : xH) (n0 : Int) (wt : Int → Int) (m : Nat) (o : OKS S T (S 0 0) (T 0 0) m) (hm : m = (h 66 4).toNat) (hn : 0 ≤ h 66 4 ∧ h 66 4 ≤ 12) (hR : RR h S) (hRT : RRT h T) (hF : FW n0 wt 9 S) (hT : FWT S 7 T) (h3 : 0 ≤ S 0 0 ∧ S 0 0 ≤ 300) (h4 : 0 ≤ T 0 0 ∧ T 0 0 ≤ 150)  {Q : xO → xH → Prop} (hS : ¬ (h 66 4 ≠ 0) → Q (.inl (some (.inl (0)))) (xup h 66 0 1)) (hO : (h 66 4 ≠ 0) → ∀ h', (∀ a, (a < 98 ∨ 104 < a) → h' a = (xup h 66 0 0) a) → Q (.inl (some (.inl (ndd (fun i => szf S T (S 0 0) (T 0 0) (-1) i (xshl 1 (h 66 4) - 1)))))) h') : xRn G0 MT (d + 4) b 236 [.inr (.inr 66)] h Q := by
  refine R_of (M := mX12_needed) rfl (Nat.le_of_ble_eq_true rfl) ?_
  show xEx G0 cdX12_needed (some .int) (xRn G0 MT (d + 3)) Q b 0 [some (.inr (.inr 66)), none, none] [] h
  refine E_s 3 (i' := 3) (ls' := [some (.inr (.inr 66)), none, none]) (sk' := [.inl (h 66 4), .inr (.inr 66)]) (h' := h) rfl ?_
  refine E_b (x := (.ifCond .ne 7, 6, [], [])) rfl rfl (fun c3 => ?_) (fun c3 => ?_)
  · rw [c_ne (by first | assumption | (refine ⟨?_, ?_⟩ <;> omega) | (simp only [xr] at *; omega)) (by first | assumption | (refine ⟨?_, ?_⟩ <;> omega) | (simp only [xr] at *; omega))] at c3
    simp only [decide_eq_true_eq, decide_eq_false_iff_not, Decidable.not_not] at c3
    show xEx G0 cdX12_needed (some .int) (xRn G0 MT (d + 3)) Q b 6 [some (.inr (.inr 66)), none, none] [.inr (.inr 66)] h
    refine E_s 4 (i' := 10) (ls' := [some (.inr (.inr 66)), none, none]) (sk' := [.inl 0]) (h' := (xup h 66 0 0)) rfl ?_
    refine E_b (x := (.ifCond .le 5, 13, [], [])) rfl rfl (fun c10 => ?_) (fun c10 => ?_)
    · show xEx G0 cdX12_needed (some .int) (xRn G0 MT (d + 3)) Q b 13 [some (.inr (.inr 66)), none, none] [] (xup h 66 0 0)
      have he : h 66 4 ≠ 0 := by omega
      have hR9 : RR (xup h 66 0 0) S := RR_vh0 hR
      have hRT9 : RRT (xup h 66 0 0) T := RRT_vh0 hRT
      refine E_s 2 (i' := 15) (ls' := [some (.inr (.inr 66)), none, none]) (sk' := [.inl (-1), .inr (.inr 66)]) (h' := (xup h 66 0 0)) rfl ?_
      refine E_cv (x := (.invokevirtual 391, 1, [(10, 229)], [0])) (q := fun h9 => (∀ a, a ≠ 98 → a ≠ 99 → a ≠ 103 → a ≠ 104 → h9 a = (xup h 66 0 0) a) ∧ RB h9 S T (-1)) rfl rfl (Nat.le_of_ble_eq_true rfl) (m_barsN (d + 2) 0 (xup h 66 0 0) S T n0 wt hR9 hRT9 hF hT h3 h4 (fun h9 z1 z2 => ⟨rfl, z1, z2⟩)) (fun h1 hq1 => ?_)
      obtain ⟨f1, rb1⟩ := hq1
      have x1 : h1 66 = (xup h 66 0 0) 66 := f1 _ (by decide) (by decide) (by decide) (by decide)
      have ra1 : RA h1 S T := RA_fr (fun a z => f1 a (by omega) (by omega) (by omega) (by omega)) (RA_rr hR9 hRT9)
      have ia : ir m (xshl 1 (h 66 4) - 1) := ir_all hn.1 hn.2 hm
      have an : (xshl 1 (h 66 4) - 1) ≠ 0 := all_ne hn.1 hn.2 he
      show xEx G0 cdX12_needed (some .int) (xRn G0 MT (d + 3)) Q b 16 [some (.inr (.inr 66)), none, none] [] h1
      refine E_s 3 (i' := 19) (ls' := [some (.inr (.inr 66)), none, none]) (sk' := [.inr (.inr 66), .inl 3, .inr (.inr 66)]) (h' := h1) rfl ?_
      refine E_ci (x := (.invokevirtual 257, 0, [(10, 156)], [0])) (r := (xshl 1 (h 66 4) - 1)) (h' := h1) rfl rfl (Nat.le_of_ble_eq_true rfl) (m_all (d + 2) 0 h1 ⟨by show Sum.inl (some (Sum.inl (xshl 1 (h1 66 4) - 1))) = _; rw [x1]; rfl, rfl⟩) ?_
      show xEx G0 cdX12_needed (some .int) (xRn G0 MT (d + 3)) Q b 20 [some (.inr (.inr 66)), none, none] [.inl (xshl 1 (h 66 4) - 1), .inl 3, .inr (.inr 66)] h1
      refine E_cp (x := (.invokevirtual 394, 2, [(10, 228)], [0])) (q := fun r h9 => r = szf S T (S 0 0) (T 0 0) (-1) (3 : Int).toNat (xshl 1 (h 66 4) - 1) ∧ (∀ a, a ≠ 100 → a ≠ 101 → a ≠ 102 → h9 a = h1 a) ∧ (∀ r : Int, ir m r → r ≠ 0 → sub r (xshl 1 (h 66 4) - 1) → h9 100 r = lf S (S 0 0) (-1) r) ∧ (∀ j : Int, 0 ≤ j → ∀ s : Int, ir m s → s ≠ 0 → sub s (xshl 1 (h 66 4) - 1) → (j ≤ 3) → h9 101 (4096 * j + s) = szf S T (S 0 0) (T 0 0) (-1) j.toNat s ∧ h9 102 (4096 * j + s) = bti S T (S 0 0) (T 0 0) (-1) j.toNat s)) rfl rfl (Nat.le_of_ble_eq_true rfl) (m_lays (d + 1) 0 h1 S T (-1) 3 (xshl 1 (h 66 4) - 1) m o ra1 rb1 ia an ⟨by decide, by decide⟩ (fun h9 z1 z2 z3 => ⟨_, rfl, rfl, z1, z2, z3⟩)) (fun r2 h2 hq2 => ?_)
      obtain ⟨er2, f2, lf2, ls2⟩ := hq2
      have zr2 := szf_r (p := (-1)) o ((3 : Int).toNat) (xshl 1 (h 66 4) - 1)
      show xEx G0 cdX12_needed (some .int) (xRn G0 MT (d + 3)) Q b 21 [some (.inr (.inr 66)), none, none] [.inl r2] h2
      refine E_ti (y := (szf S T (S 0 0) (T 0 0) (-1) (3 : Int).toNat (xshl 1 (h 66 4) - 1))) (by rw [er2]) ?_
      refine E_s 1 (i' := 22) (ls' := [some (.inr (.inr 66)), some (.inl (szf S T (S 0 0) (T 0 0) (-1) (3 : Int).toNat (xshl 1 (h 66 4) - 1))), none]) (sk' := []) (h' := h2) rfl ?_
      have x2 : h2 66 4 = h 66 4 := by rw [f2 _ (by decide) (by decide) (by decide), x1]; rfl
      have sw : sub (xshl 1 (h 66 4) - 1) (xshl 1 (h 66 4) - 1) := (sub_t o.1 ia ia).mpr (fun _ y => y)
      have i4 := ir4 o.1 ia
      refine E_s 4 (i' := 26) (ls' := [some (.inr (.inr 66)), some (.inl (szf S T (S 0 0) (T 0 0) (-1) (3 : Int).toNat (xshl 1 (h 66 4) - 1))), some (.inl 0)]) (sk' := [.inl 4, .inl 0]) (h' := h2) rfl ?_
      refine E_b (x := (.if_icmp .ge 39, 45, [], [])) rfl rfl (fun c26 => ?_) (fun c26 => ?_)
      · show xEx G0 cdX12_needed (some .int) (xRn G0 MT (d + 3)) Q b 45 [some (.inr (.inr 66)), some (.inl (szf S T (S 0 0) (T 0 0) (-1) (3 : Int).toNat (xshl 1 (h 66 4) - 1))), some (.inl 0)] [] h2
        exact absurd c26 (by decide)
      · show xEx G0 cdX12_needed (some .int) (xRn G0 MT (d + 3)) Q b 27 [some (.inr (.inr 66)), some (.inl (szf S T (S 0 0) (T 0 0) (-1) (3 : Int).toNat (xshl 1 (h 66 4) - 1))), some (.inl 0)] [] h2
        refine E_s 2 (i' := 29) (ls' := [some (.inr (.inr 66)), some (.inl (szf S T (S 0 0) (T 0 0) (-1) (3 : Int).toNat (xshl 1 (h 66 4) - 1))), some (.inl 0)]) (sk' := [.inl 1000000, .inl (szf S T (S 0 0) (T 0 0) (-1) (3 : Int).toNat (xshl 1 (h 66 4) - 1))]) (h' := h2) rfl ?_
        refine E_b (x := (.if_icmp .ge 32, 45, [], [])) rfl rfl (fun c29_0 => ?_) (fun c29_0 => ?_)
        · rw [c_ge (by first | assumption | (refine ⟨?_, ?_⟩ <;> omega) | (simp only [xr] at *; omega)) (by first | assumption | (refine ⟨?_, ?_⟩ <;> omega) | (simp only [xr] at *; omega))] at c29_0
          simp only [decide_eq_true_eq, decide_eq_false_iff_not, Decidable.not_not] at c29_0
          show xEx G0 cdX12_needed (some .int) (xRn G0 MT (d + 3)) Q b 45 [some (.inr (.inr 66)), some (.inl (szf S T (S 0 0) (T 0 0) (-1) (3 : Int).toNat (xshl 1 (h 66 4) - 1))), some (.inl 0)] [] h2
          refine E_s 1 (i' := 46) (ls' := [some (.inr (.inr 66)), some (.inl (szf S T (S 0 0) (T 0 0) (-1) (3 : Int).toNat (xshl 1 (h 66 4) - 1))), some (.inl 0)]) (sk' := [.inl (-1)]) (h' := h2) rfl ?_
          exact E_ret (x := (.ireturn, 0, [], [])) (v := some (.inl (-1))) rfl (Or.inl rfl) (by
            have w1 : szf S T (S 0 0) (T 0 0) (-1) 1 (xshl 1 (h 66 4) - 1) ≤ szf S T (S 0 0) (T 0 0) (-1) 0 (xshl 1 (h 66 4) - 1) := szf_mono 0 _
            have w2 : szf S T (S 0 0) (T 0 0) (-1) 2 (xshl 1 (h 66 4) - 1) ≤ szf S T (S 0 0) (T 0 0) (-1) 1 (xshl 1 (h 66 4) - 1) := szf_mono 1 _
            have w3 : szf S T (S 0 0) (T 0 0) (-1) 3 (xshl 1 (h 66 4) - 1) ≤ szf S T (S 0 0) (T 0 0) (-1) 2 (xshl 1 (h 66 4) - 1) := szf_mono 2 _
            have zz3 : szf S T (S 0 0) (T 0 0) (-1) (3 : Int).toNat (xshl 1 (h 66 4) - 1) = szf S T (S 0 0) (T 0 0) (-1) 3 (xshl 1 (h 66 4) - 1) := rfl
            have r9 := hO he h2 (fun a z => by rw [f2 a (by omega) (by omega) (by omega)]; exact f1 a (by omega) (by omega) (by omega) (by omega))
            unfold ndd at r9
            rw [if_neg (show ¬ szf S T (S 0 0) (T 0 0) (-1) 0 (xshl 1 (h 66 4) - 1) < 1000000 by omega), if_neg (show ¬ szf S T (S 0 0) (T 0 0) (-1) 1 (xshl 1 (h 66 4) - 1) < 1000000 by omega), if_neg (show ¬ szf S T (S 0 0) (T 0 0) (-1) 2 (xshl 1 (h 66 4) - 1) < 1000000 by omega), if_neg (show ¬ szf S T (S 0 0) (T 0 0) (-1) 3 (xshl 1 (h 66 4) - 1) < 1000000 by omega)] at r9
            exact r9)
        · rw [c_ge (by first | assumption | (refine ⟨?_, ?_⟩ <;> omega) | (simp only [xr] at *; omega)) (by first | assumption | (refine ⟨?_, ?_⟩ <;> omega) | (simp only [xr] at *; omega))] at c29_0
          simp only [decide_eq_true_eq, decide_eq_false_iff_not, Decidable.not_not] at c29_0
          show xEx G0 cdX12_needed (some .int) (xRn G0 MT (d + 3)) Q b 30 [some (.inr (.inr 66)), some (.inl (szf S T (S 0 0) (T 0 0) (-1) (3 : Int).toNat (xshl 1 (h 66 4) - 1))), some (.inl 0)] [] h2
          refine E_s 6 (i' := 36) (ls' := [some (.inr (.inr 66)), some (.inl (szf S T (S 0 0) (T 0 0) (-1) (3 : Int).toNat (xshl 1 (h 66 4) - 1))), some (.inl 0)]) (sk' := [.inr (.inr 66), .inl 0, .inr (.inr 101)]) (h' := h2) rfl ?_
          refine E_ci (x := (.invokevirtual 257, 0, [(10, 156)], [0])) (r := (xshl 1 (h 66 4) - 1)) (h' := h2) rfl rfl (Nat.le_of_ble_eq_true rfl) (m_all (d + 2) 0 h2 ⟨by rw [x2], rfl⟩) ?_
          show xEx G0 cdX12_needed (some .int) (xRn G0 MT (d + 3)) Q b 37 [some (.inr (.inr 66)), some (.inl (szf S T (S 0 0) (T 0 0) (-1) (3 : Int).toNat (xshl 1 (h 66 4) - 1))), some (.inl 0)] [.inl (xshl 1 (h 66 4) - 1), .inl 0, .inr (.inr 101)] h2
          have e38_0 : h2 101 (0 + (xshl 1 (h 66 4) - 1)) = szf S T (S 0 0) (T 0 0) (-1) 0 (xshl 1 (h 66 4) - 1) := (ls2 0 (by decide) (xshl 1 (h 66 4) - 1) ia an sw (by decide)).1
          have z38_0 := szf_r (p := -1) o 0 (xshl 1 (h 66 4) - 1)
          refine E_s 1 (i' := 38) (ls' := [some (.inr (.inr 66)), some (.inl (szf S T (S 0 0) (T 0 0) (-1) (3 : Int).toNat (xshl 1 (h 66 4) - 1))), some (.inl 0)]) (sk' := [.inl (0 + (xshl 1 (h 66 4) - 1)), .inr (.inr 101)]) (h' := h2) rfl ?_
          refine E_ld (x := (.iaload, 0, [], [])) (ty := .int) (n := 16384) rfl rfl rfl (by omega) (by omega) ?_
          show xEx G0 cdX12_needed (some .int) (xRn G0 MT (d + 3)) Q b 39 [some (.inr (.inr 66)), some (.inl (szf S T (S 0 0) (T 0 0) (-1) (3 : Int).toNat (xshl 1 (h 66 4) - 1))), some (.inl 0)] [.inl (h2 101 (0 + (xshl 1 (h 66 4) - 1)))] h2
          refine E_s 1 (i' := 40) (ls' := [some (.inr (.inr 66)), some (.inl (szf S T (S 0 0) (T 0 0) (-1) (3 : Int).toNat (xshl 1 (h 66 4) - 1))), some (.inl 0)]) (sk' := [.inl 1000000, .inl (h2 101 (0 + (xshl 1 (h 66 4) - 1)))]) (h' := h2) rfl ?_
          refine E_b (x := (.if_icmp .ge 5, 43, [], [])) rfl rfl (fun c40_0 => ?_) (fun c40_0 => ?_)
          · rw [c_ge (by first | (rw [e38_0]; exact ⟨by omega, by omega⟩) | (rw [e38_1]; exact ⟨by omega, by omega⟩) | (rw [e38_2]; exact ⟨by omega, by omega⟩) | (rw [e38_3]; exact ⟨by omega, by omega⟩) | exact ⟨by omega, by omega⟩) (by first | (rw [e38_0]; exact ⟨by omega, by omega⟩) | (rw [e38_1]; exact ⟨by omega, by omega⟩) | (rw [e38_2]; exact ⟨by omega, by omega⟩) | (rw [e38_3]; exact ⟨by omega, by omega⟩) | exact ⟨by omega, by omega⟩)] at c40_0
            simp only [decide_eq_true_eq, decide_eq_false_iff_not, Decidable.not_not] at c40_0
            show xEx G0 cdX12_needed (some .int) (xRn G0 MT (d + 3)) Q b 43 [some (.inr (.inr 66)), some (.inl (szf S T (S 0 0) (T 0 0) (-1) (3 : Int).toNat (xshl 1 (h 66 4) - 1))), some (.inl 0)] [] h2
            refine E_s 4 (i' := 26) (ls' := [some (.inr (.inr 66)), some (.inl (szf S T (S 0 0) (T 0 0) (-1) (3 : Int).toNat (xshl 1 (h 66 4) - 1))), some (.inl 1)]) (sk' := [.inl 4, .inl 1]) (h' := h2) rfl ?_
            refine E_b (x := (.if_icmp .ge 39, 45, [], [])) rfl rfl (fun c26 => ?_) (fun c26 => ?_)
            · show xEx G0 cdX12_needed (some .int) (xRn G0 MT (d + 3)) Q b 45 [some (.inr (.inr 66)), some (.inl (szf S T (S 0 0) (T 0 0) (-1) (3 : Int).toNat (xshl 1 (h 66 4) - 1))), some (.inl 1)] [] h2
              exact absurd c26 (by decide)
            · show xEx G0 cdX12_needed (some .int) (xRn G0 MT (d + 3)) Q b 27 [some (.inr (.inr 66)), some (.inl (szf S T (S 0 0) (T 0 0) (-1) (3 : Int).toNat (xshl 1 (h 66 4) - 1))), some (.inl 1)] [] h2
              refine E_s 2 (i' := 29) (ls' := [some (.inr (.inr 66)), some (.inl (szf S T (S 0 0) (T 0 0) (-1) (3 : Int).toNat (xshl 1 (h 66 4) - 1))), some (.inl 1)]) (sk' := [.inl 1000000, .inl (szf S T (S 0 0) (T 0 0) (-1) (3 : Int).toNat (xshl 1 (h 66 4) - 1))]) (h' := h2) rfl ?_
              refine E_b (x := (.if_icmp .ge 32, 45, [], [])) rfl rfl (fun c29_1 => ?_) (fun c29_1 => ?_)
              · rw [c_ge (by first | assumption | (refine ⟨?_, ?_⟩ <;> omega) | (simp only [xr] at *; omega)) (by first | assumption | (refine ⟨?_, ?_⟩ <;> omega) | (simp only [xr] at *; omega))] at c29_1
                simp only [decide_eq_true_eq, decide_eq_false_iff_not, Decidable.not_not] at c29_1
                show xEx G0 cdX12_needed (some .int) (xRn G0 MT (d + 3)) Q b 45 [some (.inr (.inr 66)), some (.inl (szf S T (S 0 0) (T 0 0) (-1) (3 : Int).toNat (xshl 1 (h 66 4) - 1))), some (.inl 1)] [] h2
                refine E_s 1 (i' := 46) (ls' := [some (.inr (.inr 66)), some (.inl (szf S T (S 0 0) (T 0 0) (-1) (3 : Int).toNat (xshl 1 (h 66 4) - 1))), some (.inl 1)]) (sk' := [.inl (-1)]) (h' := h2) rfl ?_
                exact E_ret (x := (.ireturn, 0, [], [])) (v := some (.inl (-1))) rfl (Or.inl rfl) (by
                  have w1 : szf S T (S 0 0) (T 0 0) (-1) 1 (xshl 1 (h 66 4) - 1) ≤ szf S T (S 0 0) (T 0 0) (-1) 0 (xshl 1 (h 66 4) - 1) := szf_mono 0 _
                  have w2 : szf S T (S 0 0) (T 0 0) (-1) 2 (xshl 1 (h 66 4) - 1) ≤ szf S T (S 0 0) (T 0 0) (-1) 1 (xshl 1 (h 66 4) - 1) := szf_mono 1 _
                  have w3 : szf S T (S 0 0) (T 0 0) (-1) 3 (xshl 1 (h 66 4) - 1) ≤ szf S T (S 0 0) (T 0 0) (-1) 2 (xshl 1 (h 66 4) - 1) := szf_mono 2 _
                  have zz3 : szf S T (S 0 0) (T 0 0) (-1) (3 : Int).toNat (xshl 1 (h 66 4) - 1) = szf S T (S 0 0) (T 0 0) (-1) 3 (xshl 1 (h 66 4) - 1) := rfl
                  have r9 := hO he h2 (fun a z => by rw [f2 a (by omega) (by omega) (by omega)]; exact f1 a (by omega) (by omega) (by omega) (by omega))
                  unfold ndd at r9
                  rw [if_neg (show ¬ szf S T (S 0 0) (T 0 0) (-1) 0 (xshl 1 (h 66 4) - 1) < 1000000 by omega), if_neg (show ¬ szf S T (S 0 0) (T 0 0) (-1) 1 (xshl 1 (h 66 4) - 1) < 1000000 by omega), if_neg (show ¬ szf S T (S 0 0) (T 0 0) (-1) 2 (xshl 1 (h 66 4) - 1) < 1000000 by omega), if_neg (show ¬ szf S T (S 0 0) (T 0 0) (-1) 3 (xshl 1 (h 66 4) - 1) < 1000000 by omega)] at r9
                  exact r9)
              · rw [c_ge (by first | assumption | (refine ⟨?_, ?_⟩ <;> omega) | (simp only [xr] at *; omega)) (by first | assumption | (refine ⟨?_, ?_⟩ <;> omega) | (simp only [xr] at *; omega))] at c29_1
                simp only [decide_eq_true_eq, decide_eq_false_iff_not, Decidable.not_not] at c29_1
                show xEx G0 cdX12_needed (some .int) (xRn G0 MT (d + 3)) Q b 30 [some (.inr (.inr 66)), some (.inl (szf S T (S 0 0) (T 0 0) (-1) (3 : Int).toNat (xshl 1 (h 66 4) - 1))), some (.inl 1)] [] h2
                refine E_s 6 (i' := 36) (ls' := [some (.inr (.inr 66)), some (.inl (szf S T (S 0 0) (T 0 0) (-1) (3 : Int).toNat (xshl 1 (h 66 4) - 1))), some (.inl 1)]) (sk' := [.inr (.inr 66), .inl 4096, .inr (.inr 101)]) (h' := h2) rfl ?_
                refine E_ci (x := (.invokevirtual 257, 0, [(10, 156)], [0])) (r := (xshl 1 (h 66 4) - 1)) (h' := h2) rfl rfl (Nat.le_of_ble_eq_true rfl) (m_all (d + 2) 0 h2 ⟨by rw [x2], rfl⟩) ?_
                show xEx G0 cdX12_needed (some .int) (xRn G0 MT (d + 3)) Q b 37 [some (.inr (.inr 66)), some (.inl (szf S T (S 0 0) (T 0 0) (-1) (3 : Int).toNat (xshl 1 (h 66 4) - 1))), some (.inl 1)] [.inl (xshl 1 (h 66 4) - 1), .inl 4096, .inr (.inr 101)] h2
                have e38_1 : h2 101 (4096 + (xshl 1 (h 66 4) - 1)) = szf S T (S 0 0) (T 0 0) (-1) 1 (xshl 1 (h 66 4) - 1) := (ls2 1 (by decide) (xshl 1 (h 66 4) - 1) ia an sw (by decide)).1
                have z38_1 := szf_r (p := -1) o 1 (xshl 1 (h 66 4) - 1)
                refine E_s 1 (i' := 38) (ls' := [some (.inr (.inr 66)), some (.inl (szf S T (S 0 0) (T 0 0) (-1) (3 : Int).toNat (xshl 1 (h 66 4) - 1))), some (.inl 1)]) (sk' := [.inl (4096 + (xshl 1 (h 66 4) - 1)), .inr (.inr 101)]) (h' := h2) rfl ?_
                refine E_ld (x := (.iaload, 0, [], [])) (ty := .int) (n := 16384) rfl rfl rfl (by omega) (by omega) ?_
                show xEx G0 cdX12_needed (some .int) (xRn G0 MT (d + 3)) Q b 39 [some (.inr (.inr 66)), some (.inl (szf S T (S 0 0) (T 0 0) (-1) (3 : Int).toNat (xshl 1 (h 66 4) - 1))), some (.inl 1)] [.inl (h2 101 (4096 + (xshl 1 (h 66 4) - 1)))] h2
                refine E_s 1 (i' := 40) (ls' := [some (.inr (.inr 66)), some (.inl (szf S T (S 0 0) (T 0 0) (-1) (3 : Int).toNat (xshl 1 (h 66 4) - 1))), some (.inl 1)]) (sk' := [.inl 1000000, .inl (h2 101 (4096 + (xshl 1 (h 66 4) - 1)))]) (h' := h2) rfl ?_
                refine E_b (x := (.if_icmp .ge 5, 43, [], [])) rfl rfl (fun c40_1 => ?_) (fun c40_1 => ?_)
                · rw [c_ge (by first | (rw [e38_0]; exact ⟨by omega, by omega⟩) | (rw [e38_1]; exact ⟨by omega, by omega⟩) | (rw [e38_2]; exact ⟨by omega, by omega⟩) | (rw [e38_3]; exact ⟨by omega, by omega⟩) | exact ⟨by omega, by omega⟩) (by first | (rw [e38_0]; exact ⟨by omega, by omega⟩) | (rw [e38_1]; exact ⟨by omega, by omega⟩) | (rw [e38_2]; exact ⟨by omega, by omega⟩) | (rw [e38_3]; exact ⟨by omega, by omega⟩) | exact ⟨by omega, by omega⟩)] at c40_1
                  simp only [decide_eq_true_eq, decide_eq_false_iff_not, Decidable.not_not] at c40_1
                  show xEx G0 cdX12_needed (some .int) (xRn G0 MT (d + 3)) Q b 43 [some (.inr (.inr 66)), some (.inl (szf S T (S 0 0) (T 0 0) (-1) (3 : Int).toNat (xshl 1 (h 66 4) - 1))), some (.inl 1)] [] h2
                  refine E_s 4 (i' := 26) (ls' := [some (.inr (.inr 66)), some (.inl (szf S T (S 0 0) (T 0 0) (-1) (3 : Int).toNat (xshl 1 (h 66 4) - 1))), some (.inl 2)]) (sk' := [.inl 4, .inl 2]) (h' := h2) rfl ?_
                  refine E_b (x := (.if_icmp .ge 39, 45, [], [])) rfl rfl (fun c26 => ?_) (fun c26 => ?_)
                  · show xEx G0 cdX12_needed (some .int) (xRn G0 MT (d + 3)) Q b 45 [some (.inr (.inr 66)), some (.inl (szf S T (S 0 0) (T 0 0) (-1) (3 : Int).toNat (xshl 1 (h 66 4) - 1))), some (.inl 2)] [] h2
                    exact absurd c26 (by decide)
                  · show xEx G0 cdX12_needed (some .int) (xRn G0 MT (d + 3)) Q b 27 [some (.inr (.inr 66)), some (.inl (szf S T (S 0 0) (T 0 0) (-1) (3 : Int).toNat (xshl 1 (h 66 4) - 1))), some (.inl 2)] [] h2
                    refine E_s 2 (i' := 29) (ls' := [some (.inr (.inr 66)), some (.inl (szf S T (S 0 0) (T 0 0) (-1) (3 : Int).toNat (xshl 1 (h 66 4) - 1))), some (.inl 2)]) (sk' := [.inl 1000000, .inl (szf S T (S 0 0) (T 0 0) (-1) (3 : Int).toNat (xshl 1 (h 66 4) - 1))]) (h' := h2) rfl ?_
                    refine E_b (x := (.if_icmp .ge 32, 45, [], [])) rfl rfl (fun c29_2 => ?_) (fun c29_2 => ?_)
                    · rw [c_ge (by first | assumption | (refine ⟨?_, ?_⟩ <;> omega) | (simp only [xr] at *; omega)) (by first | assumption | (refine ⟨?_, ?_⟩ <;> omega) | (simp only [xr] at *; omega))] at c29_2
                      simp only [decide_eq_true_eq, decide_eq_false_iff_not, Decidable.not_not] at c29_2
                      show xEx G0 cdX12_needed (some .int) (xRn G0 MT (d + 3)) Q b 45 [some (.inr (.inr 66)), some (.inl (szf S T (S 0 0) (T 0 0) (-1) (3 : Int).toNat (xshl 1 (h 66 4) - 1))), some (.inl 2)] [] h2
                      refine E_s 1 (i' := 46) (ls' := [some (.inr (.inr 66)), some (.inl (szf S T (S 0 0) (T 0 0) (-1) (3 : Int).toNat (xshl 1 (h 66 4) - 1))), some (.inl 2)]) (sk' := [.inl (-1)]) (h' := h2) rfl ?_
                      exact E_ret (x := (.ireturn, 0, [], [])) (v := some (.inl (-1))) rfl (Or.inl rfl) (by
                        have w1 : szf S T (S 0 0) (T 0 0) (-1) 1 (xshl 1 (h 66 4) - 1) ≤ szf S T (S 0 0) (T 0 0) (-1) 0 (xshl 1 (h 66 4) - 1) := szf_mono 0 _
                        have w2 : szf S T (S 0 0) (T 0 0) (-1) 2 (xshl 1 (h 66 4) - 1) ≤ szf S T (S 0 0) (T 0 0) (-1) 1 (xshl 1 (h 66 4) - 1) := szf_mono 1 _
                        have w3 : szf S T (S 0 0) (T 0 0) (-1) 3 (xshl 1 (h 66 4) - 1) ≤ szf S T (S 0 0) (T 0 0) (-1) 2 (xshl 1 (h 66 4) - 1) := szf_mono 2 _
                        have zz3 : szf S T (S 0 0) (T 0 0) (-1) (3 : Int).toNat (xshl 1 (h 66 4) - 1) = szf S T (S 0 0) (T 0 0) (-1) 3 (xshl 1 (h 66 4) - 1) := rfl
                        have r9 := hO he h2 (fun a z => by rw [f2 a (by omega) (by omega) (by omega)]; exact f1 a (by omega) (by omega) (by omega) (by omega))
                        unfold ndd at r9
                        rw [if_neg (show ¬ szf S T (S 0 0) (T 0 0) (-1) 0 (xshl 1 (h 66 4) - 1) < 1000000 by omega), if_neg (show ¬ szf S T (S 0 0) (T 0 0) (-1) 1 (xshl 1 (h 66 4) - 1) < 1000000 by omega), if_neg (show ¬ szf S T (S 0 0) (T 0 0) (-1) 2 (xshl 1 (h 66 4) - 1) < 1000000 by omega), if_neg (show ¬ szf S T (S 0 0) (T 0 0) (-1) 3 (xshl 1 (h 66 4) - 1) < 1000000 by omega)] at r9
                        exact r9)
                    · rw [c_ge (by first | assumption | (refine ⟨?_, ?_⟩ <;> omega) | (simp only [xr] at *; omega)) (by first | assumption | (refine ⟨?_, ?_⟩ <;> omega) | (simp only [xr] at *; omega))] at c29_2
                      simp only [decide_eq_true_eq, decide_eq_false_iff_not, Decidable.not_not] at c29_2
                      show xEx G0 cdX12_needed (some .int) (xRn G0 MT (d + 3)) Q b 30 [some (.inr (.inr 66)), some (.inl (szf S T (S 0 0) (T 0 0) (-1) (3 : Int).toNat (xshl 1 (h 66 4) - 1))), some (.inl 2)] [] h2
                      refine E_s 6 (i' := 36) (ls' := [some (.inr (.inr 66)), some (.inl (szf S T (S 0 0) (T 0 0) (-1) (3 : Int).toNat (xshl 1 (h 66 4) - 1))), some (.inl 2)]) (sk' := [.inr (.inr 66), .inl 8192, .inr (.inr 101)]) (h' := h2) rfl ?_
                      refine E_ci (x := (.invokevirtual 257, 0, [(10, 156)], [0])) (r := (xshl 1 (h 66 4) - 1)) (h' := h2) rfl rfl (Nat.le_of_ble_eq_true rfl) (m_all (d + 2) 0 h2 ⟨by rw [x2], rfl⟩) ?_
                      show xEx G0 cdX12_needed (some .int) (xRn G0 MT (d + 3)) Q b 37 [some (.inr (.inr 66)), some (.inl (szf S T (S 0 0) (T 0 0) (-1) (3 : Int).toNat (xshl 1 (h 66 4) - 1))), some (.inl 2)] [.inl (xshl 1 (h 66 4) - 1), .inl 8192, .inr (.inr 101)] h2
                      have e38_2 : h2 101 (8192 + (xshl 1 (h 66 4) - 1)) = szf S T (S 0 0) (T 0 0) (-1) 2 (xshl 1 (h 66 4) - 1) := (ls2 2 (by decide) (xshl 1 (h 66 4) - 1) ia an sw (by decide)).1
                      have z38_2 := szf_r (p := -1) o 2 (xshl 1 (h 66 4) - 1)
                      refine E_s 1 (i' := 38) (ls' := [some (.inr (.inr 66)), some (.inl (szf S T (S 0 0) (T 0 0) (-1) (3 : Int).toNat (xshl 1 (h 66 4) - 1))), some (.inl 2)]) (sk' := [.inl (8192 + (xshl 1 (h 66 4) - 1)), .inr (.inr 101)]) (h' := h2) rfl ?_
                      refine E_ld (x := (.iaload, 0, [], [])) (ty := .int) (n := 16384) rfl rfl rfl (by omega) (by omega) ?_
                      show xEx G0 cdX12_needed (some .int) (xRn G0 MT (d + 3)) Q b 39 [some (.inr (.inr 66)), some (.inl (szf S T (S 0 0) (T 0 0) (-1) (3 : Int).toNat (xshl 1 (h 66 4) - 1))), some (.inl 2)] [.inl (h2 101 (8192 + (xshl 1 (h 66 4) - 1)))] h2
                      refine E_s 1 (i' := 40) (ls' := [some (.inr (.inr 66)), some (.inl (szf S T (S 0 0) (T 0 0) (-1) (3 : Int).toNat (xshl 1 (h 66 4) - 1))), some (.inl 2)]) (sk' := [.inl 1000000, .inl (h2 101 (8192 + (xshl 1 (h 66 4) - 1)))]) (h' := h2) rfl ?_
                      refine E_b (x := (.if_icmp .ge 5, 43, [], [])) rfl rfl (fun c40_2 => ?_) (fun c40_2 => ?_)
                      · rw [c_ge (by first | (rw [e38_0]; exact ⟨by omega, by omega⟩) | (rw [e38_1]; exact ⟨by omega, by omega⟩) | (rw [e38_2]; exact ⟨by omega, by omega⟩) | (rw [e38_3]; exact ⟨by omega, by omega⟩) | exact ⟨by omega, by omega⟩) (by first | (rw [e38_0]; exact ⟨by omega, by omega⟩) | (rw [e38_1]; exact ⟨by omega, by omega⟩) | (rw [e38_2]; exact ⟨by omega, by omega⟩) | (rw [e38_3]; exact ⟨by omega, by omega⟩) | exact ⟨by omega, by omega⟩)] at c40_2
                        simp only [decide_eq_true_eq, decide_eq_false_iff_not, Decidable.not_not] at c40_2
                        show xEx G0 cdX12_needed (some .int) (xRn G0 MT (d + 3)) Q b 43 [some (.inr (.inr 66)), some (.inl (szf S T (S 0 0) (T 0 0) (-1) (3 : Int).toNat (xshl 1 (h 66 4) - 1))), some (.inl 2)] [] h2
                        refine E_s 4 (i' := 26) (ls' := [some (.inr (.inr 66)), some (.inl (szf S T (S 0 0) (T 0 0) (-1) (3 : Int).toNat (xshl 1 (h 66 4) - 1))), some (.inl 3)]) (sk' := [.inl 4, .inl 3]) (h' := h2) rfl ?_
                        refine E_b (x := (.if_icmp .ge 39, 45, [], [])) rfl rfl (fun c26 => ?_) (fun c26 => ?_)
                        · show xEx G0 cdX12_needed (some .int) (xRn G0 MT (d + 3)) Q b 45 [some (.inr (.inr 66)), some (.inl (szf S T (S 0 0) (T 0 0) (-1) (3 : Int).toNat (xshl 1 (h 66 4) - 1))), some (.inl 3)] [] h2
                          exact absurd c26 (by decide)
                        · show xEx G0 cdX12_needed (some .int) (xRn G0 MT (d + 3)) Q b 27 [some (.inr (.inr 66)), some (.inl (szf S T (S 0 0) (T 0 0) (-1) (3 : Int).toNat (xshl 1 (h 66 4) - 1))), some (.inl 3)] [] h2
                          refine E_s 2 (i' := 29) (ls' := [some (.inr (.inr 66)), some (.inl (szf S T (S 0 0) (T 0 0) (-1) (3 : Int).toNat (xshl 1 (h 66 4) - 1))), some (.inl 3)]) (sk' := [.inl 1000000, .inl (szf S T (S 0 0) (T 0 0) (-1) (3 : Int).toNat (xshl 1 (h 66 4) - 1))]) (h' := h2) rfl ?_
                          refine E_b (x := (.if_icmp .ge 32, 45, [], [])) rfl rfl (fun c29_3 => ?_) (fun c29_3 => ?_)
                          · rw [c_ge (by first | assumption | (refine ⟨?_, ?_⟩ <;> omega) | (simp only [xr] at *; omega)) (by first | assumption | (refine ⟨?_, ?_⟩ <;> omega) | (simp only [xr] at *; omega))] at c29_3
                            simp only [decide_eq_true_eq, decide_eq_false_iff_not, Decidable.not_not] at c29_3
                            show xEx G0 cdX12_needed (some .int) (xRn G0 MT (d + 3)) Q b 45 [some (.inr (.inr 66)), some (.inl (szf S T (S 0 0) (T 0 0) (-1) (3 : Int).toNat (xshl 1 (h 66 4) - 1))), some (.inl 3)] [] h2
                            refine E_s 1 (i' := 46) (ls' := [some (.inr (.inr 66)), some (.inl (szf S T (S 0 0) (T 0 0) (-1) (3 : Int).toNat (xshl 1 (h 66 4) - 1))), some (.inl 3)]) (sk' := [.inl (-1)]) (h' := h2) rfl ?_
                            exact E_ret (x := (.ireturn, 0, [], [])) (v := some (.inl (-1))) rfl (Or.inl rfl) (by
                              have w1 : szf S T (S 0 0) (T 0 0) (-1) 1 (xshl 1 (h 66 4) - 1) ≤ szf S T (S 0 0) (T 0 0) (-1) 0 (xshl 1 (h 66 4) - 1) := szf_mono 0 _
                              have w2 : szf S T (S 0 0) (T 0 0) (-1) 2 (xshl 1 (h 66 4) - 1) ≤ szf S T (S 0 0) (T 0 0) (-1) 1 (xshl 1 (h 66 4) - 1) := szf_mono 1 _
                              have w3 : szf S T (S 0 0) (T 0 0) (-1) 3 (xshl 1 (h 66 4) - 1) ≤ szf S T (S 0 0) (T 0 0) (-1) 2 (xshl 1 (h 66 4) - 1) := szf_mono 2 _
                              have zz3 : szf S T (S 0 0) (T 0 0) (-1) (3 : Int).toNat (xshl 1 (h 66 4) - 1) = szf S T (S 0 0) (T 0 0) (-1) 3 (xshl 1 (h 66 4) - 1) := rfl
                              have r9 := hO he h2 (fun a z => by rw [f2 a (by omega) (by omega) (by omega)]; exact f1 a (by omega) (by omega) (by omega) (by omega))
                              unfold ndd at r9
                              rw [if_neg (show ¬ szf S T (S 0 0) (T 0 0) (-1) 0 (xshl 1 (h 66 4) - 1) < 1000000 by omega), if_neg (show ¬ szf S T (S 0 0) (T 0 0) (-1) 1 (xshl 1 (h 66 4) - 1) < 1000000 by omega), if_neg (show ¬ szf S T (S 0 0) (T 0 0) (-1) 2 (xshl 1 (h 66 4) - 1) < 1000000 by omega), if_neg (show ¬ szf S T (S 0 0) (T 0 0) (-1) 3 (xshl 1 (h 66 4) - 1) < 1000000 by omega)] at r9
                              exact r9)
                          · rw [c_ge (by first | assumption | (refine ⟨?_, ?_⟩ <;> omega) | (simp only [xr] at *; omega)) (by first | assumption | (refine ⟨?_, ?_⟩ <;> omega) | (simp only [xr] at *; omega))] at c29_3
                            simp only [decide_eq_true_eq, decide_eq_false_iff_not, Decidable.not_not] at c29_3
                            show xEx G0 cdX12_needed (some .int) (xRn G0 MT (d + 3)) Q b 30 [some (.inr (.inr 66)), some (.inl (szf S T (S 0 0) (T 0 0) (-1) (3 : Int).toNat (xshl 1 (h 66 4) - 1))), some (.inl 3)] [] h2
                            refine E_s 6 (i' := 36) (ls' := [some (.inr (.inr 66)), some (.inl (szf S T (S 0 0) (T 0 0) (-1) (3 : Int).toNat (xshl 1 (h 66 4) - 1))), some (.inl 3)]) (sk' := [.inr (.inr 66), .inl 12288, .inr (.inr 101)]) (h' := h2) rfl ?_
                            refine E_ci (x := (.invokevirtual 257, 0, [(10, 156)], [0])) (r := (xshl 1 (h 66 4) - 1)) (h' := h2) rfl rfl (Nat.le_of_ble_eq_true rfl) (m_all (d + 2) 0 h2 ⟨by rw [x2], rfl⟩) ?_
                            show xEx G0 cdX12_needed (some .int) (xRn G0 MT (d + 3)) Q b 37 [some (.inr (.inr 66)), some (.inl (szf S T (S 0 0) (T 0 0) (-1) (3 : Int).toNat (xshl 1 (h 66 4) - 1))), some (.inl 3)] [.inl (xshl 1 (h 66 4) - 1), .inl 12288, .inr (.inr 101)] h2
                            have e38_3 : h2 101 (12288 + (xshl 1 (h 66 4) - 1)) = szf S T (S 0 0) (T 0 0) (-1) 3 (xshl 1 (h 66 4) - 1) := (ls2 3 (by decide) (xshl 1 (h 66 4) - 1) ia an sw (by decide)).1
                            have z38_3 := szf_r (p := -1) o 3 (xshl 1 (h 66 4) - 1)
                            refine E_s 1 (i' := 38) (ls' := [some (.inr (.inr 66)), some (.inl (szf S T (S 0 0) (T 0 0) (-1) (3 : Int).toNat (xshl 1 (h 66 4) - 1))), some (.inl 3)]) (sk' := [.inl (12288 + (xshl 1 (h 66 4) - 1)), .inr (.inr 101)]) (h' := h2) rfl ?_
                            refine E_ld (x := (.iaload, 0, [], [])) (ty := .int) (n := 16384) rfl rfl rfl (by omega) (by omega) ?_
                            show xEx G0 cdX12_needed (some .int) (xRn G0 MT (d + 3)) Q b 39 [some (.inr (.inr 66)), some (.inl (szf S T (S 0 0) (T 0 0) (-1) (3 : Int).toNat (xshl 1 (h 66 4) - 1))), some (.inl 3)] [.inl (h2 101 (12288 + (xshl 1 (h 66 4) - 1)))] h2
                            refine E_s 1 (i' := 40) (ls' := [some (.inr (.inr 66)), some (.inl (szf S T (S 0 0) (T 0 0) (-1) (3 : Int).toNat (xshl 1 (h 66 4) - 1))), some (.inl 3)]) (sk' := [.inl 1000000, .inl (h2 101 (12288 + (xshl 1 (h 66 4) - 1)))]) (h' := h2) rfl ?_
                            refine E_b (x := (.if_icmp .ge 5, 43, [], [])) rfl rfl (fun c40_3 => ?_) (fun c40_3 => ?_)
                            · rw [c_ge (by first | (rw [e38_0]; exact ⟨by omega, by omega⟩) | (rw [e38_1]; exact ⟨by omega, by omega⟩) | (rw [e38_2]; exact ⟨by omega, by omega⟩) | (rw [e38_3]; exact ⟨by omega, by omega⟩) | exact ⟨by omega, by omega⟩) (by first | (rw [e38_0]; exact ⟨by omega, by omega⟩) | (rw [e38_1]; exact ⟨by omega, by omega⟩) | (rw [e38_2]; exact ⟨by omega, by omega⟩) | (rw [e38_3]; exact ⟨by omega, by omega⟩) | exact ⟨by omega, by omega⟩)] at c40_3
                              simp only [decide_eq_true_eq, decide_eq_false_iff_not, Decidable.not_not] at c40_3
                              show xEx G0 cdX12_needed (some .int) (xRn G0 MT (d + 3)) Q b 43 [some (.inr (.inr 66)), some (.inl (szf S T (S 0 0) (T 0 0) (-1) (3 : Int).toNat (xshl 1 (h 66 4) - 1))), some (.inl 3)] [] h2
                              refine E_s 4 (i' := 26) (ls' := [some (.inr (.inr 66)), some (.inl (szf S T (S 0 0) (T 0 0) (-1) (3 : Int).toNat (xshl 1 (h 66 4) - 1))), some (.inl 4)]) (sk' := [.inl 4, .inl 4]) (h' := h2) rfl ?_
                              refine E_b (x := (.if_icmp .ge 39, 45, [], [])) rfl rfl (fun c26 => ?_) (fun c26 => ?_)
                              · show xEx G0 cdX12_needed (some .int) (xRn G0 MT (d + 3)) Q b 45 [some (.inr (.inr 66)), some (.inl (szf S T (S 0 0) (T 0 0) (-1) (3 : Int).toNat (xshl 1 (h 66 4) - 1))), some (.inl 4)] [] h2
                                refine E_s 1 (i' := 46) (ls' := [some (.inr (.inr 66)), some (.inl (szf S T (S 0 0) (T 0 0) (-1) (3 : Int).toNat (xshl 1 (h 66 4) - 1))), some (.inl 4)]) (sk' := [.inl (-1)]) (h' := h2) rfl ?_
                                exact E_ret (x := (.ireturn, 0, [], [])) (v := some (.inl (-1))) rfl (Or.inl rfl) (by
                                  have w1 : szf S T (S 0 0) (T 0 0) (-1) 1 (xshl 1 (h 66 4) - 1) ≤ szf S T (S 0 0) (T 0 0) (-1) 0 (xshl 1 (h 66 4) - 1) := szf_mono 0 _
                                  have w2 : szf S T (S 0 0) (T 0 0) (-1) 2 (xshl 1 (h 66 4) - 1) ≤ szf S T (S 0 0) (T 0 0) (-1) 1 (xshl 1 (h 66 4) - 1) := szf_mono 1 _
                                  have w3 : szf S T (S 0 0) (T 0 0) (-1) 3 (xshl 1 (h 66 4) - 1) ≤ szf S T (S 0 0) (T 0 0) (-1) 2 (xshl 1 (h 66 4) - 1) := szf_mono 2 _
                                  have zz3 : szf S T (S 0 0) (T 0 0) (-1) (3 : Int).toNat (xshl 1 (h 66 4) - 1) = szf S T (S 0 0) (T 0 0) (-1) 3 (xshl 1 (h 66 4) - 1) := rfl
                                  have r9 := hO he h2 (fun a z => by rw [f2 a (by omega) (by omega) (by omega)]; exact f1 a (by omega) (by omega) (by omega) (by omega))
                                  unfold ndd at r9
                                  rw [if_neg (show ¬ szf S T (S 0 0) (T 0 0) (-1) 0 (xshl 1 (h 66 4) - 1) < 1000000 by omega), if_neg (show ¬ szf S T (S 0 0) (T 0 0) (-1) 1 (xshl 1 (h 66 4) - 1) < 1000000 by omega), if_neg (show ¬ szf S T (S 0 0) (T 0 0) (-1) 2 (xshl 1 (h 66 4) - 1) < 1000000 by omega), if_neg (show ¬ szf S T (S 0 0) (T 0 0) (-1) 3 (xshl 1 (h 66 4) - 1) < 1000000 by omega)] at r9
                                  exact r9)
                              · show xEx G0 cdX12_needed (some .int) (xRn G0 MT (d + 3)) Q b 27 [some (.inr (.inr 66)), some (.inl (szf S T (S 0 0) (T 0 0) (-1) (3 : Int).toNat (xshl 1 (h 66 4) - 1))), some (.inl 4)] [] h2
                                exact absurd c26 (by decide)
                            · rw [c_ge (by first | (rw [e38_0]; exact ⟨by omega, by omega⟩) | (rw [e38_1]; exact ⟨by omega, by omega⟩) | (rw [e38_2]; exact ⟨by omega, by omega⟩) | (rw [e38_3]; exact ⟨by omega, by omega⟩) | exact ⟨by omega, by omega⟩) (by first | (rw [e38_0]; exact ⟨by omega, by omega⟩) | (rw [e38_1]; exact ⟨by omega, by omega⟩) | (rw [e38_2]; exact ⟨by omega, by omega⟩) | (rw [e38_3]; exact ⟨by omega, by omega⟩) | exact ⟨by omega, by omega⟩)] at c40_3
                              simp only [decide_eq_true_eq, decide_eq_false_iff_not, Decidable.not_not] at c40_3
                              show xEx G0 cdX12_needed (some .int) (xRn G0 MT (d + 3)) Q b 41 [some (.inr (.inr 66)), some (.inl (szf S T (S 0 0) (T 0 0) (-1) (3 : Int).toNat (xshl 1 (h 66 4) - 1))), some (.inl 3)] [] h2
                              refine E_s 1 (i' := 42) (ls' := [some (.inr (.inr 66)), some (.inl (szf S T (S 0 0) (T 0 0) (-1) (3 : Int).toNat (xshl 1 (h 66 4) - 1))), some (.inl 3)]) (sk' := [.inl 3]) (h' := h2) rfl ?_
                              exact E_ret (x := (.ireturn, 0, [], [])) (v := some (.inl 3)) rfl (Or.inl rfl) (by
                                have w1 : szf S T (S 0 0) (T 0 0) (-1) 1 (xshl 1 (h 66 4) - 1) ≤ szf S T (S 0 0) (T 0 0) (-1) 0 (xshl 1 (h 66 4) - 1) := szf_mono 0 _
                                have w2 : szf S T (S 0 0) (T 0 0) (-1) 2 (xshl 1 (h 66 4) - 1) ≤ szf S T (S 0 0) (T 0 0) (-1) 1 (xshl 1 (h 66 4) - 1) := szf_mono 1 _
                                have w3 : szf S T (S 0 0) (T 0 0) (-1) 3 (xshl 1 (h 66 4) - 1) ≤ szf S T (S 0 0) (T 0 0) (-1) 2 (xshl 1 (h 66 4) - 1) := szf_mono 2 _
                                have zz3 : szf S T (S 0 0) (T 0 0) (-1) (3 : Int).toNat (xshl 1 (h 66 4) - 1) = szf S T (S 0 0) (T 0 0) (-1) 3 (xshl 1 (h 66 4) - 1) := rfl
                                have r9 := hO he h2 (fun a z => by rw [f2 a (by omega) (by omega) (by omega)]; exact f1 a (by omega) (by omega) (by omega) (by omega))
                                unfold ndd at r9
                                rw [if_neg (show ¬ szf S T (S 0 0) (T 0 0) (-1) 0 (xshl 1 (h 66 4) - 1) < 1000000 by omega), if_neg (show ¬ szf S T (S 0 0) (T 0 0) (-1) 1 (xshl 1 (h 66 4) - 1) < 1000000 by omega), if_neg (show ¬ szf S T (S 0 0) (T 0 0) (-1) 2 (xshl 1 (h 66 4) - 1) < 1000000 by omega), if_pos (show szf S T (S 0 0) (T 0 0) (-1) 3 (xshl 1 (h 66 4) - 1) < 1000000 by omega)] at r9
                                exact r9)
                      · rw [c_ge (by first | (rw [e38_0]; exact ⟨by omega, by omega⟩) | (rw [e38_1]; exact ⟨by omega, by omega⟩) | (rw [e38_2]; exact ⟨by omega, by omega⟩) | (rw [e38_3]; exact ⟨by omega, by omega⟩) | exact ⟨by omega, by omega⟩) (by first | (rw [e38_0]; exact ⟨by omega, by omega⟩) | (rw [e38_1]; exact ⟨by omega, by omega⟩) | (rw [e38_2]; exact ⟨by omega, by omega⟩) | (rw [e38_3]; exact ⟨by omega, by omega⟩) | exact ⟨by omega, by omega⟩)] at c40_2
                        simp only [decide_eq_true_eq, decide_eq_false_iff_not, Decidable.not_not] at c40_2
                        show xEx G0 cdX12_needed (some .int) (xRn G0 MT (d + 3)) Q b 41 [some (.inr (.inr 66)), some (.inl (szf S T (S 0 0) (T 0 0) (-1) (3 : Int).toNat (xshl 1 (h 66 4) - 1))), some (.inl 2)] [] h2
                        refine E_s 1 (i' := 42) (ls' := [some (.inr (.inr 66)), some (.inl (szf S T (S 0 0) (T 0 0) (-1) (3 : Int).toNat (xshl 1 (h 66 4) - 1))), some (.inl 2)]) (sk' := [.inl 2]) (h' := h2) rfl ?_
                        exact E_ret (x := (.ireturn, 0, [], [])) (v := some (.inl 2)) rfl (Or.inl rfl) (by
                          have w1 : szf S T (S 0 0) (T 0 0) (-1) 1 (xshl 1 (h 66 4) - 1) ≤ szf S T (S 0 0) (T 0 0) (-1) 0 (xshl 1 (h 66 4) - 1) := szf_mono 0 _
                          have w2 : szf S T (S 0 0) (T 0 0) (-1) 2 (xshl 1 (h 66 4) - 1) ≤ szf S T (S 0 0) (T 0 0) (-1) 1 (xshl 1 (h 66 4) - 1) := szf_mono 1 _
                          have w3 : szf S T (S 0 0) (T 0 0) (-1) 3 (xshl 1 (h 66 4) - 1) ≤ szf S T (S 0 0) (T 0 0) (-1) 2 (xshl 1 (h 66 4) - 1) := szf_mono 2 _
                          have zz3 : szf S T (S 0 0) (T 0 0) (-1) (3 : Int).toNat (xshl 1 (h 66 4) - 1) = szf S T (S 0 0) (T 0 0) (-1) 3 (xshl 1 (h 66 4) - 1) := rfl
                          have r9 := hO he h2 (fun a z => by rw [f2 a (by omega) (by omega) (by omega)]; exact f1 a (by omega) (by omega) (by omega) (by omega))
                          unfold ndd at r9
                          rw [if_neg (show ¬ szf S T (S 0 0) (T 0 0) (-1) 0 (xshl 1 (h 66 4) - 1) < 1000000 by omega), if_neg (show ¬ szf S T (S 0 0) (T 0 0) (-1) 1 (xshl 1 (h 66 4) - 1) < 1000000 by omega), if_pos (show szf S T (S 0 0) (T 0 0) (-1) 2 (xshl 1 (h 66 4) - 1) < 1000000 by omega)] at r9
                          exact r9)
                · rw [c_ge (by first | (rw [e38_0]; exact ⟨by omega, by omega⟩) | (rw [e38_1]; exact ⟨by omega, by omega⟩) | (rw [e38_2]; exact ⟨by omega, by omega⟩) | (rw [e38_3]; exact ⟨by omega, by omega⟩) | exact ⟨by omega, by omega⟩) (by first | (rw [e38_0]; exact ⟨by omega, by omega⟩) | (rw [e38_1]; exact ⟨by omega, by omega⟩) | (rw [e38_2]; exact ⟨by omega, by omega⟩) | (rw [e38_3]; exact ⟨by omega, by omega⟩) | exact ⟨by omega, by omega⟩)] at c40_1
                  simp only [decide_eq_true_eq, decide_eq_false_iff_not, Decidable.not_not] at c40_1
                  show xEx G0 cdX12_needed (some .int) (xRn G0 MT (d + 3)) Q b 41 [some (.inr (.inr 66)), some (.inl (szf S T (S 0 0) (T 0 0) (-1) (3 : Int).toNat (xshl 1 (h 66 4) - 1))), some (.inl 1)] [] h2
                  refine E_s 1 (i' := 42) (ls' := [some (.inr (.inr 66)), some (.inl (szf S T (S 0 0) (T 0 0) (-1) (3 : Int).toNat (xshl 1 (h 66 4) - 1))), some (.inl 1)]) (sk' := [.inl 1]) (h' := h2) rfl ?_
                  exact E_ret (x := (.ireturn, 0, [], [])) (v := some (.inl 1)) rfl (Or.inl rfl) (by
                    have w1 : szf S T (S 0 0) (T 0 0) (-1) 1 (xshl 1 (h 66 4) - 1) ≤ szf S T (S 0 0) (T 0 0) (-1) 0 (xshl 1 (h 66 4) - 1) := szf_mono 0 _
                    have w2 : szf S T (S 0 0) (T 0 0) (-1) 2 (xshl 1 (h 66 4) - 1) ≤ szf S T (S 0 0) (T 0 0) (-1) 1 (xshl 1 (h 66 4) - 1) := szf_mono 1 _
                    have w3 : szf S T (S 0 0) (T 0 0) (-1) 3 (xshl 1 (h 66 4) - 1) ≤ szf S T (S 0 0) (T 0 0) (-1) 2 (xshl 1 (h 66 4) - 1) := szf_mono 2 _
                    have zz3 : szf S T (S 0 0) (T 0 0) (-1) (3 : Int).toNat (xshl 1 (h 66 4) - 1) = szf S T (S 0 0) (T 0 0) (-1) 3 (xshl 1 (h 66 4) - 1) := rfl
                    have r9 := hO he h2 (fun a z => by rw [f2 a (by omega) (by omega) (by omega)]; exact f1 a (by omega) (by omega) (by omega) (by omega))
                    unfold ndd at r9
                    rw [if_neg (show ¬ szf S T (S 0 0) (T 0 0) (-1) 0 (xshl 1 (h 66 4) - 1) < 1000000 by omega), if_pos (show szf S T (S 0 0) (T 0 0) (-1) 1 (xshl 1 (h 66 4) - 1) < 1000000 by omega)] at r9
                    exact r9)
          · rw [c_ge (by first | (rw [e38_0]; exact ⟨by omega, by omega⟩) | (rw [e38_1]; exact ⟨by omega, by omega⟩) | (rw [e38_2]; exact ⟨by omega, by omega⟩) | (rw [e38_3]; exact ⟨by omega, by omega⟩) | exact ⟨by omega, by omega⟩) (by first | (rw [e38_0]; exact ⟨by omega, by omega⟩) | (rw [e38_1]; exact ⟨by omega, by omega⟩) | (rw [e38_2]; exact ⟨by omega, by omega⟩) | (rw [e38_3]; exact ⟨by omega, by omega⟩) | exact ⟨by omega, by omega⟩)] at c40_0
            simp only [decide_eq_true_eq, decide_eq_false_iff_not, Decidable.not_not] at c40_0
            show xEx G0 cdX12_needed (some .int) (xRn G0 MT (d + 3)) Q b 41 [some (.inr (.inr 66)), some (.inl (szf S T (S 0 0) (T 0 0) (-1) (3 : Int).toNat (xshl 1 (h 66 4) - 1))), some (.inl 0)] [] h2
            refine E_s 1 (i' := 42) (ls' := [some (.inr (.inr 66)), some (.inl (szf S T (S 0 0) (T 0 0) (-1) (3 : Int).toNat (xshl 1 (h 66 4) - 1))), some (.inl 0)]) (sk' := [.inl 0]) (h' := h2) rfl ?_
            exact E_ret (x := (.ireturn, 0, [], [])) (v := some (.inl 0)) rfl (Or.inl rfl) (by
              have w1 : szf S T (S 0 0) (T 0 0) (-1) 1 (xshl 1 (h 66 4) - 1) ≤ szf S T (S 0 0) (T 0 0) (-1) 0 (xshl 1 (h 66 4) - 1) := szf_mono 0 _
              have w2 : szf S T (S 0 0) (T 0 0) (-1) 2 (xshl 1 (h 66 4) - 1) ≤ szf S T (S 0 0) (T 0 0) (-1) 1 (xshl 1 (h 66 4) - 1) := szf_mono 1 _
              have w3 : szf S T (S 0 0) (T 0 0) (-1) 3 (xshl 1 (h 66 4) - 1) ≤ szf S T (S 0 0) (T 0 0) (-1) 2 (xshl 1 (h 66 4) - 1) := szf_mono 2 _
              have zz3 : szf S T (S 0 0) (T 0 0) (-1) (3 : Int).toNat (xshl 1 (h 66 4) - 1) = szf S T (S 0 0) (T 0 0) (-1) 3 (xshl 1 (h 66 4) - 1) := rfl
              have r9 := hO he h2 (fun a z => by rw [f2 a (by omega) (by omega) (by omega)]; exact f1 a (by omega) (by omega) (by omega) (by omega))
              unfold ndd at r9
              rw [if_pos (show szf S T (S 0 0) (T 0 0) (-1) 0 (xshl 1 (h 66 4) - 1) < 1000000 by omega)] at r9
              exact r9)
    · show xEx G0 cdX12_needed (some .int) (xRn G0 MT (d + 3)) Q b 11 [some (.inr (.inr 66)), none, none] [] (xup h 66 0 0)
      exact absurd c10 (by decide)
  · rw [c_ne (by first | assumption | (refine ⟨?_, ?_⟩ <;> omega) | (simp only [xr] at *; omega)) (by first | assumption | (refine ⟨?_, ?_⟩ <;> omega) | (simp only [xr] at *; omega))] at c3
    simp only [decide_eq_true_eq, decide_eq_false_iff_not, Decidable.not_not] at c3
    show xEx G0 cdX12_needed (some .int) (xRn G0 MT (d + 3)) Q b 4 [some (.inr (.inr 66)), none, none] [.inr (.inr 66)] h
    refine E_s 5 (i' := 10) (ls' := [some (.inr (.inr 66)), none, none]) (sk' := [.inl 1]) (h' := (xup h 66 0 1)) rfl ?_
    refine E_b (x := (.ifCond .le 5, 13, [], [])) rfl rfl (fun c10 => ?_) (fun c10 => ?_)
    · show xEx G0 cdX12_needed (some .int) (xRn G0 MT (d + 3)) Q b 13 [some (.inr (.inr 66)), none, none] [] (xup h 66 0 1)
      exact absurd c10 (by decide)
    · show xEx G0 cdX12_needed (some .int) (xRn G0 MT (d + 3)) Q b 11 [some (.inr (.inr 66)), none, none] [] (xup h 66 0 1)
      refine E_s 1 (i' := 12) (ls' := [some (.inr (.inr 66)), none, none]) (sk' := [.inl 0]) (h' := (xup h 66 0 1)) rfl ?_
      exact E_ret (x := (.ireturn, 0, [], [])) (v := some (.inl 0)) rfl (Or.inl rfl) (hS (by omega))
