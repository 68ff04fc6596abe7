set_option maxHeartbeats 1000000 in
theorem c_prepare (d b : Nat) (h S T : xH) (p : Int) (m : Nat) (hp9 : p = -1 ∨ (0 ≤ p ∧ p ≤ 9)) (hI : IS h S T) (hR : RC h S) (hRT : RCT h T) (o : OKS S T (S 0 0) (T 0 0) m) (hm : m = (h 1 2).toNat) (hn : 0 ≤ h 1 2 ∧ h 1 2 ≤ 12) {Q : xO → xH → Prop} (hQ : ∀ h', PRF h h' → SVR h' S T p m → Q (.inl none) h') : xRn G0 MT (d + 4) b 59 [.inr (.inr 44), .inl p] h Q := by
  refine R_of (M := mX7_prepare) rfl (Nat.le_of_ble_eq_true rfl) ?_
  show xEx G0 cdX7_prepare none (xRn G0 MT (d + 3)) Q b 0 [some (.inr (.inr 44)), some (.inl p), none, none, none] [] h
  have n4 : ((2 ^ m : Nat) : Int) ≤ 4096 := by
    have := Nat.pow_le_pow_right (n := 2) (i := m) (j := 12) (by decide) o.1
    omega
  have n0 : (1 : Int) ≤ ((2 ^ m : Nat) : Int) := by exact_mod_cast Nat.two_pow_pos m
  have ko := o.2.1
  have kt := o.2.2.1
  have eR := hR.1
  have eT := hRT.1
  obtain ⟨i1, ⟨i2, i3, i4⟩, i5⟩ := hI
  have eN : xshl 1 (h 1 2) - 1 + 1 = ((2 ^ m : Nat) : Int) := by
    rw [n_all hn.1 hn.2, ← hm]
    have := Nat.two_pow_pos m
    omega
  have cut26 : ∀ (v2 : Int), xEx G0 cdX7_prepare none (xRn G0 MT (d + 3)) Q b 26 [some (.inr (.inr 44)), some (.inl p), some (.inl v2), none, none] [] h := by
    intro v2
    refine E_s 15 (i' := 41) (ls' := [some (.inr (.inr 44)), some (.inl p), some (.inl v2), none, none]) (sk' := [.inl 1, .inr (.inr 44)]) (h' := (xup (xup (xup h 44 10 p) 44 11 (h 9 9)) 44 12 (h 28 9))) rfl ?_
    refine E_pz (x := (.putfield 47, 0, [(5, 13)], [])) rfl rfl rfl (Or.inr rfl) ?_
    show xEx G0 cdX7_prepare none (xRn G0 MT (d + 3)) Q b 42 [some (.inr (.inr 44)), some (.inl p), some (.inl v2), none, none] [] (xup (xup (xup (xup h 44 10 p) 44 11 (h 9 9)) 44 12 (h 28 9)) 44 13 1)
    generalize hg : xup (xup (xup (xup h 44 10 p) 44 11 (h 9 9)) 44 12 (h 28 9)) 44 13 1 = g
    have s10 : g 44 10 = p := by rw [← hg]; rfl
    have s11 : g 44 11 = S 0 0 := by rw [← hg]; exact hR.1
    have s12 : g 44 12 = T 0 0 := by rw [← hg]; exact hRT.1
    have s13 : g 44 13 = 1 := by rw [← hg]; rfl
    have w0 : ∀ a, a ≠ 44 → g a = h a := fun a z => by rw [← hg, xup_o _ _ _ _ a z, xup_o _ _ _ _ a z, xup_o _ _ _ _ a z, xup_o _ _ _ _ a z]
    have x1 : g 1 = h 1 := w0 _ (by decide)
    show xEx G0 cdX7_prepare none (xRn G0 MT (d + 3)) Q b 42 [some (.inr (.inr 44)), some (.inl p), some (.inl v2), none, none] [] g
    refine E_s 2 (i' := 44) (ls' := [some (.inr (.inr 44)), some (.inl p), some (.inl v2), none, none]) (sk' := [.inr (.inr 1)]) (h' := g) rfl ?_
    refine E_ci (x := (.invokevirtual 65, 0, [(0, 0)], [0])) (r := (xshl 1 (h 1 2) - 1)) (h' := g) rfl rfl (Nat.le_of_ble_eq_true rfl) (c_all (d + 2) 0 g ⟨by rw [x1], rfl⟩) ?_
    show xEx G0 cdX7_prepare none (xRn G0 MT (d + 3)) Q b 45 [some (.inr (.inr 44)), some (.inl p), some (.inl v2), none, none] [.inl (xshl 1 (h 1 2) - 1)] g
    refine E_s 2 (i' := 47) (ls' := [some (.inr (.inr 44)), some (.inl p), some (.inl v2), none, none]) (sk' := [.inl ((xshl 1 (h 1 2) - 1) + 1)]) (h' := g) rfl ?_
    refine E_ti (y := ((2 ^ m : Nat) : Int)) (by rw [eN]) ?_
    show xEx G0 cdX7_prepare none (xRn G0 MT (d + 3)) Q b 47 [some (.inr (.inr 44)), some (.inl p), some (.inl v2), none, none] [.inl ((2 ^ m : Nat) : Int)] g
    refine E_s 5 (i' := 52) (ls' := [some (.inr (.inr 44)), some (.inl p), some (.inl v2), some (.inl ((2 ^ m : Nat) : Int)), some (.inl 0)]) (sk' := [.inl 2, .inl 0]) (h' := g) rfl ?_
    refine E_b (x := (.if_icmp .gt 35, 71, [], [])) rfl rfl (fun c52 => ?_) (fun c52 => ?_)
    · show xEx G0 cdX7_prepare none (xRn G0 MT (d + 3)) Q b 71 [some (.inr (.inr 44)), some (.inl p), some (.inl v2), some (.inl ((2 ^ m : Nat) : Int)), some (.inl 0)] [] g
      exact absurd c52 (by decide)
    · show xEx G0 cdX7_prepare none (xRn G0 MT (d + 3)) Q b 53 [some (.inr (.inr 44)), some (.inl p), some (.inl v2), some (.inl ((2 ^ m : Nat) : Int)), some (.inl 0)] [] g
      refine E_s 3 (i' := 56) (ls' := [some (.inr (.inr 44)), some (.inl p), some (.inl v2), some (.inl ((2 ^ m : Nat) : Int)), some (.inl 0)]) (sk' := [.inl 0, .inr (.inr 46)]) (h' := g) rfl ?_
      refine E_ald (x := (.aaload, 0, [], [])) 0 rfl rfl rfl (rfl) rfl ?_
      show xEx G0 cdX7_prepare none (xRn G0 MT (d + 3)) Q b 57 [some (.inr (.inr 44)), some (.inl p), some (.inl v2), some (.inl ((2 ^ m : Nat) : Int)), some (.inl 0)] [.inr (.inr 48)] g
      refine E_s 3 (i' := 60) (ls' := [some (.inr (.inr 44)), some (.inl p), some (.inl v2), some (.inl ((2 ^ m : Nat) : Int)), some (.inl 0)]) (sk' := [.inl 0, .inl ((2 ^ m : Nat) : Int), .inl 0, .inr (.inr 48)]) (h' := g) rfl ?_
      refine E_cv (x := (.invokestatic 69, 4, [(0, 256)], [])) (q := fun h9 => (∀ a, a ≠ 48 → h9 a = g a) ∧ ∀ s, ir m s → h9 48 s = 0) rfl rfl (Nat.le_of_ble_eq_true rfl) (c_fill_s_z0 (d + 1) 0 g 0 ((2 ^ m : Nat) : Int) 0 (by omega) (by omega) (by omega) ⟨rfl, fun a z => xfill_a z, fun s hs => xfill_i ⟨hs.1, hs.2⟩⟩) (fun g1 hg1 => ?_)
      show xEx G0 cdX7_prepare none (xRn G0 MT (d + 3)) Q b 61 [some (.inr (.inr 44)), some (.inl p), some (.inl v2), some (.inl ((2 ^ m : Nat) : Int)), some (.inl 0)] [] g1
      refine E_s 3 (i' := 64) (ls' := [some (.inr (.inr 44)), some (.inl p), some (.inl v2), some (.inl ((2 ^ m : Nat) : Int)), some (.inl 0)]) (sk' := [.inl 0, .inr (.inr 47)]) (h' := g1) rfl ?_
      refine E_ald (x := (.aaload, 0, [], [])) 0 rfl rfl rfl (rfl) rfl ?_
      show xEx G0 cdX7_prepare none (xRn G0 MT (d + 3)) Q b 65 [some (.inr (.inr 44)), some (.inl p), some (.inl v2), some (.inl ((2 ^ m : Nat) : Int)), some (.inl 0)] [.inr (.inr 51)] g1
      refine E_s 3 (i' := 68) (ls' := [some (.inr (.inr 44)), some (.inl p), some (.inl v2), some (.inl ((2 ^ m : Nat) : Int)), some (.inl 0)]) (sk' := [.inl 0, .inl ((2 ^ m : Nat) : Int), .inl 0, .inr (.inr 51)]) (h' := g1) rfl ?_
      refine E_cv (x := (.invokestatic 69, 4, [(0, 256)], [])) (q := fun h9 => (∀ a, a ≠ 51 → h9 a = g1 a) ∧ ∀ s, ir m s → h9 51 s = 0) rfl rfl (Nat.le_of_ble_eq_true rfl) (c_fill_s_w0 (d + 1) 0 g1 0 ((2 ^ m : Nat) : Int) 0 (by omega) (by omega) (by omega) ⟨rfl, fun a z => xfill_a z, fun s hs => xfill_i ⟨hs.1, hs.2⟩⟩) (fun g2 hg2 => ?_)
      show xEx G0 cdX7_prepare none (xRn G0 MT (d + 3)) Q b 69 [some (.inr (.inr 44)), some (.inl p), some (.inl v2), some (.inl ((2 ^ m : Nat) : Int)), some (.inl 0)] [] g2
      refine E_s 4 (i' := 52) (ls' := [some (.inr (.inr 44)), some (.inl p), some (.inl v2), some (.inl ((2 ^ m : Nat) : Int)), some (.inl 1)]) (sk' := [.inl 2, .inl 1]) (h' := g2) rfl ?_
      refine E_b (x := (.if_icmp .gt 35, 71, [], [])) rfl rfl (fun c52 => ?_) (fun c52 => ?_)
      · show xEx G0 cdX7_prepare none (xRn G0 MT (d + 3)) Q b 71 [some (.inr (.inr 44)), some (.inl p), some (.inl v2), some (.inl ((2 ^ m : Nat) : Int)), some (.inl 1)] [] g2
        exact absurd c52 (by decide)
      · show xEx G0 cdX7_prepare none (xRn G0 MT (d + 3)) Q b 53 [some (.inr (.inr 44)), some (.inl p), some (.inl v2), some (.inl ((2 ^ m : Nat) : Int)), some (.inl 1)] [] g2
        refine E_s 3 (i' := 56) (ls' := [some (.inr (.inr 44)), some (.inl p), some (.inl v2), some (.inl ((2 ^ m : Nat) : Int)), some (.inl 1)]) (sk' := [.inl 1, .inr (.inr 46)]) (h' := g2) rfl ?_
        refine E_ald (x := (.aaload, 0, [], [])) 1 rfl rfl rfl (rfl) rfl ?_
        show xEx G0 cdX7_prepare none (xRn G0 MT (d + 3)) Q b 57 [some (.inr (.inr 44)), some (.inl p), some (.inl v2), some (.inl ((2 ^ m : Nat) : Int)), some (.inl 1)] [.inr (.inr 49)] g2
        refine E_s 3 (i' := 60) (ls' := [some (.inr (.inr 44)), some (.inl p), some (.inl v2), some (.inl ((2 ^ m : Nat) : Int)), some (.inl 1)]) (sk' := [.inl 0, .inl ((2 ^ m : Nat) : Int), .inl 0, .inr (.inr 49)]) (h' := g2) rfl ?_
        refine E_cv (x := (.invokestatic 69, 4, [(0, 256)], [])) (q := fun h9 => (∀ a, a ≠ 49 → h9 a = g2 a) ∧ ∀ s, ir m s → h9 49 s = 0) rfl rfl (Nat.le_of_ble_eq_true rfl) (c_fill_s_z1 (d + 1) 0 g2 0 ((2 ^ m : Nat) : Int) 0 (by omega) (by omega) (by omega) ⟨rfl, fun a z => xfill_a z, fun s hs => xfill_i ⟨hs.1, hs.2⟩⟩) (fun g3 hg3 => ?_)
        show xEx G0 cdX7_prepare none (xRn G0 MT (d + 3)) Q b 61 [some (.inr (.inr 44)), some (.inl p), some (.inl v2), some (.inl ((2 ^ m : Nat) : Int)), some (.inl 1)] [] g3
        refine E_s 3 (i' := 64) (ls' := [some (.inr (.inr 44)), some (.inl p), some (.inl v2), some (.inl ((2 ^ m : Nat) : Int)), some (.inl 1)]) (sk' := [.inl 1, .inr (.inr 47)]) (h' := g3) rfl ?_
        refine E_ald (x := (.aaload, 0, [], [])) 1 rfl rfl rfl (rfl) rfl ?_
        show xEx G0 cdX7_prepare none (xRn G0 MT (d + 3)) Q b 65 [some (.inr (.inr 44)), some (.inl p), some (.inl v2), some (.inl ((2 ^ m : Nat) : Int)), some (.inl 1)] [.inr (.inr 52)] g3
        refine E_s 3 (i' := 68) (ls' := [some (.inr (.inr 44)), some (.inl p), some (.inl v2), some (.inl ((2 ^ m : Nat) : Int)), some (.inl 1)]) (sk' := [.inl 0, .inl ((2 ^ m : Nat) : Int), .inl 0, .inr (.inr 52)]) (h' := g3) rfl ?_
        refine E_cv (x := (.invokestatic 69, 4, [(0, 256)], [])) (q := fun h9 => (∀ a, a ≠ 52 → h9 a = g3 a) ∧ ∀ s, ir m s → h9 52 s = 0) rfl rfl (Nat.le_of_ble_eq_true rfl) (c_fill_s_w1 (d + 1) 0 g3 0 ((2 ^ m : Nat) : Int) 0 (by omega) (by omega) (by omega) ⟨rfl, fun a z => xfill_a z, fun s hs => xfill_i ⟨hs.1, hs.2⟩⟩) (fun g4 hg4 => ?_)
        show xEx G0 cdX7_prepare none (xRn G0 MT (d + 3)) Q b 69 [some (.inr (.inr 44)), some (.inl p), some (.inl v2), some (.inl ((2 ^ m : Nat) : Int)), some (.inl 1)] [] g4
        refine E_s 4 (i' := 52) (ls' := [some (.inr (.inr 44)), some (.inl p), some (.inl v2), some (.inl ((2 ^ m : Nat) : Int)), some (.inl 2)]) (sk' := [.inl 2, .inl 2]) (h' := g4) rfl ?_
        refine E_b (x := (.if_icmp .gt 35, 71, [], [])) rfl rfl (fun c52 => ?_) (fun c52 => ?_)
        · show xEx G0 cdX7_prepare none (xRn G0 MT (d + 3)) Q b 71 [some (.inr (.inr 44)), some (.inl p), some (.inl v2), some (.inl ((2 ^ m : Nat) : Int)), some (.inl 2)] [] g4
          exact absurd c52 (by decide)
        · show xEx G0 cdX7_prepare none (xRn G0 MT (d + 3)) Q b 53 [some (.inr (.inr 44)), some (.inl p), some (.inl v2), some (.inl ((2 ^ m : Nat) : Int)), some (.inl 2)] [] g4
          refine E_s 3 (i' := 56) (ls' := [some (.inr (.inr 44)), some (.inl p), some (.inl v2), some (.inl ((2 ^ m : Nat) : Int)), some (.inl 2)]) (sk' := [.inl 2, .inr (.inr 46)]) (h' := g4) rfl ?_
          refine E_ald (x := (.aaload, 0, [], [])) 2 rfl rfl rfl (rfl) rfl ?_
          show xEx G0 cdX7_prepare none (xRn G0 MT (d + 3)) Q b 57 [some (.inr (.inr 44)), some (.inl p), some (.inl v2), some (.inl ((2 ^ m : Nat) : Int)), some (.inl 2)] [.inr (.inr 50)] g4
          refine E_s 3 (i' := 60) (ls' := [some (.inr (.inr 44)), some (.inl p), some (.inl v2), some (.inl ((2 ^ m : Nat) : Int)), some (.inl 2)]) (sk' := [.inl 0, .inl ((2 ^ m : Nat) : Int), .inl 0, .inr (.inr 50)]) (h' := g4) rfl ?_
          refine E_cv (x := (.invokestatic 69, 4, [(0, 256)], [])) (q := fun h9 => (∀ a, a ≠ 50 → h9 a = g4 a) ∧ ∀ s, ir m s → h9 50 s = 0) rfl rfl (Nat.le_of_ble_eq_true rfl) (c_fill_s_z2 (d + 1) 0 g4 0 ((2 ^ m : Nat) : Int) 0 (by omega) (by omega) (by omega) ⟨rfl, fun a z => xfill_a z, fun s hs => xfill_i ⟨hs.1, hs.2⟩⟩) (fun g5 hg5 => ?_)
          show xEx G0 cdX7_prepare none (xRn G0 MT (d + 3)) Q b 61 [some (.inr (.inr 44)), some (.inl p), some (.inl v2), some (.inl ((2 ^ m : Nat) : Int)), some (.inl 2)] [] g5
          refine E_s 3 (i' := 64) (ls' := [some (.inr (.inr 44)), some (.inl p), some (.inl v2), some (.inl ((2 ^ m : Nat) : Int)), some (.inl 2)]) (sk' := [.inl 2, .inr (.inr 47)]) (h' := g5) rfl ?_
          refine E_ald (x := (.aaload, 0, [], [])) 2 rfl rfl rfl (rfl) rfl ?_
          show xEx G0 cdX7_prepare none (xRn G0 MT (d + 3)) Q b 65 [some (.inr (.inr 44)), some (.inl p), some (.inl v2), some (.inl ((2 ^ m : Nat) : Int)), some (.inl 2)] [.inr (.inr 53)] g5
          refine E_s 3 (i' := 68) (ls' := [some (.inr (.inr 44)), some (.inl p), some (.inl v2), some (.inl ((2 ^ m : Nat) : Int)), some (.inl 2)]) (sk' := [.inl 0, .inl ((2 ^ m : Nat) : Int), .inl 0, .inr (.inr 53)]) (h' := g5) rfl ?_
          refine E_cv (x := (.invokestatic 69, 4, [(0, 256)], [])) (q := fun h9 => (∀ a, a ≠ 53 → h9 a = g5 a) ∧ ∀ s, ir m s → h9 53 s = 0) rfl rfl (Nat.le_of_ble_eq_true rfl) (c_fill_s_w2 (d + 1) 0 g5 0 ((2 ^ m : Nat) : Int) 0 (by omega) (by omega) (by omega) ⟨rfl, fun a z => xfill_a z, fun s hs => xfill_i ⟨hs.1, hs.2⟩⟩) (fun g6 hg6 => ?_)
          show xEx G0 cdX7_prepare none (xRn G0 MT (d + 3)) Q b 69 [some (.inr (.inr 44)), some (.inl p), some (.inl v2), some (.inl ((2 ^ m : Nat) : Int)), some (.inl 2)] [] g6
          refine E_s 4 (i' := 52) (ls' := [some (.inr (.inr 44)), some (.inl p), some (.inl v2), some (.inl ((2 ^ m : Nat) : Int)), some (.inl 3)]) (sk' := [.inl 2, .inl 3]) (h' := g6) rfl ?_
          refine E_b (x := (.if_icmp .gt 35, 71, [], [])) rfl rfl (fun c52 => ?_) (fun c52 => ?_)
          · show xEx G0 cdX7_prepare none (xRn G0 MT (d + 3)) Q b 71 [some (.inr (.inr 44)), some (.inl p), some (.inl v2), some (.inl ((2 ^ m : Nat) : Int)), some (.inl 3)] [] g6
            refine E_s 5 (i' := 76) (ls' := [some (.inr (.inr 44)), some (.inl p), some (.inl v2), some (.inl ((2 ^ m : Nat) : Int)), some (.inl 3)]) (sk' := [.inl 0, .inl ((2 ^ m : Nat) : Int), .inl 0, .inr (.inr 54)]) (h' := g6) rfl ?_
            refine E_cv (x := (.invokestatic 69, 4, [(0, 256)], [])) (q := fun h9 => (∀ a, a ≠ 54 → h9 a = g6 a) ∧ ∀ s, ir m s → h9 54 s = 0) rfl rfl (Nat.le_of_ble_eq_true rfl) (c_fill_s_few (d + 1) 0 g6 0 ((2 ^ m : Nat) : Int) 0 (by omega) (by omega) (by omega) ⟨rfl, fun a z => xfill_a z, fun s hs => xfill_i ⟨hs.1, hs.2⟩⟩) (fun g7 hg7 => ?_)
            show xEx G0 cdX7_prepare none (xRn G0 MT (d + 3)) Q b 77 [some (.inr (.inr 44)), some (.inl p), some (.inl v2), some (.inl ((2 ^ m : Nat) : Int)), some (.inl 3)] [] g7
            refine E_s 1 (i' := 78) (ls' := [some (.inr (.inr 44)), some (.inl p), some (.inl v2), some (.inl ((2 ^ m : Nat) : Int)), some (.inl 3)]) (sk' := [.inr (.inr 44)]) (h' := g7) rfl ?_
            have w11 : g7 44 = g 44 := by rw [hg7.1 _ (by decide), hg6.1 _ (by decide), hg5.1 _ (by decide), hg4.1 _ (by decide), hg3.1 _ (by decide), hg2.1 _ (by decide), hg1.1 _ (by decide)]
            have w44 : ∀ a, a < 44 ∨ 55 < a ∨ a = 46 ∨ a = 47 ∨ a = 45 ∨ a = 55 → g7 a = h a := fun a z => by rw [hg7.1 _ (by omega), hg6.1 _ (by omega), hg5.1 _ (by omega), hg4.1 _ (by omega), hg3.1 _ (by omega), hg2.1 _ (by omega), hg1.1 _ (by omega)]; exact w0 a (by omega)
            refine E_cv (x := (.invokevirtual 75, 0, [(5, 60)], [0])) (q := fun h9 => (∀ a, a ≠ 44 → a ≠ 55 → h9 a = g7 a) ∧ (∀ j, j ≠ 8 → h9 44 j = g7 44 j) ∧ USB T (T 0 0) p (h9 44 8) (h9 55)) rfl rfl (Nat.le_of_ble_eq_true rfl) (c_findUs d 0 g7 T p (T 0 0) (by rw [w11]; exact s10) hp9 (by rw [w44 _ (by decide)]; exact hRT.1) o.2.2.1 (fun t z1 z2 => by rw [w44 _ (by decide)]; exact (hRT.2.2.2.2.2.2.1 t z1 z2).2.2.2.2.2.2.1) (fun h9 z1 z2 z3 => ⟨rfl, z1, z2, z3⟩)) (fun g8 hg8 => ?_)
            show xEx G0 cdX7_prepare none (xRn G0 MT (d + 3)) Q b 79 [some (.inr (.inr 44)), some (.inl p), some (.inl v2), some (.inl ((2 ^ m : Nat) : Int)), some (.inl 3)] [] g8
            refine E_s 2 (i' := 81) (ls' := [some (.inr (.inr 44)), some (.inl p), some (.inl v2), some (.inl ((2 ^ m : Nat) : Int)), some (.inl 3)]) (sk' := [.inl ((2 ^ m : Nat) : Int), .inr (.inr 44)]) (h' := g8) rfl ?_
            have w8 : ∀ a, a < 44 ∨ 55 < a ∨ a = 46 ∨ a = 47 ∨ a = 45 → g8 a = h a := fun a z => by rw [hg8.1 a (by omega) (by omega)]; exact w44 a (by omega)
            refine E_cv (x := (.invokevirtual 78, 1, [(5, 61)], [0])) (q := fun h9 => (∀ a, a ≠ 44 → a ≠ 45 → h9 a = g8 a) ∧ (∀ j, j ≠ 9 → h9 44 j = g8 44 j) ∧ (∀ s, ir m s → h9 45 s = lv (lq S p m s) (S 0 0)) ∧ ir m (h9 44 9) ∧ cvd S p (S 0 0) (-1) (h9 44 9)) rfl rfl (Nat.le_of_ble_eq_true rfl) (c_findLst d 0 g8 S p (S 0 0) ((2 ^ m : Nat) : Int) m (by rw [hg8.2.1 _ (by decide), w11]; exact s10) hp9 (by rw [w8 _ (by decide)]; exact hR.1) o.2.1 (fun k z1 z2 => ⟨by rw [w8 _ (by decide)]; exact (hR.2.2.2.2.2.1 k z1 z2).2.2.2.2.2.2.1, by rw [w8 _ (by decide)]; exact (hR.2.2.2.2.2.1 k z1 z2).2.2.2.2.1, (o.2.2.2.1 k z1 z2).2.1⟩) o.1 rfl (fun h9 z1 z2 z3 z4 z5 => ⟨rfl, z1, z2, z3, z4, z5⟩)) (fun g9 hg9 => ?_)
            show xEx G0 cdX7_prepare none (xRn G0 MT (d + 3)) Q b 82 [some (.inr (.inr 44)), some (.inl p), some (.inl v2), some (.inl ((2 ^ m : Nat) : Int)), some (.inl 3)] [] g9
            obtain ⟨k1, k2, k3, k4, k5⟩ := hg9
            have w9 : ∀ a, a < 44 ∨ 55 < a ∨ a = 46 ∨ a = 47 → g9 a = h a := fun a z => by rw [k1 a (by omega) (by omega)]; exact w8 a (by omega)
            have w55 : g9 55 = g8 55 := k1 _ (by decide) (by decide)
            have w448 : g9 44 8 = g8 44 8 := k2 _ (by decide)
            have lfl : ∀ s, ir m s → g9 45 s = if lf S (S 0 0) p s = -1 then 300 else lf S (S 0 0) p s := fun s hs => by
              rw [k3 s hs]
              exact lv_congr (r := fun k => lk (S 11 k) p ∧ sub s (S 6 k)) (fun k z1 z2 => by unfold lq; rw [sbt_m o.1 hs (o.2.2.2.1 k z1 z2).2.1])
            refine E_s 2 (i' := 84) (ls' := [some (.inr (.inr 44)), some (.inl p), some (.inl v2), some (.inl ((2 ^ m : Nat) : Int)), some (.inl 0)]) (sk' := []) (h' := g9) rfl ?_
            have key84 : ∀ (n : Nat) (hv : xH) (s : Int), (0 ≤ s) → (s ≤ ((2 ^ m : Nat) : Int)) → (∀ a, a ≠ 48 → hv a = g9 a) → (∀ r, 0 ≤ r → r < s → hv 48 r = sz0 S (S 0 0) p r) → ((((2 ^ m : Nat) : Int) - s).toNat) < n → xEx G0 cdX7_prepare none (xRn G0 MT (d + 3)) Q b 84 [some (.inr (.inr 44)), some (.inl p), some (.inl v2), some (.inl ((2 ^ m : Nat) : Int)), some (.inl s)] [] hv := by
              intro n
              induction n with
              | zero => intro hv s _ _ _ _ hm; exact absurd hm (Nat.not_lt_zero _)
              | succ n ih84 =>
                intro hv s hs0 hs9 hvf hvz hm84
                refine E_s 2 (i' := 86) (ls' := [some (.inr (.inr 44)), some (.inl p), some (.inl v2), some (.inl ((2 ^ m : Nat) : Int)), some (.inl s)]) (sk' := [.inl ((2 ^ m : Nat) : Int), .inl s]) (h' := hv) rfl ?_
                refine E_b (x := (.if_icmp .ge 51, 111, [], [])) rfl rfl (fun c86 => ?_) (fun c86 => ?_)
                · rw [c_ge (by first | assumption | (refine ⟨?_, ?_⟩ <;> omega) | (simp only [xr] at *; omega)) (by first | assumption | (refine ⟨?_, ?_⟩ <;> omega) | (simp only [xr] at *; omega))] at c86
                  simp only [decide_eq_true_eq, decide_eq_false_iff_not, Decidable.not_not] at c86
                  show xEx G0 cdX7_prepare none (xRn G0 MT (d + 3)) Q b 111 [some (.inr (.inr 44)), some (.inl p), some (.inl v2), some (.inl ((2 ^ m : Nat) : Int)), some (.inl s)] [] hv
                  exact E_ret (x := (.return_, 0, [], [])) (v := none) rfl (trivial) (by
                    refine hQ _ (fun a z => by rw [hvf a (by omega)]; exact w9 a z) ⟨by rw [hvf _ (by decide), k2 _ (by decide), hg8.2.1 _ (by decide), w11]; exact s13, by rw [hvf _ (by decide), k2 _ (by decide), hg8.2.1 _ (by decide), w11]; exact s11, by rw [hvf _ (by decide), k2 _ (by decide), hg8.2.1 _ (by decide), w11]; exact s12, by rw [hvf _ (by decide), k2 _ (by decide), hg8.2.1 _ (by decide), w11]; exact s10, ⟨o, fun t z1 z2 => ?_, fun k z1 z2 => ?_, fun s9 hs9 => ⟨by rw [hvf _ (by decide)]; exact lfl s9 hs9, hvz s9 hs9.1 (by have := hs9.2; omega)⟩, by rw [hvf _ (by decide)]; exact k4, fun s9 hs9 z9 => ?_, by rw [hvf 44 (by decide), hvf 55 (by decide), w448, w55]; exact hg8.2.2⟩, fun s9 hs9 => ⟨Or.inl ?_, Or.inl ?_⟩, fun s9 hs9 => ⟨Or.inl ?_, Or.inl ?_, Or.inl ?_⟩, fun s9 hs9 => Or.inl ?_, fun e9 z1 => ?_⟩
                    · rw [hvf _ (by decide), hvf _ (by decide), w9 _ (by decide), w9 _ (by decide)]
                      obtain ⟨-, -, -, a, b, -⟩ := hRT.2.2.2.2.2.2.1 t z1 z2
                      exact ⟨a, b⟩
                    · rw [hvf _ (by decide), hvf _ (by decide), w9 _ (by decide), w9 _ (by decide)]
                      obtain ⟨-, -, -, a, b, -⟩ := hR.2.2.2.2.2.1 k z1 z2
                      exact ⟨a, b⟩
                    · rw [hvf _ (by decide)] at z9
                      have z8 : ¬ ∀ i, tb s9 i = true → tb (g9 44 9) i = true := fun y => z9 ((sub_t o.1 hs9 k4).mpr y)
                      obtain ⟨e, he⟩ := Classical.not_forall.mp z8
                      have ⟨he1, he2⟩ := Classical.not_imp.mp he
                      refine ⟨e, he1, fun k z1 z2 z3 => ?_⟩
                      cases y : tb (S 6 k) e
                      · rfl
                      · exact absurd ((k5 e).mpr ⟨k, by omega, z2, z3, y⟩) he2
                    · rw [hvf _ (by decide), k1 _ (by decide) (by decide), hg8.1 _ (by decide) (by decide), hg7.1 _ (by decide), hg6.1 _ (by decide), hg5.1 _ (by decide), hg4.1 _ (by decide)]; exact hg3.2 s9 hs9
                    · rw [hvf _ (by decide), k1 _ (by decide) (by decide), hg8.1 _ (by decide) (by decide), hg7.1 _ (by decide), hg6.1 _ (by decide)]; exact hg5.2 s9 hs9
                    · rw [hvf _ (by decide), k1 _ (by decide) (by decide), hg8.1 _ (by decide) (by decide), hg7.1 _ (by decide), hg6.1 _ (by decide), hg5.1 _ (by decide), hg4.1 _ (by decide), hg3.1 _ (by decide)]; exact hg2.2 s9 hs9
                    · rw [hvf _ (by decide), k1 _ (by decide) (by decide), hg8.1 _ (by decide) (by decide), hg7.1 _ (by decide), hg6.1 _ (by decide), hg5.1 _ (by decide)]; exact hg4.2 s9 hs9
                    · rw [hvf _ (by decide), k1 _ (by decide) (by decide), hg8.1 _ (by decide) (by decide), hg7.1 _ (by decide)]; exact hg6.2 s9 hs9
                    · rw [hvf _ (by decide), k1 _ (by decide) (by decide), hg8.1 _ (by decide) (by decide)]; exact hg7.2 s9 hs9
                    · rw [hvf _ (by decide)] at z1
                      obtain ⟨k, y1, y2, y3, y4⟩ := (k5 e9).mp z1
                      exact ⟨k, by omega, y2, y3, y4⟩)
                · rw [c_ge (by first | assumption | (refine ⟨?_, ?_⟩ <;> omega) | (simp only [xr] at *; omega)) (by first | assumption | (refine ⟨?_, ?_⟩ <;> omega) | (simp only [xr] at *; omega))] at c86
                  simp only [decide_eq_true_eq, decide_eq_false_iff_not, Decidable.not_not] at c86
                  show xEx G0 cdX7_prepare none (xRn G0 MT (d + 3)) Q b 87 [some (.inr (.inr 44)), some (.inl p), some (.inl v2), some (.inl ((2 ^ m : Nat) : Int)), some (.inl s)] [] hv
                  have is9 : ir m s := ⟨hs0, by omega⟩
                  have el : hv 45 s = if lf S (S 0 0) p s = -1 then 300 else lf S (S 0 0) p s := by rw [hvf _ (by decide)]; exact lfl s is9
                  have r4 := ir4 o.1 is9
                  have lsp := lf_spec S (S 0 0) p s
                  have lr : -1 ≤ lf S (S 0 0) p s ∧ lf S (S 0 0) p s < S 0 0 := by
                    rcases lsp with ⟨a, -⟩ | ⟨a, b, -⟩ <;> omega
                  have le9 : 0 ≤ hv 45 s ∧ hv 45 s ≤ 300 := by rw [el]; split <;> omega
                  refine E_s 3 (i' := 90) (ls' := [some (.inr (.inr 44)), some (.inl p), some (.inl v2), some (.inl ((2 ^ m : Nat) : Int)), some (.inl s)]) (sk' := [.inl 0, .inr (.inr 46)]) (h' := hv) rfl ?_
                  refine E_ald (x := (.aaload, 0, [], [])) 0 rfl rfl rfl (rfl) rfl ?_
                  show xEx G0 cdX7_prepare none (xRn G0 MT (d + 3)) Q b 91 [some (.inr (.inr 44)), some (.inl p), some (.inl v2), some (.inl ((2 ^ m : Nat) : Int)), some (.inl s)] [.inr (.inr 48)] hv
                  refine E_s 4 (i' := 95) (ls' := [some (.inr (.inr 44)), some (.inl p), some (.inl v2), some (.inl ((2 ^ m : Nat) : Int)), some (.inl s)]) (sk' := [.inl s, .inr (.inr 45), .inl s, .inr (.inr 48)]) (h' := hv) rfl ?_
                  refine E_ld (x := (.iaload, 0, [], [])) (ty := .int) (n := 4096) rfl rfl rfl (by omega) (by omega) ?_
                  show xEx G0 cdX7_prepare none (xRn G0 MT (d + 3)) Q b 96 [some (.inr (.inr 44)), some (.inl p), some (.inl v2), some (.inl ((2 ^ m : Nat) : Int)), some (.inl s)] [.inl (hv 45 s), .inl s, .inr (.inr 48)] hv
                  refine E_s 1 (i' := 97) (ls' := [some (.inr (.inr 44)), some (.inl p), some (.inl v2), some (.inl ((2 ^ m : Nat) : Int)), some (.inl s)]) (sk' := [.inl 300, .inl (hv 45 s), .inl s, .inr (.inr 48)]) (h' := hv) rfl ?_
                  refine E_b (x := (.if_icmp .ne 8, 100, [], [])) rfl rfl (fun c97 => ?_) (fun c97 => ?_)
                  · rw [c_ne (by first | assumption | (refine ⟨?_, ?_⟩ <;> omega) | (simp only [xr] at *; omega)) (by first | assumption | (refine ⟨?_, ?_⟩ <;> omega) | (simp only [xr] at *; omega))] at c97
                    simp only [decide_eq_true_eq, decide_eq_false_iff_not, Decidable.not_not] at c97
                    show xEx G0 cdX7_prepare none (xRn G0 MT (d + 3)) Q b 100 [some (.inr (.inr 44)), some (.inl p), some (.inl v2), some (.inl ((2 ^ m : Nat) : Int)), some (.inl s)] [.inl s, .inr (.inr 48)] hv
                    have lm2 : ¬ lf S (S 0 0) p s = -1 := fun z9 => by
                      rw [el, if_pos z9] at c97
                      exact c97 rfl
                    have lm3 : hv 45 s = lf S (S 0 0) p s := by rw [el, if_neg lm2]
                    have lm4 : hv 18 (lf S (S 0 0) p s) = S 4 (lf S (S 0 0) p s) := by rw [hvf _ (by decide), w9 _ (by decide)]; exact (hR.2.2.2.2.2.1 _ (by omega) (by omega)).2.2.2.1
                    refine E_s 6 (i' := 106) (ls' := [some (.inr (.inr 44)), some (.inl p), some (.inl v2), some (.inl ((2 ^ m : Nat) : Int)), some (.inl s)]) (sk' := [.inl s, .inr (.inr 45), .inr (.inr 18), .inl s, .inr (.inr 48)]) (h' := hv) rfl ?_
                    refine E_ld (x := (.iaload, 0, [], [])) (ty := .int) (n := 4096) rfl rfl rfl (by omega) (by omega) ?_
                    show xEx G0 cdX7_prepare none (xRn G0 MT (d + 3)) Q b 107 [some (.inr (.inr 44)), some (.inl p), some (.inl v2), some (.inl ((2 ^ m : Nat) : Int)), some (.inl s)] [.inl (hv 45 s), .inr (.inr 18), .inl s, .inr (.inr 48)] hv
                    refine E_ld (x := (.iaload, 0, [], [])) (ty := .int) (n := 300) rfl rfl rfl (by omega) (by omega) ?_
                    show xEx G0 cdX7_prepare none (xRn G0 MT (d + 3)) Q b 108 [some (.inr (.inr 44)), some (.inl p), some (.inl v2), some (.inl ((2 ^ m : Nat) : Int)), some (.inl s)] [.inl (hv 18 (hv 45 s)), .inl s, .inr (.inr 48)] hv
                    refine E_sd (x := (.iastore, 0, [], [])) (ty := .int) (n := 4096) (y := (hv 18 (hv 45 s))) rfl rfl rfl (by omega) (by omega) (trivial) ?_
                    show xEx G0 cdX7_prepare none (xRn G0 MT (d + 3)) Q b 109 [some (.inr (.inr 44)), some (.inl p), some (.inl v2), some (.inl ((2 ^ m : Nat) : Int)), some (.inl s)] [] (xup hv 48 s (hv 18 (hv 45 s)))
                    refine E_s 2 (i' := 84) (ls' := [some (.inr (.inr 44)), some (.inl p), some (.inl v2), some (.inl ((2 ^ m : Nat) : Int)), some (.inl (s + 1))]) (sk' := []) (h' := (xup hv 48 s (hv 18 (hv 45 s)))) rfl ?_
                    exact ih84 _ (s + 1) (by omega) (by omega) (fun a z => by rw [xup_o _ _ _ _ a z]; exact hvf a z) (fun r z1 z2 => by
                      by_cases y : r = s
                      · rw [y, xup_s]
                        unfold sz0
                        rw [if_neg lm2, lm3, lm4]
                      · rw [xup_j y]; exact hvz r z1 (by omega)) (by omega)
                  · rw [c_ne (by first | assumption | (refine ⟨?_, ?_⟩ <;> omega) | (simp only [xr] at *; omega)) (by first | assumption | (refine ⟨?_, ?_⟩ <;> omega) | (simp only [xr] at *; omega))] at c97
                    simp only [decide_eq_true_eq, decide_eq_false_iff_not, Decidable.not_not] at c97
                    show xEx G0 cdX7_prepare none (xRn G0 MT (d + 3)) Q b 98 [some (.inr (.inr 44)), some (.inl p), some (.inl v2), some (.inl ((2 ^ m : Nat) : Int)), some (.inl s)] [.inl s, .inr (.inr 48)] hv
                    have lm1 : lf S (S 0 0) p s = -1 := by
                      rw [el] at c97
                      split at c97
                      · assumption
                      · omega
                    refine E_s 2 (i' := 108) (ls' := [some (.inr (.inr 44)), some (.inl p), some (.inl v2), some (.inl ((2 ^ m : Nat) : Int)), some (.inl s)]) (sk' := [.inl 1000000, .inl s, .inr (.inr 48)]) (h' := hv) rfl ?_
                    refine E_sd (x := (.iastore, 0, [], [])) (ty := .int) (n := 4096) (y := 1000000) rfl rfl rfl (by omega) (by omega) (trivial) ?_
                    show xEx G0 cdX7_prepare none (xRn G0 MT (d + 3)) Q b 109 [some (.inr (.inr 44)), some (.inl p), some (.inl v2), some (.inl ((2 ^ m : Nat) : Int)), some (.inl s)] [] (xup hv 48 s 1000000)
                    refine E_s 2 (i' := 84) (ls' := [some (.inr (.inr 44)), some (.inl p), some (.inl v2), some (.inl ((2 ^ m : Nat) : Int)), some (.inl (s + 1))]) (sk' := []) (h' := (xup hv 48 s 1000000)) rfl ?_
                    exact ih84 _ (s + 1) (by omega) (by omega) (fun a z => by rw [xup_o _ _ _ _ a z]; exact hvf a z) (fun r z1 z2 => by
                      by_cases y : r = s
                      · rw [y, xup_s]
                        unfold sz0
                        rw [if_pos lm1]
                      · rw [xup_j y]; exact hvz r z1 (by omega)) (by omega)
            exact key84 _ g9 0 (by omega) (by omega) (fun _ _ => rfl) (fun r z1 z2 => by omega) (Nat.lt_succ_self _)
          · show xEx G0 cdX7_prepare none (xRn G0 MT (d + 3)) Q b 53 [some (.inr (.inr 44)), some (.inl p), some (.inl v2), some (.inl ((2 ^ m : Nat) : Int)), some (.inl 3)] [] g6
            exact absurd c52 (by decide)
  refine E_s 5 (i' := 5) (ls' := [some (.inr (.inr 44)), some (.inl p), none, none, none]) (sk' := [.inl (h 9 9), .inl (h 44 11)]) (h' := h) rfl ?_
  refine E_b (x := (.if_icmp .ne 21, 14, [], [])) rfl rfl (fun c5 => ?_) (fun c5 => ?_)
  · rw [c_ne (by first | exact i3 | exact ⟨by omega, by omega⟩) (by first | exact i3 | exact ⟨by omega, by omega⟩)] at c5
    simp only [decide_eq_true_eq, decide_eq_false_iff_not, Decidable.not_not] at c5
    show xEx G0 cdX7_prepare none (xRn G0 MT (d + 3)) Q b 14 [some (.inr (.inr 44)), some (.inl p), none, none, none] [] h
    refine E_s 4 (i' := 18) (ls' := [some (.inr (.inr 44)), some (.inl p), some (.inl 0), none, none]) (sk' := [.inl (h 44 13)]) (h' := h) rfl ?_
    refine E_b (x := (.ifCond .eq 16, 26, [], [])) rfl rfl (fun c18 => ?_) (fun c18 => ?_)
    · rw [c_eq (by first | (rcases i1 with z9 | z9 <;> rw [z9] <;> exact ⟨by decide, by decide⟩) | exact ⟨by omega, by omega⟩) (by first | (rcases i1 with z9 | z9 <;> rw [z9] <;> exact ⟨by decide, by decide⟩) | exact ⟨by omega, by omega⟩)] at c18
      simp only [decide_eq_true_eq, decide_eq_false_iff_not, Decidable.not_not] at c18
      show xEx G0 cdX7_prepare none (xRn G0 MT (d + 3)) Q b 26 [some (.inr (.inr 44)), some (.inl p), some (.inl 0), none, none] [] h
      exact cut26 _
    · rw [c_eq (by first | (rcases i1 with z9 | z9 <;> rw [z9] <;> exact ⟨by decide, by decide⟩) | exact ⟨by omega, by omega⟩) (by first | (rcases i1 with z9 | z9 <;> rw [z9] <;> exact ⟨by decide, by decide⟩) | exact ⟨by omega, by omega⟩)] at c18
      simp only [decide_eq_true_eq, decide_eq_false_iff_not, Decidable.not_not] at c18
      show xEx G0 cdX7_prepare none (xRn G0 MT (d + 3)) Q b 19 [some (.inr (.inr 44)), some (.inl p), some (.inl 0), none, none] [] h
      refine E_s 1 (i' := 20) (ls' := [some (.inr (.inr 44)), some (.inl p), some (.inl 0), none, none]) (sk' := [.inl 0]) (h' := h) rfl ?_
      refine E_b (x := (.ifCond .eq 12, 26, [], [])) rfl rfl (fun c20 => ?_) (fun c20 => ?_)
      · show xEx G0 cdX7_prepare none (xRn G0 MT (d + 3)) Q b 26 [some (.inr (.inr 44)), some (.inl p), some (.inl 0), none, none] [] h
        exact cut26 _
      · show xEx G0 cdX7_prepare none (xRn G0 MT (d + 3)) Q b 21 [some (.inr (.inr 44)), some (.inl p), some (.inl 0), none, none] [] h
        exact absurd c20 (by decide)
  · rw [c_ne (by first | exact i3 | exact ⟨by omega, by omega⟩) (by first | exact i3 | exact ⟨by omega, by omega⟩)] at c5
    simp only [decide_eq_true_eq, decide_eq_false_iff_not, Decidable.not_not] at c5
    show xEx G0 cdX7_prepare none (xRn G0 MT (d + 3)) Q b 6 [some (.inr (.inr 44)), some (.inl p), none, none, none] [] h
    refine E_s 5 (i' := 11) (ls' := [some (.inr (.inr 44)), some (.inl p), none, none, none]) (sk' := [.inl (h 28 9), .inl (h 44 12)]) (h' := h) rfl ?_
    refine E_b (x := (.if_icmp .ne 7, 14, [], [])) rfl rfl (fun c11 => ?_) (fun c11 => ?_)
    · rw [c_ne (by first | exact i4 | exact ⟨by omega, by omega⟩) (by first | exact i4 | exact ⟨by omega, by omega⟩)] at c11
      simp only [decide_eq_true_eq, decide_eq_false_iff_not, Decidable.not_not] at c11
      show xEx G0 cdX7_prepare none (xRn G0 MT (d + 3)) Q b 14 [some (.inr (.inr 44)), some (.inl p), none, none, none] [] h
      refine E_s 4 (i' := 18) (ls' := [some (.inr (.inr 44)), some (.inl p), some (.inl 0), none, none]) (sk' := [.inl (h 44 13)]) (h' := h) rfl ?_
      refine E_b (x := (.ifCond .eq 16, 26, [], [])) rfl rfl (fun c18 => ?_) (fun c18 => ?_)
      · rw [c_eq (by first | (rcases i1 with z9 | z9 <;> rw [z9] <;> exact ⟨by decide, by decide⟩) | exact ⟨by omega, by omega⟩) (by first | (rcases i1 with z9 | z9 <;> rw [z9] <;> exact ⟨by decide, by decide⟩) | exact ⟨by omega, by omega⟩)] at c18
        simp only [decide_eq_true_eq, decide_eq_false_iff_not, Decidable.not_not] at c18
        show xEx G0 cdX7_prepare none (xRn G0 MT (d + 3)) Q b 26 [some (.inr (.inr 44)), some (.inl p), some (.inl 0), none, none] [] h
        exact cut26 _
      · rw [c_eq (by first | (rcases i1 with z9 | z9 <;> rw [z9] <;> exact ⟨by decide, by decide⟩) | exact ⟨by omega, by omega⟩) (by first | (rcases i1 with z9 | z9 <;> rw [z9] <;> exact ⟨by decide, by decide⟩) | exact ⟨by omega, by omega⟩)] at c18
        simp only [decide_eq_true_eq, decide_eq_false_iff_not, Decidable.not_not] at c18
        show xEx G0 cdX7_prepare none (xRn G0 MT (d + 3)) Q b 19 [some (.inr (.inr 44)), some (.inl p), some (.inl 0), none, none] [] h
        refine E_s 1 (i' := 20) (ls' := [some (.inr (.inr 44)), some (.inl p), some (.inl 0), none, none]) (sk' := [.inl 0]) (h' := h) rfl ?_
        refine E_b (x := (.ifCond .eq 12, 26, [], [])) rfl rfl (fun c20 => ?_) (fun c20 => ?_)
        · show xEx G0 cdX7_prepare none (xRn G0 MT (d + 3)) Q b 26 [some (.inr (.inr 44)), some (.inl p), some (.inl 0), none, none] [] h
          exact cut26 _
        · show xEx G0 cdX7_prepare none (xRn G0 MT (d + 3)) Q b 21 [some (.inr (.inr 44)), some (.inl p), some (.inl 0), none, none] [] h
          exact absurd c20 (by decide)
    · rw [c_ne (by first | exact i4 | exact ⟨by omega, by omega⟩) (by first | exact i4 | exact ⟨by omega, by omega⟩)] at c11
      simp only [decide_eq_true_eq, decide_eq_false_iff_not, Decidable.not_not] at c11
      show xEx G0 cdX7_prepare none (xRn G0 MT (d + 3)) Q b 12 [some (.inr (.inr 44)), some (.inl p), none, none, none] [] h
      refine E_s 5 (i' := 18) (ls' := [some (.inr (.inr 44)), some (.inl p), some (.inl 1), none, none]) (sk' := [.inl (h 44 13)]) (h' := h) rfl ?_
      refine E_b (x := (.ifCond .eq 16, 26, [], [])) rfl rfl (fun c18 => ?_) (fun c18 => ?_)
      · rw [c_eq (by first | (rcases i1 with z9 | z9 <;> rw [z9] <;> exact ⟨by decide, by decide⟩) | exact ⟨by omega, by omega⟩) (by first | (rcases i1 with z9 | z9 <;> rw [z9] <;> exact ⟨by decide, by decide⟩) | exact ⟨by omega, by omega⟩)] at c18
        simp only [decide_eq_true_eq, decide_eq_false_iff_not, Decidable.not_not] at c18
        show xEx G0 cdX7_prepare none (xRn G0 MT (d + 3)) Q b 26 [some (.inr (.inr 44)), some (.inl p), some (.inl 1), none, none] [] h
        exact cut26 _
      · rw [c_eq (by first | (rcases i1 with z9 | z9 <;> rw [z9] <;> exact ⟨by decide, by decide⟩) | exact ⟨by omega, by omega⟩) (by first | (rcases i1 with z9 | z9 <;> rw [z9] <;> exact ⟨by decide, by decide⟩) | exact ⟨by omega, by omega⟩)] at c18
        simp only [decide_eq_true_eq, decide_eq_false_iff_not, Decidable.not_not] at c18
        show xEx G0 cdX7_prepare none (xRn G0 MT (d + 3)) Q b 19 [some (.inr (.inr 44)), some (.inl p), some (.inl 1), none, none] [] h
        refine E_s 1 (i' := 20) (ls' := [some (.inr (.inr 44)), some (.inl p), some (.inl 1), none, none]) (sk' := [.inl 1]) (h' := h) rfl ?_
        refine E_b (x := (.ifCond .eq 12, 26, [], [])) rfl rfl (fun c20 => ?_) (fun c20 => ?_)
        · show xEx G0 cdX7_prepare none (xRn G0 MT (d + 3)) Q b 26 [some (.inr (.inr 44)), some (.inl p), some (.inl 1), none, none] [] h
          exact absurd c20 (by decide)
        · show xEx G0 cdX7_prepare none (xRn G0 MT (d + 3)) Q b 21 [some (.inr (.inr 44)), some (.inl p), some (.inl 1), none, none] [] h
          refine E_s 3 (i' := 24) (ls' := [some (.inr (.inr 44)), some (.inl p), some (.inl 1), none, none]) (sk' := [.inl p, .inl (h 44 10)]) (h' := h) rfl ?_
          refine E_b (x := (.if_icmp .ne 4, 26, [], [])) rfl rfl (fun c24 => ?_) (fun c24 => ?_)
          · rw [c_ne (by first | exact i2 | exact ⟨by omega, by omega⟩) (by first | exact i2 | exact ⟨by omega, by omega⟩)] at c24
            simp only [decide_eq_true_eq, decide_eq_false_iff_not, Decidable.not_not] at c24
            show xEx G0 cdX7_prepare none (xRn G0 MT (d + 3)) Q b 26 [some (.inr (.inr 44)), some (.inl p), some (.inl 1), none, none] [] h
            exact cut26 _
          · rw [c_ne (by first | exact i2 | exact ⟨by omega, by omega⟩) (by first | exact i2 | exact ⟨by omega, by omega⟩)] at c24
            simp only [decide_eq_true_eq, decide_eq_false_iff_not, Decidable.not_not] at c24
            show xEx G0 cdX7_prepare none (xRn G0 MT (d + 3)) Q b 25 [some (.inr (.inr 44)), some (.inl p), some (.inl 1), none, none] [] h
            have x13 : h 44 13 = 1 := by omega
            obtain ⟨t1, t2, t3, t4, t5, t6⟩ := i5 x13
            have y11 : h 44 11 = S 0 0 := by omega
            have y12 : h 44 12 = T 0 0 := by omega
            have y10 : h 44 10 = p := by omega
            rw [y11, y12, y10] at t6
            exact E_ret (x := (.return_, 0, [], [])) (v := none) rfl (trivial) (hQ _ (PRF.rf h) ⟨x13, y11, y12, y10, SVA_of o hm hR hRT t6⟩)
