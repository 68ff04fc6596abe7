def FP (A B : Nat) (D : Nat) (nd : Int) (h h' : xH) : Prop := (∀ a, a ≠ 49 → a ≠ 50 → a ≠ A → a ≠ B → h' a = h a) ∧ ∀ j, ¬ sb D nd j → h' A j = h A j ∧ h' B j = h B j
theorem SVF_p {h h' S T : xH} {p : Int} {m A B : Nat} {D : Nat} {nd : Int} (hA : 55 < A ∧ 55 < B) (f : FP A B D nd h h') (v : SVF h S T p m) : SVF h' S T p m := by
  have g : ∀ a, a ≤ 55 → a ≠ 49 → a ≠ 50 → h' a = h a := fun a z1 z2 z3 => f.1 a z2 z3 (by omega) (by omega)
  unfold SVF at *
  rw [g 37 (by decide) (by decide) (by decide), g 39 (by decide) (by decide) (by decide), g 18 (by decide) (by decide) (by decide), g 20 (by decide) (by decide) (by decide), g 45 (by decide) (by decide) (by decide), g 48 (by decide) (by decide) (by decide), g 44 (by decide) (by decide) (by decide), g 55 (by decide) (by decide) (by decide)]
  exact v
set_option maxHeartbeats 1000000 in
theorem c_pl_pr0 (d b : Nat) (h S T : xH) (p set : Int) (m D : Nat) (nd : Int) (hV : SVF h S T p m) (hM : SVM h S T p m) (hs : ir m set) (hi : 0 ≤ D) (hz : szf S T (S 0 0) (T 0 0) p 0 set < 1000000) (hD : (D = 3 ∧ nd = 0) ∨ (D = 2 ∧ nd ≤ 2) ∨ (D = 1 ∧ nd ≤ 6) ∨ (D = 0 ∧ nd ≤ 14)) (hnd : 0 ≤ nd) (hno : NO (h 57) (h 58) D nd) {Q : xO → xH → Prop} (hQ : ∀ h', FP 57 58 D nd h h' → SVM h' S T p m → TV S T (S 0 0) (T 0 0) p (h' 57) (h' 58) D 0 nd set → Q (.inl none) h') : xRn G0 MT (d + 2) b 66 [.inr (.inr 44), .inr (.inr 56), .inl nd, .inl set, .inl 0] h Q := by
  refine R_of (M := mX7_place) rfl (Nat.le_of_ble_eq_true rfl) ?_
  show xEx G0 cdX7_place none (xRn G0 MT (d + 1)) Q b 0 [some (.inr (.inr 44)), some (.inr (.inr 56)), some (.inl nd), some (.inl set), some (.inl 0), none, none, none] [] h
  have r4 := ir4 hV.1.1 hs
  have e48 : h 48 set = sz0 S (S 0 0) p set := (hV.2.2.2.1 set hs).2
  have uk := hV.1.2.2.1
  have zr := szf_r (p := p) hV.1 0 set
  have z0 := sz0_r (p := p) hV.1 set
  have bs := bti_spec (S := S) (T := T) (KE := S 0 0) (KT := T 0 0) (p := p) uk.1 0 set
  refine E_s 3 (i' := 3) (ls' := [some (.inr (.inr 44)), some (.inr (.inr 56)), some (.inl nd), some (.inl set), some (.inl 0), none, none, none]) (sk' := [.inl 0, .inl set, .inr (.inr 44)]) (h' := h) rfl ?_
  refine E_ci (x := (.invokevirtual 99, 2, [(5, 63)], [0])) (r := (szf S T (S 0 0) (T 0 0) p 0 set)) (h' := h) rfl rfl (Nat.le_of_ble_eq_true rfl) (c_szO0 d 0 h S T p set m hV hM hs ⟨rfl, rfl⟩) ?_
  show xEx G0 cdX7_place none (xRn G0 MT (d + 1)) Q b 4 [some (.inr (.inr 44)), some (.inr (.inr 56)), some (.inl nd), some (.inl set), some (.inl 0), none, none, none] [.inl (szf S T (S 0 0) (T 0 0) p 0 set)] h
  refine E_s 7 (i' := 11) (ls' := [some (.inr (.inr 44)), some (.inr (.inr 56)), some (.inl nd), some (.inl set), some (.inl 0), some (.inl (szf S T (S 0 0) (T 0 0) p 0 set)), some (.inl (-1)), none]) (sk' := [.inl 0, .inr (.inr 46), .inl (szf S T (S 0 0) (T 0 0) p 0 set)]) (h' := h) rfl ?_
  refine E_ald (x := (.aaload, 0, [], [])) 0 rfl rfl rfl (rfl) rfl ?_
  show xEx G0 cdX7_place none (xRn G0 MT (d + 1)) Q b 12 [some (.inr (.inr 44)), some (.inr (.inr 56)), some (.inl nd), some (.inl set), some (.inl 0), some (.inl (szf S T (S 0 0) (T 0 0) p 0 set)), some (.inl (-1)), none] [.inr (.inr 48), .inl (szf S T (S 0 0) (T 0 0) p 0 set)] h
  refine E_s 1 (i' := 13) (ls' := [some (.inr (.inr 44)), some (.inr (.inr 56)), some (.inl nd), some (.inl set), some (.inl 0), some (.inl (szf S T (S 0 0) (T 0 0) p 0 set)), some (.inl (-1)), none]) (sk' := [.inl set, .inr (.inr 48), .inl (szf S T (S 0 0) (T 0 0) p 0 set)]) (h' := h) rfl ?_
  refine E_ld (x := (.iaload, 0, [], [])) (ty := .int) (n := 4096) rfl rfl rfl (by omega) (by omega) ?_
  show xEx G0 cdX7_place none (xRn G0 MT (d + 1)) Q b 14 [some (.inr (.inr 44)), some (.inr (.inr 56)), some (.inl nd), some (.inl set), some (.inl 0), some (.inl (szf S T (S 0 0) (T 0 0) p 0 set)), some (.inl (-1)), none] [.inl (h 48 set), .inl (szf S T (S 0 0) (T 0 0) p 0 set)] h
  refine E_b (x := (.if_icmp .eq 21, 24, [], [])) rfl rfl (fun c14 => ?_) (fun c14 => ?_)
  · rw [c_eq (by first | (rw [f1 _ (by decide) (by decide), e48]; exact ⟨by omega, by omega⟩) | (rw [e48]; exact ⟨by omega, by omega⟩) | exact ⟨by omega, by omega⟩) (by first | (rw [f1 _ (by decide) (by decide), e48]; exact ⟨by omega, by omega⟩) | (rw [e48]; exact ⟨by omega, by omega⟩) | exact ⟨by omega, by omega⟩)] at c14
    simp only [decide_eq_true_eq, decide_eq_false_iff_not, Decidable.not_not] at c14
    show xEx G0 cdX7_place none (xRn G0 MT (d + 1)) Q b 24 [some (.inr (.inr 44)), some (.inr (.inr 56)), some (.inl nd), some (.inl set), some (.inl 0), some (.inl (szf S T (S 0 0) (T 0 0) p 0 set)), some (.inl (-1)), none] [] h
    refine E_s 4 (i' := 28) (ls' := [some (.inr (.inr 44)), some (.inr (.inr 56)), some (.inl nd), some (.inl set), some (.inl 0), some (.inl (szf S T (S 0 0) (T 0 0) p 0 set)), some (.inl (-1)), none]) (sk' := [.inl (-1), .inl nd, .inr (.inr 57)]) (h' := h) rfl ?_
    refine E_sd (x := (.iastore, 0, [], [])) (ty := .int) (n := 15) (y := (-1)) rfl rfl rfl (by omega) (by omega) (trivial) ?_
    show xEx G0 cdX7_place none (xRn G0 MT (d + 1)) Q b 29 [some (.inr (.inr 44)), some (.inr (.inr 56)), some (.inl nd), some (.inl set), some (.inl 0), some (.inl (szf S T (S 0 0) (T 0 0) p 0 set)), some (.inl (-1)), none] [] (xup h 57 nd (-1))
    refine E_s 2 (i' := 31) (ls' := [some (.inr (.inr 44)), some (.inr (.inr 56)), some (.inl nd), some (.inl set), some (.inl 0), some (.inl (szf S T (S 0 0) (T 0 0) p 0 set)), some (.inl (-1)), none]) (sk' := [.inl (-1), .inl (-1)]) (h' := (xup h 57 nd (-1))) rfl ?_
    refine E_b (x := (.if_icmp .ne 16, 41, [], [])) rfl rfl (fun c31 => ?_) (fun c31 => ?_)
    · show xEx G0 cdX7_place none (xRn G0 MT (d + 1)) Q b 41 [some (.inr (.inr 44)), some (.inr (.inr 56)), some (.inl nd), some (.inl set), some (.inl 0), some (.inl (szf S T (S 0 0) (T 0 0) p 0 set)), some (.inl (-1)), none] [] (xup h 57 nd (-1))
      exact absurd c31 (by decide)
    · show xEx G0 cdX7_place none (xRn G0 MT (d + 1)) Q b 32 [some (.inr (.inr 44)), some (.inr (.inr 56)), some (.inl nd), some (.inl set), some (.inl 0), some (.inl (szf S T (S 0 0) (T 0 0) p 0 set)), some (.inl (-1)), none] [] (xup h 57 nd (-1))
      have hz0 : szf S T (S 0 0) (T 0 0) p 0 set = sz0 S (S 0 0) p set := by rfl
      have hbt : (bti S T (S 0 0) (T 0 0) p 0 set) = -1 := by
        rcases bs with ⟨-, z9⟩ | ⟨z9, -⟩
        · exact z9
        · omega
      have l45 : h 45 set = lf S (S 0 0) p set := by
        rw [(hV.2.2.2.1 set hs).1, if_neg]
        intro z9
        have : sz0 S (S 0 0) p set = 1000000 := by unfold sz0; rw [if_pos z9]
        omega
      refine E_s 6 (i' := 38) (ls' := [some (.inr (.inr 44)), some (.inr (.inr 56)), some (.inl nd), some (.inl set), some (.inl 0), some (.inl (szf S T (S 0 0) (T 0 0) p 0 set)), some (.inl (-1)), none]) (sk' := [.inl set, .inr (.inr 45), .inl nd, .inr (.inr 58)]) (h' := (xup h 57 nd (-1))) rfl ?_
      refine E_ld (x := (.iaload, 0, [], [])) (ty := .int) (n := 4096) rfl rfl rfl (by omega) (by omega) ?_
      show xEx G0 cdX7_place none (xRn G0 MT (d + 1)) Q b 39 [some (.inr (.inr 44)), some (.inr (.inr 56)), some (.inl nd), some (.inl set), some (.inl 0), some (.inl (szf S T (S 0 0) (T 0 0) p 0 set)), some (.inl (-1)), none] [.inl (h 45 set), .inl nd, .inr (.inr 58)] (xup h 57 nd (-1))
      refine E_sd (x := (.iastore, 0, [], [])) (ty := .int) (n := 15) (y := (h 45 set)) rfl rfl rfl (by omega) (by omega) (trivial) ?_
      show xEx G0 cdX7_place none (xRn G0 MT (d + 1)) Q b 40 [some (.inr (.inr 44)), some (.inr (.inr 56)), some (.inl nd), some (.inl set), some (.inl 0), some (.inl (szf S T (S 0 0) (T 0 0) p 0 set)), some (.inl (-1)), none] [] (xup (xup h 57 nd (-1)) 58 nd (h 45 set))
      exact E_ret (x := (.return_, 0, [], [])) (v := none) rfl (trivial) (by
        refine hQ _ ⟨fun a z1 z2 z3 z4 => by rw [xup_o _ _ _ _ a z4, xup_o _ _ _ _ a z3], fun j z => ?_⟩ hM (TV_leaf (by omega) hnd hno hbt ?_ ?_ (fun j z => ?_))
        · have zj : j ≠ nd := fun y => z (by rw [y]; exact sb_s D nd)
          rw [xup_o _ _ _ _ _ (by decide), xup_j zj, xup_j zj, xup_o _ _ _ _ _ (by decide)]
          exact ⟨rfl, rfl⟩
        · rw [xup_o _ _ _ _ _ (by decide), xup_s]
        · rw [xup_s]; exact l45
        · rw [xup_o _ _ _ _ _ (by decide), xup_j z, xup_j z, xup_o _ _ _ _ _ (by decide)]
          exact ⟨rfl, rfl⟩)
  · rw [c_eq (by first | (rw [f1 _ (by decide) (by decide), e48]; exact ⟨by omega, by omega⟩) | (rw [e48]; exact ⟨by omega, by omega⟩) | exact ⟨by omega, by omega⟩) (by first | (rw [f1 _ (by decide) (by decide), e48]; exact ⟨by omega, by omega⟩) | (rw [e48]; exact ⟨by omega, by omega⟩) | exact ⟨by omega, by omega⟩)] at c14
    simp only [decide_eq_true_eq, decide_eq_false_iff_not, Decidable.not_not] at c14
    show xEx G0 cdX7_place none (xRn G0 MT (d + 1)) Q b 15 [some (.inr (.inr 44)), some (.inr (.inr 56)), some (.inl nd), some (.inl set), some (.inl 0), some (.inl (szf S T (S 0 0) (T 0 0) p 0 set)), some (.inl (-1)), none] [] h
    exact absurd (show szf S T (S 0 0) (T 0 0) p 0 set = h 48 set from e48.symm) c14
set_option maxHeartbeats 1000000 in
theorem c_pl_pr1 (d b : Nat) (h S T : xH) (p set : Int) (m D : Nat) (nd : Int) (hV : SVF h S T p m) (hM : SVM h S T p m) (hs : ir m set) (hi : 1 ≤ D) (hz : szf S T (S 0 0) (T 0 0) p 1 set < 1000000) (hD : (D = 3 ∧ nd = 0) ∨ (D = 2 ∧ nd ≤ 2) ∨ (D = 1 ∧ nd ≤ 6) ∨ (D = 0 ∧ nd ≤ 14)) (hnd : 0 ≤ nd) (hno : NO (h 57) (h 58) D nd) {Q : xO → xH → Prop} (hQ : ∀ h', FP 57 58 D nd h h' → SVM h' S T p m → TV S T (S 0 0) (T 0 0) p (h' 57) (h' 58) D 1 nd set → Q (.inl none) h') : xRn G0 MT (d + 4) b 66 [.inr (.inr 44), .inr (.inr 56), .inl nd, .inl set, .inl 1] h Q := by
  refine R_of (M := mX7_place) rfl (Nat.le_of_ble_eq_true rfl) ?_
  show xEx G0 cdX7_place none (xRn G0 MT (d + 3)) Q b 0 [some (.inr (.inr 44)), some (.inr (.inr 56)), some (.inl nd), some (.inl set), some (.inl 1), none, none, none] [] h
  have r4 := ir4 hV.1.1 hs
  have e48 : h 48 set = sz0 S (S 0 0) p set := (hV.2.2.2.1 set hs).2
  have uk := hV.1.2.2.1
  have zr := szf_r (p := p) hV.1 1 set
  have z0 := sz0_r (p := p) hV.1 set
  have bs := bti_spec (S := S) (T := T) (KE := S 0 0) (KT := T 0 0) (p := p) uk.1 1 set
  refine E_s 3 (i' := 3) (ls' := [some (.inr (.inr 44)), some (.inr (.inr 56)), some (.inl nd), some (.inl set), some (.inl 1), none, none, none]) (sk' := [.inl 1, .inl set, .inr (.inr 44)]) (h' := h) rfl ?_
  refine E_cp (x := (.invokevirtual 99, 2, [(5, 63)], [0])) (q := fun r h9 => r = szf S T (S 0 0) (T 0 0) p 1 set ∧ FZ h h9 ∧ SVM h9 S T p m) rfl rfl (Nat.le_of_ble_eq_true rfl) (c_szO1 d 0 h S T p set m hV hM hs (fun h9 z1 z2 => ⟨_, rfl, rfl, z1, z2⟩)) (fun r1 h1 hq1 => ?_)
  obtain ⟨er1, f1, m1⟩ := hq1
  show xEx G0 cdX7_place none (xRn G0 MT (d + 3)) Q b 4 [some (.inr (.inr 44)), some (.inr (.inr 56)), some (.inl nd), some (.inl set), some (.inl 1), none, none, none] [.inl r1] h1
  refine E_ti (y := (szf S T (S 0 0) (T 0 0) p 1 set)) (by rw [er1]) ?_
  refine E_s 7 (i' := 11) (ls' := [some (.inr (.inr 44)), some (.inr (.inr 56)), some (.inl nd), some (.inl set), some (.inl 1), some (.inl (szf S T (S 0 0) (T 0 0) p 1 set)), some (.inl (-1)), none]) (sk' := [.inl 0, .inr (.inr 46), .inl (szf S T (S 0 0) (T 0 0) p 1 set)]) (h' := h1) rfl ?_
  refine E_ald (x := (.aaload, 0, [], [])) 0 rfl rfl rfl (rfl) rfl ?_
  show xEx G0 cdX7_place none (xRn G0 MT (d + 3)) Q b 12 [some (.inr (.inr 44)), some (.inr (.inr 56)), some (.inl nd), some (.inl set), some (.inl 1), some (.inl (szf S T (S 0 0) (T 0 0) p 1 set)), some (.inl (-1)), none] [.inr (.inr 48), .inl (szf S T (S 0 0) (T 0 0) p 1 set)] h1
  refine E_s 1 (i' := 13) (ls' := [some (.inr (.inr 44)), some (.inr (.inr 56)), some (.inl nd), some (.inl set), some (.inl 1), some (.inl (szf S T (S 0 0) (T 0 0) p 1 set)), some (.inl (-1)), none]) (sk' := [.inl set, .inr (.inr 48), .inl (szf S T (S 0 0) (T 0 0) p 1 set)]) (h' := h1) rfl ?_
  refine E_ld (x := (.iaload, 0, [], [])) (ty := .int) (n := 4096) rfl rfl rfl (by omega) (by omega) ?_
  show xEx G0 cdX7_place none (xRn G0 MT (d + 3)) Q b 14 [some (.inr (.inr 44)), some (.inr (.inr 56)), some (.inl nd), some (.inl set), some (.inl 1), some (.inl (szf S T (S 0 0) (T 0 0) p 1 set)), some (.inl (-1)), none] [.inl (h1 48 set), .inl (szf S T (S 0 0) (T 0 0) p 1 set)] h1
  refine E_b (x := (.if_icmp .eq 21, 24, [], [])) rfl rfl (fun c14 => ?_) (fun c14 => ?_)
  · rw [c_eq (by first | (rw [f1 _ (by decide) (by decide), e48]; exact ⟨by omega, by omega⟩) | (rw [e48]; exact ⟨by omega, by omega⟩) | exact ⟨by omega, by omega⟩) (by first | (rw [f1 _ (by decide) (by decide), e48]; exact ⟨by omega, by omega⟩) | (rw [e48]; exact ⟨by omega, by omega⟩) | exact ⟨by omega, by omega⟩)] at c14
    simp only [decide_eq_true_eq, decide_eq_false_iff_not, Decidable.not_not] at c14
    show xEx G0 cdX7_place none (xRn G0 MT (d + 3)) Q b 24 [some (.inr (.inr 44)), some (.inr (.inr 56)), some (.inl nd), some (.inl set), some (.inl 1), some (.inl (szf S T (S 0 0) (T 0 0) p 1 set)), some (.inl (-1)), none] [] h1
    refine E_s 4 (i' := 28) (ls' := [some (.inr (.inr 44)), some (.inr (.inr 56)), some (.inl nd), some (.inl set), some (.inl 1), some (.inl (szf S T (S 0 0) (T 0 0) p 1 set)), some (.inl (-1)), none]) (sk' := [.inl (-1), .inl nd, .inr (.inr 57)]) (h' := h1) rfl ?_
    refine E_sd (x := (.iastore, 0, [], [])) (ty := .int) (n := 15) (y := (-1)) rfl rfl rfl (by omega) (by omega) (trivial) ?_
    show xEx G0 cdX7_place none (xRn G0 MT (d + 3)) Q b 29 [some (.inr (.inr 44)), some (.inr (.inr 56)), some (.inl nd), some (.inl set), some (.inl 1), some (.inl (szf S T (S 0 0) (T 0 0) p 1 set)), some (.inl (-1)), none] [] (xup h1 57 nd (-1))
    refine E_s 2 (i' := 31) (ls' := [some (.inr (.inr 44)), some (.inr (.inr 56)), some (.inl nd), some (.inl set), some (.inl 1), some (.inl (szf S T (S 0 0) (T 0 0) p 1 set)), some (.inl (-1)), none]) (sk' := [.inl (-1), .inl (-1)]) (h' := (xup h1 57 nd (-1))) rfl ?_
    refine E_b (x := (.if_icmp .ne 16, 41, [], [])) rfl rfl (fun c31 => ?_) (fun c31 => ?_)
    · show xEx G0 cdX7_place none (xRn G0 MT (d + 3)) Q b 41 [some (.inr (.inr 44)), some (.inr (.inr 56)), some (.inl nd), some (.inl set), some (.inl 1), some (.inl (szf S T (S 0 0) (T 0 0) p 1 set)), some (.inl (-1)), none] [] (xup h1 57 nd (-1))
      exact absurd c31 (by decide)
    · show xEx G0 cdX7_place none (xRn G0 MT (d + 3)) Q b 32 [some (.inr (.inr 44)), some (.inr (.inr 56)), some (.inl nd), some (.inl set), some (.inl 1), some (.inl (szf S T (S 0 0) (T 0 0) p 1 set)), some (.inl (-1)), none] [] (xup h1 57 nd (-1))
      have hz0 : szf S T (S 0 0) (T 0 0) p 1 set = sz0 S (S 0 0) p set := by rw [f1 _ (by decide) (by decide), e48] at c14; exact c14
      have hbt : (bti S T (S 0 0) (T 0 0) p 1 set) = -1 := by
        rcases bs with ⟨-, z9⟩ | ⟨z9, -⟩
        · exact z9
        · omega
      have l45 : h 45 set = lf S (S 0 0) p set := by
        rw [(hV.2.2.2.1 set hs).1, if_neg]
        intro z9
        have : sz0 S (S 0 0) p set = 1000000 := by unfold sz0; rw [if_pos z9]
        omega
      refine E_s 6 (i' := 38) (ls' := [some (.inr (.inr 44)), some (.inr (.inr 56)), some (.inl nd), some (.inl set), some (.inl 1), some (.inl (szf S T (S 0 0) (T 0 0) p 1 set)), some (.inl (-1)), none]) (sk' := [.inl set, .inr (.inr 45), .inl nd, .inr (.inr 58)]) (h' := (xup h1 57 nd (-1))) rfl ?_
      refine E_ld (x := (.iaload, 0, [], [])) (ty := .int) (n := 4096) rfl rfl rfl (by omega) (by omega) ?_
      show xEx G0 cdX7_place none (xRn G0 MT (d + 3)) Q b 39 [some (.inr (.inr 44)), some (.inr (.inr 56)), some (.inl nd), some (.inl set), some (.inl 1), some (.inl (szf S T (S 0 0) (T 0 0) p 1 set)), some (.inl (-1)), none] [.inl (h1 45 set), .inl nd, .inr (.inr 58)] (xup h1 57 nd (-1))
      refine E_sd (x := (.iastore, 0, [], [])) (ty := .int) (n := 15) (y := (h1 45 set)) rfl rfl rfl (by omega) (by omega) (trivial) ?_
      show xEx G0 cdX7_place none (xRn G0 MT (d + 3)) Q b 40 [some (.inr (.inr 44)), some (.inr (.inr 56)), some (.inl nd), some (.inl set), some (.inl 1), some (.inl (szf S T (S 0 0) (T 0 0) p 1 set)), some (.inl (-1)), none] [] (xup (xup h1 57 nd (-1)) 58 nd (h1 45 set))
      exact E_ret (x := (.return_, 0, [], [])) (v := none) rfl (trivial) (by
        have e45 : h1 45 set = lf S (S 0 0) p set := by rw [f1 _ (by decide) (by decide)]; exact l45
        refine hQ _ ⟨fun a z1 z2 z3 z4 => by rw [xup_o _ _ _ _ a z4, xup_o _ _ _ _ a z3]; exact f1 a z1 z2, fun j z => ?_⟩ m1 (TV_leaf (by omega) hnd hno hbt ?_ ?_ (fun j z => ?_))
        · have zj : j ≠ nd := fun y => z (by rw [y]; exact sb_s D nd)
          rw [xup_o _ _ _ _ _ (by decide), xup_j zj, xup_j zj, xup_o _ _ _ _ _ (by decide), f1 _ (by decide) (by decide), f1 _ (by decide) (by decide)]
          exact ⟨rfl, rfl⟩
        · rw [xup_o _ _ _ _ _ (by decide), xup_s]
        · rw [xup_s]; exact e45
        · rw [xup_o _ _ _ _ _ (by decide), xup_j z, xup_j z, xup_o _ _ _ _ _ (by decide), f1 _ (by decide) (by decide), f1 _ (by decide) (by decide)]
          exact ⟨rfl, rfl⟩)
  · rw [c_eq (by first | (rw [f1 _ (by decide) (by decide), e48]; exact ⟨by omega, by omega⟩) | (rw [e48]; exact ⟨by omega, by omega⟩) | exact ⟨by omega, by omega⟩) (by first | (rw [f1 _ (by decide) (by decide), e48]; exact ⟨by omega, by omega⟩) | (rw [e48]; exact ⟨by omega, by omega⟩) | exact ⟨by omega, by omega⟩)] at c14
    simp only [decide_eq_true_eq, decide_eq_false_iff_not, Decidable.not_not] at c14
    show xEx G0 cdX7_place none (xRn G0 MT (d + 3)) Q b 15 [some (.inr (.inr 44)), some (.inr (.inr 56)), some (.inl nd), some (.inl set), some (.inl 1), some (.inl (szf S T (S 0 0) (T 0 0) p 1 set)), some (.inl (-1)), none] [] h1
    have hlt : szf S T (S 0 0) (T 0 0) p 1 set < sz0 S (S 0 0) p set := by
      rw [f1 _ (by decide) (by decide), e48] at c14
      rcases bs with ⟨z9, -⟩ | ⟨z9, -⟩
      · exact absurd z9 c14
      · exact z9
    obtain ⟨bt0, bt1, be⟩ : 0 ≤ (bti S T (S 0 0) (T 0 0) p 1 set) ∧ (bti S T (S 0 0) (T 0 0) p 1 set) < T 0 0 ∧ szt T (szf S T (S 0 0) (T 0 0) p 0) set (bti S T (S 0 0) (T 0 0) p 1 set) = szf S T (S 0 0) (T 0 0) p 1 set := by
      rcases bs with ⟨z9, -⟩ | ⟨-, j, e, b1, b2, b3, b4, -⟩
      · omega
      · have e : j = 0 := by omega
        subst e
        exact ⟨b1, b2, b4⟩
    have hbt : (bti S T (S 0 0) (T 0 0) p 1 set) ≠ -1 := by omega
    have za := szf_r (p := p) hV.1 0 (xand set (T 6 (bti S T (S 0 0) (T 0 0) p 1 set)))
    have zb := szf_r (p := p) hV.1 0 (xxor set (xand set (T 6 (bti S T (S 0 0) (T 0 0) p 1 set))))
    have zt := (hV.1.2.2.2.2 _ bt0 bt1).1
    have be9 := be
    unfold szt at be9
    clear bs
    refine E_s 1 (i' := 16) (ls' := [some (.inr (.inr 44)), some (.inr (.inr 56)), some (.inl nd), some (.inl set), some (.inl 1), some (.inl (szf S T (S 0 0) (T 0 0) p 1 set)), some (.inl (-1)), none]) (sk' := [.inl nd]) (h' := h1) rfl ?_
    refine E_ci (x := (.invokestatic 112, 1, [(0, 46)], [])) (r := 1) (h' := h1) rfl rfl (Nat.le_of_ble_eq_true rfl) (c_mayAsk (d + 2) 0 h1 nd ⟨hnd, by omega⟩ ⟨rfl, rfl⟩) ?_
    show xEx G0 cdX7_place none (xRn G0 MT (d + 3)) Q b 17 [some (.inr (.inr 44)), some (.inr (.inr 56)), some (.inl nd), some (.inl set), some (.inl 1), some (.inl (szf S T (S 0 0) (T 0 0) p 1 set)), some (.inl (-1)), none] [.inl 1] h1
    refine E_b (x := (.ifCond .eq 14, 24, [], [])) rfl rfl (fun c17 => ?_) (fun c17 => ?_)
    · show xEx G0 cdX7_place none (xRn G0 MT (d + 3)) Q b 24 [some (.inr (.inr 44)), some (.inr (.inr 56)), some (.inl nd), some (.inl set), some (.inl 1), some (.inl (szf S T (S 0 0) (T 0 0) p 1 set)), some (.inl (-1)), none] [] h1
      exact absurd c17 (by decide)
    · show xEx G0 cdX7_place none (xRn G0 MT (d + 3)) Q b 18 [some (.inr (.inr 44)), some (.inr (.inr 56)), some (.inl nd), some (.inl set), some (.inl 1), some (.inl (szf S T (S 0 0) (T 0 0) p 1 set)), some (.inl (-1)), none] [] h1
      refine E_s 4 (i' := 22) (ls' := [some (.inr (.inr 44)), some (.inr (.inr 56)), some (.inl nd), some (.inl set), some (.inl 1), some (.inl (szf S T (S 0 0) (T 0 0) p 1 set)), some (.inl (-1)), none]) (sk' := [.inl 1, .inl set, .inl (szf S T (S 0 0) (T 0 0) p 1 set), .inr (.inr 44)]) (h' := h1) rfl ?_
      refine E_cp (x := (.invokevirtual 118, 3, [(5, 67)], [0])) (q := fun r h9 => r = (bti S T (S 0 0) (T 0 0) p 1 set) ∧ FZ h1 h9 ∧ SVM h9 S T p m) rfl rfl (Nat.le_of_ble_eq_true rfl) (c_fTW1 d 0 h1 S T p set m (SVF_z f1 hV) m1 hs hlt (fun h9 z1 z2 => ⟨_, rfl, rfl, z1, z2⟩)) (fun r2 h2 hq2 => ?_)
      obtain ⟨er2, f2, m2⟩ := hq2
      show xEx G0 cdX7_place none (xRn G0 MT (d + 3)) Q b 23 [some (.inr (.inr 44)), some (.inr (.inr 56)), some (.inl nd), some (.inl set), some (.inl 1), some (.inl (szf S T (S 0 0) (T 0 0) p 1 set)), some (.inl (-1)), none] [.inl r2] h2
      refine E_ti (y := (bti S T (S 0 0) (T 0 0) p 1 set)) (by rw [er2]) ?_
      refine E_s 5 (i' := 28) (ls' := [some (.inr (.inr 44)), some (.inr (.inr 56)), some (.inl nd), some (.inl set), some (.inl 1), some (.inl (szf S T (S 0 0) (T 0 0) p 1 set)), some (.inl (bti S T (S 0 0) (T 0 0) p 1 set)), none]) (sk' := [.inl (bti S T (S 0 0) (T 0 0) p 1 set), .inl nd, .inr (.inr 57)]) (h' := h2) rfl ?_
      refine E_sd (x := (.iastore, 0, [], [])) (ty := .int) (n := 15) (y := (bti S T (S 0 0) (T 0 0) p 1 set)) rfl rfl rfl (by omega) (by omega) (trivial) ?_
      show xEx G0 cdX7_place none (xRn G0 MT (d + 3)) Q b 29 [some (.inr (.inr 44)), some (.inr (.inr 56)), some (.inl nd), some (.inl set), some (.inl 1), some (.inl (szf S T (S 0 0) (T 0 0) p 1 set)), some (.inl (bti S T (S 0 0) (T 0 0) p 1 set)), none] [] (xup h2 57 nd (bti S T (S 0 0) (T 0 0) p 1 set))
      refine E_s 2 (i' := 31) (ls' := [some (.inr (.inr 44)), some (.inr (.inr 56)), some (.inl nd), some (.inl set), some (.inl 1), some (.inl (szf S T (S 0 0) (T 0 0) p 1 set)), some (.inl (bti S T (S 0 0) (T 0 0) p 1 set)), none]) (sk' := [.inl (-1), .inl (bti S T (S 0 0) (T 0 0) p 1 set)]) (h' := (xup h2 57 nd (bti S T (S 0 0) (T 0 0) p 1 set))) rfl ?_
      refine E_b (x := (.if_icmp .ne 16, 41, [], [])) rfl rfl (fun c31 => ?_) (fun c31 => ?_)
      · rw [c_ne (by first | assumption | (refine ⟨?_, ?_⟩ <;> omega) | (simp only [xr] at *; omega)) (by first | assumption | (refine ⟨?_, ?_⟩ <;> omega) | (simp only [xr] at *; omega))] at c31
        simp only [decide_eq_true_eq, decide_eq_false_iff_not, Decidable.not_not] at c31
        show xEx G0 cdX7_place none (xRn G0 MT (d + 3)) Q b 41 [some (.inr (.inr 44)), some (.inr (.inr 56)), some (.inl nd), some (.inl set), some (.inl 1), some (.inl (szf S T (S 0 0) (T 0 0) p 1 set)), some (.inl (bti S T (S 0 0) (T 0 0) p 1 set)), none] [] (xup h2 57 nd (bti S T (S 0 0) (T 0 0) p 1 set))
        refine E_s 5 (i' := 46) (ls' := [some (.inr (.inr 44)), some (.inr (.inr 56)), some (.inl nd), some (.inl set), some (.inl 1), some (.inl (szf S T (S 0 0) (T 0 0) p 1 set)), some (.inl (bti S T (S 0 0) (T 0 0) p 1 set)), none]) (sk' := [.inl (bti S T (S 0 0) (T 0 0) p 1 set), .inr (.inr 39), .inl set]) (h' := (xup h2 57 nd (bti S T (S 0 0) (T 0 0) p 1 set))) rfl ?_
        refine E_ld (x := (.iaload, 0, [], [])) (ty := .int) (n := 150) rfl rfl rfl (by omega) (by omega) ?_
        show xEx G0 cdX7_place none (xRn G0 MT (d + 3)) Q b 47 [some (.inr (.inr 44)), some (.inr (.inr 56)), some (.inl nd), some (.inl set), some (.inl 1), some (.inl (szf S T (S 0 0) (T 0 0) p 1 set)), some (.inl (bti S T (S 0 0) (T 0 0) p 1 set)), none] [.inl (h2 39 (bti S T (S 0 0) (T 0 0) p 1 set)), .inl set] (xup h2 57 nd (bti S T (S 0 0) (T 0 0) p 1 set))
        refine E_s 6 (i' := 53) (ls' := [some (.inr (.inr 44)), some (.inr (.inr 56)), some (.inl nd), some (.inl set), some (.inl 1), some (.inl (szf S T (S 0 0) (T 0 0) p 1 set)), some (.inl (bti S T (S 0 0) (T 0 0) p 1 set)), some (.inl (xand set (h2 39 (bti S T (S 0 0) (T 0 0) p 1 set))))]) (sk' := [.inl 1, .inl nd, .inr (.inr 56), .inr (.inr 44)]) (h' := (xup h2 57 nd (bti S T (S 0 0) (T 0 0) p 1 set))) rfl ?_
        refine E_ci (x := (.invokestatic 127, 2, [(0, 45)], [])) (r := (2 * nd + 1)) (h' := (xup h2 57 nd (bti S T (S 0 0) (T 0 0) p 1 set))) rfl rfl (Nat.le_of_ble_eq_true rfl) (c_nb1 (d + 2) 0 (xup h2 57 nd (bti S T (S 0 0) (T 0 0) p 1 set)) nd ⟨rfl, rfl⟩) ?_
        show xEx G0 cdX7_place none (xRn G0 MT (d + 3)) Q b 54 [some (.inr (.inr 44)), some (.inr (.inr 56)), some (.inl nd), some (.inl set), some (.inl 1), some (.inl (szf S T (S 0 0) (T 0 0) p 1 set)), some (.inl (bti S T (S 0 0) (T 0 0) p 1 set)), some (.inl (xand set (h2 39 (bti S T (S 0 0) (T 0 0) p 1 set))))] [.inl (2 * nd + 1), .inr (.inr 56), .inr (.inr 44)] (xup h2 57 nd (bti S T (S 0 0) (T 0 0) p 1 set))
        refine E_s 4 (i' := 58) (ls' := [some (.inr (.inr 44)), some (.inr (.inr 56)), some (.inl nd), some (.inl set), some (.inl 1), some (.inl (szf S T (S 0 0) (T 0 0) p 1 set)), some (.inl (bti S T (S 0 0) (T 0 0) p 1 set)), some (.inl (xand set (h2 39 (bti S T (S 0 0) (T 0 0) p 1 set))))]) (sk' := [.inl 0, .inl (xand set (h2 39 (bti S T (S 0 0) (T 0 0) p 1 set))), .inl (2 * nd + 1), .inr (.inr 56), .inr (.inr 44)]) (h' := (xup h2 57 nd (bti S T (S 0 0) (T 0 0) p 1 set))) rfl ?_
        have v2 : SVF h2 S T p m := SVF_z (f1.tr f2) hV
        have w1 : SVF (xup h2 57 nd (bti S T (S 0 0) (T 0 0) p 1 set)) S T p m := by exact v2
        have w2 : SVM (xup h2 57 nd (bti S T (S 0 0) (T 0 0) p 1 set)) S T p m := m2
        have t6 : (xup h2 57 nd (bti S T (S 0 0) (T 0 0) p 1 set)) 39 (bti S T (S 0 0) (T 0 0) p 1 set) = T 6 (bti S T (S 0 0) (T 0 0) p 1 set) := (w1.2.1 _ bt0 bt1).2
        have o6 := (hV.1.2.2.2.2 _ bt0 bt1).2.1
        have i1 : ir m (xand set ((xup h2 57 nd (bti S T (S 0 0) (T 0 0) p 1 set)) 39 (bti S T (S 0 0) (T 0 0) p 1 set))) := by rw [t6]; exact xa_r hV.1.1 hs o6
        have i2 : ir m (xxor set (xand set ((xup h2 57 nd (bti S T (S 0 0) (T 0 0) p 1 set)) 39 (bti S T (S 0 0) (T 0 0) p 1 set)))) := xx_r hV.1.1 hs i1
        have g2 : ∀ a, a ≠ 49 → a ≠ 50 → h2 a = h a := fun a z1 z2 => (f1.tr f2) a z1 z2
        have nA : ∀ j, j ≠ nd → (xup h2 57 nd (bti S T (S 0 0) (T 0 0) p 1 set)) 57 j = h 57 j := fun j z => by rw [xup_j z, g2 _ (by decide) (by decide)]
        have nB : (xup h2 57 nd (bti S T (S 0 0) (T 0 0) p 1 set)) 58 = h 58 := by rw [xup_o _ _ _ _ _ (by decide), g2 _ (by decide) (by decide)]
        obtain ⟨D, rfl⟩ : ∃ D', D = D' + 1 := ⟨D - 1, by omega⟩
        have no1 : NO ((xup h2 57 nd (bti S T (S 0 0) (T 0 0) p 1 set)) 57) ((xup h2 57 nd (bti S T (S 0 0) (T 0 0) p 1 set)) 58) D (2 * nd + 1) := NO_fr D _ (fun j z => ⟨nA j ((sb_d (by omega) hnd).1 z).2, by rw [nB]⟩) hno.2.1
        have no2 : NO ((xup h2 57 nd (bti S T (S 0 0) (T 0 0) p 1 set)) 57) ((xup h2 57 nd (bti S T (S 0 0) (T 0 0) p 1 set)) 58) D (2 * nd + 2) := NO_fr D _ (fun j z => ⟨nA j ((sb_d (by omega) hnd).2 z), by rw [nB]⟩) hno.2.2
        refine E_cv (x := (.invokevirtual 131, 4, [(5, 66)], [0])) (q := fun h9 => FP 57 58 D (2 * nd + 1) (xup h2 57 nd (bti S T (S 0 0) (T 0 0) p 1 set)) h9 ∧ SVM h9 S T p m ∧ TV S T (S 0 0) (T 0 0) p (h9 57) (h9 58) D 0 (2 * nd + 1) (xand set ((xup h2 57 nd (bti S T (S 0 0) (T 0 0) p 1 set)) 39 (bti S T (S 0 0) (T 0 0) p 1 set)))) rfl rfl (Nat.le_of_ble_eq_true rfl) (c_pl_pr0 (d + 1) 0 (xup h2 57 nd (bti S T (S 0 0) (T 0 0) p 1 set)) S T p (xand set ((xup h2 57 nd (bti S T (S 0 0) (T 0 0) p 1 set)) 39 (bti S T (S 0 0) (T 0 0) p 1 set))) m D (2 * nd + 1) w1 w2 i1 (by omega) (by rw [t6]; omega) (by omega) (by omega) no1 (fun h9 z1 z2 z3 => ⟨rfl, z1, z2, z3⟩)) (fun h3 hq3 => ?_)
        obtain ⟨f3, m3, t3⟩ := hq3
        show xEx G0 cdX7_place none (xRn G0 MT (d + 3)) Q b 59 [some (.inr (.inr 44)), some (.inr (.inr 56)), some (.inl nd), some (.inl set), some (.inl 1), some (.inl (szf S T (S 0 0) (T 0 0) p 1 set)), some (.inl (bti S T (S 0 0) (T 0 0) p 1 set)), some (.inl (xand set (h2 39 (bti S T (S 0 0) (T 0 0) p 1 set))))] [] h3
        refine E_s 4 (i' := 63) (ls' := [some (.inr (.inr 44)), some (.inr (.inr 56)), some (.inl nd), some (.inl set), some (.inl 1), some (.inl (szf S T (S 0 0) (T 0 0) p 1 set)), some (.inl (bti S T (S 0 0) (T 0 0) p 1 set)), some (.inl (xand set (h2 39 (bti S T (S 0 0) (T 0 0) p 1 set))))]) (sk' := [.inl 0, .inl nd, .inr (.inr 56), .inr (.inr 44)]) (h' := h3) rfl ?_
        refine E_ci (x := (.invokestatic 127, 2, [(0, 45)], [])) (r := (2 * nd + 2)) (h' := h3) rfl rfl (Nat.le_of_ble_eq_true rfl) (c_nb0 (d + 2) 0 h3 nd ⟨rfl, rfl⟩) ?_
        show xEx G0 cdX7_place none (xRn G0 MT (d + 3)) Q b 64 [some (.inr (.inr 44)), some (.inr (.inr 56)), some (.inl nd), some (.inl set), some (.inl 1), some (.inl (szf S T (S 0 0) (T 0 0) p 1 set)), some (.inl (bti S T (S 0 0) (T 0 0) p 1 set)), some (.inl (xand set (h2 39 (bti S T (S 0 0) (T 0 0) p 1 set))))] [.inl (2 * nd + 2), .inr (.inr 56), .inr (.inr 44)] h3
        refine E_s 6 (i' := 70) (ls' := [some (.inr (.inr 44)), some (.inr (.inr 56)), some (.inl nd), some (.inl set), some (.inl 1), some (.inl (szf S T (S 0 0) (T 0 0) p 1 set)), some (.inl (bti S T (S 0 0) (T 0 0) p 1 set)), some (.inl (xand set (h2 39 (bti S T (S 0 0) (T 0 0) p 1 set))))]) (sk' := [.inl 0, .inl (xxor set (xand set (h2 39 (bti S T (S 0 0) (T 0 0) p 1 set)))), .inl (2 * nd + 2), .inr (.inr 56), .inr (.inr 44)]) (h' := h3) rfl ?_
        have no3 : NO (h3 57) (h3 58) D (2 * nd + 2) := NO_fr D _ (fun j z => f3.2 j (fun y => ((sb_d (by omega) hnd).1 y).1 z)) no2
        refine E_cv (x := (.invokevirtual 131, 4, [(5, 66)], [0])) (q := fun h9 => FP 57 58 D (2 * nd + 2) (h3) h9 ∧ SVM h9 S T p m ∧ TV S T (S 0 0) (T 0 0) p (h9 57) (h9 58) D 0 (2 * nd + 2) (xxor set (xand set ((xup h2 57 nd (bti S T (S 0 0) (T 0 0) p 1 set)) 39 (bti S T (S 0 0) (T 0 0) p 1 set))))) rfl rfl (Nat.le_of_ble_eq_true rfl) (c_pl_pr0 (d + 1) 0 h3 S T p (xxor set (xand set ((xup h2 57 nd (bti S T (S 0 0) (T 0 0) p 1 set)) 39 (bti S T (S 0 0) (T 0 0) p 1 set)))) m D (2 * nd + 2) (SVF_p (by decide) f3 w1) m3 i2 (by omega) (by rw [t6]; omega) (by omega) (by omega) no3 (fun h9 z1 z2 z3 => ⟨rfl, z1, z2, z3⟩)) (fun h4 hq4 => ?_)
        obtain ⟨f4, m4, t4⟩ := hq4
        show xEx G0 cdX7_place none (xRn G0 MT (d + 3)) Q b 71 [some (.inr (.inr 44)), some (.inr (.inr 56)), some (.inl nd), some (.inl set), some (.inl 1), some (.inl (szf S T (S 0 0) (T 0 0) p 1 set)), some (.inl (bti S T (S 0 0) (T 0 0) p 1 set)), some (.inl (xand set (h2 39 (bti S T (S 0 0) (T 0 0) p 1 set))))] [] h4
        exact E_ret (x := (.return_, 0, [], [])) (v := none) rfl (trivial) (by
          rw [t6] at t3 t4
          refine hQ _ ⟨fun a z1 z2 z3 z4 => by rw [f4.1 a z1 z2 z3 z4, f3.1 a z1 z2 z3 z4, xup_o _ _ _ _ a z3]; exact g2 a z1 z2, fun j z => ?_⟩ m4 (TV_node (by omega) hnd hbt ?_ ?_ f3.2 t3 f4.2 t4)
          · have zj : j ≠ nd := fun y => z (Or.inl y)
            obtain ⟨x1, x2⟩ := f4.2 j (fun y => z (Or.inr (Or.inr y)))
            obtain ⟨x3, x4⟩ := f3.2 j (fun y => z (Or.inr (Or.inl y)))
            rw [x1, x2, x3, x4, nA j zj, nB]
            exact ⟨rfl, rfl⟩
          · rw [xup_s]
          · rw [nB]; exact hno.1.2)
      · rw [c_ne (by first | assumption | (refine ⟨?_, ?_⟩ <;> omega) | (simp only [xr] at *; omega)) (by first | assumption | (refine ⟨?_, ?_⟩ <;> omega) | (simp only [xr] at *; omega))] at c31
        simp only [decide_eq_true_eq, decide_eq_false_iff_not, Decidable.not_not] at c31
        show xEx G0 cdX7_place none (xRn G0 MT (d + 3)) Q b 32 [some (.inr (.inr 44)), some (.inr (.inr 56)), some (.inl nd), some (.inl set), some (.inl 1), some (.inl (szf S T (S 0 0) (T 0 0) p 1 set)), some (.inl (bti S T (S 0 0) (T 0 0) p 1 set)), none] [] (xup h2 57 nd (bti S T (S 0 0) (T 0 0) p 1 set))
        exact absurd c31 hbt
set_option maxHeartbeats 1000000 in
theorem c_pl_pr2 (d b : Nat) (h S T : xH) (p set : Int) (m D : Nat) (nd : Int) (hV : SVF h S T p m) (hM : SVM h S T p m) (hs : ir m set) (hi : 2 ≤ D) (hz : szf S T (S 0 0) (T 0 0) p 2 set < 1000000) (hD : (D = 3 ∧ nd = 0) ∨ (D = 2 ∧ nd ≤ 2) ∨ (D = 1 ∧ nd ≤ 6) ∨ (D = 0 ∧ nd ≤ 14)) (hnd : 0 ≤ nd) (hno : NO (h 57) (h 58) D nd) {Q : xO → xH → Prop} (hQ : ∀ h', FP 57 58 D nd h h' → SVM h' S T p m → TV S T (S 0 0) (T 0 0) p (h' 57) (h' 58) D 2 nd set → Q (.inl none) h') : xRn G0 MT (d + 6) b 66 [.inr (.inr 44), .inr (.inr 56), .inl nd, .inl set, .inl 2] h Q := by
  refine R_of (M := mX7_place) rfl (Nat.le_of_ble_eq_true rfl) ?_
  show xEx G0 cdX7_place none (xRn G0 MT (d + 5)) Q b 0 [some (.inr (.inr 44)), some (.inr (.inr 56)), some (.inl nd), some (.inl set), some (.inl 2), none, none, none] [] h
  have r4 := ir4 hV.1.1 hs
  have e48 : h 48 set = sz0 S (S 0 0) p set := (hV.2.2.2.1 set hs).2
  have uk := hV.1.2.2.1
  have zr := szf_r (p := p) hV.1 2 set
  have z0 := sz0_r (p := p) hV.1 set
  have bs := bti_spec (S := S) (T := T) (KE := S 0 0) (KT := T 0 0) (p := p) uk.1 2 set
  refine E_s 3 (i' := 3) (ls' := [some (.inr (.inr 44)), some (.inr (.inr 56)), some (.inl nd), some (.inl set), some (.inl 2), none, none, none]) (sk' := [.inl 2, .inl set, .inr (.inr 44)]) (h' := h) rfl ?_
  refine E_cp (x := (.invokevirtual 99, 2, [(5, 63)], [0])) (q := fun r h9 => r = szf S T (S 0 0) (T 0 0) p 2 set ∧ FZ h h9 ∧ SVM h9 S T p m) rfl rfl (Nat.le_of_ble_eq_true rfl) (c_szO2 d 0 h S T p set m hV hM hs (fun h9 z1 z2 => ⟨_, rfl, rfl, z1, z2⟩)) (fun r1 h1 hq1 => ?_)
  obtain ⟨er1, f1, m1⟩ := hq1
  show xEx G0 cdX7_place none (xRn G0 MT (d + 5)) Q b 4 [some (.inr (.inr 44)), some (.inr (.inr 56)), some (.inl nd), some (.inl set), some (.inl 2), none, none, none] [.inl r1] h1
  refine E_ti (y := (szf S T (S 0 0) (T 0 0) p 2 set)) (by rw [er1]) ?_
  refine E_s 7 (i' := 11) (ls' := [some (.inr (.inr 44)), some (.inr (.inr 56)), some (.inl nd), some (.inl set), some (.inl 2), some (.inl (szf S T (S 0 0) (T 0 0) p 2 set)), some (.inl (-1)), none]) (sk' := [.inl 0, .inr (.inr 46), .inl (szf S T (S 0 0) (T 0 0) p 2 set)]) (h' := h1) rfl ?_
  refine E_ald (x := (.aaload, 0, [], [])) 0 rfl rfl rfl (rfl) rfl ?_
  show xEx G0 cdX7_place none (xRn G0 MT (d + 5)) Q b 12 [some (.inr (.inr 44)), some (.inr (.inr 56)), some (.inl nd), some (.inl set), some (.inl 2), some (.inl (szf S T (S 0 0) (T 0 0) p 2 set)), some (.inl (-1)), none] [.inr (.inr 48), .inl (szf S T (S 0 0) (T 0 0) p 2 set)] h1
  refine E_s 1 (i' := 13) (ls' := [some (.inr (.inr 44)), some (.inr (.inr 56)), some (.inl nd), some (.inl set), some (.inl 2), some (.inl (szf S T (S 0 0) (T 0 0) p 2 set)), some (.inl (-1)), none]) (sk' := [.inl set, .inr (.inr 48), .inl (szf S T (S 0 0) (T 0 0) p 2 set)]) (h' := h1) rfl ?_
  refine E_ld (x := (.iaload, 0, [], [])) (ty := .int) (n := 4096) rfl rfl rfl (by omega) (by omega) ?_
  show xEx G0 cdX7_place none (xRn G0 MT (d + 5)) Q b 14 [some (.inr (.inr 44)), some (.inr (.inr 56)), some (.inl nd), some (.inl set), some (.inl 2), some (.inl (szf S T (S 0 0) (T 0 0) p 2 set)), some (.inl (-1)), none] [.inl (h1 48 set), .inl (szf S T (S 0 0) (T 0 0) p 2 set)] h1
  refine E_b (x := (.if_icmp .eq 21, 24, [], [])) rfl rfl (fun c14 => ?_) (fun c14 => ?_)
  · rw [c_eq (by first | (rw [f1 _ (by decide) (by decide), e48]; exact ⟨by omega, by omega⟩) | (rw [e48]; exact ⟨by omega, by omega⟩) | exact ⟨by omega, by omega⟩) (by first | (rw [f1 _ (by decide) (by decide), e48]; exact ⟨by omega, by omega⟩) | (rw [e48]; exact ⟨by omega, by omega⟩) | exact ⟨by omega, by omega⟩)] at c14
    simp only [decide_eq_true_eq, decide_eq_false_iff_not, Decidable.not_not] at c14
    show xEx G0 cdX7_place none (xRn G0 MT (d + 5)) Q b 24 [some (.inr (.inr 44)), some (.inr (.inr 56)), some (.inl nd), some (.inl set), some (.inl 2), some (.inl (szf S T (S 0 0) (T 0 0) p 2 set)), some (.inl (-1)), none] [] h1
    refine E_s 4 (i' := 28) (ls' := [some (.inr (.inr 44)), some (.inr (.inr 56)), some (.inl nd), some (.inl set), some (.inl 2), some (.inl (szf S T (S 0 0) (T 0 0) p 2 set)), some (.inl (-1)), none]) (sk' := [.inl (-1), .inl nd, .inr (.inr 57)]) (h' := h1) rfl ?_
    refine E_sd (x := (.iastore, 0, [], [])) (ty := .int) (n := 15) (y := (-1)) rfl rfl rfl (by omega) (by omega) (trivial) ?_
    show xEx G0 cdX7_place none (xRn G0 MT (d + 5)) Q b 29 [some (.inr (.inr 44)), some (.inr (.inr 56)), some (.inl nd), some (.inl set), some (.inl 2), some (.inl (szf S T (S 0 0) (T 0 0) p 2 set)), some (.inl (-1)), none] [] (xup h1 57 nd (-1))
    refine E_s 2 (i' := 31) (ls' := [some (.inr (.inr 44)), some (.inr (.inr 56)), some (.inl nd), some (.inl set), some (.inl 2), some (.inl (szf S T (S 0 0) (T 0 0) p 2 set)), some (.inl (-1)), none]) (sk' := [.inl (-1), .inl (-1)]) (h' := (xup h1 57 nd (-1))) rfl ?_
    refine E_b (x := (.if_icmp .ne 16, 41, [], [])) rfl rfl (fun c31 => ?_) (fun c31 => ?_)
    · show xEx G0 cdX7_place none (xRn G0 MT (d + 5)) Q b 41 [some (.inr (.inr 44)), some (.inr (.inr 56)), some (.inl nd), some (.inl set), some (.inl 2), some (.inl (szf S T (S 0 0) (T 0 0) p 2 set)), some (.inl (-1)), none] [] (xup h1 57 nd (-1))
      exact absurd c31 (by decide)
    · show xEx G0 cdX7_place none (xRn G0 MT (d + 5)) Q b 32 [some (.inr (.inr 44)), some (.inr (.inr 56)), some (.inl nd), some (.inl set), some (.inl 2), some (.inl (szf S T (S 0 0) (T 0 0) p 2 set)), some (.inl (-1)), none] [] (xup h1 57 nd (-1))
      have hz0 : szf S T (S 0 0) (T 0 0) p 2 set = sz0 S (S 0 0) p set := by rw [f1 _ (by decide) (by decide), e48] at c14; exact c14
      have hbt : (bti S T (S 0 0) (T 0 0) p 2 set) = -1 := by
        rcases bs with ⟨-, z9⟩ | ⟨z9, -⟩
        · exact z9
        · omega
      have l45 : h 45 set = lf S (S 0 0) p set := by
        rw [(hV.2.2.2.1 set hs).1, if_neg]
        intro z9
        have : sz0 S (S 0 0) p set = 1000000 := by unfold sz0; rw [if_pos z9]
        omega
      refine E_s 6 (i' := 38) (ls' := [some (.inr (.inr 44)), some (.inr (.inr 56)), some (.inl nd), some (.inl set), some (.inl 2), some (.inl (szf S T (S 0 0) (T 0 0) p 2 set)), some (.inl (-1)), none]) (sk' := [.inl set, .inr (.inr 45), .inl nd, .inr (.inr 58)]) (h' := (xup h1 57 nd (-1))) rfl ?_
      refine E_ld (x := (.iaload, 0, [], [])) (ty := .int) (n := 4096) rfl rfl rfl (by omega) (by omega) ?_
      show xEx G0 cdX7_place none (xRn G0 MT (d + 5)) Q b 39 [some (.inr (.inr 44)), some (.inr (.inr 56)), some (.inl nd), some (.inl set), some (.inl 2), some (.inl (szf S T (S 0 0) (T 0 0) p 2 set)), some (.inl (-1)), none] [.inl (h1 45 set), .inl nd, .inr (.inr 58)] (xup h1 57 nd (-1))
      refine E_sd (x := (.iastore, 0, [], [])) (ty := .int) (n := 15) (y := (h1 45 set)) rfl rfl rfl (by omega) (by omega) (trivial) ?_
      show xEx G0 cdX7_place none (xRn G0 MT (d + 5)) Q b 40 [some (.inr (.inr 44)), some (.inr (.inr 56)), some (.inl nd), some (.inl set), some (.inl 2), some (.inl (szf S T (S 0 0) (T 0 0) p 2 set)), some (.inl (-1)), none] [] (xup (xup h1 57 nd (-1)) 58 nd (h1 45 set))
      exact E_ret (x := (.return_, 0, [], [])) (v := none) rfl (trivial) (by
        have e45 : h1 45 set = lf S (S 0 0) p set := by rw [f1 _ (by decide) (by decide)]; exact l45
        refine hQ _ ⟨fun a z1 z2 z3 z4 => by rw [xup_o _ _ _ _ a z4, xup_o _ _ _ _ a z3]; exact f1 a z1 z2, fun j z => ?_⟩ m1 (TV_leaf (by omega) hnd hno hbt ?_ ?_ (fun j z => ?_))
        · have zj : j ≠ nd := fun y => z (by rw [y]; exact sb_s D nd)
          rw [xup_o _ _ _ _ _ (by decide), xup_j zj, xup_j zj, xup_o _ _ _ _ _ (by decide), f1 _ (by decide) (by decide), f1 _ (by decide) (by decide)]
          exact ⟨rfl, rfl⟩
        · rw [xup_o _ _ _ _ _ (by decide), xup_s]
        · rw [xup_s]; exact e45
        · rw [xup_o _ _ _ _ _ (by decide), xup_j z, xup_j z, xup_o _ _ _ _ _ (by decide), f1 _ (by decide) (by decide), f1 _ (by decide) (by decide)]
          exact ⟨rfl, rfl⟩)
  · rw [c_eq (by first | (rw [f1 _ (by decide) (by decide), e48]; exact ⟨by omega, by omega⟩) | (rw [e48]; exact ⟨by omega, by omega⟩) | exact ⟨by omega, by omega⟩) (by first | (rw [f1 _ (by decide) (by decide), e48]; exact ⟨by omega, by omega⟩) | (rw [e48]; exact ⟨by omega, by omega⟩) | exact ⟨by omega, by omega⟩)] at c14
    simp only [decide_eq_true_eq, decide_eq_false_iff_not, Decidable.not_not] at c14
    show xEx G0 cdX7_place none (xRn G0 MT (d + 5)) Q b 15 [some (.inr (.inr 44)), some (.inr (.inr 56)), some (.inl nd), some (.inl set), some (.inl 2), some (.inl (szf S T (S 0 0) (T 0 0) p 2 set)), some (.inl (-1)), none] [] h1
    have hlt : szf S T (S 0 0) (T 0 0) p 2 set < sz0 S (S 0 0) p set := by
      rw [f1 _ (by decide) (by decide), e48] at c14
      rcases bs with ⟨z9, -⟩ | ⟨z9, -⟩
      · exact absurd z9 c14
      · exact z9
    obtain ⟨bt0, bt1, be⟩ : 0 ≤ (bti S T (S 0 0) (T 0 0) p 2 set) ∧ (bti S T (S 0 0) (T 0 0) p 2 set) < T 0 0 ∧ szt T (szf S T (S 0 0) (T 0 0) p 1) set (bti S T (S 0 0) (T 0 0) p 2 set) = szf S T (S 0 0) (T 0 0) p 2 set := by
      rcases bs with ⟨z9, -⟩ | ⟨-, j, e, b1, b2, b3, b4, -⟩
      · omega
      · have e : j = 1 := by omega
        subst e
        exact ⟨b1, b2, b4⟩
    have hbt : (bti S T (S 0 0) (T 0 0) p 2 set) ≠ -1 := by omega
    have za := szf_r (p := p) hV.1 1 (xand set (T 6 (bti S T (S 0 0) (T 0 0) p 2 set)))
    have zb := szf_r (p := p) hV.1 1 (xxor set (xand set (T 6 (bti S T (S 0 0) (T 0 0) p 2 set))))
    have zt := (hV.1.2.2.2.2 _ bt0 bt1).1
    have be9 := be
    unfold szt at be9
    clear bs
    refine E_s 1 (i' := 16) (ls' := [some (.inr (.inr 44)), some (.inr (.inr 56)), some (.inl nd), some (.inl set), some (.inl 2), some (.inl (szf S T (S 0 0) (T 0 0) p 2 set)), some (.inl (-1)), none]) (sk' := [.inl nd]) (h' := h1) rfl ?_
    refine E_ci (x := (.invokestatic 112, 1, [(0, 46)], [])) (r := 1) (h' := h1) rfl rfl (Nat.le_of_ble_eq_true rfl) (c_mayAsk (d + 4) 0 h1 nd ⟨hnd, by omega⟩ ⟨rfl, rfl⟩) ?_
    show xEx G0 cdX7_place none (xRn G0 MT (d + 5)) Q b 17 [some (.inr (.inr 44)), some (.inr (.inr 56)), some (.inl nd), some (.inl set), some (.inl 2), some (.inl (szf S T (S 0 0) (T 0 0) p 2 set)), some (.inl (-1)), none] [.inl 1] h1
    refine E_b (x := (.ifCond .eq 14, 24, [], [])) rfl rfl (fun c17 => ?_) (fun c17 => ?_)
    · show xEx G0 cdX7_place none (xRn G0 MT (d + 5)) Q b 24 [some (.inr (.inr 44)), some (.inr (.inr 56)), some (.inl nd), some (.inl set), some (.inl 2), some (.inl (szf S T (S 0 0) (T 0 0) p 2 set)), some (.inl (-1)), none] [] h1
      exact absurd c17 (by decide)
    · show xEx G0 cdX7_place none (xRn G0 MT (d + 5)) Q b 18 [some (.inr (.inr 44)), some (.inr (.inr 56)), some (.inl nd), some (.inl set), some (.inl 2), some (.inl (szf S T (S 0 0) (T 0 0) p 2 set)), some (.inl (-1)), none] [] h1
      refine E_s 4 (i' := 22) (ls' := [some (.inr (.inr 44)), some (.inr (.inr 56)), some (.inl nd), some (.inl set), some (.inl 2), some (.inl (szf S T (S 0 0) (T 0 0) p 2 set)), some (.inl (-1)), none]) (sk' := [.inl 2, .inl set, .inl (szf S T (S 0 0) (T 0 0) p 2 set), .inr (.inr 44)]) (h' := h1) rfl ?_
      refine E_cp (x := (.invokevirtual 118, 3, [(5, 67)], [0])) (q := fun r h9 => r = (bti S T (S 0 0) (T 0 0) p 2 set) ∧ FZ h1 h9 ∧ SVM h9 S T p m) rfl rfl (Nat.le_of_ble_eq_true rfl) (c_fTW2 d 0 h1 S T p set m (SVF_z f1 hV) m1 hs hlt (fun h9 z1 z2 => ⟨_, rfl, rfl, z1, z2⟩)) (fun r2 h2 hq2 => ?_)
      obtain ⟨er2, f2, m2⟩ := hq2
      show xEx G0 cdX7_place none (xRn G0 MT (d + 5)) Q b 23 [some (.inr (.inr 44)), some (.inr (.inr 56)), some (.inl nd), some (.inl set), some (.inl 2), some (.inl (szf S T (S 0 0) (T 0 0) p 2 set)), some (.inl (-1)), none] [.inl r2] h2
      refine E_ti (y := (bti S T (S 0 0) (T 0 0) p 2 set)) (by rw [er2]) ?_
      refine E_s 5 (i' := 28) (ls' := [some (.inr (.inr 44)), some (.inr (.inr 56)), some (.inl nd), some (.inl set), some (.inl 2), some (.inl (szf S T (S 0 0) (T 0 0) p 2 set)), some (.inl (bti S T (S 0 0) (T 0 0) p 2 set)), none]) (sk' := [.inl (bti S T (S 0 0) (T 0 0) p 2 set), .inl nd, .inr (.inr 57)]) (h' := h2) rfl ?_
      refine E_sd (x := (.iastore, 0, [], [])) (ty := .int) (n := 15) (y := (bti S T (S 0 0) (T 0 0) p 2 set)) rfl rfl rfl (by omega) (by omega) (trivial) ?_
      show xEx G0 cdX7_place none (xRn G0 MT (d + 5)) Q b 29 [some (.inr (.inr 44)), some (.inr (.inr 56)), some (.inl nd), some (.inl set), some (.inl 2), some (.inl (szf S T (S 0 0) (T 0 0) p 2 set)), some (.inl (bti S T (S 0 0) (T 0 0) p 2 set)), none] [] (xup h2 57 nd (bti S T (S 0 0) (T 0 0) p 2 set))
      refine E_s 2 (i' := 31) (ls' := [some (.inr (.inr 44)), some (.inr (.inr 56)), some (.inl nd), some (.inl set), some (.inl 2), some (.inl (szf S T (S 0 0) (T 0 0) p 2 set)), some (.inl (bti S T (S 0 0) (T 0 0) p 2 set)), none]) (sk' := [.inl (-1), .inl (bti S T (S 0 0) (T 0 0) p 2 set)]) (h' := (xup h2 57 nd (bti S T (S 0 0) (T 0 0) p 2 set))) rfl ?_
      refine E_b (x := (.if_icmp .ne 16, 41, [], [])) rfl rfl (fun c31 => ?_) (fun c31 => ?_)
      · rw [c_ne (by first | assumption | (refine ⟨?_, ?_⟩ <;> omega) | (simp only [xr] at *; omega)) (by first | assumption | (refine ⟨?_, ?_⟩ <;> omega) | (simp only [xr] at *; omega))] at c31
        simp only [decide_eq_true_eq, decide_eq_false_iff_not, Decidable.not_not] at c31
        show xEx G0 cdX7_place none (xRn G0 MT (d + 5)) Q b 41 [some (.inr (.inr 44)), some (.inr (.inr 56)), some (.inl nd), some (.inl set), some (.inl 2), some (.inl (szf S T (S 0 0) (T 0 0) p 2 set)), some (.inl (bti S T (S 0 0) (T 0 0) p 2 set)), none] [] (xup h2 57 nd (bti S T (S 0 0) (T 0 0) p 2 set))
        refine E_s 5 (i' := 46) (ls' := [some (.inr (.inr 44)), some (.inr (.inr 56)), some (.inl nd), some (.inl set), some (.inl 2), some (.inl (szf S T (S 0 0) (T 0 0) p 2 set)), some (.inl (bti S T (S 0 0) (T 0 0) p 2 set)), none]) (sk' := [.inl (bti S T (S 0 0) (T 0 0) p 2 set), .inr (.inr 39), .inl set]) (h' := (xup h2 57 nd (bti S T (S 0 0) (T 0 0) p 2 set))) rfl ?_
        refine E_ld (x := (.iaload, 0, [], [])) (ty := .int) (n := 150) rfl rfl rfl (by omega) (by omega) ?_
        show xEx G0 cdX7_place none (xRn G0 MT (d + 5)) Q b 47 [some (.inr (.inr 44)), some (.inr (.inr 56)), some (.inl nd), some (.inl set), some (.inl 2), some (.inl (szf S T (S 0 0) (T 0 0) p 2 set)), some (.inl (bti S T (S 0 0) (T 0 0) p 2 set)), none] [.inl (h2 39 (bti S T (S 0 0) (T 0 0) p 2 set)), .inl set] (xup h2 57 nd (bti S T (S 0 0) (T 0 0) p 2 set))
        refine E_s 6 (i' := 53) (ls' := [some (.inr (.inr 44)), some (.inr (.inr 56)), some (.inl nd), some (.inl set), some (.inl 2), some (.inl (szf S T (S 0 0) (T 0 0) p 2 set)), some (.inl (bti S T (S 0 0) (T 0 0) p 2 set)), some (.inl (xand set (h2 39 (bti S T (S 0 0) (T 0 0) p 2 set))))]) (sk' := [.inl 1, .inl nd, .inr (.inr 56), .inr (.inr 44)]) (h' := (xup h2 57 nd (bti S T (S 0 0) (T 0 0) p 2 set))) rfl ?_
        refine E_ci (x := (.invokestatic 127, 2, [(0, 45)], [])) (r := (2 * nd + 1)) (h' := (xup h2 57 nd (bti S T (S 0 0) (T 0 0) p 2 set))) rfl rfl (Nat.le_of_ble_eq_true rfl) (c_nb1 (d + 4) 0 (xup h2 57 nd (bti S T (S 0 0) (T 0 0) p 2 set)) nd ⟨rfl, rfl⟩) ?_
        show xEx G0 cdX7_place none (xRn G0 MT (d + 5)) Q b 54 [some (.inr (.inr 44)), some (.inr (.inr 56)), some (.inl nd), some (.inl set), some (.inl 2), some (.inl (szf S T (S 0 0) (T 0 0) p 2 set)), some (.inl (bti S T (S 0 0) (T 0 0) p 2 set)), some (.inl (xand set (h2 39 (bti S T (S 0 0) (T 0 0) p 2 set))))] [.inl (2 * nd + 1), .inr (.inr 56), .inr (.inr 44)] (xup h2 57 nd (bti S T (S 0 0) (T 0 0) p 2 set))
        refine E_s 4 (i' := 58) (ls' := [some (.inr (.inr 44)), some (.inr (.inr 56)), some (.inl nd), some (.inl set), some (.inl 2), some (.inl (szf S T (S 0 0) (T 0 0) p 2 set)), some (.inl (bti S T (S 0 0) (T 0 0) p 2 set)), some (.inl (xand set (h2 39 (bti S T (S 0 0) (T 0 0) p 2 set))))]) (sk' := [.inl 1, .inl (xand set (h2 39 (bti S T (S 0 0) (T 0 0) p 2 set))), .inl (2 * nd + 1), .inr (.inr 56), .inr (.inr 44)]) (h' := (xup h2 57 nd (bti S T (S 0 0) (T 0 0) p 2 set))) rfl ?_
        have v2 : SVF h2 S T p m := SVF_z (f1.tr f2) hV
        have w1 : SVF (xup h2 57 nd (bti S T (S 0 0) (T 0 0) p 2 set)) S T p m := by exact v2
        have w2 : SVM (xup h2 57 nd (bti S T (S 0 0) (T 0 0) p 2 set)) S T p m := m2
        have t6 : (xup h2 57 nd (bti S T (S 0 0) (T 0 0) p 2 set)) 39 (bti S T (S 0 0) (T 0 0) p 2 set) = T 6 (bti S T (S 0 0) (T 0 0) p 2 set) := (w1.2.1 _ bt0 bt1).2
        have o6 := (hV.1.2.2.2.2 _ bt0 bt1).2.1
        have i1 : ir m (xand set ((xup h2 57 nd (bti S T (S 0 0) (T 0 0) p 2 set)) 39 (bti S T (S 0 0) (T 0 0) p 2 set))) := by rw [t6]; exact xa_r hV.1.1 hs o6
        have i2 : ir m (xxor set (xand set ((xup h2 57 nd (bti S T (S 0 0) (T 0 0) p 2 set)) 39 (bti S T (S 0 0) (T 0 0) p 2 set)))) := xx_r hV.1.1 hs i1
        have g2 : ∀ a, a ≠ 49 → a ≠ 50 → h2 a = h a := fun a z1 z2 => (f1.tr f2) a z1 z2
        have nA : ∀ j, j ≠ nd → (xup h2 57 nd (bti S T (S 0 0) (T 0 0) p 2 set)) 57 j = h 57 j := fun j z => by rw [xup_j z, g2 _ (by decide) (by decide)]
        have nB : (xup h2 57 nd (bti S T (S 0 0) (T 0 0) p 2 set)) 58 = h 58 := by rw [xup_o _ _ _ _ _ (by decide), g2 _ (by decide) (by decide)]
        obtain ⟨D, rfl⟩ : ∃ D', D = D' + 1 := ⟨D - 1, by omega⟩
        have no1 : NO ((xup h2 57 nd (bti S T (S 0 0) (T 0 0) p 2 set)) 57) ((xup h2 57 nd (bti S T (S 0 0) (T 0 0) p 2 set)) 58) D (2 * nd + 1) := NO_fr D _ (fun j z => ⟨nA j ((sb_d (by omega) hnd).1 z).2, by rw [nB]⟩) hno.2.1
        have no2 : NO ((xup h2 57 nd (bti S T (S 0 0) (T 0 0) p 2 set)) 57) ((xup h2 57 nd (bti S T (S 0 0) (T 0 0) p 2 set)) 58) D (2 * nd + 2) := NO_fr D _ (fun j z => ⟨nA j ((sb_d (by omega) hnd).2 z), by rw [nB]⟩) hno.2.2
        refine E_cv (x := (.invokevirtual 131, 4, [(5, 66)], [0])) (q := fun h9 => FP 57 58 D (2 * nd + 1) (xup h2 57 nd (bti S T (S 0 0) (T 0 0) p 2 set)) h9 ∧ SVM h9 S T p m ∧ TV S T (S 0 0) (T 0 0) p (h9 57) (h9 58) D 1 (2 * nd + 1) (xand set ((xup h2 57 nd (bti S T (S 0 0) (T 0 0) p 2 set)) 39 (bti S T (S 0 0) (T 0 0) p 2 set)))) rfl rfl (Nat.le_of_ble_eq_true rfl) (c_pl_pr1 (d + 1) 0 (xup h2 57 nd (bti S T (S 0 0) (T 0 0) p 2 set)) S T p (xand set ((xup h2 57 nd (bti S T (S 0 0) (T 0 0) p 2 set)) 39 (bti S T (S 0 0) (T 0 0) p 2 set))) m D (2 * nd + 1) w1 w2 i1 (by omega) (by rw [t6]; omega) (by omega) (by omega) no1 (fun h9 z1 z2 z3 => ⟨rfl, z1, z2, z3⟩)) (fun h3 hq3 => ?_)
        obtain ⟨f3, m3, t3⟩ := hq3
        show xEx G0 cdX7_place none (xRn G0 MT (d + 5)) Q b 59 [some (.inr (.inr 44)), some (.inr (.inr 56)), some (.inl nd), some (.inl set), some (.inl 2), some (.inl (szf S T (S 0 0) (T 0 0) p 2 set)), some (.inl (bti S T (S 0 0) (T 0 0) p 2 set)), some (.inl (xand set (h2 39 (bti S T (S 0 0) (T 0 0) p 2 set))))] [] h3
        refine E_s 4 (i' := 63) (ls' := [some (.inr (.inr 44)), some (.inr (.inr 56)), some (.inl nd), some (.inl set), some (.inl 2), some (.inl (szf S T (S 0 0) (T 0 0) p 2 set)), some (.inl (bti S T (S 0 0) (T 0 0) p 2 set)), some (.inl (xand set (h2 39 (bti S T (S 0 0) (T 0 0) p 2 set))))]) (sk' := [.inl 0, .inl nd, .inr (.inr 56), .inr (.inr 44)]) (h' := h3) rfl ?_
        refine E_ci (x := (.invokestatic 127, 2, [(0, 45)], [])) (r := (2 * nd + 2)) (h' := h3) rfl rfl (Nat.le_of_ble_eq_true rfl) (c_nb0 (d + 4) 0 h3 nd ⟨rfl, rfl⟩) ?_
        show xEx G0 cdX7_place none (xRn G0 MT (d + 5)) Q b 64 [some (.inr (.inr 44)), some (.inr (.inr 56)), some (.inl nd), some (.inl set), some (.inl 2), some (.inl (szf S T (S 0 0) (T 0 0) p 2 set)), some (.inl (bti S T (S 0 0) (T 0 0) p 2 set)), some (.inl (xand set (h2 39 (bti S T (S 0 0) (T 0 0) p 2 set))))] [.inl (2 * nd + 2), .inr (.inr 56), .inr (.inr 44)] h3
        refine E_s 6 (i' := 70) (ls' := [some (.inr (.inr 44)), some (.inr (.inr 56)), some (.inl nd), some (.inl set), some (.inl 2), some (.inl (szf S T (S 0 0) (T 0 0) p 2 set)), some (.inl (bti S T (S 0 0) (T 0 0) p 2 set)), some (.inl (xand set (h2 39 (bti S T (S 0 0) (T 0 0) p 2 set))))]) (sk' := [.inl 1, .inl (xxor set (xand set (h2 39 (bti S T (S 0 0) (T 0 0) p 2 set)))), .inl (2 * nd + 2), .inr (.inr 56), .inr (.inr 44)]) (h' := h3) rfl ?_
        have no3 : NO (h3 57) (h3 58) D (2 * nd + 2) := NO_fr D _ (fun j z => f3.2 j (fun y => ((sb_d (by omega) hnd).1 y).1 z)) no2
        refine E_cv (x := (.invokevirtual 131, 4, [(5, 66)], [0])) (q := fun h9 => FP 57 58 D (2 * nd + 2) (h3) h9 ∧ SVM h9 S T p m ∧ TV S T (S 0 0) (T 0 0) p (h9 57) (h9 58) D 1 (2 * nd + 2) (xxor set (xand set ((xup h2 57 nd (bti S T (S 0 0) (T 0 0) p 2 set)) 39 (bti S T (S 0 0) (T 0 0) p 2 set))))) rfl rfl (Nat.le_of_ble_eq_true rfl) (c_pl_pr1 (d + 1) 0 h3 S T p (xxor set (xand set ((xup h2 57 nd (bti S T (S 0 0) (T 0 0) p 2 set)) 39 (bti S T (S 0 0) (T 0 0) p 2 set)))) m D (2 * nd + 2) (SVF_p (by decide) f3 w1) m3 i2 (by omega) (by rw [t6]; omega) (by omega) (by omega) no3 (fun h9 z1 z2 z3 => ⟨rfl, z1, z2, z3⟩)) (fun h4 hq4 => ?_)
        obtain ⟨f4, m4, t4⟩ := hq4
        show xEx G0 cdX7_place none (xRn G0 MT (d + 5)) Q b 71 [some (.inr (.inr 44)), some (.inr (.inr 56)), some (.inl nd), some (.inl set), some (.inl 2), some (.inl (szf S T (S 0 0) (T 0 0) p 2 set)), some (.inl (bti S T (S 0 0) (T 0 0) p 2 set)), some (.inl (xand set (h2 39 (bti S T (S 0 0) (T 0 0) p 2 set))))] [] h4
        exact E_ret (x := (.return_, 0, [], [])) (v := none) rfl (trivial) (by
          rw [t6] at t3 t4
          refine hQ _ ⟨fun a z1 z2 z3 z4 => by rw [f4.1 a z1 z2 z3 z4, f3.1 a z1 z2 z3 z4, xup_o _ _ _ _ a z3]; exact g2 a z1 z2, fun j z => ?_⟩ m4 (TV_node (by omega) hnd hbt ?_ ?_ f3.2 t3 f4.2 t4)
          · have zj : j ≠ nd := fun y => z (Or.inl y)
            obtain ⟨x1, x2⟩ := f4.2 j (fun y => z (Or.inr (Or.inr y)))
            obtain ⟨x3, x4⟩ := f3.2 j (fun y => z (Or.inr (Or.inl y)))
            rw [x1, x2, x3, x4, nA j zj, nB]
            exact ⟨rfl, rfl⟩
          · rw [xup_s]
          · rw [nB]; exact hno.1.2)
      · rw [c_ne (by first | assumption | (refine ⟨?_, ?_⟩ <;> omega) | (simp only [xr] at *; omega)) (by first | assumption | (refine ⟨?_, ?_⟩ <;> omega) | (simp only [xr] at *; omega))] at c31
        simp only [decide_eq_true_eq, decide_eq_false_iff_not, Decidable.not_not] at c31
        show xEx G0 cdX7_place none (xRn G0 MT (d + 5)) Q b 32 [some (.inr (.inr 44)), some (.inr (.inr 56)), some (.inl nd), some (.inl set), some (.inl 2), some (.inl (szf S T (S 0 0) (T 0 0) p 2 set)), some (.inl (bti S T (S 0 0) (T 0 0) p 2 set)), none] [] (xup h2 57 nd (bti S T (S 0 0) (T 0 0) p 2 set))
        exact absurd c31 hbt
set_option maxHeartbeats 1000000 in
theorem c_pl_pr3 (d b : Nat) (h S T : xH) (p set : Int) (m D : Nat) (nd : Int) (hV : SVF h S T p m) (hM : SVM h S T p m) (hs : ir m set) (hi : 3 ≤ D) (hz : szf S T (S 0 0) (T 0 0) p 3 set < 1000000) (hD : (D = 3 ∧ nd = 0) ∨ (D = 2 ∧ nd ≤ 2) ∨ (D = 1 ∧ nd ≤ 6) ∨ (D = 0 ∧ nd ≤ 14)) (hnd : 0 ≤ nd) (hno : NO (h 57) (h 58) D nd) {Q : xO → xH → Prop} (hQ : ∀ h', FP 57 58 D nd h h' → SVM h' S T p m → TV S T (S 0 0) (T 0 0) p (h' 57) (h' 58) D 3 nd set → Q (.inl none) h') : xRn G0 MT (d + 8) b 66 [.inr (.inr 44), .inr (.inr 56), .inl nd, .inl set, .inl 3] h Q := by
  refine R_of (M := mX7_place) rfl (Nat.le_of_ble_eq_true rfl) ?_
  show xEx G0 cdX7_place none (xRn G0 MT (d + 7)) Q b 0 [some (.inr (.inr 44)), some (.inr (.inr 56)), some (.inl nd), some (.inl set), some (.inl 3), none, none, none] [] h
  have r4 := ir4 hV.1.1 hs
  have e48 : h 48 set = sz0 S (S 0 0) p set := (hV.2.2.2.1 set hs).2
  have uk := hV.1.2.2.1
  have zr := szf_r (p := p) hV.1 3 set
  have z0 := sz0_r (p := p) hV.1 set
  have bs := bti_spec (S := S) (T := T) (KE := S 0 0) (KT := T 0 0) (p := p) uk.1 3 set
  refine E_s 3 (i' := 3) (ls' := [some (.inr (.inr 44)), some (.inr (.inr 56)), some (.inl nd), some (.inl set), some (.inl 3), none, none, none]) (sk' := [.inl 3, .inl set, .inr (.inr 44)]) (h' := h) rfl ?_
  refine E_cp (x := (.invokevirtual 99, 2, [(5, 63)], [0])) (q := fun r h9 => r = szf S T (S 0 0) (T 0 0) p 3 set ∧ FZ h h9 ∧ SVM h9 S T p m) rfl rfl (Nat.le_of_ble_eq_true rfl) (c_szO3 d 0 h S T p set m hV hM hs (fun h9 z1 z2 => ⟨_, rfl, rfl, z1, z2⟩)) (fun r1 h1 hq1 => ?_)
  obtain ⟨er1, f1, m1⟩ := hq1
  show xEx G0 cdX7_place none (xRn G0 MT (d + 7)) Q b 4 [some (.inr (.inr 44)), some (.inr (.inr 56)), some (.inl nd), some (.inl set), some (.inl 3), none, none, none] [.inl r1] h1
  refine E_ti (y := (szf S T (S 0 0) (T 0 0) p 3 set)) (by rw [er1]) ?_
  refine E_s 7 (i' := 11) (ls' := [some (.inr (.inr 44)), some (.inr (.inr 56)), some (.inl nd), some (.inl set), some (.inl 3), some (.inl (szf S T (S 0 0) (T 0 0) p 3 set)), some (.inl (-1)), none]) (sk' := [.inl 0, .inr (.inr 46), .inl (szf S T (S 0 0) (T 0 0) p 3 set)]) (h' := h1) rfl ?_
  refine E_ald (x := (.aaload, 0, [], [])) 0 rfl rfl rfl (rfl) rfl ?_
  show xEx G0 cdX7_place none (xRn G0 MT (d + 7)) Q b 12 [some (.inr (.inr 44)), some (.inr (.inr 56)), some (.inl nd), some (.inl set), some (.inl 3), some (.inl (szf S T (S 0 0) (T 0 0) p 3 set)), some (.inl (-1)), none] [.inr (.inr 48), .inl (szf S T (S 0 0) (T 0 0) p 3 set)] h1
  refine E_s 1 (i' := 13) (ls' := [some (.inr (.inr 44)), some (.inr (.inr 56)), some (.inl nd), some (.inl set), some (.inl 3), some (.inl (szf S T (S 0 0) (T 0 0) p 3 set)), some (.inl (-1)), none]) (sk' := [.inl set, .inr (.inr 48), .inl (szf S T (S 0 0) (T 0 0) p 3 set)]) (h' := h1) rfl ?_
  refine E_ld (x := (.iaload, 0, [], [])) (ty := .int) (n := 4096) rfl rfl rfl (by omega) (by omega) ?_
  show xEx G0 cdX7_place none (xRn G0 MT (d + 7)) Q b 14 [some (.inr (.inr 44)), some (.inr (.inr 56)), some (.inl nd), some (.inl set), some (.inl 3), some (.inl (szf S T (S 0 0) (T 0 0) p 3 set)), some (.inl (-1)), none] [.inl (h1 48 set), .inl (szf S T (S 0 0) (T 0 0) p 3 set)] h1
  refine E_b (x := (.if_icmp .eq 21, 24, [], [])) rfl rfl (fun c14 => ?_) (fun c14 => ?_)
  · rw [c_eq (by first | (rw [f1 _ (by decide) (by decide), e48]; exact ⟨by omega, by omega⟩) | (rw [e48]; exact ⟨by omega, by omega⟩) | exact ⟨by omega, by omega⟩) (by first | (rw [f1 _ (by decide) (by decide), e48]; exact ⟨by omega, by omega⟩) | (rw [e48]; exact ⟨by omega, by omega⟩) | exact ⟨by omega, by omega⟩)] at c14
    simp only [decide_eq_true_eq, decide_eq_false_iff_not, Decidable.not_not] at c14
    show xEx G0 cdX7_place none (xRn G0 MT (d + 7)) Q b 24 [some (.inr (.inr 44)), some (.inr (.inr 56)), some (.inl nd), some (.inl set), some (.inl 3), some (.inl (szf S T (S 0 0) (T 0 0) p 3 set)), some (.inl (-1)), none] [] h1
    refine E_s 4 (i' := 28) (ls' := [some (.inr (.inr 44)), some (.inr (.inr 56)), some (.inl nd), some (.inl set), some (.inl 3), some (.inl (szf S T (S 0 0) (T 0 0) p 3 set)), some (.inl (-1)), none]) (sk' := [.inl (-1), .inl nd, .inr (.inr 57)]) (h' := h1) rfl ?_
    refine E_sd (x := (.iastore, 0, [], [])) (ty := .int) (n := 15) (y := (-1)) rfl rfl rfl (by omega) (by omega) (trivial) ?_
    show xEx G0 cdX7_place none (xRn G0 MT (d + 7)) Q b 29 [some (.inr (.inr 44)), some (.inr (.inr 56)), some (.inl nd), some (.inl set), some (.inl 3), some (.inl (szf S T (S 0 0) (T 0 0) p 3 set)), some (.inl (-1)), none] [] (xup h1 57 nd (-1))
    refine E_s 2 (i' := 31) (ls' := [some (.inr (.inr 44)), some (.inr (.inr 56)), some (.inl nd), some (.inl set), some (.inl 3), some (.inl (szf S T (S 0 0) (T 0 0) p 3 set)), some (.inl (-1)), none]) (sk' := [.inl (-1), .inl (-1)]) (h' := (xup h1 57 nd (-1))) rfl ?_
    refine E_b (x := (.if_icmp .ne 16, 41, [], [])) rfl rfl (fun c31 => ?_) (fun c31 => ?_)
    · show xEx G0 cdX7_place none (xRn G0 MT (d + 7)) Q b 41 [some (.inr (.inr 44)), some (.inr (.inr 56)), some (.inl nd), some (.inl set), some (.inl 3), some (.inl (szf S T (S 0 0) (T 0 0) p 3 set)), some (.inl (-1)), none] [] (xup h1 57 nd (-1))
      exact absurd c31 (by decide)
    · show xEx G0 cdX7_place none (xRn G0 MT (d + 7)) Q b 32 [some (.inr (.inr 44)), some (.inr (.inr 56)), some (.inl nd), some (.inl set), some (.inl 3), some (.inl (szf S T (S 0 0) (T 0 0) p 3 set)), some (.inl (-1)), none] [] (xup h1 57 nd (-1))
      have hz0 : szf S T (S 0 0) (T 0 0) p 3 set = sz0 S (S 0 0) p set := by rw [f1 _ (by decide) (by decide), e48] at c14; exact c14
      have hbt : (bti S T (S 0 0) (T 0 0) p 3 set) = -1 := by
        rcases bs with ⟨-, z9⟩ | ⟨z9, -⟩
        · exact z9
        · omega
      have l45 : h 45 set = lf S (S 0 0) p set := by
        rw [(hV.2.2.2.1 set hs).1, if_neg]
        intro z9
        have : sz0 S (S 0 0) p set = 1000000 := by unfold sz0; rw [if_pos z9]
        omega
      refine E_s 6 (i' := 38) (ls' := [some (.inr (.inr 44)), some (.inr (.inr 56)), some (.inl nd), some (.inl set), some (.inl 3), some (.inl (szf S T (S 0 0) (T 0 0) p 3 set)), some (.inl (-1)), none]) (sk' := [.inl set, .inr (.inr 45), .inl nd, .inr (.inr 58)]) (h' := (xup h1 57 nd (-1))) rfl ?_
      refine E_ld (x := (.iaload, 0, [], [])) (ty := .int) (n := 4096) rfl rfl rfl (by omega) (by omega) ?_
      show xEx G0 cdX7_place none (xRn G0 MT (d + 7)) Q b 39 [some (.inr (.inr 44)), some (.inr (.inr 56)), some (.inl nd), some (.inl set), some (.inl 3), some (.inl (szf S T (S 0 0) (T 0 0) p 3 set)), some (.inl (-1)), none] [.inl (h1 45 set), .inl nd, .inr (.inr 58)] (xup h1 57 nd (-1))
      refine E_sd (x := (.iastore, 0, [], [])) (ty := .int) (n := 15) (y := (h1 45 set)) rfl rfl rfl (by omega) (by omega) (trivial) ?_
      show xEx G0 cdX7_place none (xRn G0 MT (d + 7)) Q b 40 [some (.inr (.inr 44)), some (.inr (.inr 56)), some (.inl nd), some (.inl set), some (.inl 3), some (.inl (szf S T (S 0 0) (T 0 0) p 3 set)), some (.inl (-1)), none] [] (xup (xup h1 57 nd (-1)) 58 nd (h1 45 set))
      exact E_ret (x := (.return_, 0, [], [])) (v := none) rfl (trivial) (by
        have e45 : h1 45 set = lf S (S 0 0) p set := by rw [f1 _ (by decide) (by decide)]; exact l45
        refine hQ _ ⟨fun a z1 z2 z3 z4 => by rw [xup_o _ _ _ _ a z4, xup_o _ _ _ _ a z3]; exact f1 a z1 z2, fun j z => ?_⟩ m1 (TV_leaf (by omega) hnd hno hbt ?_ ?_ (fun j z => ?_))
        · have zj : j ≠ nd := fun y => z (by rw [y]; exact sb_s D nd)
          rw [xup_o _ _ _ _ _ (by decide), xup_j zj, xup_j zj, xup_o _ _ _ _ _ (by decide), f1 _ (by decide) (by decide), f1 _ (by decide) (by decide)]
          exact ⟨rfl, rfl⟩
        · rw [xup_o _ _ _ _ _ (by decide), xup_s]
        · rw [xup_s]; exact e45
        · rw [xup_o _ _ _ _ _ (by decide), xup_j z, xup_j z, xup_o _ _ _ _ _ (by decide), f1 _ (by decide) (by decide), f1 _ (by decide) (by decide)]
          exact ⟨rfl, rfl⟩)
  · rw [c_eq (by first | (rw [f1 _ (by decide) (by decide), e48]; exact ⟨by omega, by omega⟩) | (rw [e48]; exact ⟨by omega, by omega⟩) | exact ⟨by omega, by omega⟩) (by first | (rw [f1 _ (by decide) (by decide), e48]; exact ⟨by omega, by omega⟩) | (rw [e48]; exact ⟨by omega, by omega⟩) | exact ⟨by omega, by omega⟩)] at c14
    simp only [decide_eq_true_eq, decide_eq_false_iff_not, Decidable.not_not] at c14
    show xEx G0 cdX7_place none (xRn G0 MT (d + 7)) Q b 15 [some (.inr (.inr 44)), some (.inr (.inr 56)), some (.inl nd), some (.inl set), some (.inl 3), some (.inl (szf S T (S 0 0) (T 0 0) p 3 set)), some (.inl (-1)), none] [] h1
    have hlt : szf S T (S 0 0) (T 0 0) p 3 set < sz0 S (S 0 0) p set := by
      rw [f1 _ (by decide) (by decide), e48] at c14
      rcases bs with ⟨z9, -⟩ | ⟨z9, -⟩
      · exact absurd z9 c14
      · exact z9
    obtain ⟨bt0, bt1, be⟩ : 0 ≤ (bti S T (S 0 0) (T 0 0) p 3 set) ∧ (bti S T (S 0 0) (T 0 0) p 3 set) < T 0 0 ∧ szt T (szf S T (S 0 0) (T 0 0) p 2) set (bti S T (S 0 0) (T 0 0) p 3 set) = szf S T (S 0 0) (T 0 0) p 3 set := by
      rcases bs with ⟨z9, -⟩ | ⟨-, j, e, b1, b2, b3, b4, -⟩
      · omega
      · have e : j = 2 := by omega
        subst e
        exact ⟨b1, b2, b4⟩
    have hbt : (bti S T (S 0 0) (T 0 0) p 3 set) ≠ -1 := by omega
    have za := szf_r (p := p) hV.1 2 (xand set (T 6 (bti S T (S 0 0) (T 0 0) p 3 set)))
    have zb := szf_r (p := p) hV.1 2 (xxor set (xand set (T 6 (bti S T (S 0 0) (T 0 0) p 3 set))))
    have zt := (hV.1.2.2.2.2 _ bt0 bt1).1
    have be9 := be
    unfold szt at be9
    clear bs
    refine E_s 1 (i' := 16) (ls' := [some (.inr (.inr 44)), some (.inr (.inr 56)), some (.inl nd), some (.inl set), some (.inl 3), some (.inl (szf S T (S 0 0) (T 0 0) p 3 set)), some (.inl (-1)), none]) (sk' := [.inl nd]) (h' := h1) rfl ?_
    refine E_ci (x := (.invokestatic 112, 1, [(0, 46)], [])) (r := 1) (h' := h1) rfl rfl (Nat.le_of_ble_eq_true rfl) (c_mayAsk (d + 6) 0 h1 nd ⟨hnd, by omega⟩ ⟨rfl, rfl⟩) ?_
    show xEx G0 cdX7_place none (xRn G0 MT (d + 7)) Q b 17 [some (.inr (.inr 44)), some (.inr (.inr 56)), some (.inl nd), some (.inl set), some (.inl 3), some (.inl (szf S T (S 0 0) (T 0 0) p 3 set)), some (.inl (-1)), none] [.inl 1] h1
    refine E_b (x := (.ifCond .eq 14, 24, [], [])) rfl rfl (fun c17 => ?_) (fun c17 => ?_)
    · show xEx G0 cdX7_place none (xRn G0 MT (d + 7)) Q b 24 [some (.inr (.inr 44)), some (.inr (.inr 56)), some (.inl nd), some (.inl set), some (.inl 3), some (.inl (szf S T (S 0 0) (T 0 0) p 3 set)), some (.inl (-1)), none] [] h1
      exact absurd c17 (by decide)
    · show xEx G0 cdX7_place none (xRn G0 MT (d + 7)) Q b 18 [some (.inr (.inr 44)), some (.inr (.inr 56)), some (.inl nd), some (.inl set), some (.inl 3), some (.inl (szf S T (S 0 0) (T 0 0) p 3 set)), some (.inl (-1)), none] [] h1
      refine E_s 4 (i' := 22) (ls' := [some (.inr (.inr 44)), some (.inr (.inr 56)), some (.inl nd), some (.inl set), some (.inl 3), some (.inl (szf S T (S 0 0) (T 0 0) p 3 set)), some (.inl (-1)), none]) (sk' := [.inl 3, .inl set, .inl (szf S T (S 0 0) (T 0 0) p 3 set), .inr (.inr 44)]) (h' := h1) rfl ?_
      refine E_cp (x := (.invokevirtual 118, 3, [(5, 67)], [0])) (q := fun r h9 => r = (bti S T (S 0 0) (T 0 0) p 3 set) ∧ FZ h1 h9 ∧ SVM h9 S T p m) rfl rfl (Nat.le_of_ble_eq_true rfl) (c_fTW3 d 0 h1 S T p set m (SVF_z f1 hV) m1 hs hlt (fun h9 z1 z2 => ⟨_, rfl, rfl, z1, z2⟩)) (fun r2 h2 hq2 => ?_)
      obtain ⟨er2, f2, m2⟩ := hq2
      show xEx G0 cdX7_place none (xRn G0 MT (d + 7)) Q b 23 [some (.inr (.inr 44)), some (.inr (.inr 56)), some (.inl nd), some (.inl set), some (.inl 3), some (.inl (szf S T (S 0 0) (T 0 0) p 3 set)), some (.inl (-1)), none] [.inl r2] h2
      refine E_ti (y := (bti S T (S 0 0) (T 0 0) p 3 set)) (by rw [er2]) ?_
      refine E_s 5 (i' := 28) (ls' := [some (.inr (.inr 44)), some (.inr (.inr 56)), some (.inl nd), some (.inl set), some (.inl 3), some (.inl (szf S T (S 0 0) (T 0 0) p 3 set)), some (.inl (bti S T (S 0 0) (T 0 0) p 3 set)), none]) (sk' := [.inl (bti S T (S 0 0) (T 0 0) p 3 set), .inl nd, .inr (.inr 57)]) (h' := h2) rfl ?_
      refine E_sd (x := (.iastore, 0, [], [])) (ty := .int) (n := 15) (y := (bti S T (S 0 0) (T 0 0) p 3 set)) rfl rfl rfl (by omega) (by omega) (trivial) ?_
      show xEx G0 cdX7_place none (xRn G0 MT (d + 7)) Q b 29 [some (.inr (.inr 44)), some (.inr (.inr 56)), some (.inl nd), some (.inl set), some (.inl 3), some (.inl (szf S T (S 0 0) (T 0 0) p 3 set)), some (.inl (bti S T (S 0 0) (T 0 0) p 3 set)), none] [] (xup h2 57 nd (bti S T (S 0 0) (T 0 0) p 3 set))
      refine E_s 2 (i' := 31) (ls' := [some (.inr (.inr 44)), some (.inr (.inr 56)), some (.inl nd), some (.inl set), some (.inl 3), some (.inl (szf S T (S 0 0) (T 0 0) p 3 set)), some (.inl (bti S T (S 0 0) (T 0 0) p 3 set)), none]) (sk' := [.inl (-1), .inl (bti S T (S 0 0) (T 0 0) p 3 set)]) (h' := (xup h2 57 nd (bti S T (S 0 0) (T 0 0) p 3 set))) rfl ?_
      refine E_b (x := (.if_icmp .ne 16, 41, [], [])) rfl rfl (fun c31 => ?_) (fun c31 => ?_)
      · rw [c_ne (by first | assumption | (refine ⟨?_, ?_⟩ <;> omega) | (simp only [xr] at *; omega)) (by first | assumption | (refine ⟨?_, ?_⟩ <;> omega) | (simp only [xr] at *; omega))] at c31
        simp only [decide_eq_true_eq, decide_eq_false_iff_not, Decidable.not_not] at c31
        show xEx G0 cdX7_place none (xRn G0 MT (d + 7)) Q b 41 [some (.inr (.inr 44)), some (.inr (.inr 56)), some (.inl nd), some (.inl set), some (.inl 3), some (.inl (szf S T (S 0 0) (T 0 0) p 3 set)), some (.inl (bti S T (S 0 0) (T 0 0) p 3 set)), none] [] (xup h2 57 nd (bti S T (S 0 0) (T 0 0) p 3 set))
        refine E_s 5 (i' := 46) (ls' := [some (.inr (.inr 44)), some (.inr (.inr 56)), some (.inl nd), some (.inl set), some (.inl 3), some (.inl (szf S T (S 0 0) (T 0 0) p 3 set)), some (.inl (bti S T (S 0 0) (T 0 0) p 3 set)), none]) (sk' := [.inl (bti S T (S 0 0) (T 0 0) p 3 set), .inr (.inr 39), .inl set]) (h' := (xup h2 57 nd (bti S T (S 0 0) (T 0 0) p 3 set))) rfl ?_
        refine E_ld (x := (.iaload, 0, [], [])) (ty := .int) (n := 150) rfl rfl rfl (by omega) (by omega) ?_
        show xEx G0 cdX7_place none (xRn G0 MT (d + 7)) Q b 47 [some (.inr (.inr 44)), some (.inr (.inr 56)), some (.inl nd), some (.inl set), some (.inl 3), some (.inl (szf S T (S 0 0) (T 0 0) p 3 set)), some (.inl (bti S T (S 0 0) (T 0 0) p 3 set)), none] [.inl (h2 39 (bti S T (S 0 0) (T 0 0) p 3 set)), .inl set] (xup h2 57 nd (bti S T (S 0 0) (T 0 0) p 3 set))
        refine E_s 6 (i' := 53) (ls' := [some (.inr (.inr 44)), some (.inr (.inr 56)), some (.inl nd), some (.inl set), some (.inl 3), some (.inl (szf S T (S 0 0) (T 0 0) p 3 set)), some (.inl (bti S T (S 0 0) (T 0 0) p 3 set)), some (.inl (xand set (h2 39 (bti S T (S 0 0) (T 0 0) p 3 set))))]) (sk' := [.inl 1, .inl nd, .inr (.inr 56), .inr (.inr 44)]) (h' := (xup h2 57 nd (bti S T (S 0 0) (T 0 0) p 3 set))) rfl ?_
        refine E_ci (x := (.invokestatic 127, 2, [(0, 45)], [])) (r := (2 * nd + 1)) (h' := (xup h2 57 nd (bti S T (S 0 0) (T 0 0) p 3 set))) rfl rfl (Nat.le_of_ble_eq_true rfl) (c_nb1 (d + 6) 0 (xup h2 57 nd (bti S T (S 0 0) (T 0 0) p 3 set)) nd ⟨rfl, rfl⟩) ?_
        show xEx G0 cdX7_place none (xRn G0 MT (d + 7)) Q b 54 [some (.inr (.inr 44)), some (.inr (.inr 56)), some (.inl nd), some (.inl set), some (.inl 3), some (.inl (szf S T (S 0 0) (T 0 0) p 3 set)), some (.inl (bti S T (S 0 0) (T 0 0) p 3 set)), some (.inl (xand set (h2 39 (bti S T (S 0 0) (T 0 0) p 3 set))))] [.inl (2 * nd + 1), .inr (.inr 56), .inr (.inr 44)] (xup h2 57 nd (bti S T (S 0 0) (T 0 0) p 3 set))
        refine E_s 4 (i' := 58) (ls' := [some (.inr (.inr 44)), some (.inr (.inr 56)), some (.inl nd), some (.inl set), some (.inl 3), some (.inl (szf S T (S 0 0) (T 0 0) p 3 set)), some (.inl (bti S T (S 0 0) (T 0 0) p 3 set)), some (.inl (xand set (h2 39 (bti S T (S 0 0) (T 0 0) p 3 set))))]) (sk' := [.inl 2, .inl (xand set (h2 39 (bti S T (S 0 0) (T 0 0) p 3 set))), .inl (2 * nd + 1), .inr (.inr 56), .inr (.inr 44)]) (h' := (xup h2 57 nd (bti S T (S 0 0) (T 0 0) p 3 set))) rfl ?_
        have v2 : SVF h2 S T p m := SVF_z (f1.tr f2) hV
        have w1 : SVF (xup h2 57 nd (bti S T (S 0 0) (T 0 0) p 3 set)) S T p m := by exact v2
        have w2 : SVM (xup h2 57 nd (bti S T (S 0 0) (T 0 0) p 3 set)) S T p m := m2
        have t6 : (xup h2 57 nd (bti S T (S 0 0) (T 0 0) p 3 set)) 39 (bti S T (S 0 0) (T 0 0) p 3 set) = T 6 (bti S T (S 0 0) (T 0 0) p 3 set) := (w1.2.1 _ bt0 bt1).2
        have o6 := (hV.1.2.2.2.2 _ bt0 bt1).2.1
        have i1 : ir m (xand set ((xup h2 57 nd (bti S T (S 0 0) (T 0 0) p 3 set)) 39 (bti S T (S 0 0) (T 0 0) p 3 set))) := by rw [t6]; exact xa_r hV.1.1 hs o6
        have i2 : ir m (xxor set (xand set ((xup h2 57 nd (bti S T (S 0 0) (T 0 0) p 3 set)) 39 (bti S T (S 0 0) (T 0 0) p 3 set)))) := xx_r hV.1.1 hs i1
        have g2 : ∀ a, a ≠ 49 → a ≠ 50 → h2 a = h a := fun a z1 z2 => (f1.tr f2) a z1 z2
        have nA : ∀ j, j ≠ nd → (xup h2 57 nd (bti S T (S 0 0) (T 0 0) p 3 set)) 57 j = h 57 j := fun j z => by rw [xup_j z, g2 _ (by decide) (by decide)]
        have nB : (xup h2 57 nd (bti S T (S 0 0) (T 0 0) p 3 set)) 58 = h 58 := by rw [xup_o _ _ _ _ _ (by decide), g2 _ (by decide) (by decide)]
        obtain ⟨D, rfl⟩ : ∃ D', D = D' + 1 := ⟨D - 1, by omega⟩
        have no1 : NO ((xup h2 57 nd (bti S T (S 0 0) (T 0 0) p 3 set)) 57) ((xup h2 57 nd (bti S T (S 0 0) (T 0 0) p 3 set)) 58) D (2 * nd + 1) := NO_fr D _ (fun j z => ⟨nA j ((sb_d (by omega) hnd).1 z).2, by rw [nB]⟩) hno.2.1
        have no2 : NO ((xup h2 57 nd (bti S T (S 0 0) (T 0 0) p 3 set)) 57) ((xup h2 57 nd (bti S T (S 0 0) (T 0 0) p 3 set)) 58) D (2 * nd + 2) := NO_fr D _ (fun j z => ⟨nA j ((sb_d (by omega) hnd).2 z), by rw [nB]⟩) hno.2.2
        refine E_cv (x := (.invokevirtual 131, 4, [(5, 66)], [0])) (q := fun h9 => FP 57 58 D (2 * nd + 1) (xup h2 57 nd (bti S T (S 0 0) (T 0 0) p 3 set)) h9 ∧ SVM h9 S T p m ∧ TV S T (S 0 0) (T 0 0) p (h9 57) (h9 58) D 2 (2 * nd + 1) (xand set ((xup h2 57 nd (bti S T (S 0 0) (T 0 0) p 3 set)) 39 (bti S T (S 0 0) (T 0 0) p 3 set)))) rfl rfl (Nat.le_of_ble_eq_true rfl) (c_pl_pr2 (d + 1) 0 (xup h2 57 nd (bti S T (S 0 0) (T 0 0) p 3 set)) S T p (xand set ((xup h2 57 nd (bti S T (S 0 0) (T 0 0) p 3 set)) 39 (bti S T (S 0 0) (T 0 0) p 3 set))) m D (2 * nd + 1) w1 w2 i1 (by omega) (by rw [t6]; omega) (by omega) (by omega) no1 (fun h9 z1 z2 z3 => ⟨rfl, z1, z2, z3⟩)) (fun h3 hq3 => ?_)
        obtain ⟨f3, m3, t3⟩ := hq3
        show xEx G0 cdX7_place none (xRn G0 MT (d + 7)) Q b 59 [some (.inr (.inr 44)), some (.inr (.inr 56)), some (.inl nd), some (.inl set), some (.inl 3), some (.inl (szf S T (S 0 0) (T 0 0) p 3 set)), some (.inl (bti S T (S 0 0) (T 0 0) p 3 set)), some (.inl (xand set (h2 39 (bti S T (S 0 0) (T 0 0) p 3 set))))] [] h3
        refine E_s 4 (i' := 63) (ls' := [some (.inr (.inr 44)), some (.inr (.inr 56)), some (.inl nd), some (.inl set), some (.inl 3), some (.inl (szf S T (S 0 0) (T 0 0) p 3 set)), some (.inl (bti S T (S 0 0) (T 0 0) p 3 set)), some (.inl (xand set (h2 39 (bti S T (S 0 0) (T 0 0) p 3 set))))]) (sk' := [.inl 0, .inl nd, .inr (.inr 56), .inr (.inr 44)]) (h' := h3) rfl ?_
        refine E_ci (x := (.invokestatic 127, 2, [(0, 45)], [])) (r := (2 * nd + 2)) (h' := h3) rfl rfl (Nat.le_of_ble_eq_true rfl) (c_nb0 (d + 6) 0 h3 nd ⟨rfl, rfl⟩) ?_
        show xEx G0 cdX7_place none (xRn G0 MT (d + 7)) Q b 64 [some (.inr (.inr 44)), some (.inr (.inr 56)), some (.inl nd), some (.inl set), some (.inl 3), some (.inl (szf S T (S 0 0) (T 0 0) p 3 set)), some (.inl (bti S T (S 0 0) (T 0 0) p 3 set)), some (.inl (xand set (h2 39 (bti S T (S 0 0) (T 0 0) p 3 set))))] [.inl (2 * nd + 2), .inr (.inr 56), .inr (.inr 44)] h3
        refine E_s 6 (i' := 70) (ls' := [some (.inr (.inr 44)), some (.inr (.inr 56)), some (.inl nd), some (.inl set), some (.inl 3), some (.inl (szf S T (S 0 0) (T 0 0) p 3 set)), some (.inl (bti S T (S 0 0) (T 0 0) p 3 set)), some (.inl (xand set (h2 39 (bti S T (S 0 0) (T 0 0) p 3 set))))]) (sk' := [.inl 2, .inl (xxor set (xand set (h2 39 (bti S T (S 0 0) (T 0 0) p 3 set)))), .inl (2 * nd + 2), .inr (.inr 56), .inr (.inr 44)]) (h' := h3) rfl ?_
        have no3 : NO (h3 57) (h3 58) D (2 * nd + 2) := NO_fr D _ (fun j z => f3.2 j (fun y => ((sb_d (by omega) hnd).1 y).1 z)) no2
        refine E_cv (x := (.invokevirtual 131, 4, [(5, 66)], [0])) (q := fun h9 => FP 57 58 D (2 * nd + 2) (h3) h9 ∧ SVM h9 S T p m ∧ TV S T (S 0 0) (T 0 0) p (h9 57) (h9 58) D 2 (2 * nd + 2) (xxor set (xand set ((xup h2 57 nd (bti S T (S 0 0) (T 0 0) p 3 set)) 39 (bti S T (S 0 0) (T 0 0) p 3 set))))) rfl rfl (Nat.le_of_ble_eq_true rfl) (c_pl_pr2 (d + 1) 0 h3 S T p (xxor set (xand set ((xup h2 57 nd (bti S T (S 0 0) (T 0 0) p 3 set)) 39 (bti S T (S 0 0) (T 0 0) p 3 set)))) m D (2 * nd + 2) (SVF_p (by decide) f3 w1) m3 i2 (by omega) (by rw [t6]; omega) (by omega) (by omega) no3 (fun h9 z1 z2 z3 => ⟨rfl, z1, z2, z3⟩)) (fun h4 hq4 => ?_)
        obtain ⟨f4, m4, t4⟩ := hq4
        show xEx G0 cdX7_place none (xRn G0 MT (d + 7)) Q b 71 [some (.inr (.inr 44)), some (.inr (.inr 56)), some (.inl nd), some (.inl set), some (.inl 3), some (.inl (szf S T (S 0 0) (T 0 0) p 3 set)), some (.inl (bti S T (S 0 0) (T 0 0) p 3 set)), some (.inl (xand set (h2 39 (bti S T (S 0 0) (T 0 0) p 3 set))))] [] h4
        exact E_ret (x := (.return_, 0, [], [])) (v := none) rfl (trivial) (by
          rw [t6] at t3 t4
          refine hQ _ ⟨fun a z1 z2 z3 z4 => by rw [f4.1 a z1 z2 z3 z4, f3.1 a z1 z2 z3 z4, xup_o _ _ _ _ a z3]; exact g2 a z1 z2, fun j z => ?_⟩ m4 (TV_node (by omega) hnd hbt ?_ ?_ f3.2 t3 f4.2 t4)
          · have zj : j ≠ nd := fun y => z (Or.inl y)
            obtain ⟨x1, x2⟩ := f4.2 j (fun y => z (Or.inr (Or.inr y)))
            obtain ⟨x3, x4⟩ := f3.2 j (fun y => z (Or.inr (Or.inl y)))
            rw [x1, x2, x3, x4, nA j zj, nB]
            exact ⟨rfl, rfl⟩
          · rw [xup_s]
          · rw [nB]; exact hno.1.2)
      · rw [c_ne (by first | assumption | (refine ⟨?_, ?_⟩ <;> omega) | (simp only [xr] at *; omega)) (by first | assumption | (refine ⟨?_, ?_⟩ <;> omega) | (simp only [xr] at *; omega))] at c31
        simp only [decide_eq_true_eq, decide_eq_false_iff_not, Decidable.not_not] at c31
        show xEx G0 cdX7_place none (xRn G0 MT (d + 7)) Q b 32 [some (.inr (.inr 44)), some (.inr (.inr 56)), some (.inl nd), some (.inl set), some (.inl 3), some (.inl (szf S T (S 0 0) (T 0 0) p 3 set)), some (.inl (bti S T (S 0 0) (T 0 0) p 3 set)), none] [] (xup h2 57 nd (bti S T (S 0 0) (T 0 0) p 3 set))
        exact absurd c31 hbt
set_option maxHeartbeats 1000000 in
theorem c_pl_ri0 (d b : Nat) (h S T : xH) (p set : Int) (m D : Nat) (nd : Int) (hV : SVF h S T p m) (hM : SVM h S T p m) (hs : ir m set) (hi : 0 ≤ D) (hz : szf S T (S 0 0) (T 0 0) p 0 set < 1000000) (hD : (D = 3 ∧ nd = 0) ∨ (D = 2 ∧ nd ≤ 2) ∨ (D = 1 ∧ nd ≤ 6) ∨ (D = 0 ∧ nd ≤ 14)) (hnd : 0 ≤ nd) (hno : NO (h 60) (h 61) D nd) {Q : xO → xH → Prop} (hQ : ∀ h', FP 60 61 D nd h h' → SVM h' S T p m → TV S T (S 0 0) (T 0 0) p (h' 60) (h' 61) D 0 nd set → Q (.inl none) h') : xRn G0 MT (d + 2) b 66 [.inr (.inr 44), .inr (.inr 59), .inl nd, .inl set, .inl 0] h Q := by
  refine R_of (M := mX7_place) rfl (Nat.le_of_ble_eq_true rfl) ?_
  show xEx G0 cdX7_place none (xRn G0 MT (d + 1)) Q b 0 [some (.inr (.inr 44)), some (.inr (.inr 59)), some (.inl nd), some (.inl set), some (.inl 0), none, none, none] [] h
  have r4 := ir4 hV.1.1 hs
  have e48 : h 48 set = sz0 S (S 0 0) p set := (hV.2.2.2.1 set hs).2
  have uk := hV.1.2.2.1
  have zr := szf_r (p := p) hV.1 0 set
  have z0 := sz0_r (p := p) hV.1 set
  have bs := bti_spec (S := S) (T := T) (KE := S 0 0) (KT := T 0 0) (p := p) uk.1 0 set
  refine E_s 3 (i' := 3) (ls' := [some (.inr (.inr 44)), some (.inr (.inr 59)), some (.inl nd), some (.inl set), some (.inl 0), none, none, none]) (sk' := [.inl 0, .inl set, .inr (.inr 44)]) (h' := h) rfl ?_
  refine E_ci (x := (.invokevirtual 99, 2, [(5, 63)], [0])) (r := (szf S T (S 0 0) (T 0 0) p 0 set)) (h' := h) rfl rfl (Nat.le_of_ble_eq_true rfl) (c_szO0 d 0 h S T p set m hV hM hs ⟨rfl, rfl⟩) ?_
  show xEx G0 cdX7_place none (xRn G0 MT (d + 1)) Q b 4 [some (.inr (.inr 44)), some (.inr (.inr 59)), some (.inl nd), some (.inl set), some (.inl 0), none, none, none] [.inl (szf S T (S 0 0) (T 0 0) p 0 set)] h
  refine E_s 7 (i' := 11) (ls' := [some (.inr (.inr 44)), some (.inr (.inr 59)), some (.inl nd), some (.inl set), some (.inl 0), some (.inl (szf S T (S 0 0) (T 0 0) p 0 set)), some (.inl (-1)), none]) (sk' := [.inl 0, .inr (.inr 46), .inl (szf S T (S 0 0) (T 0 0) p 0 set)]) (h' := h) rfl ?_
  refine E_ald (x := (.aaload, 0, [], [])) 0 rfl rfl rfl (rfl) rfl ?_
  show xEx G0 cdX7_place none (xRn G0 MT (d + 1)) Q b 12 [some (.inr (.inr 44)), some (.inr (.inr 59)), some (.inl nd), some (.inl set), some (.inl 0), some (.inl (szf S T (S 0 0) (T 0 0) p 0 set)), some (.inl (-1)), none] [.inr (.inr 48), .inl (szf S T (S 0 0) (T 0 0) p 0 set)] h
  refine E_s 1 (i' := 13) (ls' := [some (.inr (.inr 44)), some (.inr (.inr 59)), some (.inl nd), some (.inl set), some (.inl 0), some (.inl (szf S T (S 0 0) (T 0 0) p 0 set)), some (.inl (-1)), none]) (sk' := [.inl set, .inr (.inr 48), .inl (szf S T (S 0 0) (T 0 0) p 0 set)]) (h' := h) rfl ?_
  refine E_ld (x := (.iaload, 0, [], [])) (ty := .int) (n := 4096) rfl rfl rfl (by omega) (by omega) ?_
  show xEx G0 cdX7_place none (xRn G0 MT (d + 1)) Q b 14 [some (.inr (.inr 44)), some (.inr (.inr 59)), some (.inl nd), some (.inl set), some (.inl 0), some (.inl (szf S T (S 0 0) (T 0 0) p 0 set)), some (.inl (-1)), none] [.inl (h 48 set), .inl (szf S T (S 0 0) (T 0 0) p 0 set)] h
  refine E_b (x := (.if_icmp .eq 21, 24, [], [])) rfl rfl (fun c14 => ?_) (fun c14 => ?_)
  · rw [c_eq (by first | (rw [f1 _ (by decide) (by decide), e48]; exact ⟨by omega, by omega⟩) | (rw [e48]; exact ⟨by omega, by omega⟩) | exact ⟨by omega, by omega⟩) (by first | (rw [f1 _ (by decide) (by decide), e48]; exact ⟨by omega, by omega⟩) | (rw [e48]; exact ⟨by omega, by omega⟩) | exact ⟨by omega, by omega⟩)] at c14
    simp only [decide_eq_true_eq, decide_eq_false_iff_not, Decidable.not_not] at c14
    show xEx G0 cdX7_place none (xRn G0 MT (d + 1)) Q b 24 [some (.inr (.inr 44)), some (.inr (.inr 59)), some (.inl nd), some (.inl set), some (.inl 0), some (.inl (szf S T (S 0 0) (T 0 0) p 0 set)), some (.inl (-1)), none] [] h
    refine E_s 4 (i' := 28) (ls' := [some (.inr (.inr 44)), some (.inr (.inr 59)), some (.inl nd), some (.inl set), some (.inl 0), some (.inl (szf S T (S 0 0) (T 0 0) p 0 set)), some (.inl (-1)), none]) (sk' := [.inl (-1), .inl nd, .inr (.inr 60)]) (h' := h) rfl ?_
    refine E_sd (x := (.iastore, 0, [], [])) (ty := .int) (n := 15) (y := (-1)) rfl rfl rfl (by omega) (by omega) (trivial) ?_
    show xEx G0 cdX7_place none (xRn G0 MT (d + 1)) Q b 29 [some (.inr (.inr 44)), some (.inr (.inr 59)), some (.inl nd), some (.inl set), some (.inl 0), some (.inl (szf S T (S 0 0) (T 0 0) p 0 set)), some (.inl (-1)), none] [] (xup h 60 nd (-1))
    refine E_s 2 (i' := 31) (ls' := [some (.inr (.inr 44)), some (.inr (.inr 59)), some (.inl nd), some (.inl set), some (.inl 0), some (.inl (szf S T (S 0 0) (T 0 0) p 0 set)), some (.inl (-1)), none]) (sk' := [.inl (-1), .inl (-1)]) (h' := (xup h 60 nd (-1))) rfl ?_
    refine E_b (x := (.if_icmp .ne 16, 41, [], [])) rfl rfl (fun c31 => ?_) (fun c31 => ?_)
    · show xEx G0 cdX7_place none (xRn G0 MT (d + 1)) Q b 41 [some (.inr (.inr 44)), some (.inr (.inr 59)), some (.inl nd), some (.inl set), some (.inl 0), some (.inl (szf S T (S 0 0) (T 0 0) p 0 set)), some (.inl (-1)), none] [] (xup h 60 nd (-1))
      exact absurd c31 (by decide)
    · show xEx G0 cdX7_place none (xRn G0 MT (d + 1)) Q b 32 [some (.inr (.inr 44)), some (.inr (.inr 59)), some (.inl nd), some (.inl set), some (.inl 0), some (.inl (szf S T (S 0 0) (T 0 0) p 0 set)), some (.inl (-1)), none] [] (xup h 60 nd (-1))
      have hz0 : szf S T (S 0 0) (T 0 0) p 0 set = sz0 S (S 0 0) p set := by rfl
      have hbt : (bti S T (S 0 0) (T 0 0) p 0 set) = -1 := by
        rcases bs with ⟨-, z9⟩ | ⟨z9, -⟩
        · exact z9
        · omega
      have l45 : h 45 set = lf S (S 0 0) p set := by
        rw [(hV.2.2.2.1 set hs).1, if_neg]
        intro z9
        have : sz0 S (S 0 0) p set = 1000000 := by unfold sz0; rw [if_pos z9]
        omega
      refine E_s 6 (i' := 38) (ls' := [some (.inr (.inr 44)), some (.inr (.inr 59)), some (.inl nd), some (.inl set), some (.inl 0), some (.inl (szf S T (S 0 0) (T 0 0) p 0 set)), some (.inl (-1)), none]) (sk' := [.inl set, .inr (.inr 45), .inl nd, .inr (.inr 61)]) (h' := (xup h 60 nd (-1))) rfl ?_
      refine E_ld (x := (.iaload, 0, [], [])) (ty := .int) (n := 4096) rfl rfl rfl (by omega) (by omega) ?_
      show xEx G0 cdX7_place none (xRn G0 MT (d + 1)) Q b 39 [some (.inr (.inr 44)), some (.inr (.inr 59)), some (.inl nd), some (.inl set), some (.inl 0), some (.inl (szf S T (S 0 0) (T 0 0) p 0 set)), some (.inl (-1)), none] [.inl (h 45 set), .inl nd, .inr (.inr 61)] (xup h 60 nd (-1))
      refine E_sd (x := (.iastore, 0, [], [])) (ty := .int) (n := 15) (y := (h 45 set)) rfl rfl rfl (by omega) (by omega) (trivial) ?_
      show xEx G0 cdX7_place none (xRn G0 MT (d + 1)) Q b 40 [some (.inr (.inr 44)), some (.inr (.inr 59)), some (.inl nd), some (.inl set), some (.inl 0), some (.inl (szf S T (S 0 0) (T 0 0) p 0 set)), some (.inl (-1)), none] [] (xup (xup h 60 nd (-1)) 61 nd (h 45 set))
      exact E_ret (x := (.return_, 0, [], [])) (v := none) rfl (trivial) (by
        refine hQ _ ⟨fun a z1 z2 z3 z4 => by rw [xup_o _ _ _ _ a z4, xup_o _ _ _ _ a z3], fun j z => ?_⟩ hM (TV_leaf (by omega) hnd hno hbt ?_ ?_ (fun j z => ?_))
        · have zj : j ≠ nd := fun y => z (by rw [y]; exact sb_s D nd)
          rw [xup_o _ _ _ _ _ (by decide), xup_j zj, xup_j zj, xup_o _ _ _ _ _ (by decide)]
          exact ⟨rfl, rfl⟩
        · rw [xup_o _ _ _ _ _ (by decide), xup_s]
        · rw [xup_s]; exact l45
        · rw [xup_o _ _ _ _ _ (by decide), xup_j z, xup_j z, xup_o _ _ _ _ _ (by decide)]
          exact ⟨rfl, rfl⟩)
  · rw [c_eq (by first | (rw [f1 _ (by decide) (by decide), e48]; exact ⟨by omega, by omega⟩) | (rw [e48]; exact ⟨by omega, by omega⟩) | exact ⟨by omega, by omega⟩) (by first | (rw [f1 _ (by decide) (by decide), e48]; exact ⟨by omega, by omega⟩) | (rw [e48]; exact ⟨by omega, by omega⟩) | exact ⟨by omega, by omega⟩)] at c14
    simp only [decide_eq_true_eq, decide_eq_false_iff_not, Decidable.not_not] at c14
    show xEx G0 cdX7_place none (xRn G0 MT (d + 1)) Q b 15 [some (.inr (.inr 44)), some (.inr (.inr 59)), some (.inl nd), some (.inl set), some (.inl 0), some (.inl (szf S T (S 0 0) (T 0 0) p 0 set)), some (.inl (-1)), none] [] h
    exact absurd (show szf S T (S 0 0) (T 0 0) p 0 set = h 48 set from e48.symm) c14
set_option maxHeartbeats 1000000 in
theorem c_pl_ri1 (d b : Nat) (h S T : xH) (p set : Int) (m D : Nat) (nd : Int) (hV : SVF h S T p m) (hM : SVM h S T p m) (hs : ir m set) (hi : 1 ≤ D) (hz : szf S T (S 0 0) (T 0 0) p 1 set < 1000000) (hD : (D = 3 ∧ nd = 0) ∨ (D = 2 ∧ nd ≤ 2) ∨ (D = 1 ∧ nd ≤ 6) ∨ (D = 0 ∧ nd ≤ 14)) (hnd : 0 ≤ nd) (hno : NO (h 60) (h 61) D nd) {Q : xO → xH → Prop} (hQ : ∀ h', FP 60 61 D nd h h' → SVM h' S T p m → TV S T (S 0 0) (T 0 0) p (h' 60) (h' 61) D 1 nd set → Q (.inl none) h') : xRn G0 MT (d + 4) b 66 [.inr (.inr 44), .inr (.inr 59), .inl nd, .inl set, .inl 1] h Q := by
  refine R_of (M := mX7_place) rfl (Nat.le_of_ble_eq_true rfl) ?_
  show xEx G0 cdX7_place none (xRn G0 MT (d + 3)) Q b 0 [some (.inr (.inr 44)), some (.inr (.inr 59)), some (.inl nd), some (.inl set), some (.inl 1), none, none, none] [] h
  have r4 := ir4 hV.1.1 hs
  have e48 : h 48 set = sz0 S (S 0 0) p set := (hV.2.2.2.1 set hs).2
  have uk := hV.1.2.2.1
  have zr := szf_r (p := p) hV.1 1 set
  have z0 := sz0_r (p := p) hV.1 set
  have bs := bti_spec (S := S) (T := T) (KE := S 0 0) (KT := T 0 0) (p := p) uk.1 1 set
  refine E_s 3 (i' := 3) (ls' := [some (.inr (.inr 44)), some (.inr (.inr 59)), some (.inl nd), some (.inl set), some (.inl 1), none, none, none]) (sk' := [.inl 1, .inl set, .inr (.inr 44)]) (h' := h) rfl ?_
  refine E_cp (x := (.invokevirtual 99, 2, [(5, 63)], [0])) (q := fun r h9 => r = szf S T (S 0 0) (T 0 0) p 1 set ∧ FZ h h9 ∧ SVM h9 S T p m) rfl rfl (Nat.le_of_ble_eq_true rfl) (c_szO1 d 0 h S T p set m hV hM hs (fun h9 z1 z2 => ⟨_, rfl, rfl, z1, z2⟩)) (fun r1 h1 hq1 => ?_)
  obtain ⟨er1, f1, m1⟩ := hq1
  show xEx G0 cdX7_place none (xRn G0 MT (d + 3)) Q b 4 [some (.inr (.inr 44)), some (.inr (.inr 59)), some (.inl nd), some (.inl set), some (.inl 1), none, none, none] [.inl r1] h1
  refine E_ti (y := (szf S T (S 0 0) (T 0 0) p 1 set)) (by rw [er1]) ?_
  refine E_s 7 (i' := 11) (ls' := [some (.inr (.inr 44)), some (.inr (.inr 59)), some (.inl nd), some (.inl set), some (.inl 1), some (.inl (szf S T (S 0 0) (T 0 0) p 1 set)), some (.inl (-1)), none]) (sk' := [.inl 0, .inr (.inr 46), .inl (szf S T (S 0 0) (T 0 0) p 1 set)]) (h' := h1) rfl ?_
  refine E_ald (x := (.aaload, 0, [], [])) 0 rfl rfl rfl (rfl) rfl ?_
  show xEx G0 cdX7_place none (xRn G0 MT (d + 3)) Q b 12 [some (.inr (.inr 44)), some (.inr (.inr 59)), some (.inl nd), some (.inl set), some (.inl 1), some (.inl (szf S T (S 0 0) (T 0 0) p 1 set)), some (.inl (-1)), none] [.inr (.inr 48), .inl (szf S T (S 0 0) (T 0 0) p 1 set)] h1
  refine E_s 1 (i' := 13) (ls' := [some (.inr (.inr 44)), some (.inr (.inr 59)), some (.inl nd), some (.inl set), some (.inl 1), some (.inl (szf S T (S 0 0) (T 0 0) p 1 set)), some (.inl (-1)), none]) (sk' := [.inl set, .inr (.inr 48), .inl (szf S T (S 0 0) (T 0 0) p 1 set)]) (h' := h1) rfl ?_
  refine E_ld (x := (.iaload, 0, [], [])) (ty := .int) (n := 4096) rfl rfl rfl (by omega) (by omega) ?_
  show xEx G0 cdX7_place none (xRn G0 MT (d + 3)) Q b 14 [some (.inr (.inr 44)), some (.inr (.inr 59)), some (.inl nd), some (.inl set), some (.inl 1), some (.inl (szf S T (S 0 0) (T 0 0) p 1 set)), some (.inl (-1)), none] [.inl (h1 48 set), .inl (szf S T (S 0 0) (T 0 0) p 1 set)] h1
  refine E_b (x := (.if_icmp .eq 21, 24, [], [])) rfl rfl (fun c14 => ?_) (fun c14 => ?_)
  · rw [c_eq (by first | (rw [f1 _ (by decide) (by decide), e48]; exact ⟨by omega, by omega⟩) | (rw [e48]; exact ⟨by omega, by omega⟩) | exact ⟨by omega, by omega⟩) (by first | (rw [f1 _ (by decide) (by decide), e48]; exact ⟨by omega, by omega⟩) | (rw [e48]; exact ⟨by omega, by omega⟩) | exact ⟨by omega, by omega⟩)] at c14
    simp only [decide_eq_true_eq, decide_eq_false_iff_not, Decidable.not_not] at c14
    show xEx G0 cdX7_place none (xRn G0 MT (d + 3)) Q b 24 [some (.inr (.inr 44)), some (.inr (.inr 59)), some (.inl nd), some (.inl set), some (.inl 1), some (.inl (szf S T (S 0 0) (T 0 0) p 1 set)), some (.inl (-1)), none] [] h1
    refine E_s 4 (i' := 28) (ls' := [some (.inr (.inr 44)), some (.inr (.inr 59)), some (.inl nd), some (.inl set), some (.inl 1), some (.inl (szf S T (S 0 0) (T 0 0) p 1 set)), some (.inl (-1)), none]) (sk' := [.inl (-1), .inl nd, .inr (.inr 60)]) (h' := h1) rfl ?_
    refine E_sd (x := (.iastore, 0, [], [])) (ty := .int) (n := 15) (y := (-1)) rfl rfl rfl (by omega) (by omega) (trivial) ?_
    show xEx G0 cdX7_place none (xRn G0 MT (d + 3)) Q b 29 [some (.inr (.inr 44)), some (.inr (.inr 59)), some (.inl nd), some (.inl set), some (.inl 1), some (.inl (szf S T (S 0 0) (T 0 0) p 1 set)), some (.inl (-1)), none] [] (xup h1 60 nd (-1))
    refine E_s 2 (i' := 31) (ls' := [some (.inr (.inr 44)), some (.inr (.inr 59)), some (.inl nd), some (.inl set), some (.inl 1), some (.inl (szf S T (S 0 0) (T 0 0) p 1 set)), some (.inl (-1)), none]) (sk' := [.inl (-1), .inl (-1)]) (h' := (xup h1 60 nd (-1))) rfl ?_
    refine E_b (x := (.if_icmp .ne 16, 41, [], [])) rfl rfl (fun c31 => ?_) (fun c31 => ?_)
    · show xEx G0 cdX7_place none (xRn G0 MT (d + 3)) Q b 41 [some (.inr (.inr 44)), some (.inr (.inr 59)), some (.inl nd), some (.inl set), some (.inl 1), some (.inl (szf S T (S 0 0) (T 0 0) p 1 set)), some (.inl (-1)), none] [] (xup h1 60 nd (-1))
      exact absurd c31 (by decide)
    · show xEx G0 cdX7_place none (xRn G0 MT (d + 3)) Q b 32 [some (.inr (.inr 44)), some (.inr (.inr 59)), some (.inl nd), some (.inl set), some (.inl 1), some (.inl (szf S T (S 0 0) (T 0 0) p 1 set)), some (.inl (-1)), none] [] (xup h1 60 nd (-1))
      have hz0 : szf S T (S 0 0) (T 0 0) p 1 set = sz0 S (S 0 0) p set := by rw [f1 _ (by decide) (by decide), e48] at c14; exact c14
      have hbt : (bti S T (S 0 0) (T 0 0) p 1 set) = -1 := by
        rcases bs with ⟨-, z9⟩ | ⟨z9, -⟩
        · exact z9
        · omega
      have l45 : h 45 set = lf S (S 0 0) p set := by
        rw [(hV.2.2.2.1 set hs).1, if_neg]
        intro z9
        have : sz0 S (S 0 0) p set = 1000000 := by unfold sz0; rw [if_pos z9]
        omega
      refine E_s 6 (i' := 38) (ls' := [some (.inr (.inr 44)), some (.inr (.inr 59)), some (.inl nd), some (.inl set), some (.inl 1), some (.inl (szf S T (S 0 0) (T 0 0) p 1 set)), some (.inl (-1)), none]) (sk' := [.inl set, .inr (.inr 45), .inl nd, .inr (.inr 61)]) (h' := (xup h1 60 nd (-1))) rfl ?_
      refine E_ld (x := (.iaload, 0, [], [])) (ty := .int) (n := 4096) rfl rfl rfl (by omega) (by omega) ?_
      show xEx G0 cdX7_place none (xRn G0 MT (d + 3)) Q b 39 [some (.inr (.inr 44)), some (.inr (.inr 59)), some (.inl nd), some (.inl set), some (.inl 1), some (.inl (szf S T (S 0 0) (T 0 0) p 1 set)), some (.inl (-1)), none] [.inl (h1 45 set), .inl nd, .inr (.inr 61)] (xup h1 60 nd (-1))
      refine E_sd (x := (.iastore, 0, [], [])) (ty := .int) (n := 15) (y := (h1 45 set)) rfl rfl rfl (by omega) (by omega) (trivial) ?_
      show xEx G0 cdX7_place none (xRn G0 MT (d + 3)) Q b 40 [some (.inr (.inr 44)), some (.inr (.inr 59)), some (.inl nd), some (.inl set), some (.inl 1), some (.inl (szf S T (S 0 0) (T 0 0) p 1 set)), some (.inl (-1)), none] [] (xup (xup h1 60 nd (-1)) 61 nd (h1 45 set))
      exact E_ret (x := (.return_, 0, [], [])) (v := none) rfl (trivial) (by
        have e45 : h1 45 set = lf S (S 0 0) p set := by rw [f1 _ (by decide) (by decide)]; exact l45
        refine hQ _ ⟨fun a z1 z2 z3 z4 => by rw [xup_o _ _ _ _ a z4, xup_o _ _ _ _ a z3]; exact f1 a z1 z2, fun j z => ?_⟩ m1 (TV_leaf (by omega) hnd hno hbt ?_ ?_ (fun j z => ?_))
        · have zj : j ≠ nd := fun y => z (by rw [y]; exact sb_s D nd)
          rw [xup_o _ _ _ _ _ (by decide), xup_j zj, xup_j zj, xup_o _ _ _ _ _ (by decide), f1 _ (by decide) (by decide), f1 _ (by decide) (by decide)]
          exact ⟨rfl, rfl⟩
        · rw [xup_o _ _ _ _ _ (by decide), xup_s]
        · rw [xup_s]; exact e45
        · rw [xup_o _ _ _ _ _ (by decide), xup_j z, xup_j z, xup_o _ _ _ _ _ (by decide), f1 _ (by decide) (by decide), f1 _ (by decide) (by decide)]
          exact ⟨rfl, rfl⟩)
  · rw [c_eq (by first | (rw [f1 _ (by decide) (by decide), e48]; exact ⟨by omega, by omega⟩) | (rw [e48]; exact ⟨by omega, by omega⟩) | exact ⟨by omega, by omega⟩) (by first | (rw [f1 _ (by decide) (by decide), e48]; exact ⟨by omega, by omega⟩) | (rw [e48]; exact ⟨by omega, by omega⟩) | exact ⟨by omega, by omega⟩)] at c14
    simp only [decide_eq_true_eq, decide_eq_false_iff_not, Decidable.not_not] at c14
    show xEx G0 cdX7_place none (xRn G0 MT (d + 3)) Q b 15 [some (.inr (.inr 44)), some (.inr (.inr 59)), some (.inl nd), some (.inl set), some (.inl 1), some (.inl (szf S T (S 0 0) (T 0 0) p 1 set)), some (.inl (-1)), none] [] h1
    have hlt : szf S T (S 0 0) (T 0 0) p 1 set < sz0 S (S 0 0) p set := by
      rw [f1 _ (by decide) (by decide), e48] at c14
      rcases bs with ⟨z9, -⟩ | ⟨z9, -⟩
      · exact absurd z9 c14
      · exact z9
    obtain ⟨bt0, bt1, be⟩ : 0 ≤ (bti S T (S 0 0) (T 0 0) p 1 set) ∧ (bti S T (S 0 0) (T 0 0) p 1 set) < T 0 0 ∧ szt T (szf S T (S 0 0) (T 0 0) p 0) set (bti S T (S 0 0) (T 0 0) p 1 set) = szf S T (S 0 0) (T 0 0) p 1 set := by
      rcases bs with ⟨z9, -⟩ | ⟨-, j, e, b1, b2, b3, b4, -⟩
      · omega
      · have e : j = 0 := by omega
        subst e
        exact ⟨b1, b2, b4⟩
    have hbt : (bti S T (S 0 0) (T 0 0) p 1 set) ≠ -1 := by omega
    have za := szf_r (p := p) hV.1 0 (xand set (T 6 (bti S T (S 0 0) (T 0 0) p 1 set)))
    have zb := szf_r (p := p) hV.1 0 (xxor set (xand set (T 6 (bti S T (S 0 0) (T 0 0) p 1 set))))
    have zt := (hV.1.2.2.2.2 _ bt0 bt1).1
    have be9 := be
    unfold szt at be9
    clear bs
    refine E_s 1 (i' := 16) (ls' := [some (.inr (.inr 44)), some (.inr (.inr 59)), some (.inl nd), some (.inl set), some (.inl 1), some (.inl (szf S T (S 0 0) (T 0 0) p 1 set)), some (.inl (-1)), none]) (sk' := [.inl nd]) (h' := h1) rfl ?_
    refine E_ci (x := (.invokestatic 112, 1, [(0, 46)], [])) (r := 1) (h' := h1) rfl rfl (Nat.le_of_ble_eq_true rfl) (c_mayAsk (d + 2) 0 h1 nd ⟨hnd, by omega⟩ ⟨rfl, rfl⟩) ?_
    show xEx G0 cdX7_place none (xRn G0 MT (d + 3)) Q b 17 [some (.inr (.inr 44)), some (.inr (.inr 59)), some (.inl nd), some (.inl set), some (.inl 1), some (.inl (szf S T (S 0 0) (T 0 0) p 1 set)), some (.inl (-1)), none] [.inl 1] h1
    refine E_b (x := (.ifCond .eq 14, 24, [], [])) rfl rfl (fun c17 => ?_) (fun c17 => ?_)
    · show xEx G0 cdX7_place none (xRn G0 MT (d + 3)) Q b 24 [some (.inr (.inr 44)), some (.inr (.inr 59)), some (.inl nd), some (.inl set), some (.inl 1), some (.inl (szf S T (S 0 0) (T 0 0) p 1 set)), some (.inl (-1)), none] [] h1
      exact absurd c17 (by decide)
    · show xEx G0 cdX7_place none (xRn G0 MT (d + 3)) Q b 18 [some (.inr (.inr 44)), some (.inr (.inr 59)), some (.inl nd), some (.inl set), some (.inl 1), some (.inl (szf S T (S 0 0) (T 0 0) p 1 set)), some (.inl (-1)), none] [] h1
      refine E_s 4 (i' := 22) (ls' := [some (.inr (.inr 44)), some (.inr (.inr 59)), some (.inl nd), some (.inl set), some (.inl 1), some (.inl (szf S T (S 0 0) (T 0 0) p 1 set)), some (.inl (-1)), none]) (sk' := [.inl 1, .inl set, .inl (szf S T (S 0 0) (T 0 0) p 1 set), .inr (.inr 44)]) (h' := h1) rfl ?_
      refine E_cp (x := (.invokevirtual 118, 3, [(5, 67)], [0])) (q := fun r h9 => r = (bti S T (S 0 0) (T 0 0) p 1 set) ∧ FZ h1 h9 ∧ SVM h9 S T p m) rfl rfl (Nat.le_of_ble_eq_true rfl) (c_fTW1 d 0 h1 S T p set m (SVF_z f1 hV) m1 hs hlt (fun h9 z1 z2 => ⟨_, rfl, rfl, z1, z2⟩)) (fun r2 h2 hq2 => ?_)
      obtain ⟨er2, f2, m2⟩ := hq2
      show xEx G0 cdX7_place none (xRn G0 MT (d + 3)) Q b 23 [some (.inr (.inr 44)), some (.inr (.inr 59)), some (.inl nd), some (.inl set), some (.inl 1), some (.inl (szf S T (S 0 0) (T 0 0) p 1 set)), some (.inl (-1)), none] [.inl r2] h2
      refine E_ti (y := (bti S T (S 0 0) (T 0 0) p 1 set)) (by rw [er2]) ?_
      refine E_s 5 (i' := 28) (ls' := [some (.inr (.inr 44)), some (.inr (.inr 59)), some (.inl nd), some (.inl set), some (.inl 1), some (.inl (szf S T (S 0 0) (T 0 0) p 1 set)), some (.inl (bti S T (S 0 0) (T 0 0) p 1 set)), none]) (sk' := [.inl (bti S T (S 0 0) (T 0 0) p 1 set), .inl nd, .inr (.inr 60)]) (h' := h2) rfl ?_
      refine E_sd (x := (.iastore, 0, [], [])) (ty := .int) (n := 15) (y := (bti S T (S 0 0) (T 0 0) p 1 set)) rfl rfl rfl (by omega) (by omega) (trivial) ?_
      show xEx G0 cdX7_place none (xRn G0 MT (d + 3)) Q b 29 [some (.inr (.inr 44)), some (.inr (.inr 59)), some (.inl nd), some (.inl set), some (.inl 1), some (.inl (szf S T (S 0 0) (T 0 0) p 1 set)), some (.inl (bti S T (S 0 0) (T 0 0) p 1 set)), none] [] (xup h2 60 nd (bti S T (S 0 0) (T 0 0) p 1 set))
      refine E_s 2 (i' := 31) (ls' := [some (.inr (.inr 44)), some (.inr (.inr 59)), some (.inl nd), some (.inl set), some (.inl 1), some (.inl (szf S T (S 0 0) (T 0 0) p 1 set)), some (.inl (bti S T (S 0 0) (T 0 0) p 1 set)), none]) (sk' := [.inl (-1), .inl (bti S T (S 0 0) (T 0 0) p 1 set)]) (h' := (xup h2 60 nd (bti S T (S 0 0) (T 0 0) p 1 set))) rfl ?_
      refine E_b (x := (.if_icmp .ne 16, 41, [], [])) rfl rfl (fun c31 => ?_) (fun c31 => ?_)
      · rw [c_ne (by first | assumption | (refine ⟨?_, ?_⟩ <;> omega) | (simp only [xr] at *; omega)) (by first | assumption | (refine ⟨?_, ?_⟩ <;> omega) | (simp only [xr] at *; omega))] at c31
        simp only [decide_eq_true_eq, decide_eq_false_iff_not, Decidable.not_not] at c31
        show xEx G0 cdX7_place none (xRn G0 MT (d + 3)) Q b 41 [some (.inr (.inr 44)), some (.inr (.inr 59)), some (.inl nd), some (.inl set), some (.inl 1), some (.inl (szf S T (S 0 0) (T 0 0) p 1 set)), some (.inl (bti S T (S 0 0) (T 0 0) p 1 set)), none] [] (xup h2 60 nd (bti S T (S 0 0) (T 0 0) p 1 set))
        refine E_s 5 (i' := 46) (ls' := [some (.inr (.inr 44)), some (.inr (.inr 59)), some (.inl nd), some (.inl set), some (.inl 1), some (.inl (szf S T (S 0 0) (T 0 0) p 1 set)), some (.inl (bti S T (S 0 0) (T 0 0) p 1 set)), none]) (sk' := [.inl (bti S T (S 0 0) (T 0 0) p 1 set), .inr (.inr 39), .inl set]) (h' := (xup h2 60 nd (bti S T (S 0 0) (T 0 0) p 1 set))) rfl ?_
        refine E_ld (x := (.iaload, 0, [], [])) (ty := .int) (n := 150) rfl rfl rfl (by omega) (by omega) ?_
        show xEx G0 cdX7_place none (xRn G0 MT (d + 3)) Q b 47 [some (.inr (.inr 44)), some (.inr (.inr 59)), some (.inl nd), some (.inl set), some (.inl 1), some (.inl (szf S T (S 0 0) (T 0 0) p 1 set)), some (.inl (bti S T (S 0 0) (T 0 0) p 1 set)), none] [.inl (h2 39 (bti S T (S 0 0) (T 0 0) p 1 set)), .inl set] (xup h2 60 nd (bti S T (S 0 0) (T 0 0) p 1 set))
        refine E_s 6 (i' := 53) (ls' := [some (.inr (.inr 44)), some (.inr (.inr 59)), some (.inl nd), some (.inl set), some (.inl 1), some (.inl (szf S T (S 0 0) (T 0 0) p 1 set)), some (.inl (bti S T (S 0 0) (T 0 0) p 1 set)), some (.inl (xand set (h2 39 (bti S T (S 0 0) (T 0 0) p 1 set))))]) (sk' := [.inl 1, .inl nd, .inr (.inr 59), .inr (.inr 44)]) (h' := (xup h2 60 nd (bti S T (S 0 0) (T 0 0) p 1 set))) rfl ?_
        refine E_ci (x := (.invokestatic 127, 2, [(0, 45)], [])) (r := (2 * nd + 1)) (h' := (xup h2 60 nd (bti S T (S 0 0) (T 0 0) p 1 set))) rfl rfl (Nat.le_of_ble_eq_true rfl) (c_nb1 (d + 2) 0 (xup h2 60 nd (bti S T (S 0 0) (T 0 0) p 1 set)) nd ⟨rfl, rfl⟩) ?_
        show xEx G0 cdX7_place none (xRn G0 MT (d + 3)) Q b 54 [some (.inr (.inr 44)), some (.inr (.inr 59)), some (.inl nd), some (.inl set), some (.inl 1), some (.inl (szf S T (S 0 0) (T 0 0) p 1 set)), some (.inl (bti S T (S 0 0) (T 0 0) p 1 set)), some (.inl (xand set (h2 39 (bti S T (S 0 0) (T 0 0) p 1 set))))] [.inl (2 * nd + 1), .inr (.inr 59), .inr (.inr 44)] (xup h2 60 nd (bti S T (S 0 0) (T 0 0) p 1 set))
        refine E_s 4 (i' := 58) (ls' := [some (.inr (.inr 44)), some (.inr (.inr 59)), some (.inl nd), some (.inl set), some (.inl 1), some (.inl (szf S T (S 0 0) (T 0 0) p 1 set)), some (.inl (bti S T (S 0 0) (T 0 0) p 1 set)), some (.inl (xand set (h2 39 (bti S T (S 0 0) (T 0 0) p 1 set))))]) (sk' := [.inl 0, .inl (xand set (h2 39 (bti S T (S 0 0) (T 0 0) p 1 set))), .inl (2 * nd + 1), .inr (.inr 59), .inr (.inr 44)]) (h' := (xup h2 60 nd (bti S T (S 0 0) (T 0 0) p 1 set))) rfl ?_
        have v2 : SVF h2 S T p m := SVF_z (f1.tr f2) hV
        have w1 : SVF (xup h2 60 nd (bti S T (S 0 0) (T 0 0) p 1 set)) S T p m := by exact v2
        have w2 : SVM (xup h2 60 nd (bti S T (S 0 0) (T 0 0) p 1 set)) S T p m := m2
        have t6 : (xup h2 60 nd (bti S T (S 0 0) (T 0 0) p 1 set)) 39 (bti S T (S 0 0) (T 0 0) p 1 set) = T 6 (bti S T (S 0 0) (T 0 0) p 1 set) := (w1.2.1 _ bt0 bt1).2
        have o6 := (hV.1.2.2.2.2 _ bt0 bt1).2.1
        have i1 : ir m (xand set ((xup h2 60 nd (bti S T (S 0 0) (T 0 0) p 1 set)) 39 (bti S T (S 0 0) (T 0 0) p 1 set))) := by rw [t6]; exact xa_r hV.1.1 hs o6
        have i2 : ir m (xxor set (xand set ((xup h2 60 nd (bti S T (S 0 0) (T 0 0) p 1 set)) 39 (bti S T (S 0 0) (T 0 0) p 1 set)))) := xx_r hV.1.1 hs i1
        have g2 : ∀ a, a ≠ 49 → a ≠ 50 → h2 a = h a := fun a z1 z2 => (f1.tr f2) a z1 z2
        have nA : ∀ j, j ≠ nd → (xup h2 60 nd (bti S T (S 0 0) (T 0 0) p 1 set)) 60 j = h 60 j := fun j z => by rw [xup_j z, g2 _ (by decide) (by decide)]
        have nB : (xup h2 60 nd (bti S T (S 0 0) (T 0 0) p 1 set)) 61 = h 61 := by rw [xup_o _ _ _ _ _ (by decide), g2 _ (by decide) (by decide)]
        obtain ⟨D, rfl⟩ : ∃ D', D = D' + 1 := ⟨D - 1, by omega⟩
        have no1 : NO ((xup h2 60 nd (bti S T (S 0 0) (T 0 0) p 1 set)) 60) ((xup h2 60 nd (bti S T (S 0 0) (T 0 0) p 1 set)) 61) D (2 * nd + 1) := NO_fr D _ (fun j z => ⟨nA j ((sb_d (by omega) hnd).1 z).2, by rw [nB]⟩) hno.2.1
        have no2 : NO ((xup h2 60 nd (bti S T (S 0 0) (T 0 0) p 1 set)) 60) ((xup h2 60 nd (bti S T (S 0 0) (T 0 0) p 1 set)) 61) D (2 * nd + 2) := NO_fr D _ (fun j z => ⟨nA j ((sb_d (by omega) hnd).2 z), by rw [nB]⟩) hno.2.2
        refine E_cv (x := (.invokevirtual 131, 4, [(5, 66)], [0])) (q := fun h9 => FP 60 61 D (2 * nd + 1) (xup h2 60 nd (bti S T (S 0 0) (T 0 0) p 1 set)) h9 ∧ SVM h9 S T p m ∧ TV S T (S 0 0) (T 0 0) p (h9 60) (h9 61) D 0 (2 * nd + 1) (xand set ((xup h2 60 nd (bti S T (S 0 0) (T 0 0) p 1 set)) 39 (bti S T (S 0 0) (T 0 0) p 1 set)))) rfl rfl (Nat.le_of_ble_eq_true rfl) (c_pl_ri0 (d + 1) 0 (xup h2 60 nd (bti S T (S 0 0) (T 0 0) p 1 set)) S T p (xand set ((xup h2 60 nd (bti S T (S 0 0) (T 0 0) p 1 set)) 39 (bti S T (S 0 0) (T 0 0) p 1 set))) m D (2 * nd + 1) w1 w2 i1 (by omega) (by rw [t6]; omega) (by omega) (by omega) no1 (fun h9 z1 z2 z3 => ⟨rfl, z1, z2, z3⟩)) (fun h3 hq3 => ?_)
        obtain ⟨f3, m3, t3⟩ := hq3
        show xEx G0 cdX7_place none (xRn G0 MT (d + 3)) Q b 59 [some (.inr (.inr 44)), some (.inr (.inr 59)), some (.inl nd), some (.inl set), some (.inl 1), some (.inl (szf S T (S 0 0) (T 0 0) p 1 set)), some (.inl (bti S T (S 0 0) (T 0 0) p 1 set)), some (.inl (xand set (h2 39 (bti S T (S 0 0) (T 0 0) p 1 set))))] [] h3
        refine E_s 4 (i' := 63) (ls' := [some (.inr (.inr 44)), some (.inr (.inr 59)), some (.inl nd), some (.inl set), some (.inl 1), some (.inl (szf S T (S 0 0) (T 0 0) p 1 set)), some (.inl (bti S T (S 0 0) (T 0 0) p 1 set)), some (.inl (xand set (h2 39 (bti S T (S 0 0) (T 0 0) p 1 set))))]) (sk' := [.inl 0, .inl nd, .inr (.inr 59), .inr (.inr 44)]) (h' := h3) rfl ?_
        refine E_ci (x := (.invokestatic 127, 2, [(0, 45)], [])) (r := (2 * nd + 2)) (h' := h3) rfl rfl (Nat.le_of_ble_eq_true rfl) (c_nb0 (d + 2) 0 h3 nd ⟨rfl, rfl⟩) ?_
        show xEx G0 cdX7_place none (xRn G0 MT (d + 3)) Q b 64 [some (.inr (.inr 44)), some (.inr (.inr 59)), some (.inl nd), some (.inl set), some (.inl 1), some (.inl (szf S T (S 0 0) (T 0 0) p 1 set)), some (.inl (bti S T (S 0 0) (T 0 0) p 1 set)), some (.inl (xand set (h2 39 (bti S T (S 0 0) (T 0 0) p 1 set))))] [.inl (2 * nd + 2), .inr (.inr 59), .inr (.inr 44)] h3
        refine E_s 6 (i' := 70) (ls' := [some (.inr (.inr 44)), some (.inr (.inr 59)), some (.inl nd), some (.inl set), some (.inl 1), some (.inl (szf S T (S 0 0) (T 0 0) p 1 set)), some (.inl (bti S T (S 0 0) (T 0 0) p 1 set)), some (.inl (xand set (h2 39 (bti S T (S 0 0) (T 0 0) p 1 set))))]) (sk' := [.inl 0, .inl (xxor set (xand set (h2 39 (bti S T (S 0 0) (T 0 0) p 1 set)))), .inl (2 * nd + 2), .inr (.inr 59), .inr (.inr 44)]) (h' := h3) rfl ?_
        have no3 : NO (h3 60) (h3 61) D (2 * nd + 2) := NO_fr D _ (fun j z => f3.2 j (fun y => ((sb_d (by omega) hnd).1 y).1 z)) no2
        refine E_cv (x := (.invokevirtual 131, 4, [(5, 66)], [0])) (q := fun h9 => FP 60 61 D (2 * nd + 2) (h3) h9 ∧ SVM h9 S T p m ∧ TV S T (S 0 0) (T 0 0) p (h9 60) (h9 61) D 0 (2 * nd + 2) (xxor set (xand set ((xup h2 60 nd (bti S T (S 0 0) (T 0 0) p 1 set)) 39 (bti S T (S 0 0) (T 0 0) p 1 set))))) rfl rfl (Nat.le_of_ble_eq_true rfl) (c_pl_ri0 (d + 1) 0 h3 S T p (xxor set (xand set ((xup h2 60 nd (bti S T (S 0 0) (T 0 0) p 1 set)) 39 (bti S T (S 0 0) (T 0 0) p 1 set)))) m D (2 * nd + 2) (SVF_p (by decide) f3 w1) m3 i2 (by omega) (by rw [t6]; omega) (by omega) (by omega) no3 (fun h9 z1 z2 z3 => ⟨rfl, z1, z2, z3⟩)) (fun h4 hq4 => ?_)
        obtain ⟨f4, m4, t4⟩ := hq4
        show xEx G0 cdX7_place none (xRn G0 MT (d + 3)) Q b 71 [some (.inr (.inr 44)), some (.inr (.inr 59)), some (.inl nd), some (.inl set), some (.inl 1), some (.inl (szf S T (S 0 0) (T 0 0) p 1 set)), some (.inl (bti S T (S 0 0) (T 0 0) p 1 set)), some (.inl (xand set (h2 39 (bti S T (S 0 0) (T 0 0) p 1 set))))] [] h4
        exact E_ret (x := (.return_, 0, [], [])) (v := none) rfl (trivial) (by
          rw [t6] at t3 t4
          refine hQ _ ⟨fun a z1 z2 z3 z4 => by rw [f4.1 a z1 z2 z3 z4, f3.1 a z1 z2 z3 z4, xup_o _ _ _ _ a z3]; exact g2 a z1 z2, fun j z => ?_⟩ m4 (TV_node (by omega) hnd hbt ?_ ?_ f3.2 t3 f4.2 t4)
          · have zj : j ≠ nd := fun y => z (Or.inl y)
            obtain ⟨x1, x2⟩ := f4.2 j (fun y => z (Or.inr (Or.inr y)))
            obtain ⟨x3, x4⟩ := f3.2 j (fun y => z (Or.inr (Or.inl y)))
            rw [x1, x2, x3, x4, nA j zj, nB]
            exact ⟨rfl, rfl⟩
          · rw [xup_s]
          · rw [nB]; exact hno.1.2)
      · rw [c_ne (by first | assumption | (refine ⟨?_, ?_⟩ <;> omega) | (simp only [xr] at *; omega)) (by first | assumption | (refine ⟨?_, ?_⟩ <;> omega) | (simp only [xr] at *; omega))] at c31
        simp only [decide_eq_true_eq, decide_eq_false_iff_not, Decidable.not_not] at c31
        show xEx G0 cdX7_place none (xRn G0 MT (d + 3)) Q b 32 [some (.inr (.inr 44)), some (.inr (.inr 59)), some (.inl nd), some (.inl set), some (.inl 1), some (.inl (szf S T (S 0 0) (T 0 0) p 1 set)), some (.inl (bti S T (S 0 0) (T 0 0) p 1 set)), none] [] (xup h2 60 nd (bti S T (S 0 0) (T 0 0) p 1 set))
        exact absurd c31 hbt
set_option maxHeartbeats 1000000 in
theorem c_pl_ri2 (d b : Nat) (h S T : xH) (p set : Int) (m D : Nat) (nd : Int) (hV : SVF h S T p m) (hM : SVM h S T p m) (hs : ir m set) (hi : 2 ≤ D) (hz : szf S T (S 0 0) (T 0 0) p 2 set < 1000000) (hD : (D = 3 ∧ nd = 0) ∨ (D = 2 ∧ nd ≤ 2) ∨ (D = 1 ∧ nd ≤ 6) ∨ (D = 0 ∧ nd ≤ 14)) (hnd : 0 ≤ nd) (hno : NO (h 60) (h 61) D nd) {Q : xO → xH → Prop} (hQ : ∀ h', FP 60 61 D nd h h' → SVM h' S T p m → TV S T (S 0 0) (T 0 0) p (h' 60) (h' 61) D 2 nd set → Q (.inl none) h') : xRn G0 MT (d + 6) b 66 [.inr (.inr 44), .inr (.inr 59), .inl nd, .inl set, .inl 2] h Q := by
  refine R_of (M := mX7_place) rfl (Nat.le_of_ble_eq_true rfl) ?_
  show xEx G0 cdX7_place none (xRn G0 MT (d + 5)) Q b 0 [some (.inr (.inr 44)), some (.inr (.inr 59)), some (.inl nd), some (.inl set), some (.inl 2), none, none, none] [] h
  have r4 := ir4 hV.1.1 hs
  have e48 : h 48 set = sz0 S (S 0 0) p set := (hV.2.2.2.1 set hs).2
  have uk := hV.1.2.2.1
  have zr := szf_r (p := p) hV.1 2 set
  have z0 := sz0_r (p := p) hV.1 set
  have bs := bti_spec (S := S) (T := T) (KE := S 0 0) (KT := T 0 0) (p := p) uk.1 2 set
  refine E_s 3 (i' := 3) (ls' := [some (.inr (.inr 44)), some (.inr (.inr 59)), some (.inl nd), some (.inl set), some (.inl 2), none, none, none]) (sk' := [.inl 2, .inl set, .inr (.inr 44)]) (h' := h) rfl ?_
  refine E_cp (x := (.invokevirtual 99, 2, [(5, 63)], [0])) (q := fun r h9 => r = szf S T (S 0 0) (T 0 0) p 2 set ∧ FZ h h9 ∧ SVM h9 S T p m) rfl rfl (Nat.le_of_ble_eq_true rfl) (c_szO2 d 0 h S T p set m hV hM hs (fun h9 z1 z2 => ⟨_, rfl, rfl, z1, z2⟩)) (fun r1 h1 hq1 => ?_)
  obtain ⟨er1, f1, m1⟩ := hq1
  show xEx G0 cdX7_place none (xRn G0 MT (d + 5)) Q b 4 [some (.inr (.inr 44)), some (.inr (.inr 59)), some (.inl nd), some (.inl set), some (.inl 2), none, none, none] [.inl r1] h1
  refine E_ti (y := (szf S T (S 0 0) (T 0 0) p 2 set)) (by rw [er1]) ?_
  refine E_s 7 (i' := 11) (ls' := [some (.inr (.inr 44)), some (.inr (.inr 59)), some (.inl nd), some (.inl set), some (.inl 2), some (.inl (szf S T (S 0 0) (T 0 0) p 2 set)), some (.inl (-1)), none]) (sk' := [.inl 0, .inr (.inr 46), .inl (szf S T (S 0 0) (T 0 0) p 2 set)]) (h' := h1) rfl ?_
  refine E_ald (x := (.aaload, 0, [], [])) 0 rfl rfl rfl (rfl) rfl ?_
  show xEx G0 cdX7_place none (xRn G0 MT (d + 5)) Q b 12 [some (.inr (.inr 44)), some (.inr (.inr 59)), some (.inl nd), some (.inl set), some (.inl 2), some (.inl (szf S T (S 0 0) (T 0 0) p 2 set)), some (.inl (-1)), none] [.inr (.inr 48), .inl (szf S T (S 0 0) (T 0 0) p 2 set)] h1
  refine E_s 1 (i' := 13) (ls' := [some (.inr (.inr 44)), some (.inr (.inr 59)), some (.inl nd), some (.inl set), some (.inl 2), some (.inl (szf S T (S 0 0) (T 0 0) p 2 set)), some (.inl (-1)), none]) (sk' := [.inl set, .inr (.inr 48), .inl (szf S T (S 0 0) (T 0 0) p 2 set)]) (h' := h1) rfl ?_
  refine E_ld (x := (.iaload, 0, [], [])) (ty := .int) (n := 4096) rfl rfl rfl (by omega) (by omega) ?_
  show xEx G0 cdX7_place none (xRn G0 MT (d + 5)) Q b 14 [some (.inr (.inr 44)), some (.inr (.inr 59)), some (.inl nd), some (.inl set), some (.inl 2), some (.inl (szf S T (S 0 0) (T 0 0) p 2 set)), some (.inl (-1)), none] [.inl (h1 48 set), .inl (szf S T (S 0 0) (T 0 0) p 2 set)] h1
  refine E_b (x := (.if_icmp .eq 21, 24, [], [])) rfl rfl (fun c14 => ?_) (fun c14 => ?_)
  · rw [c_eq (by first | (rw [f1 _ (by decide) (by decide), e48]; exact ⟨by omega, by omega⟩) | (rw [e48]; exact ⟨by omega, by omega⟩) | exact ⟨by omega, by omega⟩) (by first | (rw [f1 _ (by decide) (by decide), e48]; exact ⟨by omega, by omega⟩) | (rw [e48]; exact ⟨by omega, by omega⟩) | exact ⟨by omega, by omega⟩)] at c14
    simp only [decide_eq_true_eq, decide_eq_false_iff_not, Decidable.not_not] at c14
    show xEx G0 cdX7_place none (xRn G0 MT (d + 5)) Q b 24 [some (.inr (.inr 44)), some (.inr (.inr 59)), some (.inl nd), some (.inl set), some (.inl 2), some (.inl (szf S T (S 0 0) (T 0 0) p 2 set)), some (.inl (-1)), none] [] h1
    refine E_s 4 (i' := 28) (ls' := [some (.inr (.inr 44)), some (.inr (.inr 59)), some (.inl nd), some (.inl set), some (.inl 2), some (.inl (szf S T (S 0 0) (T 0 0) p 2 set)), some (.inl (-1)), none]) (sk' := [.inl (-1), .inl nd, .inr (.inr 60)]) (h' := h1) rfl ?_
    refine E_sd (x := (.iastore, 0, [], [])) (ty := .int) (n := 15) (y := (-1)) rfl rfl rfl (by omega) (by omega) (trivial) ?_
    show xEx G0 cdX7_place none (xRn G0 MT (d + 5)) Q b 29 [some (.inr (.inr 44)), some (.inr (.inr 59)), some (.inl nd), some (.inl set), some (.inl 2), some (.inl (szf S T (S 0 0) (T 0 0) p 2 set)), some (.inl (-1)), none] [] (xup h1 60 nd (-1))
    refine E_s 2 (i' := 31) (ls' := [some (.inr (.inr 44)), some (.inr (.inr 59)), some (.inl nd), some (.inl set), some (.inl 2), some (.inl (szf S T (S 0 0) (T 0 0) p 2 set)), some (.inl (-1)), none]) (sk' := [.inl (-1), .inl (-1)]) (h' := (xup h1 60 nd (-1))) rfl ?_
    refine E_b (x := (.if_icmp .ne 16, 41, [], [])) rfl rfl (fun c31 => ?_) (fun c31 => ?_)
    · show xEx G0 cdX7_place none (xRn G0 MT (d + 5)) Q b 41 [some (.inr (.inr 44)), some (.inr (.inr 59)), some (.inl nd), some (.inl set), some (.inl 2), some (.inl (szf S T (S 0 0) (T 0 0) p 2 set)), some (.inl (-1)), none] [] (xup h1 60 nd (-1))
      exact absurd c31 (by decide)
    · show xEx G0 cdX7_place none (xRn G0 MT (d + 5)) Q b 32 [some (.inr (.inr 44)), some (.inr (.inr 59)), some (.inl nd), some (.inl set), some (.inl 2), some (.inl (szf S T (S 0 0) (T 0 0) p 2 set)), some (.inl (-1)), none] [] (xup h1 60 nd (-1))
      have hz0 : szf S T (S 0 0) (T 0 0) p 2 set = sz0 S (S 0 0) p set := by rw [f1 _ (by decide) (by decide), e48] at c14; exact c14
      have hbt : (bti S T (S 0 0) (T 0 0) p 2 set) = -1 := by
        rcases bs with ⟨-, z9⟩ | ⟨z9, -⟩
        · exact z9
        · omega
      have l45 : h 45 set = lf S (S 0 0) p set := by
        rw [(hV.2.2.2.1 set hs).1, if_neg]
        intro z9
        have : sz0 S (S 0 0) p set = 1000000 := by unfold sz0; rw [if_pos z9]
        omega
      refine E_s 6 (i' := 38) (ls' := [some (.inr (.inr 44)), some (.inr (.inr 59)), some (.inl nd), some (.inl set), some (.inl 2), some (.inl (szf S T (S 0 0) (T 0 0) p 2 set)), some (.inl (-1)), none]) (sk' := [.inl set, .inr (.inr 45), .inl nd, .inr (.inr 61)]) (h' := (xup h1 60 nd (-1))) rfl ?_
      refine E_ld (x := (.iaload, 0, [], [])) (ty := .int) (n := 4096) rfl rfl rfl (by omega) (by omega) ?_
      show xEx G0 cdX7_place none (xRn G0 MT (d + 5)) Q b 39 [some (.inr (.inr 44)), some (.inr (.inr 59)), some (.inl nd), some (.inl set), some (.inl 2), some (.inl (szf S T (S 0 0) (T 0 0) p 2 set)), some (.inl (-1)), none] [.inl (h1 45 set), .inl nd, .inr (.inr 61)] (xup h1 60 nd (-1))
      refine E_sd (x := (.iastore, 0, [], [])) (ty := .int) (n := 15) (y := (h1 45 set)) rfl rfl rfl (by omega) (by omega) (trivial) ?_
      show xEx G0 cdX7_place none (xRn G0 MT (d + 5)) Q b 40 [some (.inr (.inr 44)), some (.inr (.inr 59)), some (.inl nd), some (.inl set), some (.inl 2), some (.inl (szf S T (S 0 0) (T 0 0) p 2 set)), some (.inl (-1)), none] [] (xup (xup h1 60 nd (-1)) 61 nd (h1 45 set))
      exact E_ret (x := (.return_, 0, [], [])) (v := none) rfl (trivial) (by
        have e45 : h1 45 set = lf S (S 0 0) p set := by rw [f1 _ (by decide) (by decide)]; exact l45
        refine hQ _ ⟨fun a z1 z2 z3 z4 => by rw [xup_o _ _ _ _ a z4, xup_o _ _ _ _ a z3]; exact f1 a z1 z2, fun j z => ?_⟩ m1 (TV_leaf (by omega) hnd hno hbt ?_ ?_ (fun j z => ?_))
        · have zj : j ≠ nd := fun y => z (by rw [y]; exact sb_s D nd)
          rw [xup_o _ _ _ _ _ (by decide), xup_j zj, xup_j zj, xup_o _ _ _ _ _ (by decide), f1 _ (by decide) (by decide), f1 _ (by decide) (by decide)]
          exact ⟨rfl, rfl⟩
        · rw [xup_o _ _ _ _ _ (by decide), xup_s]
        · rw [xup_s]; exact e45
        · rw [xup_o _ _ _ _ _ (by decide), xup_j z, xup_j z, xup_o _ _ _ _ _ (by decide), f1 _ (by decide) (by decide), f1 _ (by decide) (by decide)]
          exact ⟨rfl, rfl⟩)
  · rw [c_eq (by first | (rw [f1 _ (by decide) (by decide), e48]; exact ⟨by omega, by omega⟩) | (rw [e48]; exact ⟨by omega, by omega⟩) | exact ⟨by omega, by omega⟩) (by first | (rw [f1 _ (by decide) (by decide), e48]; exact ⟨by omega, by omega⟩) | (rw [e48]; exact ⟨by omega, by omega⟩) | exact ⟨by omega, by omega⟩)] at c14
    simp only [decide_eq_true_eq, decide_eq_false_iff_not, Decidable.not_not] at c14
    show xEx G0 cdX7_place none (xRn G0 MT (d + 5)) Q b 15 [some (.inr (.inr 44)), some (.inr (.inr 59)), some (.inl nd), some (.inl set), some (.inl 2), some (.inl (szf S T (S 0 0) (T 0 0) p 2 set)), some (.inl (-1)), none] [] h1
    have hlt : szf S T (S 0 0) (T 0 0) p 2 set < sz0 S (S 0 0) p set := by
      rw [f1 _ (by decide) (by decide), e48] at c14
      rcases bs with ⟨z9, -⟩ | ⟨z9, -⟩
      · exact absurd z9 c14
      · exact z9
    obtain ⟨bt0, bt1, be⟩ : 0 ≤ (bti S T (S 0 0) (T 0 0) p 2 set) ∧ (bti S T (S 0 0) (T 0 0) p 2 set) < T 0 0 ∧ szt T (szf S T (S 0 0) (T 0 0) p 1) set (bti S T (S 0 0) (T 0 0) p 2 set) = szf S T (S 0 0) (T 0 0) p 2 set := by
      rcases bs with ⟨z9, -⟩ | ⟨-, j, e, b1, b2, b3, b4, -⟩
      · omega
      · have e : j = 1 := by omega
        subst e
        exact ⟨b1, b2, b4⟩
    have hbt : (bti S T (S 0 0) (T 0 0) p 2 set) ≠ -1 := by omega
    have za := szf_r (p := p) hV.1 1 (xand set (T 6 (bti S T (S 0 0) (T 0 0) p 2 set)))
    have zb := szf_r (p := p) hV.1 1 (xxor set (xand set (T 6 (bti S T (S 0 0) (T 0 0) p 2 set))))
    have zt := (hV.1.2.2.2.2 _ bt0 bt1).1
    have be9 := be
    unfold szt at be9
    clear bs
    refine E_s 1 (i' := 16) (ls' := [some (.inr (.inr 44)), some (.inr (.inr 59)), some (.inl nd), some (.inl set), some (.inl 2), some (.inl (szf S T (S 0 0) (T 0 0) p 2 set)), some (.inl (-1)), none]) (sk' := [.inl nd]) (h' := h1) rfl ?_
    refine E_ci (x := (.invokestatic 112, 1, [(0, 46)], [])) (r := 1) (h' := h1) rfl rfl (Nat.le_of_ble_eq_true rfl) (c_mayAsk (d + 4) 0 h1 nd ⟨hnd, by omega⟩ ⟨rfl, rfl⟩) ?_
    show xEx G0 cdX7_place none (xRn G0 MT (d + 5)) Q b 17 [some (.inr (.inr 44)), some (.inr (.inr 59)), some (.inl nd), some (.inl set), some (.inl 2), some (.inl (szf S T (S 0 0) (T 0 0) p 2 set)), some (.inl (-1)), none] [.inl 1] h1
    refine E_b (x := (.ifCond .eq 14, 24, [], [])) rfl rfl (fun c17 => ?_) (fun c17 => ?_)
    · show xEx G0 cdX7_place none (xRn G0 MT (d + 5)) Q b 24 [some (.inr (.inr 44)), some (.inr (.inr 59)), some (.inl nd), some (.inl set), some (.inl 2), some (.inl (szf S T (S 0 0) (T 0 0) p 2 set)), some (.inl (-1)), none] [] h1
      exact absurd c17 (by decide)
    · show xEx G0 cdX7_place none (xRn G0 MT (d + 5)) Q b 18 [some (.inr (.inr 44)), some (.inr (.inr 59)), some (.inl nd), some (.inl set), some (.inl 2), some (.inl (szf S T (S 0 0) (T 0 0) p 2 set)), some (.inl (-1)), none] [] h1
      refine E_s 4 (i' := 22) (ls' := [some (.inr (.inr 44)), some (.inr (.inr 59)), some (.inl nd), some (.inl set), some (.inl 2), some (.inl (szf S T (S 0 0) (T 0 0) p 2 set)), some (.inl (-1)), none]) (sk' := [.inl 2, .inl set, .inl (szf S T (S 0 0) (T 0 0) p 2 set), .inr (.inr 44)]) (h' := h1) rfl ?_
      refine E_cp (x := (.invokevirtual 118, 3, [(5, 67)], [0])) (q := fun r h9 => r = (bti S T (S 0 0) (T 0 0) p 2 set) ∧ FZ h1 h9 ∧ SVM h9 S T p m) rfl rfl (Nat.le_of_ble_eq_true rfl) (c_fTW2 d 0 h1 S T p set m (SVF_z f1 hV) m1 hs hlt (fun h9 z1 z2 => ⟨_, rfl, rfl, z1, z2⟩)) (fun r2 h2 hq2 => ?_)
      obtain ⟨er2, f2, m2⟩ := hq2
      show xEx G0 cdX7_place none (xRn G0 MT (d + 5)) Q b 23 [some (.inr (.inr 44)), some (.inr (.inr 59)), some (.inl nd), some (.inl set), some (.inl 2), some (.inl (szf S T (S 0 0) (T 0 0) p 2 set)), some (.inl (-1)), none] [.inl r2] h2
      refine E_ti (y := (bti S T (S 0 0) (T 0 0) p 2 set)) (by rw [er2]) ?_
      refine E_s 5 (i' := 28) (ls' := [some (.inr (.inr 44)), some (.inr (.inr 59)), some (.inl nd), some (.inl set), some (.inl 2), some (.inl (szf S T (S 0 0) (T 0 0) p 2 set)), some (.inl (bti S T (S 0 0) (T 0 0) p 2 set)), none]) (sk' := [.inl (bti S T (S 0 0) (T 0 0) p 2 set), .inl nd, .inr (.inr 60)]) (h' := h2) rfl ?_
      refine E_sd (x := (.iastore, 0, [], [])) (ty := .int) (n := 15) (y := (bti S T (S 0 0) (T 0 0) p 2 set)) rfl rfl rfl (by omega) (by omega) (trivial) ?_
      show xEx G0 cdX7_place none (xRn G0 MT (d + 5)) Q b 29 [some (.inr (.inr 44)), some (.inr (.inr 59)), some (.inl nd), some (.inl set), some (.inl 2), some (.inl (szf S T (S 0 0) (T 0 0) p 2 set)), some (.inl (bti S T (S 0 0) (T 0 0) p 2 set)), none] [] (xup h2 60 nd (bti S T (S 0 0) (T 0 0) p 2 set))
      refine E_s 2 (i' := 31) (ls' := [some (.inr (.inr 44)), some (.inr (.inr 59)), some (.inl nd), some (.inl set), some (.inl 2), some (.inl (szf S T (S 0 0) (T 0 0) p 2 set)), some (.inl (bti S T (S 0 0) (T 0 0) p 2 set)), none]) (sk' := [.inl (-1), .inl (bti S T (S 0 0) (T 0 0) p 2 set)]) (h' := (xup h2 60 nd (bti S T (S 0 0) (T 0 0) p 2 set))) rfl ?_
      refine E_b (x := (.if_icmp .ne 16, 41, [], [])) rfl rfl (fun c31 => ?_) (fun c31 => ?_)
      · rw [c_ne (by first | assumption | (refine ⟨?_, ?_⟩ <;> omega) | (simp only [xr] at *; omega)) (by first | assumption | (refine ⟨?_, ?_⟩ <;> omega) | (simp only [xr] at *; omega))] at c31
        simp only [decide_eq_true_eq, decide_eq_false_iff_not, Decidable.not_not] at c31
        show xEx G0 cdX7_place none (xRn G0 MT (d + 5)) Q b 41 [some (.inr (.inr 44)), some (.inr (.inr 59)), some (.inl nd), some (.inl set), some (.inl 2), some (.inl (szf S T (S 0 0) (T 0 0) p 2 set)), some (.inl (bti S T (S 0 0) (T 0 0) p 2 set)), none] [] (xup h2 60 nd (bti S T (S 0 0) (T 0 0) p 2 set))
        refine E_s 5 (i' := 46) (ls' := [some (.inr (.inr 44)), some (.inr (.inr 59)), some (.inl nd), some (.inl set), some (.inl 2), some (.inl (szf S T (S 0 0) (T 0 0) p 2 set)), some (.inl (bti S T (S 0 0) (T 0 0) p 2 set)), none]) (sk' := [.inl (bti S T (S 0 0) (T 0 0) p 2 set), .inr (.inr 39), .inl set]) (h' := (xup h2 60 nd (bti S T (S 0 0) (T 0 0) p 2 set))) rfl ?_
        refine E_ld (x := (.iaload, 0, [], [])) (ty := .int) (n := 150) rfl rfl rfl (by omega) (by omega) ?_
        show xEx G0 cdX7_place none (xRn G0 MT (d + 5)) Q b 47 [some (.inr (.inr 44)), some (.inr (.inr 59)), some (.inl nd), some (.inl set), some (.inl 2), some (.inl (szf S T (S 0 0) (T 0 0) p 2 set)), some (.inl (bti S T (S 0 0) (T 0 0) p 2 set)), none] [.inl (h2 39 (bti S T (S 0 0) (T 0 0) p 2 set)), .inl set] (xup h2 60 nd (bti S T (S 0 0) (T 0 0) p 2 set))
        refine E_s 6 (i' := 53) (ls' := [some (.inr (.inr 44)), some (.inr (.inr 59)), some (.inl nd), some (.inl set), some (.inl 2), some (.inl (szf S T (S 0 0) (T 0 0) p 2 set)), some (.inl (bti S T (S 0 0) (T 0 0) p 2 set)), some (.inl (xand set (h2 39 (bti S T (S 0 0) (T 0 0) p 2 set))))]) (sk' := [.inl 1, .inl nd, .inr (.inr 59), .inr (.inr 44)]) (h' := (xup h2 60 nd (bti S T (S 0 0) (T 0 0) p 2 set))) rfl ?_
        refine E_ci (x := (.invokestatic 127, 2, [(0, 45)], [])) (r := (2 * nd + 1)) (h' := (xup h2 60 nd (bti S T (S 0 0) (T 0 0) p 2 set))) rfl rfl (Nat.le_of_ble_eq_true rfl) (c_nb1 (d + 4) 0 (xup h2 60 nd (bti S T (S 0 0) (T 0 0) p 2 set)) nd ⟨rfl, rfl⟩) ?_
        show xEx G0 cdX7_place none (xRn G0 MT (d + 5)) Q b 54 [some (.inr (.inr 44)), some (.inr (.inr 59)), some (.inl nd), some (.inl set), some (.inl 2), some (.inl (szf S T (S 0 0) (T 0 0) p 2 set)), some (.inl (bti S T (S 0 0) (T 0 0) p 2 set)), some (.inl (xand set (h2 39 (bti S T (S 0 0) (T 0 0) p 2 set))))] [.inl (2 * nd + 1), .inr (.inr 59), .inr (.inr 44)] (xup h2 60 nd (bti S T (S 0 0) (T 0 0) p 2 set))
        refine E_s 4 (i' := 58) (ls' := [some (.inr (.inr 44)), some (.inr (.inr 59)), some (.inl nd), some (.inl set), some (.inl 2), some (.inl (szf S T (S 0 0) (T 0 0) p 2 set)), some (.inl (bti S T (S 0 0) (T 0 0) p 2 set)), some (.inl (xand set (h2 39 (bti S T (S 0 0) (T 0 0) p 2 set))))]) (sk' := [.inl 1, .inl (xand set (h2 39 (bti S T (S 0 0) (T 0 0) p 2 set))), .inl (2 * nd + 1), .inr (.inr 59), .inr (.inr 44)]) (h' := (xup h2 60 nd (bti S T (S 0 0) (T 0 0) p 2 set))) rfl ?_
        have v2 : SVF h2 S T p m := SVF_z (f1.tr f2) hV
        have w1 : SVF (xup h2 60 nd (bti S T (S 0 0) (T 0 0) p 2 set)) S T p m := by exact v2
        have w2 : SVM (xup h2 60 nd (bti S T (S 0 0) (T 0 0) p 2 set)) S T p m := m2
        have t6 : (xup h2 60 nd (bti S T (S 0 0) (T 0 0) p 2 set)) 39 (bti S T (S 0 0) (T 0 0) p 2 set) = T 6 (bti S T (S 0 0) (T 0 0) p 2 set) := (w1.2.1 _ bt0 bt1).2
        have o6 := (hV.1.2.2.2.2 _ bt0 bt1).2.1
        have i1 : ir m (xand set ((xup h2 60 nd (bti S T (S 0 0) (T 0 0) p 2 set)) 39 (bti S T (S 0 0) (T 0 0) p 2 set))) := by rw [t6]; exact xa_r hV.1.1 hs o6
        have i2 : ir m (xxor set (xand set ((xup h2 60 nd (bti S T (S 0 0) (T 0 0) p 2 set)) 39 (bti S T (S 0 0) (T 0 0) p 2 set)))) := xx_r hV.1.1 hs i1
        have g2 : ∀ a, a ≠ 49 → a ≠ 50 → h2 a = h a := fun a z1 z2 => (f1.tr f2) a z1 z2
        have nA : ∀ j, j ≠ nd → (xup h2 60 nd (bti S T (S 0 0) (T 0 0) p 2 set)) 60 j = h 60 j := fun j z => by rw [xup_j z, g2 _ (by decide) (by decide)]
        have nB : (xup h2 60 nd (bti S T (S 0 0) (T 0 0) p 2 set)) 61 = h 61 := by rw [xup_o _ _ _ _ _ (by decide), g2 _ (by decide) (by decide)]
        obtain ⟨D, rfl⟩ : ∃ D', D = D' + 1 := ⟨D - 1, by omega⟩
        have no1 : NO ((xup h2 60 nd (bti S T (S 0 0) (T 0 0) p 2 set)) 60) ((xup h2 60 nd (bti S T (S 0 0) (T 0 0) p 2 set)) 61) D (2 * nd + 1) := NO_fr D _ (fun j z => ⟨nA j ((sb_d (by omega) hnd).1 z).2, by rw [nB]⟩) hno.2.1
        have no2 : NO ((xup h2 60 nd (bti S T (S 0 0) (T 0 0) p 2 set)) 60) ((xup h2 60 nd (bti S T (S 0 0) (T 0 0) p 2 set)) 61) D (2 * nd + 2) := NO_fr D _ (fun j z => ⟨nA j ((sb_d (by omega) hnd).2 z), by rw [nB]⟩) hno.2.2
        refine E_cv (x := (.invokevirtual 131, 4, [(5, 66)], [0])) (q := fun h9 => FP 60 61 D (2 * nd + 1) (xup h2 60 nd (bti S T (S 0 0) (T 0 0) p 2 set)) h9 ∧ SVM h9 S T p m ∧ TV S T (S 0 0) (T 0 0) p (h9 60) (h9 61) D 1 (2 * nd + 1) (xand set ((xup h2 60 nd (bti S T (S 0 0) (T 0 0) p 2 set)) 39 (bti S T (S 0 0) (T 0 0) p 2 set)))) rfl rfl (Nat.le_of_ble_eq_true rfl) (c_pl_ri1 (d + 1) 0 (xup h2 60 nd (bti S T (S 0 0) (T 0 0) p 2 set)) S T p (xand set ((xup h2 60 nd (bti S T (S 0 0) (T 0 0) p 2 set)) 39 (bti S T (S 0 0) (T 0 0) p 2 set))) m D (2 * nd + 1) w1 w2 i1 (by omega) (by rw [t6]; omega) (by omega) (by omega) no1 (fun h9 z1 z2 z3 => ⟨rfl, z1, z2, z3⟩)) (fun h3 hq3 => ?_)
        obtain ⟨f3, m3, t3⟩ := hq3
        show xEx G0 cdX7_place none (xRn G0 MT (d + 5)) Q b 59 [some (.inr (.inr 44)), some (.inr (.inr 59)), some (.inl nd), some (.inl set), some (.inl 2), some (.inl (szf S T (S 0 0) (T 0 0) p 2 set)), some (.inl (bti S T (S 0 0) (T 0 0) p 2 set)), some (.inl (xand set (h2 39 (bti S T (S 0 0) (T 0 0) p 2 set))))] [] h3
        refine E_s 4 (i' := 63) (ls' := [some (.inr (.inr 44)), some (.inr (.inr 59)), some (.inl nd), some (.inl set), some (.inl 2), some (.inl (szf S T (S 0 0) (T 0 0) p 2 set)), some (.inl (bti S T (S 0 0) (T 0 0) p 2 set)), some (.inl (xand set (h2 39 (bti S T (S 0 0) (T 0 0) p 2 set))))]) (sk' := [.inl 0, .inl nd, .inr (.inr 59), .inr (.inr 44)]) (h' := h3) rfl ?_
        refine E_ci (x := (.invokestatic 127, 2, [(0, 45)], [])) (r := (2 * nd + 2)) (h' := h3) rfl rfl (Nat.le_of_ble_eq_true rfl) (c_nb0 (d + 4) 0 h3 nd ⟨rfl, rfl⟩) ?_
        show xEx G0 cdX7_place none (xRn G0 MT (d + 5)) Q b 64 [some (.inr (.inr 44)), some (.inr (.inr 59)), some (.inl nd), some (.inl set), some (.inl 2), some (.inl (szf S T (S 0 0) (T 0 0) p 2 set)), some (.inl (bti S T (S 0 0) (T 0 0) p 2 set)), some (.inl (xand set (h2 39 (bti S T (S 0 0) (T 0 0) p 2 set))))] [.inl (2 * nd + 2), .inr (.inr 59), .inr (.inr 44)] h3
        refine E_s 6 (i' := 70) (ls' := [some (.inr (.inr 44)), some (.inr (.inr 59)), some (.inl nd), some (.inl set), some (.inl 2), some (.inl (szf S T (S 0 0) (T 0 0) p 2 set)), some (.inl (bti S T (S 0 0) (T 0 0) p 2 set)), some (.inl (xand set (h2 39 (bti S T (S 0 0) (T 0 0) p 2 set))))]) (sk' := [.inl 1, .inl (xxor set (xand set (h2 39 (bti S T (S 0 0) (T 0 0) p 2 set)))), .inl (2 * nd + 2), .inr (.inr 59), .inr (.inr 44)]) (h' := h3) rfl ?_
        have no3 : NO (h3 60) (h3 61) D (2 * nd + 2) := NO_fr D _ (fun j z => f3.2 j (fun y => ((sb_d (by omega) hnd).1 y).1 z)) no2
        refine E_cv (x := (.invokevirtual 131, 4, [(5, 66)], [0])) (q := fun h9 => FP 60 61 D (2 * nd + 2) (h3) h9 ∧ SVM h9 S T p m ∧ TV S T (S 0 0) (T 0 0) p (h9 60) (h9 61) D 1 (2 * nd + 2) (xxor set (xand set ((xup h2 60 nd (bti S T (S 0 0) (T 0 0) p 2 set)) 39 (bti S T (S 0 0) (T 0 0) p 2 set))))) rfl rfl (Nat.le_of_ble_eq_true rfl) (c_pl_ri1 (d + 1) 0 h3 S T p (xxor set (xand set ((xup h2 60 nd (bti S T (S 0 0) (T 0 0) p 2 set)) 39 (bti S T (S 0 0) (T 0 0) p 2 set)))) m D (2 * nd + 2) (SVF_p (by decide) f3 w1) m3 i2 (by omega) (by rw [t6]; omega) (by omega) (by omega) no3 (fun h9 z1 z2 z3 => ⟨rfl, z1, z2, z3⟩)) (fun h4 hq4 => ?_)
        obtain ⟨f4, m4, t4⟩ := hq4
        show xEx G0 cdX7_place none (xRn G0 MT (d + 5)) Q b 71 [some (.inr (.inr 44)), some (.inr (.inr 59)), some (.inl nd), some (.inl set), some (.inl 2), some (.inl (szf S T (S 0 0) (T 0 0) p 2 set)), some (.inl (bti S T (S 0 0) (T 0 0) p 2 set)), some (.inl (xand set (h2 39 (bti S T (S 0 0) (T 0 0) p 2 set))))] [] h4
        exact E_ret (x := (.return_, 0, [], [])) (v := none) rfl (trivial) (by
          rw [t6] at t3 t4
          refine hQ _ ⟨fun a z1 z2 z3 z4 => by rw [f4.1 a z1 z2 z3 z4, f3.1 a z1 z2 z3 z4, xup_o _ _ _ _ a z3]; exact g2 a z1 z2, fun j z => ?_⟩ m4 (TV_node (by omega) hnd hbt ?_ ?_ f3.2 t3 f4.2 t4)
          · have zj : j ≠ nd := fun y => z (Or.inl y)
            obtain ⟨x1, x2⟩ := f4.2 j (fun y => z (Or.inr (Or.inr y)))
            obtain ⟨x3, x4⟩ := f3.2 j (fun y => z (Or.inr (Or.inl y)))
            rw [x1, x2, x3, x4, nA j zj, nB]
            exact ⟨rfl, rfl⟩
          · rw [xup_s]
          · rw [nB]; exact hno.1.2)
      · rw [c_ne (by first | assumption | (refine ⟨?_, ?_⟩ <;> omega) | (simp only [xr] at *; omega)) (by first | assumption | (refine ⟨?_, ?_⟩ <;> omega) | (simp only [xr] at *; omega))] at c31
        simp only [decide_eq_true_eq, decide_eq_false_iff_not, Decidable.not_not] at c31
        show xEx G0 cdX7_place none (xRn G0 MT (d + 5)) Q b 32 [some (.inr (.inr 44)), some (.inr (.inr 59)), some (.inl nd), some (.inl set), some (.inl 2), some (.inl (szf S T (S 0 0) (T 0 0) p 2 set)), some (.inl (bti S T (S 0 0) (T 0 0) p 2 set)), none] [] (xup h2 60 nd (bti S T (S 0 0) (T 0 0) p 2 set))
        exact absurd c31 hbt
set_option maxHeartbeats 1000000 in
theorem c_pl_ri3 (d b : Nat) (h S T : xH) (p set : Int) (m D : Nat) (nd : Int) (hV : SVF h S T p m) (hM : SVM h S T p m) (hs : ir m set) (hi : 3 ≤ D) (hz : szf S T (S 0 0) (T 0 0) p 3 set < 1000000) (hD : (D = 3 ∧ nd = 0) ∨ (D = 2 ∧ nd ≤ 2) ∨ (D = 1 ∧ nd ≤ 6) ∨ (D = 0 ∧ nd ≤ 14)) (hnd : 0 ≤ nd) (hno : NO (h 60) (h 61) D nd) {Q : xO → xH → Prop} (hQ : ∀ h', FP 60 61 D nd h h' → SVM h' S T p m → TV S T (S 0 0) (T 0 0) p (h' 60) (h' 61) D 3 nd set → Q (.inl none) h') : xRn G0 MT (d + 8) b 66 [.inr (.inr 44), .inr (.inr 59), .inl nd, .inl set, .inl 3] h Q := by
  refine R_of (M := mX7_place) rfl (Nat.le_of_ble_eq_true rfl) ?_
  show xEx G0 cdX7_place none (xRn G0 MT (d + 7)) Q b 0 [some (.inr (.inr 44)), some (.inr (.inr 59)), some (.inl nd), some (.inl set), some (.inl 3), none, none, none] [] h
  have r4 := ir4 hV.1.1 hs
  have e48 : h 48 set = sz0 S (S 0 0) p set := (hV.2.2.2.1 set hs).2
  have uk := hV.1.2.2.1
  have zr := szf_r (p := p) hV.1 3 set
  have z0 := sz0_r (p := p) hV.1 set
  have bs := bti_spec (S := S) (T := T) (KE := S 0 0) (KT := T 0 0) (p := p) uk.1 3 set
  refine E_s 3 (i' := 3) (ls' := [some (.inr (.inr 44)), some (.inr (.inr 59)), some (.inl nd), some (.inl set), some (.inl 3), none, none, none]) (sk' := [.inl 3, .inl set, .inr (.inr 44)]) (h' := h) rfl ?_
  refine E_cp (x := (.invokevirtual 99, 2, [(5, 63)], [0])) (q := fun r h9 => r = szf S T (S 0 0) (T 0 0) p 3 set ∧ FZ h h9 ∧ SVM h9 S T p m) rfl rfl (Nat.le_of_ble_eq_true rfl) (c_szO3 d 0 h S T p set m hV hM hs (fun h9 z1 z2 => ⟨_, rfl, rfl, z1, z2⟩)) (fun r1 h1 hq1 => ?_)
  obtain ⟨er1, f1, m1⟩ := hq1
  show xEx G0 cdX7_place none (xRn G0 MT (d + 7)) Q b 4 [some (.inr (.inr 44)), some (.inr (.inr 59)), some (.inl nd), some (.inl set), some (.inl 3), none, none, none] [.inl r1] h1
  refine E_ti (y := (szf S T (S 0 0) (T 0 0) p 3 set)) (by rw [er1]) ?_
  refine E_s 7 (i' := 11) (ls' := [some (.inr (.inr 44)), some (.inr (.inr 59)), some (.inl nd), some (.inl set), some (.inl 3), some (.inl (szf S T (S 0 0) (T 0 0) p 3 set)), some (.inl (-1)), none]) (sk' := [.inl 0, .inr (.inr 46), .inl (szf S T (S 0 0) (T 0 0) p 3 set)]) (h' := h1) rfl ?_
  refine E_ald (x := (.aaload, 0, [], [])) 0 rfl rfl rfl (rfl) rfl ?_
  show xEx G0 cdX7_place none (xRn G0 MT (d + 7)) Q b 12 [some (.inr (.inr 44)), some (.inr (.inr 59)), some (.inl nd), some (.inl set), some (.inl 3), some (.inl (szf S T (S 0 0) (T 0 0) p 3 set)), some (.inl (-1)), none] [.inr (.inr 48), .inl (szf S T (S 0 0) (T 0 0) p 3 set)] h1
  refine E_s 1 (i' := 13) (ls' := [some (.inr (.inr 44)), some (.inr (.inr 59)), some (.inl nd), some (.inl set), some (.inl 3), some (.inl (szf S T (S 0 0) (T 0 0) p 3 set)), some (.inl (-1)), none]) (sk' := [.inl set, .inr (.inr 48), .inl (szf S T (S 0 0) (T 0 0) p 3 set)]) (h' := h1) rfl ?_
  refine E_ld (x := (.iaload, 0, [], [])) (ty := .int) (n := 4096) rfl rfl rfl (by omega) (by omega) ?_
  show xEx G0 cdX7_place none (xRn G0 MT (d + 7)) Q b 14 [some (.inr (.inr 44)), some (.inr (.inr 59)), some (.inl nd), some (.inl set), some (.inl 3), some (.inl (szf S T (S 0 0) (T 0 0) p 3 set)), some (.inl (-1)), none] [.inl (h1 48 set), .inl (szf S T (S 0 0) (T 0 0) p 3 set)] h1
  refine E_b (x := (.if_icmp .eq 21, 24, [], [])) rfl rfl (fun c14 => ?_) (fun c14 => ?_)
  · rw [c_eq (by first | (rw [f1 _ (by decide) (by decide), e48]; exact ⟨by omega, by omega⟩) | (rw [e48]; exact ⟨by omega, by omega⟩) | exact ⟨by omega, by omega⟩) (by first | (rw [f1 _ (by decide) (by decide), e48]; exact ⟨by omega, by omega⟩) | (rw [e48]; exact ⟨by omega, by omega⟩) | exact ⟨by omega, by omega⟩)] at c14
    simp only [decide_eq_true_eq, decide_eq_false_iff_not, Decidable.not_not] at c14
    show xEx G0 cdX7_place none (xRn G0 MT (d + 7)) Q b 24 [some (.inr (.inr 44)), some (.inr (.inr 59)), some (.inl nd), some (.inl set), some (.inl 3), some (.inl (szf S T (S 0 0) (T 0 0) p 3 set)), some (.inl (-1)), none] [] h1
    refine E_s 4 (i' := 28) (ls' := [some (.inr (.inr 44)), some (.inr (.inr 59)), some (.inl nd), some (.inl set), some (.inl 3), some (.inl (szf S T (S 0 0) (T 0 0) p 3 set)), some (.inl (-1)), none]) (sk' := [.inl (-1), .inl nd, .inr (.inr 60)]) (h' := h1) rfl ?_
    refine E_sd (x := (.iastore, 0, [], [])) (ty := .int) (n := 15) (y := (-1)) rfl rfl rfl (by omega) (by omega) (trivial) ?_
    show xEx G0 cdX7_place none (xRn G0 MT (d + 7)) Q b 29 [some (.inr (.inr 44)), some (.inr (.inr 59)), some (.inl nd), some (.inl set), some (.inl 3), some (.inl (szf S T (S 0 0) (T 0 0) p 3 set)), some (.inl (-1)), none] [] (xup h1 60 nd (-1))
    refine E_s 2 (i' := 31) (ls' := [some (.inr (.inr 44)), some (.inr (.inr 59)), some (.inl nd), some (.inl set), some (.inl 3), some (.inl (szf S T (S 0 0) (T 0 0) p 3 set)), some (.inl (-1)), none]) (sk' := [.inl (-1), .inl (-1)]) (h' := (xup h1 60 nd (-1))) rfl ?_
    refine E_b (x := (.if_icmp .ne 16, 41, [], [])) rfl rfl (fun c31 => ?_) (fun c31 => ?_)
    · show xEx G0 cdX7_place none (xRn G0 MT (d + 7)) Q b 41 [some (.inr (.inr 44)), some (.inr (.inr 59)), some (.inl nd), some (.inl set), some (.inl 3), some (.inl (szf S T (S 0 0) (T 0 0) p 3 set)), some (.inl (-1)), none] [] (xup h1 60 nd (-1))
      exact absurd c31 (by decide)
    · show xEx G0 cdX7_place none (xRn G0 MT (d + 7)) Q b 32 [some (.inr (.inr 44)), some (.inr (.inr 59)), some (.inl nd), some (.inl set), some (.inl 3), some (.inl (szf S T (S 0 0) (T 0 0) p 3 set)), some (.inl (-1)), none] [] (xup h1 60 nd (-1))
      have hz0 : szf S T (S 0 0) (T 0 0) p 3 set = sz0 S (S 0 0) p set := by rw [f1 _ (by decide) (by decide), e48] at c14; exact c14
      have hbt : (bti S T (S 0 0) (T 0 0) p 3 set) = -1 := by
        rcases bs with ⟨-, z9⟩ | ⟨z9, -⟩
        · exact z9
        · omega
      have l45 : h 45 set = lf S (S 0 0) p set := by
        rw [(hV.2.2.2.1 set hs).1, if_neg]
        intro z9
        have : sz0 S (S 0 0) p set = 1000000 := by unfold sz0; rw [if_pos z9]
        omega
      refine E_s 6 (i' := 38) (ls' := [some (.inr (.inr 44)), some (.inr (.inr 59)), some (.inl nd), some (.inl set), some (.inl 3), some (.inl (szf S T (S 0 0) (T 0 0) p 3 set)), some (.inl (-1)), none]) (sk' := [.inl set, .inr (.inr 45), .inl nd, .inr (.inr 61)]) (h' := (xup h1 60 nd (-1))) rfl ?_
      refine E_ld (x := (.iaload, 0, [], [])) (ty := .int) (n := 4096) rfl rfl rfl (by omega) (by omega) ?_
      show xEx G0 cdX7_place none (xRn G0 MT (d + 7)) Q b 39 [some (.inr (.inr 44)), some (.inr (.inr 59)), some (.inl nd), some (.inl set), some (.inl 3), some (.inl (szf S T (S 0 0) (T 0 0) p 3 set)), some (.inl (-1)), none] [.inl (h1 45 set), .inl nd, .inr (.inr 61)] (xup h1 60 nd (-1))
      refine E_sd (x := (.iastore, 0, [], [])) (ty := .int) (n := 15) (y := (h1 45 set)) rfl rfl rfl (by omega) (by omega) (trivial) ?_
      show xEx G0 cdX7_place none (xRn G0 MT (d + 7)) Q b 40 [some (.inr (.inr 44)), some (.inr (.inr 59)), some (.inl nd), some (.inl set), some (.inl 3), some (.inl (szf S T (S 0 0) (T 0 0) p 3 set)), some (.inl (-1)), none] [] (xup (xup h1 60 nd (-1)) 61 nd (h1 45 set))
      exact E_ret (x := (.return_, 0, [], [])) (v := none) rfl (trivial) (by
        have e45 : h1 45 set = lf S (S 0 0) p set := by rw [f1 _ (by decide) (by decide)]; exact l45
        refine hQ _ ⟨fun a z1 z2 z3 z4 => by rw [xup_o _ _ _ _ a z4, xup_o _ _ _ _ a z3]; exact f1 a z1 z2, fun j z => ?_⟩ m1 (TV_leaf (by omega) hnd hno hbt ?_ ?_ (fun j z => ?_))
        · have zj : j ≠ nd := fun y => z (by rw [y]; exact sb_s D nd)
          rw [xup_o _ _ _ _ _ (by decide), xup_j zj, xup_j zj, xup_o _ _ _ _ _ (by decide), f1 _ (by decide) (by decide), f1 _ (by decide) (by decide)]
          exact ⟨rfl, rfl⟩
        · rw [xup_o _ _ _ _ _ (by decide), xup_s]
        · rw [xup_s]; exact e45
        · rw [xup_o _ _ _ _ _ (by decide), xup_j z, xup_j z, xup_o _ _ _ _ _ (by decide), f1 _ (by decide) (by decide), f1 _ (by decide) (by decide)]
          exact ⟨rfl, rfl⟩)
  · rw [c_eq (by first | (rw [f1 _ (by decide) (by decide), e48]; exact ⟨by omega, by omega⟩) | (rw [e48]; exact ⟨by omega, by omega⟩) | exact ⟨by omega, by omega⟩) (by first | (rw [f1 _ (by decide) (by decide), e48]; exact ⟨by omega, by omega⟩) | (rw [e48]; exact ⟨by omega, by omega⟩) | exact ⟨by omega, by omega⟩)] at c14
    simp only [decide_eq_true_eq, decide_eq_false_iff_not, Decidable.not_not] at c14
    show xEx G0 cdX7_place none (xRn G0 MT (d + 7)) Q b 15 [some (.inr (.inr 44)), some (.inr (.inr 59)), some (.inl nd), some (.inl set), some (.inl 3), some (.inl (szf S T (S 0 0) (T 0 0) p 3 set)), some (.inl (-1)), none] [] h1
    have hlt : szf S T (S 0 0) (T 0 0) p 3 set < sz0 S (S 0 0) p set := by
      rw [f1 _ (by decide) (by decide), e48] at c14
      rcases bs with ⟨z9, -⟩ | ⟨z9, -⟩
      · exact absurd z9 c14
      · exact z9
    obtain ⟨bt0, bt1, be⟩ : 0 ≤ (bti S T (S 0 0) (T 0 0) p 3 set) ∧ (bti S T (S 0 0) (T 0 0) p 3 set) < T 0 0 ∧ szt T (szf S T (S 0 0) (T 0 0) p 2) set (bti S T (S 0 0) (T 0 0) p 3 set) = szf S T (S 0 0) (T 0 0) p 3 set := by
      rcases bs with ⟨z9, -⟩ | ⟨-, j, e, b1, b2, b3, b4, -⟩
      · omega
      · have e : j = 2 := by omega
        subst e
        exact ⟨b1, b2, b4⟩
    have hbt : (bti S T (S 0 0) (T 0 0) p 3 set) ≠ -1 := by omega
    have za := szf_r (p := p) hV.1 2 (xand set (T 6 (bti S T (S 0 0) (T 0 0) p 3 set)))
    have zb := szf_r (p := p) hV.1 2 (xxor set (xand set (T 6 (bti S T (S 0 0) (T 0 0) p 3 set))))
    have zt := (hV.1.2.2.2.2 _ bt0 bt1).1
    have be9 := be
    unfold szt at be9
    clear bs
    refine E_s 1 (i' := 16) (ls' := [some (.inr (.inr 44)), some (.inr (.inr 59)), some (.inl nd), some (.inl set), some (.inl 3), some (.inl (szf S T (S 0 0) (T 0 0) p 3 set)), some (.inl (-1)), none]) (sk' := [.inl nd]) (h' := h1) rfl ?_
    refine E_ci (x := (.invokestatic 112, 1, [(0, 46)], [])) (r := 1) (h' := h1) rfl rfl (Nat.le_of_ble_eq_true rfl) (c_mayAsk (d + 6) 0 h1 nd ⟨hnd, by omega⟩ ⟨rfl, rfl⟩) ?_
    show xEx G0 cdX7_place none (xRn G0 MT (d + 7)) Q b 17 [some (.inr (.inr 44)), some (.inr (.inr 59)), some (.inl nd), some (.inl set), some (.inl 3), some (.inl (szf S T (S 0 0) (T 0 0) p 3 set)), some (.inl (-1)), none] [.inl 1] h1
    refine E_b (x := (.ifCond .eq 14, 24, [], [])) rfl rfl (fun c17 => ?_) (fun c17 => ?_)
    · show xEx G0 cdX7_place none (xRn G0 MT (d + 7)) Q b 24 [some (.inr (.inr 44)), some (.inr (.inr 59)), some (.inl nd), some (.inl set), some (.inl 3), some (.inl (szf S T (S 0 0) (T 0 0) p 3 set)), some (.inl (-1)), none] [] h1
      exact absurd c17 (by decide)
    · show xEx G0 cdX7_place none (xRn G0 MT (d + 7)) Q b 18 [some (.inr (.inr 44)), some (.inr (.inr 59)), some (.inl nd), some (.inl set), some (.inl 3), some (.inl (szf S T (S 0 0) (T 0 0) p 3 set)), some (.inl (-1)), none] [] h1
      refine E_s 4 (i' := 22) (ls' := [some (.inr (.inr 44)), some (.inr (.inr 59)), some (.inl nd), some (.inl set), some (.inl 3), some (.inl (szf S T (S 0 0) (T 0 0) p 3 set)), some (.inl (-1)), none]) (sk' := [.inl 3, .inl set, .inl (szf S T (S 0 0) (T 0 0) p 3 set), .inr (.inr 44)]) (h' := h1) rfl ?_
      refine E_cp (x := (.invokevirtual 118, 3, [(5, 67)], [0])) (q := fun r h9 => r = (bti S T (S 0 0) (T 0 0) p 3 set) ∧ FZ h1 h9 ∧ SVM h9 S T p m) rfl rfl (Nat.le_of_ble_eq_true rfl) (c_fTW3 d 0 h1 S T p set m (SVF_z f1 hV) m1 hs hlt (fun h9 z1 z2 => ⟨_, rfl, rfl, z1, z2⟩)) (fun r2 h2 hq2 => ?_)
      obtain ⟨er2, f2, m2⟩ := hq2
      show xEx G0 cdX7_place none (xRn G0 MT (d + 7)) Q b 23 [some (.inr (.inr 44)), some (.inr (.inr 59)), some (.inl nd), some (.inl set), some (.inl 3), some (.inl (szf S T (S 0 0) (T 0 0) p 3 set)), some (.inl (-1)), none] [.inl r2] h2
      refine E_ti (y := (bti S T (S 0 0) (T 0 0) p 3 set)) (by rw [er2]) ?_
      refine E_s 5 (i' := 28) (ls' := [some (.inr (.inr 44)), some (.inr (.inr 59)), some (.inl nd), some (.inl set), some (.inl 3), some (.inl (szf S T (S 0 0) (T 0 0) p 3 set)), some (.inl (bti S T (S 0 0) (T 0 0) p 3 set)), none]) (sk' := [.inl (bti S T (S 0 0) (T 0 0) p 3 set), .inl nd, .inr (.inr 60)]) (h' := h2) rfl ?_
      refine E_sd (x := (.iastore, 0, [], [])) (ty := .int) (n := 15) (y := (bti S T (S 0 0) (T 0 0) p 3 set)) rfl rfl rfl (by omega) (by omega) (trivial) ?_
      show xEx G0 cdX7_place none (xRn G0 MT (d + 7)) Q b 29 [some (.inr (.inr 44)), some (.inr (.inr 59)), some (.inl nd), some (.inl set), some (.inl 3), some (.inl (szf S T (S 0 0) (T 0 0) p 3 set)), some (.inl (bti S T (S 0 0) (T 0 0) p 3 set)), none] [] (xup h2 60 nd (bti S T (S 0 0) (T 0 0) p 3 set))
      refine E_s 2 (i' := 31) (ls' := [some (.inr (.inr 44)), some (.inr (.inr 59)), some (.inl nd), some (.inl set), some (.inl 3), some (.inl (szf S T (S 0 0) (T 0 0) p 3 set)), some (.inl (bti S T (S 0 0) (T 0 0) p 3 set)), none]) (sk' := [.inl (-1), .inl (bti S T (S 0 0) (T 0 0) p 3 set)]) (h' := (xup h2 60 nd (bti S T (S 0 0) (T 0 0) p 3 set))) rfl ?_
      refine E_b (x := (.if_icmp .ne 16, 41, [], [])) rfl rfl (fun c31 => ?_) (fun c31 => ?_)
      · rw [c_ne (by first | assumption | (refine ⟨?_, ?_⟩ <;> omega) | (simp only [xr] at *; omega)) (by first | assumption | (refine ⟨?_, ?_⟩ <;> omega) | (simp only [xr] at *; omega))] at c31
        simp only [decide_eq_true_eq, decide_eq_false_iff_not, Decidable.not_not] at c31
        show xEx G0 cdX7_place none (xRn G0 MT (d + 7)) Q b 41 [some (.inr (.inr 44)), some (.inr (.inr 59)), some (.inl nd), some (.inl set), some (.inl 3), some (.inl (szf S T (S 0 0) (T 0 0) p 3 set)), some (.inl (bti S T (S 0 0) (T 0 0) p 3 set)), none] [] (xup h2 60 nd (bti S T (S 0 0) (T 0 0) p 3 set))
        refine E_s 5 (i' := 46) (ls' := [some (.inr (.inr 44)), some (.inr (.inr 59)), some (.inl nd), some (.inl set), some (.inl 3), some (.inl (szf S T (S 0 0) (T 0 0) p 3 set)), some (.inl (bti S T (S 0 0) (T 0 0) p 3 set)), none]) (sk' := [.inl (bti S T (S 0 0) (T 0 0) p 3 set), .inr (.inr 39), .inl set]) (h' := (xup h2 60 nd (bti S T (S 0 0) (T 0 0) p 3 set))) rfl ?_
        refine E_ld (x := (.iaload, 0, [], [])) (ty := .int) (n := 150) rfl rfl rfl (by omega) (by omega) ?_
        show xEx G0 cdX7_place none (xRn G0 MT (d + 7)) Q b 47 [some (.inr (.inr 44)), some (.inr (.inr 59)), some (.inl nd), some (.inl set), some (.inl 3), some (.inl (szf S T (S 0 0) (T 0 0) p 3 set)), some (.inl (bti S T (S 0 0) (T 0 0) p 3 set)), none] [.inl (h2 39 (bti S T (S 0 0) (T 0 0) p 3 set)), .inl set] (xup h2 60 nd (bti S T (S 0 0) (T 0 0) p 3 set))
        refine E_s 6 (i' := 53) (ls' := [some (.inr (.inr 44)), some (.inr (.inr 59)), some (.inl nd), some (.inl set), some (.inl 3), some (.inl (szf S T (S 0 0) (T 0 0) p 3 set)), some (.inl (bti S T (S 0 0) (T 0 0) p 3 set)), some (.inl (xand set (h2 39 (bti S T (S 0 0) (T 0 0) p 3 set))))]) (sk' := [.inl 1, .inl nd, .inr (.inr 59), .inr (.inr 44)]) (h' := (xup h2 60 nd (bti S T (S 0 0) (T 0 0) p 3 set))) rfl ?_
        refine E_ci (x := (.invokestatic 127, 2, [(0, 45)], [])) (r := (2 * nd + 1)) (h' := (xup h2 60 nd (bti S T (S 0 0) (T 0 0) p 3 set))) rfl rfl (Nat.le_of_ble_eq_true rfl) (c_nb1 (d + 6) 0 (xup h2 60 nd (bti S T (S 0 0) (T 0 0) p 3 set)) nd ⟨rfl, rfl⟩) ?_
        show xEx G0 cdX7_place none (xRn G0 MT (d + 7)) Q b 54 [some (.inr (.inr 44)), some (.inr (.inr 59)), some (.inl nd), some (.inl set), some (.inl 3), some (.inl (szf S T (S 0 0) (T 0 0) p 3 set)), some (.inl (bti S T (S 0 0) (T 0 0) p 3 set)), some (.inl (xand set (h2 39 (bti S T (S 0 0) (T 0 0) p 3 set))))] [.inl (2 * nd + 1), .inr (.inr 59), .inr (.inr 44)] (xup h2 60 nd (bti S T (S 0 0) (T 0 0) p 3 set))
        refine E_s 4 (i' := 58) (ls' := [some (.inr (.inr 44)), some (.inr (.inr 59)), some (.inl nd), some (.inl set), some (.inl 3), some (.inl (szf S T (S 0 0) (T 0 0) p 3 set)), some (.inl (bti S T (S 0 0) (T 0 0) p 3 set)), some (.inl (xand set (h2 39 (bti S T (S 0 0) (T 0 0) p 3 set))))]) (sk' := [.inl 2, .inl (xand set (h2 39 (bti S T (S 0 0) (T 0 0) p 3 set))), .inl (2 * nd + 1), .inr (.inr 59), .inr (.inr 44)]) (h' := (xup h2 60 nd (bti S T (S 0 0) (T 0 0) p 3 set))) rfl ?_
        have v2 : SVF h2 S T p m := SVF_z (f1.tr f2) hV
        have w1 : SVF (xup h2 60 nd (bti S T (S 0 0) (T 0 0) p 3 set)) S T p m := by exact v2
        have w2 : SVM (xup h2 60 nd (bti S T (S 0 0) (T 0 0) p 3 set)) S T p m := m2
        have t6 : (xup h2 60 nd (bti S T (S 0 0) (T 0 0) p 3 set)) 39 (bti S T (S 0 0) (T 0 0) p 3 set) = T 6 (bti S T (S 0 0) (T 0 0) p 3 set) := (w1.2.1 _ bt0 bt1).2
        have o6 := (hV.1.2.2.2.2 _ bt0 bt1).2.1
        have i1 : ir m (xand set ((xup h2 60 nd (bti S T (S 0 0) (T 0 0) p 3 set)) 39 (bti S T (S 0 0) (T 0 0) p 3 set))) := by rw [t6]; exact xa_r hV.1.1 hs o6
        have i2 : ir m (xxor set (xand set ((xup h2 60 nd (bti S T (S 0 0) (T 0 0) p 3 set)) 39 (bti S T (S 0 0) (T 0 0) p 3 set)))) := xx_r hV.1.1 hs i1
        have g2 : ∀ a, a ≠ 49 → a ≠ 50 → h2 a = h a := fun a z1 z2 => (f1.tr f2) a z1 z2
        have nA : ∀ j, j ≠ nd → (xup h2 60 nd (bti S T (S 0 0) (T 0 0) p 3 set)) 60 j = h 60 j := fun j z => by rw [xup_j z, g2 _ (by decide) (by decide)]
        have nB : (xup h2 60 nd (bti S T (S 0 0) (T 0 0) p 3 set)) 61 = h 61 := by rw [xup_o _ _ _ _ _ (by decide), g2 _ (by decide) (by decide)]
        obtain ⟨D, rfl⟩ : ∃ D', D = D' + 1 := ⟨D - 1, by omega⟩
        have no1 : NO ((xup h2 60 nd (bti S T (S 0 0) (T 0 0) p 3 set)) 60) ((xup h2 60 nd (bti S T (S 0 0) (T 0 0) p 3 set)) 61) D (2 * nd + 1) := NO_fr D _ (fun j z => ⟨nA j ((sb_d (by omega) hnd).1 z).2, by rw [nB]⟩) hno.2.1
        have no2 : NO ((xup h2 60 nd (bti S T (S 0 0) (T 0 0) p 3 set)) 60) ((xup h2 60 nd (bti S T (S 0 0) (T 0 0) p 3 set)) 61) D (2 * nd + 2) := NO_fr D _ (fun j z => ⟨nA j ((sb_d (by omega) hnd).2 z), by rw [nB]⟩) hno.2.2
        refine E_cv (x := (.invokevirtual 131, 4, [(5, 66)], [0])) (q := fun h9 => FP 60 61 D (2 * nd + 1) (xup h2 60 nd (bti S T (S 0 0) (T 0 0) p 3 set)) h9 ∧ SVM h9 S T p m ∧ TV S T (S 0 0) (T 0 0) p (h9 60) (h9 61) D 2 (2 * nd + 1) (xand set ((xup h2 60 nd (bti S T (S 0 0) (T 0 0) p 3 set)) 39 (bti S T (S 0 0) (T 0 0) p 3 set)))) rfl rfl (Nat.le_of_ble_eq_true rfl) (c_pl_ri2 (d + 1) 0 (xup h2 60 nd (bti S T (S 0 0) (T 0 0) p 3 set)) S T p (xand set ((xup h2 60 nd (bti S T (S 0 0) (T 0 0) p 3 set)) 39 (bti S T (S 0 0) (T 0 0) p 3 set))) m D (2 * nd + 1) w1 w2 i1 (by omega) (by rw [t6]; omega) (by omega) (by omega) no1 (fun h9 z1 z2 z3 => ⟨rfl, z1, z2, z3⟩)) (fun h3 hq3 => ?_)
        obtain ⟨f3, m3, t3⟩ := hq3
        show xEx G0 cdX7_place none (xRn G0 MT (d + 7)) Q b 59 [some (.inr (.inr 44)), some (.inr (.inr 59)), some (.inl nd), some (.inl set), some (.inl 3), some (.inl (szf S T (S 0 0) (T 0 0) p 3 set)), some (.inl (bti S T (S 0 0) (T 0 0) p 3 set)), some (.inl (xand set (h2 39 (bti S T (S 0 0) (T 0 0) p 3 set))))] [] h3
        refine E_s 4 (i' := 63) (ls' := [some (.inr (.inr 44)), some (.inr (.inr 59)), some (.inl nd), some (.inl set), some (.inl 3), some (.inl (szf S T (S 0 0) (T 0 0) p 3 set)), some (.inl (bti S T (S 0 0) (T 0 0) p 3 set)), some (.inl (xand set (h2 39 (bti S T (S 0 0) (T 0 0) p 3 set))))]) (sk' := [.inl 0, .inl nd, .inr (.inr 59), .inr (.inr 44)]) (h' := h3) rfl ?_
        refine E_ci (x := (.invokestatic 127, 2, [(0, 45)], [])) (r := (2 * nd + 2)) (h' := h3) rfl rfl (Nat.le_of_ble_eq_true rfl) (c_nb0 (d + 6) 0 h3 nd ⟨rfl, rfl⟩) ?_
        show xEx G0 cdX7_place none (xRn G0 MT (d + 7)) Q b 64 [some (.inr (.inr 44)), some (.inr (.inr 59)), some (.inl nd), some (.inl set), some (.inl 3), some (.inl (szf S T (S 0 0) (T 0 0) p 3 set)), some (.inl (bti S T (S 0 0) (T 0 0) p 3 set)), some (.inl (xand set (h2 39 (bti S T (S 0 0) (T 0 0) p 3 set))))] [.inl (2 * nd + 2), .inr (.inr 59), .inr (.inr 44)] h3
        refine E_s 6 (i' := 70) (ls' := [some (.inr (.inr 44)), some (.inr (.inr 59)), some (.inl nd), some (.inl set), some (.inl 3), some (.inl (szf S T (S 0 0) (T 0 0) p 3 set)), some (.inl (bti S T (S 0 0) (T 0 0) p 3 set)), some (.inl (xand set (h2 39 (bti S T (S 0 0) (T 0 0) p 3 set))))]) (sk' := [.inl 2, .inl (xxor set (xand set (h2 39 (bti S T (S 0 0) (T 0 0) p 3 set)))), .inl (2 * nd + 2), .inr (.inr 59), .inr (.inr 44)]) (h' := h3) rfl ?_
        have no3 : NO (h3 60) (h3 61) D (2 * nd + 2) := NO_fr D _ (fun j z => f3.2 j (fun y => ((sb_d (by omega) hnd).1 y).1 z)) no2
        refine E_cv (x := (.invokevirtual 131, 4, [(5, 66)], [0])) (q := fun h9 => FP 60 61 D (2 * nd + 2) (h3) h9 ∧ SVM h9 S T p m ∧ TV S T (S 0 0) (T 0 0) p (h9 60) (h9 61) D 2 (2 * nd + 2) (xxor set (xand set ((xup h2 60 nd (bti S T (S 0 0) (T 0 0) p 3 set)) 39 (bti S T (S 0 0) (T 0 0) p 3 set))))) rfl rfl (Nat.le_of_ble_eq_true rfl) (c_pl_ri2 (d + 1) 0 h3 S T p (xxor set (xand set ((xup h2 60 nd (bti S T (S 0 0) (T 0 0) p 3 set)) 39 (bti S T (S 0 0) (T 0 0) p 3 set)))) m D (2 * nd + 2) (SVF_p (by decide) f3 w1) m3 i2 (by omega) (by rw [t6]; omega) (by omega) (by omega) no3 (fun h9 z1 z2 z3 => ⟨rfl, z1, z2, z3⟩)) (fun h4 hq4 => ?_)
        obtain ⟨f4, m4, t4⟩ := hq4
        show xEx G0 cdX7_place none (xRn G0 MT (d + 7)) Q b 71 [some (.inr (.inr 44)), some (.inr (.inr 59)), some (.inl nd), some (.inl set), some (.inl 3), some (.inl (szf S T (S 0 0) (T 0 0) p 3 set)), some (.inl (bti S T (S 0 0) (T 0 0) p 3 set)), some (.inl (xand set (h2 39 (bti S T (S 0 0) (T 0 0) p 3 set))))] [] h4
        exact E_ret (x := (.return_, 0, [], [])) (v := none) rfl (trivial) (by
          rw [t6] at t3 t4
          refine hQ _ ⟨fun a z1 z2 z3 z4 => by rw [f4.1 a z1 z2 z3 z4, f3.1 a z1 z2 z3 z4, xup_o _ _ _ _ a z3]; exact g2 a z1 z2, fun j z => ?_⟩ m4 (TV_node (by omega) hnd hbt ?_ ?_ f3.2 t3 f4.2 t4)
          · have zj : j ≠ nd := fun y => z (Or.inl y)
            obtain ⟨x1, x2⟩ := f4.2 j (fun y => z (Or.inr (Or.inr y)))
            obtain ⟨x3, x4⟩ := f3.2 j (fun y => z (Or.inr (Or.inl y)))
            rw [x1, x2, x3, x4, nA j zj, nB]
            exact ⟨rfl, rfl⟩
          · rw [xup_s]
          · rw [nB]; exact hno.1.2)
      · rw [c_ne (by first | assumption | (refine ⟨?_, ?_⟩ <;> omega) | (simp only [xr] at *; omega)) (by first | assumption | (refine ⟨?_, ?_⟩ <;> omega) | (simp only [xr] at *; omega))] at c31
        simp only [decide_eq_true_eq, decide_eq_false_iff_not, Decidable.not_not] at c31
        show xEx G0 cdX7_place none (xRn G0 MT (d + 7)) Q b 32 [some (.inr (.inr 44)), some (.inr (.inr 59)), some (.inl nd), some (.inl set), some (.inl 3), some (.inl (szf S T (S 0 0) (T 0 0) p 3 set)), some (.inl (bti S T (S 0 0) (T 0 0) p 3 set)), none] [] (xup h2 60 nd (bti S T (S 0 0) (T 0 0) p 3 set))
        exact absurd c31 hbt
