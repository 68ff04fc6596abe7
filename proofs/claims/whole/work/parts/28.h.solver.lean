theorem SVR_z {h h' S T : xH} {p : Int} {m : Nat} (f : ∀ a, a < 56 → a ≠ 49 → a ≠ 50 → h' a = h a) (vm : SVM h' S T p m) (v : SVR h S T p m) : SVR h' S T p m := by
  obtain ⟨r1, r2, r3, r4, v1, -, v3, v4, v5⟩ := v
  have e44 := f 44 (by decide) (by decide) (by decide)
  refine ⟨by rw [e44]; exact r1, by rw [e44]; exact r2, by rw [e44]; exact r3, by rw [e44]; exact r4, ?_, vm, ?_, ?_, ?_⟩
  · unfold SVF at *
    rw [f 37 (by decide) (by decide) (by decide), f 39 (by decide) (by decide) (by decide), f 18 (by decide) (by decide) (by decide), f 20 (by decide) (by decide) (by decide), f 45 (by decide) (by decide) (by decide), f 48 (by decide) (by decide) (by decide), e44, f 55 (by decide) (by decide) (by decide)]
    exact v1
  · unfold SVW at *
    rw [f 51 (by decide) (by decide) (by decide), f 52 (by decide) (by decide) (by decide), f 53 (by decide) (by decide) (by decide)]
    exact v3
  · unfold SVN at *
    rw [f 54 (by decide) (by decide) (by decide)]
    exact v4
  · unfold SVC at *
    rw [e44]
    exact v5
theorem ir_all {n : Int} {m : Nat} (h0 : 0 ≤ n) (h1 : n ≤ 12) (hm : m = n.toNat) : ir m (xshl 1 n - 1) := by
  subst hm
  exact all_e h0 h1
theorem sno_r {z : Int} (h : 1 ≤ z ∧ z ≤ 1000000) : -1 ≤ sno z ∧ sno z < 1000000 := by
  unfold sno
  split <;> omega
theorem sno_1 {z : Int} (h : 1 ≤ z ∧ z ≤ 1000000) (e : sno z = -1) : z = 1000000 := by
  unfold sno at e
  split at e <;> omega
theorem sno_2 {z : Int} (h : 1 ≤ z ∧ z ≤ 1000000) (e : ¬ sno z = -1) : z < 1000000 ∧ sno z = z := by
  unfold sno at *
  split at e
  · omega
  · rename_i y
    exact ⟨by omega, if_neg y⟩
def SETP (h h' S T : xH) (m : Nat) (ifs : Int) : Prop := (∀ a, (a < 44 ∨ a = 46 ∨ a = 47 ∨ 58 < a) → h' a = h a) ∧ SVR h' S T (-1) m ∧ ((szf S T (S 0 0) (T 0 0) (-1) ifs.toNat (xshl 1 (h 1 2) - 1) = 1000000 ∧ h' 56 4 = 0) ∨ (szf S T (S 0 0) (T 0 0) (-1) ifs.toNat (xshl 1 (h 1 2) - 1) < 1000000 ∧ h' 56 4 = 1 ∧ h' 56 5 = szf S T (S 0 0) (T 0 0) (-1) ifs.toNat (xshl 1 (h 1 2) - 1) ∧ h' 56 6 = ifs ∧ TV S T (S 0 0) (T 0 0) (-1) (h' 57) (h' 58) 3 ifs.toNat 0 (xshl 1 (h 1 2) - 1)))
noncomputable def ndd (z : Nat → Int) : Int := if z 0 < 1000000 then 0 else if z 1 < 1000000 then 1 else if z 2 < 1000000 then 2 else if z 3 < 1000000 then 3 else -1
theorem c_pl_pr (d b : Nat) (h S T : xH) (p set ifs : Int) (m : Nat) (hV : SVF h S T p m) (hM : SVM h S T p m) (hs : ir m set) (hi : 0 ≤ ifs ∧ ifs ≤ 3) (hz : szf S T (S 0 0) (T 0 0) p ifs.toNat set < 1000000) (hno : NO (h 57) (h 58) 3 0) {Q : xO → xH → Prop} (hQ : ∀ h', FP 57 58 3 0 h h' → SVM h' S T p m → TV S T (S 0 0) (T 0 0) p (h' 57) (h' 58) 3 ifs.toNat 0 set → Q (.inl none) h') : xRn G0 MT (d + 8) b 66 [.inr (.inr 44), .inr (.inr 56), .inl 0, .inl set, .inl ifs] h Q := by
  have : ifs = 0 ∨ ifs = 1 ∨ ifs = 2 ∨ ifs = 3 := by omega
  rcases this with rfl | rfl | rfl | rfl
  · exact c_pl_pr0 (d + 6) b h S T p set m 3 0 hV hM hs (by decide) hz (by omega) (by omega) hno hQ
  · exact c_pl_pr1 (d + 4) b h S T p set m 3 0 hV hM hs (by decide) hz (by omega) (by omega) hno hQ
  · exact c_pl_pr2 (d + 2) b h S T p set m 3 0 hV hM hs (by decide) hz (by omega) (by omega) hno hQ
  · exact c_pl_pr3 d b h S T p set m 3 0 hV hM hs (by decide) hz (by omega) (by omega) hno hQ
set_option maxHeartbeats 1000000 in
theorem c_clear_pr (d b : Nat) (h : xH) {Q : xO → xH → Prop} (hQ : ∀ h', (∀ a, a ≠ 57 → a ≠ 58 → h' a = h a) → (∀ j, 0 ≤ j → j < 15 → h' 57 j = -1 ∧ h' 58 j = -1) → Q (.inl none) h') : xRn G0 MT (d + 2) b 47 [.inr (.inr 56)] h Q := by
  refine R_of (M := mX6_clear) rfl (Nat.le_of_ble_eq_true rfl) ?_
  show xEx G0 cdX6_clear none (xRn G0 MT (d + 1)) Q b 0 [some (.inr (.inr 56))] [] h
  refine E_s 3 (i' := 3) (ls' := [some (.inr (.inr 56))]) (sk' := [.inl (-1), .inr (.inr 57)]) (h' := h) rfl ?_
  refine E_cv (x := (.invokestatic 26, 2, [(0, 255)], [])) (q := fun h9 => h9 = (xfill h 57 0 15 (-1))) rfl rfl (Nat.le_of_ble_eq_true rfl) (c_fill0_pr_as d 0 h (-1) ⟨rfl, rfl⟩) (fun h9 e9 => ?_)
  subst e9
  show xEx G0 cdX6_clear none (xRn G0 MT (d + 1)) Q b 4 [some (.inr (.inr 56))] [] (xfill h 57 0 15 (-1))
  refine E_s 3 (i' := 7) (ls' := [some (.inr (.inr 56))]) (sk' := [.inl (-1), .inr (.inr 58)]) (h' := (xfill h 57 0 15 (-1))) rfl ?_
  refine E_cv (x := (.invokestatic 26, 2, [(0, 255)], [])) (q := fun h9 => h9 = (xfill (xfill h 57 0 15 (-1)) 58 0 15 (-1))) rfl rfl (Nat.le_of_ble_eq_true rfl) (c_fill0_pr_le d 0 (xfill h 57 0 15 (-1)) (-1) ⟨rfl, rfl⟩) (fun h9 e9 => ?_)
  subst e9
  show xEx G0 cdX6_clear none (xRn G0 MT (d + 1)) Q b 8 [some (.inr (.inr 56))] [] (xfill (xfill h 57 0 15 (-1)) 58 0 15 (-1))
  exact E_ret (x := (.return_, 0, [], [])) (v := none) rfl (trivial) (hQ _ (fun a z1 z2 => by rw [xfill_a z2, xfill_a z1]) (fun j z1 z2 => ⟨by rw [xfill_a (by decide)]; exact xfill_i ⟨z1, z2⟩, xfill_i ⟨z1, z2⟩⟩))
theorem c_pl_ri (d b : Nat) (h S T : xH) (p set ifs : Int) (m : Nat) (hV : SVF h S T p m) (hM : SVM h S T p m) (hs : ir m set) (hi : 0 ≤ ifs ∧ ifs ≤ 3) (hz : szf S T (S 0 0) (T 0 0) p ifs.toNat set < 1000000) (hno : NO (h 60) (h 61) 3 0) {Q : xO → xH → Prop} (hQ : ∀ h', FP 60 61 3 0 h h' → SVM h' S T p m → TV S T (S 0 0) (T 0 0) p (h' 60) (h' 61) 3 ifs.toNat 0 set → Q (.inl none) h') : xRn G0 MT (d + 8) b 66 [.inr (.inr 44), .inr (.inr 59), .inl 0, .inl set, .inl ifs] h Q := by
  have : ifs = 0 ∨ ifs = 1 ∨ ifs = 2 ∨ ifs = 3 := by omega
  rcases this with rfl | rfl | rfl | rfl
  · exact c_pl_ri0 (d + 6) b h S T p set m 3 0 hV hM hs (by decide) hz (by omega) (by omega) hno hQ
  · exact c_pl_ri1 (d + 4) b h S T p set m 3 0 hV hM hs (by decide) hz (by omega) (by omega) hno hQ
  · exact c_pl_ri2 (d + 2) b h S T p set m 3 0 hV hM hs (by decide) hz (by omega) (by omega) hno hQ
  · exact c_pl_ri3 d b h S T p set m 3 0 hV hM hs (by decide) hz (by omega) (by omega) hno hQ
set_option maxHeartbeats 1000000 in
theorem c_clear_ri (d b : Nat) (h : xH) {Q : xO → xH → Prop} (hQ : ∀ h', (∀ a, a ≠ 60 → a ≠ 61 → h' a = h a) → (∀ j, 0 ≤ j → j < 15 → h' 60 j = -1 ∧ h' 61 j = -1) → Q (.inl none) h') : xRn G0 MT (d + 2) b 47 [.inr (.inr 59)] h Q := by
  refine R_of (M := mX6_clear) rfl (Nat.le_of_ble_eq_true rfl) ?_
  show xEx G0 cdX6_clear none (xRn G0 MT (d + 1)) Q b 0 [some (.inr (.inr 59))] [] h
  refine E_s 3 (i' := 3) (ls' := [some (.inr (.inr 59))]) (sk' := [.inl (-1), .inr (.inr 60)]) (h' := h) rfl ?_
  refine E_cv (x := (.invokestatic 26, 2, [(0, 255)], [])) (q := fun h9 => h9 = (xfill h 60 0 15 (-1))) rfl rfl (Nat.le_of_ble_eq_true rfl) (c_fill0_ri_as d 0 h (-1) ⟨rfl, rfl⟩) (fun h9 e9 => ?_)
  subst e9
  show xEx G0 cdX6_clear none (xRn G0 MT (d + 1)) Q b 4 [some (.inr (.inr 59))] [] (xfill h 60 0 15 (-1))
  refine E_s 3 (i' := 7) (ls' := [some (.inr (.inr 59))]) (sk' := [.inl (-1), .inr (.inr 61)]) (h' := (xfill h 60 0 15 (-1))) rfl ?_
  refine E_cv (x := (.invokestatic 26, 2, [(0, 255)], [])) (q := fun h9 => h9 = (xfill (xfill h 60 0 15 (-1)) 61 0 15 (-1))) rfl rfl (Nat.le_of_ble_eq_true rfl) (c_fill0_ri_le d 0 (xfill h 60 0 15 (-1)) (-1) ⟨rfl, rfl⟩) (fun h9 e9 => ?_)
  subst e9
  show xEx G0 cdX6_clear none (xRn G0 MT (d + 1)) Q b 8 [some (.inr (.inr 59))] [] (xfill (xfill h 60 0 15 (-1)) 61 0 15 (-1))
  exact E_ret (x := (.return_, 0, [], [])) (v := none) rfl (trivial) (hQ _ (fun a z1 z2 => by rw [xfill_a z2, xfill_a z1]) (fun j z1 z2 => ⟨by rw [xfill_a (by decide)]; exact xfill_i ⟨z1, z2⟩, xfill_i ⟨z1, z2⟩⟩))
set_option maxHeartbeats 1000000 in
theorem c_settleP (d b : Nat) (h S T : xH) (ifs : Int) (hi : 0 ≤ ifs ∧ ifs ≤ 3) (hI : IS h S T) (hR : RC h S) (hRT : RCT h T) (m : Nat) (o : OKS S T (S 0 0) (T 0 0) m) (hm : m = (h 1 2).toNat) (hn : 0 ≤ h 1 2 ∧ h 1 2 ≤ 12) {Q : xO → xH → Prop} (hQ : ∀ h', SETP h h' S T m ifs → Q (.inl (some (.inl (sno (szf S T (S 0 0) (T 0 0) (-1) ifs.toNat (xshl 1 (h 1 2) - 1)))))) h') : xRn G0 MT (d + 9) b 141 [.inr (.inr 0), .inl ifs] h Q := by
  refine R_of (M := mX11_settle) rfl (Nat.le_of_ble_eq_true rfl) ?_
  show xEx G0 cdX11_settle (some .int) (xRn G0 MT (d + 8)) Q b 0 [some (.inr (.inr 0)), some (.inl ifs), none] [] h
  refine E_s 3 (i' := 3) (ls' := [some (.inr (.inr 0)), some (.inl ifs), none]) (sk' := [.inl (-1), .inr (.inr 44)]) (h' := h) rfl ?_
  refine E_cv (x := (.invokevirtual 320, 1, [(5, 59)], [0])) (q := fun h9 => PRF h h9 ∧ SVR h9 S T (-1) m) rfl rfl (Nat.le_of_ble_eq_true rfl) (c_prepare (d + 4) 0 h S T (-1) m (Or.inl rfl) hI hR hRT o hm hn (fun h9 z1 z2 => ⟨rfl, z1, z2⟩)) (fun h1 hq1 => ?_)
  obtain ⟨f1, v1⟩ := hq1
  have x1 : h1 1 = h 1 := f1 _ (by decide)
  have ia : ir m (xshl 1 (h 1 2) - 1) := ir_all hn.1 hn.2 hm
  show xEx G0 cdX11_settle (some .int) (xRn G0 MT (d + 8)) Q b 4 [some (.inr (.inr 0)), some (.inl ifs), none] [] h1
  refine E_s 3 (i' := 7) (ls' := [some (.inr (.inr 0)), some (.inl ifs), none]) (sk' := [.inl 0, .inr (.inr 56)]) (h' := h1) rfl ?_
  refine E_pz (x := (.putfield 364, 0, [(4, 4)], [])) rfl rfl rfl (Or.inl rfl) ?_
  show xEx G0 cdX11_settle (some .int) (xRn G0 MT (d + 8)) Q b 8 [some (.inr (.inr 0)), some (.inl ifs), none] [] (xup h1 56 4 0)
  have w1 : SVR (xup h1 56 4 0) S T (-1) m := SVR_z (fun a z1 z2 z3 => xup_o _ _ _ _ a (by omega)) v1.2.2.2.2.2.1 v1
  refine E_s 4 (i' := 12) (ls' := [some (.inr (.inr 0)), some (.inl ifs), none]) (sk' := [.inr (.inr 1), .inr (.inr 44)]) (h' := (xup h1 56 4 0)) rfl ?_
  refine E_ci (x := (.invokevirtual 323, 0, [(0, 0)], [0])) (r := (xshl 1 (h 1 2) - 1)) (h' := (xup h1 56 4 0)) rfl rfl (Nat.le_of_ble_eq_true rfl) (c_all (d + 7) 0 (xup h1 56 4 0) ⟨by show Sum.inl (some (Sum.inl (xshl 1 (h1 1 2) - 1))) = _; rw [x1], rfl⟩) ?_
  show xEx G0 cdX11_settle (some .int) (xRn G0 MT (d + 8)) Q b 13 [some (.inr (.inr 0)), some (.inl ifs), none] [.inl (xshl 1 (h 1 2) - 1), .inr (.inr 44)] (xup h1 56 4 0)
  refine E_s 1 (i' := 14) (ls' := [some (.inr (.inr 0)), some (.inl ifs), none]) (sk' := [.inl ifs, .inl (xshl 1 (h 1 2) - 1), .inr (.inr 44)]) (h' := (xup h1 56 4 0)) rfl ?_
  refine E_cp (x := (.invokevirtual 326, 2, [(5, 62)], [0])) (q := fun r h9 => r = sno (szf S T (S 0 0) (T 0 0) (-1) ifs.toNat (xshl 1 (h 1 2) - 1)) ∧ FZ (xup h1 56 4 0) h9 ∧ SVM h9 S T (-1) m) rfl rfl (Nat.le_of_ble_eq_true rfl) (c_sON d 0 (xup h1 56 4 0) S T (-1) (xshl 1 (h 1 2) - 1) ifs m w1.2.2.2.2.1 w1.2.2.2.2.2.1 ia hi (fun h9 z1 z2 => ⟨_, rfl, rfl, z1, z2⟩)) (fun r2 h2 hq2 => ?_)
  obtain ⟨er2, f2, m2⟩ := hq2
  have zr2 := szf_r (p := (-1)) o (ifs.toNat) (xshl 1 (h 1 2) - 1)
  have sr2 := sno_r zr2
  show xEx G0 cdX11_settle (some .int) (xRn G0 MT (d + 8)) Q b 15 [some (.inr (.inr 0)), some (.inl ifs), none] [.inl r2] h2
  refine E_ti (y := (sno (szf S T (S 0 0) (T 0 0) (-1) ifs.toNat (xshl 1 (h 1 2) - 1)))) (by rw [er2]) ?_
  refine E_s 3 (i' := 18) (ls' := [some (.inr (.inr 0)), some (.inl ifs), some (.inl (sno (szf S T (S 0 0) (T 0 0) (-1) ifs.toNat (xshl 1 (h 1 2) - 1))))]) (sk' := [.inl (-1), .inl (sno (szf S T (S 0 0) (T 0 0) (-1) ifs.toNat (xshl 1 (h 1 2) - 1)))]) (h' := h2) rfl ?_
  refine E_b (x := (.if_icmp .eq 54, 44, [], [])) rfl rfl (fun c18 => ?_) (fun c18 => ?_)
  · rw [c_eq (by first | assumption | (refine ⟨?_, ?_⟩ <;> omega) | (simp only [xr] at *; omega)) (by first | assumption | (refine ⟨?_, ?_⟩ <;> omega) | (simp only [xr] at *; omega))] at c18
    simp only [decide_eq_true_eq, decide_eq_false_iff_not, Decidable.not_not] at c18
    show xEx G0 cdX11_settle (some .int) (xRn G0 MT (d + 8)) Q b 44 [some (.inr (.inr 0)), some (.inl ifs), some (.inl (sno (szf S T (S 0 0) (T 0 0) (-1) ifs.toNat (xshl 1 (h 1 2) - 1))))] [] h2
    refine E_s 1 (i' := 45) (ls' := [some (.inr (.inr 0)), some (.inl ifs), some (.inl (sno (szf S T (S 0 0) (T 0 0) (-1) ifs.toNat (xshl 1 (h 1 2) - 1))))]) (sk' := [.inl (sno (szf S T (S 0 0) (T 0 0) (-1) ifs.toNat (xshl 1 (h 1 2) - 1)))]) (h' := h2) rfl ?_
    exact E_ret (x := (.ireturn, 0, [], [])) (v := some (.inl (sno (szf S T (S 0 0) (T 0 0) (-1) ifs.toNat (xshl 1 (h 1 2) - 1))))) rfl (Or.inl rfl) (by
      have z9 := sno_1 zr2 c18
      refine hQ _ ⟨fun a z => by rw [f2 a (by omega) (by omega), xup_o _ _ _ _ a (by omega)]; exact f1 a (by omega), SVR_z (fun a z1 z2 z3 => by rw [f2 a z2 z3, xup_o _ _ _ _ a (by omega)]) m2 v1, Or.inl ⟨z9, ?_⟩⟩
      rw [f2 _ (by decide) (by decide), xup_s])
  · rw [c_eq (by first | assumption | (refine ⟨?_, ?_⟩ <;> omega) | (simp only [xr] at *; omega)) (by first | assumption | (refine ⟨?_, ?_⟩ <;> omega) | (simp only [xr] at *; omega))] at c18
    simp only [decide_eq_true_eq, decide_eq_false_iff_not, Decidable.not_not] at c18
    show xEx G0 cdX11_settle (some .int) (xRn G0 MT (d + 8)) Q b 19 [some (.inr (.inr 0)), some (.inl ifs), some (.inl (sno (szf S T (S 0 0) (T 0 0) (-1) ifs.toNat (xshl 1 (h 1 2) - 1))))] [] h2
    have zz := sno_2 zr2 c18
    refine E_s 2 (i' := 21) (ls' := [some (.inr (.inr 0)), some (.inl ifs), some (.inl (sno (szf S T (S 0 0) (T 0 0) (-1) ifs.toNat (xshl 1 (h 1 2) - 1))))]) (sk' := [.inr (.inr 56)]) (h' := h2) rfl ?_
    refine E_cv (x := (.invokevirtual 341, 0, [(4, 47)], [0])) (q := fun h9 => (∀ a, a ≠ 57 → a ≠ 58 → h9 a = h2 a) ∧ ∀ j, 0 ≤ j → j < 15 → h9 57 j = -1 ∧ h9 58 j = -1) rfl rfl (Nat.le_of_ble_eq_true rfl) (c_clear_pr (d + 6) 0 h2 (fun h9 z1 z2 => ⟨rfl, z1, z2⟩)) (fun h3 hq3 => ?_)
    obtain ⟨f3, c3⟩ := hq3
    have x3 : h3 1 = h 1 := by rw [f3 _ (by decide) (by decide), f2 _ (by decide) (by decide)]; exact x1
    have v3 : SVR h3 S T (-1) m := SVR_z (fun a z1 z2 z3 => by rw [f3 a (by omega) (by omega), f2 a z2 z3, xup_o _ _ _ _ a (by omega)]) (fun s9 hs9 => by rw [f3 _ (by decide) (by decide), f3 _ (by decide) (by decide)]; exact m2 s9 hs9) v1
    show xEx G0 cdX11_settle (some .int) (xRn G0 MT (d + 8)) Q b 22 [some (.inr (.inr 0)), some (.inl ifs), some (.inl (sno (szf S T (S 0 0) (T 0 0) (-1) ifs.toNat (xshl 1 (h 1 2) - 1))))] [] h3
    refine E_s 7 (i' := 29) (ls' := [some (.inr (.inr 0)), some (.inl ifs), some (.inl (sno (szf S T (S 0 0) (T 0 0) (-1) ifs.toNat (xshl 1 (h 1 2) - 1))))]) (sk' := [.inr (.inr 1), .inl 0, .inr (.inr 56), .inr (.inr 44)]) (h' := h3) rfl ?_
    refine E_ci (x := (.invokevirtual 323, 0, [(0, 0)], [0])) (r := (xshl 1 (h 1 2) - 1)) (h' := h3) rfl rfl (Nat.le_of_ble_eq_true rfl) (c_all (d + 7) 0 h3 ⟨by show Sum.inl (some (Sum.inl (xshl 1 (h3 1 2) - 1))) = _; rw [x3], rfl⟩) ?_
    show xEx G0 cdX11_settle (some .int) (xRn G0 MT (d + 8)) Q b 30 [some (.inr (.inr 0)), some (.inl ifs), some (.inl (sno (szf S T (S 0 0) (T 0 0) (-1) ifs.toNat (xshl 1 (h 1 2) - 1))))] [.inl (xshl 1 (h 1 2) - 1), .inl 0, .inr (.inr 56), .inr (.inr 44)] h3
    refine E_s 1 (i' := 31) (ls' := [some (.inr (.inr 0)), some (.inl ifs), some (.inl (sno (szf S T (S 0 0) (T 0 0) (-1) ifs.toNat (xshl 1 (h 1 2) - 1))))]) (sk' := [.inl ifs, .inl (xshl 1 (h 1 2) - 1), .inl 0, .inr (.inr 56), .inr (.inr 44)]) (h' := h3) rfl ?_
    refine E_cv (x := (.invokevirtual 342, 4, [(5, 66)], [0])) (q := fun h9 => FP 57 58 3 0 h3 h9 ∧ SVM h9 S T (-1) m ∧ TV S T (S 0 0) (T 0 0) (-1) (h9 57) (h9 58) 3 ifs.toNat 0 (xshl 1 (h 1 2) - 1)) rfl rfl (Nat.le_of_ble_eq_true rfl) (c_pl_pr d 0 h3 S T (-1) (xshl 1 (h 1 2) - 1) ifs m v3.2.2.2.2.1 v3.2.2.2.2.2.1 ia hi zz.1 (NO_all c3) (fun h9 z1 z2 z3 => ⟨rfl, z1, z2, z3⟩)) (fun h4 hq4 => ?_)
    obtain ⟨f4, m4, t4⟩ := hq4
    show xEx G0 cdX11_settle (some .int) (xRn G0 MT (d + 8)) Q b 32 [some (.inr (.inr 0)), some (.inl ifs), some (.inl (sno (szf S T (S 0 0) (T 0 0) (-1) ifs.toNat (xshl 1 (h 1 2) - 1))))] [] h4
    refine E_s 11 (i' := 43) (ls' := [some (.inr (.inr 0)), some (.inl ifs), some (.inl (sno (szf S T (S 0 0) (T 0 0) (-1) ifs.toNat (xshl 1 (h 1 2) - 1))))]) (sk' := [.inl 1, .inr (.inr 56)]) (h' := (xup (xup h4 56 5 (sno (szf S T (S 0 0) (T 0 0) (-1) ifs.toNat (xshl 1 (h 1 2) - 1)))) 56 6 ifs)) rfl ?_
    refine E_pz (x := (.putfield 364, 0, [(4, 4)], [])) rfl rfl rfl (Or.inr rfl) ?_
    show xEx G0 cdX11_settle (some .int) (xRn G0 MT (d + 8)) Q b 44 [some (.inr (.inr 0)), some (.inl ifs), some (.inl (sno (szf S T (S 0 0) (T 0 0) (-1) ifs.toNat (xshl 1 (h 1 2) - 1))))] [] (xup (xup (xup h4 56 5 (sno (szf S T (S 0 0) (T 0 0) (-1) ifs.toNat (xshl 1 (h 1 2) - 1)))) 56 6 ifs) 56 4 1)
    refine E_s 1 (i' := 45) (ls' := [some (.inr (.inr 0)), some (.inl ifs), some (.inl (sno (szf S T (S 0 0) (T 0 0) (-1) ifs.toNat (xshl 1 (h 1 2) - 1))))]) (sk' := [.inl (sno (szf S T (S 0 0) (T 0 0) (-1) ifs.toNat (xshl 1 (h 1 2) - 1)))]) (h' := (xup (xup (xup h4 56 5 (sno (szf S T (S 0 0) (T 0 0) (-1) ifs.toNat (xshl 1 (h 1 2) - 1)))) 56 6 ifs) 56 4 1)) rfl ?_
    exact E_ret (x := (.ireturn, 0, [], [])) (v := some (.inl (sno (szf S T (S 0 0) (T 0 0) (-1) ifs.toNat (xshl 1 (h 1 2) - 1))))) rfl (Or.inl rfl) (hQ _ ⟨fun a z => by rw [xup_o _ _ _ _ a (by omega), xup_o _ _ _ _ a (by omega), xup_o _ _ _ _ a (by omega), f4.1 a (by omega) (by omega) (by omega) (by omega), f3 a (by omega) (by omega), f2 a (by omega) (by omega), xup_o _ _ _ _ a (by omega)]; exact f1 a (by omega), SVR_z (fun a z1 z2 z3 => by rw [xup_o _ _ _ _ a (by omega), xup_o _ _ _ _ a (by omega), xup_o _ _ _ _ a (by omega), f4.1 a z2 z3 (by omega) (by omega)]) m4 v3, Or.inr ⟨zz.1, rfl, zz.2, rfl, t4⟩⟩)
set_option maxHeartbeats 1000000 in
theorem o_solve (d  : Nat) (h S T : xH) (ifs : Int) (hx : xr ifs) (hI : IS h S T) (hR : RC h S) (hRT : RCT h T) (m : Nat) (o : OKS S T (S 0 0) (T 0 0) m) (hm : m = (h 1 2).toNat) (hn : 0 ≤ h 1 2 ∧ h 1 2 ≤ 12) {Q : xO → xH → Prop} (hA : ¬ (0 ≤ ifs ∧ ifs ≤ 3) → Q (.inr "java/lang/IllegalArgumentException") h) (hS : (0 ≤ ifs ∧ ifs ≤ 3) → ¬ (h 1 2 ≠ 0) → Q (.inr "java/lang/IllegalStateException") h) (hO : (0 ≤ ifs ∧ ifs ≤ 3) → h 1 2 ≠ 0 → ∀ h', SETP h h' S T m ifs → Q (.inl (some (.inl (sno (szf S T (S 0 0) (T 0 0) (-1) ifs.toNat (xshl 1 (h 1 2) - 1)))))) h') : xRn G0 MT (d + 10) 2 121 [.inr (.inr 0), .inl ifs] h Q := by
  refine R_of (M := mX11_solve) rfl (Nat.le_of_ble_eq_true rfl) ?_
  show xEx G0 cdX11_solve (some .int) (xRn G0 MT (d + 9)) Q 2 0 [some (.inr (.inr 0)), some (.inl ifs)] [] h
  refine E_s 1 (i' := 1) (ls' := [some (.inr (.inr 0)), some (.inl ifs)]) (sk' := [.inl ifs]) (h' := h) rfl ?_
  refine E_cx (x := (.invokestatic 282, 1, [(0, 151)], [])) (b1 := 1) (b2 := 1) (v := none) (q := fun h9 => (0 ≤ ifs ∧ ifs ≤ 3) ∧ h = h9) rfl rfl (Nat.le_of_ble_eq_true rfl) (fun z => by cases z) (c_refNoIfs (d + 8) h ifs hx (fun z9 => Or.inl ⟨rfl, z9, rfl⟩) (fun z9 => Or.inr ⟨_, rfl, hA z9⟩)) (fun h9 hq9 => ?_)
  obtain ⟨hi, rfl⟩ := hq9
  show xEx G0 cdX11_solve (some .int) (xRn G0 MT (d + 9)) Q 1 2 [some (.inr (.inr 0)), some (.inl ifs)] [] h
  refine E_s 1 (i' := 3) (ls' := [some (.inr (.inr 0)), some (.inl ifs)]) (sk' := [.inr (.inr 0)]) (h' := h) rfl ?_
  refine E_cx (x := (.invokevirtual 285, 0, [(9, 146)], [0])) (b1 := 1) (b2 := 0) (v := none) (q := fun h9 => (h 1 2 ≠ 0) ∧ h = h9) rfl rfl (Nat.le_of_ble_eq_true rfl) (fun z => by cases z) (c_refNoExamples (d + 8) h hn (fun z9 => Or.inl ⟨rfl, z9, rfl⟩) (fun z9 => Or.inr ⟨_, rfl, hS hi z9⟩)) (fun h9 hq9 => ?_)
  obtain ⟨he, rfl⟩ := hq9
  show xEx G0 cdX11_solve (some .int) (xRn G0 MT (d + 9)) Q 0 4 [some (.inr (.inr 0)), some (.inl ifs)] [] h
  refine E_s 2 (i' := 6) (ls' := [some (.inr (.inr 0)), some (.inl ifs)]) (sk' := [.inl ifs, .inr (.inr 0)]) (h' := h) rfl ?_
  refine E_cp (x := (.invokevirtual 288, 1, [(9, 141)], [0])) (q := fun r h9 => r = sno (szf S T (S 0 0) (T 0 0) (-1) ifs.toNat (xshl 1 (h 1 2) - 1)) ∧ SETP h h9 S T m ifs) rfl rfl (Nat.le_of_ble_eq_true rfl) (c_settleP d 0 h S T ifs hi hI hR hRT m o hm hn (fun h9 z => ⟨_, rfl, rfl, z⟩)) (fun r1 h1 hq1 => ?_)
  obtain ⟨er, sp⟩ := hq1
  show xEx G0 cdX11_solve (some .int) (xRn G0 MT (d + 9)) Q 0 7 [some (.inr (.inr 0)), some (.inl ifs)] [.inl r1] h1
  exact E_ret (x := (.ireturn, 0, [], [])) (v := some (.inl r1)) rfl (Or.inl rfl) (by
    rw [er]
    exact hO hi he h1 sp)
set_option maxHeartbeats 1000000 in
theorem o_without (d  : Nat) (h S T : xH) (p ifs : Int) (hp : xr p) (hx : xr ifs) (hI : IS h S T) (hR : RC h S) (hRT : RCT h T) (m : Nat) (o : OKS S T (S 0 0) (T 0 0) m) (hm : m = (h 1 2).toNat) (hn : 0 ≤ h 1 2 ∧ h 1 2 ≤ 12) {Q : xO → xH → Prop} (hA : ¬ ((0 ≤ p ∧ p ≤ 9) ∧ (0 ≤ ifs ∧ ifs ≤ 3)) → Q (.inr "java/lang/IllegalArgumentException") h) (hS : ((0 ≤ p ∧ p ≤ 9) ∧ (0 ≤ ifs ∧ ifs ≤ 3)) → ¬ (h 1 2 ≠ 0) → Q (.inr "java/lang/IllegalStateException") h) (hO : ((0 ≤ p ∧ p ≤ 9) ∧ (0 ≤ ifs ∧ ifs ≤ 3)) → h 1 2 ≠ 0 → ∀ h', PRF h h' → SVR h' S T p m → Q (.inl (some (.inl (sno (szf S T (S 0 0) (T 0 0) p ifs.toNat (xshl 1 (h 1 2) - 1)))))) h') : xRn G0 MT (d + 9) 3 128 [.inr (.inr 0), .inl p, .inl ifs] h Q := by
  refine R_of (M := mX11_without) rfl (Nat.le_of_ble_eq_true rfl) ?_
  show xEx G0 cdX11_without (some .int) (xRn G0 MT (d + 8)) Q 3 0 [some (.inr (.inr 0)), some (.inl p), some (.inl ifs)] [] h
  refine E_s 1 (i' := 1) (ls' := [some (.inr (.inr 0)), some (.inl p), some (.inl ifs)]) (sk' := [.inl p]) (h' := h) rfl ?_
  refine E_cx (x := (.invokestatic 122, 1, [(0, 150)], [])) (b1 := 1) (b2 := 2) (v := none) (q := fun h9 => (0 ≤ p ∧ p ≤ 9) ∧ h = h9) rfl rfl (Nat.le_of_ble_eq_true rfl) (fun z => by cases z) (c_refNoPart (d + 7) h p hp (fun z9 => Or.inl ⟨rfl, z9, rfl⟩) (fun z9 => Or.inr ⟨_, rfl, hA (fun y => z9 y.1)⟩)) (fun h9 hq9 => ?_)
  obtain ⟨qp, rfl⟩ := hq9
  show xEx G0 cdX11_without (some .int) (xRn G0 MT (d + 8)) Q 2 2 [some (.inr (.inr 0)), some (.inl p), some (.inl ifs)] [] h
  refine E_s 1 (i' := 3) (ls' := [some (.inr (.inr 0)), some (.inl p), some (.inl ifs)]) (sk' := [.inl ifs]) (h' := h) rfl ?_
  refine E_cx (x := (.invokestatic 282, 1, [(0, 151)], [])) (b1 := 1) (b2 := 1) (v := none) (q := fun h9 => (0 ≤ ifs ∧ ifs ≤ 3) ∧ h = h9) rfl rfl (Nat.le_of_ble_eq_true rfl) (fun z => by cases z) (c_refNoIfs (d + 7) h ifs hx (fun z9 => Or.inl ⟨rfl, z9, rfl⟩) (fun z9 => Or.inr ⟨_, rfl, hA (fun y => z9 y.2)⟩)) (fun h9 hq9 => ?_)
  obtain ⟨hi, rfl⟩ := hq9
  show xEx G0 cdX11_without (some .int) (xRn G0 MT (d + 8)) Q 1 4 [some (.inr (.inr 0)), some (.inl p), some (.inl ifs)] [] h
  refine E_s 1 (i' := 5) (ls' := [some (.inr (.inr 0)), some (.inl p), some (.inl ifs)]) (sk' := [.inr (.inr 0)]) (h' := h) rfl ?_
  refine E_cx (x := (.invokevirtual 285, 0, [(9, 146)], [0])) (b1 := 1) (b2 := 0) (v := none) (q := fun h9 => (h 1 2 ≠ 0) ∧ h = h9) rfl rfl (Nat.le_of_ble_eq_true rfl) (fun z => by cases z) (c_refNoExamples (d + 7) h hn (fun z9 => Or.inl ⟨rfl, z9, rfl⟩) (fun z9 => Or.inr ⟨_, rfl, hS ⟨qp, hi⟩ z9⟩)) (fun h9 hq9 => ?_)
  obtain ⟨he, rfl⟩ := hq9
  show xEx G0 cdX11_without (some .int) (xRn G0 MT (d + 8)) Q 0 6 [some (.inr (.inr 0)), some (.inl p), some (.inl ifs)] [] h
  refine E_s 3 (i' := 9) (ls' := [some (.inr (.inr 0)), some (.inl p), some (.inl ifs)]) (sk' := [.inl p, .inr (.inr 44)]) (h' := h) rfl ?_
  refine E_cv (x := (.invokevirtual 320, 1, [(5, 59)], [0])) (q := fun h9 => PRF h h9 ∧ SVR h9 S T p m) rfl rfl (Nat.le_of_ble_eq_true rfl) (c_prepare (d + 4) 0 h S T p m (Or.inr qp) hI hR hRT o hm hn (fun h9 z1 z2 => ⟨rfl, z1, z2⟩)) (fun h1 hq1 => ?_)
  obtain ⟨f1, v1⟩ := hq1
  have x1 : h1 1 = h 1 := f1 _ (by decide)
  have ia : ir m (xshl 1 (h 1 2) - 1) := ir_all hn.1 hn.2 hm
  show xEx G0 cdX11_without (some .int) (xRn G0 MT (d + 8)) Q 0 10 [some (.inr (.inr 0)), some (.inl p), some (.inl ifs)] [] h1
  refine E_s 4 (i' := 14) (ls' := [some (.inr (.inr 0)), some (.inl p), some (.inl ifs)]) (sk' := [.inr (.inr 1), .inr (.inr 44)]) (h' := h1) rfl ?_
  refine E_ci (x := (.invokevirtual 323, 0, [(0, 0)], [0])) (r := (xshl 1 (h 1 2) - 1)) (h' := h1) rfl rfl (Nat.le_of_ble_eq_true rfl) (c_all (d + 7) 0 h1 ⟨by show Sum.inl (some (Sum.inl (xshl 1 (h1 1 2) - 1))) = _; rw [x1], rfl⟩) ?_
  show xEx G0 cdX11_without (some .int) (xRn G0 MT (d + 8)) Q 0 15 [some (.inr (.inr 0)), some (.inl p), some (.inl ifs)] [.inl (xshl 1 (h 1 2) - 1), .inr (.inr 44)] h1
  refine E_s 1 (i' := 16) (ls' := [some (.inr (.inr 0)), some (.inl p), some (.inl ifs)]) (sk' := [.inl ifs, .inl (xshl 1 (h 1 2) - 1), .inr (.inr 44)]) (h' := h1) rfl ?_
  refine E_cp (x := (.invokevirtual 326, 2, [(5, 62)], [0])) (q := fun r h9 => r = sno (szf S T (S 0 0) (T 0 0) p ifs.toNat (xshl 1 (h 1 2) - 1)) ∧ FZ h1 h9 ∧ SVM h9 S T p m) rfl rfl (Nat.le_of_ble_eq_true rfl) (c_sON d 0 h1 S T p (xshl 1 (h 1 2) - 1) ifs m v1.2.2.2.2.1 v1.2.2.2.2.2.1 ia hi (fun h9 z1 z2 => ⟨_, rfl, rfl, z1, z2⟩)) (fun r2 h2 hq2 => ?_)
  obtain ⟨er2, f2, m2⟩ := hq2
  have zr2 := szf_r (p := p) o (ifs.toNat) (xshl 1 (h 1 2) - 1)
  have sr2 := sno_r zr2
  show xEx G0 cdX11_without (some .int) (xRn G0 MT (d + 8)) Q 0 17 [some (.inr (.inr 0)), some (.inl p), some (.inl ifs)] [.inl r2] h2
  refine E_ti (y := (sno (szf S T (S 0 0) (T 0 0) p ifs.toNat (xshl 1 (h 1 2) - 1)))) (by rw [er2]) ?_
  exact E_ret (x := (.ireturn, 0, [], [])) (v := some (.inl (sno (szf S T (S 0 0) (T 0 0) p ifs.toNat (xshl 1 (h 1 2) - 1))))) rfl (Or.inl rfl) (hO ⟨qp, hi⟩ he h2 (fun a z => by rw [f2 a (by omega) (by omega)]; exact f1 a z) (SVR_z (fun a z1 z2 z3 => f2 a z2 z3) m2 v1))
set_option maxHeartbeats 1000000 in
theorem o_needed (d  : Nat) (h S T : xH) (hI : IS h S T) (hR : RC h S) (hRT : RCT h T) (m : Nat) (o : OKS S T (S 0 0) (T 0 0) m) (hm : m = (h 1 2).toNat) (hn : 0 ≤ h 1 2 ∧ h 1 2 ≤ 12) {Q : xO → xH → Prop} (hS : ¬ (h 1 2 ≠ 0) → Q (.inr "java/lang/IllegalStateException") h) (hO : h 1 2 ≠ 0 → ∀ h', PRF h h' → SVR h' S T (-1) m → Q (.inl (some (.inl (ndd (fun i => szf S T (S 0 0) (T 0 0) (-1) i (xshl 1 (h 1 2) - 1)))))) h') : xRn G0 MT (d + 9) 1 130 [.inr (.inr 0)] h Q := by
  refine R_of (M := mX11_needed) rfl (Nat.le_of_ble_eq_true rfl) ?_
  show xEx G0 cdX11_needed (some .int) (xRn G0 MT (d + 8)) Q 1 0 [some (.inr (.inr 0)), none] [] h
  refine E_s 1 (i' := 1) (ls' := [some (.inr (.inr 0)), none]) (sk' := [.inr (.inr 0)]) (h' := h) rfl ?_
  refine E_cx (x := (.invokevirtual 285, 0, [(9, 146)], [0])) (b1 := 1) (b2 := 0) (v := none) (q := fun h9 => (h 1 2 ≠ 0) ∧ h = h9) rfl rfl (Nat.le_of_ble_eq_true rfl) (fun z => by cases z) (c_refNoExamples (d + 7) h hn (fun z9 => Or.inl ⟨rfl, z9, rfl⟩) (fun z9 => Or.inr ⟨_, rfl, hS z9⟩)) (fun h9 hq9 => ?_)
  obtain ⟨he, rfl⟩ := hq9
  show xEx G0 cdX11_needed (some .int) (xRn G0 MT (d + 8)) Q 0 2 [some (.inr (.inr 0)), none] [] h
  refine E_s 3 (i' := 5) (ls' := [some (.inr (.inr 0)), none]) (sk' := [.inl (-1), .inr (.inr 44)]) (h' := h) rfl ?_
  refine E_cv (x := (.invokevirtual 320, 1, [(5, 59)], [0])) (q := fun h9 => PRF h h9 ∧ SVR h9 S T (-1) m) rfl rfl (Nat.le_of_ble_eq_true rfl) (c_prepare (d + 4) 0 h S T (-1) m (Or.inl rfl) hI hR hRT o hm hn (fun h9 z1 z2 => ⟨rfl, z1, z2⟩)) (fun h1 hq1 => ?_)
  obtain ⟨f1, v1⟩ := hq1
  have x1 : h1 1 = h 1 := f1 _ (by decide)
  have ia : ir m (xshl 1 (h 1 2) - 1) := ir_all hn.1 hn.2 hm
  show xEx G0 cdX11_needed (some .int) (xRn G0 MT (d + 8)) Q 0 6 [some (.inr (.inr 0)), none] [] h1
  refine E_s 4 (i' := 10) (ls' := [some (.inr (.inr 0)), some (.inl 0)]) (sk' := [.inl 3, .inl 0]) (h' := h1) rfl ?_
  refine E_b (x := (.if_icmp .gt 30, 24, [], [])) rfl rfl (fun c10 => ?_) (fun c10 => ?_)
  · show xEx G0 cdX11_needed (some .int) (xRn G0 MT (d + 8)) Q 0 24 [some (.inr (.inr 0)), some (.inl 0)] [] h1
    exact absurd c10 (by decide)
  · show xEx G0 cdX11_needed (some .int) (xRn G0 MT (d + 8)) Q 0 11 [some (.inr (.inr 0)), some (.inl 0)] [] h1
    refine E_s 4 (i' := 15) (ls' := [some (.inr (.inr 0)), some (.inl 0)]) (sk' := [.inr (.inr 1), .inr (.inr 44)]) (h' := h1) rfl ?_
    refine E_ci (x := (.invokevirtual 323, 0, [(0, 0)], [0])) (r := (xshl 1 (h 1 2) - 1)) (h' := h1) rfl rfl (Nat.le_of_ble_eq_true rfl) (c_all (d + 7) 0 h1 ⟨by show Sum.inl (some (Sum.inl (xshl 1 (h1 1 2) - 1))) = _; rw [x1], rfl⟩) ?_
    show xEx G0 cdX11_needed (some .int) (xRn G0 MT (d + 8)) Q 0 16 [some (.inr (.inr 0)), some (.inl 0)] [.inl (xshl 1 (h 1 2) - 1), .inr (.inr 44)] h1
    refine E_s 1 (i' := 17) (ls' := [some (.inr (.inr 0)), some (.inl 0)]) (sk' := [.inl 0, .inl (xshl 1 (h 1 2) - 1), .inr (.inr 44)]) (h' := h1) rfl ?_
    refine E_cp (x := (.invokevirtual 326, 2, [(5, 62)], [0])) (q := fun r h9 => r = sno (szf S T (S 0 0) (T 0 0) (-1) 0 (xshl 1 (h 1 2) - 1)) ∧ FZ h1 h9 ∧ SVM h9 S T (-1) m) rfl rfl (Nat.le_of_ble_eq_true rfl) (c_sON0 (d + 6) 0 h1 S T (-1) (xshl 1 (h 1 2) - 1)  m v1.2.2.2.2.1 v1.2.2.2.2.2.1 ia (fun h9 z1 z2 => ⟨_, rfl, rfl, z1, z2⟩)) (fun r2 h2 hq2 => ?_)
    obtain ⟨er2, f2, m2⟩ := hq2
    have zr2 := szf_r (p := (-1)) o (0) (xshl 1 (h 1 2) - 1)
    have sr2 := sno_r zr2
    show xEx G0 cdX11_needed (some .int) (xRn G0 MT (d + 8)) Q 0 18 [some (.inr (.inr 0)), some (.inl 0)] [.inl r2] h2
    refine E_ti (y := (sno (szf S T (S 0 0) (T 0 0) (-1) 0 (xshl 1 (h 1 2) - 1)))) (by rw [er2]) ?_
    refine E_s 1 (i' := 19) (ls' := [some (.inr (.inr 0)), some (.inl 0)]) (sk' := [.inl (-1), .inl (sno (szf S T (S 0 0) (T 0 0) (-1) 0 (xshl 1 (h 1 2) - 1)))]) (h' := h2) rfl ?_
    refine E_b (x := (.if_icmp .eq 5, 22, [], [])) rfl rfl (fun c19_0 => ?_) (fun c19_0 => ?_)
    · rw [c_eq (by first | assumption | (refine ⟨?_, ?_⟩ <;> omega) | (simp only [xr] at *; omega)) (by first | assumption | (refine ⟨?_, ?_⟩ <;> omega) | (simp only [xr] at *; omega))] at c19_0
      simp only [decide_eq_true_eq, decide_eq_false_iff_not, Decidable.not_not] at c19_0
      show xEx G0 cdX11_needed (some .int) (xRn G0 MT (d + 8)) Q 0 22 [some (.inr (.inr 0)), some (.inl 0)] [] h2
      refine E_s 4 (i' := 10) (ls' := [some (.inr (.inr 0)), some (.inl 1)]) (sk' := [.inl 3, .inl 1]) (h' := h2) rfl ?_
      refine E_b (x := (.if_icmp .gt 30, 24, [], [])) rfl rfl (fun c10 => ?_) (fun c10 => ?_)
      · show xEx G0 cdX11_needed (some .int) (xRn G0 MT (d + 8)) Q 0 24 [some (.inr (.inr 0)), some (.inl 1)] [] h2
        exact absurd c10 (by decide)
      · show xEx G0 cdX11_needed (some .int) (xRn G0 MT (d + 8)) Q 0 11 [some (.inr (.inr 0)), some (.inl 1)] [] h2
        refine E_s 4 (i' := 15) (ls' := [some (.inr (.inr 0)), some (.inl 1)]) (sk' := [.inr (.inr 1), .inr (.inr 44)]) (h' := h2) rfl ?_
        have x2 : h2 1 = h 1 := by rw [f2 _ (by decide) (by decide)]; exact x1
        have wv1 : SVR h2 S T (-1) m := SVR_z (fun a z1 z2 z3 => f2 a z2 z3) m2 v1
        refine E_ci (x := (.invokevirtual 323, 0, [(0, 0)], [0])) (r := (xshl 1 (h 1 2) - 1)) (h' := h2) rfl rfl (Nat.le_of_ble_eq_true rfl) (c_all (d + 7) 0 h2 ⟨by show Sum.inl (some (Sum.inl (xshl 1 (h2 1 2) - 1))) = _; rw [x2], rfl⟩) ?_
        show xEx G0 cdX11_needed (some .int) (xRn G0 MT (d + 8)) Q 0 16 [some (.inr (.inr 0)), some (.inl 1)] [.inl (xshl 1 (h 1 2) - 1), .inr (.inr 44)] h2
        refine E_s 1 (i' := 17) (ls' := [some (.inr (.inr 0)), some (.inl 1)]) (sk' := [.inl 1, .inl (xshl 1 (h 1 2) - 1), .inr (.inr 44)]) (h' := h2) rfl ?_
        refine E_cp (x := (.invokevirtual 326, 2, [(5, 62)], [0])) (q := fun r h9 => r = sno (szf S T (S 0 0) (T 0 0) (-1) 1 (xshl 1 (h 1 2) - 1)) ∧ FZ h2 h9 ∧ SVM h9 S T (-1) m) rfl rfl (Nat.le_of_ble_eq_true rfl) (c_sON1 (d + 4) 0 h2 S T (-1) (xshl 1 (h 1 2) - 1)  m wv1.2.2.2.2.1 wv1.2.2.2.2.2.1 ia (fun h9 z1 z2 => ⟨_, rfl, rfl, z1, z2⟩)) (fun r3 h3 hq3 => ?_)
        obtain ⟨er3, f3, m3⟩ := hq3
        have zr3 := szf_r (p := (-1)) o (1) (xshl 1 (h 1 2) - 1)
        have sr3 := sno_r zr3
        show xEx G0 cdX11_needed (some .int) (xRn G0 MT (d + 8)) Q 0 18 [some (.inr (.inr 0)), some (.inl 1)] [.inl r3] h3
        refine E_ti (y := (sno (szf S T (S 0 0) (T 0 0) (-1) 1 (xshl 1 (h 1 2) - 1)))) (by rw [er3]) ?_
        refine E_s 1 (i' := 19) (ls' := [some (.inr (.inr 0)), some (.inl 1)]) (sk' := [.inl (-1), .inl (sno (szf S T (S 0 0) (T 0 0) (-1) 1 (xshl 1 (h 1 2) - 1)))]) (h' := h3) rfl ?_
        refine E_b (x := (.if_icmp .eq 5, 22, [], [])) rfl rfl (fun c19_1 => ?_) (fun c19_1 => ?_)
        · rw [c_eq (by first | assumption | (refine ⟨?_, ?_⟩ <;> omega) | (simp only [xr] at *; omega)) (by first | assumption | (refine ⟨?_, ?_⟩ <;> omega) | (simp only [xr] at *; omega))] at c19_1
          simp only [decide_eq_true_eq, decide_eq_false_iff_not, Decidable.not_not] at c19_1
          show xEx G0 cdX11_needed (some .int) (xRn G0 MT (d + 8)) Q 0 22 [some (.inr (.inr 0)), some (.inl 1)] [] h3
          refine E_s 4 (i' := 10) (ls' := [some (.inr (.inr 0)), some (.inl 2)]) (sk' := [.inl 3, .inl 2]) (h' := h3) rfl ?_
          refine E_b (x := (.if_icmp .gt 30, 24, [], [])) rfl rfl (fun c10 => ?_) (fun c10 => ?_)
          · show xEx G0 cdX11_needed (some .int) (xRn G0 MT (d + 8)) Q 0 24 [some (.inr (.inr 0)), some (.inl 2)] [] h3
            exact absurd c10 (by decide)
          · show xEx G0 cdX11_needed (some .int) (xRn G0 MT (d + 8)) Q 0 11 [some (.inr (.inr 0)), some (.inl 2)] [] h3
            refine E_s 4 (i' := 15) (ls' := [some (.inr (.inr 0)), some (.inl 2)]) (sk' := [.inr (.inr 1), .inr (.inr 44)]) (h' := h3) rfl ?_
            have x3 : h3 1 = h 1 := by rw [f3 _ (by decide) (by decide)]; exact x2
            have wv2 : SVR h3 S T (-1) m := SVR_z (fun a z1 z2 z3 => f3 a z2 z3) m3 wv1
            refine E_ci (x := (.invokevirtual 323, 0, [(0, 0)], [0])) (r := (xshl 1 (h 1 2) - 1)) (h' := h3) rfl rfl (Nat.le_of_ble_eq_true rfl) (c_all (d + 7) 0 h3 ⟨by show Sum.inl (some (Sum.inl (xshl 1 (h3 1 2) - 1))) = _; rw [x3], rfl⟩) ?_
            show xEx G0 cdX11_needed (some .int) (xRn G0 MT (d + 8)) Q 0 16 [some (.inr (.inr 0)), some (.inl 2)] [.inl (xshl 1 (h 1 2) - 1), .inr (.inr 44)] h3
            refine E_s 1 (i' := 17) (ls' := [some (.inr (.inr 0)), some (.inl 2)]) (sk' := [.inl 2, .inl (xshl 1 (h 1 2) - 1), .inr (.inr 44)]) (h' := h3) rfl ?_
            refine E_cp (x := (.invokevirtual 326, 2, [(5, 62)], [0])) (q := fun r h9 => r = sno (szf S T (S 0 0) (T 0 0) (-1) 2 (xshl 1 (h 1 2) - 1)) ∧ FZ h3 h9 ∧ SVM h9 S T (-1) m) rfl rfl (Nat.le_of_ble_eq_true rfl) (c_sON2 (d + 2) 0 h3 S T (-1) (xshl 1 (h 1 2) - 1)  m wv2.2.2.2.2.1 wv2.2.2.2.2.2.1 ia (fun h9 z1 z2 => ⟨_, rfl, rfl, z1, z2⟩)) (fun r4 h4 hq4 => ?_)
            obtain ⟨er4, f4, m4⟩ := hq4
            have zr4 := szf_r (p := (-1)) o (2) (xshl 1 (h 1 2) - 1)
            have sr4 := sno_r zr4
            show xEx G0 cdX11_needed (some .int) (xRn G0 MT (d + 8)) Q 0 18 [some (.inr (.inr 0)), some (.inl 2)] [.inl r4] h4
            refine E_ti (y := (sno (szf S T (S 0 0) (T 0 0) (-1) 2 (xshl 1 (h 1 2) - 1)))) (by rw [er4]) ?_
            refine E_s 1 (i' := 19) (ls' := [some (.inr (.inr 0)), some (.inl 2)]) (sk' := [.inl (-1), .inl (sno (szf S T (S 0 0) (T 0 0) (-1) 2 (xshl 1 (h 1 2) - 1)))]) (h' := h4) rfl ?_
            refine E_b (x := (.if_icmp .eq 5, 22, [], [])) rfl rfl (fun c19_2 => ?_) (fun c19_2 => ?_)
            · rw [c_eq (by first | assumption | (refine ⟨?_, ?_⟩ <;> omega) | (simp only [xr] at *; omega)) (by first | assumption | (refine ⟨?_, ?_⟩ <;> omega) | (simp only [xr] at *; omega))] at c19_2
              simp only [decide_eq_true_eq, decide_eq_false_iff_not, Decidable.not_not] at c19_2
              show xEx G0 cdX11_needed (some .int) (xRn G0 MT (d + 8)) Q 0 22 [some (.inr (.inr 0)), some (.inl 2)] [] h4
              refine E_s 4 (i' := 10) (ls' := [some (.inr (.inr 0)), some (.inl 3)]) (sk' := [.inl 3, .inl 3]) (h' := h4) rfl ?_
              refine E_b (x := (.if_icmp .gt 30, 24, [], [])) rfl rfl (fun c10 => ?_) (fun c10 => ?_)
              · show xEx G0 cdX11_needed (some .int) (xRn G0 MT (d + 8)) Q 0 24 [some (.inr (.inr 0)), some (.inl 3)] [] h4
                exact absurd c10 (by decide)
              · show xEx G0 cdX11_needed (some .int) (xRn G0 MT (d + 8)) Q 0 11 [some (.inr (.inr 0)), some (.inl 3)] [] h4
                refine E_s 4 (i' := 15) (ls' := [some (.inr (.inr 0)), some (.inl 3)]) (sk' := [.inr (.inr 1), .inr (.inr 44)]) (h' := h4) rfl ?_
                have x4 : h4 1 = h 1 := by rw [f4 _ (by decide) (by decide)]; exact x3
                have wv3 : SVR h4 S T (-1) m := SVR_z (fun a z1 z2 z3 => f4 a z2 z3) m4 wv2
                refine E_ci (x := (.invokevirtual 323, 0, [(0, 0)], [0])) (r := (xshl 1 (h 1 2) - 1)) (h' := h4) rfl rfl (Nat.le_of_ble_eq_true rfl) (c_all (d + 7) 0 h4 ⟨by show Sum.inl (some (Sum.inl (xshl 1 (h4 1 2) - 1))) = _; rw [x4], rfl⟩) ?_
                show xEx G0 cdX11_needed (some .int) (xRn G0 MT (d + 8)) Q 0 16 [some (.inr (.inr 0)), some (.inl 3)] [.inl (xshl 1 (h 1 2) - 1), .inr (.inr 44)] h4
                refine E_s 1 (i' := 17) (ls' := [some (.inr (.inr 0)), some (.inl 3)]) (sk' := [.inl 3, .inl (xshl 1 (h 1 2) - 1), .inr (.inr 44)]) (h' := h4) rfl ?_
                refine E_cp (x := (.invokevirtual 326, 2, [(5, 62)], [0])) (q := fun r h9 => r = sno (szf S T (S 0 0) (T 0 0) (-1) 3 (xshl 1 (h 1 2) - 1)) ∧ FZ h4 h9 ∧ SVM h9 S T (-1) m) rfl rfl (Nat.le_of_ble_eq_true rfl) (c_sON3 d 0 h4 S T (-1) (xshl 1 (h 1 2) - 1)  m wv3.2.2.2.2.1 wv3.2.2.2.2.2.1 ia (fun h9 z1 z2 => ⟨_, rfl, rfl, z1, z2⟩)) (fun r5 h5 hq5 => ?_)
                obtain ⟨er5, f5, m5⟩ := hq5
                have zr5 := szf_r (p := (-1)) o (3) (xshl 1 (h 1 2) - 1)
                have sr5 := sno_r zr5
                show xEx G0 cdX11_needed (some .int) (xRn G0 MT (d + 8)) Q 0 18 [some (.inr (.inr 0)), some (.inl 3)] [.inl r5] h5
                refine E_ti (y := (sno (szf S T (S 0 0) (T 0 0) (-1) 3 (xshl 1 (h 1 2) - 1)))) (by rw [er5]) ?_
                refine E_s 1 (i' := 19) (ls' := [some (.inr (.inr 0)), some (.inl 3)]) (sk' := [.inl (-1), .inl (sno (szf S T (S 0 0) (T 0 0) (-1) 3 (xshl 1 (h 1 2) - 1)))]) (h' := h5) rfl ?_
                refine E_b (x := (.if_icmp .eq 5, 22, [], [])) rfl rfl (fun c19_3 => ?_) (fun c19_3 => ?_)
                · rw [c_eq (by first | assumption | (refine ⟨?_, ?_⟩ <;> omega) | (simp only [xr] at *; omega)) (by first | assumption | (refine ⟨?_, ?_⟩ <;> omega) | (simp only [xr] at *; omega))] at c19_3
                  simp only [decide_eq_true_eq, decide_eq_false_iff_not, Decidable.not_not] at c19_3
                  show xEx G0 cdX11_needed (some .int) (xRn G0 MT (d + 8)) Q 0 22 [some (.inr (.inr 0)), some (.inl 3)] [] h5
                  refine E_s 4 (i' := 10) (ls' := [some (.inr (.inr 0)), some (.inl 4)]) (sk' := [.inl 3, .inl 4]) (h' := h5) rfl ?_
                  refine E_b (x := (.if_icmp .gt 30, 24, [], [])) rfl rfl (fun c10 => ?_) (fun c10 => ?_)
                  · show xEx G0 cdX11_needed (some .int) (xRn G0 MT (d + 8)) Q 0 24 [some (.inr (.inr 0)), some (.inl 4)] [] h5
                    refine E_s 1 (i' := 25) (ls' := [some (.inr (.inr 0)), some (.inl 4)]) (sk' := [.inl (-1)]) (h' := h5) rfl ?_
                    exact E_ret (x := (.ireturn, 0, [], [])) (v := some (.inl (-1))) rfl (Or.inl rfl) (by
                      have r9 := hO he h5 (fun a z => by rw [f5 a (by omega) (by omega), f4 a (by omega) (by omega), f3 a (by omega) (by omega), f2 a (by omega) (by omega)]; exact f1 a z) (SVR_z (fun a z1 z2 z3 => f5 a z2 z3) m5 wv3)
                      unfold ndd at r9
                      rw [if_neg (show ¬ szf S T (S 0 0) (T 0 0) (-1) 0 (xshl 1 (h 1 2) - 1) < 1000000 by have := sno_1 zr2 (by omega); omega), if_neg (show ¬ szf S T (S 0 0) (T 0 0) (-1) 1 (xshl 1 (h 1 2) - 1) < 1000000 by have := sno_1 zr3 (by omega); omega), if_neg (show ¬ szf S T (S 0 0) (T 0 0) (-1) 2 (xshl 1 (h 1 2) - 1) < 1000000 by have := sno_1 zr4 (by omega); omega), if_neg (show ¬ szf S T (S 0 0) (T 0 0) (-1) 3 (xshl 1 (h 1 2) - 1) < 1000000 by have := sno_1 zr5 (by omega); omega)] at r9
                      exact r9)
                  · show xEx G0 cdX11_needed (some .int) (xRn G0 MT (d + 8)) Q 0 11 [some (.inr (.inr 0)), some (.inl 4)] [] h5
                    exact absurd c10 (by decide)
                · rw [c_eq (by first | assumption | (refine ⟨?_, ?_⟩ <;> omega) | (simp only [xr] at *; omega)) (by first | assumption | (refine ⟨?_, ?_⟩ <;> omega) | (simp only [xr] at *; omega))] at c19_3
                  simp only [decide_eq_true_eq, decide_eq_false_iff_not, Decidable.not_not] at c19_3
                  show xEx G0 cdX11_needed (some .int) (xRn G0 MT (d + 8)) Q 0 20 [some (.inr (.inr 0)), some (.inl 3)] [] h5
                  refine E_s 1 (i' := 21) (ls' := [some (.inr (.inr 0)), some (.inl 3)]) (sk' := [.inl 3]) (h' := h5) rfl ?_
                  exact E_ret (x := (.ireturn, 0, [], [])) (v := some (.inl 3)) rfl (Or.inl rfl) (by
                    have r9 := hO he h5 (fun a z => by rw [f5 a (by omega) (by omega), f4 a (by omega) (by omega), f3 a (by omega) (by omega), f2 a (by omega) (by omega)]; exact f1 a z) (SVR_z (fun a z1 z2 z3 => f5 a z2 z3) m5 wv3)
                    unfold ndd at r9
                    rw [if_neg (show ¬ szf S T (S 0 0) (T 0 0) (-1) 0 (xshl 1 (h 1 2) - 1) < 1000000 by have := sno_1 zr2 (by omega); omega), if_neg (show ¬ szf S T (S 0 0) (T 0 0) (-1) 1 (xshl 1 (h 1 2) - 1) < 1000000 by have := sno_1 zr3 (by omega); omega), if_neg (show ¬ szf S T (S 0 0) (T 0 0) (-1) 2 (xshl 1 (h 1 2) - 1) < 1000000 by have := sno_1 zr4 (by omega); omega), if_pos (show szf S T (S 0 0) (T 0 0) (-1) 3 (xshl 1 (h 1 2) - 1) < 1000000 from (sno_2 zr5 (by omega)).1)] at r9
                    exact r9)
            · rw [c_eq (by first | assumption | (refine ⟨?_, ?_⟩ <;> omega) | (simp only [xr] at *; omega)) (by first | assumption | (refine ⟨?_, ?_⟩ <;> omega) | (simp only [xr] at *; omega))] at c19_2
              simp only [decide_eq_true_eq, decide_eq_false_iff_not, Decidable.not_not] at c19_2
              show xEx G0 cdX11_needed (some .int) (xRn G0 MT (d + 8)) Q 0 20 [some (.inr (.inr 0)), some (.inl 2)] [] h4
              refine E_s 1 (i' := 21) (ls' := [some (.inr (.inr 0)), some (.inl 2)]) (sk' := [.inl 2]) (h' := h4) rfl ?_
              exact E_ret (x := (.ireturn, 0, [], [])) (v := some (.inl 2)) rfl (Or.inl rfl) (by
                have r9 := hO he h4 (fun a z => by rw [f4 a (by omega) (by omega), f3 a (by omega) (by omega), f2 a (by omega) (by omega)]; exact f1 a z) (SVR_z (fun a z1 z2 z3 => f4 a z2 z3) m4 wv2)
                unfold ndd at r9
                rw [if_neg (show ¬ szf S T (S 0 0) (T 0 0) (-1) 0 (xshl 1 (h 1 2) - 1) < 1000000 by have := sno_1 zr2 (by omega); omega), if_neg (show ¬ szf S T (S 0 0) (T 0 0) (-1) 1 (xshl 1 (h 1 2) - 1) < 1000000 by have := sno_1 zr3 (by omega); omega), if_pos (show szf S T (S 0 0) (T 0 0) (-1) 2 (xshl 1 (h 1 2) - 1) < 1000000 from (sno_2 zr4 (by omega)).1)] at r9
                exact r9)
        · rw [c_eq (by first | assumption | (refine ⟨?_, ?_⟩ <;> omega) | (simp only [xr] at *; omega)) (by first | assumption | (refine ⟨?_, ?_⟩ <;> omega) | (simp only [xr] at *; omega))] at c19_1
          simp only [decide_eq_true_eq, decide_eq_false_iff_not, Decidable.not_not] at c19_1
          show xEx G0 cdX11_needed (some .int) (xRn G0 MT (d + 8)) Q 0 20 [some (.inr (.inr 0)), some (.inl 1)] [] h3
          refine E_s 1 (i' := 21) (ls' := [some (.inr (.inr 0)), some (.inl 1)]) (sk' := [.inl 1]) (h' := h3) rfl ?_
          exact E_ret (x := (.ireturn, 0, [], [])) (v := some (.inl 1)) rfl (Or.inl rfl) (by
            have r9 := hO he h3 (fun a z => by rw [f3 a (by omega) (by omega), f2 a (by omega) (by omega)]; exact f1 a z) (SVR_z (fun a z1 z2 z3 => f3 a z2 z3) m3 wv1)
            unfold ndd at r9
            rw [if_neg (show ¬ szf S T (S 0 0) (T 0 0) (-1) 0 (xshl 1 (h 1 2) - 1) < 1000000 by have := sno_1 zr2 (by omega); omega), if_pos (show szf S T (S 0 0) (T 0 0) (-1) 1 (xshl 1 (h 1 2) - 1) < 1000000 from (sno_2 zr3 (by omega)).1)] at r9
            exact r9)
    · rw [c_eq (by first | assumption | (refine ⟨?_, ?_⟩ <;> omega) | (simp only [xr] at *; omega)) (by first | assumption | (refine ⟨?_, ?_⟩ <;> omega) | (simp only [xr] at *; omega))] at c19_0
      simp only [decide_eq_true_eq, decide_eq_false_iff_not, Decidable.not_not] at c19_0
      show xEx G0 cdX11_needed (some .int) (xRn G0 MT (d + 8)) Q 0 20 [some (.inr (.inr 0)), some (.inl 0)] [] h2
      refine E_s 1 (i' := 21) (ls' := [some (.inr (.inr 0)), some (.inl 0)]) (sk' := [.inl 0]) (h' := h2) rfl ?_
      exact E_ret (x := (.ireturn, 0, [], [])) (v := some (.inl 0)) rfl (Or.inl rfl) (by
        have r9 := hO he h2 (fun a z => by rw [f2 a (by omega) (by omega)]; exact f1 a z) (SVR_z (fun a z1 z2 z3 => f2 a z2 z3) m2 v1)
        unfold ndd at r9
        rw [if_pos (show szf S T (S 0 0) (T 0 0) (-1) 0 (xshl 1 (h 1 2) - 1) < 1000000 from (sno_2 zr2 (by omega)).1)] at r9
        exact r9)
