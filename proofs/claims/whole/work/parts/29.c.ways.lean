theorem c_wy (d b : Nat) (h S T : xH) (set ifs : Int) (m : Nat) (hV : SVF h S T (-1) m) (hM : SVM h S T (-1) m) (hW : SVW h S T (-1) m) (hb : h 44 10 = -1) (hK : h 9 9 = S 0 0) (hs : ir m set) (hi : 0 ≤ ifs ∧ ifs ≤ 3) {Q : xO → xH → Prop} (hQ : ∀ h', FY h h' → SVM h' S T (-1) m → SVW h' S T (-1) m → Q (.inl (some (.inl (wyf S T (S 0 0) (T 0 0) ifs.toNat set)))) h') : xRn G0 MT (d + 10) b 68 [.inr (.inr 44), .inl set, .inl ifs] h Q := by
  have : ifs = 0 ∨ ifs = 1 ∨ ifs = 2 ∨ ifs = 3 := by omega
  rcases this with rfl | rfl | rfl | rfl
  · exact c_wy0 (d + 6) b h S T set m hV hM hW hb hK hs hQ
  · exact c_wy1 (d + 4) b h S T set m hV hM hW hb hK hs hQ
  · exact c_wy2 (d + 2) b h S T set m hV hM hW hb hK hs hQ
  · exact c_wy3 d b h S T set m hV hM hW hb hK hs hQ
set_option maxHeartbeats 1000000 in
theorem o_ties (d  : Nat) (h S T : xH) (ifs : Int) (hx : xr ifs) (hI : IS h S T) (hR : RC h S) (hRT : RCT h T) (m : Nat) (o : OKS S T (S 0 0) (T 0 0) m) (hm : m = (h 1 2).toNat) (hn : 0 ≤ h 1 2 ∧ h 1 2 ≤ 12) {Q : xO → xH → Prop} (hA : ¬ (0 ≤ ifs ∧ ifs ≤ 3) → Q (.inr "java/lang/IllegalArgumentException") h) (hS : (0 ≤ ifs ∧ ifs ≤ 3) → ¬ (h 1 2 ≠ 0) → Q (.inr "java/lang/IllegalStateException") h) (hO : (0 ≤ ifs ∧ ifs ≤ 3) → h 1 2 ≠ 0 → ∀ h', PRF h h' → SVR h' S T (-1) m → Q (.inl (some (.inl (wyf S T (S 0 0) (T 0 0) ifs.toNat (xshl 1 (h 1 2) - 1))))) h') : xRn G0 MT (d + 11) 2 129 [.inr (.inr 0), .inl ifs] h Q := by
  refine R_of (M := mX11_ties) rfl (Nat.le_of_ble_eq_true rfl) ?_
  show xEx G0 cdX11_ties (some .int) (xRn G0 MT (d + 10)) Q 2 0 [some (.inr (.inr 0)), some (.inl ifs)] [] h
  refine E_s 1 (i' := 1) (ls' := [some (.inr (.inr 0)), some (.inl ifs)]) (sk' := [.inl ifs]) (h' := h) rfl ?_
  refine E_cx (x := (.invokestatic 282, 1, [(0, 151)], [])) (b1 := 1) (b2 := 1) (v := none) (q := fun h9 => (0 ≤ ifs ∧ ifs ≤ 3) ∧ h = h9) rfl rfl (Nat.le_of_ble_eq_true rfl) (fun z => by cases z) (c_refNoIfs (d + 9) h ifs hx (fun z9 => Or.inl ⟨rfl, z9, rfl⟩) (fun z9 => Or.inr ⟨_, rfl, hA z9⟩)) (fun h9 hq9 => ?_)
  obtain ⟨hi, rfl⟩ := hq9
  show xEx G0 cdX11_ties (some .int) (xRn G0 MT (d + 10)) Q 1 2 [some (.inr (.inr 0)), some (.inl ifs)] [] h
  refine E_s 1 (i' := 3) (ls' := [some (.inr (.inr 0)), some (.inl ifs)]) (sk' := [.inr (.inr 0)]) (h' := h) rfl ?_
  refine E_cx (x := (.invokevirtual 285, 0, [(9, 146)], [0])) (b1 := 1) (b2 := 0) (v := none) (q := fun h9 => (h 1 2 ≠ 0) ∧ h = h9) rfl rfl (Nat.le_of_ble_eq_true rfl) (fun z => by cases z) (c_refNoExamples (d + 9) h hn (fun z9 => Or.inl ⟨rfl, z9, rfl⟩) (fun z9 => Or.inr ⟨_, rfl, hS hi z9⟩)) (fun h9 hq9 => ?_)
  obtain ⟨he, rfl⟩ := hq9
  show xEx G0 cdX11_ties (some .int) (xRn G0 MT (d + 10)) Q 0 4 [some (.inr (.inr 0)), some (.inl ifs)] [] h
  refine E_s 3 (i' := 7) (ls' := [some (.inr (.inr 0)), some (.inl ifs)]) (sk' := [.inl (-1), .inr (.inr 44)]) (h' := h) rfl ?_
  refine E_cv (x := (.invokevirtual 320, 1, [(5, 59)], [0])) (q := fun h9 => PRF h h9 ∧ SVR h9 S T (-1) m) rfl rfl (Nat.le_of_ble_eq_true rfl) (c_prepare (d + 6) 0 h S T (-1) m (Or.inl rfl) hI hR hRT o hm hn (fun h9 z1 z2 => ⟨rfl, z1, z2⟩)) (fun h1 hq1 => ?_)
  obtain ⟨f1, v1⟩ := hq1
  have x1 : h1 1 = h 1 := f1 _ (by decide)
  have ia : ir m (xshl 1 (h 1 2) - 1) := ir_all hn.1 hn.2 hm
  show xEx G0 cdX11_ties (some .int) (xRn G0 MT (d + 10)) Q 0 8 [some (.inr (.inr 0)), some (.inl ifs)] [] h1
  refine E_s 4 (i' := 12) (ls' := [some (.inr (.inr 0)), some (.inl ifs)]) (sk' := [.inr (.inr 1), .inr (.inr 44)]) (h' := h1) rfl ?_
  refine E_ci (x := (.invokevirtual 323, 0, [(0, 0)], [0])) (r := (xshl 1 (h 1 2) - 1)) (h' := h1) rfl rfl (Nat.le_of_ble_eq_true rfl) (c_all (d + 9) 0 h1 ⟨by show Sum.inl (some (Sum.inl (xshl 1 (h1 1 2) - 1))) = _; rw [x1], rfl⟩) ?_
  show xEx G0 cdX11_ties (some .int) (xRn G0 MT (d + 10)) Q 0 13 [some (.inr (.inr 0)), some (.inl ifs)] [.inl (xshl 1 (h 1 2) - 1), .inr (.inr 44)] h1
  refine E_s 1 (i' := 14) (ls' := [some (.inr (.inr 0)), some (.inl ifs)]) (sk' := [.inl ifs, .inl (xshl 1 (h 1 2) - 1), .inr (.inr 44)]) (h' := h1) rfl ?_
  refine E_cp (x := (.invokevirtual 329, 2, [(5, 68)], [0])) (q := fun r h9 => r = wyf S T (S 0 0) (T 0 0) ifs.toNat (xshl 1 (h 1 2) - 1) ∧ FY h1 h9 ∧ SVM h9 S T (-1) m ∧ SVW h9 S T (-1) m) rfl rfl (Nat.le_of_ble_eq_true rfl) (c_wy d 0 h1 S T (xshl 1 (h 1 2) - 1) ifs m v1.2.2.2.2.1 v1.2.2.2.2.2.1 v1.2.2.2.2.2.2.1 v1.2.2.2.1 (by rw [f1 9 (by decide)]; exact hR.1) ia hi (fun h9 z1 z2 z3 => ⟨_, rfl, rfl, z1, z2, z3⟩)) (fun r2 h2 hq2 => ?_)
  obtain ⟨er, f2, m2, w2⟩ := hq2
  show xEx G0 cdX11_ties (some .int) (xRn G0 MT (d + 10)) Q 0 15 [some (.inr (.inr 0)), some (.inl ifs)] [.inl r2] h2
  exact E_ret (x := (.ireturn, 0, [], [])) (v := some (.inl r2)) rfl (Or.inl rfl) (by
    rw [er]
    refine hO hi he h2 (fun a z => by rw [f2 a (by omega)]; exact f1 a z) ?_
    obtain ⟨y1, y2, y3, y4, y5, y6, y7, y8, y9⟩ := v1
    have so2 : h2 44 = h1 44 := f2 _ (by decide)
    refine ⟨by rw [so2]; exact y1, by rw [so2]; exact y2, by rw [so2]; exact y3, by rw [so2]; exact y4, SVF_y f2 y5, m2, w2, ?_, ?_⟩
    · unfold SVN; rw [f2 54 (by decide)]; exact y8
    · unfold SVC; rw [so2]; exact y9)
theorem wyf_j {S T : xH} {KE KT j set : Int} (h : 0 ≤ j) : wyf S T KE KT j.toNat set = if 1000000 ≤ szf S T KE KT (-1) j.toNat set then 0 else if j = 0 then cnf S set (szf S T KE KT (-1) j.toNat set) KE.toNat else wst T (szf S T KE KT (-1) (j - 1).toNat) (wyf S T KE KT (j - 1).toNat) set (szf S T KE KT (-1) j.toNat set) (cnf S set (szf S T KE KT (-1) j.toNat set) KE.toNat) KT.toNat := by
  by_cases z : j = 0
  · subst z
    rw [if_pos rfl]
    rfl
  · rw [if_neg z]
    have e : j.toNat = (j - 1).toNat + 1 := by omega
    rw [e]
    rfl
set_option maxHeartbeats 1000000 in
theorem m_lw (d b : Nat) (h S T : xH) (j set : Int) (m : Nat) (o : OKS S T (S 0 0) (T 0 0) m) (hA : RA h S T) (hs : ir m set) (hs0 : set ≠ 0) (hj : 0 ≤ j ∧ j ≤ 3) (hL : ∀ j2, 0 ≤ j2 → j2 ≤ j → ∀ s, ir m s → s ≠ 0 → h 101 (4096 * j2 + s) = szf S T (S 0 0) (T 0 0) (-1) j2.toNat s) (hW : ∀ s, ir m s → s ≠ 0 → 1 ≤ j → h 110 (4096 * (j - 1) + s) = wyf S T (S 0 0) (T 0 0) (j - 1).toNat s) {Q : xO → xH → Prop} (hQ : ∀ h', (∀ a, a ≠ 110 → h' a = h a) ∧ (∀ i, i ≠ ((4096 * j) + set) → h' 110 i = h 110 i) → h' 110 ((4096 * j) + set) = wyf S T (S 0 0) (T 0 0) j.toNat set → Q (.inl none) h') : xRn G0 MT (d + 1) b 234 [.inr (.inr 66), .inl j, .inl set] h Q := by
  refine R_of (M := mX12_laysWays) rfl (Nat.le_of_ble_eq_true rfl) ?_
  show xEx G0 cdX12_laysWays none (xRn G0 MT d) Q b 0 [some (.inr (.inr 66)), some (.inl j), some (.inl set), none, none, none, none, none] [] h
  have r4 := ir4 o.1 hs
  have zr := szf_r (p := -1) o j.toNat set
  have cr := cnf_r (S := S) (set := set) (z := (szf S T (S 0 0) (T 0 0) (-1) j.toNat set)) (S 0 0).toNat
  have kk := o.2.1
  have el0 : h 101 ((4096 * j) + set) = (szf S T (S 0 0) (T 0 0) (-1) j.toNat set) := hL j hj.1 (Int.le_refl _) set hs hs0
  refine E_s 10 (i' := 10) (ls' := [some (.inr (.inr 66)), some (.inl j), some (.inl set), some (.inl ((4096 * j) + set)), none, none, none, none]) (sk' := [.inr (.inl 0), .inl ((4096 * j) + set), .inr (.inr 110)]) (h' := h) rfl ?_
  refine E_sd (x := (.lastore, 0, [], [])) (ty := .long) (n := 16384) (y := 0) rfl rfl rfl (by omega) (by omega) (trivial) ?_
  show xEx G0 cdX12_laysWays none (xRn G0 MT d) Q b 11 [some (.inr (.inr 66)), some (.inl j), some (.inl set), some (.inl ((4096 * j) + set)), none, none, none, none] [] (xup h 110 ((4096 * j) + set) 0)
  refine E_s 3 (i' := 14) (ls' := [some (.inr (.inr 66)), some (.inl j), some (.inl set), some (.inl ((4096 * j) + set)), none, none, none, none]) (sk' := [.inl ((4096 * j) + set), .inr (.inr 101)]) (h' := (xup h 110 ((4096 * j) + set) 0)) rfl ?_
  refine E_ld (x := (.iaload, 0, [], [])) (ty := .int) (n := 16384) rfl rfl rfl (by omega) (by omega) ?_
  show xEx G0 cdX12_laysWays none (xRn G0 MT d) Q b 15 [some (.inr (.inr 66)), some (.inl j), some (.inl set), some (.inl ((4096 * j) + set)), none, none, none, none] [.inl (h 101 ((4096 * j) + set))] (xup h 110 ((4096 * j) + set) 0)
  refine E_s 1 (i' := 16) (ls' := [some (.inr (.inr 66)), some (.inl j), some (.inl set), some (.inl ((4096 * j) + set)), none, none, none, none]) (sk' := [.inl 1000000, .inl (h 101 ((4096 * j) + set))]) (h' := (xup h 110 ((4096 * j) + set) 0)) rfl ?_
  refine E_b (x := (.if_icmp .lt 4, 18, [], [])) rfl rfl (fun c16 => ?_) (fun c16 => ?_)
  · rw [c_lt (by first | assumption | (refine ⟨?_, ?_⟩ <;> omega) | (simp only [xr] at *; omega)) (by first | assumption | (refine ⟨?_, ?_⟩ <;> omega) | (simp only [xr] at *; omega))] at c16
    simp only [decide_eq_true_eq, decide_eq_false_iff_not, Decidable.not_not] at c16
    show xEx G0 cdX12_laysWays none (xRn G0 MT d) Q b 18 [some (.inr (.inr 66)), some (.inl j), some (.inl set), some (.inl ((4096 * j) + set)), none, none, none, none] [] (xup h 110 ((4096 * j) + set) 0)
    refine E_s 2 (i' := 20) (ls' := [some (.inr (.inr 66)), some (.inl j), some (.inl set), some (.inl ((4096 * j) + set)), some (.inl 0), none, none, none]) (sk' := []) (h' := (xup h 110 ((4096 * j) + set) 0)) rfl ?_
    have key20 : ∀ (n : Nat) (hh : xH) (k : Int), (0 ≤ k) → (k ≤ S 0 0) → ((∀ a, a ≠ 110 → hh a = h a) ∧ (∀ i, i ≠ ((4096 * j) + set) → hh 110 i = h 110 i)) → (hh 110 ((4096 * j) + set) = cnf S set (szf S T (S 0 0) (T 0 0) (-1) j.toNat set) k.toNat) → ((S 0 0 - k).toNat) < n → xEx G0 cdX12_laysWays none (xRn G0 MT d) Q b 20 [some (.inr (.inr 66)), some (.inl j), some (.inl set), some (.inl ((4096 * j) + set)), some (.inl k), none, none, none] [] hh := by
      intro n
      induction n with
      | zero => intro hh k _ _ _ _ hm; exact absurd hm (Nat.not_lt_zero _)
      | succ n ih20 =>
        intro hh k k0 k1 ff hv hm20
        have fa := ff.1
        have m66 : hh 66 = h 66 := fa _ (by decide)
        have eK : hh 66 8 = S 0 0 := by rw [m66]; exact hA.1
        have el : hh 101 ((4096 * j) + set) = (szf S T (S 0 0) (T 0 0) (-1) j.toNat set) := by rw [fa _ (by decide)]; exact hL j hj.1 (Int.le_refl _) set hs hs0
        have kk := o.2.1
        refine E_s 3 (i' := 23) (ls' := [some (.inr (.inr 66)), some (.inl j), some (.inl set), some (.inl ((4096 * j) + set)), some (.inl k), none, none, none]) (sk' := [.inl (hh 66 8), .inl k]) (h' := hh) rfl ?_
        refine E_b (x := (.if_icmp .ge 48, 51, [], [])) rfl rfl (fun c23 => ?_) (fun c23 => ?_)
        · rw [c_ge (by first | assumption | (refine ⟨?_, ?_⟩ <;> omega) | (simp only [xr] at *; omega)) (by first | assumption | (refine ⟨?_, ?_⟩ <;> omega) | (simp only [xr] at *; omega))] at c23
          simp only [decide_eq_true_eq, decide_eq_false_iff_not, Decidable.not_not] at c23
          show xEx G0 cdX12_laysWays none (xRn G0 MT d) Q b 51 [some (.inr (.inr 66)), some (.inl j), some (.inl set), some (.inl ((4096 * j) + set)), some (.inl k), none, none, none] [] hh
          refine E_s 2 (i' := 53) (ls' := [some (.inr (.inr 66)), some (.inl j), some (.inl set), some (.inl ((4096 * j) + set)), some (.inl 0), none, none, none]) (sk' := []) (h' := hh) rfl ?_
          have key53 : ∀ (n : Nat) (hh : xH) (t : Int) (v5 v6 v7 : Option xV), (0 ≤ t) → (t ≤ T 0 0) → ((∀ a, a ≠ 110 → hh a = h a) ∧ (∀ i, i ≠ ((4096 * j) + set) → hh 110 i = h 110 i)) → (hh 110 ((4096 * j) + set) = wst T (szf S T (S 0 0) (T 0 0) (-1) (j - 1).toNat) (wyf S T (S 0 0) (T 0 0) (j - 1).toNat) set (szf S T (S 0 0) (T 0 0) (-1) j.toNat set) (cnf S set (szf S T (S 0 0) (T 0 0) (-1) j.toNat set) (S 0 0).toNat) t.toNat) → (j = 0 → t = 0) → ((T 0 0 - t).toNat) < n → xEx G0 cdX12_laysWays none (xRn G0 MT d) Q b 53 [some (.inr (.inr 66)), some (.inl j), some (.inl set), some (.inl ((4096 * j) + set)), some (.inl t), v5, v6, v7] [] hh := by
            intro n
            induction n with
            | zero => intro hh t v5 v6 v7 _ _ _ _ _ hm; exact absurd hm (Nat.not_lt_zero _)
            | succ n ih53 =>
              intro hh t v5 v6 v7 t0 t1 ff hv hj0 hm53
              have fa := ff.1
              have m66 : hh 66 = h 66 := fa _ (by decide)
              have eT : hh 66 19 = T 0 0 := by rw [m66]; exact hA.2.1
              have el : hh 101 ((4096 * j) + set) = (szf S T (S 0 0) (T 0 0) (-1) j.toNat set) := by rw [fa _ (by decide)]; exact hL j hj.1 (Int.le_refl _) set hs hs0
              have fr := wst_r (T := T) (f := (szf S T (S 0 0) (T 0 0) (-1) (j - 1).toNat)) (g := (wyf S T (S 0 0) (T 0 0) (j - 1).toNat)) (set := set) (z := (szf S T (S 0 0) (T 0 0) (-1) j.toNat set)) (c0 := (cnf S set (szf S T (S 0 0) (T 0 0) (-1) j.toNat set) (S 0 0).toNat)) (by omega) (fun s => (wyf_r o (j - 1).toNat s).1) t.toNat
              have kt := o.2.2.1
              refine E_s 3 (i' := 56) (ls' := [some (.inr (.inr 66)), some (.inl j), some (.inl set), some (.inl ((4096 * j) + set)), some (.inl t), v5, v6, v7]) (sk' := [.inl (hh 66 19), .inl t]) (h' := hh) rfl ?_
              refine E_b (x := (.if_icmp .ge 144, 141, [], [])) rfl rfl (fun c56 => ?_) (fun c56 => ?_)
              · rw [c_ge (by first | assumption | (refine ⟨?_, ?_⟩ <;> omega) | (simp only [xr] at *; omega)) (by first | assumption | (refine ⟨?_, ?_⟩ <;> omega) | (simp only [xr] at *; omega))] at c56
                simp only [decide_eq_true_eq, decide_eq_false_iff_not, Decidable.not_not] at c56
                show xEx G0 cdX12_laysWays none (xRn G0 MT d) Q b 141 [some (.inr (.inr 66)), some (.inl j), some (.inl set), some (.inl ((4096 * j) + set)), some (.inl t), v5, v6, v7] [] hh
                exact E_ret (x := (.return_, 0, [], [])) (v := none) rfl (trivial) (by
                  refine hQ hh ff ?_
                  rw [wyf_j hj.1, if_neg (by omega), hv]
                  by_cases y : j = 0
                  · rw [if_pos y, hj0 y]
                    rfl
                  · rw [if_neg y, show t = T 0 0 by omega])
              · rw [c_ge (by first | assumption | (refine ⟨?_, ?_⟩ <;> omega) | (simp only [xr] at *; omega)) (by first | assumption | (refine ⟨?_, ?_⟩ <;> omega) | (simp only [xr] at *; omega))] at c56
                simp only [decide_eq_true_eq, decide_eq_false_iff_not, Decidable.not_not] at c56
                show xEx G0 cdX12_laysWays none (xRn G0 MT d) Q b 57 [some (.inr (.inr 66)), some (.inl j), some (.inl set), some (.inl ((4096 * j) + set)), some (.inl t), v5, v6, v7] [] hh
                refine E_s 1 (i' := 58) (ls' := [some (.inr (.inr 66)), some (.inl j), some (.inl set), some (.inl ((4096 * j) + set)), some (.inl t), v5, v6, v7]) (sk' := [.inl j]) (h' := hh) rfl ?_
                refine E_b (x := (.ifCond .le 140, 141, [], [])) rfl rfl (fun c58 => ?_) (fun c58 => ?_)
                · rw [c_le (by first | assumption | (refine ⟨?_, ?_⟩ <;> omega) | (simp only [xr] at *; omega)) (by first | assumption | (refine ⟨?_, ?_⟩ <;> omega) | (simp only [xr] at *; omega))] at c58
                  simp only [decide_eq_true_eq, decide_eq_false_iff_not, Decidable.not_not] at c58
                  show xEx G0 cdX12_laysWays none (xRn G0 MT d) Q b 141 [some (.inr (.inr 66)), some (.inl j), some (.inl set), some (.inl ((4096 * j) + set)), some (.inl t), v5, v6, v7] [] hh
                  exact E_ret (x := (.return_, 0, [], [])) (v := none) rfl (trivial) (by
                    refine hQ hh ff ?_
                    rw [wyf_j hj.1, if_neg (by omega), hv]
                    by_cases y : j = 0
                    · rw [if_pos y, hj0 y]
                      rfl
                    · rw [if_neg y, show t = T 0 0 by omega])
                · rw [c_le (by first | assumption | (refine ⟨?_, ?_⟩ <;> omega) | (simp only [xr] at *; omega)) (by first | assumption | (refine ⟨?_, ?_⟩ <;> omega) | (simp only [xr] at *; omega))] at c58
                  simp only [decide_eq_true_eq, decide_eq_false_iff_not, Decidable.not_not] at c58
                  show xEx G0 cdX12_laysWays none (xRn G0 MT d) Q b 59 [some (.inr (.inr 66)), some (.inl j), some (.inl set), some (.inl ((4096 * j) + set)), some (.inl t), v5, v6, v7] [] hh
                  have t6 : hh 87 t = T 6 t := by rw [fa _ (by decide)]; exact (hA.2.2.2 t t0 (by omega)).2
                  have t4 : hh 85 t = T 4 t := by rw [fa _ (by decide)]; exact (hA.2.2.2 t t0 (by omega)).1
                  have o4 := o.2.2.2.2 t t0 (by omega)
                  have xar := xand_r set (hh 87 t)
                  refine E_s 4 (i' := 63) (ls' := [some (.inr (.inr 66)), some (.inl j), some (.inl set), some (.inl ((4096 * j) + set)), some (.inl t), v5, v6, v7]) (sk' := [.inl t, .inr (.inr 87), .inl set]) (h' := hh) rfl ?_
                  refine E_ld (x := (.iaload, 0, [], [])) (ty := .int) (n := 150) rfl rfl rfl (by omega) (by omega) ?_
                  show xEx G0 cdX12_laysWays none (xRn G0 MT d) Q b 64 [some (.inr (.inr 66)), some (.inl j), some (.inl set), some (.inl ((4096 * j) + set)), some (.inl t), v5, v6, v7] [.inl (hh 87 t), .inl set] hh
                  refine E_s 3 (i' := 67) (ls' := [some (.inr (.inr 66)), some (.inl j), some (.inl set), some (.inl ((4096 * j) + set)), some (.inl t), some (.inl (xand set (hh 87 t))), v6, v7]) (sk' := [.inl (xand set (hh 87 t))]) (h' := hh) rfl ?_
                  refine E_b (x := (.ifCond .eq 118, 139, [], [])) rfl rfl (fun c67 => ?_) (fun c67 => ?_)
                  · rw [c_eq (by first | exact xand_r _ _ | exact ⟨by omega, by omega⟩) (by first | exact xand_r _ _ | exact ⟨by omega, by omega⟩)] at c67
                    simp only [decide_eq_true_eq, decide_eq_false_iff_not, Decidable.not_not] at c67
                    show xEx G0 cdX12_laysWays none (xRn G0 MT d) Q b 139 [some (.inr (.inr 66)), some (.inl j), some (.inl set), some (.inl ((4096 * j) + set)), some (.inl t), some (.inl (xand set (hh 87 t))), v6, v7] [] hh
                    refine E_s 2 (i' := 53) (ls' := [some (.inr (.inr 66)), some (.inl j), some (.inl set), some (.inl ((4096 * j) + set)), some (.inl (t + 1)), some (.inl (xand set (hh 87 t))), v6, v7]) (sk' := []) (h' := hh) rfl ?_
                    exact ih53 hh (t + 1) _ _ _ (by omega) (by omega) ff (by rw [wst_n t0 (fun y => by
                        have y8 := y.1.2
                        rw [← t6] at y8
                        omega), hv]) (fun z => by omega) (by omega)
                  · rw [c_eq (by first | exact xand_r _ _ | exact ⟨by omega, by omega⟩) (by first | exact xand_r _ _ | exact ⟨by omega, by omega⟩)] at c67
                    simp only [decide_eq_true_eq, decide_eq_false_iff_not, Decidable.not_not] at c67
                    show xEx G0 cdX12_laysWays none (xRn G0 MT d) Q b 68 [some (.inr (.inr 66)), some (.inl j), some (.inl set), some (.inl ((4096 * j) + set)), some (.inl t), some (.inl (xand set (hh 87 t))), v6, v7] [] hh
                    refine E_s 2 (i' := 70) (ls' := [some (.inr (.inr 66)), some (.inl j), some (.inl set), some (.inl ((4096 * j) + set)), some (.inl t), some (.inl (xand set (hh 87 t))), v6, v7]) (sk' := [.inl set, .inl (xand set (hh 87 t))]) (h' := hh) rfl ?_
                    refine E_b (x := (.if_icmp .ne 6, 72, [], [])) rfl rfl (fun c70 => ?_) (fun c70 => ?_)
                    · rw [c_ne (by first | exact xand_r _ _ | exact ⟨by omega, by omega⟩) (by first | exact xand_r _ _ | exact ⟨by omega, by omega⟩)] at c70
                      simp only [decide_eq_true_eq, decide_eq_false_iff_not, Decidable.not_not] at c70
                      show xEx G0 cdX12_laysWays none (xRn G0 MT d) Q b 72 [some (.inr (.inr 66)), some (.inl j), some (.inl set), some (.inl ((4096 * j) + set)), some (.inl t), some (.inl (xand set (hh 87 t))), v6, v7] [] hh
                      have i1 : ir m (xand set (hh 87 t)) := by rw [t6]; exact xa_r o.1 hs o4.2.1
                      have i2 : ir m (xxor set (xand set (hh 87 t))) := xx_r o.1 hs i1
                      have n2 : xxor set (xand set (hh 87 t)) ≠ 0 := by rw [t6]; rw [t6] at c70; exact els_0 o.1 hs o4.2.1 c70
                      have r1 := ir4 o.1 i1
                      have r2 := ir4 o.1 i2
                      have y1 : hh 101 ((4096 * (j - 1)) + (xand set (hh 87 t))) = (szf S T (S 0 0) (T 0 0) (-1) (j - 1).toNat) (xand set (hh 87 t)) := by rw [fa _ (by decide)]; exact hL (j - 1) (by omega) (by omega) _ i1 c67
                      have y2 : hh 101 ((4096 * (j - 1)) + (xxor set (xand set (hh 87 t)))) = (szf S T (S 0 0) (T 0 0) (-1) (j - 1).toNat) (xxor set (xand set (hh 87 t))) := by rw [fa _ (by decide)]; exact hL (j - 1) (by omega) (by omega) _ i2 n2
                      have w1 : hh 110 ((4096 * (j - 1)) + (xand set (hh 87 t))) = (wyf S T (S 0 0) (T 0 0) (j - 1).toNat) (xand set (hh 87 t)) := by rw [ff.2 _ (by omega)]; exact hW _ i1 c67 (by omega)
                      have w2 : hh 110 ((4096 * (j - 1)) + (xxor set (xand set (hh 87 t)))) = (wyf S T (S 0 0) (T 0 0) (j - 1).toNat) (xxor set (xand set (hh 87 t))) := by rw [ff.2 _ (by omega)]; exact hW _ i2 n2 (by omega)
                      have s1 := szf_r (p := -1) o (j - 1).toNat (xand set (hh 87 t))
                      have s2 := szf_r (p := -1) o (j - 1).toNat (xxor set (xand set (hh 87 t)))
                      have x1 := wyf_r o (j - 1).toNat (xand set (hh 87 t))
                      have x2 := wyf_r o (j - 1).toNat (xxor set (xand set (hh 87 t)))
                      have cond : (prt T (-1) set t ∧ szt T (szf S T (S 0 0) (T 0 0) (-1) (j - 1).toNat) set t = (szf S T (S 0 0) (T 0 0) (-1) j.toNat set)) ↔ 1 + T 4 t + (szf S T (S 0 0) (T 0 0) (-1) (j - 1).toNat) (xand set (hh 87 t)) + (szf S T (S 0 0) (T 0 0) (-1) (j - 1).toNat) (xxor set (xand set (hh 87 t))) = (szf S T (S 0 0) (T 0 0) (-1) j.toNat set) := by
                        constructor
                        · intro y; have := y.2; unfold szt at this; rw [← t6] at this; exact this
                        · intro y; exact ⟨⟨Or.inl rfl, by rw [← t6]; exact c67, by rw [← t6]; exact c70⟩, by unfold szt; rw [← t6]; exact y⟩
                      refine E_s 22 (i' := 94) (ls' := [some (.inr (.inr 66)), some (.inl j), some (.inl set), some (.inl ((4096 * j) + set)), some (.inl t), some (.inl (xand set (hh 87 t))), some (.inl ((4096 * (j - 1)) + (xand set (hh 87 t)))), some (.inl ((4096 * (j - 1)) + (xxor set (xand set (hh 87 t)))))]) (sk' := [.inl t, .inr (.inr 85), .inl 1]) (h' := hh) rfl ?_
                      refine E_ld (x := (.iaload, 0, [], [])) (ty := .int) (n := 150) rfl rfl rfl (by omega) (by omega) ?_
                      show xEx G0 cdX12_laysWays none (xRn G0 MT d) Q b 95 [some (.inr (.inr 66)), some (.inl j), some (.inl set), some (.inl ((4096 * j) + set)), some (.inl t), some (.inl (xand set (hh 87 t))), some (.inl ((4096 * (j - 1)) + (xand set (hh 87 t)))), some (.inl ((4096 * (j - 1)) + (xxor set (xand set (hh 87 t)))))] [.inl (hh 85 t), .inl 1] hh
                      refine E_s 4 (i' := 99) (ls' := [some (.inr (.inr 66)), some (.inl j), some (.inl set), some (.inl ((4096 * j) + set)), some (.inl t), some (.inl (xand set (hh 87 t))), some (.inl ((4096 * (j - 1)) + (xand set (hh 87 t)))), some (.inl ((4096 * (j - 1)) + (xxor set (xand set (hh 87 t)))))]) (sk' := [.inl ((4096 * (j - 1)) + (xand set (hh 87 t))), .inr (.inr 101), .inl (1 + (hh 85 t))]) (h' := hh) rfl ?_
                      refine E_ld (x := (.iaload, 0, [], [])) (ty := .int) (n := 16384) rfl rfl rfl (by omega) (by omega) ?_
                      show xEx G0 cdX12_laysWays none (xRn G0 MT d) Q b 100 [some (.inr (.inr 66)), some (.inl j), some (.inl set), some (.inl ((4096 * j) + set)), some (.inl t), some (.inl (xand set (hh 87 t))), some (.inl ((4096 * (j - 1)) + (xand set (hh 87 t)))), some (.inl ((4096 * (j - 1)) + (xxor set (xand set (hh 87 t)))))] [.inl (hh 101 ((4096 * (j - 1)) + (xand set (hh 87 t)))), .inl (1 + (hh 85 t))] hh
                      refine E_s 4 (i' := 104) (ls' := [some (.inr (.inr 66)), some (.inl j), some (.inl set), some (.inl ((4096 * j) + set)), some (.inl t), some (.inl (xand set (hh 87 t))), some (.inl ((4096 * (j - 1)) + (xand set (hh 87 t)))), some (.inl ((4096 * (j - 1)) + (xxor set (xand set (hh 87 t)))))]) (sk' := [.inl ((4096 * (j - 1)) + (xxor set (xand set (hh 87 t)))), .inr (.inr 101), .inl ((1 + (hh 85 t)) + (hh 101 ((4096 * (j - 1)) + (xand set (hh 87 t)))))]) (h' := hh) rfl ?_
                      refine E_ld (x := (.iaload, 0, [], [])) (ty := .int) (n := 16384) rfl rfl rfl (by omega) (by omega) ?_
                      show xEx G0 cdX12_laysWays none (xRn G0 MT d) Q b 105 [some (.inr (.inr 66)), some (.inl j), some (.inl set), some (.inl ((4096 * j) + set)), some (.inl t), some (.inl (xand set (hh 87 t))), some (.inl ((4096 * (j - 1)) + (xand set (hh 87 t)))), some (.inl ((4096 * (j - 1)) + (xxor set (xand set (hh 87 t)))))] [.inl (hh 101 ((4096 * (j - 1)) + (xxor set (xand set (hh 87 t))))), .inl ((1 + (hh 85 t)) + (hh 101 ((4096 * (j - 1)) + (xand set (hh 87 t)))))] hh
                      refine E_s 4 (i' := 109) (ls' := [some (.inr (.inr 66)), some (.inl j), some (.inl set), some (.inl ((4096 * j) + set)), some (.inl t), some (.inl (xand set (hh 87 t))), some (.inl ((4096 * (j - 1)) + (xand set (hh 87 t)))), some (.inl ((4096 * (j - 1)) + (xxor set (xand set (hh 87 t)))))]) (sk' := [.inl ((4096 * j) + set), .inr (.inr 101), .inl (((1 + (hh 85 t)) + (hh 101 ((4096 * (j - 1)) + (xand set (hh 87 t))))) + (hh 101 ((4096 * (j - 1)) + (xxor set (xand set (hh 87 t))))))]) (h' := hh) rfl ?_
                      refine E_ld (x := (.iaload, 0, [], [])) (ty := .int) (n := 16384) rfl rfl rfl (by omega) (by omega) ?_
                      show xEx G0 cdX12_laysWays none (xRn G0 MT d) Q b 110 [some (.inr (.inr 66)), some (.inl j), some (.inl set), some (.inl ((4096 * j) + set)), some (.inl t), some (.inl (xand set (hh 87 t))), some (.inl ((4096 * (j - 1)) + (xand set (hh 87 t)))), some (.inl ((4096 * (j - 1)) + (xxor set (xand set (hh 87 t)))))] [.inl (hh 101 ((4096 * j) + set)), .inl (((1 + (hh 85 t)) + (hh 101 ((4096 * (j - 1)) + (xand set (hh 87 t))))) + (hh 101 ((4096 * (j - 1)) + (xxor set (xand set (hh 87 t))))))] hh
                      refine E_b (x := (.if_icmp .ne 27, 127, [], [])) rfl rfl (fun c110 => ?_) (fun c110 => ?_)
                      · rw [c_ne (by first | assumption | (refine ⟨?_, ?_⟩ <;> omega) | (simp only [xr] at *; omega)) (by first | assumption | (refine ⟨?_, ?_⟩ <;> omega) | (simp only [xr] at *; omega))] at c110
                        simp only [decide_eq_true_eq, decide_eq_false_iff_not, Decidable.not_not] at c110
                        show xEx G0 cdX12_laysWays none (xRn G0 MT d) Q b 127 [some (.inr (.inr 66)), some (.inl j), some (.inl set), some (.inl ((4096 * j) + set)), some (.inl t), some (.inl (xand set (hh 87 t))), some (.inl ((4096 * (j - 1)) + (xand set (hh 87 t)))), some (.inl ((4096 * (j - 1)) + (xxor set (xand set (hh 87 t)))))] [] hh
                        have x9 := xcmp_i (a := hh 110 ((4096 * j) + set)) (b := 1000000000) ⟨by omega, by omega⟩ (by omega)
                        refine E_s 3 (i' := 130) (ls' := [some (.inr (.inr 66)), some (.inl j), some (.inl set), some (.inl ((4096 * j) + set)), some (.inl t), some (.inl (xand set (hh 87 t))), some (.inl ((4096 * (j - 1)) + (xand set (hh 87 t)))), some (.inl ((4096 * (j - 1)) + (xxor set (xand set (hh 87 t)))))]) (sk' := [.inl ((4096 * j) + set), .inr (.inr 110)]) (h' := hh) rfl ?_
                        refine E_ld (x := (.laload, 0, [], [])) (ty := .long) (n := 16384) rfl rfl rfl (by omega) (by omega) ?_
                        show xEx G0 cdX12_laysWays none (xRn G0 MT d) Q b 131 [some (.inr (.inr 66)), some (.inl j), some (.inl set), some (.inl ((4096 * j) + set)), some (.inl t), some (.inl (xand set (hh 87 t))), some (.inl ((4096 * (j - 1)) + (xand set (hh 87 t)))), some (.inl ((4096 * (j - 1)) + (xxor set (xand set (hh 87 t)))))] [.inr (.inl (hh 110 ((4096 * j) + set)))] hh
                        refine E_s 2 (i' := 133) (ls' := [some (.inr (.inr 66)), some (.inl j), some (.inl set), some (.inl ((4096 * j) + set)), some (.inl t), some (.inl (xand set (hh 87 t))), some (.inl ((4096 * (j - 1)) + (xand set (hh 87 t)))), some (.inl ((4096 * (j - 1)) + (xxor set (xand set (hh 87 t)))))]) (sk' := [.inl (xcmp (hh 110 ((4096 * j) + set)) 1000000000)]) (h' := hh) rfl ?_
                        refine E_b (x := (.ifCond .le 12, 139, [], [])) rfl rfl (fun c133 => ?_) (fun c133 => ?_)
                        · rw [c_le (by first | exact xcmp_r _ _ | exact ⟨by omega, by omega⟩) (by first | exact xcmp_r _ _ | exact ⟨by omega, by omega⟩)] at c133
                          simp only [decide_eq_true_eq, decide_eq_false_iff_not, Decidable.not_not] at c133
                          show xEx G0 cdX12_laysWays none (xRn G0 MT d) Q b 139 [some (.inr (.inr 66)), some (.inl j), some (.inl set), some (.inl ((4096 * j) + set)), some (.inl t), some (.inl (xand set (hh 87 t))), some (.inl ((4096 * (j - 1)) + (xand set (hh 87 t)))), some (.inl ((4096 * (j - 1)) + (xxor set (xand set (hh 87 t)))))] [] hh
                          refine E_s 2 (i' := 53) (ls' := [some (.inr (.inr 66)), some (.inl j), some (.inl set), some (.inl ((4096 * j) + set)), some (.inl (t + 1)), some (.inl (xand set (hh 87 t))), some (.inl ((4096 * (j - 1)) + (xand set (hh 87 t)))), some (.inl ((4096 * (j - 1)) + (xxor set (xand set (hh 87 t)))))]) (sk' := []) (h' := hh) rfl ?_
                          exact ih53 hh (t + 1) _ _ _ (by omega) (by omega) ff (by rw [wst_n t0 (fun y => c110 (by have := cond.mp y; omega)), hv]) (fun z => by omega) (by omega)
                        · rw [c_le (by first | exact xcmp_r _ _ | exact ⟨by omega, by omega⟩) (by first | exact xcmp_r _ _ | exact ⟨by omega, by omega⟩)] at c133
                          simp only [decide_eq_true_eq, decide_eq_false_iff_not, Decidable.not_not] at c133
                          show xEx G0 cdX12_laysWays none (xRn G0 MT d) Q b 134 [some (.inr (.inr 66)), some (.inl j), some (.inl set), some (.inl ((4096 * j) + set)), some (.inl t), some (.inl (xand set (hh 87 t))), some (.inl ((4096 * (j - 1)) + (xand set (hh 87 t)))), some (.inl ((4096 * (j - 1)) + (xxor set (xand set (hh 87 t)))))] [] hh
                          refine E_s 4 (i' := 138) (ls' := [some (.inr (.inr 66)), some (.inl j), some (.inl set), some (.inl ((4096 * j) + set)), some (.inl t), some (.inl (xand set (hh 87 t))), some (.inl ((4096 * (j - 1)) + (xand set (hh 87 t)))), some (.inl ((4096 * (j - 1)) + (xxor set (xand set (hh 87 t)))))]) (sk' := [.inr (.inl 1000000000), .inl ((4096 * j) + set), .inr (.inr 110)]) (h' := hh) rfl ?_
                          refine E_sd (x := (.lastore, 0, [], [])) (ty := .long) (n := 16384) (y := 1000000000) rfl rfl rfl (by omega) (by omega) (trivial) ?_
                          show xEx G0 cdX12_laysWays none (xRn G0 MT d) Q b 139 [some (.inr (.inr 66)), some (.inl j), some (.inl set), some (.inl ((4096 * j) + set)), some (.inl t), some (.inl (xand set (hh 87 t))), some (.inl ((4096 * (j - 1)) + (xand set (hh 87 t)))), some (.inl ((4096 * (j - 1)) + (xxor set (xand set (hh 87 t)))))] [] (xup hh 110 ((4096 * j) + set) 1000000000)
                          refine E_s 2 (i' := 53) (ls' := [some (.inr (.inr 66)), some (.inl j), some (.inl set), some (.inl ((4096 * j) + set)), some (.inl (t + 1)), some (.inl (xand set (hh 87 t))), some (.inl ((4096 * (j - 1)) + (xand set (hh 87 t)))), some (.inl ((4096 * (j - 1)) + (xxor set (xand set (hh 87 t)))))]) (sk' := []) (h' := (xup hh 110 ((4096 * j) + set) 1000000000)) rfl ?_
                          exact ih53 _ (t + 1) _ _ _ (by omega) (by omega) ⟨fun a z => by rw [xup_o _ _ _ _ a z]; exact ff.1 a z, fun i z => by rw [xup_j z]; exact ff.2 i z⟩ (by exfalso; omega) (fun z => by omega) (by omega)
                      · rw [c_ne (by first | assumption | (refine ⟨?_, ?_⟩ <;> omega) | (simp only [xr] at *; omega)) (by first | assumption | (refine ⟨?_, ?_⟩ <;> omega) | (simp only [xr] at *; omega))] at c110
                        simp only [decide_eq_true_eq, decide_eq_false_iff_not, Decidable.not_not] at c110
                        show xEx G0 cdX12_laysWays none (xRn G0 MT d) Q b 111 [some (.inr (.inr 66)), some (.inl j), some (.inl set), some (.inl ((4096 * j) + set)), some (.inl t), some (.inl (xand set (hh 87 t))), some (.inl ((4096 * (j - 1)) + (xand set (hh 87 t)))), some (.inl ((4096 * (j - 1)) + (xxor set (xand set (hh 87 t)))))] [] hh
                        refine E_s 4 (i' := 115) (ls' := [some (.inr (.inr 66)), some (.inl j), some (.inl set), some (.inl ((4096 * j) + set)), some (.inl t), some (.inl (xand set (hh 87 t))), some (.inl ((4096 * (j - 1)) + (xand set (hh 87 t)))), some (.inl ((4096 * (j - 1)) + (xxor set (xand set (hh 87 t)))))]) (sk' := [.inl ((4096 * j) + set), .inr (.inr 110), .inl ((4096 * j) + set), .inr (.inr 110)]) (h' := hh) rfl ?_
                        refine E_ld (x := (.laload, 0, [], [])) (ty := .long) (n := 16384) rfl rfl rfl (by omega) (by omega) ?_
                        show xEx G0 cdX12_laysWays none (xRn G0 MT d) Q b 116 [some (.inr (.inr 66)), some (.inl j), some (.inl set), some (.inl ((4096 * j) + set)), some (.inl t), some (.inl (xand set (hh 87 t))), some (.inl ((4096 * (j - 1)) + (xand set (hh 87 t)))), some (.inl ((4096 * (j - 1)) + (xxor set (xand set (hh 87 t)))))] [.inr (.inl (hh 110 ((4096 * j) + set))), .inl ((4096 * j) + set), .inr (.inr 110)] hh
                        refine E_s 3 (i' := 119) (ls' := [some (.inr (.inr 66)), some (.inl j), some (.inl set), some (.inl ((4096 * j) + set)), some (.inl t), some (.inl (xand set (hh 87 t))), some (.inl ((4096 * (j - 1)) + (xand set (hh 87 t)))), some (.inl ((4096 * (j - 1)) + (xxor set (xand set (hh 87 t)))))]) (sk' := [.inl ((4096 * (j - 1)) + (xand set (hh 87 t))), .inr (.inr 110), .inr (.inl (hh 110 ((4096 * j) + set))), .inl ((4096 * j) + set), .inr (.inr 110)]) (h' := hh) rfl ?_
                        refine E_ld (x := (.laload, 0, [], [])) (ty := .long) (n := 16384) rfl rfl rfl (by omega) (by omega) ?_
                        show xEx G0 cdX12_laysWays none (xRn G0 MT d) Q b 120 [some (.inr (.inr 66)), some (.inl j), some (.inl set), some (.inl ((4096 * j) + set)), some (.inl t), some (.inl (xand set (hh 87 t))), some (.inl ((4096 * (j - 1)) + (xand set (hh 87 t)))), some (.inl ((4096 * (j - 1)) + (xxor set (xand set (hh 87 t)))))] [.inr (.inl (hh 110 ((4096 * (j - 1)) + (xand set (hh 87 t))))), .inr (.inl (hh 110 ((4096 * j) + set))), .inl ((4096 * j) + set), .inr (.inr 110)] hh
                        refine E_s 3 (i' := 123) (ls' := [some (.inr (.inr 66)), some (.inl j), some (.inl set), some (.inl ((4096 * j) + set)), some (.inl t), some (.inl (xand set (hh 87 t))), some (.inl ((4096 * (j - 1)) + (xand set (hh 87 t)))), some (.inl ((4096 * (j - 1)) + (xxor set (xand set (hh 87 t)))))]) (sk' := [.inl ((4096 * (j - 1)) + (xxor set (xand set (hh 87 t)))), .inr (.inr 110), .inr (.inl (hh 110 ((4096 * (j - 1)) + (xand set (hh 87 t))))), .inr (.inl (hh 110 ((4096 * j) + set))), .inl ((4096 * j) + set), .inr (.inr 110)]) (h' := hh) rfl ?_
                        refine E_ld (x := (.laload, 0, [], [])) (ty := .long) (n := 16384) rfl rfl rfl (by omega) (by omega) ?_
                        show xEx G0 cdX12_laysWays none (xRn G0 MT d) Q b 124 [some (.inr (.inr 66)), some (.inl j), some (.inl set), some (.inl ((4096 * j) + set)), some (.inl t), some (.inl (xand set (hh 87 t))), some (.inl ((4096 * (j - 1)) + (xand set (hh 87 t)))), some (.inl ((4096 * (j - 1)) + (xxor set (xand set (hh 87 t)))))] [.inr (.inl (hh 110 ((4096 * (j - 1)) + (xxor set (xand set (hh 87 t)))))), .inr (.inl (hh 110 ((4096 * (j - 1)) + (xand set (hh 87 t))))), .inr (.inl (hh 110 ((4096 * j) + set))), .inl ((4096 * j) + set), .inr (.inr 110)] hh
                        refine E_s 2 (i' := 126) (ls' := [some (.inr (.inr 66)), some (.inl j), some (.inl set), some (.inl ((4096 * j) + set)), some (.inl t), some (.inl (xand set (hh 87 t))), some (.inl ((4096 * (j - 1)) + (xand set (hh 87 t)))), some (.inl ((4096 * (j - 1)) + (xxor set (xand set (hh 87 t)))))]) (sk' := [.inr (.inl ((hh 110 ((4096 * j) + set)) + ((hh 110 ((4096 * (j - 1)) + (xand set (hh 87 t)))) * (hh 110 ((4096 * (j - 1)) + (xxor set (xand set (hh 87 t)))))))), .inl ((4096 * j) + set), .inr (.inr 110)]) (h' := hh) rfl ?_
                        refine E_sd (x := (.lastore, 0, [], [])) (ty := .long) (n := 16384) (y := ((hh 110 ((4096 * j) + set)) + ((hh 110 ((4096 * (j - 1)) + (xand set (hh 87 t)))) * (hh 110 ((4096 * (j - 1)) + (xxor set (xand set (hh 87 t)))))))) rfl rfl rfl (by omega) (by omega) (trivial) ?_
                        show xEx G0 cdX12_laysWays none (xRn G0 MT d) Q b 127 [some (.inr (.inr 66)), some (.inl j), some (.inl set), some (.inl ((4096 * j) + set)), some (.inl t), some (.inl (xand set (hh 87 t))), some (.inl ((4096 * (j - 1)) + (xand set (hh 87 t)))), some (.inl ((4096 * (j - 1)) + (xxor set (xand set (hh 87 t)))))] [] (xup hh 110 ((4096 * j) + set) ((hh 110 ((4096 * j) + set)) + ((hh 110 ((4096 * (j - 1)) + (xand set (hh 87 t)))) * (hh 110 ((4096 * (j - 1)) + (xxor set (xand set (hh 87 t))))))))
                        have pm : 0 ≤ hh 110 ((4096 * (j - 1)) + (xand set (hh 87 t))) * hh 110 ((4096 * (j - 1)) + (xxor set (xand set (hh 87 t)))) := Int.mul_nonneg (by omega) (by omega)
                        have pl : hh 110 ((4096 * (j - 1)) + (xand set (hh 87 t))) * hh 110 ((4096 * (j - 1)) + (xxor set (xand set (hh 87 t)))) ≤ 1000000000000000000 := mul9 (by omega) (by omega) (by omega) (by omega)
                        have ev : (xup hh 110 ((4096 * j) + set) ((hh 110 ((4096 * j) + set)) + ((hh 110 ((4096 * (j - 1)) + (xand set (hh 87 t)))) * (hh 110 ((4096 * (j - 1)) + (xxor set (xand set (hh 87 t)))))))) 110 ((4096 * j) + set) = hh 110 ((4096 * j) + set) + hh 110 ((4096 * (j - 1)) + (xand set (hh 87 t))) * hh 110 ((4096 * (j - 1)) + (xxor set (xand set (hh 87 t)))) := xup_s
                        have x9 := xcmp_i (a := (xup hh 110 ((4096 * j) + set) ((hh 110 ((4096 * j) + set)) + ((hh 110 ((4096 * (j - 1)) + (xand set (hh 87 t)))) * (hh 110 ((4096 * (j - 1)) + (xxor set (xand set (hh 87 t)))))))) 110 ((4096 * j) + set)) (b := 1000000000) ⟨by omega, by omega⟩ (by omega)
                        have yy := wst_y (T := T) (f := (szf S T (S 0 0) (T 0 0) (-1) (j - 1).toNat)) (g := (wyf S T (S 0 0) (T 0 0) (j - 1).toNat)) (set := set) (z := (szf S T (S 0 0) (T 0 0) (-1) j.toNat set)) (c0 := (cnf S set (szf S T (S 0 0) (T 0 0) (-1) j.toNat set) (S 0 0).toNat)) t0 (cond.mpr (by omega))
                        rw [← t6, ← w1, ← w2, ← hv] at yy
                        unfold cap at yy
                        refine E_s 3 (i' := 130) (ls' := [some (.inr (.inr 66)), some (.inl j), some (.inl set), some (.inl ((4096 * j) + set)), some (.inl t), some (.inl (xand set (hh 87 t))), some (.inl ((4096 * (j - 1)) + (xand set (hh 87 t)))), some (.inl ((4096 * (j - 1)) + (xxor set (xand set (hh 87 t)))))]) (sk' := [.inl ((4096 * j) + set), .inr (.inr 110)]) (h' := (xup hh 110 ((4096 * j) + set) ((hh 110 ((4096 * j) + set)) + ((hh 110 ((4096 * (j - 1)) + (xand set (hh 87 t)))) * (hh 110 ((4096 * (j - 1)) + (xxor set (xand set (hh 87 t))))))))) rfl ?_
                        refine E_ld (x := (.laload, 0, [], [])) (ty := .long) (n := 16384) rfl rfl rfl (by omega) (by omega) ?_
                        show xEx G0 cdX12_laysWays none (xRn G0 MT d) Q b 131 [some (.inr (.inr 66)), some (.inl j), some (.inl set), some (.inl ((4096 * j) + set)), some (.inl t), some (.inl (xand set (hh 87 t))), some (.inl ((4096 * (j - 1)) + (xand set (hh 87 t)))), some (.inl ((4096 * (j - 1)) + (xxor set (xand set (hh 87 t)))))] [.inr (.inl ((xup hh 110 ((4096 * j) + set) ((hh 110 ((4096 * j) + set)) + ((hh 110 ((4096 * (j - 1)) + (xand set (hh 87 t)))) * (hh 110 ((4096 * (j - 1)) + (xxor set (xand set (hh 87 t)))))))) 110 ((4096 * j) + set)))] (xup hh 110 ((4096 * j) + set) ((hh 110 ((4096 * j) + set)) + ((hh 110 ((4096 * (j - 1)) + (xand set (hh 87 t)))) * (hh 110 ((4096 * (j - 1)) + (xxor set (xand set (hh 87 t))))))))
                        refine E_s 2 (i' := 133) (ls' := [some (.inr (.inr 66)), some (.inl j), some (.inl set), some (.inl ((4096 * j) + set)), some (.inl t), some (.inl (xand set (hh 87 t))), some (.inl ((4096 * (j - 1)) + (xand set (hh 87 t)))), some (.inl ((4096 * (j - 1)) + (xxor set (xand set (hh 87 t)))))]) (sk' := [.inl (xcmp ((xup hh 110 ((4096 * j) + set) ((hh 110 ((4096 * j) + set)) + ((hh 110 ((4096 * (j - 1)) + (xand set (hh 87 t)))) * (hh 110 ((4096 * (j - 1)) + (xxor set (xand set (hh 87 t)))))))) 110 ((4096 * j) + set)) 1000000000)]) (h' := (xup hh 110 ((4096 * j) + set) ((hh 110 ((4096 * j) + set)) + ((hh 110 ((4096 * (j - 1)) + (xand set (hh 87 t)))) * (hh 110 ((4096 * (j - 1)) + (xxor set (xand set (hh 87 t))))))))) rfl ?_
                        refine E_b (x := (.ifCond .le 12, 139, [], [])) rfl rfl (fun c133 => ?_) (fun c133 => ?_)
                        · rw [c_le (by first | exact xcmp_r _ _ | exact ⟨by omega, by omega⟩) (by first | exact xcmp_r _ _ | exact ⟨by omega, by omega⟩)] at c133
                          simp only [decide_eq_true_eq, decide_eq_false_iff_not, Decidable.not_not] at c133
                          show xEx G0 cdX12_laysWays none (xRn G0 MT d) Q b 139 [some (.inr (.inr 66)), some (.inl j), some (.inl set), some (.inl ((4096 * j) + set)), some (.inl t), some (.inl (xand set (hh 87 t))), some (.inl ((4096 * (j - 1)) + (xand set (hh 87 t)))), some (.inl ((4096 * (j - 1)) + (xxor set (xand set (hh 87 t)))))] [] (xup hh 110 ((4096 * j) + set) ((hh 110 ((4096 * j) + set)) + ((hh 110 ((4096 * (j - 1)) + (xand set (hh 87 t)))) * (hh 110 ((4096 * (j - 1)) + (xxor set (xand set (hh 87 t))))))))
                          refine E_s 2 (i' := 53) (ls' := [some (.inr (.inr 66)), some (.inl j), some (.inl set), some (.inl ((4096 * j) + set)), some (.inl (t + 1)), some (.inl (xand set (hh 87 t))), some (.inl ((4096 * (j - 1)) + (xand set (hh 87 t)))), some (.inl ((4096 * (j - 1)) + (xxor set (xand set (hh 87 t)))))]) (sk' := []) (h' := (xup hh 110 ((4096 * j) + set) ((hh 110 ((4096 * j) + set)) + ((hh 110 ((4096 * (j - 1)) + (xand set (hh 87 t)))) * (hh 110 ((4096 * (j - 1)) + (xxor set (xand set (hh 87 t))))))))) rfl ?_
                          exact ih53 _ (t + 1) _ _ _ (by omega) (by omega) ⟨fun a z => by rw [xup_o _ _ _ _ a z]; exact ff.1 a z, fun i z => by rw [xup_j z]; exact ff.2 i z⟩ (by
                            rw [yy, ev]
                            split
                            · rfl
                            · omega) (fun z => by omega) (by omega)
                        · rw [c_le (by first | exact xcmp_r _ _ | exact ⟨by omega, by omega⟩) (by first | exact xcmp_r _ _ | exact ⟨by omega, by omega⟩)] at c133
                          simp only [decide_eq_true_eq, decide_eq_false_iff_not, Decidable.not_not] at c133
                          show xEx G0 cdX12_laysWays none (xRn G0 MT d) Q b 134 [some (.inr (.inr 66)), some (.inl j), some (.inl set), some (.inl ((4096 * j) + set)), some (.inl t), some (.inl (xand set (hh 87 t))), some (.inl ((4096 * (j - 1)) + (xand set (hh 87 t)))), some (.inl ((4096 * (j - 1)) + (xxor set (xand set (hh 87 t)))))] [] (xup hh 110 ((4096 * j) + set) ((hh 110 ((4096 * j) + set)) + ((hh 110 ((4096 * (j - 1)) + (xand set (hh 87 t)))) * (hh 110 ((4096 * (j - 1)) + (xxor set (xand set (hh 87 t))))))))
                          refine E_s 4 (i' := 138) (ls' := [some (.inr (.inr 66)), some (.inl j), some (.inl set), some (.inl ((4096 * j) + set)), some (.inl t), some (.inl (xand set (hh 87 t))), some (.inl ((4096 * (j - 1)) + (xand set (hh 87 t)))), some (.inl ((4096 * (j - 1)) + (xxor set (xand set (hh 87 t)))))]) (sk' := [.inr (.inl 1000000000), .inl ((4096 * j) + set), .inr (.inr 110)]) (h' := (xup hh 110 ((4096 * j) + set) ((hh 110 ((4096 * j) + set)) + ((hh 110 ((4096 * (j - 1)) + (xand set (hh 87 t)))) * (hh 110 ((4096 * (j - 1)) + (xxor set (xand set (hh 87 t))))))))) rfl ?_
                          refine E_sd (x := (.lastore, 0, [], [])) (ty := .long) (n := 16384) (y := 1000000000) rfl rfl rfl (by omega) (by omega) (trivial) ?_
                          show xEx G0 cdX12_laysWays none (xRn G0 MT d) Q b 139 [some (.inr (.inr 66)), some (.inl j), some (.inl set), some (.inl ((4096 * j) + set)), some (.inl t), some (.inl (xand set (hh 87 t))), some (.inl ((4096 * (j - 1)) + (xand set (hh 87 t)))), some (.inl ((4096 * (j - 1)) + (xxor set (xand set (hh 87 t)))))] [] (xup (xup hh 110 ((4096 * j) + set) ((hh 110 ((4096 * j) + set)) + ((hh 110 ((4096 * (j - 1)) + (xand set (hh 87 t)))) * (hh 110 ((4096 * (j - 1)) + (xxor set (xand set (hh 87 t)))))))) 110 ((4096 * j) + set) 1000000000)
                          refine E_s 2 (i' := 53) (ls' := [some (.inr (.inr 66)), some (.inl j), some (.inl set), some (.inl ((4096 * j) + set)), some (.inl (t + 1)), some (.inl (xand set (hh 87 t))), some (.inl ((4096 * (j - 1)) + (xand set (hh 87 t)))), some (.inl ((4096 * (j - 1)) + (xxor set (xand set (hh 87 t)))))]) (sk' := []) (h' := (xup (xup hh 110 ((4096 * j) + set) ((hh 110 ((4096 * j) + set)) + ((hh 110 ((4096 * (j - 1)) + (xand set (hh 87 t)))) * (hh 110 ((4096 * (j - 1)) + (xxor set (xand set (hh 87 t)))))))) 110 ((4096 * j) + set) 1000000000)) rfl ?_
                          exact ih53 _ (t + 1) _ _ _ (by omega) (by omega) ⟨fun a z => by rw [xup_o _ _ _ _ a z, xup_o _ _ _ _ a z]; exact ff.1 a z, fun i z => by rw [xup_j z, xup_j z]; exact ff.2 i z⟩ (by
                            rw [yy, if_neg (by omega), xup_s]) (fun z => by omega) (by omega)
                    · rw [c_ne (by first | exact xand_r _ _ | exact ⟨by omega, by omega⟩) (by first | exact xand_r _ _ | exact ⟨by omega, by omega⟩)] at c70
                      simp only [decide_eq_true_eq, decide_eq_false_iff_not, Decidable.not_not] at c70
                      show xEx G0 cdX12_laysWays none (xRn G0 MT d) Q b 71 [some (.inr (.inr 66)), some (.inl j), some (.inl set), some (.inl ((4096 * j) + set)), some (.inl t), some (.inl (xand set (hh 87 t))), v6, v7] [] hh
                      refine E_s 3 (i' := 53) (ls' := [some (.inr (.inr 66)), some (.inl j), some (.inl set), some (.inl ((4096 * j) + set)), some (.inl (t + 1)), some (.inl (xand set (hh 87 t))), v6, v7]) (sk' := []) (h' := hh) rfl ?_
                      exact ih53 hh (t + 1) _ _ _ (by omega) (by omega) ff (by rw [wst_n t0 (fun y => by
                          have y8 := y.1.2
                          rw [← t6] at y8
                          omega), hv]) (fun z => by omega) (by omega)
          exact key53 _ hh 0 none none none (by omega) o.2.2.1.1 ff (by
            rw [hv, show k = S 0 0 by omega]
            rfl) (fun _ => rfl) (Nat.lt_succ_self _)
        · rw [c_ge (by first | assumption | (refine ⟨?_, ?_⟩ <;> omega) | (simp only [xr] at *; omega)) (by first | assumption | (refine ⟨?_, ?_⟩ <;> omega) | (simp only [xr] at *; omega))] at c23
          simp only [decide_eq_true_eq, decide_eq_false_iff_not, Decidable.not_not] at c23
          show xEx G0 cdX12_laysWays none (xRn G0 MT d) Q b 24 [some (.inr (.inr 66)), some (.inl j), some (.inl set), some (.inl ((4096 * j) + set)), some (.inl k), none, none, none] [] hh
          have g6 : hh 78 k = S 6 k := by rw [fa _ (by decide)]; exact (hA.2.2.1 k k0 (by omega)).2
          have g4 : hh 75 k = S 4 k := by rw [fa _ (by decide)]; exact (hA.2.2.1 k k0 (by omega)).1
          have k6 := (o.2.2.2.1 k k0 (by omega)).2.1
          have k4 := (o.2.2.2.1 k k0 (by omega)).1
          have ck := cnf_r (S := S) (set := set) (z := (szf S T (S 0 0) (T 0 0) (-1) j.toNat set)) k.toNat
          refine E_s 3 (i' := 27) (ls' := [some (.inr (.inr 66)), some (.inl j), some (.inl set), some (.inl ((4096 * j) + set)), some (.inl k), none, none, none]) (sk' := [.inl k, .inr (.inr 78)]) (h' := hh) rfl ?_
          refine E_ld (x := (.iaload, 0, [], [])) (ty := .int) (n := 300) rfl rfl rfl (by omega) (by omega) ?_
          show xEx G0 cdX12_laysWays none (xRn G0 MT d) Q b 28 [some (.inr (.inr 66)), some (.inl j), some (.inl set), some (.inl ((4096 * j) + set)), some (.inl k), none, none, none] [.inl (hh 78 k)] hh
          refine E_s 3 (i' := 31) (ls' := [some (.inr (.inr 66)), some (.inl j), some (.inl set), some (.inl ((4096 * j) + set)), some (.inl k), none, none, none]) (sk' := [.inl set, .inl (xand (hh 78 k) set)]) (h' := hh) rfl ?_
          refine E_b (x := (.if_icmp .ne 29, 49, [], [])) rfl rfl (fun c31 => ?_) (fun c31 => ?_)
          · rw [c_ne (by first | exact xand_r _ _ | exact ⟨by omega, by omega⟩) (by first | exact xand_r _ _ | exact ⟨by omega, by omega⟩)] at c31
            simp only [decide_eq_true_eq, decide_eq_false_iff_not, Decidable.not_not] at c31
            show xEx G0 cdX12_laysWays none (xRn G0 MT d) Q b 49 [some (.inr (.inr 66)), some (.inl j), some (.inl set), some (.inl ((4096 * j) + set)), some (.inl k), none, none, none] [] hh
            refine E_s 2 (i' := 20) (ls' := [some (.inr (.inr 66)), some (.inl j), some (.inl set), some (.inl ((4096 * j) + set)), some (.inl (k + 1)), none, none, none]) (sk' := []) (h' := hh) rfl ?_
            exact ih20 hh (k + 1) (by omega) (by omega) ff (by rw [cnf_n k0 (fun y => c31 (by rw [g6]; exact (sub_a o.1 hs k6).mpr y.1)), hv]) (by omega)
          · rw [c_ne (by first | exact xand_r _ _ | exact ⟨by omega, by omega⟩) (by first | exact xand_r _ _ | exact ⟨by omega, by omega⟩)] at c31
            simp only [decide_eq_true_eq, decide_eq_false_iff_not, Decidable.not_not] at c31
            show xEx G0 cdX12_laysWays none (xRn G0 MT d) Q b 32 [some (.inr (.inr 66)), some (.inl j), some (.inl set), some (.inl ((4096 * j) + set)), some (.inl k), none, none, none] [] hh
            refine E_s 3 (i' := 35) (ls' := [some (.inr (.inr 66)), some (.inl j), some (.inl set), some (.inl ((4096 * j) + set)), some (.inl k), none, none, none]) (sk' := [.inl k, .inr (.inr 75)]) (h' := hh) rfl ?_
            refine E_ld (x := (.iaload, 0, [], [])) (ty := .int) (n := 300) rfl rfl rfl (by omega) (by omega) ?_
            show xEx G0 cdX12_laysWays none (xRn G0 MT d) Q b 36 [some (.inr (.inr 66)), some (.inl j), some (.inl set), some (.inl ((4096 * j) + set)), some (.inl k), none, none, none] [.inl (hh 75 k)] hh
            refine E_s 3 (i' := 39) (ls' := [some (.inr (.inr 66)), some (.inl j), some (.inl set), some (.inl ((4096 * j) + set)), some (.inl k), none, none, none]) (sk' := [.inl ((4096 * j) + set), .inr (.inr 101), .inl (hh 75 k)]) (h' := hh) rfl ?_
            refine E_ld (x := (.iaload, 0, [], [])) (ty := .int) (n := 16384) rfl rfl rfl (by omega) (by omega) ?_
            show xEx G0 cdX12_laysWays none (xRn G0 MT d) Q b 40 [some (.inr (.inr 66)), some (.inl j), some (.inl set), some (.inl ((4096 * j) + set)), some (.inl k), none, none, none] [.inl (hh 101 ((4096 * j) + set)), .inl (hh 75 k)] hh
            refine E_b (x := (.if_icmp .ne 13, 49, [], [])) rfl rfl (fun c40 => ?_) (fun c40 => ?_)
            · rw [c_ne (by first | assumption | (refine ⟨?_, ?_⟩ <;> omega) | (simp only [xr] at *; omega)) (by first | assumption | (refine ⟨?_, ?_⟩ <;> omega) | (simp only [xr] at *; omega))] at c40
              simp only [decide_eq_true_eq, decide_eq_false_iff_not, Decidable.not_not] at c40
              show xEx G0 cdX12_laysWays none (xRn G0 MT d) Q b 49 [some (.inr (.inr 66)), some (.inl j), some (.inl set), some (.inl ((4096 * j) + set)), some (.inl k), none, none, none] [] hh
              refine E_s 2 (i' := 20) (ls' := [some (.inr (.inr 66)), some (.inl j), some (.inl set), some (.inl ((4096 * j) + set)), some (.inl (k + 1)), none, none, none]) (sk' := []) (h' := hh) rfl ?_
              exact ih20 hh (k + 1) (by omega) (by omega) ff (by rw [cnf_n k0 (fun y => c40 (by rw [g4, el]; exact y.2)), hv]) (by omega)
            · rw [c_ne (by first | assumption | (refine ⟨?_, ?_⟩ <;> omega) | (simp only [xr] at *; omega)) (by first | assumption | (refine ⟨?_, ?_⟩ <;> omega) | (simp only [xr] at *; omega))] at c40
              simp only [decide_eq_true_eq, decide_eq_false_iff_not, Decidable.not_not] at c40
              show xEx G0 cdX12_laysWays none (xRn G0 MT d) Q b 41 [some (.inr (.inr 66)), some (.inl j), some (.inl set), some (.inl ((4096 * j) + set)), some (.inl k), none, none, none] [] hh
              refine E_s 4 (i' := 45) (ls' := [some (.inr (.inr 66)), some (.inl j), some (.inl set), some (.inl ((4096 * j) + set)), some (.inl k), none, none, none]) (sk' := [.inl ((4096 * j) + set), .inr (.inr 110), .inl ((4096 * j) + set), .inr (.inr 110)]) (h' := hh) rfl ?_
              refine E_ld (x := (.laload, 0, [], [])) (ty := .long) (n := 16384) rfl rfl rfl (by omega) (by omega) ?_
              show xEx G0 cdX12_laysWays none (xRn G0 MT d) Q b 46 [some (.inr (.inr 66)), some (.inl j), some (.inl set), some (.inl ((4096 * j) + set)), some (.inl k), none, none, none] [.inr (.inl (hh 110 ((4096 * j) + set))), .inl ((4096 * j) + set), .inr (.inr 110)] hh
              refine E_s 2 (i' := 48) (ls' := [some (.inr (.inr 66)), some (.inl j), some (.inl set), some (.inl ((4096 * j) + set)), some (.inl k), none, none, none]) (sk' := [.inr (.inl ((hh 110 ((4096 * j) + set)) + 1)), .inl ((4096 * j) + set), .inr (.inr 110)]) (h' := hh) rfl ?_
              refine E_sd (x := (.lastore, 0, [], [])) (ty := .long) (n := 16384) (y := ((hh 110 ((4096 * j) + set)) + 1)) rfl rfl rfl (by omega) (by omega) (trivial) ?_
              show xEx G0 cdX12_laysWays none (xRn G0 MT d) Q b 49 [some (.inr (.inr 66)), some (.inl j), some (.inl set), some (.inl ((4096 * j) + set)), some (.inl k), none, none, none] [] (xup hh 110 ((4096 * j) + set) ((hh 110 ((4096 * j) + set)) + 1))
              refine E_s 2 (i' := 20) (ls' := [some (.inr (.inr 66)), some (.inl j), some (.inl set), some (.inl ((4096 * j) + set)), some (.inl (k + 1)), none, none, none]) (sk' := []) (h' := (xup hh 110 ((4096 * j) + set) ((hh 110 ((4096 * j) + set)) + 1))) rfl ?_
              exact ih20 _ (k + 1) (by omega) (by omega) ⟨fun a z => by rw [xup_o _ _ _ _ a z]; exact ff.1 a z, fun i z => by rw [xup_j z]; exact ff.2 i z⟩ (by rw [xup_s, cnf_y k0 ⟨(sub_a o.1 hs k6).mp (by rw [← g6]; exact c31), by rw [← g4, ← el]; exact c40⟩, hv]) (by omega)
    exact key20 _ _ 0 (by omega) o.2.1.1 ⟨fun a z => by rw [xup_o _ _ _ _ a z], fun i z => by rw [xup_j z]⟩ (by rw [xup_s]; rfl) (Nat.lt_succ_self _)
  · rw [c_lt (by first | assumption | (refine ⟨?_, ?_⟩ <;> omega) | (simp only [xr] at *; omega)) (by first | assumption | (refine ⟨?_, ?_⟩ <;> omega) | (simp only [xr] at *; omega))] at c16
    simp only [decide_eq_true_eq, decide_eq_false_iff_not, Decidable.not_not] at c16
    show xEx G0 cdX12_laysWays none (xRn G0 MT d) Q b 17 [some (.inr (.inr 66)), some (.inl j), some (.inl set), some (.inl ((4096 * j) + set)), none, none, none, none] [] (xup h 110 ((4096 * j) + set) 0)
    exact E_ret (x := (.return_, 0, [], [])) (v := none) rfl (trivial) (by
      refine hQ _ ⟨fun a z => by rw [xup_o _ _ _ _ a z], fun i z => by rw [xup_j z]⟩ ?_
      rw [xup_s, wyf_j hj.1, if_pos (by omega)])
