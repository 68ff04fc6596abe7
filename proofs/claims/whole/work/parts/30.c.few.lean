def fno (z : Int) : Int := if 1000000 ≤ z then -1 else z
theorem few1_1 {S : xH} {f : Int → Int} {set k : Int} (h : 0 ≤ k) : few1 S f set (k + 1).toNat = @ite _ (rst S set k ≠ set ∧ f (rst S set k) + 1 < few1 S f set k.toNat) (Classical.propDecidable _) (f (rst S set k) + 1) (few1 S f set k.toNat) := by
  have e : (k + 1).toNat = k.toNat + 1 := by omega
  rw [e, few1, Int.toNat_of_nonneg h]
theorem few1_r {S : xH} {KE set : Int} {m : Nat} (o : OKC S KE m) (hs : ir m set) (n : Nat) (hn : (n : Int) ≤ KE) : 1 ≤ few1 S (mc S KE) set n ∧ few1 S (mc S KE) set n ≤ 1000000 := by
  refine ⟨?_, few1_6 n⟩
  rcases few1_ex (f := mc S KE) (S := S) (set := set) n with y | ⟨k, a, b, c⟩
  · omega
  · have := (mc_0 o _ _ rfl (rst_r (k := k) o hs (by omega) (by omega))).1
    omega
set_option maxHeartbeats 1000000 in
theorem c_fewO (d b : Nat) (h S T : xH) (set : Int) (m : Nat) (hV : SVF h S T (-1) m) (hN : SVN h S (-1) m) (hC : SVC h S (-1)) (hK : h 9 9 = S 0 0) (hs : ir m set) {Q : xO → xH → Prop} (hQ : ∀ h', (∀ a, a ≠ 54 → h' a = h a) → SVN h' S (-1) m → Q (.inl (some (.inl (fno (mc S (S 0 0) set))))) h') : xRn G0 MT (d + 14) b 70 [.inr (.inr 44), .inl set] h Q := by
  refine R_of (M := mX7_fewestOrNone) rfl (Nat.le_of_ble_eq_true rfl) ?_
  show xEx G0 cdX7_fewestOrNone (some .int) (xRn G0 MT (d + 13)) Q b 0 [some (.inr (.inr 44)), some (.inl set)] [] h
  refine E_s 6 (i' := 6) (ls' := [some (.inr (.inr 44)), some (.inl set)]) (sk' := [.inl (xand set (xxor (h 44 9) (-1)))]) (h' := h) rfl ?_
  refine E_b (x := (.ifCond .eq 7, 9, [], [])) rfl rfl (fun c6 => ?_) (fun c6 => ?_)
  · rw [c_eq (by first | exact xand_r _ _ | exact ⟨by omega, by omega⟩) (by first | exact xand_r _ _ | exact ⟨by omega, by omega⟩)] at c6
    simp only [decide_eq_true_eq, decide_eq_false_iff_not, Decidable.not_not] at c6
    show xEx G0 cdX7_fewestOrNone (some .int) (xRn G0 MT (d + 13)) Q b 9 [some (.inr (.inr 44)), some (.inl set)] [] h
    refine E_s 2 (i' := 11) (ls' := [some (.inr (.inr 44)), some (.inl set)]) (sk' := [.inl set, .inr (.inr 44)]) (h' := h) rfl ?_
    have sb : sub set (h 44 9) := c6
    have st := (sub_t hV.1.1 hs hV.2.2.2.2.1).mp sb
    have hc : ∀ i, tb set i = true → ∃ k, 0 ≤ k ∧ k < S 0 0 ∧ tb (S 6 k) i = true := fun i hi => by
      obtain ⟨k, y1, y2, -, y4⟩ := hC i (st i hi)
      exact ⟨k, y1, y2, y4⟩
    have up := mc_up (OKC_s hV.1) m set hs (fun i hi => by
      rcases Nat.lt_or_ge i m with y | y
      · exact y
      · rw [tb_hi hs y] at hi; cases hi) hc
    have m12 := hV.1.1
    refine E_cp (x := (.invokevirtual 149, 1, [(5, 71)], [0])) (q := fun r h9 => r = mc S (S 0 0) set ∧ (∀ a, a ≠ 54 → h9 a = h a) ∧ SVN h9 S (-1) m) rfl rfl (Nat.le_of_ble_eq_true rfl) (c_ff 12 d 0 h S T set m hV hN hK hs (fun i hi => by omega) hc (fun h9 z1 z2 => ⟨_, rfl, rfl, z1, z2⟩)) (fun r1 h1 hq1 => ?_)
    obtain ⟨er, f1, n1⟩ := hq1
    show xEx G0 cdX7_fewestOrNone (some .int) (xRn G0 MT (d + 13)) Q b 12 [some (.inr (.inr 44)), some (.inl set)] [.inl r1] h1
    exact E_ret (x := (.ireturn, 0, [], [])) (v := some (.inl r1)) rfl (Or.inl rfl) (by
      have r9 := hQ h1 f1 n1
      unfold fno at r9
      rw [if_neg (by omega), ← er] at r9
      exact r9)
  · rw [c_eq (by first | exact xand_r _ _ | exact ⟨by omega, by omega⟩) (by first | exact xand_r _ _ | exact ⟨by omega, by omega⟩)] at c6
    simp only [decide_eq_true_eq, decide_eq_false_iff_not, Decidable.not_not] at c6
    show xEx G0 cdX7_fewestOrNone (some .int) (xRn G0 MT (d + 13)) Q b 7 [some (.inr (.inr 44)), some (.inl set)] [] h
    refine E_s 2 (i' := 12) (ls' := [some (.inr (.inr 44)), some (.inl set)]) (sk' := [.inl (-1)]) (h' := h) rfl ?_
    exact E_ret (x := (.ireturn, 0, [], [])) (v := some (.inl (-1))) rfl (Or.inl rfl) (by
      obtain ⟨e, u1, u2⟩ := hV.2.2.2.2.2.1 set hs c6
      have r9 := hQ h (fun _ _ => rfl) hN
      unfold fno at r9
      rw [mc_un (OKC_s hV.1) hs u1 (fun k z1 z2 => u2 k z1 z2 (Or.inl rfl)), if_pos (by omega)] at r9
      exact r9)
set_option maxHeartbeats 1000000 in
theorem o_fewest (d b : Nat) (h S T : xH) (hI : IS h S T) (hR : RC h S) (hRT : RCT h T) (m : Nat) (o : OKS S T (S 0 0) (T 0 0) m) (hm : m = (h 1 2).toNat) (hn : 0 ≤ h 1 2 ∧ h 1 2 ≤ 12) {Q : xO → xH → Prop} (hO : ∀ h', PRF h h' → SVR h' S T (-1) m → Q (.inl (some (.inl (fno (mc S (S 0 0) (xshl 1 (h 1 2) - 1)))))) h') : xRn G0 MT (d + 15) b 135 [.inr (.inr 0)] h Q := by
  refine R_of (M := mX11_fewest) rfl (Nat.le_of_ble_eq_true rfl) ?_
  show xEx G0 cdX11_fewest (some .int) (xRn G0 MT (d + 14)) Q b 0 [some (.inr (.inr 0))] [] h
  refine E_s 3 (i' := 3) (ls' := [some (.inr (.inr 0))]) (sk' := [.inl (-1), .inr (.inr 44)]) (h' := h) rfl ?_
  refine E_cv (x := (.invokevirtual 320, 1, [(5, 59)], [0])) (q := fun h9 => PRF h h9 ∧ SVR h9 S T (-1) m) rfl rfl (Nat.le_of_ble_eq_true rfl) (c_prepare (d + 10) 0 h S T (-1) m (Or.inl rfl) hI hR hRT o hm hn (fun h9 z1 z2 => ⟨rfl, z1, z2⟩)) (fun h1 hq1 => ?_)
  obtain ⟨f1, v1⟩ := hq1
  have x1 : h1 1 = h 1 := f1 _ (by decide)
  have ia : ir m (xshl 1 (h 1 2) - 1) := ir_all hn.1 hn.2 hm
  show xEx G0 cdX11_fewest (some .int) (xRn G0 MT (d + 14)) Q b 4 [some (.inr (.inr 0))] [] h1
  refine E_s 4 (i' := 8) (ls' := [some (.inr (.inr 0))]) (sk' := [.inr (.inr 1), .inr (.inr 44)]) (h' := h1) rfl ?_
  refine E_ci (x := (.invokevirtual 323, 0, [(0, 0)], [0])) (r := (xshl 1 (h 1 2) - 1)) (h' := h1) rfl rfl (Nat.le_of_ble_eq_true rfl) (c_all (d + 13) 0 h1 ⟨by show Sum.inl (some (Sum.inl (xshl 1 (h1 1 2) - 1))) = _; rw [x1], rfl⟩) ?_
  show xEx G0 cdX11_fewest (some .int) (xRn G0 MT (d + 14)) Q b 9 [some (.inr (.inr 0))] [.inl (xshl 1 (h 1 2) - 1), .inr (.inr 44)] h1
  refine E_cp (x := (.invokevirtual 357, 1, [(5, 70)], [0])) (q := fun r h9 => r = fno (mc S (S 0 0) (xshl 1 (h 1 2) - 1)) ∧ (∀ a, a ≠ 54 → h9 a = h1 a) ∧ SVN h9 S (-1) m) rfl rfl (Nat.le_of_ble_eq_true rfl) (c_fewO d 0 h1 S T (xshl 1 (h 1 2) - 1) m v1.2.2.2.2.1 v1.2.2.2.2.2.2.2.1 v1.2.2.2.2.2.2.2.2 (by rw [f1 9 (by decide)]; exact hR.1) ia (fun h9 z1 z2 => ⟨_, rfl, rfl, z1, z2⟩)) (fun r2 h2 hq2 => ?_)
  obtain ⟨er, f2, n2⟩ := hq2
  show xEx G0 cdX11_fewest (some .int) (xRn G0 MT (d + 14)) Q b 10 [some (.inr (.inr 0))] [.inl r2] h2
  exact E_ret (x := (.ireturn, 0, [], [])) (v := some (.inl r2)) rfl (Or.inl rfl) (by
    rw [er]
    refine hO h2 (fun a z => by rw [f2 a (by omega)]; exact f1 a z) ?_
    obtain ⟨y1, y2, y3, y4, y5, y6, y7, y8, y9⟩ := v1
    have so2 : h2 44 = h1 44 := f2 _ (by decide)
    refine ⟨by rw [so2]; exact y1, by rw [so2]; exact y2, by rw [so2]; exact y3, by rw [so2]; exact y4, SVF_n f2 y5, ?_, ?_, n2, ?_⟩
    · unfold SVM; rw [f2 49 (by decide), f2 50 (by decide)]; exact y6
    · unfold SVW; rw [f2 51 (by decide), f2 52 (by decide), f2 53 (by decide)]; exact y7
    · unfold SVC; rw [so2]; exact y9)
set_option maxHeartbeats 1000000 in
theorem m_fewest (d b : Nat) (h S : xH) (m : Nat) (o : OKC S (S 0 0) m) (hm : m = (h 66 4).toNat) (hn : 0 ≤ h 66 4 ∧ h 66 4 ≤ 12) (h3 : S 0 0 ≤ 300) (hR : RR h S) {Q : xO → xH → Prop} (hO : ∀ h', (∀ a, a ≠ 111 → h' a = (xup h 66 0 0) a) → Q (.inl (some (.inl (fno (mc S (S 0 0) (xshl 1 (h 66 4) - 1)))))) h') : xRn G0 MT (d + 2) b 249 [.inr (.inr 66)] h Q := by
  refine R_of (M := mX12_fewest) rfl (Nat.le_of_ble_eq_true rfl) ?_
  show xEx G0 cdX12_fewest (some .int) (xRn G0 MT (d + 1)) Q b 0 [some (.inr (.inr 66)), none, none, none, none] [] h
  have al1 : (xshl 1 (h 66 4) - 1) + 1 = (2 ^ m : Nat) := by have := n_all hn.1 hn.2; rw [this, hm]; have := Nat.two_pow_pos (h 66 4).toNat; omega
  have al2 : (2 ^ m : Nat) ≤ 4096 := Nat.pow_le_pow_right (n := 2) (i := m) (j := 12) (by decide) o.1
  have al3 := Nat.two_pow_pos m
  refine E_s 4 (i' := 4) (ls' := [some (.inr (.inr 66)), none, none, none, none]) (sk' := [.inr (.inr 66)]) (h' := (xup h 66 0 0)) rfl ?_
  refine E_ci (x := (.invokevirtual 257, 0, [(10, 156)], [0])) (r := (xshl 1 (h 66 4) - 1)) (h' := (xup h 66 0 0)) rfl rfl (Nat.le_of_ble_eq_true rfl) (m_all d 0 (xup h 66 0 0) ⟨rfl, rfl⟩) ?_
  show xEx G0 cdX12_fewest (some .int) (xRn G0 MT (d + 1)) Q b 5 [some (.inr (.inr 66)), none, none, none, none] [.inl (xshl 1 (h 66 4) - 1)] (xup h 66 0 0)
  refine E_s 5 (i' := 10) (ls' := [some (.inr (.inr 66)), some (.inl (xshl 1 (h 66 4) - 1)), none, none, none]) (sk' := [.inl 0, .inl 0, .inr (.inr 111)]) (h' := (xup h 66 0 0)) rfl ?_
  refine E_sd (x := (.iastore, 0, [], [])) (ty := .int) (n := 4096) (y := 0) rfl rfl rfl (by omega) (by omega) (trivial) ?_
  show xEx G0 cdX12_fewest (some .int) (xRn G0 MT (d + 1)) Q b 11 [some (.inr (.inr 66)), some (.inl (xshl 1 (h 66 4) - 1)), none, none, none] [] (xup (xup h 66 0 0) 111 0 0)
  refine E_s 2 (i' := 13) (ls' := [some (.inr (.inr 66)), some (.inl (xshl 1 (h 66 4) - 1)), some (.inl 1), none, none]) (sk' := []) (h' := (xup (xup h 66 0 0) 111 0 0)) rfl ?_
  have key13 : ∀ (n : Nat) (hh : xH) (s : Int) (v3 v4 : Option xV), (1 ≤ s) → (s ≤ (xshl 1 (h 66 4) - 1) + 1) → (∀ a, a ≠ 111 → hh a = (xup h 66 0 0) a) → (∀ s2, ir m s2 → s2 < s → hh 111 s2 = mc S (S 0 0) s2) → (((xshl 1 (h 66 4) - 1) + 1 - s).toNat) < n → xEx G0 cdX12_fewest (some .int) (xRn G0 MT (d + 1)) Q b 13 [some (.inr (.inr 66)), some (.inl (xshl 1 (h 66 4) - 1)), some (.inl s), v3, v4] [] hh := by
    intro n
    induction n with
    | zero => intro hh s v3 v4 _ _ _ _ hm; exact absurd hm (Nat.not_lt_zero _)
    | succ n ih13 =>
      intro hh s v3 v4 s0 s1 fh0 wa0 hm13
      refine E_s 2 (i' := 15) (ls' := [some (.inr (.inr 66)), some (.inl (xshl 1 (h 66 4) - 1)), some (.inl s), v3, v4]) (sk' := [.inl (xshl 1 (h 66 4) - 1), .inl s]) (h' := hh) rfl ?_
      refine E_b (x := (.if_icmp .gt 85, 64, [], [])) rfl rfl (fun c15 => ?_) (fun c15 => ?_)
      · rw [c_gt (by first | assumption | (refine ⟨?_, ?_⟩ <;> omega) | (simp only [xr] at *; omega)) (by first | assumption | (refine ⟨?_, ?_⟩ <;> omega) | (simp only [xr] at *; omega))] at c15
        simp only [decide_eq_true_eq, decide_eq_false_iff_not, Decidable.not_not] at c15
        show xEx G0 cdX12_fewest (some .int) (xRn G0 MT (d + 1)) Q b 64 [some (.inr (.inr 66)), some (.inl (xshl 1 (h 66 4) - 1)), some (.inl s), v3, v4] [] hh
        have ia : ir m (xshl 1 (h 66 4) - 1) := ⟨by omega, by omega⟩
        have w9 := wa0 (xshl 1 (h 66 4) - 1) ia (by omega)
        have w0 := (mc_0 o _ _ rfl ia).1
        have w6 := mc_6 o ia
        refine E_s 3 (i' := 67) (ls' := [some (.inr (.inr 66)), some (.inl (xshl 1 (h 66 4) - 1)), some (.inl s), v3, v4]) (sk' := [.inl (xshl 1 (h 66 4) - 1), .inr (.inr 111)]) (h' := hh) rfl ?_
        refine E_ld (x := (.iaload, 0, [], [])) (ty := .int) (n := 4096) rfl rfl rfl (by omega) (by omega) ?_
        show xEx G0 cdX12_fewest (some .int) (xRn G0 MT (d + 1)) Q b 68 [some (.inr (.inr 66)), some (.inl (xshl 1 (h 66 4) - 1)), some (.inl s), v3, v4] [.inl (hh 111 (xshl 1 (h 66 4) - 1))] hh
        refine E_s 1 (i' := 69) (ls' := [some (.inr (.inr 66)), some (.inl (xshl 1 (h 66 4) - 1)), some (.inl s), v3, v4]) (sk' := [.inl 1000000, .inl (hh 111 (xshl 1 (h 66 4) - 1))]) (h' := hh) rfl ?_
        refine E_b (x := (.if_icmp .ge 12, 75, [], [])) rfl rfl (fun c69 => ?_) (fun c69 => ?_)
        · rw [c_ge (by first | assumption | (refine ⟨?_, ?_⟩ <;> omega) | (simp only [xr] at *; omega)) (by first | assumption | (refine ⟨?_, ?_⟩ <;> omega) | (simp only [xr] at *; omega))] at c69
          simp only [decide_eq_true_eq, decide_eq_false_iff_not, Decidable.not_not] at c69
          show xEx G0 cdX12_fewest (some .int) (xRn G0 MT (d + 1)) Q b 75 [some (.inr (.inr 66)), some (.inl (xshl 1 (h 66 4) - 1)), some (.inl s), v3, v4] [] hh
          refine E_s 1 (i' := 76) (ls' := [some (.inr (.inr 66)), some (.inl (xshl 1 (h 66 4) - 1)), some (.inl s), v3, v4]) (sk' := [.inl (-1)]) (h' := hh) rfl ?_
          exact E_ret (x := (.ireturn, 0, [], [])) (v := some (.inl (-1))) rfl (Or.inl rfl) (by
            have r9 := hO hh fh0
            unfold fno at r9
            rw [if_pos (by omega)] at r9
            exact r9)
        · rw [c_ge (by first | assumption | (refine ⟨?_, ?_⟩ <;> omega) | (simp only [xr] at *; omega)) (by first | assumption | (refine ⟨?_, ?_⟩ <;> omega) | (simp only [xr] at *; omega))] at c69
          simp only [decide_eq_true_eq, decide_eq_false_iff_not, Decidable.not_not] at c69
          show xEx G0 cdX12_fewest (some .int) (xRn G0 MT (d + 1)) Q b 70 [some (.inr (.inr 66)), some (.inl (xshl 1 (h 66 4) - 1)), some (.inl s), v3, v4] [] hh
          refine E_s 3 (i' := 73) (ls' := [some (.inr (.inr 66)), some (.inl (xshl 1 (h 66 4) - 1)), some (.inl s), v3, v4]) (sk' := [.inl (xshl 1 (h 66 4) - 1), .inr (.inr 111)]) (h' := hh) rfl ?_
          refine E_ld (x := (.iaload, 0, [], [])) (ty := .int) (n := 4096) rfl rfl rfl (by omega) (by omega) ?_
          show xEx G0 cdX12_fewest (some .int) (xRn G0 MT (d + 1)) Q b 74 [some (.inr (.inr 66)), some (.inl (xshl 1 (h 66 4) - 1)), some (.inl s), v3, v4] [.inl (hh 111 (xshl 1 (h 66 4) - 1))] hh
          refine E_s 1 (i' := 76) (ls' := [some (.inr (.inr 66)), some (.inl (xshl 1 (h 66 4) - 1)), some (.inl s), v3, v4]) (sk' := [.inl (hh 111 (xshl 1 (h 66 4) - 1))]) (h' := hh) rfl ?_
          exact E_ret (x := (.ireturn, 0, [], [])) (v := some (.inl (hh 111 (xshl 1 (h 66 4) - 1)))) rfl (Or.inl rfl) (by
            have r9 := hO hh fh0
            unfold fno at r9
            rw [if_neg (by omega), ← w9] at r9
            exact r9)
      · rw [c_gt (by first | assumption | (refine ⟨?_, ?_⟩ <;> omega) | (simp only [xr] at *; omega)) (by first | assumption | (refine ⟨?_, ?_⟩ <;> omega) | (simp only [xr] at *; omega))] at c15
        simp only [decide_eq_true_eq, decide_eq_false_iff_not, Decidable.not_not] at c15
        show xEx G0 cdX12_fewest (some .int) (xRn G0 MT (d + 1)) Q b 16 [some (.inr (.inr 66)), some (.inl (xshl 1 (h 66 4) - 1)), some (.inl s), v3, v4] [] hh
        have is9 : ir m s := ⟨by omega, by omega⟩
        have ke := o.2.1
        refine E_s 4 (i' := 20) (ls' := [some (.inr (.inr 66)), some (.inl (xshl 1 (h 66 4) - 1)), some (.inl s), v3, v4]) (sk' := [.inl 1000000, .inl s, .inr (.inr 111)]) (h' := hh) rfl ?_
        refine E_sd (x := (.iastore, 0, [], [])) (ty := .int) (n := 4096) (y := 1000000) rfl rfl rfl (by omega) (by omega) (trivial) ?_
        show xEx G0 cdX12_fewest (some .int) (xRn G0 MT (d + 1)) Q b 21 [some (.inr (.inr 66)), some (.inl (xshl 1 (h 66 4) - 1)), some (.inl s), v3, v4] [] (xup hh 111 s 1000000)
        refine E_s 2 (i' := 23) (ls' := [some (.inr (.inr 66)), some (.inl (xshl 1 (h 66 4) - 1)), some (.inl s), some (.inl 0), v4]) (sk' := []) (h' := (xup hh 111 s 1000000)) rfl ?_
        have key23 : ∀ (n : Nat) (hh : xH) (k : Int) (v4 : Option xV), (0 ≤ k) → (k ≤ S 0 0) → (∀ a, a ≠ 111 → hh a = (xup h 66 0 0) a) → (∀ s2, ir m s2 → s2 < s → hh 111 s2 = mc S (S 0 0) s2) → (hh 111 s = few1 S (mc S (S 0 0)) s k.toNat) → ((S 0 0 - k).toNat) < n → xEx G0 cdX12_fewest (some .int) (xRn G0 MT (d + 1)) Q b 23 [some (.inr (.inr 66)), some (.inl (xshl 1 (h 66 4) - 1)), some (.inl s), some (.inl k), v4] [] hh := by
          intro n
          induction n with
          | zero => intro hh k v4 _ _ _ _ _ hm; exact absurd hm (Nat.not_lt_zero _)
          | succ n ih23 =>
            intro hh k v4 k0 k1 fh wa hv hm23
            have m66 : hh 66 = (xup h 66 0 0) 66 := fh _ (by decide)
            have eK : hh 66 8 = S 0 0 := by rw [m66]; exact hR.1
            have fr := few1_r o is9 k.toNat (by omega)
            refine E_s 3 (i' := 26) (ls' := [some (.inr (.inr 66)), some (.inl (xshl 1 (h 66 4) - 1)), some (.inl s), some (.inl k), v4]) (sk' := [.inl (hh 66 8), .inl k]) (h' := hh) rfl ?_
            refine E_b (x := (.if_icmp .ge 60, 62, [], [])) rfl rfl (fun c26 => ?_) (fun c26 => ?_)
            · rw [c_ge (by first | assumption | (refine ⟨?_, ?_⟩ <;> omega) | (simp only [xr] at *; omega)) (by first | assumption | (refine ⟨?_, ?_⟩ <;> omega) | (simp only [xr] at *; omega))] at c26
              simp only [decide_eq_true_eq, decide_eq_false_iff_not, Decidable.not_not] at c26
              show xEx G0 cdX12_fewest (some .int) (xRn G0 MT (d + 1)) Q b 62 [some (.inr (.inr 66)), some (.inl (xshl 1 (h 66 4) - 1)), some (.inl s), some (.inl k), v4] [] hh
              refine E_s 2 (i' := 13) (ls' := [some (.inr (.inr 66)), some (.inl (xshl 1 (h 66 4) - 1)), some (.inl (s + 1)), some (.inl k), v4]) (sk' := []) (h' := hh) rfl ?_
              exact ih13 hh (s + 1) _ _ (by omega) (by omega) fh (fun s2 z1 z2 => by
                by_cases y : s2 = s
                · rw [y, hv, mc_eq o is9 (by omega), show k = S 0 0 by omega]
                · exact wa s2 z1 (by omega)) (by omega)
            · rw [c_ge (by first | assumption | (refine ⟨?_, ?_⟩ <;> omega) | (simp only [xr] at *; omega)) (by first | assumption | (refine ⟨?_, ?_⟩ <;> omega) | (simp only [xr] at *; omega))] at c26
              simp only [decide_eq_true_eq, decide_eq_false_iff_not, Decidable.not_not] at c26
              show xEx G0 cdX12_fewest (some .int) (xRn G0 MT (d + 1)) Q b 27 [some (.inr (.inr 66)), some (.inl (xshl 1 (h 66 4) - 1)), some (.inl s), some (.inl k), v4] [] hh
              have g6 : hh 78 k = S 6 k := by rw [fh _ (by decide)]; exact (hR.2.2.1 k k0 (by omega)).2.2.2.2.1
              have r6 := rst_r o is9 k0 (show k < S 0 0 by omega)
              have l6 := rst_l o is9 k0 (show k < S 0 0 by omega)
              have r60 : 0 ≤ (xand s (xxor (hh 78 k) (-1))) ∧ (xand s (xxor (hh 78 k) (-1))) ≤ s := by rw [g6]; exact ⟨r6.1, l6⟩
              refine E_s 4 (i' := 31) (ls' := [some (.inr (.inr 66)), some (.inl (xshl 1 (h 66 4) - 1)), some (.inl s), some (.inl k), v4]) (sk' := [.inl k, .inr (.inr 78), .inl s]) (h' := hh) rfl ?_
              refine E_ld (x := (.iaload, 0, [], [])) (ty := .int) (n := 300) rfl rfl rfl (by omega) (by omega) ?_
              show xEx G0 cdX12_fewest (some .int) (xRn G0 MT (d + 1)) Q b 32 [some (.inr (.inr 66)), some (.inl (xshl 1 (h 66 4) - 1)), some (.inl s), some (.inl k), v4] [.inl (hh 78 k), .inl s] hh
              refine E_s 6 (i' := 38) (ls' := [some (.inr (.inr 66)), some (.inl (xshl 1 (h 66 4) - 1)), some (.inl s), some (.inl k), some (.inl (xand s (xxor (hh 78 k) (-1))))]) (sk' := [.inl s, .inl (xand s (xxor (hh 78 k) (-1)))]) (h' := hh) rfl ?_
              refine E_b (x := (.if_icmp .eq 36, 60, [], [])) rfl rfl (fun c38 => ?_) (fun c38 => ?_)
              · rw [c_eq (by first | exact xand_r _ _ | exact ⟨by omega, by omega⟩) (by first | exact xand_r _ _ | exact ⟨by omega, by omega⟩)] at c38
                simp only [decide_eq_true_eq, decide_eq_false_iff_not, Decidable.not_not] at c38
                show xEx G0 cdX12_fewest (some .int) (xRn G0 MT (d + 1)) Q b 60 [some (.inr (.inr 66)), some (.inl (xshl 1 (h 66 4) - 1)), some (.inl s), some (.inl k), some (.inl (xand s (xxor (hh 78 k) (-1))))] [] hh
                refine E_s 2 (i' := 23) (ls' := [some (.inr (.inr 66)), some (.inl (xshl 1 (h 66 4) - 1)), some (.inl s), some (.inl (k + 1)), some (.inl (xand s (xxor (hh 78 k) (-1))))]) (sk' := []) (h' := hh) rfl ?_
                exact ih23 hh (k + 1) _ (by omega) (by omega) fh wa (by
                  rw [few1_1 k0, if_neg (fun y => y.1 (by show xand s (xxor (S 6 k) (-1)) = s; rw [← g6]; exact c38)), hv]) (by omega)
              · rw [c_eq (by first | exact xand_r _ _ | exact ⟨by omega, by omega⟩) (by first | exact xand_r _ _ | exact ⟨by omega, by omega⟩)] at c38
                simp only [decide_eq_true_eq, decide_eq_false_iff_not, Decidable.not_not] at c38
                show xEx G0 cdX12_fewest (some .int) (xRn G0 MT (d + 1)) Q b 39 [some (.inr (.inr 66)), some (.inl (xshl 1 (h 66 4) - 1)), some (.inl s), some (.inl k), some (.inl (xand s (xxor (hh 78 k) (-1))))] [] hh
                have fe : hh 111 (xand s (xxor (hh 78 k) (-1))) = mc S (S 0 0) (xand s (xxor (hh 78 k) (-1))) := wa _ (by rw [g6]; exact r6) (by omega)
                have f0 : 0 ≤ hh 111 (xand s (xxor (hh 78 k) (-1))) := by rw [fe, g6]; exact (mc_0 o _ _ rfl r6).1
                have f6 : hh 111 (xand s (xxor (hh 78 k) (-1))) ≤ 1000000 := by rw [fe, g6]; exact mc_6 o r6
                refine E_s 3 (i' := 42) (ls' := [some (.inr (.inr 66)), some (.inl (xshl 1 (h 66 4) - 1)), some (.inl s), some (.inl k), some (.inl (xand s (xxor (hh 78 k) (-1))))]) (sk' := [.inl (xand s (xxor (hh 78 k) (-1))), .inr (.inr 111)]) (h' := hh) rfl ?_
                refine E_ld (x := (.iaload, 0, [], [])) (ty := .int) (n := 4096) rfl rfl rfl (by omega) (by omega) ?_
                show xEx G0 cdX12_fewest (some .int) (xRn G0 MT (d + 1)) Q b 43 [some (.inr (.inr 66)), some (.inl (xshl 1 (h 66 4) - 1)), some (.inl s), some (.inl k), some (.inl (xand s (xxor (hh 78 k) (-1))))] [.inl (hh 111 (xand s (xxor (hh 78 k) (-1))))] hh
                refine E_s 5 (i' := 48) (ls' := [some (.inr (.inr 66)), some (.inl (xshl 1 (h 66 4) - 1)), some (.inl s), some (.inl k), some (.inl (xand s (xxor (hh 78 k) (-1))))]) (sk' := [.inl s, .inr (.inr 111), .inl ((hh 111 (xand s (xxor (hh 78 k) (-1)))) + 1)]) (h' := hh) rfl ?_
                refine E_ld (x := (.iaload, 0, [], [])) (ty := .int) (n := 4096) rfl rfl rfl (by omega) (by omega) ?_
                show xEx G0 cdX12_fewest (some .int) (xRn G0 MT (d + 1)) Q b 49 [some (.inr (.inr 66)), some (.inl (xshl 1 (h 66 4) - 1)), some (.inl s), some (.inl k), some (.inl (xand s (xxor (hh 78 k) (-1))))] [.inl (hh 111 s), .inl ((hh 111 (xand s (xxor (hh 78 k) (-1)))) + 1)] hh
                refine E_b (x := (.if_icmp .ge 18, 60, [], [])) rfl rfl (fun c49 => ?_) (fun c49 => ?_)
                · rw [c_ge (by first | assumption | (refine ⟨?_, ?_⟩ <;> omega) | (simp only [xr] at *; omega)) (by first | assumption | (refine ⟨?_, ?_⟩ <;> omega) | (simp only [xr] at *; omega))] at c49
                  simp only [decide_eq_true_eq, decide_eq_false_iff_not, Decidable.not_not] at c49
                  show xEx G0 cdX12_fewest (some .int) (xRn G0 MT (d + 1)) Q b 60 [some (.inr (.inr 66)), some (.inl (xshl 1 (h 66 4) - 1)), some (.inl s), some (.inl k), some (.inl (xand s (xxor (hh 78 k) (-1))))] [] hh
                  refine E_s 2 (i' := 23) (ls' := [some (.inr (.inr 66)), some (.inl (xshl 1 (h 66 4) - 1)), some (.inl s), some (.inl (k + 1)), some (.inl (xand s (xxor (hh 78 k) (-1))))]) (sk' := []) (h' := hh) rfl ?_
                  exact ih23 hh (k + 1) _ (by omega) (by omega) fh wa (by
                    rw [few1_1 k0, if_neg (fun y => absurd y.2 (by have q := c49; rw [fe, hv, g6] at q; exact Int.not_lt.mpr q)), hv]) (by omega)
                · rw [c_ge (by first | assumption | (refine ⟨?_, ?_⟩ <;> omega) | (simp only [xr] at *; omega)) (by first | assumption | (refine ⟨?_, ?_⟩ <;> omega) | (simp only [xr] at *; omega))] at c49
                  simp only [decide_eq_true_eq, decide_eq_false_iff_not, Decidable.not_not] at c49
                  show xEx G0 cdX12_fewest (some .int) (xRn G0 MT (d + 1)) Q b 50 [some (.inr (.inr 66)), some (.inl (xshl 1 (h 66 4) - 1)), some (.inl s), some (.inl k), some (.inl (xand s (xxor (hh 78 k) (-1))))] [] hh
                  refine E_s 6 (i' := 56) (ls' := [some (.inr (.inr 66)), some (.inl (xshl 1 (h 66 4) - 1)), some (.inl s), some (.inl k), some (.inl (xand s (xxor (hh 78 k) (-1))))]) (sk' := [.inl (xand s (xxor (hh 78 k) (-1))), .inr (.inr 111), .inl s, .inr (.inr 111)]) (h' := hh) rfl ?_
                  refine E_ld (x := (.iaload, 0, [], [])) (ty := .int) (n := 4096) rfl rfl rfl (by omega) (by omega) ?_
                  show xEx G0 cdX12_fewest (some .int) (xRn G0 MT (d + 1)) Q b 57 [some (.inr (.inr 66)), some (.inl (xshl 1 (h 66 4) - 1)), some (.inl s), some (.inl k), some (.inl (xand s (xxor (hh 78 k) (-1))))] [.inl (hh 111 (xand s (xxor (hh 78 k) (-1)))), .inl s, .inr (.inr 111)] hh
                  refine E_s 2 (i' := 59) (ls' := [some (.inr (.inr 66)), some (.inl (xshl 1 (h 66 4) - 1)), some (.inl s), some (.inl k), some (.inl (xand s (xxor (hh 78 k) (-1))))]) (sk' := [.inl ((hh 111 (xand s (xxor (hh 78 k) (-1)))) + 1), .inl s, .inr (.inr 111)]) (h' := hh) rfl ?_
                  refine E_sd (x := (.iastore, 0, [], [])) (ty := .int) (n := 4096) (y := ((hh 111 (xand s (xxor (hh 78 k) (-1)))) + 1)) rfl rfl rfl (by omega) (by omega) (trivial) ?_
                  show xEx G0 cdX12_fewest (some .int) (xRn G0 MT (d + 1)) Q b 60 [some (.inr (.inr 66)), some (.inl (xshl 1 (h 66 4) - 1)), some (.inl s), some (.inl k), some (.inl (xand s (xxor (hh 78 k) (-1))))] [] (xup hh 111 s ((hh 111 (xand s (xxor (hh 78 k) (-1)))) + 1))
                  refine E_s 2 (i' := 23) (ls' := [some (.inr (.inr 66)), some (.inl (xshl 1 (h 66 4) - 1)), some (.inl s), some (.inl (k + 1)), some (.inl (xand s (xxor (hh 78 k) (-1))))]) (sk' := []) (h' := (xup hh 111 s ((hh 111 (xand s (xxor (hh 78 k) (-1)))) + 1))) rfl ?_
                  exact ih23 _ (k + 1) _ (by omega) (by omega) (fun a z => by rw [xup_o _ _ _ _ a z]; exact fh a z) (fun s2 z1 z2 => by rw [xup_j (by omega)]; exact wa s2 z1 z2) (by
                    rw [few1_1 k0, xup_s, if_pos ⟨fun y => c38 (by rw [g6]; exact y), by rw [← hv, ← show xand s (xxor (hh 78 k) (-1)) = rst S s k by rw [g6], ← fe]; omega⟩, fe, g6]) (by omega)
        exact key23 _ _ 0 _ (by omega) o.2.1 (fun a z => by rw [xup_o _ _ _ _ a z]; exact fh0 a z) (fun s2 z1 z2 => by rw [xup_j (by omega)]; exact wa0 s2 z1 z2) (by rw [xup_s]; rfl) (Nat.lt_succ_self _)
  exact key13 _ _ 1 none none (by omega) (by omega) (fun a z => by rw [xup_o _ _ _ _ a z]) (fun s2 z1 z2 => by rw [show s2 = 0 by have := z1.1; omega, xup_s, mc_z]) (Nat.lt_succ_self _)
set_option maxHeartbeats 1000000 in
theorem CO_fewest (d : Nat) {h : xH} (hI : Inv h)  : CO (d + 15) 0 135 249 [] [] h := by
  obtain ⟨S, T, ci, ri⟩ := Inv_i.mp hI
  obtain ⟨v1, v2, v3, v4, v5, v6⟩ := EV_ci ci
  have n1 : 0 ≤ h 1 2 ∧ h 1 2 ≤ 12 := ci.1.1
  have m4 : h 66 4 = h 1 2 := ri.1.1
  have n8 : 0 ≤ h 66 4 ∧ h 66 4 ≤ 12 := by rw [m4]; exact n1
  have o := OKS_ci ci
  have is0 : IS h S T := ci.2.2.2.2.1
  have nq : h 66 4 ≠ 0 ↔ h 1 2 ≠ 0 := by rw [m4]
  have fu : ∀ u, FM h (xup h 112 0 u) := fun u => (FM.rf h).up (Or.inl (by unfold scr; decide))
  obtain ⟨rr, rrt⟩ := RI_rr ri
  have hm8 : (h 1 2).toNat = (h 66 4).toNat := by rw [m4]
  refine o_fewest d 0 h S T is0 v1 v4 _ o rfl n1 (fun h1 f1 sv u => ?_)
  have x1 : h1 1 = h 1 := f1 _ (by decide)
  have hI1 : Inv h1 := Inv_so ci ri f1 (IS_of (m := (h 1 2).toNat) (by rw [x1]; exact n1.1) (by rw [x1]) (Or.inl rfl) sv)
  have k66 : h1 66 = h 66 := f1 _ (by decide)
  have g9 : ∀ a, 66 ≤ a → a ≤ 91 → (xup h1 112 0 u) a = h a := fun a z1 z2 => by rw [xup_o _ _ _ _ a (by omega)]; exact f1 a (by omega)
  have e4 : (xup h1 112 0 u) 66 4 = h 1 2 := by show h1 66 4 = _; rw [k66]; exact m4
  have fm : FM h1 (xup (xup h1 112 0 u) 66 0 0) := ((FM.rf h1).up (Or.inl (by unfold scr; decide))).up (Or.inr ⟨rfl, by unfold mdf; decide⟩)
  refine m_fewest (d + 13) 0 (xup h1 112 0 u) S (h 1 2).toNat (OKC_s o) (by rw [e4]) (by rw [e4]; exact n1) v3.2 (RR_hi g9 rr) (fun h2 f2 => ?_)
  exact CO_f hI1 (fm.tr (FM_c (fun a => a = 111) (fun a z => by unfold scr; omega) (fun a z => f2 a z))) (by rw [f2 _ (by decide)]; rfl) (by rw [f2 _ (by decide)]; rfl) (by rw [e4])
