theorem RR_mad {h S : xH} (hR : RR h S) (l m : Int) : RR (xup (xup h 66 35 l) 66 37 m) (mad S) := by
  obtain ⟨a1, a2, a3, a4⟩ := hR
  exact ⟨a1, a2, a3, a4⟩
theorem RR_m {h S : xH} {r c1 c2 c3 : Int} (hR : RR h S) (hr : 0 ≤ r ∧ r < S 0 0) : RR (xup (xup (if h 76 r = 0 then xup (xup (xup h 72 r c1) 73 r c2) 74 r (oth c1 c3) else h) 76 r (h 76 r + 1)) 89 0 (h 89 0 + 1)) (mrgS (mad S) r c1 c2 c3) := by
  obtain ⟨a1, a2, a3, a4⟩ := hR
  have h7 : h 76 r = S 7 r := (a3 r hr.1 hr.2).2.2.2.2.2.1
  have e00 : mrgS (mad S) r c1 c2 c3 0 0 = S 0 0 := (mrg_0 S r c1 c2 c3 (by decide)).trans rfl
  have e01 : mrgS (mad S) r c1 c2 c3 0 1 = S 0 1 + 1 := by unfold mrgS; rw [xup_s]; rfl
  have hh : ∀ (a : Nat) (j : Int), a ≠ 72 → a ≠ 73 → a ≠ 74 → (if h 76 r = 0 then xup (xup (xup h 72 r c1) 73 r c2) 74 r (oth c1 c3) else h) a j = h a j := by
    intro a j q1 q2 q3
    split
    · simp [xup, q1, q2, q3]
    · rfl
  refine ⟨?_, ?_, fun k hk0 hk9 => ?_, fun k e hk0 hk9 he0 he9 => ?_⟩
  · rw [e00, ← a1, xup_a (by decide), xup_a (by decide), hh _ _ (by decide) (by decide) (by decide)]
  · rw [e01, ← a2, xup_s]
  · rw [e00] at hk9
    obtain ⟨b1, b2, b3, b4, b5, b6, b7⟩ := a3 k hk0 hk9
    rw [mrg_o S r c1 c2 c3 k (a := 1) (by decide) (by decide) (by decide) (by decide) (by decide), mrg_o S r c1 c2 c3 k (a := 2) (by decide) (by decide) (by decide) (by decide) (by decide), mrg_o S r c1 c2 c3 k (a := 3) (by decide) (by decide) (by decide) (by decide) (by decide), mrg_o S r c1 c2 c3 k (a := 4) (by decide) (by decide) (by decide) (by decide) (by decide), mrg_o S r c1 c2 c3 k (a := 6) (by decide) (by decide) (by decide) (by decide) (by decide), mrg_7]
    obtain ⟨q1, q2, q3⟩ := mrg_f S r c1 c2 c3 k
    rw [q1, q2, q3]
    refine ⟨?_, ?_, ?_, ?_, ?_, ?_, fun hne => ?_⟩
    · rw [xup_a (by decide), xup_a (by decide), hh _ _ (by decide) (by decide) (by decide)]; exact b1
    · rw [xup_a (by decide), xup_a (by decide), hh _ _ (by decide) (by decide) (by decide)]; exact b2
    · rw [xup_a (by decide), xup_a (by decide), hh _ _ (by decide) (by decide) (by decide)]; exact b3
    · rw [xup_a (by decide), xup_a (by decide), hh _ _ (by decide) (by decide) (by decide)]; exact b4
    · rw [xup_a (by decide), xup_a (by decide), hh _ _ (by decide) (by decide) (by decide)]; exact b5
    · rw [xup_a (by decide)]
      by_cases e : k = r
      · subst e; rw [xup_s, if_pos rfl, h7]
      · rw [xup_j e, if_neg e, hh _ _ (by decide) (by decide) (by decide)]; exact b6
    · rw [xup_a (by decide), xup_a (by decide), xup_a (by decide), xup_a (by decide), xup_a (by decide), xup_a (by decide)]
      by_cases hm0 : S 7 r = 0
      · rw [if_pos (show h 76 r = 0 by rw [h7]; exact hm0)]
        by_cases e : k = r
        · subst e
          rw [if_pos ⟨rfl, hm0⟩, if_pos ⟨rfl, hm0⟩, if_pos ⟨rfl, hm0⟩]
          simp [xup]
        · rw [if_neg (fun z => e z.1), if_neg (fun z => e z.1), if_neg (fun z => e z.1)]
          rw [if_neg e] at hne
          simp [xup, e]
          exact b7 hne
      · rw [if_neg (show ¬ h 76 r = 0 by rw [h7]; exact hm0), if_neg (fun z => hm0 z.2), if_neg (fun z => hm0 z.2), if_neg (fun z => hm0 z.2)]
        refine b7 ?_
        by_cases e : k = r
        · rw [e]; exact hm0
        · rw [if_neg e] at hne; exact hne
  · rw [e00] at hk9
    rw [xup_a (by decide), xup_a (by decide), hh _ _ (by decide) (by decide) (by decide)] at he9
    rw [xup_a (by decide), xup_a (by decide), hh _ _ (by decide) (by decide) (by decide), mrg_o S r c1 c2 c3 _ (a := 5) (by decide) (by decide) (by decide) (by decide) (by decide)]
    exact a4 k e hk0 hk9 he0 he9
theorem RR_a {h S : xH} {sz c1 c2 c3 us cov n : Int} {o : Int → Int} {h2 : xH} (hR : RR h S) (hK : 0 ≤ S 0 0) (hn : h 66 4 = n) (hn12 : n ≤ 12)
    (e1 : h2 69 = (xup h 69 (h 66 8) c1) 69) (e2 : h2 70 = (xup h 70 (h 66 8) c2) 70) (e3 : h2 71 = (xup h 71 (h 66 8) (oth c1 c3)) 71) (e4 : h2 75 = (xup h 75 (h 66 8) sz) 75) (e5 : h2 76 = (xup h 76 (h 66 8) 0) 76) (e6 : h2 78 = (xup h 78 (h 66 8) cov) 78)
    (e7 : ∀ j, h2 77 j = if 12 * h 66 8 ≤ j ∧ j < 12 * h 66 8 + n then o (j - 12 * h 66 8) else h 77 j) (e8 : h2 72 = h 72) (e9 : h2 73 = h 73) (e10 : h2 74 = h 74) (e11 : h2 89 = h 89) (e12 : h2 66 8 = h 66 8 + 1) (e13 : h2 66 4 = n) : RR h2 (appE S n sz c1 c2 c3 o cov us) := by
  obtain ⟨a1, a2, a3, a4⟩ := hR
  refine ⟨?_, ?_, fun k hk0 hk9 => ?_, fun k e hk0 hk9 he0 he9 => ?_⟩
  · rw [e12, a1]; rfl
  · rw [e11, a2]; rfl
  · have hk99 : k < S 0 0 + 1 := hk9
    rw [e1, e2, e3, e4, e5, e6, e8, e9, e10, a1]
    by_cases e : k = S 0 0
    · subst e
      simp [xup, appE, put0]
    · obtain ⟨b1, b2, b3, b4, b5, b6, b7⟩ := a3 k hk0 (by omega)
      simp only [xup, appE, put0, e, if_false]
      simp
      exact ⟨b1, b2, b3, b4, b5, b6, b7⟩
  · have hk99 : k < S 0 0 + 1 := hk9
    rw [e13] at he9
    rw [e7, a1]
    show _ = if S 0 0 * 12 ≤ k * 12 + e ∧ k * 12 + e < S 0 0 * 12 + n then o (k * 12 + e - S 0 0 * 12) else S 5 (k * 12 + e)
    by_cases e9 : k = S 0 0
    · subst e9
      rw [if_pos (by omega), if_pos (by omega)]
      congr 1
      omega
    · rw [if_neg (by omega), if_neg (by omega)]
      exact a4 k e hk0 (by omega) he0 (by omega)
set_option maxHeartbeats 1000000 in
theorem r_keeps (d b : Nat) (M0 : Int) (h0 h S : xH) (c1 c2 c3 o3 sz : Int) (ho3 : o3 = oth c1 c3) (hsz : sz = h0 9 15) (hB : B0 h0) (hE : RE h0 h) (hRM : RM M0 h S) (hW : WE (h0 1 2) S) (ho : S 0 4 = 0) (hc : okc S c1 c2 c3) (hrow : ∀ e, 0 ≤ e → e < h0 1 2 → h 92 e = oE (rwf h0) S c1 c2 c3 e) {Q : xO → xH → Prop} (hQ : ∀ h', RM M0 h' (offP h0 S c1 c2 c3) → FR h h' → Q (.inl (some (.inl (if offP h0 S c1 c2 c3 0 4 = 0 then 1 else 0)))) h') : xRn G0 MT (d + 2) b 179 [.inr (.inr 66), .inl c1, .inl c2, .inl (oth c1 c3), .inl (h0 9 15)] h Q := by
  refine R_of (M := mX12_keeps) rfl (Nat.le_of_ble_eq_true rfl) ?_
  show xEx G0 cdX12_keeps (some .boolean) (xRn G0 MT (d + 1)) Q b 0 [some (.inr (.inr 66)), some (.inl c1), some (.inl c2), some (.inl (oth c1 c3)), some (.inl (h0 9 15)), none, none] [] h
  have hR := hRM.1
  have m1 := hRM.2.1
  have m2 := hRM.2.2.1
  have m3 := hRM.2.2.2
  have hn := hB.1
  have hW0 := hW
  obtain ⟨w1, w2, w3, w4, w5, w6, w7, w8, w9, w10, w11, w12⟩ := hW0
  refine E_s 1 (i' := 1) (ls' := [some (.inr (.inr 66)), some (.inl c1), some (.inl c2), some (.inl (oth c1 c3)), some (.inl (h0 9 15)), none, none]) (sk' := [.inr (.inr 66)]) (h' := h) rfl ?_
  refine E_cp (x := (.invokevirtual 223, 0, [(10, 176)], [0])) (q := fun r h9 => (r = 0 ∧ h 66 35 = 0 ∧ h9 = xup h 66 36 2) ∨ (r = 1 ∧ h 66 35 ≠ 0 ∧ h9 = xup (xup h 66 35 (h 66 35 - 1)) 66 37 (h 66 37 + 1))) rfl rfl (Nat.le_of_ble_eq_true rfl) (r_may d 0 h (by rw [m1]; exact ⟨w9, w10⟩) (fun z => ⟨0, rfl, Or.inl ⟨rfl, z, rfl⟩⟩) (fun z => ⟨1, rfl, Or.inr ⟨rfl, z, rfl⟩⟩)) (fun r h1 hq => ?_)
  show xEx G0 cdX12_keeps (some .boolean) (xRn G0 MT (d + 1)) Q b 2 [some (.inr (.inr 66)), some (.inl c1), some (.inl c2), some (.inl (oth c1 c3)), some (.inl (h0 9 15)), none, none] [.inl r] h1
  refine E_b (x := (.ifCond .ne 5, 5, [], [])) rfl rfl (fun cb2 => ?_) (fun cb2 => ?_)
  · rw [c_ne (by rcases hq with hq | hq <;> exact ⟨by omega, by omega⟩) (by rcases hq with hq | hq <;> exact ⟨by omega, by omega⟩)] at cb2
    simp only [decide_eq_true_eq, decide_eq_false_iff_not, Decidable.not_not] at cb2
    show xEx G0 cdX12_keeps (some .boolean) (xRn G0 MT (d + 1)) Q b 5 [some (.inr (.inr 66)), some (.inl c1), some (.inl c2), some (.inl (oth c1 c3)), some (.inl (h0 9 15)), none, none] [] h1
    have hx : h 66 35 ≠ 0 ∧ h1 = xup (xup h 66 35 (h 66 35 - 1)) 66 37 (h 66 37 + 1) := by
      rcases hq with ⟨q1, q2, q3⟩ | ⟨q1, q2, q3⟩
      · exact absurd q1 cb2
      · exact ⟨q2, q3⟩
    have h3 : S 0 3 ≠ 0 := by rw [← m1]; exact hx.1
    have hR1 : RR h1 (mad S) := by rw [hx.2]; exact RR_mad hR _ _
    have hl1 : h1 66 35 = S 0 3 - 1 := by rw [hx.2, ← m1]; rfl
    have hmk1 : h1 66 37 + M0 = S 0 2 + 1 := by rw [hx.2, ← m2]; show h 66 37 + 1 + M0 = _; omega
    have hwh1 : h1 66 36 = 0 := by rw [hx.2, ← ho, ← m3]; rfl
    have hF1 : FR h h1 := by rw [hx.2]; exact FR.up (FR.up (FR.rf h) (by decide)) (by decide)
    have hrow1 : h1 92 = h 92 := by rw [hx.2]; rfl
    have hex1 : h1 66 4 = h0 1 2 := by rw [hx.2]; exact hE.1
    have hK1 : h1 66 8 = S 0 0 := hR1.1
    have hro : ∀ e, 0 ≤ e → e < h0 1 2 → xr (oE (rwf h0) S c1 c2 c3 e) := oE_r hW (fun e z1 z2 => (hB.2 e z1 z2).2) hc
    have hcm : ∀ k e, 0 ≤ k → k < S 0 0 → 0 ≤ e → e < h0 1 2 → h1 77 (12 * k + e) = S 5 (k * 12 + e) := fun k e z1 z2 z3 z4 => hR1.2.2.2 k e z1 z2 z3 (by rw [hex1]; exact z4)
    have hsame : ∀ k, 0 ≤ k → k < S 0 0 → ((∀ e, 0 ≤ e → e < h1 66 4 → h1 77 (12 * k + e) = h1 92 e) ↔ eqr (h0 1 2) S (oE (rwf h0) S c1 c2 c3) k) := by
      intro k z1 z2
      rw [hex1, hrow1]
      constructor
      · intro hh e z3 z4
        have := hh e z3 z4
        rw [hcm k e z1 z2 z3 z4, hrow e z3 z4] at this
        exact this
      · intro hh e z3 z4
        rw [hcm k e z1 z2 z3 z4, hrow e z3 z4]
        exact hh e z3 z4
    refine E_s 1 (i' := 6) (ls' := [some (.inr (.inr 66)), some (.inl c1), some (.inl c2), some (.inl (oth c1 c3)), some (.inl (h0 9 15)), none, none]) (sk' := [.inr (.inr 66)]) (h' := h1) rfl ?_
    refine E_cp (x := (.invokevirtual 227, 0, [(10, 177)], [0])) (q := fun r2 h9 => ((r2 = -1 ∧ ∀ k, 0 ≤ k → k < S 0 0 → ¬ eqr (h0 1 2) S (oE (rwf h0) S c1 c2 c3) k) ∨ (0 ≤ r2 ∧ r2 < S 0 0 ∧ eqr (h0 1 2) S (oE (rwf h0) S c1 c2 c3) r2)) ∧ h1 = h9) rfl rfl (Nat.le_of_ble_eq_true rfl) (r_like d 0 h1 (by rw [hex1]; exact hn) (by rw [hK1]; exact ⟨w1, w2⟩) (fun k e z1 z2 z3 z4 => by rw [hK1] at z2; rw [hex1] at z4; rw [hcm k e z1 z2 z3 z4]; exact w3 k e z1 z2 z3 z4) (fun e z1 z2 => by rw [hex1] at z2; rw [hrow1, hrow e z1 z2]; exact hro e z1 z2) (fun k z1 z2 z3 z4 => ⟨k, rfl, Or.inr ⟨z1, by rw [hK1] at z2; exact z2, (hsame k z1 (by rw [hK1] at z2; exact z2)).mp z3⟩, rfl⟩) (fun z1 => ⟨-1, rfl, Or.inl ⟨rfl, fun k z2 z3 z4 => z1 k z2 (by rw [hK1]; exact z3) ((hsame k z2 z3).mpr z4)⟩, rfl⟩)) (fun r2 h9 hq2 => ?_)
    obtain ⟨hq2, rfl⟩ := hq2
    show xEx G0 cdX12_keeps (some .boolean) (xRn G0 MT (d + 1)) Q b 7 [some (.inr (.inr 66)), some (.inl c1), some (.inl c2), some (.inl (oth c1 c3)), some (.inl (h0 9 15)), none, none] [.inl r2] h1
    refine E_s 3 (i' := 10) (ls' := [some (.inr (.inr 66)), some (.inl c1), some (.inl c2), some (.inl (oth c1 c3)), some (.inl (h0 9 15)), some (.inl r2), none]) (sk' := [.inl (-1), .inl r2]) (h' := h1) rfl ?_
    refine E_b (x := (.if_icmp .eq 60, 49, [], [])) rfl rfl (fun cb10 => ?_) (fun cb10 => ?_)
    · rw [c_eq (by first | exact ⟨by omega, by omega⟩ | (rcases hq2 with hq | hq <;> exact ⟨by omega, by omega⟩)) (by first | exact ⟨by omega, by omega⟩ | (rcases hq2 with hq | hq <;> exact ⟨by omega, by omega⟩))] at cb10
      simp only [decide_eq_true_eq, decide_eq_false_iff_not, Decidable.not_not] at cb10
      show xEx G0 cdX12_keeps (some .boolean) (xRn G0 MT (d + 1)) Q b 49 [some (.inr (.inr 66)), some (.inl c1), some (.inl c2), some (.inl (oth c1 c3)), some (.inl (h0 9 15)), some (.inl r2), none] [] h1
      have hfn : fnd (eqr (h0 1 2) S (oE (rwf h0) S c1 c2 c3)) (S 0 0).toNat = -1 := by
        refine fnd_no ?_
        rcases hq2 with hq | hq
        · exact hq.2
        · omega
      refine E_s 3 (i' := 52) (ls' := [some (.inr (.inr 66)), some (.inl c1), some (.inl c2), some (.inl (oth c1 c3)), some (.inl (h0 9 15)), some (.inl r2), none]) (sk' := [.inl 300, .inl (h1 66 8)]) (h' := h1) rfl ?_
      refine E_b (x := (.if_icmp .ne 10, 58, [], [])) rfl rfl (fun cb52 => ?_) (fun cb52 => ?_)
      · rw [c_ne (by first | exact ⟨by omega, by omega⟩ | (rw [hK1]; exact ⟨by omega, by omega⟩)) (by first | exact ⟨by omega, by omega⟩ | (rw [hK1]; exact ⟨by omega, by omega⟩))] at cb52
        simp only [decide_eq_true_eq, decide_eq_false_iff_not, Decidable.not_not] at cb52
        show xEx G0 cdX12_keeps (some .boolean) (xRn G0 MT (d + 1)) Q b 58 [some (.inr (.inr 66)), some (.inl c1), some (.inl c2), some (.inl (oth c1 c3)), some (.inl (h0 9 15)), some (.inl r2), none] [] h1
        refine E_s 5 (i' := 63) (ls' := [some (.inr (.inr 66)), some (.inl c1), some (.inl c2), some (.inl (oth c1 c3)), some (.inl (h0 9 15)), some (.inl r2), none]) (sk' := [.inl c1, .inl (h1 66 8), .inr (.inr 69)]) (h' := h1) rfl ?_
        refine E_sd (x := (.iastore, 0, [], [])) (ty := .int) (n := 301) (y := c1) rfl rfl rfl (by omega) (by omega) (trivial) ?_
        show xEx G0 cdX12_keeps (some .boolean) (xRn G0 MT (d + 1)) Q b 64 [some (.inr (.inr 66)), some (.inl c1), some (.inl c2), some (.inl (oth c1 c3)), some (.inl (h0 9 15)), some (.inl r2), none] [] (xup h1 69 (h1 66 8) c1)
        refine E_s 5 (i' := 69) (ls' := [some (.inr (.inr 66)), some (.inl c1), some (.inl c2), some (.inl (oth c1 c3)), some (.inl (h0 9 15)), some (.inl r2), none]) (sk' := [.inl c2, .inl (h1 66 8), .inr (.inr 70)]) (h' := (xup h1 69 (h1 66 8) c1)) rfl ?_
        refine E_sd (x := (.iastore, 0, [], [])) (ty := .int) (n := 301) (y := c2) rfl rfl rfl (by omega) (by omega) (trivial) ?_
        show xEx G0 cdX12_keeps (some .boolean) (xRn G0 MT (d + 1)) Q b 70 [some (.inr (.inr 66)), some (.inl c1), some (.inl c2), some (.inl (oth c1 c3)), some (.inl (h0 9 15)), some (.inl r2), none] [] (xup (xup h1 69 (h1 66 8) c1) 70 (h1 66 8) c2)
        refine E_s 5 (i' := 75) (ls' := [some (.inr (.inr 66)), some (.inl c1), some (.inl c2), some (.inl (oth c1 c3)), some (.inl (h0 9 15)), some (.inl r2), none]) (sk' := [.inl (oth c1 c3), .inl (h1 66 8), .inr (.inr 71)]) (h' := (xup (xup h1 69 (h1 66 8) c1) 70 (h1 66 8) c2)) rfl ?_
        refine E_sd (x := (.iastore, 0, [], [])) (ty := .int) (n := 301) (y := (oth c1 c3)) rfl rfl rfl (by omega) (by omega) (trivial) ?_
        show xEx G0 cdX12_keeps (some .boolean) (xRn G0 MT (d + 1)) Q b 76 [some (.inr (.inr 66)), some (.inl c1), some (.inl c2), some (.inl (oth c1 c3)), some (.inl (h0 9 15)), some (.inl r2), none] [] (xup (xup (xup h1 69 (h1 66 8) c1) 70 (h1 66 8) c2) 71 (h1 66 8) (oth c1 c3))
        refine E_s 5 (i' := 81) (ls' := [some (.inr (.inr 66)), some (.inl c1), some (.inl c2), some (.inl (oth c1 c3)), some (.inl (h0 9 15)), some (.inl r2), none]) (sk' := [.inl (h0 9 15), .inl (h1 66 8), .inr (.inr 75)]) (h' := (xup (xup (xup h1 69 (h1 66 8) c1) 70 (h1 66 8) c2) 71 (h1 66 8) (oth c1 c3))) rfl ?_
        refine E_sd (x := (.iastore, 0, [], [])) (ty := .int) (n := 300) (y := (h0 9 15)) rfl rfl rfl (by omega) (by omega) (trivial) ?_
        show xEx G0 cdX12_keeps (some .boolean) (xRn G0 MT (d + 1)) Q b 82 [some (.inr (.inr 66)), some (.inl c1), some (.inl c2), some (.inl (oth c1 c3)), some (.inl (h0 9 15)), some (.inl r2), none] [] (xup (xup (xup (xup h1 69 (h1 66 8) c1) 70 (h1 66 8) c2) 71 (h1 66 8) (oth c1 c3)) 75 (h1 66 8) (h0 9 15))
        refine E_s 5 (i' := 87) (ls' := [some (.inr (.inr 66)), some (.inl c1), some (.inl c2), some (.inl (oth c1 c3)), some (.inl (h0 9 15)), some (.inl r2), none]) (sk' := [.inl 0, .inl (h1 66 8), .inr (.inr 76)]) (h' := (xup (xup (xup (xup h1 69 (h1 66 8) c1) 70 (h1 66 8) c2) 71 (h1 66 8) (oth c1 c3)) 75 (h1 66 8) (h0 9 15))) rfl ?_
        refine E_sd (x := (.iastore, 0, [], [])) (ty := .int) (n := 300) (y := 0) rfl rfl rfl (by omega) (by omega) (trivial) ?_
        show xEx G0 cdX12_keeps (some .boolean) (xRn G0 MT (d + 1)) Q b 88 [some (.inr (.inr 66)), some (.inl c1), some (.inl c2), some (.inl (oth c1 c3)), some (.inl (h0 9 15)), some (.inl r2), none] [] (xup (xup (xup (xup (xup h1 69 (h1 66 8) c1) 70 (h1 66 8) c2) 71 (h1 66 8) (oth c1 c3)) 75 (h1 66 8) (h0 9 15)) 76 (h1 66 8) 0)
        refine E_s 5 (i' := 93) (ls' := [some (.inr (.inr 66)), some (.inl c1), some (.inl c2), some (.inl (oth c1 c3)), some (.inl (h0 9 15)), some (.inl r2), none]) (sk' := [.inr (.inr 66), .inl (h1 66 8), .inr (.inr 78)]) (h' := (xup (xup (xup (xup (xup h1 69 (h1 66 8) c1) 70 (h1 66 8) c2) 71 (h1 66 8) (oth c1 c3)) 75 (h1 66 8) (h0 9 15)) 76 (h1 66 8) 0)) rfl ?_
        have hcv : (cv (fun e => h1 92 e = h1 67 (4 * e + 3)) (h1 66 4).toNat : Int) = (cv (fun e => oE (rwf h0) S c1 c2 c3 e = h0 6 e) (h0 1 2).toNat : Int) := by
          rw [hex1]
          congr 1
          refine cv_congr _ (fun i hi => ?_)
          rw [hrow1, hrow i (by omega) (by omega), hF1.1 67 (by decide), hE.2.2.2.2.2.1 i (by omega) (by omega)]
        refine E_ci (x := (.invokevirtual 231, 0, [(10, 178)], [0])) (r := (cv (fun e => oE (rwf h0) S c1 c2 c3 e = h0 6 e) (h0 1 2).toNat : Int)) (h' := (xup (xup (xup (xup (xup h1 69 (h1 66 8) c1) 70 (h1 66 8) c2) 71 (h1 66 8) (oth c1 c3)) 75 (h1 66 8) (h0 9 15)) 76 (h1 66 8) 0)) rfl rfl (Nat.le_of_ble_eq_true rfl) (r_coverNow d 0 (xup (xup (xup (xup (xup h1 69 (h1 66 8) c1) 70 (h1 66 8) c2) 71 (h1 66 8) (oth c1 c3)) 75 (h1 66 8) (h0 9 15)) 76 (h1 66 8) 0) (by show 0 ≤ h1 66 4 ∧ h1 66 4 ≤ 12; rw [hex1]; exact hn) (fun e z1 z2 => by
          have z2 : e < h1 66 4 := z2
          rw [hex1] at z2
          show xr (h1 92 e) ∧ xr (h1 67 (4 * e + 3))
          rw [hrow1, hrow e z1 z2, hF1.1 67 (by decide), hE.2.2.2.2.2.1 e z1 z2]
          exact ⟨hro e z1 z2, (hB.2 e z1 z2).1⟩) ⟨by rw [← hcv]; rfl, rfl⟩) ?_
        show xEx G0 cdX12_keeps (some .boolean) (xRn G0 MT (d + 1)) Q b 94 [some (.inr (.inr 66)), some (.inl c1), some (.inl c2), some (.inl (oth c1 c3)), some (.inl (h0 9 15)), some (.inl r2), none] [.inl (cv (fun e => oE (rwf h0) S c1 c2 c3 e = h0 6 e) (h0 1 2).toNat : Int), .inl (h1 66 8), .inr (.inr 78)] (xup (xup (xup (xup (xup h1 69 (h1 66 8) c1) 70 (h1 66 8) c2) 71 (h1 66 8) (oth c1 c3)) 75 (h1 66 8) (h0 9 15)) 76 (h1 66 8) 0)
        refine E_sd (x := (.iastore, 0, [], [])) (ty := .int) (n := 300) (y := (cv (fun e => oE (rwf h0) S c1 c2 c3 e = h0 6 e) (h0 1 2).toNat : Int)) rfl rfl rfl (by omega) (by omega) (trivial) ?_
        show xEx G0 cdX12_keeps (some .boolean) (xRn G0 MT (d + 1)) Q b 95 [some (.inr (.inr 66)), some (.inl c1), some (.inl c2), some (.inl (oth c1 c3)), some (.inl (h0 9 15)), some (.inl r2), none] [] (xup (xup (xup (xup (xup (xup h1 69 (h1 66 8) c1) 70 (h1 66 8) c2) 71 (h1 66 8) (oth c1 c3)) 75 (h1 66 8) (h0 9 15)) 76 (h1 66 8) 0) 78 (h1 66 8) (cv (fun e => oE (rwf h0) S c1 c2 c3 e = h0 6 e) (h0 1 2).toNat : Int))
        refine E_s 2 (i' := 97) (ls' := [some (.inr (.inr 66)), some (.inl c1), some (.inl c2), some (.inl (oth c1 c3)), some (.inl (h0 9 15)), some (.inl r2), some (.inl 0)]) (sk' := []) (h' := (xup (xup (xup (xup (xup (xup h1 69 (h1 66 8) c1) 70 (h1 66 8) c2) 71 (h1 66 8) (oth c1 c3)) 75 (h1 66 8) (h0 9 15)) 76 (h1 66 8) 0) 78 (h1 66 8) (cv (fun e => oE (rwf h0) S c1 c2 c3 e = h0 6 e) (h0 1 2).toNat : Int))) rfl ?_
        have key97 : ∀ (n : Nat) (hh : xH) (e : Int), (0 ≤ e) → (e ≤ h1 66 4) → (∀ a, a ≠ 77 → hh a = (xup (xup (xup (xup (xup (xup h1 69 (h1 66 8) c1) 70 (h1 66 8) c2) 71 (h1 66 8) (oth c1 c3)) 75 (h1 66 8) (h0 9 15)) 76 (h1 66 8) 0) 78 (h1 66 8) (cv (fun e => oE (rwf h0) S c1 c2 c3 e = h0 6 e) (h0 1 2).toNat : Int)) a) → (∀ j, hh 77 j = if 12 * h1 66 8 ≤ j ∧ j < 12 * h1 66 8 + e then h1 92 (j - 12 * h1 66 8) else h1 77 j) → (FR h1 hh) → ((h1 66 4 - e).toNat) < n → xEx G0 cdX12_keeps (some .boolean) (xRn G0 MT (d + 1)) Q b 97 [some (.inr (.inr 66)), some (.inl c1), some (.inl c2), some (.inl (oth c1 c3)), some (.inl (h0 9 15)), some (.inl r2), some (.inl e)] [] hh := by
          intro n
          induction n with
          | zero => intro hh e _ _ _ _ _ hm; exact absurd hm (Nat.not_lt_zero _)
          | succ n ih97 =>
            intro hh e he0 he9 hfa hfc hfF hm97
            have hex2 : hh 66 4 = h1 66 4 := by rw [hfa 66 (by decide)]; rfl
            have hk2 : hh 66 8 = h1 66 8 := by rw [hfa 66 (by decide)]; rfl
            have hrw2 : hh 92 = h1 92 := by rw [hfa 92 (by decide)]; rfl
            refine E_s 3 (i' := 100) (ls' := [some (.inr (.inr 66)), some (.inl c1), some (.inl c2), some (.inl (oth c1 c3)), some (.inl (h0 9 15)), some (.inl r2), some (.inl e)]) (sk' := [.inl (hh 66 4), .inl e]) (h' := hh) rfl ?_
            refine E_b (x := (.if_icmp .ge 31, 116, [], [])) rfl rfl (fun cb100 => ?_) (fun cb100 => ?_)
            · rw [c_ge (by first | exact ⟨by omega, by omega⟩ | (rw [hex2, hex1]; exact ⟨by omega, by omega⟩)) (by first | exact ⟨by omega, by omega⟩ | (rw [hex2, hex1]; exact ⟨by omega, by omega⟩))] at cb100
              simp only [decide_eq_true_eq, decide_eq_false_iff_not, Decidable.not_not] at cb100
              show xEx G0 cdX12_keeps (some .boolean) (xRn G0 MT (d + 1)) Q b 116 [some (.inr (.inr 66)), some (.inl c1), some (.inl c2), some (.inl (oth c1 c3)), some (.inl (h0 9 15)), some (.inl r2), some (.inl e)] [] hh
              refine E_s 7 (i' := 123) (ls' := [some (.inr (.inr 66)), some (.inl c1), some (.inl c2), some (.inl (oth c1 c3)), some (.inl (h0 9 15)), some (.inl r2), some (.inl e)]) (sk' := [.inl 1]) (h' := (xup hh 66 8 ((hh 66 8) + 1))) rfl ?_
              exact E_ret (x := (.ireturn, 0, [], [])) (v := some (.inl 1)) rfl (Or.inr ⟨rfl, Or.inr rfl⟩) (by
                unfold offP at hQ
                rw [offE_a ho h3 hfn (by rw [← hK1]; omega)] at hQ
                have e9 : e = h1 66 4 := by omega
                have hS4 : appE (mad S) (h0 1 2) (h0 9 15) c1 c2 c3 (oE (rwf h0) S c1 c2 c3) (cv (fun e => oE (rwf h0) S c1 c2 c3 e = h0 6 e) (h0 1 2).toNat) (usE S c1 c2 c3) 0 4 = 0 := ho
                rw [hS4] at hQ
                have hmd : hh 66 = h1 66 := hfa 66 (by decide)
                refine hQ _ ⟨RR_a (h := h1) (h2 := xup hh 66 8 (hh 66 8 + 1)) hR1 w1 hex1 hn.2 ?_ ?_ ?_ ?_ ?_ ?_ ?_ ?_ ?_ ?_ ?_ ?_ ?_, ?_, ?_, ?_⟩ (FR.up (FR.tr hF1 hfF) (by decide))
                · show hh 69 = _
                  rw [hfa 69 (by decide)]; rfl
                · show hh 70 = _
                  rw [hfa 70 (by decide)]; rfl
                · show hh 71 = _
                  rw [hfa 71 (by decide)]; rfl
                · show hh 75 = _
                  rw [hfa 75 (by decide)]; rfl
                · show hh 76 = _
                  rw [hfa 76 (by decide)]; rfl
                · show hh 78 = _
                  rw [hfa 78 (by decide)]; rfl
                · intro j
                  show hh 77 j = _
                  rw [hfc j, e9, hex1]
                  by_cases z : 12 * h1 66 8 ≤ j ∧ j < 12 * h1 66 8 + h0 1 2
                  · rw [if_pos z, if_pos z, hrow1, hrow _ (by omega) (by omega)]
                  · rw [if_neg z, if_neg z]
                · show hh 72 = _
                  rw [hfa 72 (by decide)]; rfl
                · show hh 73 = _
                  rw [hfa 73 (by decide)]; rfl
                · show hh 74 = _
                  rw [hfa 74 (by decide)]; rfl
                · show hh 89 = _
                  rw [hfa 89 (by decide)]; rfl
                · show hh 66 8 + 1 = _
                  rw [hmd]
                · show hh 66 4 = _
                  rw [hmd]; exact hex1
                · show hh 66 35 = S 0 3 - 1
                  rw [hmd]; exact hl1
                · show hh 66 37 + M0 = S 0 2 + 1
                  rw [hmd]; exact hmk1
                · show hh 66 36 = S 0 4
                  rw [hmd, hwh1, ho])
            · rw [c_ge (by first | exact ⟨by omega, by omega⟩ | (rw [hex2, hex1]; exact ⟨by omega, by omega⟩)) (by first | exact ⟨by omega, by omega⟩ | (rw [hex2, hex1]; exact ⟨by omega, by omega⟩))] at cb100
              simp only [decide_eq_true_eq, decide_eq_false_iff_not, Decidable.not_not] at cb100
              show xEx G0 cdX12_keeps (some .boolean) (xRn G0 MT (d + 1)) Q b 101 [some (.inr (.inr 66)), some (.inl c1), some (.inl c2), some (.inl (oth c1 c3)), some (.inl (h0 9 15)), some (.inl r2), some (.inl e)] [] hh
              refine E_s 11 (i' := 112) (ls' := [some (.inr (.inr 66)), some (.inl c1), some (.inl c2), some (.inl (oth c1 c3)), some (.inl (h0 9 15)), some (.inl r2), some (.inl e)]) (sk' := [.inl e, .inr (.inr 92), .inl ((12 * (hh 66 8)) + e), .inr (.inr 77)]) (h' := hh) rfl ?_
              refine E_ld (x := (.iaload, 0, [], [])) (ty := .int) (n := 12) rfl rfl rfl (by omega) (by rw [hex1] at he9; omega) ?_
              show xEx G0 cdX12_keeps (some .boolean) (xRn G0 MT (d + 1)) Q b 113 [some (.inr (.inr 66)), some (.inl c1), some (.inl c2), some (.inl (oth c1 c3)), some (.inl (h0 9 15)), some (.inl r2), some (.inl e)] [.inl (hh 92 e), .inl ((12 * (hh 66 8)) + e), .inr (.inr 77)] hh
              refine E_sd (x := (.iastore, 0, [], [])) (ty := .int) (n := 3600) (y := (hh 92 e)) rfl rfl rfl (by omega) (by omega) (trivial) ?_
              show xEx G0 cdX12_keeps (some .boolean) (xRn G0 MT (d + 1)) Q b 114 [some (.inr (.inr 66)), some (.inl c1), some (.inl c2), some (.inl (oth c1 c3)), some (.inl (h0 9 15)), some (.inl r2), some (.inl e)] [] (xup hh 77 ((12 * (hh 66 8)) + e) (hh 92 e))
              refine E_s 2 (i' := 97) (ls' := [some (.inr (.inr 66)), some (.inl c1), some (.inl c2), some (.inl (oth c1 c3)), some (.inl (h0 9 15)), some (.inl r2), some (.inl (e + 1))]) (sk' := []) (h' := (xup hh 77 ((12 * (hh 66 8)) + e) (hh 92 e))) rfl ?_
              exact ih97 _ (e + 1) (by omega) (by omega) (fun a h1 => by rw [← hfa a h1]; exact xup_o _ _ _ _ a h1) (fun j => by
                rw [hk2, hrw2]
                by_cases z : j = 12 * h1 66 8 + e
                · rw [z, xup_s, if_pos (by omega)]; congr 1; omega
                · rw [xup_j z, hfc j]
                  by_cases z2 : 12 * h1 66 8 ≤ j ∧ j < 12 * h1 66 8 + e
                  · rw [if_pos z2, if_pos (by omega)]
                  · rw [if_neg z2, if_neg (by omega)]) (FR.up hfF (by omega)) (by omega)
        exact key97 _ _ 0 (by omega) (by rw [hex1]; exact hn.1) (fun _ _ => rfl) (fun j => by rw [if_neg (by omega)]; rfl) (FR.up (FR.up (FR.up (FR.up (FR.up (FR.up (FR.rf h1) (by omega)) (by omega)) (by omega)) (by omega)) (by omega)) (by omega)) (Nat.lt_succ_self _)
      · rw [c_ne (by first | exact ⟨by omega, by omega⟩ | (rw [hK1]; exact ⟨by omega, by omega⟩)) (by first | exact ⟨by omega, by omega⟩ | (rw [hK1]; exact ⟨by omega, by omega⟩))] at cb52
        simp only [decide_eq_true_eq, decide_eq_false_iff_not, Decidable.not_not] at cb52
        show xEx G0 cdX12_keeps (some .boolean) (xRn G0 MT (d + 1)) Q b 53 [some (.inr (.inr 66)), some (.inl c1), some (.inl c2), some (.inl (oth c1 c3)), some (.inl (h0 9 15)), some (.inl r2), none] [] h1
        refine E_s 4 (i' := 57) (ls' := [some (.inr (.inr 66)), some (.inl c1), some (.inl c2), some (.inl (oth c1 c3)), some (.inl (h0 9 15)), some (.inl r2), none]) (sk' := [.inl 0]) (h' := (xup h1 66 36 1)) rfl ?_
        exact E_ret (x := (.ireturn, 0, [], [])) (v := some (.inl 0)) rfl (Or.inr ⟨rfl, Or.inl rfl⟩) (by
          unfold offP at hQ
          rw [offE_f ho h3 hfn (by rw [← hK1]; omega)] at hQ
          refine hQ _ ⟨?_, ?_, ?_, rfl⟩ (FR.up hF1 (by decide))
          · exact hR1
          · exact hl1
          · exact hmk1)
    · rw [c_eq (by first | exact ⟨by omega, by omega⟩ | (rcases hq2 with hq | hq <;> exact ⟨by omega, by omega⟩)) (by first | exact ⟨by omega, by omega⟩ | (rcases hq2 with hq | hq <;> exact ⟨by omega, by omega⟩))] at cb10
      simp only [decide_eq_true_eq, decide_eq_false_iff_not, Decidable.not_not] at cb10
      show xEx G0 cdX12_keeps (some .boolean) (xRn G0 MT (d + 1)) Q b 11 [some (.inr (.inr 66)), some (.inl c1), some (.inl c2), some (.inl (oth c1 c3)), some (.inl (h0 9 15)), some (.inl r2), none] [] h1
      have hq1 : 0 ≤ r2 ∧ r2 < S 0 0 ∧ eqr (h0 1 2) S (oE (rwf h0) S c1 c2 c3) r2 := by
        rcases hq2 with hq | hq
        · exact absurd hq.1 cb10
        · exact hq
      have hfr : fnd (eqr (h0 1 2) S (oE (rwf h0) S c1 c2 c3)) (S 0 0).toNat = r2 := fnd_is hq1.1 hq1.2.1 hq1.2.2 (fun j z1 z2 z3 => w4 j r2 z1 z2 hq1.2.1 (fun e z4 z5 => (z3 e z4 z5).trans (hq1.2.2 e z4 z5).symm))
      have hm7 : h1 76 r2 = S 7 r2 := (hR1.2.2.1 r2 hq1.1 hq1.2.1).2.2.2.2.2.1
      have hw5 := w5 r2 hq1.1 hq1.2.1
      refine E_s 3 (i' := 14) (ls' := [some (.inr (.inr 66)), some (.inl c1), some (.inl c2), some (.inl (oth c1 c3)), some (.inl (h0 9 15)), some (.inl r2), none]) (sk' := [.inl r2, .inr (.inr 76)]) (h' := h1) rfl ?_
      refine E_ld (x := (.iaload, 0, [], [])) (ty := .int) (n := 300) rfl rfl rfl (by omega) (by omega) ?_
      show xEx G0 cdX12_keeps (some .boolean) (xRn G0 MT (d + 1)) Q b 15 [some (.inr (.inr 66)), some (.inl c1), some (.inl c2), some (.inl (oth c1 c3)), some (.inl (h0 9 15)), some (.inl r2), none] [.inl (h1 76 r2)] h1
      refine E_b (x := (.ifCond .ne 27, 31, [], [])) rfl rfl (fun cb15 => ?_) (fun cb15 => ?_)
      · rw [c_ne (by first | exact ⟨by omega, by omega⟩ | (rw [hm7]; exact ⟨by omega, by omega⟩)) (by first | exact ⟨by omega, by omega⟩ | (rw [hm7]; exact ⟨by omega, by omega⟩))] at cb15
        simp only [decide_eq_true_eq, decide_eq_false_iff_not, Decidable.not_not] at cb15
        show xEx G0 cdX12_keeps (some .boolean) (xRn G0 MT (d + 1)) Q b 31 [some (.inr (.inr 66)), some (.inl c1), some (.inl c2), some (.inl (oth c1 c3)), some (.inl (h0 9 15)), some (.inl r2), none] [] h1
        refine E_s 4 (i' := 35) (ls' := [some (.inr (.inr 66)), some (.inl c1), some (.inl c2), some (.inl (oth c1 c3)), some (.inl (h0 9 15)), some (.inl r2), none]) (sk' := [.inl r2, .inr (.inr 76), .inl r2, .inr (.inr 76)]) (h' := h1) rfl ?_
        refine E_ld (x := (.iaload, 0, [], [])) (ty := .int) (n := 300) rfl rfl rfl (by omega) (by omega) ?_
        show xEx G0 cdX12_keeps (some .boolean) (xRn G0 MT (d + 1)) Q b 36 [some (.inr (.inr 66)), some (.inl c1), some (.inl c2), some (.inl (oth c1 c3)), some (.inl (h0 9 15)), some (.inl r2), none] [.inl (h1 76 r2), .inl r2, .inr (.inr 76)] h1
        refine E_s 2 (i' := 38) (ls' := [some (.inr (.inr 66)), some (.inl c1), some (.inl c2), some (.inl (oth c1 c3)), some (.inl (h0 9 15)), some (.inl r2), none]) (sk' := [.inl ((h1 76 r2) + 1), .inl r2, .inr (.inr 76)]) (h' := h1) rfl ?_
        refine E_sd (x := (.iastore, 0, [], [])) (ty := .int) (n := 300) (y := ((h1 76 r2) + 1)) rfl rfl rfl (by omega) (by omega) (trivial) ?_
        show xEx G0 cdX12_keeps (some .boolean) (xRn G0 MT (d + 1)) Q b 39 [some (.inr (.inr 66)), some (.inl c1), some (.inl c2), some (.inl (oth c1 c3)), some (.inl (h0 9 15)), some (.inl r2), none] [] (xup h1 76 r2 ((h1 76 r2) + 1))
        refine E_s 4 (i' := 43) (ls' := [some (.inr (.inr 66)), some (.inl c1), some (.inl c2), some (.inl (oth c1 c3)), some (.inl (h0 9 15)), some (.inl r2), none]) (sk' := [.inl 0, .inr (.inr 89), .inl 0, .inr (.inr 89)]) (h' := (xup h1 76 r2 ((h1 76 r2) + 1))) rfl ?_
        refine E_ld (x := (.iaload, 0, [], [])) (ty := .int) (n := 2) rfl rfl rfl (by omega) (by omega) ?_
        show xEx G0 cdX12_keeps (some .boolean) (xRn G0 MT (d + 1)) Q b 44 [some (.inr (.inr 66)), some (.inl c1), some (.inl c2), some (.inl (oth c1 c3)), some (.inl (h0 9 15)), some (.inl r2), none] [.inl (h1 89 0), .inl 0, .inr (.inr 89)] (xup h1 76 r2 ((h1 76 r2) + 1))
        refine E_s 2 (i' := 46) (ls' := [some (.inr (.inr 66)), some (.inl c1), some (.inl c2), some (.inl (oth c1 c3)), some (.inl (h0 9 15)), some (.inl r2), none]) (sk' := [.inl ((h1 89 0) + 1), .inl 0, .inr (.inr 89)]) (h' := (xup h1 76 r2 ((h1 76 r2) + 1))) rfl ?_
        refine E_sd (x := (.iastore, 0, [], [])) (ty := .int) (n := 2) (y := ((h1 89 0) + 1)) rfl rfl rfl (by omega) (by omega) (trivial) ?_
        show xEx G0 cdX12_keeps (some .boolean) (xRn G0 MT (d + 1)) Q b 47 [some (.inr (.inr 66)), some (.inl c1), some (.inl c2), some (.inl (oth c1 c3)), some (.inl (h0 9 15)), some (.inl r2), none] [] (xup (xup h1 76 r2 ((h1 76 r2) + 1)) 89 0 ((h1 89 0) + 1))
        refine E_s 1 (i' := 48) (ls' := [some (.inr (.inr 66)), some (.inl c1), some (.inl c2), some (.inl (oth c1 c3)), some (.inl (h0 9 15)), some (.inl r2), none]) (sk' := [.inl 1]) (h' := (xup (xup h1 76 r2 ((h1 76 r2) + 1)) 89 0 ((h1 89 0) + 1))) rfl ?_
        exact E_ret (x := (.ireturn, 0, [], [])) (v := some (.inl 1)) rfl (Or.inr ⟨rfl, Or.inr rfl⟩) (by
          unfold offP at hQ
          rw [offE_m ho h3 hfr (by omega)] at hQ
          have hS4 : mrgS (mad S) r2 c1 c2 c3 0 4 = 0 := by unfold mrgS; split <;> exact ho
          rw [hS4] at hQ
          have hS3 : mrgS (mad S) r2 c1 c2 c3 0 3 = S 0 3 - 1 := (mrg_0 S r2 c1 c2 c3 (by decide)).trans rfl
          have hS2 : mrgS (mad S) r2 c1 c2 c3 0 2 = S 0 2 + 1 := (mrg_0 S r2 c1 c2 c3 (by decide)).trans rfl
          have key := RR_m (h := h1) (S := S) (c1 := c1) (c2 := c2) (c3 := c3) hR1 ⟨hq1.1, hq1.2.1⟩
          rw [if_neg cb15] at key
          refine hQ _ ⟨key, ?_, ?_, ?_⟩ (FR.up (FR.up hF1 (by omega)) (by omega))
          · rw [hS3, ← hl1]; rfl
          · rw [hS2, ← hmk1]; rfl
          · rw [hS4, ← hwh1]; rfl)
      · rw [c_ne (by first | exact ⟨by omega, by omega⟩ | (rw [hm7]; exact ⟨by omega, by omega⟩)) (by first | exact ⟨by omega, by omega⟩ | (rw [hm7]; exact ⟨by omega, by omega⟩))] at cb15
        simp only [decide_eq_true_eq, decide_eq_false_iff_not, Decidable.not_not] at cb15
        show xEx G0 cdX12_keeps (some .boolean) (xRn G0 MT (d + 1)) Q b 16 [some (.inr (.inr 66)), some (.inl c1), some (.inl c2), some (.inl (oth c1 c3)), some (.inl (h0 9 15)), some (.inl r2), none] [] h1
        refine E_s 4 (i' := 20) (ls' := [some (.inr (.inr 66)), some (.inl c1), some (.inl c2), some (.inl (oth c1 c3)), some (.inl (h0 9 15)), some (.inl r2), none]) (sk' := [.inl c1, .inl r2, .inr (.inr 72)]) (h' := h1) rfl ?_
        refine E_sd (x := (.iastore, 0, [], [])) (ty := .int) (n := 300) (y := c1) rfl rfl rfl (by omega) (by omega) (trivial) ?_
        show xEx G0 cdX12_keeps (some .boolean) (xRn G0 MT (d + 1)) Q b 21 [some (.inr (.inr 66)), some (.inl c1), some (.inl c2), some (.inl (oth c1 c3)), some (.inl (h0 9 15)), some (.inl r2), none] [] (xup h1 72 r2 c1)
        refine E_s 4 (i' := 25) (ls' := [some (.inr (.inr 66)), some (.inl c1), some (.inl c2), some (.inl (oth c1 c3)), some (.inl (h0 9 15)), some (.inl r2), none]) (sk' := [.inl c2, .inl r2, .inr (.inr 73)]) (h' := (xup h1 72 r2 c1)) rfl ?_
        refine E_sd (x := (.iastore, 0, [], [])) (ty := .int) (n := 300) (y := c2) rfl rfl rfl (by omega) (by omega) (trivial) ?_
        show xEx G0 cdX12_keeps (some .boolean) (xRn G0 MT (d + 1)) Q b 26 [some (.inr (.inr 66)), some (.inl c1), some (.inl c2), some (.inl (oth c1 c3)), some (.inl (h0 9 15)), some (.inl r2), none] [] (xup (xup h1 72 r2 c1) 73 r2 c2)
        refine E_s 4 (i' := 30) (ls' := [some (.inr (.inr 66)), some (.inl c1), some (.inl c2), some (.inl (oth c1 c3)), some (.inl (h0 9 15)), some (.inl r2), none]) (sk' := [.inl (oth c1 c3), .inl r2, .inr (.inr 74)]) (h' := (xup (xup h1 72 r2 c1) 73 r2 c2)) rfl ?_
        refine E_sd (x := (.iastore, 0, [], [])) (ty := .int) (n := 300) (y := (oth c1 c3)) rfl rfl rfl (by omega) (by omega) (trivial) ?_
        show xEx G0 cdX12_keeps (some .boolean) (xRn G0 MT (d + 1)) Q b 31 [some (.inr (.inr 66)), some (.inl c1), some (.inl c2), some (.inl (oth c1 c3)), some (.inl (h0 9 15)), some (.inl r2), none] [] (xup (xup (xup h1 72 r2 c1) 73 r2 c2) 74 r2 (oth c1 c3))
        refine E_s 4 (i' := 35) (ls' := [some (.inr (.inr 66)), some (.inl c1), some (.inl c2), some (.inl (oth c1 c3)), some (.inl (h0 9 15)), some (.inl r2), none]) (sk' := [.inl r2, .inr (.inr 76), .inl r2, .inr (.inr 76)]) (h' := (xup (xup (xup h1 72 r2 c1) 73 r2 c2) 74 r2 (oth c1 c3))) rfl ?_
        refine E_ld (x := (.iaload, 0, [], [])) (ty := .int) (n := 300) rfl rfl rfl (by omega) (by omega) ?_
        show xEx G0 cdX12_keeps (some .boolean) (xRn G0 MT (d + 1)) Q b 36 [some (.inr (.inr 66)), some (.inl c1), some (.inl c2), some (.inl (oth c1 c3)), some (.inl (h0 9 15)), some (.inl r2), none] [.inl (h1 76 r2), .inl r2, .inr (.inr 76)] (xup (xup (xup h1 72 r2 c1) 73 r2 c2) 74 r2 (oth c1 c3))
        refine E_s 2 (i' := 38) (ls' := [some (.inr (.inr 66)), some (.inl c1), some (.inl c2), some (.inl (oth c1 c3)), some (.inl (h0 9 15)), some (.inl r2), none]) (sk' := [.inl ((h1 76 r2) + 1), .inl r2, .inr (.inr 76)]) (h' := (xup (xup (xup h1 72 r2 c1) 73 r2 c2) 74 r2 (oth c1 c3))) rfl ?_
        refine E_sd (x := (.iastore, 0, [], [])) (ty := .int) (n := 300) (y := ((h1 76 r2) + 1)) rfl rfl rfl (by omega) (by omega) (trivial) ?_
        show xEx G0 cdX12_keeps (some .boolean) (xRn G0 MT (d + 1)) Q b 39 [some (.inr (.inr 66)), some (.inl c1), some (.inl c2), some (.inl (oth c1 c3)), some (.inl (h0 9 15)), some (.inl r2), none] [] (xup (xup (xup (xup h1 72 r2 c1) 73 r2 c2) 74 r2 (oth c1 c3)) 76 r2 ((h1 76 r2) + 1))
        refine E_s 4 (i' := 43) (ls' := [some (.inr (.inr 66)), some (.inl c1), some (.inl c2), some (.inl (oth c1 c3)), some (.inl (h0 9 15)), some (.inl r2), none]) (sk' := [.inl 0, .inr (.inr 89), .inl 0, .inr (.inr 89)]) (h' := (xup (xup (xup (xup h1 72 r2 c1) 73 r2 c2) 74 r2 (oth c1 c3)) 76 r2 ((h1 76 r2) + 1))) rfl ?_
        refine E_ld (x := (.iaload, 0, [], [])) (ty := .int) (n := 2) rfl rfl rfl (by omega) (by omega) ?_
        show xEx G0 cdX12_keeps (some .boolean) (xRn G0 MT (d + 1)) Q b 44 [some (.inr (.inr 66)), some (.inl c1), some (.inl c2), some (.inl (oth c1 c3)), some (.inl (h0 9 15)), some (.inl r2), none] [.inl (h1 89 0), .inl 0, .inr (.inr 89)] (xup (xup (xup (xup h1 72 r2 c1) 73 r2 c2) 74 r2 (oth c1 c3)) 76 r2 ((h1 76 r2) + 1))
        refine E_s 2 (i' := 46) (ls' := [some (.inr (.inr 66)), some (.inl c1), some (.inl c2), some (.inl (oth c1 c3)), some (.inl (h0 9 15)), some (.inl r2), none]) (sk' := [.inl ((h1 89 0) + 1), .inl 0, .inr (.inr 89)]) (h' := (xup (xup (xup (xup h1 72 r2 c1) 73 r2 c2) 74 r2 (oth c1 c3)) 76 r2 ((h1 76 r2) + 1))) rfl ?_
        refine E_sd (x := (.iastore, 0, [], [])) (ty := .int) (n := 2) (y := ((h1 89 0) + 1)) rfl rfl rfl (by omega) (by omega) (trivial) ?_
        show xEx G0 cdX12_keeps (some .boolean) (xRn G0 MT (d + 1)) Q b 47 [some (.inr (.inr 66)), some (.inl c1), some (.inl c2), some (.inl (oth c1 c3)), some (.inl (h0 9 15)), some (.inl r2), none] [] (xup (xup (xup (xup (xup h1 72 r2 c1) 73 r2 c2) 74 r2 (oth c1 c3)) 76 r2 ((h1 76 r2) + 1)) 89 0 ((h1 89 0) + 1))
        refine E_s 1 (i' := 48) (ls' := [some (.inr (.inr 66)), some (.inl c1), some (.inl c2), some (.inl (oth c1 c3)), some (.inl (h0 9 15)), some (.inl r2), none]) (sk' := [.inl 1]) (h' := (xup (xup (xup (xup (xup h1 72 r2 c1) 73 r2 c2) 74 r2 (oth c1 c3)) 76 r2 ((h1 76 r2) + 1)) 89 0 ((h1 89 0) + 1))) rfl ?_
        exact E_ret (x := (.ireturn, 0, [], [])) (v := some (.inl 1)) rfl (Or.inr ⟨rfl, Or.inr rfl⟩) (by
          unfold offP at hQ
          rw [offE_m ho h3 hfr (by omega)] at hQ
          have hS4 : mrgS (mad S) r2 c1 c2 c3 0 4 = 0 := by unfold mrgS; split <;> exact ho
          rw [hS4] at hQ
          have hS3 : mrgS (mad S) r2 c1 c2 c3 0 3 = S 0 3 - 1 := (mrg_0 S r2 c1 c2 c3 (by decide)).trans rfl
          have hS2 : mrgS (mad S) r2 c1 c2 c3 0 2 = S 0 2 + 1 := (mrg_0 S r2 c1 c2 c3 (by decide)).trans rfl
          have key := RR_m (h := h1) (S := S) (c1 := c1) (c2 := c2) (c3 := c3) hR1 ⟨hq1.1, hq1.2.1⟩
          rw [if_pos cb15] at key
          refine hQ _ ⟨key, ?_, ?_, ?_⟩ (FR.up (FR.up (FR.up (FR.up (FR.up hF1 (by omega)) (by omega)) (by omega)) (by omega)) (by omega))
          · rw [hS3, ← hl1]; rfl
          · rw [hS2, ← hmk1]; rfl
          · rw [hS4, ← hwh1]; rfl)
  · rw [c_ne (by rcases hq with hq | hq <;> exact ⟨by omega, by omega⟩) (by rcases hq with hq | hq <;> exact ⟨by omega, by omega⟩)] at cb2
    simp only [decide_eq_true_eq, decide_eq_false_iff_not, Decidable.not_not] at cb2
    show xEx G0 cdX12_keeps (some .boolean) (xRn G0 MT (d + 1)) Q b 3 [some (.inr (.inr 66)), some (.inl c1), some (.inl c2), some (.inl (oth c1 c3)), some (.inl (h0 9 15)), none, none] [] h1
    refine E_s 1 (i' := 4) (ls' := [some (.inr (.inr 66)), some (.inl c1), some (.inl c2), some (.inl (oth c1 c3)), some (.inl (h0 9 15)), none, none]) (sk' := [.inl 0]) (h' := h1) rfl ?_
    exact E_ret (x := (.ireturn, 0, [], [])) (v := some (.inl 0)) rfl (Or.inr ⟨rfl, Or.inl rfl⟩) (by
      have hx : h 66 35 = 0 ∧ h1 = xup h 66 36 2 := by
        rcases hq with ⟨q1, q2, q3⟩ | ⟨q1, q2, q3⟩
        · exact ⟨q2, q3⟩
        · omega
      unfold offP at hQ
      rw [offE_b ho (by rw [← m1]; exact hx.1)] at hQ
      refine hQ h1 ⟨?_, ?_, ?_, ?_⟩ (by rw [hx.2]; exact FR.up (FR.rf h) (by decide))
      · rw [hx.2]; exact hR
      · rw [hx.2]; exact m1
      · rw [hx.2]; exact m2
      · rw [hx.2]; rfl)
