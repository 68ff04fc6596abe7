/-! the reference's GROWTH of TESTS -/
def otT (c1 c3 : Int) : Int := if c1 = 2 then -1 else c3
def RRT (h T : xH) : Prop := h 66 19 = T 0 0 ∧ h 89 1 = T 0 1 ∧ h 66 33 = T 0 5 ∧ (∀ k, 0 ≤ k → k < T 0 0 → h 79 k = T 1 k ∧ h 80 k = T 2 k ∧ h 81 k = otT (T 1 k) (T 3 k) ∧ h 85 k = T 4 k ∧ h 87 k = T 6 k ∧ h 86 k = T 7 k ∧ (T 7 k ≠ 0 → h 82 k = T 8 k ∧ h 83 k = T 9 k ∧ h 84 k = otT (T 8 k) (T 10 k)))
def RMT (M0 : Int) (h T : xH) : Prop := RRT h T ∧ h 66 35 = T 0 3 ∧ h 66 37 + M0 = T 0 2 ∧ h 66 36 = T 0 4
def FRT (h h' : xH) : Prop := (∀ a, (a < 66 ∨ (66 < a ∧ a < 79) ∨ (87 < a ∧ a ≠ 89)) → h' a = h a) ∧ (∀ j, j ≠ 19 → j ≠ 33 → j ≠ 35 → j ≠ 36 → j ≠ 37 → h' 66 j = h 66 j) ∧ h' 89 0 = h 89 0
theorem FRT.rf (h : xH) : FRT h h := ⟨fun _ _ => rfl, fun _ _ _ _ _ _ => rfl, rfl⟩
theorem FRT.tr {h1 h2 h3 : xH} (a : FRT h1 h2) (b : FRT h2 h3) : FRT h1 h3 := ⟨fun x hx => (b.1 x hx).trans (a.1 x hx), fun j q0 q1 q2 q3 q4 => (b.2.1 j q0 q1 q2 q3 q4).trans (a.2.1 j q0 q1 q2 q3 q4), b.2.2.trans a.2.2⟩
theorem FRT.up {h h' : xH} (f : FRT h h') {a : Nat} {j z : Int} (ha : (a = 66 ∧ (j = 19 ∨ j = 33 ∨ j = 35 ∨ j = 36 ∨ j = 37)) ∨ (79 ≤ a ∧ a ≤ 87) ∨ (a = 89 ∧ j ≠ 0)) : FRT h (xup h' a j z) := by
  refine ⟨fun x hx => ?_, fun i q0 q1 q2 q3 q4 => ?_, ?_⟩
  · rw [← f.1 x hx]
    exact xup_o h' a j z x (by omega)
  · rw [← f.2.1 i q0 q1 q2 q3 q4]
    by_cases e : a = 66
    · subst e
      rw [xup_j (by omega)]
    · rw [xup_a (fun z => e z.symm)]
  · rw [← f.2.2]
    by_cases e : a = 89
    · subst e
      rw [xup_j (by omega)]
    · rw [xup_a (fun z => e z.symm)]
/-- the reference has the same EXPRESSIONS -/
def RET (h0 h : xH) : Prop := h 66 4 = h0 1 2 ∧ h 66 8 = h0 9 9 ∧ (∀ k e, 0 ≤ k → k < h0 9 9 → 0 ≤ e → e < h0 1 2 → h 77 (12 * k + e) = h0 24 (k * 12 + e)) ∧ (∀ k, 0 ≤ k → k < h0 9 9 → h 75 k = h0 18 k)
theorem RET_of {h0 h h' : xH} (f : FRT h h') (e : RET h0 h) : RET h0 h' := by
  obtain ⟨f1, f2, f3⟩ := f
  unfold RET
  rw [f2 4 (by decide) (by decide) (by decide) (by decide) (by decide), f2 8 (by decide) (by decide) (by decide) (by decide) (by decide), f1 77 (by decide), f1 75 (by decide)]
  exact e
theorem RRT_m {h T : xH} {r c1 c2 c3 : Int} (hR : RRT h T) (hr : 0 ≤ r ∧ r < T 0 0) : RRT (xup (xup (if h 86 r = 0 then xup (xup (xup h 82 r c1) 83 r c2) 84 r (otT c1 c3) else h) 86 r (h 86 r + 1)) 89 1 (h 89 1 + 1)) (mrgS (mad T) r c1 c2 c3) := by
  obtain ⟨a1, a2, a5, a3⟩ := hR
  have h7 : h 86 r = T 7 r := (a3 r hr.1 hr.2).2.2.2.2.2.1
  have e00 : mrgS (mad T) r c1 c2 c3 0 0 = T 0 0 := (mrg_0 T r c1 c2 c3 (by decide)).trans rfl
  have e05 : mrgS (mad T) r c1 c2 c3 0 5 = T 0 5 := (mrg_0 T r c1 c2 c3 (by decide)).trans rfl
  have e01 : mrgS (mad T) r c1 c2 c3 0 1 = T 0 1 + 1 := by unfold mrgS; rw [xup_s]; rfl
  have hh : ∀ (a : Nat) (j : Int), a ≠ 82 → a ≠ 83 → a ≠ 84 → (if h 86 r = 0 then xup (xup (xup h 82 r c1) 83 r c2) 84 r (otT c1 c3) else h) a j = h a j := by
    intro a j q1 q2 q3
    split
    · simp [xup, q1, q2, q3]
    · rfl
  refine ⟨?_, ?_, ?_, fun k hk0 hk9 => ?_⟩
  · rw [e00, ← a1, xup_a (by decide), xup_a (by decide), hh _ _ (by decide) (by decide) (by decide)]
  · rw [e01, ← a2, xup_s]
  · rw [e05, ← a5, xup_a (by decide), xup_a (by decide), hh _ _ (by decide) (by decide) (by decide)]
  · rw [e00] at hk9
    obtain ⟨b1, b2, b3, b4, b5, b6, b7⟩ := a3 k hk0 hk9
    rw [mrg_o T r c1 c2 c3 k (a := 1) (by decide) (by decide) (by decide) (by decide) (by decide), mrg_o T r c1 c2 c3 k (a := 2) (by decide) (by decide) (by decide) (by decide) (by decide), mrg_o T r c1 c2 c3 k (a := 3) (by decide) (by decide) (by decide) (by decide) (by decide), mrg_o T r c1 c2 c3 k (a := 4) (by decide) (by decide) (by decide) (by decide) (by decide), mrg_o T r c1 c2 c3 k (a := 6) (by decide) (by decide) (by decide) (by decide) (by decide), mrg_7]
    obtain ⟨q1, q2, q3⟩ := mrg_f T r c1 c2 c3 k
    rw [q1, q2, q3]
    refine ⟨?_, ?_, ?_, ?_, ?_, ?_, fun hne => ?_⟩
    · rw [xup_a (by decide), xup_a (by decide), hh _ _ (by decide) (by decide) (by decide)]; exact b1
    · rw [xup_a (by decide), xup_a (by decide), hh _ _ (by decide) (by decide) (by decide)]; exact b2
    · rw [xup_a (by decide), xup_a (by decide), hh _ _ (by decide) (by decide) (by decide)]; exact b3
    · rw [xup_a (by decide), xup_a (by decide), hh _ _ (by decide) (by decide) (by decide)]; exact b4
    · rw [xup_a (by decide), xup_a (by decide), hh _ _ (by decide) (by decide) (by decide)]; exact b5
    · rw [xup_a (by decide)]
      by_cases e : k = r
      · subst e; rw [xup_s, if_pos rfl, h7]
      · rw [xup_j e, if_neg e, hh _ _ (by decide) (by decide) (by decide)]; exact b6
    · rw [xup_a (by decide), xup_a (by decide), xup_a (by decide), xup_a (by decide), xup_a (by decide), xup_a (by decide)]
      by_cases hm0 : T 7 r = 0
      · rw [if_pos (show h 86 r = 0 by rw [h7]; exact hm0)]
        by_cases e : k = r
        · subst e
          rw [if_pos ⟨rfl, hm0⟩, if_pos ⟨rfl, hm0⟩, if_pos ⟨rfl, hm0⟩]
          simp [xup]
        · rw [if_neg (fun z => e z.1), if_neg (fun z => e z.1), if_neg (fun z => e z.1)]
          rw [if_neg e] at hne
          simp [xup, e]
          exact b7 hne
      · rw [if_neg (show ¬ h 86 r = 0 by rw [h7]; exact hm0), if_neg (fun z => hm0 z.2), if_neg (fun z => hm0 z.2), if_neg (fun z => hm0 z.2)]
        refine b7 ?_
        by_cases e : k = r
        · rw [e]; exact hm0
        · rw [if_neg e] at hne; exact hne
theorem RRT_a {h T : xH} {sz c1 c2 c3 us v : Int} (hR : RRT h T) (hK : 0 ≤ T 0 0) : RRT (xup (xup (xup (xup (xup (xup (xup h 79 (h 66 19) c1) 80 (h 66 19) c2) 81 (h 66 19) (otT c1 c3)) 85 (h 66 19) sz) 86 (h 66 19) 0) 87 (h 66 19) v) 66 19 (h 66 19 + 1)) (put0 T sz c1 c2 c3 v us) := by
  obtain ⟨a1, a2, a5, a3⟩ := hR
  refine ⟨?_, a2, a5, fun k hk0 hk9 => ?_⟩
  · show h 66 19 + 1 = T 0 0 + 1
    rw [a1]
  · have hk99 : k < T 0 0 + 1 := hk9
    simp only [a1]
    by_cases e : k = T 0 0
    · subst e
      simp [xup, put0]
    · obtain ⟨b1, b2, b3, b4, b5, b6, b7⟩ := a3 k hk0 (by omega)
      simp only [xup, put0, e, if_false]
      simp
      exact ⟨b1, b2, b3, b4, b5, b6, b7⟩
set_option maxHeartbeats 1000000 in
theorem m_all (d b : Nat) (h : xH) {Q : xO → xH → Prop} (hQ : Q (.inl (some (.inl (xshl 1 (h 66 4) - 1)))) h) : xRn G0 MT (d + 1) b 156 [.inr (.inr 66)] h Q := by
  refine R_of (M := mX12_all) rfl (Nat.le_of_ble_eq_true rfl) ?_
  show xEx G0 cdX12_all (some .int) (xRn G0 MT d) Q b 0 [some (.inr (.inr 66))] [] h
  refine E_s 6 (i' := 6) (ls' := [some (.inr (.inr 66))]) (sk' := [.inl ((xshl 1 (h 66 4)) - 1)]) (h' := h) rfl ?_
  exact E_ret (x := (.ireturn, 0, [], [])) (v := some (.inl ((xshl 1 (h 66 4)) - 1))) rfl (Or.inl rfl) (hQ)
set_option maxHeartbeats 1000000 in
theorem r_keepsTest (d b : Nat) (M0 : Int) (h0 h T : xH) (c1 c2 c3 : Int) (hB : BT h0) (hE : RET h0 h) (hRM : RMT M0 h T) (hW : WT (h0 1 2) T) (ho : T 0 4 = 0) (hc : okt h0 T c1 c2 c3) {Q : xO → xH → Prop} (hQ : ∀ h', RMT M0 h' (offT h0 T c1 c2 c3) → FRT h h' → Q (.inl (some (.inl (if offT h0 T c1 c2 c3 0 4 = 0 then 1 else 0)))) h') : xRn G0 MT (d + 2) b 184 [.inr (.inr 66), .inl c1, .inl c2, .inl (otT c1 c3), .inl (h0 28 15), .inl (oT h0 T c1 c2 c3)] h Q := by
  refine R_of (M := mX12_keepsTest) rfl (Nat.le_of_ble_eq_true rfl) ?_
  show xEx G0 cdX12_keepsTest (some .boolean) (xRn G0 MT (d + 1)) Q b 0 [some (.inr (.inr 66)), some (.inl c1), some (.inl c2), some (.inl (otT c1 c3)), some (.inl (h0 28 15)), some (.inl (oT h0 T c1 c2 c3)), none] [] h
  have hR := hRM.1
  have m1 := hRM.2.1
  have m2 := hRM.2.2.1
  have m3 := hRM.2.2.2
  have hn := hB.1
  have hov := oT_r hB hW hc
  have hpw := pw31 hn.2
  obtain ⟨w1, w2, w3, w4, w5, w6, w7, w8, w9, w10, w11, w12, w13, w14⟩ := hW
  refine E_s 1 (i' := 1) (ls' := [some (.inr (.inr 66)), some (.inl c1), some (.inl c2), some (.inl (otT c1 c3)), some (.inl (h0 28 15)), some (.inl (oT h0 T c1 c2 c3)), none]) (sk' := [.inr (.inr 66)]) (h' := h) rfl ?_
  refine E_cp (x := (.invokevirtual 223, 0, [(10, 176)], [0])) (q := fun r h9 => (r = 0 ∧ h 66 35 = 0 ∧ h9 = xup h 66 36 2) ∨ (r = 1 ∧ h 66 35 ≠ 0 ∧ h9 = xup (xup h 66 35 (h 66 35 - 1)) 66 37 (h 66 37 + 1))) rfl rfl (Nat.le_of_ble_eq_true rfl) (r_may d 0 h (by rw [m1]; exact ⟨w9, w10⟩) (fun z => ⟨0, rfl, Or.inl ⟨rfl, z, rfl⟩⟩) (fun z => ⟨1, rfl, Or.inr ⟨rfl, z, rfl⟩⟩)) (fun r h1 hq => ?_)
  show xEx G0 cdX12_keepsTest (some .boolean) (xRn G0 MT (d + 1)) Q b 2 [some (.inr (.inr 66)), some (.inl c1), some (.inl c2), some (.inl (otT c1 c3)), some (.inl (h0 28 15)), some (.inl (oT h0 T c1 c2 c3)), none] [.inl r] h1
  refine E_b (x := (.ifCond .ne 5, 5, [], [])) rfl rfl (fun cb2 => ?_) (fun cb2 => ?_)
  · rw [c_ne (by rcases hq with hq | hq <;> exact ⟨by omega, by omega⟩) (by rcases hq with hq | hq <;> exact ⟨by omega, by omega⟩)] at cb2
    simp only [decide_eq_true_eq, decide_eq_false_iff_not, Decidable.not_not] at cb2
    show xEx G0 cdX12_keepsTest (some .boolean) (xRn G0 MT (d + 1)) Q b 5 [some (.inr (.inr 66)), some (.inl c1), some (.inl c2), some (.inl (otT c1 c3)), some (.inl (h0 28 15)), some (.inl (oT h0 T c1 c2 c3)), none] [] h1
    have hx : h 66 35 ≠ 0 ∧ h1 = xup (xup h 66 35 (h 66 35 - 1)) 66 37 (h 66 37 + 1) := by
      rcases hq with ⟨q1, q2, q3⟩ | ⟨q1, q2, q3⟩
      · exact absurd q1 cb2
      · exact ⟨q2, q3⟩
    have h3 : T 0 3 ≠ 0 := by rw [← m1]; exact hx.1
    have hR1 : RRT h1 T := by rw [hx.2]; exact hR
    have hl1 : h1 66 35 = T 0 3 - 1 := by rw [hx.2, ← m1]; rfl
    have hmk1 : h1 66 37 + M0 = T 0 2 + 1 := by rw [hx.2, ← m2]; show h 66 37 + 1 + M0 = _; omega
    have hwh1 : h1 66 36 = 0 := by rw [hx.2, ← ho, ← m3]; rfl
    have hF1 : FRT h h1 := by rw [hx.2]; exact FRT.up (FRT.up (FRT.rf h) (by omega)) (by omega)
    have hex1 : h1 66 4 = h0 1 2 := by rw [hx.2]; exact hE.1
    have hK1 : h1 66 19 = T 0 0 := hR1.1
    have hal := all_e hn.1 hn.2
    refine E_s 1 (i' := 6) (ls' := [some (.inr (.inr 66)), some (.inl c1), some (.inl c2), some (.inl (otT c1 c3)), some (.inl (h0 28 15)), some (.inl (oT h0 T c1 c2 c3)), none]) (sk' := [.inl (oT h0 T c1 c2 c3)]) (h' := h1) rfl ?_
    refine E_b (x := (.ifCond .eq 12, 11, [], [])) rfl rfl (fun cb6 => ?_) (fun cb6 => ?_)
    · rw [c_eq ⟨by omega, by omega⟩ ⟨by omega, by omega⟩] at cb6
      simp only [decide_eq_true_eq, decide_eq_false_iff_not, Decidable.not_not] at cb6
      show xEx G0 cdX12_keepsTest (some .boolean) (xRn G0 MT (d + 1)) Q b 11 [some (.inr (.inr 66)), some (.inl c1), some (.inl c2), some (.inl (otT c1 c3)), some (.inl (h0 28 15)), some (.inl (oT h0 T c1 c2 c3)), none] [] h1
      refine E_s 7 (i' := 18) (ls' := [some (.inr (.inr 66)), some (.inl c1), some (.inl c2), some (.inl (otT c1 c3)), some (.inl (h0 28 15)), some (.inl (oT h0 T c1 c2 c3)), none]) (sk' := [.inl 1]) (h' := (xup h1 66 33 ((h1 66 33) + 1))) rfl ?_
      exact E_ret (x := (.ireturn, 0, [], [])) (v := some (.inl 1)) rfl (Or.inr ⟨rfl, Or.inr rfl⟩) (by
        rw [offT_i ho h3 (by omega)] at hQ
        have hS4 : xup (mad T) 0 5 (T 0 5 + 1) 0 4 = 0 := ho
        rw [hS4] at hQ
        obtain ⟨b1, b2, b3, b4⟩ := hR1
        refine hQ _ ⟨⟨b1, b2, ?_, b4⟩, hl1, hmk1, ?_⟩ (FRT.up hF1 (by omega))
        · show h1 66 33 + 1 = T 0 5 + 1
          rw [b3]
        · show h1 66 36 = T 0 4
          rw [hwh1, ho])
    · rw [c_eq ⟨by omega, by omega⟩ ⟨by omega, by omega⟩] at cb6
      simp only [decide_eq_true_eq, decide_eq_false_iff_not, Decidable.not_not] at cb6
      show xEx G0 cdX12_keepsTest (some .boolean) (xRn G0 MT (d + 1)) Q b 7 [some (.inr (.inr 66)), some (.inl c1), some (.inl c2), some (.inl (otT c1 c3)), some (.inl (h0 28 15)), some (.inl (oT h0 T c1 c2 c3)), none] [] h1
      refine E_s 2 (i' := 9) (ls' := [some (.inr (.inr 66)), some (.inl c1), some (.inl c2), some (.inl (otT c1 c3)), some (.inl (h0 28 15)), some (.inl (oT h0 T c1 c2 c3)), none]) (sk' := [.inr (.inr 66), .inl (oT h0 T c1 c2 c3)]) (h' := h1) rfl ?_
      refine E_ci (x := (.invokevirtual 257, 0, [(10, 156)], [0])) (r := (xshl 1 (h0 1 2) - 1)) (h' := h1) rfl rfl (Nat.le_of_ble_eq_true rfl) (m_all d 0 h1 ⟨by rw [hex1], rfl⟩) ?_
      show xEx G0 cdX12_keepsTest (some .boolean) (xRn G0 MT (d + 1)) Q b 10 [some (.inr (.inr 66)), some (.inl c1), some (.inl c2), some (.inl (otT c1 c3)), some (.inl (h0 28 15)), some (.inl (oT h0 T c1 c2 c3)), none] [.inl (xshl 1 (h0 1 2) - 1), .inl (oT h0 T c1 c2 c3)] h1
      refine E_b (x := (.if_icmp .ne 15, 19, [], [])) rfl rfl (fun cb10 => ?_) (fun cb10 => ?_)
      · rw [c_ne ⟨by omega, by omega⟩ ⟨by omega, by omega⟩] at cb10
        simp only [decide_eq_true_eq, decide_eq_false_iff_not, Decidable.not_not] at cb10
        show xEx G0 cdX12_keepsTest (some .boolean) (xRn G0 MT (d + 1)) Q b 19 [some (.inr (.inr 66)), some (.inl c1), some (.inl c2), some (.inl (otT c1 c3)), some (.inl (h0 28 15)), some (.inl (oT h0 T c1 c2 c3)), none] [] h1
        have hni : ¬ ((oT h0 T c1 c2 c3) = 0 ∨ (oT h0 T c1 c2 c3) = xshl 1 (h0 1 2) - 1) := by omega
        refine E_s 2 (i' := 21) (ls' := [some (.inr (.inr 66)), some (.inl c1), some (.inl c2), some (.inl (otT c1 c3)), some (.inl (h0 28 15)), some (.inl (oT h0 T c1 c2 c3)), some (.inl 0)]) (sk' := []) (h' := h1) rfl ?_
        have key21 : ∀ (n : Nat) (t : Int), (0 ≤ t) → (t ≤ T 0 0) → (∀ j, 0 ≤ j → j < t → T 6 j ≠ (oT h0 T c1 c2 c3)) → ((T 0 0 - t).toNat) < n → xEx G0 cdX12_keepsTest (some .boolean) (xRn G0 MT (d + 1)) Q b 21 [some (.inr (.inr 66)), some (.inl c1), some (.inl c2), some (.inl (otT c1 c3)), some (.inl (h0 28 15)), some (.inl (oT h0 T c1 c2 c3)), some (.inl t)] [] h1 := by
          intro n
          induction n with
          | zero => intro t _ _ _ hm; exact absurd hm (Nat.not_lt_zero _)
          | succ n ih21 =>
            intro t ht0 ht9 hno hm21
            refine E_s 3 (i' := 24) (ls' := [some (.inr (.inr 66)), some (.inl c1), some (.inl c2), some (.inl (otT c1 c3)), some (.inl (h0 28 15)), some (.inl (oT h0 T c1 c2 c3)), some (.inl t)]) (sk' := [.inl (h1 66 19), .inl t]) (h' := h1) rfl ?_
            refine E_b (x := (.if_icmp .ge 81, 72, [], [])) rfl rfl (fun cb24 => ?_) (fun cb24 => ?_)
            · rw [c_ge (by first | exact ⟨by omega, by omega⟩ | (rw [hK1]; exact ⟨by omega, by omega⟩)) (by first | exact ⟨by omega, by omega⟩ | (rw [hK1]; exact ⟨by omega, by omega⟩))] at cb24
              simp only [decide_eq_true_eq, decide_eq_false_iff_not, Decidable.not_not] at cb24
              show xEx G0 cdX12_keepsTest (some .boolean) (xRn G0 MT (d + 1)) Q b 72 [some (.inr (.inr 66)), some (.inl c1), some (.inl c2), some (.inl (otT c1 c3)), some (.inl (h0 28 15)), some (.inl (oT h0 T c1 c2 c3)), some (.inl t)] [] h1
              have hfn : fnd (fun k => T 6 k = (oT h0 T c1 c2 c3)) (T 0 0).toNat = -1 := fnd_no (fun k z1 z2 => hno k z1 (by omega))
              refine E_s 3 (i' := 75) (ls' := [some (.inr (.inr 66)), some (.inl c1), some (.inl c2), some (.inl (otT c1 c3)), some (.inl (h0 28 15)), some (.inl (oT h0 T c1 c2 c3)), some (.inl t)]) (sk' := [.inl 150, .inl (h1 66 19)]) (h' := h1) rfl ?_
              refine E_b (x := (.if_icmp .ne 10, 81, [], [])) rfl rfl (fun cb75 => ?_) (fun cb75 => ?_)
              · rw [c_ne (by first | exact ⟨by omega, by omega⟩ | (rw [hK1]; exact ⟨by omega, by omega⟩)) (by first | exact ⟨by omega, by omega⟩ | (rw [hK1]; exact ⟨by omega, by omega⟩))] at cb75
                simp only [decide_eq_true_eq, decide_eq_false_iff_not, Decidable.not_not] at cb75
                show xEx G0 cdX12_keepsTest (some .boolean) (xRn G0 MT (d + 1)) Q b 81 [some (.inr (.inr 66)), some (.inl c1), some (.inl c2), some (.inl (otT c1 c3)), some (.inl (h0 28 15)), some (.inl (oT h0 T c1 c2 c3)), some (.inl t)] [] h1
                refine E_s 5 (i' := 86) (ls' := [some (.inr (.inr 66)), some (.inl c1), some (.inl c2), some (.inl (otT c1 c3)), some (.inl (h0 28 15)), some (.inl (oT h0 T c1 c2 c3)), some (.inl t)]) (sk' := [.inl c1, .inl (h1 66 19), .inr (.inr 79)]) (h' := h1) rfl ?_
                refine E_sd (x := (.iastore, 0, [], [])) (ty := .int) (n := 151) (y := c1) rfl rfl rfl (by omega) (by omega) (trivial) ?_
                show xEx G0 cdX12_keepsTest (some .boolean) (xRn G0 MT (d + 1)) Q b 87 [some (.inr (.inr 66)), some (.inl c1), some (.inl c2), some (.inl (otT c1 c3)), some (.inl (h0 28 15)), some (.inl (oT h0 T c1 c2 c3)), some (.inl t)] [] (xup h1 79 (h1 66 19) c1)
                refine E_s 5 (i' := 92) (ls' := [some (.inr (.inr 66)), some (.inl c1), some (.inl c2), some (.inl (otT c1 c3)), some (.inl (h0 28 15)), some (.inl (oT h0 T c1 c2 c3)), some (.inl t)]) (sk' := [.inl c2, .inl (h1 66 19), .inr (.inr 80)]) (h' := (xup h1 79 (h1 66 19) c1)) rfl ?_
                refine E_sd (x := (.iastore, 0, [], [])) (ty := .int) (n := 151) (y := c2) rfl rfl rfl (by omega) (by omega) (trivial) ?_
                show xEx G0 cdX12_keepsTest (some .boolean) (xRn G0 MT (d + 1)) Q b 93 [some (.inr (.inr 66)), some (.inl c1), some (.inl c2), some (.inl (otT c1 c3)), some (.inl (h0 28 15)), some (.inl (oT h0 T c1 c2 c3)), some (.inl t)] [] (xup (xup h1 79 (h1 66 19) c1) 80 (h1 66 19) c2)
                refine E_s 5 (i' := 98) (ls' := [some (.inr (.inr 66)), some (.inl c1), some (.inl c2), some (.inl (otT c1 c3)), some (.inl (h0 28 15)), some (.inl (oT h0 T c1 c2 c3)), some (.inl t)]) (sk' := [.inl (otT c1 c3), .inl (h1 66 19), .inr (.inr 81)]) (h' := (xup (xup h1 79 (h1 66 19) c1) 80 (h1 66 19) c2)) rfl ?_
                refine E_sd (x := (.iastore, 0, [], [])) (ty := .int) (n := 151) (y := (otT c1 c3)) rfl rfl rfl (by omega) (by omega) (trivial) ?_
                show xEx G0 cdX12_keepsTest (some .boolean) (xRn G0 MT (d + 1)) Q b 99 [some (.inr (.inr 66)), some (.inl c1), some (.inl c2), some (.inl (otT c1 c3)), some (.inl (h0 28 15)), some (.inl (oT h0 T c1 c2 c3)), some (.inl t)] [] (xup (xup (xup h1 79 (h1 66 19) c1) 80 (h1 66 19) c2) 81 (h1 66 19) (otT c1 c3))
                refine E_s 5 (i' := 104) (ls' := [some (.inr (.inr 66)), some (.inl c1), some (.inl c2), some (.inl (otT c1 c3)), some (.inl (h0 28 15)), some (.inl (oT h0 T c1 c2 c3)), some (.inl t)]) (sk' := [.inl (h0 28 15), .inl (h1 66 19), .inr (.inr 85)]) (h' := (xup (xup (xup h1 79 (h1 66 19) c1) 80 (h1 66 19) c2) 81 (h1 66 19) (otT c1 c3))) rfl ?_
                refine E_sd (x := (.iastore, 0, [], [])) (ty := .int) (n := 150) (y := (h0 28 15)) rfl rfl rfl (by omega) (by omega) (trivial) ?_
                show xEx G0 cdX12_keepsTest (some .boolean) (xRn G0 MT (d + 1)) Q b 105 [some (.inr (.inr 66)), some (.inl c1), some (.inl c2), some (.inl (otT c1 c3)), some (.inl (h0 28 15)), some (.inl (oT h0 T c1 c2 c3)), some (.inl t)] [] (xup (xup (xup (xup h1 79 (h1 66 19) c1) 80 (h1 66 19) c2) 81 (h1 66 19) (otT c1 c3)) 85 (h1 66 19) (h0 28 15))
                refine E_s 5 (i' := 110) (ls' := [some (.inr (.inr 66)), some (.inl c1), some (.inl c2), some (.inl (otT c1 c3)), some (.inl (h0 28 15)), some (.inl (oT h0 T c1 c2 c3)), some (.inl t)]) (sk' := [.inl 0, .inl (h1 66 19), .inr (.inr 86)]) (h' := (xup (xup (xup (xup h1 79 (h1 66 19) c1) 80 (h1 66 19) c2) 81 (h1 66 19) (otT c1 c3)) 85 (h1 66 19) (h0 28 15))) rfl ?_
                refine E_sd (x := (.iastore, 0, [], [])) (ty := .int) (n := 150) (y := 0) rfl rfl rfl (by omega) (by omega) (trivial) ?_
                show xEx G0 cdX12_keepsTest (some .boolean) (xRn G0 MT (d + 1)) Q b 111 [some (.inr (.inr 66)), some (.inl c1), some (.inl c2), some (.inl (otT c1 c3)), some (.inl (h0 28 15)), some (.inl (oT h0 T c1 c2 c3)), some (.inl t)] [] (xup (xup (xup (xup (xup h1 79 (h1 66 19) c1) 80 (h1 66 19) c2) 81 (h1 66 19) (otT c1 c3)) 85 (h1 66 19) (h0 28 15)) 86 (h1 66 19) 0)
                refine E_s 5 (i' := 116) (ls' := [some (.inr (.inr 66)), some (.inl c1), some (.inl c2), some (.inl (otT c1 c3)), some (.inl (h0 28 15)), some (.inl (oT h0 T c1 c2 c3)), some (.inl t)]) (sk' := [.inl (oT h0 T c1 c2 c3), .inl (h1 66 19), .inr (.inr 87)]) (h' := (xup (xup (xup (xup (xup h1 79 (h1 66 19) c1) 80 (h1 66 19) c2) 81 (h1 66 19) (otT c1 c3)) 85 (h1 66 19) (h0 28 15)) 86 (h1 66 19) 0)) rfl ?_
                refine E_sd (x := (.iastore, 0, [], [])) (ty := .int) (n := 150) (y := (oT h0 T c1 c2 c3)) rfl rfl rfl (by omega) (by omega) (trivial) ?_
                show xEx G0 cdX12_keepsTest (some .boolean) (xRn G0 MT (d + 1)) Q b 117 [some (.inr (.inr 66)), some (.inl c1), some (.inl c2), some (.inl (otT c1 c3)), some (.inl (h0 28 15)), some (.inl (oT h0 T c1 c2 c3)), some (.inl t)] [] (xup (xup (xup (xup (xup (xup h1 79 (h1 66 19) c1) 80 (h1 66 19) c2) 81 (h1 66 19) (otT c1 c3)) 85 (h1 66 19) (h0 28 15)) 86 (h1 66 19) 0) 87 (h1 66 19) (oT h0 T c1 c2 c3))
                refine E_s 7 (i' := 124) (ls' := [some (.inr (.inr 66)), some (.inl c1), some (.inl c2), some (.inl (otT c1 c3)), some (.inl (h0 28 15)), some (.inl (oT h0 T c1 c2 c3)), some (.inl t)]) (sk' := [.inl 1]) (h' := (xup (xup (xup (xup (xup (xup (xup h1 79 (h1 66 19) c1) 80 (h1 66 19) c2) 81 (h1 66 19) (otT c1 c3)) 85 (h1 66 19) (h0 28 15)) 86 (h1 66 19) 0) 87 (h1 66 19) (oT h0 T c1 c2 c3)) 66 19 ((h1 66 19) + 1))) rfl ?_
                exact E_ret (x := (.ireturn, 0, [], [])) (v := some (.inl 1)) rfl (Or.inr ⟨rfl, Or.inr rfl⟩) (by
                  rw [offT_a ho h3 hni hfn (by rw [← hK1]; omega)] at hQ
                  have hS4 : put0 (mad T) (h0 28 15) c1 c2 c3 (oT h0 T c1 c2 c3) (usT h0 T c1 c2 c3) 0 4 = 0 := ho
                  rw [hS4] at hQ
                  have key := RRT_a (h := h1) (T := T) (sz := h0 28 15) (c1 := c1) (c2 := c2) (c3 := c3) (us := usT h0 T c1 c2 c3) (v := (oT h0 T c1 c2 c3)) hR1 w1
                  obtain ⟨y1, y2, y3, y4⟩ := key
                  refine hQ _ ⟨⟨y1, y2, y3, y4⟩, hl1, hmk1, ?_⟩ (FRT.up (FRT.up (FRT.up (FRT.up (FRT.up (FRT.up (FRT.up hF1 (by omega)) (by omega)) (by omega)) (by omega)) (by omega)) (by omega)) (by omega))
                  show h1 66 36 = T 0 4
                  rw [hwh1, ho])
              · rw [c_ne (by first | exact ⟨by omega, by omega⟩ | (rw [hK1]; exact ⟨by omega, by omega⟩)) (by first | exact ⟨by omega, by omega⟩ | (rw [hK1]; exact ⟨by omega, by omega⟩))] at cb75
                simp only [decide_eq_true_eq, decide_eq_false_iff_not, Decidable.not_not] at cb75
                show xEx G0 cdX12_keepsTest (some .boolean) (xRn G0 MT (d + 1)) Q b 76 [some (.inr (.inr 66)), some (.inl c1), some (.inl c2), some (.inl (otT c1 c3)), some (.inl (h0 28 15)), some (.inl (oT h0 T c1 c2 c3)), some (.inl t)] [] h1
                refine E_s 4 (i' := 80) (ls' := [some (.inr (.inr 66)), some (.inl c1), some (.inl c2), some (.inl (otT c1 c3)), some (.inl (h0 28 15)), some (.inl (oT h0 T c1 c2 c3)), some (.inl t)]) (sk' := [.inl 0]) (h' := (xup h1 66 36 1)) rfl ?_
                exact E_ret (x := (.ireturn, 0, [], [])) (v := some (.inl 0)) rfl (Or.inr ⟨rfl, Or.inl rfl⟩) (by
                  rw [offT_f ho h3 hni hfn (by rw [← hK1]; omega)] at hQ
                  refine hQ _ ⟨?_, ?_, ?_, rfl⟩ (FRT.up hF1 (by omega))
                  · exact hR1
                  · exact hl1
                  · exact hmk1)
            · rw [c_ge (by first | exact ⟨by omega, by omega⟩ | (rw [hK1]; exact ⟨by omega, by omega⟩)) (by first | exact ⟨by omega, by omega⟩ | (rw [hK1]; exact ⟨by omega, by omega⟩))] at cb24
              simp only [decide_eq_true_eq, decide_eq_false_iff_not, Decidable.not_not] at cb24
              show xEx G0 cdX12_keepsTest (some .boolean) (xRn G0 MT (d + 1)) Q b 25 [some (.inr (.inr 66)), some (.inl c1), some (.inl c2), some (.inl (otT c1 c3)), some (.inl (h0 28 15)), some (.inl (oT h0 T c1 c2 c3)), some (.inl t)] [] h1
              have hos : h1 87 t = T 6 t := (hR1.2.2.2 t ht0 (by omega)).2.2.2.2.1
              have hw3 := w3 t ht0 (by omega)
              refine E_s 3 (i' := 28) (ls' := [some (.inr (.inr 66)), some (.inl c1), some (.inl c2), some (.inl (otT c1 c3)), some (.inl (h0 28 15)), some (.inl (oT h0 T c1 c2 c3)), some (.inl t)]) (sk' := [.inl t, .inr (.inr 87)]) (h' := h1) rfl ?_
              refine E_ld (x := (.iaload, 0, [], [])) (ty := .int) (n := 150) rfl rfl rfl (by omega) (by omega) ?_
              show xEx G0 cdX12_keepsTest (some .boolean) (xRn G0 MT (d + 1)) Q b 29 [some (.inr (.inr 66)), some (.inl c1), some (.inl c2), some (.inl (otT c1 c3)), some (.inl (h0 28 15)), some (.inl (oT h0 T c1 c2 c3)), some (.inl t)] [.inl (h1 87 t)] h1
              refine E_s 1 (i' := 30) (ls' := [some (.inr (.inr 66)), some (.inl c1), some (.inl c2), some (.inl (otT c1 c3)), some (.inl (h0 28 15)), some (.inl (oT h0 T c1 c2 c3)), some (.inl t)]) (sk' := [.inl (oT h0 T c1 c2 c3), .inl (h1 87 t)]) (h' := h1) rfl ?_
              refine E_b (x := (.if_icmp .eq 6, 32, [], [])) rfl rfl (fun cb30 => ?_) (fun cb30 => ?_)
              · rw [c_eq (by first | exact ⟨by omega, by omega⟩ | (rw [hos]; exact ⟨by omega, by omega⟩)) (by first | exact ⟨by omega, by omega⟩ | (rw [hos]; exact ⟨by omega, by omega⟩))] at cb30
                simp only [decide_eq_true_eq, decide_eq_false_iff_not, Decidable.not_not] at cb30
                show xEx G0 cdX12_keepsTest (some .boolean) (xRn G0 MT (d + 1)) Q b 32 [some (.inr (.inr 66)), some (.inl c1), some (.inl c2), some (.inl (otT c1 c3)), some (.inl (h0 28 15)), some (.inl (oT h0 T c1 c2 c3)), some (.inl t)] [] h1
                have htt : T 6 t = (oT h0 T c1 c2 c3) := by rw [← hos]; exact cb30
                have hfr : fnd (fun k => T 6 k = (oT h0 T c1 c2 c3)) (T 0 0).toNat = t := fnd_is ht0 (by omega) htt (fun j z1 z2 z3 => hno j z1 z2 z3)
                have hm7 : h1 86 t = T 7 t := (hR1.2.2.2 t ht0 (by omega)).2.2.2.2.2.1
                have hw5 := w5 t ht0 (by omega)
                refine E_s 3 (i' := 35) (ls' := [some (.inr (.inr 66)), some (.inl c1), some (.inl c2), some (.inl (otT c1 c3)), some (.inl (h0 28 15)), some (.inl (oT h0 T c1 c2 c3)), some (.inl t)]) (sk' := [.inl t, .inr (.inr 86)]) (h' := h1) rfl ?_
                refine E_ld (x := (.iaload, 0, [], [])) (ty := .int) (n := 150) rfl rfl rfl (by omega) (by omega) ?_
                show xEx G0 cdX12_keepsTest (some .boolean) (xRn G0 MT (d + 1)) Q b 36 [some (.inr (.inr 66)), some (.inl c1), some (.inl c2), some (.inl (otT c1 c3)), some (.inl (h0 28 15)), some (.inl (oT h0 T c1 c2 c3)), some (.inl t)] [.inl (h1 86 t)] h1
                refine E_b (x := (.ifCond .ne 27, 52, [], [])) rfl rfl (fun cb36 => ?_) (fun cb36 => ?_)
                · rw [c_ne (by first | exact ⟨by omega, by omega⟩ | (rw [hm7]; exact ⟨by omega, by omega⟩)) (by first | exact ⟨by omega, by omega⟩ | (rw [hm7]; exact ⟨by omega, by omega⟩))] at cb36
                  simp only [decide_eq_true_eq, decide_eq_false_iff_not, Decidable.not_not] at cb36
                  show xEx G0 cdX12_keepsTest (some .boolean) (xRn G0 MT (d + 1)) Q b 52 [some (.inr (.inr 66)), some (.inl c1), some (.inl c2), some (.inl (otT c1 c3)), some (.inl (h0 28 15)), some (.inl (oT h0 T c1 c2 c3)), some (.inl t)] [] h1
                  refine E_s 4 (i' := 56) (ls' := [some (.inr (.inr 66)), some (.inl c1), some (.inl c2), some (.inl (otT c1 c3)), some (.inl (h0 28 15)), some (.inl (oT h0 T c1 c2 c3)), some (.inl t)]) (sk' := [.inl t, .inr (.inr 86), .inl t, .inr (.inr 86)]) (h' := h1) rfl ?_
                  refine E_ld (x := (.iaload, 0, [], [])) (ty := .int) (n := 150) rfl rfl rfl (by omega) (by omega) ?_
                  show xEx G0 cdX12_keepsTest (some .boolean) (xRn G0 MT (d + 1)) Q b 57 [some (.inr (.inr 66)), some (.inl c1), some (.inl c2), some (.inl (otT c1 c3)), some (.inl (h0 28 15)), some (.inl (oT h0 T c1 c2 c3)), some (.inl t)] [.inl (h1 86 t), .inl t, .inr (.inr 86)] h1
                  refine E_s 2 (i' := 59) (ls' := [some (.inr (.inr 66)), some (.inl c1), some (.inl c2), some (.inl (otT c1 c3)), some (.inl (h0 28 15)), some (.inl (oT h0 T c1 c2 c3)), some (.inl t)]) (sk' := [.inl ((h1 86 t) + 1), .inl t, .inr (.inr 86)]) (h' := h1) rfl ?_
                  refine E_sd (x := (.iastore, 0, [], [])) (ty := .int) (n := 150) (y := ((h1 86 t) + 1)) rfl rfl rfl (by omega) (by omega) (trivial) ?_
                  show xEx G0 cdX12_keepsTest (some .boolean) (xRn G0 MT (d + 1)) Q b 60 [some (.inr (.inr 66)), some (.inl c1), some (.inl c2), some (.inl (otT c1 c3)), some (.inl (h0 28 15)), some (.inl (oT h0 T c1 c2 c3)), some (.inl t)] [] (xup h1 86 t ((h1 86 t) + 1))
                  refine E_s 4 (i' := 64) (ls' := [some (.inr (.inr 66)), some (.inl c1), some (.inl c2), some (.inl (otT c1 c3)), some (.inl (h0 28 15)), some (.inl (oT h0 T c1 c2 c3)), some (.inl t)]) (sk' := [.inl 1, .inr (.inr 89), .inl 1, .inr (.inr 89)]) (h' := (xup h1 86 t ((h1 86 t) + 1))) rfl ?_
                  refine E_ld (x := (.iaload, 0, [], [])) (ty := .int) (n := 2) rfl rfl rfl (by omega) (by omega) ?_
                  show xEx G0 cdX12_keepsTest (some .boolean) (xRn G0 MT (d + 1)) Q b 65 [some (.inr (.inr 66)), some (.inl c1), some (.inl c2), some (.inl (otT c1 c3)), some (.inl (h0 28 15)), some (.inl (oT h0 T c1 c2 c3)), some (.inl t)] [.inl (h1 89 1), .inl 1, .inr (.inr 89)] (xup h1 86 t ((h1 86 t) + 1))
                  refine E_s 2 (i' := 67) (ls' := [some (.inr (.inr 66)), some (.inl c1), some (.inl c2), some (.inl (otT c1 c3)), some (.inl (h0 28 15)), some (.inl (oT h0 T c1 c2 c3)), some (.inl t)]) (sk' := [.inl ((h1 89 1) + 1), .inl 1, .inr (.inr 89)]) (h' := (xup h1 86 t ((h1 86 t) + 1))) rfl ?_
                  refine E_sd (x := (.iastore, 0, [], [])) (ty := .int) (n := 2) (y := ((h1 89 1) + 1)) rfl rfl rfl (by omega) (by omega) (trivial) ?_
                  show xEx G0 cdX12_keepsTest (some .boolean) (xRn G0 MT (d + 1)) Q b 68 [some (.inr (.inr 66)), some (.inl c1), some (.inl c2), some (.inl (otT c1 c3)), some (.inl (h0 28 15)), some (.inl (oT h0 T c1 c2 c3)), some (.inl t)] [] (xup (xup h1 86 t ((h1 86 t) + 1)) 89 1 ((h1 89 1) + 1))
                  refine E_s 1 (i' := 69) (ls' := [some (.inr (.inr 66)), some (.inl c1), some (.inl c2), some (.inl (otT c1 c3)), some (.inl (h0 28 15)), some (.inl (oT h0 T c1 c2 c3)), some (.inl t)]) (sk' := [.inl 1]) (h' := (xup (xup h1 86 t ((h1 86 t) + 1)) 89 1 ((h1 89 1) + 1))) rfl ?_
                  exact E_ret (x := (.ireturn, 0, [], [])) (v := some (.inl 1)) rfl (Or.inr ⟨rfl, Or.inr rfl⟩) (by
                    rw [offT_m ho h3 hni hfr (by omega)] at hQ
                    have hS4 : mrgS (mad T) t c1 c2 c3 0 4 = 0 := by unfold mrgS; split <;> exact ho
                    rw [hS4] at hQ
                    have hS3 : mrgS (mad T) t c1 c2 c3 0 3 = T 0 3 - 1 := (mrg_0 T t c1 c2 c3 (by decide)).trans rfl
                    have hS2 : mrgS (mad T) t c1 c2 c3 0 2 = T 0 2 + 1 := (mrg_0 T t c1 c2 c3 (by decide)).trans rfl
                    have key := RRT_m (h := h1) (T := T) (c1 := c1) (c2 := c2) (c3 := c3) hR1 ⟨ht0, by omega⟩
                    rw [if_neg cb36] at key
                    refine hQ _ ⟨key, ?_, ?_, ?_⟩ (FRT.up (FRT.up hF1 (by omega)) (by omega))
                    · rw [hS3, ← hl1]; rfl
                    · rw [hS2, ← hmk1]; rfl
                    · rw [hS4, ← hwh1]; rfl)
                · rw [c_ne (by first | exact ⟨by omega, by omega⟩ | (rw [hm7]; exact ⟨by omega, by omega⟩)) (by first | exact ⟨by omega, by omega⟩ | (rw [hm7]; exact ⟨by omega, by omega⟩))] at cb36
                  simp only [decide_eq_true_eq, decide_eq_false_iff_not, Decidable.not_not] at cb36
                  show xEx G0 cdX12_keepsTest (some .boolean) (xRn G0 MT (d + 1)) Q b 37 [some (.inr (.inr 66)), some (.inl c1), some (.inl c2), some (.inl (otT c1 c3)), some (.inl (h0 28 15)), some (.inl (oT h0 T c1 c2 c3)), some (.inl t)] [] h1
                  refine E_s 4 (i' := 41) (ls' := [some (.inr (.inr 66)), some (.inl c1), some (.inl c2), some (.inl (otT c1 c3)), some (.inl (h0 28 15)), some (.inl (oT h0 T c1 c2 c3)), some (.inl t)]) (sk' := [.inl c1, .inl t, .inr (.inr 82)]) (h' := h1) rfl ?_
                  refine E_sd (x := (.iastore, 0, [], [])) (ty := .int) (n := 150) (y := c1) rfl rfl rfl (by omega) (by omega) (trivial) ?_
                  show xEx G0 cdX12_keepsTest (some .boolean) (xRn G0 MT (d + 1)) Q b 42 [some (.inr (.inr 66)), some (.inl c1), some (.inl c2), some (.inl (otT c1 c3)), some (.inl (h0 28 15)), some (.inl (oT h0 T c1 c2 c3)), some (.inl t)] [] (xup h1 82 t c1)
                  refine E_s 4 (i' := 46) (ls' := [some (.inr (.inr 66)), some (.inl c1), some (.inl c2), some (.inl (otT c1 c3)), some (.inl (h0 28 15)), some (.inl (oT h0 T c1 c2 c3)), some (.inl t)]) (sk' := [.inl c2, .inl t, .inr (.inr 83)]) (h' := (xup h1 82 t c1)) rfl ?_
                  refine E_sd (x := (.iastore, 0, [], [])) (ty := .int) (n := 150) (y := c2) rfl rfl rfl (by omega) (by omega) (trivial) ?_
                  show xEx G0 cdX12_keepsTest (some .boolean) (xRn G0 MT (d + 1)) Q b 47 [some (.inr (.inr 66)), some (.inl c1), some (.inl c2), some (.inl (otT c1 c3)), some (.inl (h0 28 15)), some (.inl (oT h0 T c1 c2 c3)), some (.inl t)] [] (xup (xup h1 82 t c1) 83 t c2)
                  refine E_s 4 (i' := 51) (ls' := [some (.inr (.inr 66)), some (.inl c1), some (.inl c2), some (.inl (otT c1 c3)), some (.inl (h0 28 15)), some (.inl (oT h0 T c1 c2 c3)), some (.inl t)]) (sk' := [.inl (otT c1 c3), .inl t, .inr (.inr 84)]) (h' := (xup (xup h1 82 t c1) 83 t c2)) rfl ?_
                  refine E_sd (x := (.iastore, 0, [], [])) (ty := .int) (n := 150) (y := (otT c1 c3)) rfl rfl rfl (by omega) (by omega) (trivial) ?_
                  show xEx G0 cdX12_keepsTest (some .boolean) (xRn G0 MT (d + 1)) Q b 52 [some (.inr (.inr 66)), some (.inl c1), some (.inl c2), some (.inl (otT c1 c3)), some (.inl (h0 28 15)), some (.inl (oT h0 T c1 c2 c3)), some (.inl t)] [] (xup (xup (xup h1 82 t c1) 83 t c2) 84 t (otT c1 c3))
                  refine E_s 4 (i' := 56) (ls' := [some (.inr (.inr 66)), some (.inl c1), some (.inl c2), some (.inl (otT c1 c3)), some (.inl (h0 28 15)), some (.inl (oT h0 T c1 c2 c3)), some (.inl t)]) (sk' := [.inl t, .inr (.inr 86), .inl t, .inr (.inr 86)]) (h' := (xup (xup (xup h1 82 t c1) 83 t c2) 84 t (otT c1 c3))) rfl ?_
                  refine E_ld (x := (.iaload, 0, [], [])) (ty := .int) (n := 150) rfl rfl rfl (by omega) (by omega) ?_
                  show xEx G0 cdX12_keepsTest (some .boolean) (xRn G0 MT (d + 1)) Q b 57 [some (.inr (.inr 66)), some (.inl c1), some (.inl c2), some (.inl (otT c1 c3)), some (.inl (h0 28 15)), some (.inl (oT h0 T c1 c2 c3)), some (.inl t)] [.inl (h1 86 t), .inl t, .inr (.inr 86)] (xup (xup (xup h1 82 t c1) 83 t c2) 84 t (otT c1 c3))
                  refine E_s 2 (i' := 59) (ls' := [some (.inr (.inr 66)), some (.inl c1), some (.inl c2), some (.inl (otT c1 c3)), some (.inl (h0 28 15)), some (.inl (oT h0 T c1 c2 c3)), some (.inl t)]) (sk' := [.inl ((h1 86 t) + 1), .inl t, .inr (.inr 86)]) (h' := (xup (xup (xup h1 82 t c1) 83 t c2) 84 t (otT c1 c3))) rfl ?_
                  refine E_sd (x := (.iastore, 0, [], [])) (ty := .int) (n := 150) (y := ((h1 86 t) + 1)) rfl rfl rfl (by omega) (by omega) (trivial) ?_
                  show xEx G0 cdX12_keepsTest (some .boolean) (xRn G0 MT (d + 1)) Q b 60 [some (.inr (.inr 66)), some (.inl c1), some (.inl c2), some (.inl (otT c1 c3)), some (.inl (h0 28 15)), some (.inl (oT h0 T c1 c2 c3)), some (.inl t)] [] (xup (xup (xup (xup h1 82 t c1) 83 t c2) 84 t (otT c1 c3)) 86 t ((h1 86 t) + 1))
                  refine E_s 4 (i' := 64) (ls' := [some (.inr (.inr 66)), some (.inl c1), some (.inl c2), some (.inl (otT c1 c3)), some (.inl (h0 28 15)), some (.inl (oT h0 T c1 c2 c3)), some (.inl t)]) (sk' := [.inl 1, .inr (.inr 89), .inl 1, .inr (.inr 89)]) (h' := (xup (xup (xup (xup h1 82 t c1) 83 t c2) 84 t (otT c1 c3)) 86 t ((h1 86 t) + 1))) rfl ?_
                  refine E_ld (x := (.iaload, 0, [], [])) (ty := .int) (n := 2) rfl rfl rfl (by omega) (by omega) ?_
                  show xEx G0 cdX12_keepsTest (some .boolean) (xRn G0 MT (d + 1)) Q b 65 [some (.inr (.inr 66)), some (.inl c1), some (.inl c2), some (.inl (otT c1 c3)), some (.inl (h0 28 15)), some (.inl (oT h0 T c1 c2 c3)), some (.inl t)] [.inl (h1 89 1), .inl 1, .inr (.inr 89)] (xup (xup (xup (xup h1 82 t c1) 83 t c2) 84 t (otT c1 c3)) 86 t ((h1 86 t) + 1))
                  refine E_s 2 (i' := 67) (ls' := [some (.inr (.inr 66)), some (.inl c1), some (.inl c2), some (.inl (otT c1 c3)), some (.inl (h0 28 15)), some (.inl (oT h0 T c1 c2 c3)), some (.inl t)]) (sk' := [.inl ((h1 89 1) + 1), .inl 1, .inr (.inr 89)]) (h' := (xup (xup (xup (xup h1 82 t c1) 83 t c2) 84 t (otT c1 c3)) 86 t ((h1 86 t) + 1))) rfl ?_
                  refine E_sd (x := (.iastore, 0, [], [])) (ty := .int) (n := 2) (y := ((h1 89 1) + 1)) rfl rfl rfl (by omega) (by omega) (trivial) ?_
                  show xEx G0 cdX12_keepsTest (some .boolean) (xRn G0 MT (d + 1)) Q b 68 [some (.inr (.inr 66)), some (.inl c1), some (.inl c2), some (.inl (otT c1 c3)), some (.inl (h0 28 15)), some (.inl (oT h0 T c1 c2 c3)), some (.inl t)] [] (xup (xup (xup (xup (xup h1 82 t c1) 83 t c2) 84 t (otT c1 c3)) 86 t ((h1 86 t) + 1)) 89 1 ((h1 89 1) + 1))
                  refine E_s 1 (i' := 69) (ls' := [some (.inr (.inr 66)), some (.inl c1), some (.inl c2), some (.inl (otT c1 c3)), some (.inl (h0 28 15)), some (.inl (oT h0 T c1 c2 c3)), some (.inl t)]) (sk' := [.inl 1]) (h' := (xup (xup (xup (xup (xup h1 82 t c1) 83 t c2) 84 t (otT c1 c3)) 86 t ((h1 86 t) + 1)) 89 1 ((h1 89 1) + 1))) rfl ?_
                  exact E_ret (x := (.ireturn, 0, [], [])) (v := some (.inl 1)) rfl (Or.inr ⟨rfl, Or.inr rfl⟩) (by
                    rw [offT_m ho h3 hni hfr (by omega)] at hQ
                    have hS4 : mrgS (mad T) t c1 c2 c3 0 4 = 0 := by unfold mrgS; split <;> exact ho
                    rw [hS4] at hQ
                    have hS3 : mrgS (mad T) t c1 c2 c3 0 3 = T 0 3 - 1 := (mrg_0 T t c1 c2 c3 (by decide)).trans rfl
                    have hS2 : mrgS (mad T) t c1 c2 c3 0 2 = T 0 2 + 1 := (mrg_0 T t c1 c2 c3 (by decide)).trans rfl
                    have key := RRT_m (h := h1) (T := T) (c1 := c1) (c2 := c2) (c3 := c3) hR1 ⟨ht0, by omega⟩
                    rw [if_pos cb36] at key
                    refine hQ _ ⟨key, ?_, ?_, ?_⟩ (FRT.up (FRT.up (FRT.up (FRT.up (FRT.up hF1 (by omega)) (by omega)) (by omega)) (by omega)) (by omega))
                    · rw [hS3, ← hl1]; rfl
                    · rw [hS2, ← hmk1]; rfl
                    · rw [hS4, ← hwh1]; rfl)
              · rw [c_eq (by first | exact ⟨by omega, by omega⟩ | (rw [hos]; exact ⟨by omega, by omega⟩)) (by first | exact ⟨by omega, by omega⟩ | (rw [hos]; exact ⟨by omega, by omega⟩))] at cb30
                simp only [decide_eq_true_eq, decide_eq_false_iff_not, Decidable.not_not] at cb30
                show xEx G0 cdX12_keepsTest (some .boolean) (xRn G0 MT (d + 1)) Q b 31 [some (.inr (.inr 66)), some (.inl c1), some (.inl c2), some (.inl (otT c1 c3)), some (.inl (h0 28 15)), some (.inl (oT h0 T c1 c2 c3)), some (.inl t)] [] h1
                refine E_s 3 (i' := 21) (ls' := [some (.inr (.inr 66)), some (.inl c1), some (.inl c2), some (.inl (otT c1 c3)), some (.inl (h0 28 15)), some (.inl (oT h0 T c1 c2 c3)), some (.inl (t + 1))]) (sk' := []) (h' := h1) rfl ?_
                exact ih21 (t + 1) (by omega) (by omega) (fun j z1 z2 => by
                  rcases Int.lt_or_eq_of_le (show j ≤ t by omega) with z9 | z9
                  · exact hno j z1 z9
                  · rw [z9, ← hos]; exact cb30) (by omega)
        exact key21 _ 0 (by omega) (by omega) (fun j z1 z2 => by omega) (Nat.lt_succ_self _)
      · rw [c_ne ⟨by omega, by omega⟩ ⟨by omega, by omega⟩] at cb10
        simp only [decide_eq_true_eq, decide_eq_false_iff_not, Decidable.not_not] at cb10
        show xEx G0 cdX12_keepsTest (some .boolean) (xRn G0 MT (d + 1)) Q b 11 [some (.inr (.inr 66)), some (.inl c1), some (.inl c2), some (.inl (otT c1 c3)), some (.inl (h0 28 15)), some (.inl (oT h0 T c1 c2 c3)), none] [] h1
        refine E_s 7 (i' := 18) (ls' := [some (.inr (.inr 66)), some (.inl c1), some (.inl c2), some (.inl (otT c1 c3)), some (.inl (h0 28 15)), some (.inl (oT h0 T c1 c2 c3)), none]) (sk' := [.inl 1]) (h' := (xup h1 66 33 ((h1 66 33) + 1))) rfl ?_
        exact E_ret (x := (.ireturn, 0, [], [])) (v := some (.inl 1)) rfl (Or.inr ⟨rfl, Or.inr rfl⟩) (by
          rw [offT_i ho h3 (by omega)] at hQ
          have hS4 : xup (mad T) 0 5 (T 0 5 + 1) 0 4 = 0 := ho
          rw [hS4] at hQ
          obtain ⟨b1, b2, b3, b4⟩ := hR1
          refine hQ _ ⟨⟨b1, b2, ?_, b4⟩, hl1, hmk1, ?_⟩ (FRT.up hF1 (by omega))
          · show h1 66 33 + 1 = T 0 5 + 1
            rw [b3]
          · show h1 66 36 = T 0 4
            rw [hwh1, ho])
  · rw [c_ne (by rcases hq with hq | hq <;> exact ⟨by omega, by omega⟩) (by rcases hq with hq | hq <;> exact ⟨by omega, by omega⟩)] at cb2
    simp only [decide_eq_true_eq, decide_eq_false_iff_not, Decidable.not_not] at cb2
    show xEx G0 cdX12_keepsTest (some .boolean) (xRn G0 MT (d + 1)) Q b 3 [some (.inr (.inr 66)), some (.inl c1), some (.inl c2), some (.inl (otT c1 c3)), some (.inl (h0 28 15)), some (.inl (oT h0 T c1 c2 c3)), none] [] h1
    refine E_s 1 (i' := 4) (ls' := [some (.inr (.inr 66)), some (.inl c1), some (.inl c2), some (.inl (otT c1 c3)), some (.inl (h0 28 15)), some (.inl (oT h0 T c1 c2 c3)), none]) (sk' := [.inl 0]) (h' := h1) rfl ?_
    exact E_ret (x := (.ireturn, 0, [], [])) (v := some (.inl 0)) rfl (Or.inr ⟨rfl, Or.inl rfl⟩) (by
      have hx : h 66 35 = 0 ∧ h1 = xup h 66 36 2 := by
        rcases hq with ⟨q1, q2, q3⟩ | ⟨q1, q2, q3⟩
        · exact ⟨q2, q3⟩
        · omega
      rw [offT_b ho (by rw [← m1]; exact hx.1)] at hQ
      refine hQ h1 ⟨?_, ?_, ?_, ?_⟩ (by rw [hx.2]; exact FRT.up (FRT.rf h) (by omega))
      · rw [hx.2]; exact hR
      · rw [hx.2]; exact m1
      · rw [hx.2]; exact m2
      · rw [hx.2]; rfl)
set_option maxHeartbeats 1000000 in
theorem r_compared (d b : Nat) (h0 h : xH) (c1 c2 c3 : Int) (hB : BT h0) (hE : RET h0 h) (h1 : 0 ≤ c1 ∧ c1 ≤ 1) (h2 : 0 ≤ c2 ∧ c2 < h0 9 9) (h3 : 0 ≤ c3 ∧ c3 < h0 9 9) {Q : xO → xH → Prop} (hQ : Q (.inl (some (.inl (cv (cmpT h0 c1 c2 c3) (h0 1 2).toNat : Int)))) h) : xRn G0 MT (d + 1) b 185 [.inr (.inr 66), .inl c1, .inl c2, .inl c3] h Q := by
  refine R_of (M := mX12_compared) rfl (Nat.le_of_ble_eq_true rfl) ?_
  show xEx G0 cdX12_compared (some .int) (xRn G0 MT d) Q b 0 [some (.inr (.inr 66)), some (.inl c1), some (.inl c2), some (.inl c3), none, none, none, none] [] h
  obtain ⟨hn, hK, hr⟩ := hB
  have hex := hE.1
  refine E_s 4 (i' := 4) (ls' := [some (.inr (.inr 66)), some (.inl c1), some (.inl c2), some (.inl c3), some (.inl 0), some (.inl 0), none, none]) (sk' := []) (h' := h) rfl ?_
  have key4 : ∀ (n : Nat) (e : Int) (v6 v7 : Option xV), (0 ≤ e) → (e ≤ h0 1 2) → ((h0 1 2 - e).toNat) < n → xEx G0 cdX12_compared (some .int) (xRn G0 MT d) Q b 4 [some (.inr (.inr 66)), some (.inl c1), some (.inl c2), some (.inl c3), some (.inl (cv (cmpT h0 c1 c2 c3) e.toNat : Int)), some (.inl e), v6, v7] [] h := by
    intro n
    induction n with
    | zero => intro e v6 v7 _ _ hm; exact absurd hm (Nat.not_lt_zero _)
    | succ n ih4 =>
      intro e v6 v7 he0 he1 hm4
      refine E_s 3 (i' := 7) (ls' := [some (.inr (.inr 66)), some (.inl c1), some (.inl c2), some (.inl c3), some (.inl (cv (cmpT h0 c1 c2 c3) e.toNat : Int)), some (.inl e), v6, v7]) (sk' := [.inl (h 66 4), .inl e]) (h' := h) rfl ?_
      refine E_b (x := (.if_icmp .ge 71, 45, [], [])) rfl rfl (fun c7 => ?_) (fun c7 => ?_)
      · rw [c_ge (by first | exact ⟨by omega, by omega⟩ | (rw [hex]; exact ⟨by omega, by omega⟩)) (by first | exact ⟨by omega, by omega⟩ | (rw [hex]; exact ⟨by omega, by omega⟩))] at c7
        simp only [decide_eq_true_eq, decide_eq_false_iff_not, Decidable.not_not] at c7
        show xEx G0 cdX12_compared (some .int) (xRn G0 MT d) Q b 45 [some (.inr (.inr 66)), some (.inl c1), some (.inl c2), some (.inl c3), some (.inl (cv (cmpT h0 c1 c2 c3) e.toNat : Int)), some (.inl e), v6, v7] [] h
        refine E_s 1 (i' := 46) (ls' := [some (.inr (.inr 66)), some (.inl c1), some (.inl c2), some (.inl c3), some (.inl (cv (cmpT h0 c1 c2 c3) e.toNat : Int)), some (.inl e), v6, v7]) (sk' := [.inl (cv (cmpT h0 c1 c2 c3) e.toNat : Int)]) (h' := h) rfl ?_
        exact E_ret (x := (.ireturn, 0, [], [])) (v := some (.inl (cv (cmpT h0 c1 c2 c3) e.toNat : Int))) rfl (Or.inl rfl) (by obtain e9 : e = h0 1 2 := (by omega); rw [e9]; exact hQ)
      · rw [c_ge (by first | exact ⟨by omega, by omega⟩ | (rw [hex]; exact ⟨by omega, by omega⟩)) (by first | exact ⟨by omega, by omega⟩ | (rw [hex]; exact ⟨by omega, by omega⟩))] at c7
        simp only [decide_eq_true_eq, decide_eq_false_iff_not, Decidable.not_not] at c7
        show xEx G0 cdX12_compared (some .int) (xRn G0 MT d) Q b 8 [some (.inr (.inr 66)), some (.inl c1), some (.inl c2), some (.inl c3), some (.inl (cv (cmpT h0 c1 c2 c3) e.toNat : Int)), some (.inl e), v6, v7] [] h
        have g1 : h 77 (12 * c2 + e) = h0 24 (c2 * 12 + e) := hE.2.2.1 c2 e h2.1 h2.2 he0 (by omega)
        have g2 : h 77 (12 * c3 + e) = h0 24 (c3 * 12 + e) := hE.2.2.1 c3 e h3.1 h3.2 he0 (by omega)
        have r1 := hr c2 e h2.1 h2.2 he0 (by omega)
        have r2 := hr c3 e h3.1 h3.2 he0 (by omega)
        rw [← g1] at r1
        rw [← g2] at r2
        refine E_s 7 (i' := 15) (ls' := [some (.inr (.inr 66)), some (.inl c1), some (.inl c2), some (.inl c3), some (.inl (cv (cmpT h0 c1 c2 c3) e.toNat : Int)), some (.inl e), v6, v7]) (sk' := [.inl ((12 * c2) + e), .inr (.inr 77)]) (h' := h) rfl ?_
        refine E_ld (x := (.iaload, 0, [], [])) (ty := .int) (n := 3600) rfl rfl rfl (by omega) (by omega) ?_
        show xEx G0 cdX12_compared (some .int) (xRn G0 MT d) Q b 16 [some (.inr (.inr 66)), some (.inl c1), some (.inl c2), some (.inl c3), some (.inl (cv (cmpT h0 c1 c2 c3) e.toNat : Int)), some (.inl e), v6, v7] [.inl (h 77 ((12 * c2) + e))] h
        refine E_s 8 (i' := 24) (ls' := [some (.inr (.inr 66)), some (.inl c1), some (.inl c2), some (.inl c3), some (.inl (cv (cmpT h0 c1 c2 c3) e.toNat : Int)), some (.inl e), some (.inl (h 77 ((12 * c2) + e))), v7]) (sk' := [.inl ((12 * c3) + e), .inr (.inr 77)]) (h' := h) rfl ?_
        refine E_ld (x := (.iaload, 0, [], [])) (ty := .int) (n := 3600) rfl rfl rfl (by omega) (by omega) ?_
        show xEx G0 cdX12_compared (some .int) (xRn G0 MT d) Q b 25 [some (.inr (.inr 66)), some (.inl c1), some (.inl c2), some (.inl c3), some (.inl (cv (cmpT h0 c1 c2 c3) e.toNat : Int)), some (.inl e), some (.inl (h 77 ((12 * c2) + e))), v7] [.inl (h 77 ((12 * c3) + e))] h
        refine E_s 3 (i' := 28) (ls' := [some (.inr (.inr 66)), some (.inl c1), some (.inl c2), some (.inl c3), some (.inl (cv (cmpT h0 c1 c2 c3) e.toNat : Int)), some (.inl e), some (.inl (h 77 ((12 * c2) + e))), some (.inl (h 77 ((12 * c3) + e)))]) (sk' := [.inl c1, .inl (cv (cmpT h0 c1 c2 c3) e.toNat : Int)]) (h' := h) rfl ?_
        refine E_b (x := (.ifCond .ne 13, 33, [], [])) rfl rfl (fun c28 => ?_) (fun c28 => ?_)
        · rw [c_ne (by first | assumption | (refine ⟨?_, ?_⟩ <;> omega) | (simp only [xr] at *; omega)) (by first | assumption | (refine ⟨?_, ?_⟩ <;> omega) | (simp only [xr] at *; omega))] at c28
          simp only [decide_eq_true_eq, decide_eq_false_iff_not, Decidable.not_not] at c28
          show xEx G0 cdX12_compared (some .int) (xRn G0 MT d) Q b 33 [some (.inr (.inr 66)), some (.inl c1), some (.inl c2), some (.inl c3), some (.inl (cv (cmpT h0 c1 c2 c3) e.toNat : Int)), some (.inl e), some (.inl (h 77 ((12 * c2) + e))), some (.inl (h 77 ((12 * c3) + e)))] [.inl (cv (cmpT h0 c1 c2 c3) e.toNat : Int)] h
          
          refine E_s 2 (i' := 35) (ls' := [some (.inr (.inr 66)), some (.inl c1), some (.inl c2), some (.inl c3), some (.inl (cv (cmpT h0 c1 c2 c3) e.toNat : Int)), some (.inl e), some (.inl (h 77 ((12 * c2) + e))), some (.inl (h 77 ((12 * c3) + e)))]) (sk' := [.inl (h 77 ((12 * c3) + e)), .inl (h 77 ((12 * c2) + e)), .inl (cv (cmpT h0 c1 c2 c3) e.toNat : Int)]) (h' := h) rfl ?_
          refine E_b (x := (.if_icmp .ne 10, 40, [], [])) rfl rfl (fun c35 => ?_) (fun c35 => ?_)
          · rw [c_ne (by first | assumption | (refine ⟨?_, ?_⟩ <;> omega) | (simp only [xr] at *; omega)) (by first | assumption | (refine ⟨?_, ?_⟩ <;> omega) | (simp only [xr] at *; omega))] at c35
            simp only [decide_eq_true_eq, decide_eq_false_iff_not, Decidable.not_not] at c35
            show xEx G0 cdX12_compared (some .int) (xRn G0 MT d) Q b 40 [some (.inr (.inr 66)), some (.inl c1), some (.inl c2), some (.inl c3), some (.inl (cv (cmpT h0 c1 c2 c3) e.toNat : Int)), some (.inl e), some (.inl (h 77 ((12 * c2) + e))), some (.inl (h 77 ((12 * c3) + e)))] [.inl (cv (cmpT h0 c1 c2 c3) e.toNat : Int)] h
            refine E_s 2 (i' := 42) (ls' := [some (.inr (.inr 66)), some (.inl c1), some (.inl c2), some (.inl c3), some (.inl (cv (cmpT h0 c1 c2 c3) e.toNat : Int)), some (.inl e), some (.inl (h 77 ((12 * c2) + e))), some (.inl (h 77 ((12 * c3) + e)))]) (sk' := [.inl (xor_ (cv (cmpT h0 c1 c2 c3) e.toNat : Int) 0)]) (h' := h) rfl ?_
            rw [cv_z (p := cmpT h0 c1 c2 c3) he0 (by omega) (by unfold cmpT; rw [if_neg c28, ← g1, ← g2]; first | exact c31 | exact c35 | exact Int.not_lt.mpr c31 | exact Int.not_le.mp c31)]
            refine E_s 3 (i' := 4) (ls' := [some (.inr (.inr 66)), some (.inl c1), some (.inl c2), some (.inl c3), some (.inl (cv (cmpT h0 c1 c2 c3) (e + 1).toNat : Int)), some (.inl (e + 1)), some (.inl (h 77 ((12 * c2) + e))), some (.inl (h 77 ((12 * c3) + e)))]) (sk' := []) (h' := h) rfl ?_
            exact ih4 (e + 1) _ _ (by omega) (by omega) (by omega)
          · rw [c_ne (by first | assumption | (refine ⟨?_, ?_⟩ <;> omega) | (simp only [xr] at *; omega)) (by first | assumption | (refine ⟨?_, ?_⟩ <;> omega) | (simp only [xr] at *; omega))] at c35
            simp only [decide_eq_true_eq, decide_eq_false_iff_not, Decidable.not_not] at c35
            show xEx G0 cdX12_compared (some .int) (xRn G0 MT d) Q b 36 [some (.inr (.inr 66)), some (.inl c1), some (.inl c2), some (.inl c3), some (.inl (cv (cmpT h0 c1 c2 c3) e.toNat : Int)), some (.inl e), some (.inl (h 77 ((12 * c2) + e))), some (.inl (h 77 ((12 * c3) + e)))] [.inl (cv (cmpT h0 c1 c2 c3) e.toNat : Int)] h
            refine E_s 5 (i' := 42) (ls' := [some (.inr (.inr 66)), some (.inl c1), some (.inl c2), some (.inl c3), some (.inl (cv (cmpT h0 c1 c2 c3) e.toNat : Int)), some (.inl e), some (.inl (h 77 ((12 * c2) + e))), some (.inl (h 77 ((12 * c3) + e)))]) (sk' := [.inl (xor_ (cv (cmpT h0 c1 c2 c3) e.toNat : Int) (xshl 1 e))]) (h' := h) rfl ?_
            rw [cv_s1 (p := cmpT h0 c1 c2 c3) he0 (by omega) (by unfold cmpT; rw [if_neg c28, ← g1, ← g2]; first | exact c31 | exact c35 | exact Int.not_lt.mpr c31 | exact Int.not_le.mp c31)]
            refine E_s 3 (i' := 4) (ls' := [some (.inr (.inr 66)), some (.inl c1), some (.inl c2), some (.inl c3), some (.inl (cv (cmpT h0 c1 c2 c3) (e + 1).toNat : Int)), some (.inl (e + 1)), some (.inl (h 77 ((12 * c2) + e))), some (.inl (h 77 ((12 * c3) + e)))]) (sk' := []) (h' := h) rfl ?_
            exact ih4 (e + 1) _ _ (by omega) (by omega) (by omega)
        · rw [c_ne (by first | assumption | (refine ⟨?_, ?_⟩ <;> omega) | (simp only [xr] at *; omega)) (by first | assumption | (refine ⟨?_, ?_⟩ <;> omega) | (simp only [xr] at *; omega))] at c28
          simp only [decide_eq_true_eq, decide_eq_false_iff_not, Decidable.not_not] at c28
          show xEx G0 cdX12_compared (some .int) (xRn G0 MT d) Q b 29 [some (.inr (.inr 66)), some (.inl c1), some (.inl c2), some (.inl c3), some (.inl (cv (cmpT h0 c1 c2 c3) e.toNat : Int)), some (.inl e), some (.inl (h 77 ((12 * c2) + e))), some (.inl (h 77 ((12 * c3) + e)))] [.inl (cv (cmpT h0 c1 c2 c3) e.toNat : Int)] h
          
          refine E_s 2 (i' := 31) (ls' := [some (.inr (.inr 66)), some (.inl c1), some (.inl c2), some (.inl c3), some (.inl (cv (cmpT h0 c1 c2 c3) e.toNat : Int)), some (.inl e), some (.inl (h 77 ((12 * c2) + e))), some (.inl (h 77 ((12 * c3) + e)))]) (sk' := [.inl (h 77 ((12 * c3) + e)), .inl (h 77 ((12 * c2) + e)), .inl (cv (cmpT h0 c1 c2 c3) e.toNat : Int)]) (h' := h) rfl ?_
          refine E_b (x := (.if_icmp .ge 20, 40, [], [])) rfl rfl (fun c31 => ?_) (fun c31 => ?_)
          · rw [c_ge (by first | assumption | (refine ⟨?_, ?_⟩ <;> omega) | (simp only [xr] at *; omega)) (by first | assumption | (refine ⟨?_, ?_⟩ <;> omega) | (simp only [xr] at *; omega))] at c31
            simp only [decide_eq_true_eq, decide_eq_false_iff_not, Decidable.not_not] at c31
            show xEx G0 cdX12_compared (some .int) (xRn G0 MT d) Q b 40 [some (.inr (.inr 66)), some (.inl c1), some (.inl c2), some (.inl c3), some (.inl (cv (cmpT h0 c1 c2 c3) e.toNat : Int)), some (.inl e), some (.inl (h 77 ((12 * c2) + e))), some (.inl (h 77 ((12 * c3) + e)))] [.inl (cv (cmpT h0 c1 c2 c3) e.toNat : Int)] h
            refine E_s 2 (i' := 42) (ls' := [some (.inr (.inr 66)), some (.inl c1), some (.inl c2), some (.inl c3), some (.inl (cv (cmpT h0 c1 c2 c3) e.toNat : Int)), some (.inl e), some (.inl (h 77 ((12 * c2) + e))), some (.inl (h 77 ((12 * c3) + e)))]) (sk' := [.inl (xor_ (cv (cmpT h0 c1 c2 c3) e.toNat : Int) 0)]) (h' := h) rfl ?_
            rw [cv_z (p := cmpT h0 c1 c2 c3) he0 (by omega) (by unfold cmpT; rw [if_pos c28, ← g1, ← g2]; first | exact c31 | exact c35 | exact Int.not_lt.mpr c31 | exact Int.not_le.mp c31)]
            refine E_s 3 (i' := 4) (ls' := [some (.inr (.inr 66)), some (.inl c1), some (.inl c2), some (.inl c3), some (.inl (cv (cmpT h0 c1 c2 c3) (e + 1).toNat : Int)), some (.inl (e + 1)), some (.inl (h 77 ((12 * c2) + e))), some (.inl (h 77 ((12 * c3) + e)))]) (sk' := []) (h' := h) rfl ?_
            exact ih4 (e + 1) _ _ (by omega) (by omega) (by omega)
          · rw [c_ge (by first | assumption | (refine ⟨?_, ?_⟩ <;> omega) | (simp only [xr] at *; omega)) (by first | assumption | (refine ⟨?_, ?_⟩ <;> omega) | (simp only [xr] at *; omega))] at c31
            simp only [decide_eq_true_eq, decide_eq_false_iff_not, Decidable.not_not] at c31
            show xEx G0 cdX12_compared (some .int) (xRn G0 MT d) Q b 32 [some (.inr (.inr 66)), some (.inl c1), some (.inl c2), some (.inl c3), some (.inl (cv (cmpT h0 c1 c2 c3) e.toNat : Int)), some (.inl e), some (.inl (h 77 ((12 * c2) + e))), some (.inl (h 77 ((12 * c3) + e)))] [.inl (cv (cmpT h0 c1 c2 c3) e.toNat : Int)] h
            refine E_s 6 (i' := 42) (ls' := [some (.inr (.inr 66)), some (.inl c1), some (.inl c2), some (.inl c3), some (.inl (cv (cmpT h0 c1 c2 c3) e.toNat : Int)), some (.inl e), some (.inl (h 77 ((12 * c2) + e))), some (.inl (h 77 ((12 * c3) + e)))]) (sk' := [.inl (xor_ (cv (cmpT h0 c1 c2 c3) e.toNat : Int) (xshl 1 e))]) (h' := h) rfl ?_
            rw [cv_s1 (p := cmpT h0 c1 c2 c3) he0 (by omega) (by unfold cmpT; rw [if_pos c28, ← g1, ← g2]; first | exact c31 | exact c35 | exact Int.not_lt.mpr c31 | exact Int.not_le.mp c31)]
            refine E_s 3 (i' := 4) (ls' := [some (.inr (.inr 66)), some (.inl c1), some (.inl c2), some (.inl c3), some (.inl (cv (cmpT h0 c1 c2 c3) (e + 1).toNat : Int)), some (.inl (e + 1)), some (.inl (h 77 ((12 * c2) + e))), some (.inl (h 77 ((12 * c3) + e)))]) (sk' := []) (h' := h) rfl ?_
            exact ih4 (e + 1) _ _ (by omega) (by omega) (by omega)
  have e0 := key4 _ 0 none none (by omega) (by omega) (Nat.lt_succ_self _)
  skip
  exact e0
