theorem num_of {h h' : xH} {K : Int} (e1 : h' 39 = h 39) (e2 : h' 43 = h 43) (c : num h K) : num h' K := by
  unfold num at *
  rw [e1, e2]
  exact c
theorem num_app {h h' : xH} {K v : Int} (c : num h K) (hK : 0 ≤ K) (hv : 0 ≤ v ∧ v < 4096) (hn : ∀ k, 0 ≤ k → k < K → h 39 k ≠ v) (e1 : ∀ j, h' 39 j = if j = K then v else h 39 j) (e2 : ∀ j, h' 43 j = if j = v then K else h 43 j) : num h' (K + 1) := by
  have es : ∀ j, j < K → h' 39 j = h 39 j := fun j hj => by rw [e1, if_neg (by omega)]
  have eK : h' 39 K = v := by rw [e1, if_pos rfl]
  refine ⟨fun w h1 h2 => ?_, fun k h1 h2 => ?_, fun j k h1 h2 h3 => ?_⟩
  · rw [e2]
    by_cases z : w = v
    · rw [if_pos z]
      exact Or.inr ⟨hK, by omega, by rw [eK, z], fun k q1 q2 => by omega⟩
    · rw [if_neg z]
      rcases c.1 w h1 h2 with ⟨a, b⟩ | ⟨a, b, e, f⟩
      · refine Or.inl ⟨a, fun k q1 q2 => ?_⟩
        rcases Int.lt_or_eq_of_le (show k ≤ K by omega) with q | q
        · rw [es k q]; exact b k q1 q
        · rw [q, eK]; exact fun y => z y.symm
      · refine Or.inr ⟨a, by omega, by rw [es _ b]; exact e, fun k q1 q2 => ?_⟩
        rcases Int.lt_or_eq_of_le (show k ≤ K by omega) with q | q
        · rw [es k q]; exact f k q1 q
        · rw [q, eK]; exact fun y => z y.symm
  · rcases Int.lt_or_eq_of_le (show k ≤ K by omega) with q | q
    · rw [es k q]; exact c.2.1 k h1 q
    · rw [q, eK]; exact hv
  · rcases Int.lt_or_eq_of_le (show k ≤ K by omega) with q | q
    · rw [es k q, es j (by omega)]; exact c.2.2 j k h1 h2 q
    · rw [q, eK, es j (by omega)]; exact hn j h1 (by omega)
theorem LT_m {h T : xH} {r c1 c2 c3 : Int} (hR : RCT h (mad T)) (hr : 0 ≤ r ∧ r < T 0 0) : RCT (xup (xup (if h 40 r = 0 then xup (xup (xup h 34 r c1) 35 r c2) 36 r c3 else h) 40 r (h 40 r + 1)) 28 10 (h 28 10 + 1)) (mrgS (mad T) r c1 c2 c3) := by
  obtain ⟨a1, a2, a3, a4, a5, a6, a7, a8⟩ := hR
  have h7 : h 40 r = T 7 r := (a7 r hr.1 hr.2).2.2.2.2.2.1
  have e00 : ∀ j, j ≠ 1 → mrgS (mad T) r c1 c2 c3 0 j = (mad T) 0 j := fun j q => mrg_0 T r c1 c2 c3 q
  have e01 : mrgS (mad T) r c1 c2 c3 0 1 = T 0 1 + 1 := by unfold mrgS; rw [xup_s]; rfl
  have hh : ∀ (a : Nat) (j : Int), a ≠ 34 → a ≠ 35 → a ≠ 36 → (if h 40 r = 0 then xup (xup (xup h 34 r c1) 35 r c2) 36 r c3 else h) a j = h a j := by
    intro a j q1 q2 q3
    split
    · simp [xup, q1, q2, q3]
    · rfl
  refine ⟨?_, ?_, ?_, ?_, ?_, ?_, fun k hk0 hk9 => ?_, ?_⟩
  · rw [e00 0 (by decide), ← a1, xup_j (by decide), xup_a (by decide), hh _ _ (by decide) (by decide) (by decide)]
  · rw [e01, xup_s, a2]; rfl
  · rw [e00 2 (by decide), ← a3, xup_j (by decide), xup_a (by decide), hh _ _ (by decide) (by decide) (by decide)]
  · rw [e00 3 (by decide), ← a4, xup_j (by decide), xup_a (by decide), hh _ _ (by decide) (by decide) (by decide)]
  · rw [e00 4 (by decide), ← a5, xup_j (by decide), xup_a (by decide), hh _ _ (by decide) (by decide) (by decide)]
  · rw [e00 5 (by decide), ← a6, xup_j (by decide), xup_a (by decide), hh _ _ (by decide) (by decide) (by decide)]
  · rw [e00 0 (by decide)] at hk9
    obtain ⟨b1, b2, b3, b4, b5, b6, b7, b8⟩ := a7 k hk0 hk9
    rw [mrg_o T r c1 c2 c3 k (a := 1) (by decide) (by decide) (by decide) (by decide) (by decide), mrg_o T r c1 c2 c3 k (a := 2) (by decide) (by decide) (by decide) (by decide) (by decide), mrg_o T r c1 c2 c3 k (a := 3) (by decide) (by decide) (by decide) (by decide) (by decide), mrg_o T r c1 c2 c3 k (a := 4) (by decide) (by decide) (by decide) (by decide) (by decide), mrg_o T r c1 c2 c3 k (a := 6) (by decide) (by decide) (by decide) (by decide) (by decide), mrg_o T r c1 c2 c3 k (a := 11) (by decide) (by decide) (by decide) (by decide) (by decide), mrg_7]
    obtain ⟨q1, q2, q3⟩ := mrg_f T r c1 c2 c3 k
    rw [q1, q2, q3]
    refine ⟨?_, ?_, ?_, ?_, ?_, ?_, ?_, fun hne => ?_⟩
    · rw [xup_a (by decide), xup_a (by decide), hh _ _ (by decide) (by decide) (by decide)]; exact b1
    · rw [xup_a (by decide), xup_a (by decide), hh _ _ (by decide) (by decide) (by decide)]; exact b2
    · rw [xup_a (by decide), xup_a (by decide), hh _ _ (by decide) (by decide) (by decide)]; exact b3
    · rw [xup_a (by decide), xup_a (by decide), hh _ _ (by decide) (by decide) (by decide)]; exact b4
    · rw [xup_a (by decide), xup_a (by decide), hh _ _ (by decide) (by decide) (by decide)]; exact b5
    · rw [xup_a (by decide)]
      by_cases e : k = r
      · subst e; rw [xup_s, if_pos rfl, h7]
      · rw [xup_j e, if_neg e, hh _ _ (by decide) (by decide) (by decide)]; exact b6
    · rw [xup_a (by decide), xup_a (by decide), hh _ _ (by decide) (by decide) (by decide)]; exact b7
    · rw [xup_a (by decide), xup_a (by decide), xup_a (by decide), xup_a (by decide), xup_a (by decide), xup_a (by decide)]
      by_cases hm0 : T 7 r = 0
      · rw [if_pos (show h 40 r = 0 by rw [h7]; exact hm0)]
        by_cases e : k = r
        · subst e
          rw [if_pos ⟨rfl, hm0⟩, if_pos ⟨rfl, hm0⟩, if_pos ⟨rfl, hm0⟩]
          simp [xup]
        · rw [if_neg (fun z => e z.1), if_neg (fun z => e z.1), if_neg (fun z => e z.1)]
          rw [if_neg e] at hne
          simp [xup, e]
          exact b8 hne
      · rw [if_neg (show ¬ h 40 r = 0 by rw [h7]; exact hm0), if_neg (fun z => hm0 z.2), if_neg (fun z => hm0 z.2), if_neg (fun z => hm0 z.2)]
        refine b8 ?_
        by_cases e : k = r
        · rw [e]; exact hm0
        · rw [if_neg e] at hne; exact hne
  · rw [e00 0 (by decide)]
    refine num_of ?_ ?_ a8
    · funext j; rw [xup_a (by decide), xup_a (by decide), hh _ _ (by decide) (by decide) (by decide)]
    · funext j; rw [xup_a (by decide), xup_a (by decide), hh _ _ (by decide) (by decide) (by decide)]
theorem LT_a {h T : xH} {c1 c2 c3 us v : Int} (hR : RCT h T) (hK : 0 ≤ T 0 0) (hv : h 28 20 = v) (hv9 : 0 ≤ v ∧ v < 4096) (hnew : ∀ k, 0 ≤ k → k < T 0 0 → T 6 k ≠ v) :
    RCT (xup (xup (xup (xup (xup (xup (xup (xup (xup h 30 (h 28 9) c1) 31 (h 28 9) c2) 32 (h 28 9) c3) 37 (h 28 9) (h 28 15)) 38 (h 28 9) us) 40 (h 28 9) 0) 39 (h 28 9) (h 28 20)) 43 (h 28 20) (h 28 9)) 28 9 (h 28 9 + 1)) (put0 T (h 28 15) c1 c2 c3 v us) := by
  obtain ⟨a1, a2, a3, a4, a5, a6, a7, a8⟩ := hR
  refine ⟨?_, a2, a3, a4, a5, a6, fun k hk0 hk9 => ?_, ?_⟩
  · show h 28 9 + 1 = T 0 0 + 1
    rw [a1]
  · have hk99 : k < T 0 0 + 1 := hk9
    simp only [a1, hv]
    by_cases e : k = T 0 0
    · subst e
      simp [xup, put0]
    · obtain ⟨b1, b2, b3, b4, b5, b6, b7, b8⟩ := a7 k hk0 (by omega)
      simp only [xup, put0, e, if_false]
      simp
      exact ⟨b1, b2, b3, b4, b5, b6, b7, b8⟩
  · show num _ (T 0 0 + 1)
    refine num_app a8 hK hv9 (fun k z1 z2 => by rw [(a7 k z1 z2).2.2.2.2.1]; exact hnew k z1 z2) (fun j => ?_) (fun j => ?_)
    · simp only [a1, hv]; simp [xup]
    · simp only [a1, hv]; simp [xup]
set_option maxHeartbeats 1000000 in
theorem c_offerT (d b : Nat) (h T : xH) (c1 c2 c3 : Int) (hB : BT h) (hR : RCT h T) (hW : WT (h 1 2) T) (ho : T 0 4 = 0) (hc : okt h T c1 c2 c3) {Q : xO → xH → Prop} (hQ : ∀ h', RCT h' (offT h T c1 c2 c3) → FT h h' → Q (.inl (some (.inl (if (offT h T c1 c2 c3) 0 4 = 0 then 1 else 0)))) h') : xRn G0 MT (d + 4) b 34 [.inr (.inr 28), .inl c1, .inl c2, .inl c3] h Q := by
  refine R_of (M := mX3_offer) rfl (Nat.le_of_ble_eq_true rfl) ?_
  show xEx G0 cdX3_offer (some .boolean) (xRn G0 MT (d + 3)) Q b 0 [some (.inr (.inr 28)), some (.inl c1), some (.inl c2), some (.inl c3), none] [] h
  have hR0 := hR
  obtain ⟨a1, a2, a3, a4, a5, a6, a7, a8⟩ := hR0
  have hW0 := hW
  obtain ⟨w1, w2, w3, w4, w5, w6, w7, w8, w9, w10, w11, w12, w13, w14⟩ := hW0
  refine E_s 2 (i' := 2) (ls' := [some (.inr (.inr 28)), some (.inl c1), some (.inl c2), some (.inl c3), none]) (sk' := [.inl (h 28 16)]) (h' := h) rfl ?_
  refine E_b (x := (.ifCond .ne 10, 8, [], [])) rfl rfl (fun cb2 => ?_) (fun cb2 => ?_)
  · rw [c_ne (by first | exact ⟨by omega, by omega⟩ | (rw [a4]; exact ⟨by omega, by omega⟩)) (by first | exact ⟨by omega, by omega⟩ | (rw [a4]; exact ⟨by omega, by omega⟩))] at cb2
    simp only [decide_eq_true_eq, decide_eq_false_iff_not, Decidable.not_not] at cb2
    show xEx G0 cdX3_offer (some .boolean) (xRn G0 MT (d + 3)) Q b 8 [some (.inr (.inr 28)), some (.inl c1), some (.inl c2), some (.inl c3), none] [] h
    have h3 : T 0 3 ≠ 0 := by rw [← a4]; exact cb2
    refine E_s 16 (i' := 24) (ls' := [some (.inr (.inr 28)), some (.inl c1), some (.inl c2), some (.inl c3), none]) (sk' := [.inl c3, .inl c2, .inl c1, .inr (.inr 28)]) (h' := (xup (xup h 28 16 ((h 28 16) - 1)) 28 12 ((h 28 12) + 1))) rfl ?_
    refine E_cv (x := (.invokevirtual 119, 3, [(1, 11), (7, 83)], [1])) (q := fun h9 => h9 = xup (xup (xup h 28 16 ((h 28 16) - 1)) 28 12 ((h 28 12) + 1)) 28 20 (oT h T c1 c2 c3)) rfl rfl (Nat.le_of_ble_eq_true rfl) ((by have h9 := c_reckonT d 0 (xup (xup h 28 16 ((h 28 16) - 1)) 28 12 ((h 28 12) + 1)) T c1 c2 c3 hB ⟨w1, w2⟩ (fun k z1 z2 => (a7 k z1 z2).2.2.2.2.1) hc (Q := fun o h9 => o = .inl none ∧ h9 = xup (xup (xup h 28 16 ((h 28 16) - 1)) 28 12 ((h 28 12) + 1)) 28 20 (oT h T c1 c2 c3)) ⟨rfl, rfl⟩; exact h9)) (fun h9 e9 => ?_)
    subst e9
    show xEx G0 cdX3_offer (some .boolean) (xRn G0 MT (d + 3)) Q b 25 [some (.inr (.inr 28)), some (.inl c1), some (.inl c2), some (.inl c3), none] [] (xup (xup (xup h 28 16 ((h 28 16) - 1)) 28 12 ((h 28 12) + 1)) 28 20 (oT h T c1 c2 c3))
    have hv9 := oT_r hB hW hc
    have hpw := pw31 hB.1.2
    have hR1 : RCT (xup (xup (xup h 28 16 ((h 28 16) - 1)) 28 12 ((h 28 12) + 1)) 28 20 (oT h T c1 c2 c3)) (mad T) := ⟨a1, a2, by show h 28 12 + 1 = T 0 2 + 1; rw [a3], by show h 28 16 - 1 = T 0 3 - 1; rw [a4], a5, a6, a7, a8⟩
    have hF1 : FT h (xup (xup (xup h 28 16 ((h 28 16) - 1)) 28 12 ((h 28 12) + 1)) 28 20 (oT h T c1 c2 c3)) := FT.up (FT.up (FT.up (FT.rf h) (by decide) (by decide)) (by decide) (by decide)) (by decide) (by decide)
    generalize hH1 : xup (xup (xup h 28 16 ((h 28 16) - 1)) 28 12 ((h 28 12) + 1)) 28 20 (oT h T c1 c2 c3) = h1 at *
    have hx1 : h1 1 = h 1 := by rw [← hH1]; rfl
    have hrk : h1 28 20 = (oT h T c1 c2 c3) := by rw [← hH1]; rfl
    have hK1 : h1 28 9 = T 0 0 := hR1.1
    have hsn : h1 28 15 = h 28 15 := by rw [← hH1]; rfl
    have hge : h1 9 = h 9 := by rw [← hH1]; rfl
    have hgu : h1 19 = h 19 := by rw [← hH1]; rfl
    show xEx G0 cdX3_offer (some .boolean) (xRn G0 MT (d + 3)) Q b 25 [some (.inr (.inr 28)), some (.inl c1), some (.inl c2), some (.inl c3), none] [] h1
    refine E_s 1 (i' := 26) (ls' := [some (.inr (.inr 28)), some (.inl c1), some (.inl c2), some (.inl c3), none]) (sk' := [.inr (.inr 28)]) (h' := h1) rfl ?_
    refine E_cp (x := (.invokevirtual 123, 0, [(1, 13), (7, 85)], [1])) (q := fun r1 h9 => ((r1 = 1 ∧ (h1 28 20 = 0 ∨ h1 28 20 = xshl 1 (h1 1 2) - 1)) ∨ (r1 = 0 ∧ ¬ (h1 28 20 = 0 ∨ h1 28 20 = xshl 1 (h1 1 2) - 1))) ∧ h1 = h9) rfl rfl (Nat.le_of_ble_eq_true rfl) (c_saysNothingT (d + 1) 0 h1 (by rw [hx1]; exact hB.1) (by rw [hrk]; omega) (fun z9 => ⟨1, rfl, Or.inl ⟨rfl, z9⟩, rfl⟩) (fun z9 => ⟨0, rfl, Or.inr ⟨rfl, z9⟩, rfl⟩)) (fun r1 h9 hs1 => ?_)
    obtain ⟨hs1, rfl⟩ := hs1
    show xEx G0 cdX3_offer (some .boolean) (xRn G0 MT (d + 3)) Q b 27 [some (.inr (.inr 28)), some (.inl c1), some (.inl c2), some (.inl c3), none] [.inl r1] h1
    rw [hrk, hx1] at hs1
    refine E_b (x := (.ifCond .eq 15, 36, [], [])) rfl rfl (fun cb27 => ?_) (fun cb27 => ?_)
    · rw [c_eq (by first | exact ⟨by omega, by omega⟩ | (rcases hs1 with q | q <;> exact ⟨by omega, by omega⟩)) (by first | exact ⟨by omega, by omega⟩ | (rcases hs1 with q | q <;> exact ⟨by omega, by omega⟩))] at cb27
      simp only [decide_eq_true_eq, decide_eq_false_iff_not, Decidable.not_not] at cb27
      show xEx G0 cdX3_offer (some .boolean) (xRn G0 MT (d + 3)) Q b 36 [some (.inr (.inr 28)), some (.inl c1), some (.inl c2), some (.inl c3), none] [] h1
      refine E_s 1 (i' := 37) (ls' := [some (.inr (.inr 28)), some (.inl c1), some (.inl c2), some (.inl c3), none]) (sk' := [.inr (.inr 28)]) (h' := h1) rfl ?_
      have hni : ¬ ((oT h T c1 c2 c3) = 0 ∨ (oT h T c1 c2 c3) = xshl 1 (h 1 2) - 1) := by
        rcases hs1 with q | q
        · omega
        · exact q.2
      have hlst := hR1.2.2.2.2.2.2.2.1 (oT h T c1 c2 c3) (by omega) (by omega)
      have hq : (h1 43 (oT h T c1 c2 c3) = -1 ∧ ∀ k, 0 ≤ k → k < T 0 0 → T 6 k ≠ (oT h T c1 c2 c3)) ∨ (0 ≤ h1 43 (oT h T c1 c2 c3) ∧ h1 43 (oT h T c1 c2 c3) < T 0 0 ∧ T 6 (h1 43 (oT h T c1 c2 c3)) = (oT h T c1 c2 c3)) := by
        rcases hlst with ⟨q1, q2⟩ | ⟨q1, q2, q3, -⟩
        · exact Or.inl ⟨q1, fun k z1 z2 z3 => q2 k z1 z2 (((hR1.2.2.2.2.2.2.1 k z1 z2).2.2.2.2.1).trans z3)⟩
        · exact Or.inr ⟨q1, q2, ((hR1.2.2.2.2.2.2.1 _ q1 q2).2.2.2.2.1).symm.trans q3⟩
      refine E_ci (x := (.invokevirtual 127, 0, [(1, 14), (7, 86)], [1])) (r := (h1 43 (oT h T c1 c2 c3))) (h' := h1) rfl rfl (Nat.le_of_ble_eq_true rfl) (c_holderT (d + 2) 0 h1 (by rw [hrk]; omega) ⟨by rw [hrk], rfl⟩) ?_
      show xEx G0 cdX3_offer (some .boolean) (xRn G0 MT (d + 3)) Q b 38 [some (.inr (.inr 28)), some (.inl c1), some (.inl c2), some (.inl c3), none] [.inl (h1 43 (oT h T c1 c2 c3))] h1
      generalize h1 43 (oT h T c1 c2 c3) = r at hq
      refine E_s 3 (i' := 41) (ls' := [some (.inr (.inr 28)), some (.inl c1), some (.inl c2), some (.inl c3), some (.inl r)]) (sk' := [.inl (-1), .inl r]) (h' := h1) rfl ?_
      refine E_b (x := (.if_icmp .eq 14, 50, [], [])) rfl rfl (fun cb41 => ?_) (fun cb41 => ?_)
      · rw [c_eq (by first | exact ⟨by omega, by omega⟩ | (rcases hq with hq | hq <;> exact ⟨by omega, by omega⟩)) (by first | exact ⟨by omega, by omega⟩ | (rcases hq with hq | hq <;> exact ⟨by omega, by omega⟩))] at cb41
        simp only [decide_eq_true_eq, decide_eq_false_iff_not, Decidable.not_not] at cb41
        show xEx G0 cdX3_offer (some .boolean) (xRn G0 MT (d + 3)) Q b 50 [some (.inr (.inr 28)), some (.inl c1), some (.inl c2), some (.inl c3), some (.inl r)] [] h1
        have hnew : ∀ k, 0 ≤ k → k < T 0 0 → T 6 k ≠ (oT h T c1 c2 c3) := by
          rcases hq with hq | hq
          · exact hq.2
          · omega
        have hfn : fnd (fun k => T 6 k = (oT h T c1 c2 c3)) (T 0 0).toNat = -1 := fnd_no hnew
        refine E_s 5 (i' := 55) (ls' := [some (.inr (.inr 28)), some (.inl c1), some (.inl c2), some (.inl c3), some (.inl r)]) (sk' := [.inl 150, .inl (h1 28 9)]) (h' := h1) rfl ?_
        refine E_b (x := (.if_icmp .lt 10, 61, [], [])) rfl rfl (fun cb55 => ?_) (fun cb55 => ?_)
        · rw [c_lt (by first | exact ⟨by omega, by omega⟩ | (rw [hK1]; exact ⟨by omega, by omega⟩)) (by first | exact ⟨by omega, by omega⟩ | (rw [hK1]; exact ⟨by omega, by omega⟩))] at cb55
          simp only [decide_eq_true_eq, decide_eq_false_iff_not, Decidable.not_not] at cb55
          show xEx G0 cdX3_offer (some .boolean) (xRn G0 MT (d + 3)) Q b 61 [some (.inr (.inr 28)), some (.inl c1), some (.inl c2), some (.inl c3), some (.inl r)] [] h1
          refine E_s 7 (i' := 68) (ls' := [some (.inr (.inr 28)), some (.inl c1), some (.inl c2), some (.inl c3), some (.inl r)]) (sk' := [.inl c3, .inl c2, .inl c1, .inl (h1 28 9), .inr (.inr 29)]) (h' := h1) rfl ?_
          refine E_cv (x := (.invokevirtual 134, 4, [(2, 23)], [0])) (q := fun h9 => h9 = xup (xup (xup h1 30 (h1 28 9) c1) 31 (h1 28 9) c2) 32 (h1 28 9) c3) rfl rfl (Nat.le_of_ble_eq_true rfl) (c_put_gtf (d + 2) 0 h1 (h1 28 9) c1 c2 c3 (by omega) ⟨rfl, rfl⟩) (fun h9 e9 => ?_)
          subst e9
          show xEx G0 cdX3_offer (some .boolean) (xRn G0 MT (d + 3)) Q b 69 [some (.inr (.inr 28)), some (.inl c1), some (.inl c2), some (.inl c3), some (.inl r)] [] (xup (xup (xup h1 30 (h1 28 9) c1) 31 (h1 28 9) c2) 32 (h1 28 9) c3)
          refine E_s 6 (i' := 75) (ls' := [some (.inr (.inr 28)), some (.inl c1), some (.inl c2), some (.inl c3), some (.inl r)]) (sk' := [.inl (h1 28 15), .inl (h1 28 9), .inr (.inr 37)]) (h' := (xup (xup (xup h1 30 (h1 28 9) c1) 31 (h1 28 9) c2) 32 (h1 28 9) c3)) rfl ?_
          refine E_sd (x := (.iastore, 0, [], [])) (ty := .int) (n := 150) (y := (h1 28 15)) rfl rfl rfl (by omega) (by omega) (trivial) ?_
          show xEx G0 cdX3_offer (some .boolean) (xRn G0 MT (d + 3)) Q b 76 [some (.inr (.inr 28)), some (.inl c1), some (.inl c2), some (.inl c3), some (.inl r)] [] (xup (xup (xup (xup h1 30 (h1 28 9) c1) 31 (h1 28 9) c2) 32 (h1 28 9) c3) 37 (h1 28 9) (h1 28 15))
          refine E_s 8 (i' := 84) (ls' := [some (.inr (.inr 28)), some (.inl c1), some (.inl c2), some (.inl c3), some (.inl r)]) (sk' := [.inl c3, .inl c2, .inl c1, .inr (.inr 28), .inl (h1 28 9), .inr (.inr 38)]) (h' := (xup (xup (xup (xup h1 30 (h1 28 9) c1) 31 (h1 28 9) c2) 32 (h1 28 9) c3) 37 (h1 28 9) (h1 28 15))) rfl ?_
          have hus : usT (xup (xup (xup (xup h1 30 (h1 28 9) c1) 31 (h1 28 9) c2) 32 (h1 28 9) c3) 37 (h1 28 9) (h1 28 15)) T c1 c2 c3 = usT h T c1 c2 c3 := by
            unfold usT
            show (if c1 = 2 then T 11 c2 else if c1 = 3 then T 11 c2 + T 11 c3 else h1 19 c2 + h1 19 c3) = _
            rw [hgu]
          refine E_cl (x := (.invokevirtual 137, 3, [(1, 18), (7, 89)], [1])) (r := usT h T c1 c2 c3) (h' := xup (xup (xup (xup h1 30 (h1 28 9) c1) 31 (h1 28 9) c2) 32 (h1 28 9) c3) 37 (h1 28 9) (h1 28 15)) rfl rfl (Nat.le_of_ble_eq_true rfl) (c_usageOfT (d + 2) 0 (xup (xup (xup (xup h1 30 (h1 28 9) c1) 31 (h1 28 9) c2) 32 (h1 28 9) c3) 37 (h1 28 9) (h1 28 15)) T c1 c2 c3 ⟨w1, w2⟩ (by show h1 9 9 ≤ 300; rw [hge]; exact hB.2.1.2) (fun k z1 z2 => by
            show h1 38 k = T 11 k
            exact (hR1.2.2.2.2.2.2.1 k z1 z2).2.2.2.2.2.2.1) (by unfold okt; show (0 ≤ c1 ∧ c1 ≤ 1 ∧ 0 ≤ c2 ∧ c2 < h1 9 9 ∧ 0 ≤ c3 ∧ c3 < h1 9 9) ∨ _; rw [hge]; exact hc) ⟨by rw [hus], rfl⟩) ?_
          show xEx G0 cdX3_offer (some .boolean) (xRn G0 MT (d + 3)) Q b 85 [some (.inr (.inr 28)), some (.inl c1), some (.inl c2), some (.inl c3), some (.inl r)] [.inr (.inl (usT h T c1 c2 c3)), .inl (h1 28 9), .inr (.inr 38)] (xup (xup (xup (xup h1 30 (h1 28 9) c1) 31 (h1 28 9) c2) 32 (h1 28 9) c3) 37 (h1 28 9) (h1 28 15))
          refine E_sd (x := (.lastore, 0, [], [])) (ty := .long) (n := 150) (y := (usT h T c1 c2 c3)) rfl rfl rfl (by omega) (by omega) (trivial) ?_
          show xEx G0 cdX3_offer (some .boolean) (xRn G0 MT (d + 3)) Q b 86 [some (.inr (.inr 28)), some (.inl c1), some (.inl c2), some (.inl c3), some (.inl r)] [] (xup (xup (xup (xup (xup h1 30 (h1 28 9) c1) 31 (h1 28 9) c2) 32 (h1 28 9) c3) 37 (h1 28 9) (h1 28 15)) 38 (h1 28 9) (usT h T c1 c2 c3))
          refine E_s 5 (i' := 91) (ls' := [some (.inr (.inr 28)), some (.inl c1), some (.inl c2), some (.inl c3), some (.inl r)]) (sk' := [.inl 0, .inl (h1 28 9), .inr (.inr 40)]) (h' := (xup (xup (xup (xup (xup h1 30 (h1 28 9) c1) 31 (h1 28 9) c2) 32 (h1 28 9) c3) 37 (h1 28 9) (h1 28 15)) 38 (h1 28 9) (usT h T c1 c2 c3))) rfl ?_
          refine E_sd (x := (.iastore, 0, [], [])) (ty := .int) (n := 150) (y := 0) rfl rfl rfl (by omega) (by omega) (trivial) ?_
          show xEx G0 cdX3_offer (some .boolean) (xRn G0 MT (d + 3)) Q b 92 [some (.inr (.inr 28)), some (.inl c1), some (.inl c2), some (.inl c3), some (.inl r)] [] (xup (xup (xup (xup (xup (xup h1 30 (h1 28 9) c1) 31 (h1 28 9) c2) 32 (h1 28 9) c3) 37 (h1 28 9) (h1 28 15)) 38 (h1 28 9) (usT h T c1 c2 c3)) 40 (h1 28 9) 0)
          refine E_s 3 (i' := 95) (ls' := [some (.inr (.inr 28)), some (.inl c1), some (.inl c2), some (.inl c3), some (.inl r)]) (sk' := [.inl (h1 28 9), .inr (.inr 28)]) (h' := (xup (xup (xup (xup (xup (xup h1 30 (h1 28 9) c1) 31 (h1 28 9) c2) 32 (h1 28 9) c3) 37 (h1 28 9) (h1 28 15)) 38 (h1 28 9) (usT h T c1 c2 c3)) 40 (h1 28 9) 0)) rfl ?_
          refine E_cv (x := (.invokevirtual 141, 1, [(1, 16), (7, 87)], [1])) (q := fun h9 => h9 = xup (xup (xup (xup (xup (xup (xup (xup h1 30 (h1 28 9) c1) 31 (h1 28 9) c2) 32 (h1 28 9) c3) 37 (h1 28 9) (h1 28 15)) 38 (h1 28 9) (usT h T c1 c2 c3)) 40 (h1 28 9) 0) 39 (h1 28 9) (h1 28 20)) 43 (h1 28 20) (h1 28 9)) rfl rfl (Nat.le_of_ble_eq_true rfl) (c_settleT (d + 2) 0 (xup (xup (xup (xup (xup (xup h1 30 (h1 28 9) c1) 31 (h1 28 9) c2) 32 (h1 28 9) c3) 37 (h1 28 9) (h1 28 15)) 38 (h1 28 9) (usT h T c1 c2 c3)) 40 (h1 28 9) 0) (h1 28 9) (by omega) (by show 0 ≤ h1 28 20 ∧ h1 28 20 < 4096; rw [hrk]; omega) ⟨rfl, rfl⟩) (fun h9 e9 => ?_)
          subst e9
          show xEx G0 cdX3_offer (some .boolean) (xRn G0 MT (d + 3)) Q b 96 [some (.inr (.inr 28)), some (.inl c1), some (.inl c2), some (.inl c3), some (.inl r)] [] (xup (xup (xup (xup (xup (xup (xup (xup h1 30 (h1 28 9) c1) 31 (h1 28 9) c2) 32 (h1 28 9) c3) 37 (h1 28 9) (h1 28 15)) 38 (h1 28 9) (usT h T c1 c2 c3)) 40 (h1 28 9) 0) 39 (h1 28 9) (h1 28 20)) 43 (h1 28 20) (h1 28 9))
          refine E_s 7 (i' := 103) (ls' := [some (.inr (.inr 28)), some (.inl c1), some (.inl c2), some (.inl c3), some (.inl r)]) (sk' := [.inl 1]) (h' := (xup (xup (xup (xup (xup (xup (xup (xup (xup h1 30 (h1 28 9) c1) 31 (h1 28 9) c2) 32 (h1 28 9) c3) 37 (h1 28 9) (h1 28 15)) 38 (h1 28 9) (usT h T c1 c2 c3)) 40 (h1 28 9) 0) 39 (h1 28 9) (h1 28 20)) 43 (h1 28 20) (h1 28 9)) 28 9 ((h1 28 9) + 1))) rfl ?_
          exact E_ret (x := (.ireturn, 0, [], [])) (v := some (.inl 1)) rfl (Or.inr ⟨rfl, Or.inr rfl⟩) (by
            rw [offT_a ho h3 hni hfn (by rw [← hK1]; omega)] at hQ
            have hS4 : put0 (mad T) (h 28 15) c1 c2 c3 (oT h T c1 c2 c3) (usT h T c1 c2 c3) 0 4 = 0 := ho
            rw [hS4] at hQ
            have key := LT_a (c1 := c1) (c2 := c2) (c3 := c3) (us := usT h T c1 c2 c3) hR1 w1 hrk (by omega) hnew
            rw [← hsn] at hQ
            refine hQ _ key (FT.up (FT.up (FT.up (FT.up (FT.up (FT.up (FT.up (FT.up (FT.up hF1 (by decide) (fun z => absurd z (by decide))) (by decide) (fun z => absurd z (by decide))) (by decide) (fun z => absurd z (by decide))) (by decide) (fun z => absurd z (by decide))) (by decide) (fun z => absurd z (by decide))) (by decide) (fun z => absurd z (by decide))) (by decide) (fun z => absurd z (by decide))) (by decide) (fun z => absurd z (by decide))) (by decide) (by decide)))
        · rw [c_lt (by first | exact ⟨by omega, by omega⟩ | (rw [hK1]; exact ⟨by omega, by omega⟩)) (by first | exact ⟨by omega, by omega⟩ | (rw [hK1]; exact ⟨by omega, by omega⟩))] at cb55
          simp only [decide_eq_true_eq, decide_eq_false_iff_not, Decidable.not_not] at cb55
          show xEx G0 cdX3_offer (some .boolean) (xRn G0 MT (d + 3)) Q b 56 [some (.inr (.inr 28)), some (.inl c1), some (.inl c2), some (.inl c3), some (.inl r)] [] h1
          refine E_s 4 (i' := 60) (ls' := [some (.inr (.inr 28)), some (.inl c1), some (.inl c2), some (.inl c3), some (.inl r)]) (sk' := [.inl 0]) (h' := (xup h1 28 17 1)) rfl ?_
          exact E_ret (x := (.ireturn, 0, [], [])) (v := some (.inl 0)) rfl (Or.inr ⟨rfl, Or.inl rfl⟩) (by
            rw [offT_f ho h3 hni hfn (by rw [← hK1]; omega)] at hQ
            obtain ⟨b1, b2, b3, b4, b5, b6, b7, b8⟩ := hR1
            exact hQ _ ⟨b1, b2, b3, b4, rfl, b6, b7, b8⟩ (FT.up hF1 (by decide) (by decide)))
      · rw [c_eq (by first | exact ⟨by omega, by omega⟩ | (rcases hq with hq | hq <;> exact ⟨by omega, by omega⟩)) (by first | exact ⟨by omega, by omega⟩ | (rcases hq with hq | hq <;> exact ⟨by omega, by omega⟩))] at cb41
        simp only [decide_eq_true_eq, decide_eq_false_iff_not, Decidable.not_not] at cb41
        show xEx G0 cdX3_offer (some .boolean) (xRn G0 MT (d + 3)) Q b 42 [some (.inr (.inr 28)), some (.inl c1), some (.inl c2), some (.inl c3), some (.inl r)] [] h1
        refine E_s 5 (i' := 47) (ls' := [some (.inr (.inr 28)), some (.inl c1), some (.inl c2), some (.inl c3), some (.inl r)]) (sk' := [.inl c3, .inl c2, .inl c1, .inl r, .inr (.inr 28)]) (h' := h1) rfl ?_
        have hq1 : 0 ≤ r ∧ r < T 0 0 ∧ T 6 r = (oT h T c1 c2 c3) := by
          rcases hq with hq | hq
          · exact absurd hq.1 cb41
          · exact hq
        have hfr : fnd (fun k => T 6 k = (oT h T c1 c2 c3)) (T 0 0).toNat = r := fnd_is hq1.1 hq1.2.1 hq1.2.2 (fun j z1 z2 z3 => w4 j r z1 z2 hq1.2.1 (z3.trans hq1.2.2.symm))
        have hm7 : h1 40 r = T 7 r := (hR1.2.2.2.2.2.2.1 r hq1.1 hq1.2.1).2.2.2.2.2.1
        have hw5 := w5 r hq1.1 hq1.2.1
        refine E_cv (x := (.invokevirtual 130, 4, [(1, 36), (7, 36)], [1])) (q := fun h9 => h9 = xup (xup (if h1 40 r = 0 then xup (xup (xup h1 34 r c1) 35 r c2) 36 r c3 else h1) 40 r (h1 40 r + 1)) 28 10 (h1 28 10 + 1)) rfl rfl (Nat.le_of_ble_eq_true rfl) (c_merge_gt (d + 1) 0 h1 r c1 c2 c3 (by omega) (by rw [hm7]; omega) ⟨rfl, rfl⟩) (fun h9 e9 => ?_)
        subst e9
        show xEx G0 cdX3_offer (some .boolean) (xRn G0 MT (d + 3)) Q b 48 [some (.inr (.inr 28)), some (.inl c1), some (.inl c2), some (.inl c3), some (.inl r)] [] (xup (xup (if h1 40 r = 0 then xup (xup (xup h1 34 r c1) 35 r c2) 36 r c3 else h1) 40 r (h1 40 r + 1)) 28 10 (h1 28 10 + 1))
        refine E_s 1 (i' := 49) (ls' := [some (.inr (.inr 28)), some (.inl c1), some (.inl c2), some (.inl c3), some (.inl r)]) (sk' := [.inl 1]) (h' := (xup (xup (if h1 40 r = 0 then xup (xup (xup h1 34 r c1) 35 r c2) 36 r c3 else h1) 40 r (h1 40 r + 1)) 28 10 (h1 28 10 + 1))) rfl ?_
        exact E_ret (x := (.ireturn, 0, [], [])) (v := some (.inl 1)) rfl (Or.inr ⟨rfl, Or.inr rfl⟩) (by
          rw [offT_m ho h3 hni hfr (by omega)] at hQ
          have hS4 : mrgS (mad T) r c1 c2 c3 0 4 = 0 := by unfold mrgS; split <;> exact ho
          rw [hS4] at hQ
          refine hQ _ (LT_m hR1 ⟨hq1.1, hq1.2.1⟩) (FT.up (FT.up ?_ (by decide) (fun z => absurd z (by decide))) (by decide) (by decide))
          split
          · exact (FT.up (FT.up (FT.up hF1 (by decide) (fun z => absurd z (by decide))) (by decide) (fun z => absurd z (by decide))) (by decide) (fun z => absurd z (by decide)))
          · exact hF1)
    · rw [c_eq (by first | exact ⟨by omega, by omega⟩ | (rcases hs1 with q | q <;> exact ⟨by omega, by omega⟩)) (by first | exact ⟨by omega, by omega⟩ | (rcases hs1 with q | q <;> exact ⟨by omega, by omega⟩))] at cb27
      simp only [decide_eq_true_eq, decide_eq_false_iff_not, Decidable.not_not] at cb27
      show xEx G0 cdX3_offer (some .boolean) (xRn G0 MT (d + 3)) Q b 28 [some (.inr (.inr 28)), some (.inl c1), some (.inl c2), some (.inl c3), none] [] h1
      refine E_s 7 (i' := 35) (ls' := [some (.inr (.inr 28)), some (.inl c1), some (.inl c2), some (.inl c3), none]) (sk' := [.inl 1]) (h' := (xup h1 28 11 ((h1 28 11) + 1))) rfl ?_
      exact E_ret (x := (.ireturn, 0, [], [])) (v := some (.inl 1)) rfl (Or.inr ⟨rfl, Or.inr rfl⟩) (by
        have hi : (oT h T c1 c2 c3) = 0 ∨ (oT h T c1 c2 c3) = xshl 1 (h 1 2) - 1 := by
          rcases hs1 with q | q
          · exact q.2
          · omega
        rw [offT_i ho h3 hi] at hQ
        have hS4 : xup (mad T) 0 5 (T 0 5 + 1) 0 4 = 0 := ho
        rw [hS4] at hQ
        obtain ⟨b1, b2, b3, b4, b5, b6, b7, b8⟩ := hR1
        exact hQ _ ⟨b1, b2, b3, b4, b5, by show h1 28 11 + 1 = T 0 5 + 1; rw [b6]; rfl, b7, b8⟩ (FT.up hF1 (by decide) (by decide)))
  · rw [c_ne (by first | exact ⟨by omega, by omega⟩ | (rw [a4]; exact ⟨by omega, by omega⟩)) (by first | exact ⟨by omega, by omega⟩ | (rw [a4]; exact ⟨by omega, by omega⟩))] at cb2
    simp only [decide_eq_true_eq, decide_eq_false_iff_not, Decidable.not_not] at cb2
    show xEx G0 cdX3_offer (some .boolean) (xRn G0 MT (d + 3)) Q b 3 [some (.inr (.inr 28)), some (.inl c1), some (.inl c2), some (.inl c3), none] [] h
    refine E_s 4 (i' := 7) (ls' := [some (.inr (.inr 28)), some (.inl c1), some (.inl c2), some (.inl c3), none]) (sk' := [.inl 0]) (h' := (xup h 28 17 2)) rfl ?_
    exact E_ret (x := (.ireturn, 0, [], [])) (v := some (.inl 0)) rfl (Or.inr ⟨rfl, Or.inl rfl⟩) (by
      rw [offT_b ho (by rw [← a4]; exact cb2)] at hQ
      exact hQ _ ⟨a1, a2, a3, a4, rfl, a6, a7, a8⟩ (FT.up (FT.rf h) (by decide) (by decide)))
