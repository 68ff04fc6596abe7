/-- what the reference's growth of TESTS, with what is remembered, leaves -/
def FST (h h' : xH) : Prop := (∀ a, (a < 66 ∨ (66 < a ∧ a < 79) ∨ (87 < a ∧ a ≠ 89 ∧ a ≠ 93 ∧ a ≠ 88 ∧ a ≠ 90 ∧ a ≠ 91)) → h' a = h a) ∧ (∀ j, j ≠ 19 → j ≠ 33 → j ≠ 35 → j ≠ 36 → j ≠ 37 → j ≠ 39 → j ≠ 40 → j ≠ 41 → h' 66 j = h 66 j) ∧ h' 89 0 = h 89 0 ∧ h' 88 0 = h 88 0 ∧ h' 90 0 = h 90 0 ∧ h' 91 0 = h 91 0
set_option maxHeartbeats 1000000 in
theorem r_grows1 (d b : Nat) (h0 h S T : xH) (mm : Int) (hB : BT h0) (hKS : h0 9 9 = S 0 0) (hsz : ∀ k, 0 ≤ k → k < S 0 0 → h0 18 k = S 4 k) (hES : ENZ h0 S) (hS4 : ∀ k, 0 ≤ k → k < S 0 0 → 1 ≤ S 4 k ∧ S 4 k ≤ 9) (hET : ETZ h0 T) (hs4 : ∀ k, 0 ≤ k → k < T 0 0 → 3 ≤ T 4 k ∧ T 4 k ≤ 7) (hzz : h0 28 15 = zT (h 88 1)) (hE : RET h0 h) (hR : RRT h T) (hW : WT (h0 1 2) T) (hl : h 66 35 = mm) (hmade : h 90 1 = T 0 2) (hmm : 0 ≤ mm ∧ mm ≤ 20000) (h2 : T 0 2 + mm ≤ 400000) (hL : h 88 1 = 0 ∨ (3 ≤ h 88 1 ∧ h 88 1 ≤ 7)) (hF : 0 ≤ h 91 1 ∧ h 91 1 ≤ 1) {Q : xO → xH → Prop} (hQ3 : (h0 1 2 = 0 ∨ (h 91 1 = 0 ∧ h 88 1 = 7)) → Q (.inl (some (.inl 3))) h) (hQ1 : h0 1 2 ≠ 0 → h 91 1 = 1 → Q (.inl (some (.inl 1))) h)
  (hQ2 : h0 1 2 ≠ 0 → h 91 1 = 0 → h 88 1 < 7 → (mkRT h0 (zT (h 88 1)) (st0 T mm)) 0 4 = 2 → ∀ h', RRT h' T → FST h h' → h' 88 1 = h 88 1 → h' 90 1 = h 90 1 → h' 91 1 = h 91 1 → Q (.inl (some (.inl 2))) h')
  (hQ0 : h0 1 2 ≠ 0 → h 91 1 = 0 → h 88 1 < 7 → (mkRT h0 (zT (h 88 1)) (st0 T mm)) 0 4 ≠ 2 → ∀ h', RRT h' (mkRT h0 (zT (h 88 1)) (st0 T mm)) → FST h h' → h' 90 1 = (mkRT h0 (zT (h 88 1)) (st0 T mm)) 0 2 → h' 66 35 = (mkRT h0 (zT (h 88 1)) (st0 T mm)) 0 3 → h' 88 1 = (if (mkRT h0 (zT (h 88 1)) (st0 T mm)) 0 4 = 1 then h 88 1 else zT (h 88 1)) → h' 91 1 = (if (mkRT h0 (zT (h 88 1)) (st0 T mm)) 0 4 = 1 then 1 else 0) → Q (.inl (some (.inl ((mkRT h0 (zT (h 88 1)) (st0 T mm)) 0 4)))) h') : xRn G0 MT (d + 6) b 190 [.inr (.inr 66), .inl 1] h Q := by
  refine R_of (M := mX12_grows) rfl (Nat.le_of_ble_eq_true rfl) ?_
  show xEx G0 cdX12_grows (some .int) (xRn G0 MT (d + 5)) Q b 0 [some (.inr (.inr 66)), some (.inl 1), none, none] [] h
  have hR0 := hR
  obtain ⟨a1, a2, a4, a3⟩ := hR0
  obtain ⟨w1, w2, w3, w4, w5, w6, w7, w8, w9, w10, w11, w12, w13, w14⟩ := hW
  have hn12 := hB.1
  have hex := hE.1
  refine E_s 2 (i' := 2) (ls' := [some (.inr (.inr 66)), some (.inl 1), none, none]) (sk' := [.inl (h 66 4)]) (h' := h) rfl ?_
  refine E_b (x := (.ifCond .ne 5, 5, [], [])) rfl rfl (fun c2 => ?_) (fun c2 => ?_)
  · rw [c_ne (by first | exact ⟨by omega, by omega⟩ | (rw [hE.1]; exact ⟨by omega, by omega⟩)) (by first | exact ⟨by omega, by omega⟩ | (rw [hE.1]; exact ⟨by omega, by omega⟩))] at c2
    simp only [decide_eq_true_eq, decide_eq_false_iff_not, Decidable.not_not] at c2
    show xEx G0 cdX12_grows (some .int) (xRn G0 MT (d + 5)) Q b 5 [some (.inr (.inr 66)), some (.inl 1), none, none] [] h
    refine E_s 3 (i' := 8) (ls' := [some (.inr (.inr 66)), some (.inl 1), none, none]) (sk' := [.inl 1, .inr (.inr 91)]) (h' := h) rfl ?_
    refine E_ld (x := (.baload, 0, [], [])) (ty := .boolean) (n := 2) rfl rfl rfl (by omega) (by omega) ?_
    show xEx G0 cdX12_grows (some .int) (xRn G0 MT (d + 5)) Q b 9 [some (.inr (.inr 66)), some (.inl 1), none, none] [.inl (h 91 1)] h
    refine E_b (x := (.ifCond .eq 5, 12, [], [])) rfl rfl (fun c9 => ?_) (fun c9 => ?_)
    · rw [c_eq (by first | assumption | (refine ⟨?_, ?_⟩ <;> omega) | (simp only [xr] at *; omega)) (by first | assumption | (refine ⟨?_, ?_⟩ <;> omega) | (simp only [xr] at *; omega))] at c9
      simp only [decide_eq_true_eq, decide_eq_false_iff_not, Decidable.not_not] at c9
      show xEx G0 cdX12_grows (some .int) (xRn G0 MT (d + 5)) Q b 12 [some (.inr (.inr 66)), some (.inl 1), none, none] [] h
      have hn0 : h0 1 2 ≠ 0 := by rw [← hE.1]; exact c2
      have hf0 : h 91 1 = 0 := by omega
      refine E_s 3 (i' := 15) (ls' := [some (.inr (.inr 66)), some (.inl 1), none, none]) (sk' := [.inl 1, .inr (.inr 88)]) (h' := h) rfl ?_
      refine E_ld (x := (.iaload, 0, [], [])) (ty := .int) (n := 2) rfl rfl rfl (by omega) (by omega) ?_
      show xEx G0 cdX12_grows (some .int) (xRn G0 MT (d + 5)) Q b 16 [some (.inr (.inr 66)), some (.inl 1), none, none] [.inl (h 88 1)] h
      refine E_s 1 (i' := 17) (ls' := [some (.inr (.inr 66)), some (.inl 1), none, none]) (sk' := [.inl 1, .inl (h 88 1)]) (h' := h) rfl ?_
      refine E_b (x := (.ifCond .ne 8, 20, [], [])) rfl rfl (fun c17 => ?_) (fun c17 => ?_)
      · rw [c_ne (by first | assumption | (refine ⟨?_, ?_⟩ <;> omega) | (simp only [xr] at *; omega)) (by first | assumption | (refine ⟨?_, ?_⟩ <;> omega) | (simp only [xr] at *; omega))] at c17
        simp only [decide_eq_true_eq, decide_eq_false_iff_not, Decidable.not_not] at c17
        show xEx G0 cdX12_grows (some .int) (xRn G0 MT (d + 5)) Q b 20 [some (.inr (.inr 66)), some (.inl 1), none, none] [.inl (h 88 1)] h
        refine E_s 1 (i' := 21) (ls' := [some (.inr (.inr 66)), some (.inl 1), none, none]) (sk' := [.inl 7, .inl (h 88 1)]) (h' := h) rfl ?_
        refine E_b (x := (.if_icmp .ne 5, 24, [], [])) rfl rfl (fun c21 => ?_) (fun c21 => ?_)
        · rw [c_ne (by first | assumption | (refine ⟨?_, ?_⟩ <;> omega) | (simp only [xr] at *; omega)) (by first | assumption | (refine ⟨?_, ?_⟩ <;> omega) | (simp only [xr] at *; omega))] at c21
          simp only [decide_eq_true_eq, decide_eq_false_iff_not, Decidable.not_not] at c21
          show xEx G0 cdX12_grows (some .int) (xRn G0 MT (d + 5)) Q b 24 [some (.inr (.inr 66)), some (.inl 1), none, none] [] h
          have cut40 : ∀ (_u : Unit), xEx G0 cdX12_grows (some .int) (xRn G0 MT (d + 5)) Q b 40 [some (.inr (.inr 66)), some (.inl 1), none, none] [.inl (zT (h 88 1))] h := by
            intro _u
            refine E_s 3 (i' := 43) (ls' := [some (.inr (.inr 66)), some (.inl 1), some (.inl (zT (h 88 1))), none]) (sk' := [.inl 1, .inr (.inr 66)]) (h' := h) rfl ?_
            refine E_cv (x := (.invokevirtual 280, 1, [(10, 188)], [0])) (q := fun h9 => (∀ a, a ≠ 66 → a ≠ 93 → h9 a = h a) ∧ (∀ j, j ≠ 39 → j ≠ 40 → j ≠ 41 → h9 66 j = h 66 j) ∧ h9 66 39 = h 66 19 ∧ h9 66 40 = h 89 1 ∧ h9 66 41 = h 66 33 ∧ (∀ k, 0 ≤ k → k < h 66 19 → h9 93 k = h 86 k)) rfl rfl (Nat.le_of_ble_eq_true rfl) (r_remembers1 (d + 4) 0 h (by rw [a1]; exact ⟨w1, w2⟩) (fun h9 q1 q2 q3 q4 q5 q6 => ⟨rfl, q1, q2, q3, q4, q5, q6⟩)) (fun h1 hq => ?_)
            obtain ⟨q1, q2, q3, q4, q5, q6⟩ := hq
            show xEx G0 cdX12_grows (some .int) (xRn G0 MT (d + 5)) Q b 44 [some (.inr (.inr 66)), some (.inl 1), some (.inl (zT (h 88 1))), none] [] h1
            refine E_s 7 (i' := 51) (ls' := [some (.inr (.inr 66)), some (.inl 1), some (.inl (zT (h 88 1))), none]) (sk' := [.inl 1]) (h' := (xup (xup h1 66 36 0) 66 37 0)) rfl ?_
            refine E_b (x := (.ifCond .ne 11, 56, [], [])) rfl rfl (fun c51 => ?_) (fun c51 => ?_)
            · rw [c_ne (by first | assumption | (refine ⟨?_, ?_⟩ <;> omega) | (simp only [xr] at *; omega)) (by first | assumption | (refine ⟨?_, ?_⟩ <;> omega) | (simp only [xr] at *; omega))] at c51
              simp only [decide_eq_true_eq, decide_eq_false_iff_not, Decidable.not_not] at c51
              show xEx G0 cdX12_grows (some .int) (xRn G0 MT (d + 5)) Q b 56 [some (.inr (.inr 66)), some (.inl 1), some (.inl (zT (h 88 1))), none] [] (xup (xup h1 66 36 0) 66 37 0)
              refine E_s 2 (i' := 58) (ls' := [some (.inr (.inr 66)), some (.inl 1), some (.inl (zT (h 88 1))), none]) (sk' := [.inl (zT (h 88 1)), .inr (.inr 66)]) (h' := (xup (xup h1 66 36 0) 66 37 0)) rfl ?_
              have hzb : 3 ≤ zT (h 88 1) ∧ zT (h 88 1) ≤ 7 := by unfold zT; split <;> omega
              have hGm : RGT (T 0 2) h0 (xup (xup h1 66 36 0) 66 37 0) (st0 T mm) := by
                refine ⟨⟨⟨?_, ?_, ?_, fun k z1 z2 => ?_⟩, ?_, ?_, rfl⟩, ⟨w1, w2, w3, w4, w5, w6, w7, h2, hmm.1, hmm.2, Int.le_refl _, by show (0 : Int) ≤ 2; omega, w13, w14⟩, ?_⟩
                · show h1 66 19 = T 0 0
                  rw [q2 _ (by decide) (by decide) (by decide)]; exact a1
                · show h1 89 1 = T 0 1
                  rw [q1 89 (by decide) (by decide)]; exact a2
                · show h1 66 33 = T 0 5
                  rw [q2 _ (by decide) (by decide) (by decide)]; exact a4
                · show h1 79 k = T 1 k ∧ h1 80 k = T 2 k ∧ h1 81 k = otT (T 1 k) (T 3 k) ∧ h1 85 k = T 4 k ∧ h1 87 k = T 6 k ∧ h1 86 k = T 7 k ∧ (T 7 k ≠ 0 → h1 82 k = T 8 k ∧ h1 83 k = T 9 k ∧ h1 84 k = otT (T 8 k) (T 10 k))
                  rw [q1 79 (by decide) (by decide), q1 80 (by decide) (by decide), q1 81 (by decide) (by decide), q1 85 (by decide) (by decide), q1 87 (by decide) (by decide), q1 86 (by decide) (by decide), q1 82 (by decide) (by decide), q1 83 (by decide) (by decide), q1 84 (by decide) (by decide)]
                  exact a3 k z1 z2
                · show h1 66 35 = mm
                  rw [q2 _ (by decide) (by decide) (by decide)]; exact hl
                · show 0 + T 0 2 = T 0 2
                  omega
                · unfold RET
                  show h1 66 4 = h0 1 2 ∧ h1 66 8 = h0 9 9 ∧ (∀ k e, 0 ≤ k → k < h0 9 9 → 0 ≤ e → e < h0 1 2 → h1 77 (12 * k + e) = h0 24 (k * 12 + e)) ∧ (∀ k, 0 ≤ k → k < h0 9 9 → h1 75 k = h0 18 k)
                  rw [q2 _ (by decide) (by decide) (by decide), q2 _ (by decide) (by decide) (by decide), q1 77 (by decide) (by decide), q1 75 (by decide) (by decide)]
                  exact hE
              have hmkf := mkT_P (P := fun _ => True) (S := S) (T := st0 T mm) (z := zT (h 88 1)) hB hKS hzb hES hET hGm.2.1 trivial (fun _ _ _ _ _ _ _ _ => trivial)
              rw [← mkT_eq (z := zT (h 88 1)) (T := st0 T mm) hB hKS hsz hES hS4 hET hs4 hzb hGm.2.1] at hmkf
              obtain ⟨hW1, hSt, h23, -⟩ := hmkf
              have hE2 : 0 ≤ E2 h0 ∧ E2 h0 ≤ S 0 0 := hES.2.1 2 (by omega) (by omega)
              refine E_cp (x := (.invokevirtual 286, 1, [(10, 187)], [0])) (q := fun r h9 => r = (if (mkRT h0 (zT (h 88 1)) (st0 T mm)) 0 4 = 0 then 1 else 0) ∧ RGT (T 0 2) h0 h9 (mkRT h0 (zT (h 88 1)) (st0 T mm)) ∧ FRT (xup (xup h1 66 36 0) 66 37 0) h9) rfl rfl (Nat.le_of_ble_eq_true rfl) (r_makesTests d 0 (T 0 2) h0 (xup (xup h1 66 36 0) 66 37 0) (st0 T mm) (zT (h 88 1)) hB hzz hzb (fun k z1 z2 => ⟨Int.le_trans (by decide) (hs4 k z1 z2).1, Int.le_trans (hs4 k z1 z2).2 (by decide)⟩) (fun k z1 z2 => by rw [hKS] at z2; rw [hsz k z1 z2]; exact ⟨hS4 k z1 z2, hES.2.2 2 k (by decide) (by decide) z1 z2⟩) (by rw [hKS]; exact hE2.2) hE2.1 hGm rfl (fun h9 z1 z2 => ⟨_, rfl, rfl, z1, z2⟩)) (fun r h2_ hq => ?_)
              obtain ⟨hr, hG2, hF2⟩ := hq
              generalize hS1 : (mkRT h0 (zT (h 88 1)) (st0 T mm)) = T1 at *
              obtain ⟨⟨hR2, b1, b2, b3⟩, -, hE2⟩ := hG2
              have hSt0 : T 0 0 ≤ T1 0 0 := hSt.1
              obtain ⟨f1, f2, f3⟩ := hF2
              have fmd : ∀ j, j ≠ 19 → j ≠ 33 → j ≠ 35 → j ≠ 36 → j ≠ 37 → h2_ 66 j = h1 66 j := fun j z0 z1 z2 z3 z4 => by rw [f2 j z0 z1 z2 z3 z4]; simp [xup, z3, z4]
              have fal : h2_ 89 0 = h 89 0 := f3.trans (by show h1 89 0 = _; rw [q1 89 (by decide) (by decide)])
              have fa : ∀ a, (a < 66 ∨ (66 < a ∧ a < 79) ∨ (87 < a ∧ a ≠ 89 ∧ a ≠ 93)) → h2_ a = h a := fun a ha => by
                rw [f1 a (by omega), ← q1 a (by omega) (by omega)]
                exact (xup_o _ _ _ _ a (by omega)).trans (xup_o _ _ _ _ a (by omega))
              have w11' := hW1.2.2.2.2.2.2.2.2.2.2.1
              have w12' := hW1.2.2.2.2.2.2.2.2.2.2.2.1
              have hr01 : (r = 1 ∧ T1 0 4 = 0) ∨ (r = 0 ∧ T1 0 4 ≠ 0) := by
                by_cases q : T1 0 4 = 0
                · rw [if_pos q] at hr; exact Or.inl ⟨hr, q⟩
                · rw [if_neg q] at hr; exact Or.inr ⟨hr, q⟩
              show xEx G0 cdX12_grows (some .int) (xRn G0 MT (d + 5)) Q b 59 [some (.inr (.inr 66)), some (.inl 1), some (.inl (zT (h 88 1))), none] [.inl r] h2_
              refine E_s 1 (i' := 60) (ls' := [some (.inr (.inr 66)), some (.inl 1), some (.inl (zT (h 88 1))), some (.inl r)]) (sk' := []) (h' := h2_) rfl ?_
              
              refine E_s 1 (i' := 61) (ls' := [some (.inr (.inr 66)), some (.inl 1), some (.inl (zT (h 88 1))), some (.inl r)]) (sk' := [.inl r]) (h' := h2_) rfl ?_
              refine E_b (x := (.ifCond .ne 18, 71, [], [])) rfl rfl (fun c61 => ?_) (fun c61 => ?_)
              · rw [c_ne (by rcases hr01 with q | q <;> exact ⟨by omega, by omega⟩) (by rcases hr01 with q | q <;> exact ⟨by omega, by omega⟩)] at c61
                simp only [decide_eq_true_eq, decide_eq_false_iff_not, Decidable.not_not] at c61
                show xEx G0 cdX12_grows (some .int) (xRn G0 MT (d + 5)) Q b 71 [some (.inr (.inr 66)), some (.inl 1), some (.inl (zT (h 88 1))), some (.inl r)] [] h2_
                refine E_s 4 (i' := 75) (ls' := [some (.inr (.inr 66)), some (.inl 1), some (.inl (zT (h 88 1))), some (.inl r)]) (sk' := [.inl 1, .inr (.inr 90), .inl 1, .inr (.inr 90)]) (h' := h2_) rfl ?_
                refine E_ld (x := (.iaload, 0, [], [])) (ty := .int) (n := 2) rfl rfl rfl (by omega) (by omega) ?_
                show xEx G0 cdX12_grows (some .int) (xRn G0 MT (d + 5)) Q b 76 [some (.inr (.inr 66)), some (.inl 1), some (.inl (zT (h 88 1))), some (.inl r)] [.inl (h2_ 90 1), .inl 1, .inr (.inr 90)] h2_
                refine E_s 3 (i' := 79) (ls' := [some (.inr (.inr 66)), some (.inl 1), some (.inl (zT (h 88 1))), some (.inl r)]) (sk' := [.inl ((h2_ 90 1) + (h2_ 66 37)), .inl 1, .inr (.inr 90)]) (h' := h2_) rfl ?_
                refine E_sd (x := (.iastore, 0, [], [])) (ty := .int) (n := 2) (y := ((h2_ 90 1) + (h2_ 66 37))) rfl rfl rfl (by omega) (by omega) (trivial) ?_
                show xEx G0 cdX12_grows (some .int) (xRn G0 MT (d + 5)) Q b 80 [some (.inr (.inr 66)), some (.inl 1), some (.inl (zT (h 88 1))), some (.inl r)] [] (xup h2_ 90 1 ((h2_ 90 1) + (h2_ 66 37)))
                refine E_s 1 (i' := 81) (ls' := [some (.inr (.inr 66)), some (.inl 1), some (.inl (zT (h 88 1))), some (.inl r)]) (sk' := [.inl r]) (h' := (xup h2_ 90 1 ((h2_ 90 1) + (h2_ 66 37)))) rfl ?_
                refine E_b (x := (.ifCond .ne 12, 89, [], [])) rfl rfl (fun c81 => ?_) (fun c81 => ?_)
                · rw [c_ne (by rcases hr01 with q | q <;> exact ⟨by omega, by omega⟩) (by rcases hr01 with q | q <;> exact ⟨by omega, by omega⟩)] at c81
                  simp only [decide_eq_true_eq, decide_eq_false_iff_not, Decidable.not_not] at c81
                  show xEx G0 cdX12_grows (some .int) (xRn G0 MT (d + 5)) Q b 89 [some (.inr (.inr 66)), some (.inl 1), some (.inl (zT (h 88 1))), some (.inl r)] [] (xup h2_ 90 1 ((h2_ 90 1) + (h2_ 66 37)))
                  refine E_s 4 (i' := 93) (ls' := [some (.inr (.inr 66)), some (.inl 1), some (.inl (zT (h 88 1))), some (.inl r)]) (sk' := [.inl (zT (h 88 1)), .inl 1, .inr (.inr 88)]) (h' := (xup h2_ 90 1 ((h2_ 90 1) + (h2_ 66 37)))) rfl ?_
                  refine E_sd (x := (.iastore, 0, [], [])) (ty := .int) (n := 2) (y := (zT (h 88 1))) rfl rfl rfl (by omega) (by omega) (trivial) ?_
                  show xEx G0 cdX12_grows (some .int) (xRn G0 MT (d + 5)) Q b 94 [some (.inr (.inr 66)), some (.inl 1), some (.inl (zT (h 88 1))), some (.inl r)] [] (xup (xup h2_ 90 1 ((h2_ 90 1) + (h2_ 66 37))) 88 1 (zT (h 88 1)))
                  refine E_s 1 (i' := 95) (ls' := [some (.inr (.inr 66)), some (.inl 1), some (.inl (zT (h 88 1))), some (.inl r)]) (sk' := [.inl 0]) (h' := (xup (xup h2_ 90 1 ((h2_ 90 1) + (h2_ 66 37))) 88 1 (zT (h 88 1)))) rfl ?_
                  exact E_ret (x := (.ireturn, 0, [], [])) (v := some (.inl 0)) rfl (Or.inl rfl) (by
                    have h4 : T1 0 4 = 0 := by omega
                    have hrr := hQ0 hn0 hf0 (by omega) (by rw [h4]; decide) (xup (xup h2_ 90 1 ((h2_ 90 1) + (h2_ 66 37))) 88 1 (zT (h 88 1))) (by
                      obtain ⟨r1, r2, r3, r4⟩ := hR2
                      exact ⟨r1, r2, r3, r4⟩)
                      ⟨fun a ha => by
                        rw [← fa a (by omega)]
                        exact (xup_o _ _ _ _ a (by omega)).trans (xup_o _ _ _ _ a (by omega)), fun j z0 z1 z2 z3 z4 z5 z6 z7 => (fmd j z0 z1 z2 z3 z4).trans (q2 j z5 z6 z7), fal, by rw [← fa 88 (by decide)]; rfl, by rw [← fa 90 (by decide)]; rfl, by rw [← fa 91 (by decide)]; rfl⟩
                      (by
                        show h2_ 90 1 + h2_ 66 37 = T1 0 2
                        rw [fa 90 (by decide), hmade, ← b2]
                        omega)
                      (by exact b1)
                      (by rw [h4, if_neg (by decide)]; rfl) (by rw [h4, if_neg (by decide)]; exact (show h2_ 91 1 = 0 by rw [fa 91 (by decide)]; exact hf0))
                    rw [h4] at hrr
                    exact hrr)
                · rw [c_ne (by rcases hr01 with q | q <;> exact ⟨by omega, by omega⟩) (by rcases hr01 with q | q <;> exact ⟨by omega, by omega⟩)] at c81
                  simp only [decide_eq_true_eq, decide_eq_false_iff_not, Decidable.not_not] at c81
                  show xEx G0 cdX12_grows (some .int) (xRn G0 MT (d + 5)) Q b 82 [some (.inr (.inr 66)), some (.inl 1), some (.inl (zT (h 88 1))), some (.inl r)] [] (xup h2_ 90 1 ((h2_ 90 1) + (h2_ 66 37)))
                  refine E_s 4 (i' := 86) (ls' := [some (.inr (.inr 66)), some (.inl 1), some (.inl (zT (h 88 1))), some (.inl r)]) (sk' := [.inl 1, .inl 1, .inr (.inr 91)]) (h' := (xup h2_ 90 1 ((h2_ 90 1) + (h2_ 66 37)))) rfl ?_
                  refine E_sd (x := (.bastore, 0, [], [])) (ty := .boolean) (n := 2) (y := 1) rfl rfl rfl (by omega) (by omega) (Or.inr rfl) ?_
                  show xEx G0 cdX12_grows (some .int) (xRn G0 MT (d + 5)) Q b 87 [some (.inr (.inr 66)), some (.inl 1), some (.inl (zT (h 88 1))), some (.inl r)] [] (xup (xup h2_ 90 1 ((h2_ 90 1) + (h2_ 66 37))) 91 1 1)
                  refine E_s 1 (i' := 88) (ls' := [some (.inr (.inr 66)), some (.inl 1), some (.inl (zT (h 88 1))), some (.inl r)]) (sk' := [.inl 1]) (h' := (xup (xup h2_ 90 1 ((h2_ 90 1) + (h2_ 66 37))) 91 1 1)) rfl ?_
                  exact E_ret (x := (.ireturn, 0, [], [])) (v := some (.inl 1)) rfl (Or.inl rfl) (absurd c81 c61)
              · rw [c_ne (by rcases hr01 with q | q <;> exact ⟨by omega, by omega⟩) (by rcases hr01 with q | q <;> exact ⟨by omega, by omega⟩)] at c61
                simp only [decide_eq_true_eq, decide_eq_false_iff_not, Decidable.not_not] at c61
                show xEx G0 cdX12_grows (some .int) (xRn G0 MT (d + 5)) Q b 62 [some (.inr (.inr 66)), some (.inl 1), some (.inl (zT (h 88 1))), some (.inl r)] [] h2_
                
                refine E_s 3 (i' := 65) (ls' := [some (.inr (.inr 66)), some (.inl 1), some (.inl (zT (h 88 1))), some (.inl r)]) (sk' := [.inl 2, .inl (h2_ 66 36)]) (h' := h2_) rfl ?_
                refine E_b (x := (.if_icmp .ne 10, 71, [], [])) rfl rfl (fun c65 => ?_) (fun c65 => ?_)
                · rw [c_ne (by first | exact ⟨by omega, by omega⟩ | (rw [b3]; exact ⟨by omega, by omega⟩)) (by first | exact ⟨by omega, by omega⟩ | (rw [b3]; exact ⟨by omega, by omega⟩))] at c65
                  simp only [decide_eq_true_eq, decide_eq_false_iff_not, Decidable.not_not] at c65
                  show xEx G0 cdX12_grows (some .int) (xRn G0 MT (d + 5)) Q b 71 [some (.inr (.inr 66)), some (.inl 1), some (.inl (zT (h 88 1))), some (.inl r)] [] h2_
                  refine E_s 4 (i' := 75) (ls' := [some (.inr (.inr 66)), some (.inl 1), some (.inl (zT (h 88 1))), some (.inl r)]) (sk' := [.inl 1, .inr (.inr 90), .inl 1, .inr (.inr 90)]) (h' := h2_) rfl ?_
                  refine E_ld (x := (.iaload, 0, [], [])) (ty := .int) (n := 2) rfl rfl rfl (by omega) (by omega) ?_
                  show xEx G0 cdX12_grows (some .int) (xRn G0 MT (d + 5)) Q b 76 [some (.inr (.inr 66)), some (.inl 1), some (.inl (zT (h 88 1))), some (.inl r)] [.inl (h2_ 90 1), .inl 1, .inr (.inr 90)] h2_
                  refine E_s 3 (i' := 79) (ls' := [some (.inr (.inr 66)), some (.inl 1), some (.inl (zT (h 88 1))), some (.inl r)]) (sk' := [.inl ((h2_ 90 1) + (h2_ 66 37)), .inl 1, .inr (.inr 90)]) (h' := h2_) rfl ?_
                  refine E_sd (x := (.iastore, 0, [], [])) (ty := .int) (n := 2) (y := ((h2_ 90 1) + (h2_ 66 37))) rfl rfl rfl (by omega) (by omega) (trivial) ?_
                  show xEx G0 cdX12_grows (some .int) (xRn G0 MT (d + 5)) Q b 80 [some (.inr (.inr 66)), some (.inl 1), some (.inl (zT (h 88 1))), some (.inl r)] [] (xup h2_ 90 1 ((h2_ 90 1) + (h2_ 66 37)))
                  refine E_s 1 (i' := 81) (ls' := [some (.inr (.inr 66)), some (.inl 1), some (.inl (zT (h 88 1))), some (.inl r)]) (sk' := [.inl r]) (h' := (xup h2_ 90 1 ((h2_ 90 1) + (h2_ 66 37)))) rfl ?_
                  refine E_b (x := (.ifCond .ne 12, 89, [], [])) rfl rfl (fun c81 => ?_) (fun c81 => ?_)
                  · rw [c_ne (by rcases hr01 with q | q <;> exact ⟨by omega, by omega⟩) (by rcases hr01 with q | q <;> exact ⟨by omega, by omega⟩)] at c81
                    simp only [decide_eq_true_eq, decide_eq_false_iff_not, Decidable.not_not] at c81
                    show xEx G0 cdX12_grows (some .int) (xRn G0 MT (d + 5)) Q b 89 [some (.inr (.inr 66)), some (.inl 1), some (.inl (zT (h 88 1))), some (.inl r)] [] (xup h2_ 90 1 ((h2_ 90 1) + (h2_ 66 37)))
                    refine E_s 4 (i' := 93) (ls' := [some (.inr (.inr 66)), some (.inl 1), some (.inl (zT (h 88 1))), some (.inl r)]) (sk' := [.inl (zT (h 88 1)), .inl 1, .inr (.inr 88)]) (h' := (xup h2_ 90 1 ((h2_ 90 1) + (h2_ 66 37)))) rfl ?_
                    refine E_sd (x := (.iastore, 0, [], [])) (ty := .int) (n := 2) (y := (zT (h 88 1))) rfl rfl rfl (by omega) (by omega) (trivial) ?_
                    show xEx G0 cdX12_grows (some .int) (xRn G0 MT (d + 5)) Q b 94 [some (.inr (.inr 66)), some (.inl 1), some (.inl (zT (h 88 1))), some (.inl r)] [] (xup (xup h2_ 90 1 ((h2_ 90 1) + (h2_ 66 37))) 88 1 (zT (h 88 1)))
                    refine E_s 1 (i' := 95) (ls' := [some (.inr (.inr 66)), some (.inl 1), some (.inl (zT (h 88 1))), some (.inl r)]) (sk' := [.inl 0]) (h' := (xup (xup h2_ 90 1 ((h2_ 90 1) + (h2_ 66 37))) 88 1 (zT (h 88 1)))) rfl ?_
                    exact E_ret (x := (.ireturn, 0, [], [])) (v := some (.inl 0)) rfl (Or.inl rfl) (absurd c61 c81)
                  · rw [c_ne (by rcases hr01 with q | q <;> exact ⟨by omega, by omega⟩) (by rcases hr01 with q | q <;> exact ⟨by omega, by omega⟩)] at c81
                    simp only [decide_eq_true_eq, decide_eq_false_iff_not, Decidable.not_not] at c81
                    show xEx G0 cdX12_grows (some .int) (xRn G0 MT (d + 5)) Q b 82 [some (.inr (.inr 66)), some (.inl 1), some (.inl (zT (h 88 1))), some (.inl r)] [] (xup h2_ 90 1 ((h2_ 90 1) + (h2_ 66 37)))
                    refine E_s 4 (i' := 86) (ls' := [some (.inr (.inr 66)), some (.inl 1), some (.inl (zT (h 88 1))), some (.inl r)]) (sk' := [.inl 1, .inl 1, .inr (.inr 91)]) (h' := (xup h2_ 90 1 ((h2_ 90 1) + (h2_ 66 37)))) rfl ?_
                    refine E_sd (x := (.bastore, 0, [], [])) (ty := .boolean) (n := 2) (y := 1) rfl rfl rfl (by omega) (by omega) (Or.inr rfl) ?_
                    show xEx G0 cdX12_grows (some .int) (xRn G0 MT (d + 5)) Q b 87 [some (.inr (.inr 66)), some (.inl 1), some (.inl (zT (h 88 1))), some (.inl r)] [] (xup (xup h2_ 90 1 ((h2_ 90 1) + (h2_ 66 37))) 91 1 1)
                    refine E_s 1 (i' := 88) (ls' := [some (.inr (.inr 66)), some (.inl 1), some (.inl (zT (h 88 1))), some (.inl r)]) (sk' := [.inl 1]) (h' := (xup (xup h2_ 90 1 ((h2_ 90 1) + (h2_ 66 37))) 91 1 1)) rfl ?_
                    exact E_ret (x := (.ireturn, 0, [], [])) (v := some (.inl 1)) rfl (Or.inl rfl) (by
                      have h4 : T1 0 4 = 1 := by rw [b3] at c65; omega
                      have hrr := hQ0 hn0 hf0 (by omega) (by rw [h4]; decide) (xup (xup h2_ 90 1 ((h2_ 90 1) + (h2_ 66 37))) 91 1 1) (by
                        obtain ⟨r1, r2, r3, r4⟩ := hR2
                        exact ⟨r1, r2, r3, r4⟩)
                        ⟨fun a ha => by
                          rw [← fa a (by omega)]
                          exact (xup_o _ _ _ _ a (by omega)).trans (xup_o _ _ _ _ a (by omega)), fun j z0 z1 z2 z3 z4 z5 z6 z7 => (fmd j z0 z1 z2 z3 z4).trans (q2 j z5 z6 z7), fal, by rw [← fa 88 (by decide)]; rfl, by rw [← fa 90 (by decide)]; rfl, by rw [← fa 91 (by decide)]; rfl⟩
                        (by
                          show h2_ 90 1 + h2_ 66 37 = T1 0 2
                          rw [fa 90 (by decide), hmade, ← b2]
                          omega)
                        (by exact b1)
                        (by rw [h4, if_pos rfl, ← fa 88 (by decide)]; rfl) (by rw [h4, if_pos rfl]; rfl)
                      rw [h4] at hrr
                      exact hrr)
                · rw [c_ne (by first | exact ⟨by omega, by omega⟩ | (rw [b3]; exact ⟨by omega, by omega⟩)) (by first | exact ⟨by omega, by omega⟩ | (rw [b3]; exact ⟨by omega, by omega⟩))] at c65
                  simp only [decide_eq_true_eq, decide_eq_false_iff_not, Decidable.not_not] at c65
                  show xEx G0 cdX12_grows (some .int) (xRn G0 MT (d + 5)) Q b 66 [some (.inr (.inr 66)), some (.inl 1), some (.inl (zT (h 88 1))), some (.inl r)] [] h2_
                  refine E_s 2 (i' := 68) (ls' := [some (.inr (.inr 66)), some (.inl 1), some (.inl (zT (h 88 1))), some (.inl r)]) (sk' := [.inl 1, .inr (.inr 66)]) (h' := h2_) rfl ?_
                  refine E_cv (x := (.invokevirtual 289, 1, [(10, 189)], [0])) (q := fun h9 => (∀ a, a ≠ 66 → a ≠ 86 → a ≠ 89 → h9 a = h2_ a) ∧ (∀ j, j ≠ 19 → j ≠ 33 → h9 66 j = h2_ 66 j) ∧ h9 66 19 = h2_ 66 39 ∧ h9 66 33 = h2_ 66 41 ∧ h9 89 1 = h2_ 66 40 ∧ (∀ j, j ≠ 1 → h9 89 j = h2_ 89 j) ∧ (∀ k, 0 ≤ k → k < h2_ 66 39 → h9 86 k = h2_ 93 k)) rfl rfl (Nat.le_of_ble_eq_true rfl) (r_putsBack1 (d + 4) 0 h2_ (by rw [fmd _ (by decide) (by decide) (by decide) (by decide) (by decide), q3, a1]; exact ⟨w1, w2⟩) (fun h9 q1 q2 q3 q4 q5 q6 q7 => ⟨rfl, q1, q2, q3, q4, q5, q6, q7⟩)) (fun h3 hq => ?_)
                  obtain ⟨p1, p2, p3, p4, p5, p6, p7⟩ := hq
                  show xEx G0 cdX12_grows (some .int) (xRn G0 MT (d + 5)) Q b 69 [some (.inr (.inr 66)), some (.inl 1), some (.inl (zT (h 88 1))), some (.inl r)] [] h3
                  refine E_s 1 (i' := 70) (ls' := [some (.inr (.inr 66)), some (.inl 1), some (.inl (zT (h 88 1))), some (.inl r)]) (sk' := [.inl 2]) (h' := h3) rfl ?_
                  exact E_ret (x := (.ireturn, 0, [], [])) (v := some (.inl 2)) rfl (Or.inl rfl) (hQ2 hn0 hf0 (by omega) (by rw [← b3]; exact c65) h3 (by
                    obtain ⟨r1, r2, r5, r3⟩ := hR2
                    refine ⟨?_, ?_, ?_, fun k z1 z2 => ?_⟩
                    · rw [p3, fmd _ (by decide) (by decide) (by decide) (by decide) (by decide), q3, a1]
                    · rw [p5, fmd _ (by decide) (by decide) (by decide) (by decide) (by decide), q4, a2]
                    · rw [p4, fmd _ (by decide) (by decide) (by decide) (by decide) (by decide), q5, a4]
                    · obtain ⟨t1, t2, t3, t4, t5, t6, t7⟩ := r3 k z1 (Int.lt_of_lt_of_le z2 hSt0)
                      obtain ⟨s1, s2, s3, s4, s5, s6, s7, s8, s9⟩ := hSt.2 k z1 z2
                      rw [p1 79 (by decide) (by decide) (by decide), p1 80 (by decide) (by decide) (by decide), p1 81 (by decide) (by decide) (by decide), p1 85 (by decide) (by decide) (by decide), p1 87 (by decide) (by decide) (by decide), p1 82 (by decide) (by decide) (by decide), p1 83 (by decide) (by decide) (by decide), p1 84 (by decide) (by decide) (by decide)]
                      have s1 : T1 1 k = T 1 k := s1
                      have s2 : T1 2 k = T 2 k := s2
                      have s3 : T1 3 k = T 3 k := s3
                      have s4 : T1 4 k = T 4 k := s4
                      have s5 : T1 6 k = T 6 k := s5
                      refine ⟨by rw [t1, s1], by rw [t2, s2], by rw [t3, s1, s3], by rw [t4, s4], by rw [t5, s5], ?_, fun hne => ?_⟩
                      · rw [p7 k z1 (by rw [fmd _ (by decide) (by decide) (by decide) (by decide) (by decide), q3, a1]; exact z2), f1 93 (by decide)]
                        show h1 93 k = _
                        rw [q6 k z1 (by rw [a1]; exact z2)]
                        exact (a3 k z1 z2).2.2.2.2.2.1
                      · have s8 : T 7 k ≤ T1 7 k := s8
                        have := (w5 k z1 z2).1
                        obtain ⟨v1, v2, v3⟩ := t7 (by omega)
                        obtain ⟨x1, x2, x3⟩ := s9 hne
                        have x1 : T1 8 k = T 8 k := x1
                        have x2 : T1 9 k = T 9 k := x2
                        have x3 : T1 10 k = T 10 k := x3
                        exact ⟨by rw [v1, x1], by rw [v2, x2], by rw [v3, x1, x3]⟩)
                    ⟨fun a ha => by rw [p1 a (by omega) (by omega) (by omega)]; exact fa a (by omega), fun j z0 z1 z2 z3 z4 z5 z6 z7 => by rw [p2 j z0 z1, fmd j z0 z1 z2 z3 z4, q2 j z5 z6 z7], by rw [p6 0 (by decide)]; exact fal, by rw [p1 88 (by decide) (by decide) (by decide), fa 88 (by decide)], by rw [p1 90 (by decide) (by decide) (by decide), fa 90 (by decide)], by rw [p1 91 (by decide) (by decide) (by decide), fa 91 (by decide)]⟩
                    (by rw [p1 88 (by decide) (by decide) (by decide), fa 88 (by decide)]) (by rw [p1 90 (by decide) (by decide) (by decide), fa 90 (by decide)]) (by rw [p1 91 (by decide) (by decide) (by decide), fa 91 (by decide)]))
            · rw [c_ne (by first | assumption | (refine ⟨?_, ?_⟩ <;> omega) | (simp only [xr] at *; omega)) (by first | assumption | (refine ⟨?_, ?_⟩ <;> omega) | (simp only [xr] at *; omega))] at c51
              simp only [decide_eq_true_eq, decide_eq_false_iff_not, Decidable.not_not] at c51
              show xEx G0 cdX12_grows (some .int) (xRn G0 MT (d + 5)) Q b 52 [some (.inr (.inr 66)), some (.inl 1), some (.inl (zT (h 88 1))), none] [] (xup (xup h1 66 36 0) 66 37 0)
              first | exact absurd trivial c51 | exact absurd c51 (by decide) | exact False.elim c51
          refine E_s 2 (i' := 26) (ls' := [some (.inr (.inr 66)), some (.inl 1), none, none]) (sk' := [.inl 1, .inl 1]) (h' := h) rfl ?_
          refine E_b (x := (.if_icmp .ne 16, 34, [], [])) rfl rfl (fun c26 => ?_) (fun c26 => ?_)
          · rw [c_ne (by first | assumption | (refine ⟨?_, ?_⟩ <;> omega) | (simp only [xr] at *; omega)) (by first | assumption | (refine ⟨?_, ?_⟩ <;> omega) | (simp only [xr] at *; omega))] at c26
            simp only [decide_eq_true_eq, decide_eq_false_iff_not, Decidable.not_not] at c26
            show xEx G0 cdX12_grows (some .int) (xRn G0 MT (d + 5)) Q b 34 [some (.inr (.inr 66)), some (.inl 1), none, none] [] h
            refine E_s 3 (i' := 37) (ls' := [some (.inr (.inr 66)), some (.inl 1), none, none]) (sk' := [.inl 1, .inr (.inr 88)]) (h' := h) rfl ?_
            refine E_ld (x := (.iaload, 0, [], [])) (ty := .int) (n := 2) rfl rfl rfl (by omega) (by omega) ?_
            show xEx G0 cdX12_grows (some .int) (xRn G0 MT (d + 5)) Q b 38 [some (.inr (.inr 66)), some (.inl 1), none, none] [.inl (h 88 1)] h
            refine E_s 2 (i' := 40) (ls' := [some (.inr (.inr 66)), some (.inl 1), none, none]) (sk' := [.inl ((h 88 1) + 1)]) (h' := h) rfl ?_
            refine E_ti (y := zT (h 88 1)) (by
              congr 1
              unfold zT
              first | (rw [if_pos (by omega)]; done) | (rw [if_neg (by omega)]; done) | exact absurd trivial c26 | exact absurd c26 (by decide) | exact False.elim c26) ?_
            exact cut40 ()
          · rw [c_ne (by first | assumption | (refine ⟨?_, ?_⟩ <;> omega) | (simp only [xr] at *; omega)) (by first | assumption | (refine ⟨?_, ?_⟩ <;> omega) | (simp only [xr] at *; omega))] at c26
            simp only [decide_eq_true_eq, decide_eq_false_iff_not, Decidable.not_not] at c26
            show xEx G0 cdX12_grows (some .int) (xRn G0 MT (d + 5)) Q b 27 [some (.inr (.inr 66)), some (.inl 1), none, none] [] h
            refine E_s 3 (i' := 30) (ls' := [some (.inr (.inr 66)), some (.inl 1), none, none]) (sk' := [.inl 1, .inr (.inr 88)]) (h' := h) rfl ?_
            refine E_ld (x := (.iaload, 0, [], [])) (ty := .int) (n := 2) rfl rfl rfl (by omega) (by omega) ?_
            show xEx G0 cdX12_grows (some .int) (xRn G0 MT (d + 5)) Q b 31 [some (.inr (.inr 66)), some (.inl 1), none, none] [.inl (h 88 1)] h
            refine E_b (x := (.ifCond .ne 7, 34, [], [])) rfl rfl (fun c31 => ?_) (fun c31 => ?_)
            · rw [c_ne (by first | assumption | (refine ⟨?_, ?_⟩ <;> omega) | (simp only [xr] at *; omega)) (by first | assumption | (refine ⟨?_, ?_⟩ <;> omega) | (simp only [xr] at *; omega))] at c31
              simp only [decide_eq_true_eq, decide_eq_false_iff_not, Decidable.not_not] at c31
              show xEx G0 cdX12_grows (some .int) (xRn G0 MT (d + 5)) Q b 34 [some (.inr (.inr 66)), some (.inl 1), none, none] [] h
              refine E_s 3 (i' := 37) (ls' := [some (.inr (.inr 66)), some (.inl 1), none, none]) (sk' := [.inl 1, .inr (.inr 88)]) (h' := h) rfl ?_
              refine E_ld (x := (.iaload, 0, [], [])) (ty := .int) (n := 2) rfl rfl rfl (by omega) (by omega) ?_
              show xEx G0 cdX12_grows (some .int) (xRn G0 MT (d + 5)) Q b 38 [some (.inr (.inr 66)), some (.inl 1), none, none] [.inl (h 88 1)] h
              refine E_s 2 (i' := 40) (ls' := [some (.inr (.inr 66)), some (.inl 1), none, none]) (sk' := [.inl ((h 88 1) + 1)]) (h' := h) rfl ?_
              refine E_ti (y := zT (h 88 1)) (by
                congr 1
                unfold zT
                first | (rw [if_pos (by omega)]; done) | (rw [if_neg (by omega)]; done) | exact absurd trivial c26 | exact absurd c26 (by decide) | exact False.elim c26) ?_
              exact cut40 ()
            · rw [c_ne (by first | assumption | (refine ⟨?_, ?_⟩ <;> omega) | (simp only [xr] at *; omega)) (by first | assumption | (refine ⟨?_, ?_⟩ <;> omega) | (simp only [xr] at *; omega))] at c31
              simp only [decide_eq_true_eq, decide_eq_false_iff_not, Decidable.not_not] at c31
              show xEx G0 cdX12_grows (some .int) (xRn G0 MT (d + 5)) Q b 32 [some (.inr (.inr 66)), some (.inl 1), none, none] [] h
              refine E_s 2 (i' := 40) (ls' := [some (.inr (.inr 66)), some (.inl 1), none, none]) (sk' := [.inl 3]) (h' := h) rfl ?_
              refine E_ti (y := zT (h 88 1)) (by
                congr 1
                unfold zT
                first | (rw [if_pos (by omega)]; done) | (rw [if_neg (by omega)]; done) | exact absurd trivial c26 | exact absurd c26 (by decide) | exact False.elim c26) ?_
              exact cut40 ()
        · rw [c_ne (by first | assumption | (refine ⟨?_, ?_⟩ <;> omega) | (simp only [xr] at *; omega)) (by first | assumption | (refine ⟨?_, ?_⟩ <;> omega) | (simp only [xr] at *; omega))] at c21
          simp only [decide_eq_true_eq, decide_eq_false_iff_not, Decidable.not_not] at c21
          show xEx G0 cdX12_grows (some .int) (xRn G0 MT (d + 5)) Q b 22 [some (.inr (.inr 66)), some (.inl 1), none, none] [] h
          refine E_s 1 (i' := 23) (ls' := [some (.inr (.inr 66)), some (.inl 1), none, none]) (sk' := [.inl 3]) (h' := h) rfl ?_
          exact E_ret (x := (.ireturn, 0, [], [])) (v := some (.inl 3)) rfl (Or.inl rfl) (hQ3 (by omega))
      · rw [c_ne (by first | assumption | (refine ⟨?_, ?_⟩ <;> omega) | (simp only [xr] at *; omega)) (by first | assumption | (refine ⟨?_, ?_⟩ <;> omega) | (simp only [xr] at *; omega))] at c17
        simp only [decide_eq_true_eq, decide_eq_false_iff_not, Decidable.not_not] at c17
        show xEx G0 cdX12_grows (some .int) (xRn G0 MT (d + 5)) Q b 18 [some (.inr (.inr 66)), some (.inl 1), none, none] [.inl (h 88 1)] h
        first | exact absurd trivial c17 | exact absurd c17 (by decide) | exact False.elim c17
    · rw [c_eq (by first | assumption | (refine ⟨?_, ?_⟩ <;> omega) | (simp only [xr] at *; omega)) (by first | assumption | (refine ⟨?_, ?_⟩ <;> omega) | (simp only [xr] at *; omega))] at c9
      simp only [decide_eq_true_eq, decide_eq_false_iff_not, Decidable.not_not] at c9
      show xEx G0 cdX12_grows (some .int) (xRn G0 MT (d + 5)) Q b 10 [some (.inr (.inr 66)), some (.inl 1), none, none] [] h
      refine E_s 1 (i' := 11) (ls' := [some (.inr (.inr 66)), some (.inl 1), none, none]) (sk' := [.inl 1]) (h' := h) rfl ?_
      exact E_ret (x := (.ireturn, 0, [], [])) (v := some (.inl 1)) rfl (Or.inl rfl) (hQ1 (by omega) (by omega))
  · rw [c_ne (by first | exact ⟨by omega, by omega⟩ | (rw [hE.1]; exact ⟨by omega, by omega⟩)) (by first | exact ⟨by omega, by omega⟩ | (rw [hE.1]; exact ⟨by omega, by omega⟩))] at c2
    simp only [decide_eq_true_eq, decide_eq_false_iff_not, Decidable.not_not] at c2
    show xEx G0 cdX12_grows (some .int) (xRn G0 MT (d + 5)) Q b 3 [some (.inr (.inr 66)), some (.inl 1), none, none] [] h
    refine E_s 1 (i' := 4) (ls' := [some (.inr (.inr 66)), some (.inl 1), none, none]) (sk' := [.inl 3]) (h' := h) rfl ?_
    exact E_ret (x := (.ireturn, 0, [], [])) (v := some (.inl 3)) rfl (Or.inl rfl) (hQ3 (by omega))
