theorem mkE_congr {h0 h1 : xH} (e1 : h0 1 = h1 1) (e2 : h0 3 = h1 3) (e3 : h0 4 = h1 4) (e4 : h0 5 = h1 5) (e5 : h0 6 = h1 6) (e6 : h0 7 = h1 7) (e7 : h0 8 = h1 8) (e8 : h0 23 = h1 23) (e9 : h0 9 15 = h1 9 15) : mkE h0 = mkE h1 := by
  have er : rwf h0 = rwf h1 := by funext j e; unfold rwf; rw [e2, e3, e4]
  have eo : offP h0 = offP h1 := by funext S c1 c2 c3; unfold offP; rw [e1, er, e5, e9]
  have eb : xbg h0 = xbg h1 := by funext s; unfold xbg; rw [e8]
  have ee : xen h0 = xen h1 := by funext s; unfold xen; rw [e8]
  have ef : xfr h0 = xfr h1 := by funext p a t; unfold xfr; rw [eb]
  have ea : xga h0 = xga h1 := by funext p s z S a; unfold xga; rw [eo, ef, ee]
  have es : xgs h0 = xgs h1 := by funext p z S s; unfold xgs; rw [ea, eb, ee]
  have e10 : xg1 h0 = xg1 h1 := by funext p z S; unfold xg1; rw [eo, eb, ee]
  have ep : xgp h0 = xgp h1 := by funext z S p; unfold xgp; rw [e6, e10, es]
  funext z S
  unfold mkE
  rw [eo, e7, e1, e6, ep]
theorem c_makeAll (d b : Nat) (h0 h S : xH) (hB : B0 h0) (hG : GI h0 h S) (ho : S 0 4 = 0) (hm : 1 ≤ h0 1 1 ∧ h0 1 1 ≤ 3) (hcc : 2 ≤ h0 7 1 ∧ h0 7 1 ≤ 10) (hcr : ∀ i, 0 ≤ i → i < h0 7 1 → -99 ≤ h0 8 i ∧ h0 8 i ≤ 99) (hE : ENS h0 (S 0 0)) (z : Int) (hz : 1 ≤ z ∧ z ≤ 9) {Q : xO → xH → Prop} (hQ : ∀ h', GI h0 h' (mkE h0 z S) → Q (.inl (some (.inl (if mkE h0 z S 0 4 = 0 then 1 else 0)))) h') : xRn G0 MT (d + 7) b 6 [.inr (.inr 9), .inl z] h Q := by
  unfold mkE at hQ
  by_cases h1 : z = 1
  · subst h1
    rw [if_pos rfl] at hQ
    exact c_makeAll1 (d + 1) b h0 h S hB hG ho hm hcc hcr hQ
  · rw [if_neg h1] at hQ
    exact c_makeAllN d b h0 h S hB hG ho hE z (by omega) hQ
/-- what GROWTH of EXPRESSIONS leaves as it was -/
def FA (h h' : xH) : Prop := (∀ a, (a < 9 ∨ 27 < a) → h' a = h a) ∧ h' 9 11 = h 9 11
/-- the state as a SIZE begins -/
def st0 (S : xH) (mm : Int) : xH := xup (xup S 0 3 mm) 0 4 0
def hz (h : xH) (z : Int) : xH := xup h 9 15 z
set_option maxHeartbeats 1000000 in
theorem c_firstSize (d b : Nat) (h : xH) {Q : xO → xH → Prop} (hQ : Q (.inl (some (.inl 1))) h) : xRn G0 MT (d + 1) b 5 [.inr (.inr 9)] h Q := by
  refine R_of (M := mX1_firstSize) rfl (Nat.le_of_ble_eq_true rfl) ?_
  show xEx G0 cdX1_firstSize (some .int) (xRn G0 MT d) Q b 0 [some (.inr (.inr 9))] [] h
  refine E_s 1 (i' := 1) (ls' := [some (.inr (.inr 9))]) (sk' := [.inl 1]) (h' := h) rfl ?_
  exact E_ret (x := (.ireturn, 0, [], [])) (v := some (.inl 1)) rfl (Or.inl rfl) (hQ)
set_option maxHeartbeats 1000000 in
theorem c_advance_ge (d b : Nat) (h S : xH) (mm : Int) (hB : B0 h) (hm : 1 ≤ h 1 1 ∧ h 1 1 ≤ 3) (hcc : 2 ≤ h 7 1 ∧ h 7 1 ≤ 10) (hcr : ∀ i, 0 ≤ i → i < h 7 1 → -99 ≤ h 8 i ∧ h 8 i ≤ 99) (hE : ENZ h S) (hR : RC h S) (hW : WE (h 1 2) S) (hmm : 0 ≤ mm ∧ mm ≤ 20000) (h2 : S 0 2 + mm ≤ 400000) (hL : 0 ≤ h 9 13 ∧ h 9 13 ≤ 9) (hF : 0 ≤ h 9 14 ∧ h 9 14 ≤ 1) {Q : xO → xH → Prop} (hQ3 : (h 1 2 = 0 ∨ (h 9 14 = 0 ∧ h 9 13 = 9)) → Q (.inl (some (.inl 3))) h) (hQ1 : h 1 2 ≠ 0 → h 9 14 = 1 → Q (.inl (some (.inl 1))) h)
  (hQ2 : h 1 2 ≠ 0 → h 9 14 = 0 → h 9 13 < 9 → (mkE (hz h (h 9 13 + 1)) (h 9 13 + 1) (st0 S mm)) 0 4 = 2 → ∀ h', RC h' (xup (xup S 0 3 ((mkE (hz h (h 9 13 + 1)) (h 9 13 + 1) (st0 S mm)) 0 3)) 0 4 2) → FA h h' → h' 23 = h 23 → h' 9 13 = h 9 13 → h' 9 14 = h 9 14 → Q (.inl (some (.inl 2))) h')
  (hQ0 : h 1 2 ≠ 0 → h 9 14 = 0 → h 9 13 < 9 → (mkE (hz h (h 9 13 + 1)) (h 9 13 + 1) (st0 S mm)) 0 4 ≠ 2 → ∀ h', RC h' (mkE (hz h (h 9 13 + 1)) (h 9 13 + 1) (st0 S mm)) → FA h h' → (∀ j, h 9 13 + 1 ≤ j → j < 10 → h' 23 j = (mkE (hz h (h 9 13 + 1)) (h 9 13 + 1) (st0 S mm)) 0 0) → (∀ j, j < h 9 13 + 1 → h' 23 j = h 23 j) → h' 9 13 = (if (mkE (hz h (h 9 13 + 1)) (h 9 13 + 1) (st0 S mm)) 0 4 = 1 then h 9 13 else h 9 13 + 1) → h' 9 14 = (if (mkE (hz h (h 9 13 + 1)) (h 9 13 + 1) (st0 S mm)) 0 4 = 1 then 1 else 0) → Q (.inl (some (.inl ((mkE (hz h (h 9 13 + 1)) (h 9 13 + 1) (st0 S mm)) 0 4)))) h') : xRn G0 MT (d + 8) b 33 [.inr (.inr 9), .inl mm] h Q := by
  refine R_of (M := mX3_advance) rfl (Nat.le_of_ble_eq_true rfl) ?_
  show xEx G0 cdX3_advance (some .int) (xRn G0 MT (d + 7)) Q b 0 [some (.inr (.inr 9)), some (.inl mm), none, none, none, none] [] h
  have hR0 := hR
  obtain ⟨a1, a2, a3, a4, a5, a6, a7, a8, a9⟩ := hR0
  obtain ⟨w1, w2, w3, w4, w5, w6, w7, w8, w9, w10, w11, w12⟩ := hW
  have hn12 := hB.1
  refine E_s 3 (i' := 3) (ls' := [some (.inr (.inr 9)), some (.inl mm), none, none, none, none]) (sk' := [.inl (h 1 2)]) (h' := h) rfl ?_
  refine E_b (x := (.ifCond .ne 5, 6, [], [])) rfl rfl (fun c3 => ?_) (fun c3 => ?_)
  · rw [c_ne (by first | assumption | (refine ⟨?_, ?_⟩ <;> omega) | (simp only [xr] at *; omega)) (by first | assumption | (refine ⟨?_, ?_⟩ <;> omega) | (simp only [xr] at *; omega))] at c3
    simp only [decide_eq_true_eq, decide_eq_false_iff_not, Decidable.not_not] at c3
    show xEx G0 cdX3_advance (some .int) (xRn G0 MT (d + 7)) Q b 6 [some (.inr (.inr 9)), some (.inl mm), none, none, none, none] [] h
    refine E_s 2 (i' := 8) (ls' := [some (.inr (.inr 9)), some (.inl mm), none, none, none, none]) (sk' := [.inl (h 9 14)]) (h' := h) rfl ?_
    refine E_b (x := (.ifCond .eq 5, 11, [], [])) rfl rfl (fun c8 => ?_) (fun c8 => ?_)
    · rw [c_eq (by first | assumption | (refine ⟨?_, ?_⟩ <;> omega) | (simp only [xr] at *; omega)) (by first | assumption | (refine ⟨?_, ?_⟩ <;> omega) | (simp only [xr] at *; omega))] at c8
      simp only [decide_eq_true_eq, decide_eq_false_iff_not, Decidable.not_not] at c8
      show xEx G0 cdX3_advance (some .int) (xRn G0 MT (d + 7)) Q b 11 [some (.inr (.inr 9)), some (.inl mm), none, none, none, none] [] h
      refine E_s 7 (i' := 18) (ls' := [some (.inr (.inr 9)), some (.inl mm), none, none, none, none]) (sk' := [.inl (10 - 1), .inl (h 9 13)]) (h' := h) rfl ?_
      refine E_b (x := (.if_icmp .lt 5, 21, [], [])) rfl rfl (fun c18 => ?_) (fun c18 => ?_)
      · rw [c_lt (by first | assumption | (refine ⟨?_, ?_⟩ <;> omega) | (simp only [xr] at *; omega)) (by first | assumption | (refine ⟨?_, ?_⟩ <;> omega) | (simp only [xr] at *; omega))] at c18
        simp only [decide_eq_true_eq, decide_eq_false_iff_not, Decidable.not_not] at c18
        show xEx G0 cdX3_advance (some .int) (xRn G0 MT (d + 7)) Q b 21 [some (.inr (.inr 9)), some (.inl mm), none, none, none, none] [] h
        have hn0 : h 1 2 ≠ 0 := c3
        have hF0 : h 9 14 = 0 := by omega
        refine E_s 19 (i' := 40) (ls' := [some (.inr (.inr 9)), some (.inl mm), some (.inl (h 9 9)), some (.inl (h 9 10)), some (.inl (h 9 11)), some (.inl (h 9 12))]) (sk' := [.inl (h 9 9), .inl 0, .inr (.inr 22), .inl 0, .inr (.inr 21)]) (h' := h) rfl ?_
        refine E_cpy (x := (.invokestatic 93, 0, [], [])) rfl rfl rfl rfl rfl rfl (by omega) (by omega) (by omega) (by omega) (by omega) (Nat.le_of_ble_eq_true rfl) ?_
        show xEx G0 cdX3_advance (some .int) (xRn G0 MT (d + 7)) Q b 41 [some (.inr (.inr 9)), some (.inl mm), some (.inl (h 9 9)), some (.inl (h 9 10)), some (.inl (h 9 11)), some (.inl (h 9 12))] [] (xcpy h 21 0 22 0 (h 9 9))
        have cut52 : ∀ (_u : Unit), xEx G0 cdX3_advance (some .int) (xRn G0 MT (d + 7)) Q b 52 [some (.inr (.inr 9)), some (.inl mm), some (.inl (h 9 9)), some (.inl (h 9 10)), some (.inl (h 9 11)), some (.inl (h 9 12))] [.inl (h 9 13 + 1), .inr (.inr 9)] (xcpy h 21 0 22 0 (h 9 9)) := by
          intro _u
          refine E_s 10 (i' := 62) (ls' := [some (.inr (.inr 9)), some (.inl mm), some (.inl (h 9 9)), some (.inl (h 9 10)), some (.inl (h 9 11)), some (.inl (h 9 12))]) (sk' := [.inl (h 9 13 + 1), .inr (.inr 9)]) (h' := (xup (xup (xup (xcpy h 21 0 22 0 (h 9 9)) 9 15 (h 9 13 + 1)) 9 16 mm) 9 17 0)) rfl ?_
          have hGm : GI (xup (xup (xup (xcpy h 21 0 22 0 (h 9 9)) 9 15 (h 9 13 + 1)) 9 16 mm) 9 17 0) (xup (xup (xup (xcpy h 21 0 22 0 (h 9 9)) 9 15 (h 9 13 + 1)) 9 16 mm) 9 17 0) (st0 S mm) := ⟨⟨a1, a2, a3, rfl, rfl, a6, a7, a8, a9⟩, ⟨w1, w2, w3, w4, w5, w6, w7, h2, hmm.1, hmm.2, Int.le_refl _, by show (0 : Int) ≤ 2; omega⟩, FG.rf _⟩
          have ecg : mkE (xup (xup (xup (xcpy h 21 0 22 0 (h 9 9)) 9 15 (h 9 13 + 1)) 9 16 mm) 9 17 0) = mkE (hz h (h 9 13 + 1)) := mkE_congr rfl rfl rfl rfl rfl rfl rfl rfl rfl
          refine E_cp (x := (.invokevirtual 112, 1, [(1, 6), (7, 79)], [1])) (q := fun r h9 => GI (xup (xup (xup (xcpy h 21 0 22 0 (h 9 9)) 9 15 (h 9 13 + 1)) 9 16 mm) 9 17 0) h9 (mkE (xup (xup (xup (xcpy h 21 0 22 0 (h 9 9)) 9 15 (h 9 13 + 1)) 9 16 mm) 9 17 0) (h 9 13 + 1) (st0 S mm))) rfl rfl (Nat.le_of_ble_eq_true rfl) (c_makeAll d 0 (xup (xup (xup (xcpy h 21 0 22 0 (h 9 9)) 9 15 (h 9 13 + 1)) 9 16 mm) 9 17 0) (xup (xup (xup (xcpy h 21 0 22 0 (h 9 9)) 9 15 (h 9 13 + 1)) 9 16 mm) 9 17 0) (st0 S mm) hB hGm rfl hm hcc hcr (ENZ_s hE) (h 9 13 + 1) (by omega) (fun h9 h8 => ⟨_, rfl, h8⟩)) (fun r h1 hG1 => ?_)
          rw [ecg] at hG1
          have hMF := mkE_P (h0 := hz h (h 9 13 + 1)) (z := h 9 13 + 1) (S := st0 S mm) (P := fun _ => True) hB (by omega) hm hcr hE hGm.2.1 trivial (fun _ _ _ _ _ _ _ _ => trivial)
          obtain ⟨hW1, hSt, h23, -⟩ := hMF
          generalize hS1 : (mkE (hz h (h 9 13 + 1)) (h 9 13 + 1) (st0 S mm)) = S1 at *
          obtain ⟨hR1, hW1', hF1⟩ := hG1
          obtain ⟨b1, b2, b3, b4, b5, b6, b7, b8, b9⟩ := hR1
          have hSt0 : S 0 0 ≤ S1 0 0 := hSt.1
          show xEx G0 cdX3_advance (some .int) (xRn G0 MT (d + 7)) Q b 63 [some (.inr (.inr 9)), some (.inl mm), some (.inl (h 9 9)), some (.inl (h 9 10)), some (.inl (h 9 11)), some (.inl (h 9 12))] [.inl r] h1
          refine E_s 1 (i' := 64) (ls' := [some (.inr (.inr 9)), some (.inl mm), some (.inl (h 9 9)), some (.inl (h 9 10)), some (.inl (h 9 11)), some (.inl (h 9 12))]) (sk' := []) (h' := h1) rfl ?_
          
          refine E_s 3 (i' := 67) (ls' := [some (.inr (.inr 9)), some (.inl mm), some (.inl (h 9 9)), some (.inl (h 9 10)), some (.inl (h 9 11)), some (.inl (h 9 12))]) (sk' := [.inl 2, .inl (h1 9 17)]) (h' := h1) rfl ?_
          refine E_b (x := (.if_icmp .ne 41, 90, [], [])) rfl rfl (fun c67 => ?_) (fun c67 => ?_)
          · rw [c_ne (by first | exact ⟨by omega, by omega⟩ | (rw [b5]; exact ⟨by have := hW1.2.2.2.2.2.2.2.2.2.2.1; omega, by have := hW1.2.2.2.2.2.2.2.2.2.2.2; omega⟩)) (by first | exact ⟨by omega, by omega⟩ | (rw [b5]; exact ⟨by have := hW1.2.2.2.2.2.2.2.2.2.2.1; omega, by have := hW1.2.2.2.2.2.2.2.2.2.2.2; omega⟩))] at c67
            simp only [decide_eq_true_eq, decide_eq_false_iff_not, Decidable.not_not] at c67
            show xEx G0 cdX3_advance (some .int) (xRn G0 MT (d + 7)) Q b 90 [some (.inr (.inr 9)), some (.inl mm), some (.inl (h 9 9)), some (.inl (h 9 10)), some (.inl (h 9 11)), some (.inl (h 9 12))] [] h1
            have hsz : h1 9 15 = h 9 13 + 1 := hF1.2.2.2.2
            refine E_s 9 (i' := 99) (ls' := [some (.inr (.inr 9)), some (.inl mm), some (.inl (h 9 9)), some (.inl (h 9 10)), some (.inl (h 9 11)), some (.inl (h 9 12))]) (sk' := [.inl (h1 9 9), .inl 10, .inl (h1 9 15), .inr (.inr 23)]) (h' := h1) rfl ?_
            refine E_cv (x := (.invokestatic 116, 4, [(0, 256)], [])) (q := fun h9 => h9 = (xfill h1 23 (h1 9 15) 10 (h1 9 9))) rfl rfl (Nat.le_of_ble_eq_true rfl) (c_fill_ge_ends (d + 5) 0 h1 (h1 9 15) 10 (h1 9 9) (by rw [hsz]; omega) (by rw [hsz]; omega) (by omega) ⟨rfl, rfl⟩) (fun h9 e9 => ?_)
            subst e9
            show xEx G0 cdX3_advance (some .int) (xRn G0 MT (d + 7)) Q b 100 [some (.inr (.inr 9)), some (.inl mm), some (.inl (h 9 9)), some (.inl (h 9 10)), some (.inl (h 9 11)), some (.inl (h 9 12))] [] (xfill h1 23 (h1 9 15) 10 (h1 9 9))
            refine E_s 4 (i' := 104) (ls' := [some (.inr (.inr 9)), some (.inl mm), some (.inl (h 9 9)), some (.inl (h 9 10)), some (.inl (h 9 11)), some (.inl (h 9 12))]) (sk' := [.inl 1, .inl ((xfill h1 23 (h1 9 15) 10 (h1 9 9)) 9 17), .inr (.inr 9)]) (h' := (xfill h1 23 (h1 9 15) 10 (h1 9 9))) rfl ?_
            refine E_b (x := (.if_icmp .ne 7, 107, [], [])) rfl rfl (fun c104 => ?_) (fun c104 => ?_)
            · rw [c_ne (by first | exact ⟨by omega, by omega⟩ | (show xr (h1 9 17); rw [b5]; exact ⟨by have := hW1.2.2.2.2.2.2.2.2.2.2.1; omega, by have := hW1.2.2.2.2.2.2.2.2.2.2.2; omega⟩)) (by first | exact ⟨by omega, by omega⟩ | (show xr (h1 9 17); rw [b5]; exact ⟨by have := hW1.2.2.2.2.2.2.2.2.2.2.1; omega, by have := hW1.2.2.2.2.2.2.2.2.2.2.2; omega⟩))] at c104
              simp only [decide_eq_true_eq, decide_eq_false_iff_not, Decidable.not_not] at c104
              show xEx G0 cdX3_advance (some .int) (xRn G0 MT (d + 7)) Q b 107 [some (.inr (.inr 9)), some (.inl mm), some (.inl (h 9 9)), some (.inl (h 9 10)), some (.inl (h 9 11)), some (.inl (h 9 12))] [.inr (.inr 9)] (xfill h1 23 (h1 9 15) 10 (h1 9 9))
              have c104 : ¬ h1 9 17 = 1 := c104
              refine E_s 1 (i' := 108) (ls' := [some (.inr (.inr 9)), some (.inl mm), some (.inl (h 9 9)), some (.inl (h 9 10)), some (.inl (h 9 11)), some (.inl (h 9 12))]) (sk' := [.inl 0, .inr (.inr 9)]) (h' := (xfill h1 23 (h1 9 15) 10 (h1 9 9))) rfl ?_
              refine E_pz (x := (.putfield 75, 0, [(1, 14), (7, 14)], [])) rfl rfl rfl (by first | exact Or.inl rfl | exact Or.inr rfl) ?_
              show xEx G0 cdX3_advance (some .int) (xRn G0 MT (d + 7)) Q b 109 [some (.inr (.inr 9)), some (.inl mm), some (.inl (h 9 9)), some (.inl (h 9 10)), some (.inl (h 9 11)), some (.inl (h 9 12))] [] (xup (xfill h1 23 (h1 9 15) 10 (h1 9 9)) 9 14 0)
              refine E_s 3 (i' := 112) (ls' := [some (.inr (.inr 9)), some (.inl mm), some (.inl (h 9 9)), some (.inl (h 9 10)), some (.inl (h 9 11)), some (.inl (h 9 12))]) (sk' := [.inl 0, .inr (.inr 9)]) (h' := (xup (xfill h1 23 (h1 9 15) 10 (h1 9 9)) 9 14 0)) rfl ?_
              refine E_b (x := (.ifCond .eq 10, 116, [], [])) rfl rfl (fun c112 => ?_) (fun c112 => ?_)
              · rw [c_eq (by first | assumption | (refine ⟨?_, ?_⟩ <;> omega) | (simp only [xr] at *; omega)) (by first | assumption | (refine ⟨?_, ?_⟩ <;> omega) | (simp only [xr] at *; omega))] at c112
                simp only [decide_eq_true_eq, decide_eq_false_iff_not, Decidable.not_not] at c112
                show xEx G0 cdX3_advance (some .int) (xRn G0 MT (d + 7)) Q b 116 [some (.inr (.inr 9)), some (.inl mm), some (.inl (h 9 9)), some (.inl (h 9 10)), some (.inl (h 9 11)), some (.inl (h 9 12))] [.inr (.inr 9)] (xup (xfill h1 23 (h1 9 15) 10 (h1 9 9)) 9 14 0)
                
                refine E_s 5 (i' := 121) (ls' := [some (.inr (.inr 9)), some (.inl mm), some (.inl (h 9 9)), some (.inl (h 9 10)), some (.inl (h 9 11)), some (.inl (h 9 12))]) (sk' := [.inl ((xfill h1 23 (h1 9 15) 10 (h1 9 9)) 9 17)]) (h' := (xup (xup (xfill h1 23 (h1 9 15) 10 (h1 9 9)) 9 14 0) 9 13 ((xfill h1 23 (h1 9 15) 10 (h1 9 9)) 9 15))) rfl ?_
                exact E_ret (x := (.ireturn, 0, [], [])) (v := some (.inl ((xfill h1 23 (h1 9 15) 10 (h1 9 9)) 9 17))) rfl (Or.inl rfl) (by
                  have hrr := hQ0 hn0 hF0 (by omega) (by rw [← b5]; exact c67) (xup (xup (xfill h1 23 (h1 9 15) 10 (h1 9 9)) 9 14 0) 9 13 ((xfill h1 23 (h1 9 15) 10 (h1 9 9)) 9 15)) (by
                    exact ⟨b1, b2, b3, b4, b5, b6, b7, b8, b9⟩) (⟨fun a ha => by
                      have e2 : h1 a = h a := (hF1.1 a (by omega)).trans (by funext j; simp [xup, xcpy, show a ≠ 9 by omega, show a ≠ 22 by omega])
                      rw [← e2]
                      funext j
                      simp [xup, xfill, show a ≠ 9 by omega, show a ≠ 23 by omega], hF1.2.1⟩)
                    (by
                      intro j z1 z2
                      rw [← b1]
                      show xfill h1 23 (h1 9 15) 10 (h1 9 9) 23 j = _
                      rw [xfill_i (by rw [hsz]; omega)])
                    (by
                      intro j z1
                      show xfill h1 23 (h1 9 15) 10 (h1 9 9) 23 j = _
                      rw [xfill_o (by rw [hsz]; omega), hF1.1 23 (by decide)]
                      rfl)
                    (by
                      rw [← b5, if_neg c104]
                      exact hF1.2.2.2.2) (by rw [← b5, if_neg c104]; rfl)
                  rw [← b5] at hrr
                  exact hrr)
              · rw [c_eq (by first | assumption | (refine ⟨?_, ?_⟩ <;> omega) | (simp only [xr] at *; omega)) (by first | assumption | (refine ⟨?_, ?_⟩ <;> omega) | (simp only [xr] at *; omega))] at c112
                simp only [decide_eq_true_eq, decide_eq_false_iff_not, Decidable.not_not] at c112
                show xEx G0 cdX3_advance (some .int) (xRn G0 MT (d + 7)) Q b 113 [some (.inr (.inr 9)), some (.inl mm), some (.inl (h 9 9)), some (.inl (h 9 10)), some (.inl (h 9 11)), some (.inl (h 9 12))] [.inr (.inr 9)] (xup (xfill h1 23 (h1 9 15) 10 (h1 9 9)) 9 14 0)
                
                refine E_s 6 (i' := 121) (ls' := [some (.inr (.inr 9)), some (.inl mm), some (.inl (h 9 9)), some (.inl (h 9 10)), some (.inl (h 9 11)), some (.inl (h 9 12))]) (sk' := [.inl ((xfill h1 23 (h1 9 15) 10 (h1 9 9)) 9 17)]) (h' := (xup (xup (xfill h1 23 (h1 9 15) 10 (h1 9 9)) 9 14 0) 9 13 ((xfill h1 23 (h1 9 15) 10 (h1 9 9)) 9 13))) rfl ?_
                exact E_ret (x := (.ireturn, 0, [], [])) (v := some (.inl ((xfill h1 23 (h1 9 15) 10 (h1 9 9)) 9 17))) rfl (Or.inl rfl) (by first | exact absurd c112 (by decide) | exact absurd trivial c112 | exact False.elim c112)
            · rw [c_ne (by first | exact ⟨by omega, by omega⟩ | (show xr (h1 9 17); rw [b5]; exact ⟨by have := hW1.2.2.2.2.2.2.2.2.2.2.1; omega, by have := hW1.2.2.2.2.2.2.2.2.2.2.2; omega⟩)) (by first | exact ⟨by omega, by omega⟩ | (show xr (h1 9 17); rw [b5]; exact ⟨by have := hW1.2.2.2.2.2.2.2.2.2.2.1; omega, by have := hW1.2.2.2.2.2.2.2.2.2.2.2; omega⟩))] at c104
              simp only [decide_eq_true_eq, decide_eq_false_iff_not, Decidable.not_not] at c104
              show xEx G0 cdX3_advance (some .int) (xRn G0 MT (d + 7)) Q b 105 [some (.inr (.inr 9)), some (.inl mm), some (.inl (h 9 9)), some (.inl (h 9 10)), some (.inl (h 9 11)), some (.inl (h 9 12))] [.inr (.inr 9)] (xfill h1 23 (h1 9 15) 10 (h1 9 9))
              have c104 : h1 9 17 = 1 := c104
              refine E_s 2 (i' := 108) (ls' := [some (.inr (.inr 9)), some (.inl mm), some (.inl (h 9 9)), some (.inl (h 9 10)), some (.inl (h 9 11)), some (.inl (h 9 12))]) (sk' := [.inl 1, .inr (.inr 9)]) (h' := (xfill h1 23 (h1 9 15) 10 (h1 9 9))) rfl ?_
              refine E_pz (x := (.putfield 75, 0, [(1, 14), (7, 14)], [])) rfl rfl rfl (by first | exact Or.inl rfl | exact Or.inr rfl) ?_
              show xEx G0 cdX3_advance (some .int) (xRn G0 MT (d + 7)) Q b 109 [some (.inr (.inr 9)), some (.inl mm), some (.inl (h 9 9)), some (.inl (h 9 10)), some (.inl (h 9 11)), some (.inl (h 9 12))] [] (xup (xfill h1 23 (h1 9 15) 10 (h1 9 9)) 9 14 1)
              refine E_s 3 (i' := 112) (ls' := [some (.inr (.inr 9)), some (.inl mm), some (.inl (h 9 9)), some (.inl (h 9 10)), some (.inl (h 9 11)), some (.inl (h 9 12))]) (sk' := [.inl 1, .inr (.inr 9)]) (h' := (xup (xfill h1 23 (h1 9 15) 10 (h1 9 9)) 9 14 1)) rfl ?_
              refine E_b (x := (.ifCond .eq 10, 116, [], [])) rfl rfl (fun c112 => ?_) (fun c112 => ?_)
              · rw [c_eq (by first | assumption | (refine ⟨?_, ?_⟩ <;> omega) | (simp only [xr] at *; omega)) (by first | assumption | (refine ⟨?_, ?_⟩ <;> omega) | (simp only [xr] at *; omega))] at c112
                simp only [decide_eq_true_eq, decide_eq_false_iff_not, Decidable.not_not] at c112
                show xEx G0 cdX3_advance (some .int) (xRn G0 MT (d + 7)) Q b 116 [some (.inr (.inr 9)), some (.inl mm), some (.inl (h 9 9)), some (.inl (h 9 10)), some (.inl (h 9 11)), some (.inl (h 9 12))] [.inr (.inr 9)] (xup (xfill h1 23 (h1 9 15) 10 (h1 9 9)) 9 14 1)
                
                refine E_s 5 (i' := 121) (ls' := [some (.inr (.inr 9)), some (.inl mm), some (.inl (h 9 9)), some (.inl (h 9 10)), some (.inl (h 9 11)), some (.inl (h 9 12))]) (sk' := [.inl ((xfill h1 23 (h1 9 15) 10 (h1 9 9)) 9 17)]) (h' := (xup (xup (xfill h1 23 (h1 9 15) 10 (h1 9 9)) 9 14 1) 9 13 ((xfill h1 23 (h1 9 15) 10 (h1 9 9)) 9 15))) rfl ?_
                exact E_ret (x := (.ireturn, 0, [], [])) (v := some (.inl ((xfill h1 23 (h1 9 15) 10 (h1 9 9)) 9 17))) rfl (Or.inl rfl) (by first | exact absurd c112 (by decide) | exact absurd trivial c112 | exact False.elim c112)
              · rw [c_eq (by first | assumption | (refine ⟨?_, ?_⟩ <;> omega) | (simp only [xr] at *; omega)) (by first | assumption | (refine ⟨?_, ?_⟩ <;> omega) | (simp only [xr] at *; omega))] at c112
                simp only [decide_eq_true_eq, decide_eq_false_iff_not, Decidable.not_not] at c112
                show xEx G0 cdX3_advance (some .int) (xRn G0 MT (d + 7)) Q b 113 [some (.inr (.inr 9)), some (.inl mm), some (.inl (h 9 9)), some (.inl (h 9 10)), some (.inl (h 9 11)), some (.inl (h 9 12))] [.inr (.inr 9)] (xup (xfill h1 23 (h1 9 15) 10 (h1 9 9)) 9 14 1)
                
                refine E_s 6 (i' := 121) (ls' := [some (.inr (.inr 9)), some (.inl mm), some (.inl (h 9 9)), some (.inl (h 9 10)), some (.inl (h 9 11)), some (.inl (h 9 12))]) (sk' := [.inl ((xfill h1 23 (h1 9 15) 10 (h1 9 9)) 9 17)]) (h' := (xup (xup (xfill h1 23 (h1 9 15) 10 (h1 9 9)) 9 14 1) 9 13 ((xfill h1 23 (h1 9 15) 10 (h1 9 9)) 9 13))) rfl ?_
                exact E_ret (x := (.ireturn, 0, [], [])) (v := some (.inl ((xfill h1 23 (h1 9 15) 10 (h1 9 9)) 9 17))) rfl (Or.inl rfl) (by
                  have hrr := hQ0 hn0 hF0 (by omega) (by rw [← b5]; exact c67) (xup (xup (xfill h1 23 (h1 9 15) 10 (h1 9 9)) 9 14 1) 9 13 ((xfill h1 23 (h1 9 15) 10 (h1 9 9)) 9 13)) (by
                    exact ⟨b1, b2, b3, b4, b5, b6, b7, b8, b9⟩) (⟨fun a ha => by
                      have e2 : h1 a = h a := (hF1.1 a (by omega)).trans (by funext j; simp [xup, xcpy, show a ≠ 9 by omega, show a ≠ 22 by omega])
                      rw [← e2]
                      funext j
                      simp [xup, xfill, show a ≠ 9 by omega, show a ≠ 23 by omega], hF1.2.1⟩)
                    (by
                      intro j z1 z2
                      rw [← b1]
                      show xfill h1 23 (h1 9 15) 10 (h1 9 9) 23 j = _
                      rw [xfill_i (by rw [hsz]; omega)])
                    (by
                      intro j z1
                      show xfill h1 23 (h1 9 15) 10 (h1 9 9) 23 j = _
                      rw [xfill_o (by rw [hsz]; omega), hF1.1 23 (by decide)]
                      rfl)
                    (by
                      rw [← b5, if_pos c104]
                      exact hF1.2.2.1) (by rw [← b5, if_pos c104]; rfl)
                  rw [← b5] at hrr
                  exact hrr)
          · rw [c_ne (by first | exact ⟨by omega, by omega⟩ | (rw [b5]; exact ⟨by have := hW1.2.2.2.2.2.2.2.2.2.2.1; omega, by have := hW1.2.2.2.2.2.2.2.2.2.2.2; omega⟩)) (by first | exact ⟨by omega, by omega⟩ | (rw [b5]; exact ⟨by have := hW1.2.2.2.2.2.2.2.2.2.2.1; omega, by have := hW1.2.2.2.2.2.2.2.2.2.2.2; omega⟩))] at c67
            simp only [decide_eq_true_eq, decide_eq_false_iff_not, Decidable.not_not] at c67
            show xEx G0 cdX3_advance (some .int) (xRn G0 MT (d + 7)) Q b 68 [some (.inr (.inr 9)), some (.inl mm), some (.inl (h 9 9)), some (.inl (h 9 10)), some (.inl (h 9 11)), some (.inl (h 9 12))] [] h1
            refine E_s 2 (i' := 70) (ls' := [some (.inr (.inr 9)), some (.inl mm), some (.inl (h 9 9)), some (.inl (h 9 10)), some (.inl (h 9 11)), some (.inl (h 9 12))]) (sk' := [.inl (h 9 9), .inr (.inr 9)]) (h' := h1) rfl ?_
            refine E_cv (x := (.invokevirtual 59, 1, [(1, 37), (7, 37)], [1])) (q := fun h9 => (∀ a, a ≠ 25 → a ≠ 9 → h9 a = h1 a) ∧ (∀ j, j ≠ 9 → h9 9 j = h1 9 j) ∧ h9 9 9 = h 9 9 ∧ chn h9 (h 9 9)) rfl rfl (Nat.le_of_ble_eq_true rfl) (c_unsettleBehind_ge (d + 5) 0 h1 (h 9 9) (by rw [b1]; exact ⟨hW1.1, hW1.2.1⟩) (by rw [b1, a1]; exact ⟨w1, hSt0⟩) (by rw [b1]; exact b8) (fun h9 q1 q2 q3 q4 => ⟨rfl, q1, q2, q3, q4⟩)) (fun h2_ hq => ?_)
            obtain ⟨q1, q2, q3, q4⟩ := hq
            show xEx G0 cdX3_advance (some .int) (xRn G0 MT (d + 7)) Q b 71 [some (.inr (.inr 9)), some (.inl mm), some (.inl (h 9 9)), some (.inl (h 9 10)), some (.inl (h 9 11)), some (.inl (h 9 12))] [] h2_
            refine E_s 7 (i' := 78) (ls' := [some (.inr (.inr 9)), some (.inl mm), some (.inl (h 9 9)), some (.inl (h 9 10)), some (.inl (h 9 11)), some (.inl (h 9 12))]) (sk' := [.inl (h 9 9), .inl 0, .inr (.inr 21), .inl 0, .inr (.inr 22)]) (h' := h2_) rfl ?_
            refine E_cpy (x := (.invokestatic 93, 0, [], [])) rfl rfl rfl rfl rfl rfl (by omega) (by omega) (by omega) (by omega) (by omega) (Nat.le_of_ble_eq_true rfl) ?_
            show xEx G0 cdX3_advance (some .int) (xRn G0 MT (d + 7)) Q b 79 [some (.inr (.inr 9)), some (.inl mm), some (.inl (h 9 9)), some (.inl (h 9 10)), some (.inl (h 9 11)), some (.inl (h 9 12))] [] (xcpy h2_ 22 0 21 0 (h 9 9))
            refine E_s 10 (i' := 89) (ls' := [some (.inr (.inr 9)), some (.inl mm), some (.inl (h 9 9)), some (.inl (h 9 10)), some (.inl (h 9 11)), some (.inl (h 9 12))]) (sk' := [.inl 2]) (h' := (xup (xup (xup (xcpy h2_ 22 0 21 0 (h 9 9)) 9 10 (h 9 10)) 9 11 (h 9 11)) 9 12 (h 9 12))) rfl ?_
            exact E_ret (x := (.ireturn, 0, [], [])) (v := some (.inl 2)) rfl (Or.inl rfl) (hQ2 hn0 hF0 (by omega) (by rw [← b5]; exact c67) _ (by
              refine ⟨q3.trans a1, a2, a3, (q2 16 (by decide)).trans b4, (q2 17 (by decide)).trans c67, fun k hk0 hk9 => ?_, fun k e hk0 hk9 he0 he9 => ?_, ?_, fun k hk0 hk9 => ?_⟩
              · obtain ⟨t1, t2, t3, t4, t5, t6, t7, t8⟩ := b6 k hk0 (Int.lt_of_lt_of_le hk9 hSt0)
                obtain ⟨s1, s2, s3, s4, s5, s6, s7, s8, s9⟩ := hSt.2 k hk0 hk9
                have u7 : h 21 k = S 7 k := (a6 k hk0 hk9).2.2.2.2.2.1
                have hmb : h2_ 22 k = S 7 k := by
                  rw [q1 22 (by decide) (by decide), hF1.1 22 (by decide), ← u7]
                  show (if (22 : Nat) = 22 then (if 0 ≤ k ∧ k < 0 + h 9 9 then h 21 (0 + (k - 0)) else h 22 k) else h 22 k) = _
                  have hk8 : k < h 9 9 := by rw [a1]; exact hk9
                  rw [if_pos rfl, if_pos ⟨hk0, by omega⟩]
                  congr 1
                  omega
                refine ⟨?_, ?_, ?_, ?_, ?_, ?_, ?_, fun hne => ?_⟩
                · show h2_ 11 k = S 1 k
                  rw [q1 11 (by decide) (by decide), t1]; exact s1
                · show h2_ 12 k = S 2 k
                  rw [q1 12 (by decide) (by decide), t2]; exact s2
                · show h2_ 13 k = S 3 k
                  rw [q1 13 (by decide) (by decide), t3]; exact s3
                · show h2_ 18 k = S 4 k
                  rw [q1 18 (by decide) (by decide), t4]; exact s4
                · show h2_ 20 k = S 6 k
                  rw [q1 20 (by decide) (by decide), t5]; exact s5
                · show (if (21 : Nat) = 21 then (if 0 ≤ k ∧ k < 0 + h 9 9 then h2_ 22 (0 + (k - 0)) else h2_ 21 k) else h2_ 21 k) = S 7 k
                  have hk8 : k < h 9 9 := by rw [a1]; exact hk9
                  rw [if_pos rfl, if_pos ⟨hk0, by omega⟩, show 0 + (k - 0) = k by omega]
                  exact hmb
                · show h2_ 19 k = S 11 k
                  rw [q1 19 (by decide) (by decide), t7]; exact s6
                · have hne : S 7 k ≠ 0 := hne
                  have s8 : S 7 k ≤ S1 7 k := s8
                  have := (w5 k hk0 hk9).1
                  obtain ⟨v1, v2, v3⟩ := t8 (by omega)
                  obtain ⟨x1, x2, x3⟩ := s9 hne
                  refine ⟨?_, ?_, ?_⟩
                  · show h2_ 15 k = S 8 k
                    rw [q1 15 (by decide) (by decide), v1]; exact x1
                  · show h2_ 16 k = S 9 k
                    rw [q1 16 (by decide) (by decide), v2]; exact x2
                  · show h2_ 17 k = S 10 k
                    rw [q1 17 (by decide) (by decide), v3]; exact x3
              · have he8 : e < h2_ 1 2 := he9
                have hexx : h2_ 1 = h1 1 := q1 1 (by decide) (by decide)
                rw [hexx] at he8
                have he12 : h1 1 2 ≤ 12 := by rw [hF1.1 1 (by decide)]; exact hB.1.2
                show h2_ 24 (k * 12 + e) = S 5 (k * 12 + e)
                rw [q1 24 (by decide) (by decide), b7 k e hk0 (Int.lt_of_lt_of_le hk9 hSt0) he0 he8]
                exact (hSt.2 k hk0 hk9).2.2.2.2.2.2.1 e he0 (by omega)
              · show chn h2_ (S 0 0)
                rw [← a1]
                exact q4
              · have hk8 : k < S 0 0 := hk9
                show h2_ 27 k = HS (h2_ 1 2) (fun e => S 5 (k * 12 + e))
                have hexx : h2_ 1 = h1 1 := q1 1 (by decide) (by decide)
                have he12 : h1 1 2 ≤ 12 := by rw [hF1.1 1 (by decide)]; exact hB.1.2
                rw [q1 27 (by decide) (by decide), hexx, b9 k hk0 (Int.lt_of_lt_of_le hk9 hSt0)]
                exact HS_congr (fun e z1 z2 => (hSt.2 k hk0 hk9).2.2.2.2.2.2.1 e z1 (by omega)))
              ⟨fun a ha => by
                have e1 : h2_ a = h1 a := q1 a (by omega) (by omega)
                have e2 : h1 a = h a := (hF1.1 a (by omega)).trans (by funext j; simp [xup, xcpy, show a ≠ 9 by omega, show a ≠ 22 by omega])
                rw [← e2, ← e1]
                funext j
                simp [xup, xcpy, show a ≠ 9 by omega, show a ≠ 21 by omega], rfl⟩
              (by
                show h2_ 23 = h 23
                rw [q1 23 (by decide) (by decide), hF1.1 23 (by decide)]
                rfl)
              ((q2 13 (by decide)).trans hF1.2.2.1) ((q2 14 (by decide)).trans hF1.2.2.2.1))
        refine E_s 3 (i' := 44) (ls' := [some (.inr (.inr 9)), some (.inl mm), some (.inl (h 9 9)), some (.inl (h 9 10)), some (.inl (h 9 11)), some (.inl (h 9 12))]) (sk' := [.inl ((xcpy h 21 0 22 0 (h 9 9)) 9 13), .inr (.inr 9)]) (h' := (xcpy h 21 0 22 0 (h 9 9))) rfl ?_
        refine E_b (x := (.ifCond .ne 10, 48, [], [])) rfl rfl (fun c44 => ?_) (fun c44 => ?_)
        · rw [c_ne (by first | exact ⟨by omega, by omega⟩ | (show xr (h 9 13); exact ⟨by omega, by omega⟩)) (by first | exact ⟨by omega, by omega⟩ | (show xr (h 9 13); exact ⟨by omega, by omega⟩))] at c44
          simp only [decide_eq_true_eq, decide_eq_false_iff_not, Decidable.not_not] at c44
          show xEx G0 cdX3_advance (some .int) (xRn G0 MT (d + 7)) Q b 48 [some (.inr (.inr 9)), some (.inl mm), some (.inl (h 9 9)), some (.inl (h 9 10)), some (.inl (h 9 11)), some (.inl (h 9 12))] [.inr (.inr 9)] (xcpy h 21 0 22 0 (h 9 9))
          refine E_s 4 (i' := 52) (ls' := [some (.inr (.inr 9)), some (.inl mm), some (.inl (h 9 9)), some (.inl (h 9 10)), some (.inl (h 9 11)), some (.inl (h 9 12))]) (sk' := [.inl (((xcpy h 21 0 22 0 (h 9 9)) 9 13) + 1), .inr (.inr 9)]) (h' := (xcpy h 21 0 22 0 (h 9 9))) rfl ?_
          refine E_ti (y := h 9 13 + 1) (by first | rfl | (congr 1; have c44 : h 9 13 = 0 := c44; omega)) ?_
          exact cut52 ()
        · rw [c_ne (by first | exact ⟨by omega, by omega⟩ | (show xr (h 9 13); exact ⟨by omega, by omega⟩)) (by first | exact ⟨by omega, by omega⟩ | (show xr (h 9 13); exact ⟨by omega, by omega⟩))] at c44
          simp only [decide_eq_true_eq, decide_eq_false_iff_not, Decidable.not_not] at c44
          show xEx G0 cdX3_advance (some .int) (xRn G0 MT (d + 7)) Q b 45 [some (.inr (.inr 9)), some (.inl mm), some (.inl (h 9 9)), some (.inl (h 9 10)), some (.inl (h 9 11)), some (.inl (h 9 12))] [.inr (.inr 9)] (xcpy h 21 0 22 0 (h 9 9))
          refine E_s 1 (i' := 46) (ls' := [some (.inr (.inr 9)), some (.inl mm), some (.inl (h 9 9)), some (.inl (h 9 10)), some (.inl (h 9 11)), some (.inl (h 9 12))]) (sk' := [.inr (.inr 9), .inr (.inr 9)]) (h' := (xcpy h 21 0 22 0 (h 9 9))) rfl ?_
          refine E_ci (x := (.invokevirtual 99, 0, [(1, 5), (7, 78)], [1])) (r := 1) (h' := (xcpy h 21 0 22 0 (h 9 9))) rfl rfl (Nat.le_of_ble_eq_true rfl) (c_firstSize (d + 6) 0 (xcpy h 21 0 22 0 (h 9 9)) ⟨rfl, rfl⟩) ?_
          show xEx G0 cdX3_advance (some .int) (xRn G0 MT (d + 7)) Q b 47 [some (.inr (.inr 9)), some (.inl mm), some (.inl (h 9 9)), some (.inl (h 9 10)), some (.inl (h 9 11)), some (.inl (h 9 12))] [.inl 1, .inr (.inr 9)] (xcpy h 21 0 22 0 (h 9 9))
          refine E_s 1 (i' := 52) (ls' := [some (.inr (.inr 9)), some (.inl mm), some (.inl (h 9 9)), some (.inl (h 9 10)), some (.inl (h 9 11)), some (.inl (h 9 12))]) (sk' := [.inl 1, .inr (.inr 9)]) (h' := (xcpy h 21 0 22 0 (h 9 9))) rfl ?_
          refine E_ti (y := h 9 13 + 1) (by first | rfl | (congr 1; have c44 : h 9 13 = 0 := c44; omega)) ?_
          exact cut52 ()
      · rw [c_lt (by first | assumption | (refine ⟨?_, ?_⟩ <;> omega) | (simp only [xr] at *; omega)) (by first | assumption | (refine ⟨?_, ?_⟩ <;> omega) | (simp only [xr] at *; omega))] at c18
        simp only [decide_eq_true_eq, decide_eq_false_iff_not, Decidable.not_not] at c18
        show xEx G0 cdX3_advance (some .int) (xRn G0 MT (d + 7)) Q b 19 [some (.inr (.inr 9)), some (.inl mm), none, none, none, none] [] h
        refine E_s 1 (i' := 20) (ls' := [some (.inr (.inr 9)), some (.inl mm), none, none, none, none]) (sk' := [.inl 3]) (h' := h) rfl ?_
        exact E_ret (x := (.ireturn, 0, [], [])) (v := some (.inl 3)) rfl (Or.inl rfl) (hQ3 (by omega))
    · rw [c_eq (by first | assumption | (refine ⟨?_, ?_⟩ <;> omega) | (simp only [xr] at *; omega)) (by first | assumption | (refine ⟨?_, ?_⟩ <;> omega) | (simp only [xr] at *; omega))] at c8
      simp only [decide_eq_true_eq, decide_eq_false_iff_not, Decidable.not_not] at c8
      show xEx G0 cdX3_advance (some .int) (xRn G0 MT (d + 7)) Q b 9 [some (.inr (.inr 9)), some (.inl mm), none, none, none, none] [] h
      refine E_s 1 (i' := 10) (ls' := [some (.inr (.inr 9)), some (.inl mm), none, none, none, none]) (sk' := [.inl 1]) (h' := h) rfl ?_
      exact E_ret (x := (.ireturn, 0, [], [])) (v := some (.inl 1)) rfl (Or.inl rfl) (hQ1 (by omega) (by omega))
  · rw [c_ne (by first | assumption | (refine ⟨?_, ?_⟩ <;> omega) | (simp only [xr] at *; omega)) (by first | assumption | (refine ⟨?_, ?_⟩ <;> omega) | (simp only [xr] at *; omega))] at c3
    simp only [decide_eq_true_eq, decide_eq_false_iff_not, Decidable.not_not] at c3
    show xEx G0 cdX3_advance (some .int) (xRn G0 MT (d + 7)) Q b 4 [some (.inr (.inr 9)), some (.inl mm), none, none, none, none] [] h
    refine E_s 1 (i' := 5) (ls' := [some (.inr (.inr 9)), some (.inl mm), none, none, none, none]) (sk' := [.inl 3]) (h' := h) rfl ?_
    exact E_ret (x := (.ireturn, 0, [], [])) (v := some (.inl 3)) rfl (Or.inl rfl) (hQ3 (by omega))
