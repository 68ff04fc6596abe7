theorem mkT_congr {h0 h1 : xH} (e0 : ∀ a, a < 28 → h0 a = h1 a) (e8 : h0 42 = h1 42) (e9 : h0 28 15 = h1 28 15) : mkT h0 = mkT h1 := by
  have ec : cmpT h0 = cmpT h1 := by funext c1 c2 c3 x; unfold cmpT; rw [e0 24 (by decide)]
  have eo : offT h0 = offT h1 := by funext T c1 c2 c3; unfold offT oT usT; rw [ec, e0 1 (by decide), e0 19 (by decide), e9]
  have eb : xbg h0 = xbg h1 := by funext s; unfold xbg; rw [e0 23 (by decide)]
  have ee : xen h0 = xen h1 := by funext s; unfold xen; rw [e0 23 (by decide)]
  have tb : tbg h0 = tbg h1 := by funext s; unfold tbg; rw [e8]
  have te : ten h0 = ten h1 := by funext s; unfold ten; rw [e8]
  have ef : xft h0 = xft h1 := by funext p a t; unfold xft; rw [eb]
  have eh : xbh h0 = xbh h1 := by funext t; unfold xbh; rw [ee]
  have et : tfr h0 = tfr h1 := by funext a t; unfold tfr; rw [tb]
  have ea : xca h0 = xca h1 := by funext p s z S a; unfold xca; rw [eo, ef, eh]
  have es : xcs h0 = xcs h1 := by funext p z S s; unfold xcs; rw [ea, eb, ee]
  have e10 : xnt h0 = xnt h1 := by funext z S; unfold xnt; rw [eo, tb, te]
  have ep : xaa h0 = xaa h1 := by funext s z S a; unfold xaa; rw [eo, et, te]
  have eq : xas h0 = xas h1 := by funext z S s; unfold xas; rw [ep, tb, te]
  funext z S
  unfold mkT
  rw [es, e10, eq]
/-- what GROWTH of TESTS leaves as it was -/
def FB (h h' : xH) : Prop := ∀ a, (a < 28 ∨ 43 < a) → h' a = h a
def hzt (h : xH) (z : Int) : xH := xup h 28 15 z
/-- the next SIZE of TESTS -/
def zT (L : Int) : Int := if L = 0 then 3 else L + 1
set_option maxHeartbeats 1000000 in
theorem c_firstSizeT (d b : Nat) (h : xH) {Q : xO → xH → Prop} (hQ : Q (.inl (some (.inl 3))) h) : xRn G0 MT (d + 1) b 78 [.inr (.inr 28)] h Q := by
  refine R_of (M := mX9_firstSize) rfl (Nat.le_of_ble_eq_true rfl) ?_
  show xEx G0 cdX9_firstSize (some .int) (xRn G0 MT d) Q b 0 [some (.inr (.inr 28))] [] h
  refine E_s 1 (i' := 1) (ls' := [some (.inr (.inr 28))]) (sk' := [.inl 3]) (h' := h) rfl ?_
  exact E_ret (x := (.ireturn, 0, [], [])) (v := some (.inl 3)) rfl (Or.inl rfl) (hQ)
set_option maxHeartbeats 1000000 in
theorem c_advance_gt (d b : Nat) (h S T : xH) (mm : Int) (hB : BT h) (hKS : h 9 9 = S 0 0) (hES : ENZ h S) (hE : ETZ h T) (hR : RCT h T) (hW : WT (h 1 2) T) (hmm : 0 ≤ mm ∧ mm ≤ 20000) (h2 : T 0 2 + mm ≤ 400000) (hL : h 28 13 = 0 ∨ (3 ≤ h 28 13 ∧ h 28 13 ≤ 7)) (hF : 0 ≤ h 28 14 ∧ h 28 14 ≤ 1) {Q : xO → xH → Prop} (hQ3 : (h 1 2 = 0 ∨ (h 28 14 = 0 ∧ h 28 13 = 7)) → Q (.inl (some (.inl 3))) h) (hQ1 : h 1 2 ≠ 0 → h 28 14 = 1 → Q (.inl (some (.inl 1))) h)
  (hQ2 : h 1 2 ≠ 0 → h 28 14 = 0 → h 28 13 < 7 → (mkT (hzt h (zT (h 28 13))) (zT (h 28 13)) (st0 T mm)) 0 4 = 2 → ∀ h', RCT h' (xup (xup T 0 3 ((mkT (hzt h (zT (h 28 13))) (zT (h 28 13)) (st0 T mm)) 0 3)) 0 4 2) → FB h h' → h' 42 = h 42 → h' 28 13 = h 28 13 → h' 28 14 = h 28 14 → Q (.inl (some (.inl 2))) h')
  (hQ0 : h 1 2 ≠ 0 → h 28 14 = 0 → h 28 13 < 7 → (mkT (hzt h (zT (h 28 13))) (zT (h 28 13)) (st0 T mm)) 0 4 ≠ 2 → ∀ h', RCT h' (mkT (hzt h (zT (h 28 13))) (zT (h 28 13)) (st0 T mm)) → FB h h' → (∀ j, zT (h 28 13) ≤ j → j < 8 → h' 42 j = (mkT (hzt h (zT (h 28 13))) (zT (h 28 13)) (st0 T mm)) 0 0) → (∀ j, j < zT (h 28 13) → h' 42 j = h 42 j) → h' 28 13 = (if (mkT (hzt h (zT (h 28 13))) (zT (h 28 13)) (st0 T mm)) 0 4 = 1 then h 28 13 else zT (h 28 13)) → h' 28 14 = (if (mkT (hzt h (zT (h 28 13))) (zT (h 28 13)) (st0 T mm)) 0 4 = 1 then 1 else 0) → Q (.inl (some (.inl ((mkT (hzt h (zT (h 28 13))) (zT (h 28 13)) (st0 T mm)) 0 4)))) h') : xRn G0 MT (d + 8) b 33 [.inr (.inr 28), .inl mm] h Q := by
  refine R_of (M := mX3_advance) rfl (Nat.le_of_ble_eq_true rfl) ?_
  show xEx G0 cdX3_advance (some .int) (xRn G0 MT (d + 7)) Q b 0 [some (.inr (.inr 28)), some (.inl mm), none, none, none, none] [] h
  have hR0 := hR
  obtain ⟨a1, a2, a3, a4, a5, a6, a7, a8⟩ := hR0
  obtain ⟨w1, w2, w3, w4, w5, w6, w7, w8, w9, w10, w11, w12, w13, w14⟩ := hW
  have hEE : ENS h (h 9 9) := by rw [hKS]; exact ENZ_s hES
  have hn12 := hB.1
  refine E_s 3 (i' := 3) (ls' := [some (.inr (.inr 28)), some (.inl mm), none, none, none, none]) (sk' := [.inl (h 1 2)]) (h' := h) rfl ?_
  refine E_b (x := (.ifCond .ne 5, 6, [], [])) rfl rfl (fun c3 => ?_) (fun c3 => ?_)
  · rw [c_ne (by first | assumption | (refine ⟨?_, ?_⟩ <;> omega) | (simp only [xr] at *; omega)) (by first | assumption | (refine ⟨?_, ?_⟩ <;> omega) | (simp only [xr] at *; omega))] at c3
    simp only [decide_eq_true_eq, decide_eq_false_iff_not, Decidable.not_not] at c3
    show xEx G0 cdX3_advance (some .int) (xRn G0 MT (d + 7)) Q b 6 [some (.inr (.inr 28)), some (.inl mm), none, none, none, none] [] h
    refine E_s 2 (i' := 8) (ls' := [some (.inr (.inr 28)), some (.inl mm), none, none, none, none]) (sk' := [.inl (h 28 14)]) (h' := h) rfl ?_
    refine E_b (x := (.ifCond .eq 5, 11, [], [])) rfl rfl (fun c8 => ?_) (fun c8 => ?_)
    · rw [c_eq (by first | assumption | (refine ⟨?_, ?_⟩ <;> omega) | (simp only [xr] at *; omega)) (by first | assumption | (refine ⟨?_, ?_⟩ <;> omega) | (simp only [xr] at *; omega))] at c8
      simp only [decide_eq_true_eq, decide_eq_false_iff_not, Decidable.not_not] at c8
      show xEx G0 cdX3_advance (some .int) (xRn G0 MT (d + 7)) Q b 11 [some (.inr (.inr 28)), some (.inl mm), none, none, none, none] [] h
      refine E_s 7 (i' := 18) (ls' := [some (.inr (.inr 28)), some (.inl mm), none, none, none, none]) (sk' := [.inl (8 - 1), .inl (h 28 13)]) (h' := h) rfl ?_
      refine E_b (x := (.if_icmp .lt 5, 21, [], [])) rfl rfl (fun c18 => ?_) (fun c18 => ?_)
      · rw [c_lt (by first | assumption | (refine ⟨?_, ?_⟩ <;> omega) | (simp only [xr] at *; omega)) (by first | assumption | (refine ⟨?_, ?_⟩ <;> omega) | (simp only [xr] at *; omega))] at c18
        simp only [decide_eq_true_eq, decide_eq_false_iff_not, Decidable.not_not] at c18
        show xEx G0 cdX3_advance (some .int) (xRn G0 MT (d + 7)) Q b 21 [some (.inr (.inr 28)), some (.inl mm), none, none, none, none] [] h
        have hn0 : h 1 2 ≠ 0 := c3
        have hF0 : h 28 14 = 0 := by omega
        refine E_s 19 (i' := 40) (ls' := [some (.inr (.inr 28)), some (.inl mm), some (.inl (h 28 9)), some (.inl (h 28 10)), some (.inl (h 28 11)), some (.inl (h 28 12))]) (sk' := [.inl (h 28 9), .inl 0, .inr (.inr 41), .inl 0, .inr (.inr 40)]) (h' := h) rfl ?_
        refine E_cpy (x := (.invokestatic 93, 0, [], [])) rfl rfl rfl rfl rfl rfl (by omega) (by omega) (by omega) (by omega) (by omega) (Nat.le_of_ble_eq_true rfl) ?_
        show xEx G0 cdX3_advance (some .int) (xRn G0 MT (d + 7)) Q b 41 [some (.inr (.inr 28)), some (.inl mm), some (.inl (h 28 9)), some (.inl (h 28 10)), some (.inl (h 28 11)), some (.inl (h 28 12))] [] (xcpy h 40 0 41 0 (h 28 9))
        have cut52 : ∀ (_u : Unit), xEx G0 cdX3_advance (some .int) (xRn G0 MT (d + 7)) Q b 52 [some (.inr (.inr 28)), some (.inl mm), some (.inl (h 28 9)), some (.inl (h 28 10)), some (.inl (h 28 11)), some (.inl (h 28 12))] [.inl (zT (h 28 13)), .inr (.inr 28)] (xcpy h 40 0 41 0 (h 28 9)) := by
          intro _u
          refine E_s 10 (i' := 62) (ls' := [some (.inr (.inr 28)), some (.inl mm), some (.inl (h 28 9)), some (.inl (h 28 10)), some (.inl (h 28 11)), some (.inl (h 28 12))]) (sk' := [.inl (zT (h 28 13)), .inr (.inr 28)]) (h' := (xup (xup (xup (xcpy h 40 0 41 0 (h 28 9)) 28 15 (zT (h 28 13))) 28 16 mm) 28 17 0)) rfl ?_
          have hzb : 3 ≤ zT (h 28 13) ∧ zT (h 28 13) ≤ 7 := by unfold zT; split <;> omega
          have hGm : GIT (xup (xup (xup (xcpy h 40 0 41 0 (h 28 9)) 28 15 (zT (h 28 13))) 28 16 mm) 28 17 0) (xup (xup (xup (xcpy h 40 0 41 0 (h 28 9)) 28 15 (zT (h 28 13))) 28 16 mm) 28 17 0) (st0 T mm) := ⟨⟨a1, a2, a3, rfl, rfl, a6, a7, a8⟩, ⟨w1, w2, w3, w4, w5, w6, w7, h2, hmm.1, hmm.2, Int.le_refl _, by show (0 : Int) ≤ 2; omega, w13, w14⟩, FT.rf _⟩
          have ecg : mkT (xup (xup (xup (xcpy h 40 0 41 0 (h 28 9)) 28 15 (zT (h 28 13))) 28 16 mm) 28 17 0) = mkT (hzt h (zT (h 28 13))) := mkT_congr (fun a ha => by funext j; simp [xup, xcpy, hzt, show a ≠ 28 by omega, show a ≠ 41 by omega]) rfl rfl
          refine E_cp (x := (.invokevirtual 112, 1, [(1, 6), (7, 79)], [1])) (q := fun r h9 => GIT (xup (xup (xup (xcpy h 40 0 41 0 (h 28 9)) 28 15 (zT (h 28 13))) 28 16 mm) 28 17 0) h9 (mkT (xup (xup (xup (xcpy h 40 0 41 0 (h 28 9)) 28 15 (zT (h 28 13))) 28 16 mm) 28 17 0) (zT (h 28 13)) (st0 T mm))) rfl rfl (Nat.le_of_ble_eq_true rfl) (c_makeAllT d 0 (xup (xup (xup (xcpy h 40 0 41 0 (h 28 9)) 28 15 (zT (h 28 13))) 28 16 mm) 28 17 0) (xup (xup (xup (xcpy h 40 0 41 0 (h 28 9)) 28 15 (zT (h 28 13))) 28 16 mm) 28 17 0) (st0 T mm) hB hGm rfl hEE (ETZ_s hE) (zT (h 28 13)) hzb (fun h9 h8 => ⟨_, rfl, h8⟩)) (fun r h1 hG1 => ?_)
          rw [ecg] at hG1
          have hMF := mkT_P (h0 := hzt h (zT (h 28 13))) (z := zT (h 28 13)) (S := S) (T := st0 T mm) (P := fun _ => True) hB hKS hzb hES hE hGm.2.1 trivial (fun _ _ _ _ _ _ _ _ => trivial)
          obtain ⟨hW1, hSt, h23, -⟩ := hMF
          generalize hS1 : (mkT (hzt h (zT (h 28 13))) (zT (h 28 13)) (st0 T mm)) = T1 at *
          obtain ⟨hR1, hW1', hF1⟩ := hG1
          obtain ⟨b1, b2, b3, b4, b5, b6, b7, b8⟩ := hR1
          have hSt0 : T 0 0 ≤ T1 0 0 := hSt.1
          show xEx G0 cdX3_advance (some .int) (xRn G0 MT (d + 7)) Q b 63 [some (.inr (.inr 28)), some (.inl mm), some (.inl (h 28 9)), some (.inl (h 28 10)), some (.inl (h 28 11)), some (.inl (h 28 12))] [.inl r] h1
          refine E_s 1 (i' := 64) (ls' := [some (.inr (.inr 28)), some (.inl mm), some (.inl (h 28 9)), some (.inl (h 28 10)), some (.inl (h 28 11)), some (.inl (h 28 12))]) (sk' := []) (h' := h1) rfl ?_
          
          refine E_s 3 (i' := 67) (ls' := [some (.inr (.inr 28)), some (.inl mm), some (.inl (h 28 9)), some (.inl (h 28 10)), some (.inl (h 28 11)), some (.inl (h 28 12))]) (sk' := [.inl 2, .inl (h1 28 17)]) (h' := h1) rfl ?_
          refine E_b (x := (.if_icmp .ne 41, 90, [], [])) rfl rfl (fun c67 => ?_) (fun c67 => ?_)
          · rw [c_ne (by first | exact ⟨by omega, by omega⟩ | (rw [b5]; exact ⟨by have := hW1.2.2.2.2.2.2.2.2.2.2.1; omega, by have := hW1.2.2.2.2.2.2.2.2.2.2.2.1; omega⟩)) (by first | exact ⟨by omega, by omega⟩ | (rw [b5]; exact ⟨by have := hW1.2.2.2.2.2.2.2.2.2.2.1; omega, by have := hW1.2.2.2.2.2.2.2.2.2.2.2.1; omega⟩))] at c67
            simp only [decide_eq_true_eq, decide_eq_false_iff_not, Decidable.not_not] at c67
            show xEx G0 cdX3_advance (some .int) (xRn G0 MT (d + 7)) Q b 90 [some (.inr (.inr 28)), some (.inl mm), some (.inl (h 28 9)), some (.inl (h 28 10)), some (.inl (h 28 11)), some (.inl (h 28 12))] [] h1
            have hsz : h1 28 15 = zT (h 28 13) := hF1.2.2.2
            refine E_s 9 (i' := 99) (ls' := [some (.inr (.inr 28)), some (.inl mm), some (.inl (h 28 9)), some (.inl (h 28 10)), some (.inl (h 28 11)), some (.inl (h 28 12))]) (sk' := [.inl (h1 28 9), .inl 8, .inl (h1 28 15), .inr (.inr 42)]) (h' := h1) rfl ?_
            refine E_cv (x := (.invokestatic 116, 4, [(0, 256)], [])) (q := fun h9 => h9 = (xfill h1 42 (h1 28 15) 8 (h1 28 9))) rfl rfl (Nat.le_of_ble_eq_true rfl) (c_fill_gt_ends (d + 5) 0 h1 (h1 28 15) 8 (h1 28 9) (by rw [hsz]; omega) (by rw [hsz]; omega) (by omega) ⟨rfl, rfl⟩) (fun h9 e9 => ?_)
            subst e9
            show xEx G0 cdX3_advance (some .int) (xRn G0 MT (d + 7)) Q b 100 [some (.inr (.inr 28)), some (.inl mm), some (.inl (h 28 9)), some (.inl (h 28 10)), some (.inl (h 28 11)), some (.inl (h 28 12))] [] (xfill h1 42 (h1 28 15) 8 (h1 28 9))
            refine E_s 4 (i' := 104) (ls' := [some (.inr (.inr 28)), some (.inl mm), some (.inl (h 28 9)), some (.inl (h 28 10)), some (.inl (h 28 11)), some (.inl (h 28 12))]) (sk' := [.inl 1, .inl ((xfill h1 42 (h1 28 15) 8 (h1 28 9)) 28 17), .inr (.inr 28)]) (h' := (xfill h1 42 (h1 28 15) 8 (h1 28 9))) rfl ?_
            refine E_b (x := (.if_icmp .ne 7, 107, [], [])) rfl rfl (fun c104 => ?_) (fun c104 => ?_)
            · rw [c_ne (by first | exact ⟨by omega, by omega⟩ | (show xr (h1 28 17); rw [b5]; exact ⟨by have := hW1.2.2.2.2.2.2.2.2.2.2.1; omega, by have := hW1.2.2.2.2.2.2.2.2.2.2.2.1; omega⟩)) (by first | exact ⟨by omega, by omega⟩ | (show xr (h1 28 17); rw [b5]; exact ⟨by have := hW1.2.2.2.2.2.2.2.2.2.2.1; omega, by have := hW1.2.2.2.2.2.2.2.2.2.2.2.1; omega⟩))] at c104
              simp only [decide_eq_true_eq, decide_eq_false_iff_not, Decidable.not_not] at c104
              show xEx G0 cdX3_advance (some .int) (xRn G0 MT (d + 7)) Q b 107 [some (.inr (.inr 28)), some (.inl mm), some (.inl (h 28 9)), some (.inl (h 28 10)), some (.inl (h 28 11)), some (.inl (h 28 12))] [.inr (.inr 28)] (xfill h1 42 (h1 28 15) 8 (h1 28 9))
              have c104 : ¬ h1 28 17 = 1 := c104
              refine E_s 1 (i' := 108) (ls' := [some (.inr (.inr 28)), some (.inl mm), some (.inl (h 28 9)), some (.inl (h 28 10)), some (.inl (h 28 11)), some (.inl (h 28 12))]) (sk' := [.inl 0, .inr (.inr 28)]) (h' := (xfill h1 42 (h1 28 15) 8 (h1 28 9))) rfl ?_
              refine E_pz (x := (.putfield 75, 0, [(1, 14), (7, 14)], [])) rfl rfl rfl (by first | exact Or.inl rfl | exact Or.inr rfl) ?_
              show xEx G0 cdX3_advance (some .int) (xRn G0 MT (d + 7)) Q b 109 [some (.inr (.inr 28)), some (.inl mm), some (.inl (h 28 9)), some (.inl (h 28 10)), some (.inl (h 28 11)), some (.inl (h 28 12))] [] (xup (xfill h1 42 (h1 28 15) 8 (h1 28 9)) 28 14 0)
              refine E_s 3 (i' := 112) (ls' := [some (.inr (.inr 28)), some (.inl mm), some (.inl (h 28 9)), some (.inl (h 28 10)), some (.inl (h 28 11)), some (.inl (h 28 12))]) (sk' := [.inl 0, .inr (.inr 28)]) (h' := (xup (xfill h1 42 (h1 28 15) 8 (h1 28 9)) 28 14 0)) rfl ?_
              refine E_b (x := (.ifCond .eq 10, 116, [], [])) rfl rfl (fun c112 => ?_) (fun c112 => ?_)
              · rw [c_eq (by first | assumption | (refine ⟨?_, ?_⟩ <;> omega) | (simp only [xr] at *; omega)) (by first | assumption | (refine ⟨?_, ?_⟩ <;> omega) | (simp only [xr] at *; omega))] at c112
                simp only [decide_eq_true_eq, decide_eq_false_iff_not, Decidable.not_not] at c112
                show xEx G0 cdX3_advance (some .int) (xRn G0 MT (d + 7)) Q b 116 [some (.inr (.inr 28)), some (.inl mm), some (.inl (h 28 9)), some (.inl (h 28 10)), some (.inl (h 28 11)), some (.inl (h 28 12))] [.inr (.inr 28)] (xup (xfill h1 42 (h1 28 15) 8 (h1 28 9)) 28 14 0)
                
                refine E_s 5 (i' := 121) (ls' := [some (.inr (.inr 28)), some (.inl mm), some (.inl (h 28 9)), some (.inl (h 28 10)), some (.inl (h 28 11)), some (.inl (h 28 12))]) (sk' := [.inl ((xfill h1 42 (h1 28 15) 8 (h1 28 9)) 28 17)]) (h' := (xup (xup (xfill h1 42 (h1 28 15) 8 (h1 28 9)) 28 14 0) 28 13 ((xfill h1 42 (h1 28 15) 8 (h1 28 9)) 28 15))) rfl ?_
                exact E_ret (x := (.ireturn, 0, [], [])) (v := some (.inl ((xfill h1 42 (h1 28 15) 8 (h1 28 9)) 28 17))) rfl (Or.inl rfl) (by
                  have hrr := hQ0 hn0 hF0 (by omega) (by rw [← b5]; exact c67) (xup (xup (xfill h1 42 (h1 28 15) 8 (h1 28 9)) 28 14 0) 28 13 ((xfill h1 42 (h1 28 15) 8 (h1 28 9)) 28 15)) (by
                    exact ⟨b1, b2, b3, b4, b5, b6, b7, b8⟩) (fun a ha => by
                      have e2 : h1 a = h a := (hF1.1 a (by omega)).trans (by funext j; simp [xup, xcpy, show a ≠ 28 by omega, show a ≠ 41 by omega])
                      rw [← e2]
                      funext j
                      simp [xup, xfill, show a ≠ 28 by omega, show a ≠ 42 by omega])
                    (by
                      intro j z1 z2
                      rw [← b1]
                      show xfill h1 42 (h1 28 15) 8 (h1 28 9) 42 j = _
                      rw [xfill_i (by rw [hsz]; omega)])
                    (by
                      intro j z1
                      show xfill h1 42 (h1 28 15) 8 (h1 28 9) 42 j = _
                      rw [xfill_o (by rw [hsz]; omega), hF1.1 42 (by decide)]
                      rfl)
                    (by
                      rw [← b5, if_neg c104]
                      exact hF1.2.2.2) (by rw [← b5, if_neg c104]; rfl)
                  rw [← b5] at hrr
                  exact hrr)
              · rw [c_eq (by first | assumption | (refine ⟨?_, ?_⟩ <;> omega) | (simp only [xr] at *; omega)) (by first | assumption | (refine ⟨?_, ?_⟩ <;> omega) | (simp only [xr] at *; omega))] at c112
                simp only [decide_eq_true_eq, decide_eq_false_iff_not, Decidable.not_not] at c112
                show xEx G0 cdX3_advance (some .int) (xRn G0 MT (d + 7)) Q b 113 [some (.inr (.inr 28)), some (.inl mm), some (.inl (h 28 9)), some (.inl (h 28 10)), some (.inl (h 28 11)), some (.inl (h 28 12))] [.inr (.inr 28)] (xup (xfill h1 42 (h1 28 15) 8 (h1 28 9)) 28 14 0)
                
                refine E_s 6 (i' := 121) (ls' := [some (.inr (.inr 28)), some (.inl mm), some (.inl (h 28 9)), some (.inl (h 28 10)), some (.inl (h 28 11)), some (.inl (h 28 12))]) (sk' := [.inl ((xfill h1 42 (h1 28 15) 8 (h1 28 9)) 28 17)]) (h' := (xup (xup (xfill h1 42 (h1 28 15) 8 (h1 28 9)) 28 14 0) 28 13 ((xfill h1 42 (h1 28 15) 8 (h1 28 9)) 28 13))) rfl ?_
                exact E_ret (x := (.ireturn, 0, [], [])) (v := some (.inl ((xfill h1 42 (h1 28 15) 8 (h1 28 9)) 28 17))) rfl (Or.inl rfl) (by first | exact absurd c112 (by decide) | exact absurd trivial c112 | exact False.elim c112)
            · rw [c_ne (by first | exact ⟨by omega, by omega⟩ | (show xr (h1 28 17); rw [b5]; exact ⟨by have := hW1.2.2.2.2.2.2.2.2.2.2.1; omega, by have := hW1.2.2.2.2.2.2.2.2.2.2.2.1; omega⟩)) (by first | exact ⟨by omega, by omega⟩ | (show xr (h1 28 17); rw [b5]; exact ⟨by have := hW1.2.2.2.2.2.2.2.2.2.2.1; omega, by have := hW1.2.2.2.2.2.2.2.2.2.2.2.1; omega⟩))] at c104
              simp only [decide_eq_true_eq, decide_eq_false_iff_not, Decidable.not_not] at c104
              show xEx G0 cdX3_advance (some .int) (xRn G0 MT (d + 7)) Q b 105 [some (.inr (.inr 28)), some (.inl mm), some (.inl (h 28 9)), some (.inl (h 28 10)), some (.inl (h 28 11)), some (.inl (h 28 12))] [.inr (.inr 28)] (xfill h1 42 (h1 28 15) 8 (h1 28 9))
              have c104 : h1 28 17 = 1 := c104
              refine E_s 2 (i' := 108) (ls' := [some (.inr (.inr 28)), some (.inl mm), some (.inl (h 28 9)), some (.inl (h 28 10)), some (.inl (h 28 11)), some (.inl (h 28 12))]) (sk' := [.inl 1, .inr (.inr 28)]) (h' := (xfill h1 42 (h1 28 15) 8 (h1 28 9))) rfl ?_
              refine E_pz (x := (.putfield 75, 0, [(1, 14), (7, 14)], [])) rfl rfl rfl (by first | exact Or.inl rfl | exact Or.inr rfl) ?_
              show xEx G0 cdX3_advance (some .int) (xRn G0 MT (d + 7)) Q b 109 [some (.inr (.inr 28)), some (.inl mm), some (.inl (h 28 9)), some (.inl (h 28 10)), some (.inl (h 28 11)), some (.inl (h 28 12))] [] (xup (xfill h1 42 (h1 28 15) 8 (h1 28 9)) 28 14 1)
              refine E_s 3 (i' := 112) (ls' := [some (.inr (.inr 28)), some (.inl mm), some (.inl (h 28 9)), some (.inl (h 28 10)), some (.inl (h 28 11)), some (.inl (h 28 12))]) (sk' := [.inl 1, .inr (.inr 28)]) (h' := (xup (xfill h1 42 (h1 28 15) 8 (h1 28 9)) 28 14 1)) rfl ?_
              refine E_b (x := (.ifCond .eq 10, 116, [], [])) rfl rfl (fun c112 => ?_) (fun c112 => ?_)
              · rw [c_eq (by first | assumption | (refine ⟨?_, ?_⟩ <;> omega) | (simp only [xr] at *; omega)) (by first | assumption | (refine ⟨?_, ?_⟩ <;> omega) | (simp only [xr] at *; omega))] at c112
                simp only [decide_eq_true_eq, decide_eq_false_iff_not, Decidable.not_not] at c112
                show xEx G0 cdX3_advance (some .int) (xRn G0 MT (d + 7)) Q b 116 [some (.inr (.inr 28)), some (.inl mm), some (.inl (h 28 9)), some (.inl (h 28 10)), some (.inl (h 28 11)), some (.inl (h 28 12))] [.inr (.inr 28)] (xup (xfill h1 42 (h1 28 15) 8 (h1 28 9)) 28 14 1)
                
                refine E_s 5 (i' := 121) (ls' := [some (.inr (.inr 28)), some (.inl mm), some (.inl (h 28 9)), some (.inl (h 28 10)), some (.inl (h 28 11)), some (.inl (h 28 12))]) (sk' := [.inl ((xfill h1 42 (h1 28 15) 8 (h1 28 9)) 28 17)]) (h' := (xup (xup (xfill h1 42 (h1 28 15) 8 (h1 28 9)) 28 14 1) 28 13 ((xfill h1 42 (h1 28 15) 8 (h1 28 9)) 28 15))) rfl ?_
                exact E_ret (x := (.ireturn, 0, [], [])) (v := some (.inl ((xfill h1 42 (h1 28 15) 8 (h1 28 9)) 28 17))) rfl (Or.inl rfl) (by first | exact absurd c112 (by decide) | exact absurd trivial c112 | exact False.elim c112)
              · rw [c_eq (by first | assumption | (refine ⟨?_, ?_⟩ <;> omega) | (simp only [xr] at *; omega)) (by first | assumption | (refine ⟨?_, ?_⟩ <;> omega) | (simp only [xr] at *; omega))] at c112
                simp only [decide_eq_true_eq, decide_eq_false_iff_not, Decidable.not_not] at c112
                show xEx G0 cdX3_advance (some .int) (xRn G0 MT (d + 7)) Q b 113 [some (.inr (.inr 28)), some (.inl mm), some (.inl (h 28 9)), some (.inl (h 28 10)), some (.inl (h 28 11)), some (.inl (h 28 12))] [.inr (.inr 28)] (xup (xfill h1 42 (h1 28 15) 8 (h1 28 9)) 28 14 1)
                
                refine E_s 6 (i' := 121) (ls' := [some (.inr (.inr 28)), some (.inl mm), some (.inl (h 28 9)), some (.inl (h 28 10)), some (.inl (h 28 11)), some (.inl (h 28 12))]) (sk' := [.inl ((xfill h1 42 (h1 28 15) 8 (h1 28 9)) 28 17)]) (h' := (xup (xup (xfill h1 42 (h1 28 15) 8 (h1 28 9)) 28 14 1) 28 13 ((xfill h1 42 (h1 28 15) 8 (h1 28 9)) 28 13))) rfl ?_
                exact E_ret (x := (.ireturn, 0, [], [])) (v := some (.inl ((xfill h1 42 (h1 28 15) 8 (h1 28 9)) 28 17))) rfl (Or.inl rfl) (by
                  have hrr := hQ0 hn0 hF0 (by omega) (by rw [← b5]; exact c67) (xup (xup (xfill h1 42 (h1 28 15) 8 (h1 28 9)) 28 14 1) 28 13 ((xfill h1 42 (h1 28 15) 8 (h1 28 9)) 28 13)) (by
                    exact ⟨b1, b2, b3, b4, b5, b6, b7, b8⟩) (fun a ha => by
                      have e2 : h1 a = h a := (hF1.1 a (by omega)).trans (by funext j; simp [xup, xcpy, show a ≠ 28 by omega, show a ≠ 41 by omega])
                      rw [← e2]
                      funext j
                      simp [xup, xfill, show a ≠ 28 by omega, show a ≠ 42 by omega])
                    (by
                      intro j z1 z2
                      rw [← b1]
                      show xfill h1 42 (h1 28 15) 8 (h1 28 9) 42 j = _
                      rw [xfill_i (by rw [hsz]; omega)])
                    (by
                      intro j z1
                      show xfill h1 42 (h1 28 15) 8 (h1 28 9) 42 j = _
                      rw [xfill_o (by rw [hsz]; omega), hF1.1 42 (by decide)]
                      rfl)
                    (by
                      rw [← b5, if_pos c104]
                      exact hF1.2.1) (by rw [← b5, if_pos c104]; rfl)
                  rw [← b5] at hrr
                  exact hrr)
          · rw [c_ne (by first | exact ⟨by omega, by omega⟩ | (rw [b5]; exact ⟨by have := hW1.2.2.2.2.2.2.2.2.2.2.1; omega, by have := hW1.2.2.2.2.2.2.2.2.2.2.2.1; omega⟩)) (by first | exact ⟨by omega, by omega⟩ | (rw [b5]; exact ⟨by have := hW1.2.2.2.2.2.2.2.2.2.2.1; omega, by have := hW1.2.2.2.2.2.2.2.2.2.2.2.1; omega⟩))] at c67
            simp only [decide_eq_true_eq, decide_eq_false_iff_not, Decidable.not_not] at c67
            show xEx G0 cdX3_advance (some .int) (xRn G0 MT (d + 7)) Q b 68 [some (.inr (.inr 28)), some (.inl mm), some (.inl (h 28 9)), some (.inl (h 28 10)), some (.inl (h 28 11)), some (.inl (h 28 12))] [] h1
            refine E_s 2 (i' := 70) (ls' := [some (.inr (.inr 28)), some (.inl mm), some (.inl (h 28 9)), some (.inl (h 28 10)), some (.inl (h 28 11)), some (.inl (h 28 12))]) (sk' := [.inl (h 28 9), .inr (.inr 28)]) (h' := h1) rfl ?_
            refine E_cv (x := (.invokevirtual 59, 1, [(1, 37), (7, 37)], [1])) (q := fun h9 => (∀ a, a ≠ 43 → a ≠ 28 → h9 a = h1 a) ∧ (∀ j, j ≠ 9 → h9 28 j = h1 28 j) ∧ h9 28 9 = h 28 9 ∧ num h9 (h 28 9)) rfl rfl (Nat.le_of_ble_eq_true rfl) (c_unsettleBehind_gt (d + 5) 0 h1 (h 28 9) (by rw [b1]; exact ⟨hW1.1, hW1.2.1⟩) (by rw [b1, a1]; exact ⟨w1, hSt0⟩) (by rw [b1]; exact b8) (fun h9 q1 q2 q3 q4 => ⟨rfl, q1, q2, q3, q4⟩)) (fun h2_ hq => ?_)
            obtain ⟨q1, q2, q3, q4⟩ := hq
            show xEx G0 cdX3_advance (some .int) (xRn G0 MT (d + 7)) Q b 71 [some (.inr (.inr 28)), some (.inl mm), some (.inl (h 28 9)), some (.inl (h 28 10)), some (.inl (h 28 11)), some (.inl (h 28 12))] [] h2_
            refine E_s 7 (i' := 78) (ls' := [some (.inr (.inr 28)), some (.inl mm), some (.inl (h 28 9)), some (.inl (h 28 10)), some (.inl (h 28 11)), some (.inl (h 28 12))]) (sk' := [.inl (h 28 9), .inl 0, .inr (.inr 40), .inl 0, .inr (.inr 41)]) (h' := h2_) rfl ?_
            refine E_cpy (x := (.invokestatic 93, 0, [], [])) rfl rfl rfl rfl rfl rfl (by omega) (by omega) (by omega) (by omega) (by omega) (Nat.le_of_ble_eq_true rfl) ?_
            show xEx G0 cdX3_advance (some .int) (xRn G0 MT (d + 7)) Q b 79 [some (.inr (.inr 28)), some (.inl mm), some (.inl (h 28 9)), some (.inl (h 28 10)), some (.inl (h 28 11)), some (.inl (h 28 12))] [] (xcpy h2_ 41 0 40 0 (h 28 9))
            refine E_s 10 (i' := 89) (ls' := [some (.inr (.inr 28)), some (.inl mm), some (.inl (h 28 9)), some (.inl (h 28 10)), some (.inl (h 28 11)), some (.inl (h 28 12))]) (sk' := [.inl 2]) (h' := (xup (xup (xup (xcpy h2_ 41 0 40 0 (h 28 9)) 28 10 (h 28 10)) 28 11 (h 28 11)) 28 12 (h 28 12))) rfl ?_
            exact E_ret (x := (.ireturn, 0, [], [])) (v := some (.inl 2)) rfl (Or.inl rfl) (hQ2 hn0 hF0 (by omega) (by rw [← b5]; exact c67) _ (by
              refine ⟨q3.trans a1, a2, a3, (q2 16 (by decide)).trans b4, (q2 17 (by decide)).trans c67, a6, fun k hk0 hk9 => ?_, ?_⟩
              · obtain ⟨t1, t2, t3, t4, t5, t6, t7, t8⟩ := b7 k hk0 (Int.lt_of_lt_of_le hk9 hSt0)
                obtain ⟨s1, s2, s3, s4, s5, s6, s7, s8, s9⟩ := hSt.2 k hk0 hk9
                have u7 : h 40 k = T 7 k := (a7 k hk0 hk9).2.2.2.2.2.1
                have hmb : h2_ 41 k = T 7 k := by
                  rw [q1 41 (by decide) (by decide), hF1.1 41 (by decide), ← u7]
                  show (if (41 : Nat) = 41 then (if 0 ≤ k ∧ k < 0 + h 28 9 then h 40 (0 + (k - 0)) else h 41 k) else h 41 k) = _
                  have hk8 : k < h 28 9 := by rw [a1]; exact hk9
                  rw [if_pos rfl, if_pos ⟨hk0, by omega⟩]
                  congr 1
                  omega
                refine ⟨?_, ?_, ?_, ?_, ?_, ?_, ?_, fun hne => ?_⟩
                · show h2_ 30 k = T 1 k
                  rw [q1 30 (by decide) (by decide), t1]; exact s1
                · show h2_ 31 k = T 2 k
                  rw [q1 31 (by decide) (by decide), t2]; exact s2
                · show h2_ 32 k = T 3 k
                  rw [q1 32 (by decide) (by decide), t3]; exact s3
                · show h2_ 37 k = T 4 k
                  rw [q1 37 (by decide) (by decide), t4]; exact s4
                · show h2_ 39 k = T 6 k
                  rw [q1 39 (by decide) (by decide), t5]; exact s5
                · show (if (40 : Nat) = 40 then (if 0 ≤ k ∧ k < 0 + h 28 9 then h2_ 41 (0 + (k - 0)) else h2_ 40 k) else h2_ 40 k) = T 7 k
                  have hk8 : k < h 28 9 := by rw [a1]; exact hk9
                  rw [if_pos rfl, if_pos ⟨hk0, by omega⟩, show 0 + (k - 0) = k by omega]
                  exact hmb
                · show h2_ 38 k = T 11 k
                  rw [q1 38 (by decide) (by decide), t7]; exact s6
                · have hne : T 7 k ≠ 0 := hne
                  have s8 : T 7 k ≤ T1 7 k := s8
                  have := (w5 k hk0 hk9).1
                  obtain ⟨v1, v2, v3⟩ := t8 (by omega)
                  obtain ⟨x1, x2, x3⟩ := s9 hne
                  refine ⟨?_, ?_, ?_⟩
                  · show h2_ 34 k = T 8 k
                    rw [q1 34 (by decide) (by decide), v1]; exact x1
                  · show h2_ 35 k = T 9 k
                    rw [q1 35 (by decide) (by decide), v2]; exact x2
                  · show h2_ 36 k = T 10 k
                    rw [q1 36 (by decide) (by decide), v3]; exact x3
              · show num h2_ (T 0 0)
                rw [← a1]
                exact q4)
              (fun a ha => by
                have e1 : h2_ a = h1 a := q1 a (by omega) (by omega)
                have e2 : h1 a = h a := (hF1.1 a (by omega)).trans (by funext j; simp [xup, xcpy, show a ≠ 28 by omega, show a ≠ 41 by omega])
                rw [← e2, ← e1]
                funext j
                simp [xup, xcpy, show a ≠ 28 by omega, show a ≠ 40 by omega])
              (by
                show h2_ 42 = h 42
                rw [q1 42 (by decide) (by decide), hF1.1 42 (by decide)]
                rfl)
              ((q2 13 (by decide)).trans hF1.2.1) ((q2 14 (by decide)).trans hF1.2.2.1))
        refine E_s 3 (i' := 44) (ls' := [some (.inr (.inr 28)), some (.inl mm), some (.inl (h 28 9)), some (.inl (h 28 10)), some (.inl (h 28 11)), some (.inl (h 28 12))]) (sk' := [.inl ((xcpy h 40 0 41 0 (h 28 9)) 28 13), .inr (.inr 28)]) (h' := (xcpy h 40 0 41 0 (h 28 9))) rfl ?_
        refine E_b (x := (.ifCond .ne 10, 48, [], [])) rfl rfl (fun c44 => ?_) (fun c44 => ?_)
        · rw [c_ne (by first | exact ⟨by omega, by omega⟩ | (show xr (h 28 13); exact ⟨by omega, by omega⟩)) (by first | exact ⟨by omega, by omega⟩ | (show xr (h 28 13); exact ⟨by omega, by omega⟩))] at c44
          simp only [decide_eq_true_eq, decide_eq_false_iff_not, Decidable.not_not] at c44
          show xEx G0 cdX3_advance (some .int) (xRn G0 MT (d + 7)) Q b 48 [some (.inr (.inr 28)), some (.inl mm), some (.inl (h 28 9)), some (.inl (h 28 10)), some (.inl (h 28 11)), some (.inl (h 28 12))] [.inr (.inr 28)] (xcpy h 40 0 41 0 (h 28 9))
          refine E_s 4 (i' := 52) (ls' := [some (.inr (.inr 28)), some (.inl mm), some (.inl (h 28 9)), some (.inl (h 28 10)), some (.inl (h 28 11)), some (.inl (h 28 12))]) (sk' := [.inl (((xcpy h 40 0 41 0 (h 28 9)) 28 13) + 1), .inr (.inr 28)]) (h' := (xcpy h 40 0 41 0 (h 28 9))) rfl ?_
          refine E_ti (y := zT (h 28 13)) (by
            congr 1
            unfold zT
            first | (have c44 : h 28 13 = 0 := c44; rw [if_pos c44]) | (have c44 : ¬ h 28 13 = 0 := c44; rw [if_neg c44]; rfl)) ?_
          exact cut52 ()
        · rw [c_ne (by first | exact ⟨by omega, by omega⟩ | (show xr (h 28 13); exact ⟨by omega, by omega⟩)) (by first | exact ⟨by omega, by omega⟩ | (show xr (h 28 13); exact ⟨by omega, by omega⟩))] at c44
          simp only [decide_eq_true_eq, decide_eq_false_iff_not, Decidable.not_not] at c44
          show xEx G0 cdX3_advance (some .int) (xRn G0 MT (d + 7)) Q b 45 [some (.inr (.inr 28)), some (.inl mm), some (.inl (h 28 9)), some (.inl (h 28 10)), some (.inl (h 28 11)), some (.inl (h 28 12))] [.inr (.inr 28)] (xcpy h 40 0 41 0 (h 28 9))
          refine E_s 1 (i' := 46) (ls' := [some (.inr (.inr 28)), some (.inl mm), some (.inl (h 28 9)), some (.inl (h 28 10)), some (.inl (h 28 11)), some (.inl (h 28 12))]) (sk' := [.inr (.inr 28), .inr (.inr 28)]) (h' := (xcpy h 40 0 41 0 (h 28 9))) rfl ?_
          refine E_ci (x := (.invokevirtual 99, 0, [(1, 5), (7, 78)], [1])) (r := 3) (h' := (xcpy h 40 0 41 0 (h 28 9))) rfl rfl (Nat.le_of_ble_eq_true rfl) (c_firstSizeT (d + 6) 0 (xcpy h 40 0 41 0 (h 28 9)) ⟨rfl, rfl⟩) ?_
          show xEx G0 cdX3_advance (some .int) (xRn G0 MT (d + 7)) Q b 47 [some (.inr (.inr 28)), some (.inl mm), some (.inl (h 28 9)), some (.inl (h 28 10)), some (.inl (h 28 11)), some (.inl (h 28 12))] [.inl 3, .inr (.inr 28)] (xcpy h 40 0 41 0 (h 28 9))
          refine E_s 1 (i' := 52) (ls' := [some (.inr (.inr 28)), some (.inl mm), some (.inl (h 28 9)), some (.inl (h 28 10)), some (.inl (h 28 11)), some (.inl (h 28 12))]) (sk' := [.inl 3, .inr (.inr 28)]) (h' := (xcpy h 40 0 41 0 (h 28 9))) rfl ?_
          refine E_ti (y := zT (h 28 13)) (by
            congr 1
            unfold zT
            first | (have c44 : h 28 13 = 0 := c44; rw [if_pos c44]) | (have c44 : ¬ h 28 13 = 0 := c44; rw [if_neg c44]; rfl)) ?_
          exact cut52 ()
      · rw [c_lt (by first | assumption | (refine ⟨?_, ?_⟩ <;> omega) | (simp only [xr] at *; omega)) (by first | assumption | (refine ⟨?_, ?_⟩ <;> omega) | (simp only [xr] at *; omega))] at c18
        simp only [decide_eq_true_eq, decide_eq_false_iff_not, Decidable.not_not] at c18
        show xEx G0 cdX3_advance (some .int) (xRn G0 MT (d + 7)) Q b 19 [some (.inr (.inr 28)), some (.inl mm), none, none, none, none] [] h
        refine E_s 1 (i' := 20) (ls' := [some (.inr (.inr 28)), some (.inl mm), none, none, none, none]) (sk' := [.inl 3]) (h' := h) rfl ?_
        exact E_ret (x := (.ireturn, 0, [], [])) (v := some (.inl 3)) rfl (Or.inl rfl) (hQ3 (by omega))
    · rw [c_eq (by first | assumption | (refine ⟨?_, ?_⟩ <;> omega) | (simp only [xr] at *; omega)) (by first | assumption | (refine ⟨?_, ?_⟩ <;> omega) | (simp only [xr] at *; omega))] at c8
      simp only [decide_eq_true_eq, decide_eq_false_iff_not, Decidable.not_not] at c8
      show xEx G0 cdX3_advance (some .int) (xRn G0 MT (d + 7)) Q b 9 [some (.inr (.inr 28)), some (.inl mm), none, none, none, none] [] h
      refine E_s 1 (i' := 10) (ls' := [some (.inr (.inr 28)), some (.inl mm), none, none, none, none]) (sk' := [.inl 1]) (h' := h) rfl ?_
      exact E_ret (x := (.ireturn, 0, [], [])) (v := some (.inl 1)) rfl (Or.inl rfl) (hQ1 (by omega) (by omega))
  · rw [c_ne (by first | assumption | (refine ⟨?_, ?_⟩ <;> omega) | (simp only [xr] at *; omega)) (by first | assumption | (refine ⟨?_, ?_⟩ <;> omega) | (simp only [xr] at *; omega))] at c3
    simp only [decide_eq_true_eq, decide_eq_false_iff_not, Decidable.not_not] at c3
    show xEx G0 cdX3_advance (some .int) (xRn G0 MT (d + 7)) Q b 4 [some (.inr (.inr 28)), some (.inl mm), none, none, none, none] [] h
    refine E_s 1 (i' := 5) (ls' := [some (.inr (.inr 28)), some (.inl mm), none, none, none, none]) (sk' := [.inl 3]) (h' := h) rfl ?_
    exact E_ret (x := (.ireturn, 0, [], [])) (v := some (.inl 3)) rfl (Or.inl rfl) (hQ3 (by omega))
