theorem xEx2_q {own : String} {G : List xS} {cd : List xI} {rt : Option FieldType} {call : xCal} {Q Q2 : xO → xH → Prop} {b i : Nat} {ls : xL} {sk : List xV} {h : xH} (hq : ∀ o h', Q o h' → Q2 o h') (hk : xEx2 own G cd rt call Q b i ls sk h) : xEx2 own G cd rt call Q2 b i ls sk h := by
  intro P hP
  refine hk P ?_
  obtain ⟨⟨r1, r2, r3, r4, r5, r6, r7, r8, r9, r10, r11, r12, r13⟩, s⟩ := hP
  exact ⟨⟨r1, r2, r3, r4, r5, r6, r7, r8, r9, fun b1 b2 i ls sk h x mm as rest Q' a1 a2 a3 a4 a5 a6 a7 => r10 b1 b2 i ls sk h x mm as rest Q' a1 a2 a3 a4 a5 a6 (fun E h' z => hq _ _ (a7 E h' z)), fun b i ls h x v a1 a2 a3 => r11 b i ls h x v a1 a2 (hq _ _ a3), fun b i ls sk h x ik e0 w0 a1 a2 a3 a4 a5 => r12 b i ls sk h x ik e0 w0 a1 a2 a3 a4 (hq _ _ a5), r13⟩, s⟩
theorem xRn2_q {G : List xS} {MT : List xMt} {d b mm : Nat} {as : List xV} {h : xH} {Q Q2 : xO → xH → Prop} (hq : ∀ o h', Q o h' → Q2 o h') (hk : xRn2 G MT d b mm as h Q) : xRn2 G MT d b mm as h Q2 := by
  cases d with
  | zero => exact hk.elim
  | succ d =>
    obtain ⟨M, h1, h2, h3⟩ := hk
    exact ⟨M, h1, h2, xEx2_q hq h3⟩
/-- a call of the class, what the law notes, then the reference's, with strings -/
def CO2 (d b mc mr : Nat) (as : List xV) (ex : List String) (h : xH) : Prop := xRn2 G0 MT d b mc (.inr (.inr 0) :: as) h (fun o h1 => ∀ w : Int, xRn2 G0 MT d 0 mr (.inr (.inr 66) :: as) (xup h1 112 0 w) (fun o2 h2 => Inv h2 ∧ h2 112 0 = w ∧ AG ex o o2 h2))
theorem CO.two {d b mc mr : Nat} {as : List xV} {ex : List String} {h : xH} (c : CO d b mc mr as ex h) : CO2 d b mc mr as ex h := xRn2_q (fun _ _ z w => xRn_2 _ _ _ _ _ _ (z w)) (xRn_2 _ _ _ _ _ _ c)
theorem Inv_tx {h h' : xH} (f1 : ∀ a, ¬ scr a → a ≠ 66 → a ≠ 69 → a ≠ 70 → a ≠ 71 → a ≠ 79 → a ≠ 80 → a ≠ 81 → a ≠ 64 → a ≠ 65 → a ≠ 96 → h' a = h a) (f2 : ∀ j, mdf j → j ≠ 45 → h' 66 j = h 66 j) (f3 : ∀ k, k < 300 → h' 69 k = h 69 k ∧ h' 70 k = h 70 k ∧ h' 71 k = h 71 k) (f4 : ∀ k, k < 150 → h' 79 k = h 79 k ∧ h' 80 k = h 80 k ∧ h' 81 k = h 81 k) (ix : IX h') (i : Inv h) : Inv h' := by
  obtain ⟨S, T, ib, ie, it, ip, is, -⟩ := i
  have gl : ∀ a, a < 59 → h' a = h a := fun a ha => f1 a (by unfold scr; omega) (by omega) (by omega) (by omega) (by omega) (by omega) (by omega) (by omega) (by omega) (by omega) (by omega)
  have gm : ∀ a, (a = 67 ∨ a = 68 ∨ (72 ≤ a ∧ a ≤ 78) ∨ (82 ≤ a ∧ a ≤ 91) ∨ a = 105 ∨ a = 106) → h' a = h a := fun a ha => f1 a (by unfold scr; omega) (by omega) (by omega) (by omega) (by omega) (by omega) (by omega) (by omega) (by omega) (by omega) (by omega)
  have md : ∀ j, mdf j → j ≠ 45 → h' 66 j = h 66 j := f2
  exact ⟨S, T, IB_fr (fun a ha => gl a (by omega)) ⟨md _ (by unfold mdf; decide) (by decide), md _ (by unfold mdf; decide) (by decide), md _ (by unfold mdf; decide) (by decide), md _ (by unfold mdf; decide) (by decide), md _ (by unfold mdf; decide) (by decide)⟩ (gm _ (by decide)) (gm _ (by decide)) ib, IE_fr (fun a ha hb => gl a (by omega)) (gl _ (by decide)) (gl _ (by decide)) (md _ (by unfold mdf; decide) (by decide)) (md _ (by unfold mdf; decide) (by decide)) (by rw [gm 89 (by decide)]) (by rw [gm 88 (by decide)]) (by rw [gm 91 (by decide)]) (by rw [gm 90 (by decide)]) f3 (fun a ha hb => gm a (by omega)) ie, IT_fr (fun a ha hb => gl a (by omega)) (gl _ (by decide)) (md _ (by unfold mdf; decide) (by decide)) (md _ (by unfold mdf; decide) (by decide)) (by rw [gm 89 (by decide)]) (by rw [gm 88 (by decide)]) (by rw [gm 91 (by decide)]) (by rw [gm 90 (by decide)]) f4 (fun a ha hb => gm a (by omega)) it, IP_fr (STB.rf S) (STB.rf T) (gl _ (by decide)) (gl _ (by decide)) (gl _ (by decide)) ⟨md _ (by unfold mdf; decide) (by decide), md _ (by unfold mdf; decide) (by decide), md _ (by unfold mdf; decide) (by decide)⟩ (gm _ (by decide)) (gm _ (by decide)) ip, IS_fr (STB.rf S) (STB.rf T) (fun a ha hb => gl a (by omega)) (gl _ (by decide)) is, ix⟩
/-- both have written the same -/
theorem CO_T {h g h2 : xH} {t : List Int} {w : Int} {ex : List String} (hI : Inv h) (ht : (t.length : Int) ≤ 1024) (fg : FM (xup (tadds (xup h 64 1 0) t) 112 0 w) g) (g0 : g 66 0 = 0) (go : g 112 0 = w) (wd : WD g h2 t) : Inv h2 ∧ h2 112 0 = w ∧ AG ex (.inl (some (.inl ((t.length : Nat) : Int)))) (.inl (some (.inl ((t.length : Nat) : Int)))) h2 := by
  obtain ⟨w1, w2, w3, w4⟩ := wd
  obtain ⟨f1, f2, f3, f4⟩ := fg
  have hb : ∀ a, a ≠ 64 → a ≠ 65 → a ≠ 112 → xup (tadds (xup h 64 1 0) t) 112 0 w a = h a := fun a q1 q2 q3 => by rw [xup_o _ _ _ _ a q3, tadds_o q1 q2, xup_o _ _ _ _ a q1]
  have e64 : h2 64 1 = ((t.length : Nat) : Int) := by
    rw [w1 64 (by decide) (by decide) (by decide), f1 64 (by unfold scr; decide) (by decide) (by decide) (by decide) (by decide) (by decide) (by decide) (by decide), xup_o _ _ _ _ 64 (by decide), clr_l]
  refine ⟨Inv_tx (fun a q0 q1 q2 q3 q4 q5 q6 q7 q8 q9 q10 => ?_) (fun j q1 q2 => ?_) (fun k q => ?_) (fun k q => ?_) ⟨?_, ?_, fun i i0 i1 => ?_⟩ hI, ?_, AG_v ?_ rfl⟩
  · have q97 : a ≠ 97 := fun e => q0 (by subst e; unfold scr; decide)
    have q112 : a ≠ 112 := fun e => q0 (by subst e; unfold scr; decide)
    rw [w1 a q1 q10 q97, f1 a q0 q1 q2 q3 q4 q5 q6 q7, hb a q8 q9 q112]
  · have q47 : j ≠ 47 := fun e => by subst e; revert q1; unfold mdf; decide
    rw [w2 j q2 q47, f2 j q1, hb 66 (by decide) (by decide) (by decide)]
  · rw [w1 69 (by decide) (by decide) (by decide), w1 70 (by decide) (by decide) (by decide), w1 71 (by decide) (by decide) (by decide)]
    have := f3 k q
    rw [hb 69 (by decide) (by decide) (by decide), hb 70 (by decide) (by decide) (by decide), hb 71 (by decide) (by decide) (by decide)] at this
    exact this
  · rw [w1 79 (by decide) (by decide) (by decide), w1 80 (by decide) (by decide) (by decide), w1 81 (by decide) (by decide) (by decide)]
    have := f4 k q
    rw [hb 79 (by decide) (by decide) (by decide), hb 80 (by decide) (by decide) (by decide), hb 81 (by decide) (by decide) (by decide)] at this
    exact this
  · rw [e64]; omega
  · rw [e64, w3]
  · rw [e64] at i1
    rw [w4, w1 65 (by decide) (by decide) (by decide), f1 65 (by unfold scr; decide) (by decide) (by decide) (by decide) (by decide) (by decide) (by decide) (by decide), xup_o _ _ _ _ 65 (by decide), tadds_w, xup_s, xup_o _ _ _ _ 65 (by decide)]
    exact wr_e t _ _ 0 i i0 (by omega)
  · rw [w1 112 (by decide) (by decide) (by decide)]; exact go
  · rw [w2 0 (by decide) (by decide)]; exact g0
set_option maxHeartbeats 1000000 in
theorem CO2_write0 (d : Nat) {h : xH} (hI : Inv h) (k : Int) (hk : xr k) : CO2 (d + 27) 1 109 213 [.inl 0, .inl k] ["java/util/NoSuchElementException"] h := by
  obtain ⟨b0, b1, -⟩ := Inv_e hI
  obtain ⟨S, T, ci, ri⟩ := Inv_i.mp hI
  obtain ⟨v1, v2, v3, v4, v5, v6⟩ := EV_ci ci
  have fu : ∀ u, FM h (xup h 112 0 u) := fun u => (FM.rf h).up (Or.inl (by unfold scr; decide))
  have ww : ∀ g, (∀ a, a ≠ 64 → a ≠ 65 → a ≠ 112 → g a = h a) → RR g S ∧ RRT g T := fun g f => by
    obtain ⟨r1, r2⟩ := RI_rr ri
    refine ⟨RR_fr v3.2 ?_ ?_ ?_ (fun k _ => ⟨?_, ?_, ?_⟩) (fun a z1 z2 => f a (by omega) (by omega) (by omega)) r1, RRT_fr v6.2 ?_ ?_ ?_ (fun k _ => ⟨?_, ?_, ?_⟩) (fun a z1 z2 => f a (by omega) (by omega) (by omega)) r2⟩
    all_goals first | rw [f 66 (by decide) (by decide) (by decide)] | rw [f 89 (by decide) (by decide) (by decide)] | rw [f 69 (by decide) (by decide) (by decide)] | rw [f 70 (by decide) (by decide) (by decide)] | rw [f 71 (by decide) (by decide) (by decide)] | rw [f 79 (by decide) (by decide) (by decide)] | rw [f 80 (by decide) (by decide) (by decide)] | rw [f 81 (by decide) (by decide) (by decide)]
  have hb : ∀ (t : List Int) (u : Int) (a : Nat), a ≠ 64 → a ≠ 65 → a ≠ 112 → xup (tadds (xup h 64 1 0) t) 112 0 u a = h a := fun t u a q1 q2 q3 => by rw [xup_o _ _ _ _ a q3, tadds_o q1 q2, xup_o _ _ _ _ a q1]
  have fo : ∀ (g : xH), FM g (xup g 66 0 0) := fun g => (FM.rf g).up (Or.inr ⟨rfl, by unfold mdf; decide⟩)
  have b8 : 0 ≤ h 66 8 ∧ h 66 8 ≤ 300 := by rw [b1]; exact b0
  have cc : (0 ≤ k ∧ k < h 66 8) ↔ (0 ≤ k ∧ k < h 9 9) := by rw [b1]
  refine o_write0 (d + 3) h S T k hk (EV_ci ci) b0 (fun q u => ?_) (fun q u => ?_)
  · exact m_write0 (d + 22) 0 (xup h 112 0 u) S T k hk _ _ v2 v5 v3 v6 (ww _ (fun a _ _ q3 => xup_o _ _ _ _ a q3)).1 (ww _ (fun a _ _ q3 => xup_o _ _ _ _ a q3)).2 b8 (fun _ => CO_x hI 0 rfl u 0) (fun z9 => absurd (cc.mp z9) q)
  · have hk2 : 0 ≤ k ∧ k < S 0 0 := by rw [← v1.1]; exact q
    have r9 : ((TE S k).length : Int) ≤ 1024 := by
      have := TE_r v2 hk2.1 hk2.2; have := (v2 k hk2.1 hk2.2).2.2.1; omega
    have k0 : (xup (tadds (xup h 64 1 0) (TE S k)) 112 0 u) 66 = h 66 := hb _ u _ (by decide) (by decide) (by decide)
    exact m_write0 (d + 22) 0 (xup (tadds (xup h 64 1 0) (TE S k)) 112 0 u) S T k hk _ _ v2 v5 v3 v6 (ww _ (hb _ u)).1 (ww _ (hb _ u)).2 (by rw [k0]; exact b8) (fun z9 => absurd (show 0 ≤ k ∧ k < (xup (tadds (xup h 64 1 0) (TE S k)) 112 0 u) 66 8 by rw [k0]; exact cc.mpr q) z9) (fun _ h9 wd => CO_T hI r9 (fo _) rfl rfl wd)
set_option maxHeartbeats 1000000 in
theorem CO2_write1 (d : Nat) {h : xH} (hI : Inv h) (k : Int) (hk : xr k) : CO2 (d + 27) 1 109 213 [.inl 1, .inl k] ["java/util/NoSuchElementException"] h := by
  obtain ⟨b0, b1, -⟩ := Inv_t hI
  obtain ⟨S, T, ci, ri⟩ := Inv_i.mp hI
  obtain ⟨v1, v2, v3, v4, v5, v6⟩ := EV_ci ci
  have fu : ∀ u, FM h (xup h 112 0 u) := fun u => (FM.rf h).up (Or.inl (by unfold scr; decide))
  have ww : ∀ g, (∀ a, a ≠ 64 → a ≠ 65 → a ≠ 112 → g a = h a) → RR g S ∧ RRT g T := fun g f => by
    obtain ⟨r1, r2⟩ := RI_rr ri
    refine ⟨RR_fr v3.2 ?_ ?_ ?_ (fun k _ => ⟨?_, ?_, ?_⟩) (fun a z1 z2 => f a (by omega) (by omega) (by omega)) r1, RRT_fr v6.2 ?_ ?_ ?_ (fun k _ => ⟨?_, ?_, ?_⟩) (fun a z1 z2 => f a (by omega) (by omega) (by omega)) r2⟩
    all_goals first | rw [f 66 (by decide) (by decide) (by decide)] | rw [f 89 (by decide) (by decide) (by decide)] | rw [f 69 (by decide) (by decide) (by decide)] | rw [f 70 (by decide) (by decide) (by decide)] | rw [f 71 (by decide) (by decide) (by decide)] | rw [f 79 (by decide) (by decide) (by decide)] | rw [f 80 (by decide) (by decide) (by decide)] | rw [f 81 (by decide) (by decide) (by decide)]
  have hb : ∀ (t : List Int) (u : Int) (a : Nat), a ≠ 64 → a ≠ 65 → a ≠ 112 → xup (tadds (xup h 64 1 0) t) 112 0 u a = h a := fun t u a q1 q2 q3 => by rw [xup_o _ _ _ _ a q3, tadds_o q1 q2, xup_o _ _ _ _ a q1]
  have fo : ∀ (g : xH), FM g (xup g 66 0 0) := fun g => (FM.rf g).up (Or.inr ⟨rfl, by unfold mdf; decide⟩)
  have b8 : 0 ≤ h 66 19 ∧ h 66 19 ≤ 150 := by rw [b1]; exact b0
  have cc : (0 ≤ k ∧ k < h 66 19) ↔ (0 ≤ k ∧ k < h 28 9) := by rw [b1]
  refine o_write1 (d + 3) h S T k hk (EV_ci ci) b0 (fun q u => ?_) (fun q u => ?_)
  · exact m_write1 (d + 22) 0 (xup h 112 0 u) S T k hk _ _ v2 v5 v3 v6 (ww _ (fun a _ _ q3 => xup_o _ _ _ _ a q3)).1 (ww _ (fun a _ _ q3 => xup_o _ _ _ _ a q3)).2 b8 (fun _ => CO_x hI 0 rfl u 0) (fun z9 => absurd (cc.mp z9) q)
  · have hk2 : 0 ≤ k ∧ k < T 0 0 := by rw [← v4.1]; exact q
    have r9 : ((TT S T k).length : Int) ≤ 1024 := by
      have := TT_r v2 v5 hk2.1 hk2.2; omega
    have k0 : (xup (tadds (xup h 64 1 0) (TT S T k)) 112 0 u) 66 = h 66 := hb _ u _ (by decide) (by decide) (by decide)
    exact m_write1 (d + 22) 0 (xup (tadds (xup h 64 1 0) (TT S T k)) 112 0 u) S T k hk _ _ v2 v5 v3 v6 (ww _ (hb _ u)).1 (ww _ (hb _ u)).2 (by rw [k0]; exact b8) (fun z9 => absurd (show 0 ≤ k ∧ k < (xup (tadds (xup h 64 1 0) (TT S T k)) 112 0 u) 66 19 by rw [k0]; exact cc.mpr q) z9) (fun _ h9 wd => CO_T hI r9 (fo _) rfl rfl wd)
set_option maxHeartbeats 1000000 in
theorem CO2_wm0 (d : Nat) {h : xH} (hI : Inv h) (k : Int) (hk : xr k) : CO2 (d + 27) 1 118 214 [.inl 0, .inl k] ["java/util/NoSuchElementException"] h := by
  obtain ⟨b0, b1, -⟩ := Inv_e hI
  obtain ⟨S, T, ci, ri⟩ := Inv_i.mp hI
  obtain ⟨v1, v2, v3, v4, v5, v6⟩ := EV_ci ci
  have fu : ∀ u, FM h (xup h 112 0 u) := fun u => (FM.rf h).up (Or.inl (by unfold scr; decide))
  have ww : ∀ g, (∀ a, a ≠ 64 → a ≠ 65 → a ≠ 112 → g a = h a) → RR g S ∧ RRT g T := fun g f => by
    obtain ⟨r1, r2⟩ := RI_rr ri
    refine ⟨RR_fr v3.2 ?_ ?_ ?_ (fun k _ => ⟨?_, ?_, ?_⟩) (fun a z1 z2 => f a (by omega) (by omega) (by omega)) r1, RRT_fr v6.2 ?_ ?_ ?_ (fun k _ => ⟨?_, ?_, ?_⟩) (fun a z1 z2 => f a (by omega) (by omega) (by omega)) r2⟩
    all_goals first | rw [f 66 (by decide) (by decide) (by decide)] | rw [f 89 (by decide) (by decide) (by decide)] | rw [f 69 (by decide) (by decide) (by decide)] | rw [f 70 (by decide) (by decide) (by decide)] | rw [f 71 (by decide) (by decide) (by decide)] | rw [f 79 (by decide) (by decide) (by decide)] | rw [f 80 (by decide) (by decide) (by decide)] | rw [f 81 (by decide) (by decide) (by decide)]
  have hb : ∀ (t : List Int) (u : Int) (a : Nat), a ≠ 64 → a ≠ 65 → a ≠ 112 → xup (tadds (xup h 64 1 0) t) 112 0 u a = h a := fun t u a q1 q2 q3 => by rw [xup_o _ _ _ _ a q3, tadds_o q1 q2, xup_o _ _ _ _ a q1]
  have fo : ∀ (g : xH), FM g (xup g 66 0 0) := fun g => (FM.rf g).up (Or.inr ⟨rfl, by unfold mdf; decide⟩)
  have b8 : 0 ≤ h 66 8 ∧ h 66 8 ≤ 300 := by rw [b1]; exact b0
  have cc : (0 ≤ k ∧ k < h 66 8) ↔ (0 ≤ k ∧ k < h 9 9) := by rw [b1]
  have h7r : ∀ k, 0 ≤ k → k < S 0 0 → 0 ≤ S 7 k ∧ S 7 k ≤ 400000 := fun k z1 z2 => by
    have w9 := ci.2.1.2.1
    have := w9.2.2.2.2.1 k z1 z2
    have := w9.2.2.2.2.2.1
    have := w9.2.2.2.2.2.2.1
    have := w9.2.2.2.2.2.2.2.1
    have := w9.2.2.2.2.2.2.2.2.1
    omega
  refine o_wm0 (d + 3) h S T k hk (EV_ci ci) h7r b0 (fun q u => ?_) (fun q z u => ?_) (fun q z u => ?_)
  · exact m_wmZ0 (d + 22) 0 (xup h 112 0 u) S T k hk _ _ v2 v5 v3 v6 (ww _ (fun a _ _ q3 => xup_o _ _ _ _ a q3)).1 (ww _ (fun a _ _ q3 => xup_o _ _ _ _ a q3)).2 b8 h7r (fun z9 => absurd (cc.mp z9) q) (fun _ => CO_x hI 0 rfl u 0) (fun z9 => absurd (cc.mp z9) q)
  · have hk2 : 0 ≤ k ∧ k < S 0 0 := by rw [← v1.1]; exact q
    have e7 : h 76 k = S 7 k := ((RI_rr ri).1.2.2.1 k hk2.1 hk2.2).2.2.2.2.2.1
    exact m_wmZ0 (d + 22) 0 (xup h 112 0 u) S T k hk _ _ v2 v5 v3 v6 (ww _ (fun a _ _ q3 => xup_o _ _ _ _ a q3)).1 (ww _ (fun a _ _ q3 => xup_o _ _ _ _ a q3)).2 b8 h7r (fun _ => by show h 76 k = 0; rw [e7]; exact z) (fun z9 => absurd (cc.mpr q) z9) (fun _ => CO_v hI u rfl)
  · have hk2 : 0 ≤ k ∧ k < S 0 0 := by rw [← v1.1]; exact q
    have e7 : h 76 k = S 7 k := ((RI_rr ri).1.2.2.1 k hk2.1 hk2.2).2.2.2.2.2.1
    obtain ⟨yz, y9, cz⟩ := (v2 k hk2.1 hk2.2).2.2.2.2.2.2 z
    have r9 : ((FE S (S 8 k) (S 9 k) (S 10 k)).length : Int) ≤ 1024 := by
      have := FE_r v2 cz; omega
    have k0 : (xup (tadds (xup h 64 1 0) (FE S (S 8 k) (S 9 k) (S 10 k))) 112 0 u) 66 = h 66 := hb _ u _ (by decide) (by decide) (by decide)
    exact m_wmO0 (d + 22) 0 (xup (tadds (xup h 64 1 0) (FE S (S 8 k) (S 9 k) (S 10 k))) 112 0 u) S T k hk _ _ v2 v5 v3 v6 (ww _ (hb _ u)).1 (ww _ (hb _ u)).2 (by rw [k0]; exact b8) h7r (fun _ => by rw [hb _ u 76 (by decide) (by decide) (by decide), e7]; exact z) (fun z9 => absurd (show 0 ≤ k ∧ k < (xup (tadds (xup h 64 1 0) (FE S (S 8 k) (S 9 k) (S 10 k))) 112 0 u) 66 8 by rw [k0]; exact cc.mpr q) z9) (fun _ h9 wd => CO_T hI r9 ((FM_u3 (FM_u3 (FM_u3 (fo _) (Or.inl ⟨by omega, by omega⟩)) (Or.inl ⟨by omega, by omega⟩)) (Or.inl ⟨by omega, by omega⟩))) rfl rfl wd)
set_option maxHeartbeats 1000000 in
theorem CO2_wm1 (d : Nat) {h : xH} (hI : Inv h) (k : Int) (hk : xr k) : CO2 (d + 27) 1 118 214 [.inl 1, .inl k] ["java/util/NoSuchElementException"] h := by
  obtain ⟨b0, b1, -⟩ := Inv_t hI
  obtain ⟨S, T, ci, ri⟩ := Inv_i.mp hI
  obtain ⟨v1, v2, v3, v4, v5, v6⟩ := EV_ci ci
  have fu : ∀ u, FM h (xup h 112 0 u) := fun u => (FM.rf h).up (Or.inl (by unfold scr; decide))
  have ww : ∀ g, (∀ a, a ≠ 64 → a ≠ 65 → a ≠ 112 → g a = h a) → RR g S ∧ RRT g T := fun g f => by
    obtain ⟨r1, r2⟩ := RI_rr ri
    refine ⟨RR_fr v3.2 ?_ ?_ ?_ (fun k _ => ⟨?_, ?_, ?_⟩) (fun a z1 z2 => f a (by omega) (by omega) (by omega)) r1, RRT_fr v6.2 ?_ ?_ ?_ (fun k _ => ⟨?_, ?_, ?_⟩) (fun a z1 z2 => f a (by omega) (by omega) (by omega)) r2⟩
    all_goals first | rw [f 66 (by decide) (by decide) (by decide)] | rw [f 89 (by decide) (by decide) (by decide)] | rw [f 69 (by decide) (by decide) (by decide)] | rw [f 70 (by decide) (by decide) (by decide)] | rw [f 71 (by decide) (by decide) (by decide)] | rw [f 79 (by decide) (by decide) (by decide)] | rw [f 80 (by decide) (by decide) (by decide)] | rw [f 81 (by decide) (by decide) (by decide)]
  have hb : ∀ (t : List Int) (u : Int) (a : Nat), a ≠ 64 → a ≠ 65 → a ≠ 112 → xup (tadds (xup h 64 1 0) t) 112 0 u a = h a := fun t u a q1 q2 q3 => by rw [xup_o _ _ _ _ a q3, tadds_o q1 q2, xup_o _ _ _ _ a q1]
  have fo : ∀ (g : xH), FM g (xup g 66 0 0) := fun g => (FM.rf g).up (Or.inr ⟨rfl, by unfold mdf; decide⟩)
  have b8 : 0 ≤ h 66 19 ∧ h 66 19 ≤ 150 := by rw [b1]; exact b0
  have cc : (0 ≤ k ∧ k < h 66 19) ↔ (0 ≤ k ∧ k < h 28 9) := by rw [b1]
  have h7r : ∀ k, 0 ≤ k → k < T 0 0 → 0 ≤ T 7 k ∧ T 7 k ≤ 400000 := fun k z1 z2 => by
    have w9 := ci.2.2.1.2.1
    have := w9.2.2.2.2.1 k z1 z2
    have := w9.2.2.2.2.2.1
    have := w9.2.2.2.2.2.2.1
    have := w9.2.2.2.2.2.2.2.1
    have := w9.2.2.2.2.2.2.2.2.1
    omega
  refine o_wm1 (d + 3) h S T k hk (EV_ci ci) h7r b0 (fun q u => ?_) (fun q z u => ?_) (fun q z u => ?_)
  · exact m_wmZ1 (d + 22) 0 (xup h 112 0 u) S T k hk _ _ v2 v5 v3 v6 (ww _ (fun a _ _ q3 => xup_o _ _ _ _ a q3)).1 (ww _ (fun a _ _ q3 => xup_o _ _ _ _ a q3)).2 b8 h7r (fun z9 => absurd (cc.mp z9) q) (fun _ => CO_x hI 0 rfl u 0) (fun z9 => absurd (cc.mp z9) q)
  · have hk2 : 0 ≤ k ∧ k < T 0 0 := by rw [← v4.1]; exact q
    have e7 : h 86 k = T 7 k := ((RI_rr ri).2.2.2.2 k hk2.1 hk2.2).2.2.2.2.2.1
    exact m_wmZ1 (d + 22) 0 (xup h 112 0 u) S T k hk _ _ v2 v5 v3 v6 (ww _ (fun a _ _ q3 => xup_o _ _ _ _ a q3)).1 (ww _ (fun a _ _ q3 => xup_o _ _ _ _ a q3)).2 b8 h7r (fun _ => by show h 86 k = 0; rw [e7]; exact z) (fun z9 => absurd (cc.mpr q) z9) (fun _ => CO_v hI u rfl)
  · have hk2 : 0 ≤ k ∧ k < T 0 0 := by rw [← v4.1]; exact q
    have e7 : h 86 k = T 7 k := ((RI_rr ri).2.2.2.2 k hk2.1 hk2.2).2.2.2.2.2.1
    obtain ⟨yz, y9, cz⟩ := (v5 k hk2.1 hk2.2).2.2.2.2.2 z
    have r9 : ((GT S T (T 8 k) (T 9 k) (T 10 k)).length : Int) ≤ 1024 := by
      have := GT_r v2 v5 y9 cz; omega
    have k0 : (xup (tadds (xup h 64 1 0) (GT S T (T 8 k) (T 9 k) (T 10 k))) 112 0 u) 66 = h 66 := hb _ u _ (by decide) (by decide) (by decide)
    exact m_wmO1 (d + 22) 0 (xup (tadds (xup h 64 1 0) (GT S T (T 8 k) (T 9 k) (T 10 k))) 112 0 u) S T k hk _ _ v2 v5 v3 v6 (ww _ (hb _ u)).1 (ww _ (hb _ u)).2 (by rw [k0]; exact b8) h7r (fun _ => by rw [hb _ u 86 (by decide) (by decide) (by decide), e7]; exact z) (fun z9 => absurd (show 0 ≤ k ∧ k < (xup (tadds (xup h 64 1 0) (GT S T (T 8 k) (T 9 k) (T 10 k))) 112 0 u) 66 19 by rw [k0]; exact cc.mpr q) z9) (fun _ h9 wd => CO_T hI r9 ((FM_u3 (FM_u3 (FM_u3 (fo _) (Or.inr ⟨by omega, by omega⟩)) (Or.inr ⟨by omega, by omega⟩)) (Or.inr ⟨by omega, by omega⟩))) rfl rfl wd)
set_option maxHeartbeats 1000000 in
theorem CO2_ws (d : Nat) {h : xH} (hI : Inv h)  : CO2 (d + 30) 1 125 243 [] ["java/lang/IllegalStateException"] h := by
  obtain ⟨S, T, ci, ri⟩ := Inv_i.mp hI
  obtain ⟨v1, v2, v3, v4, v5, v6⟩ := EV_ci ci
  have fu : ∀ u, FM h (xup h 112 0 u) := fun u => (FM.rf h).up (Or.inl (by unfold scr; decide))
  have ww : ∀ g, (∀ a, a ≠ 64 → a ≠ 65 → a ≠ 112 → g a = h a) → RR g S ∧ RRT g T := fun g f => by
    obtain ⟨r1, r2⟩ := RI_rr ri
    refine ⟨RR_fr v3.2 ?_ ?_ ?_ (fun k _ => ⟨?_, ?_, ?_⟩) (fun a z1 z2 => f a (by omega) (by omega) (by omega)) r1, RRT_fr v6.2 ?_ ?_ ?_ (fun k _ => ⟨?_, ?_, ?_⟩) (fun a z1 z2 => f a (by omega) (by omega) (by omega)) r2⟩
    all_goals first | rw [f 66 (by decide) (by decide) (by decide)] | rw [f 89 (by decide) (by decide) (by decide)] | rw [f 69 (by decide) (by decide) (by decide)] | rw [f 70 (by decide) (by decide) (by decide)] | rw [f 71 (by decide) (by decide) (by decide)] | rw [f 79 (by decide) (by decide) (by decide)] | rw [f 80 (by decide) (by decide) (by decide)] | rw [f 81 (by decide) (by decide) (by decide)]
  have hb : ∀ (t : List Int) (u : Int) (a : Nat), a ≠ 64 → a ≠ 65 → a ≠ 112 → xup (tadds (xup h 64 1 0) t) 112 0 u a = h a := fun t u a q1 q2 q3 => by rw [xup_o _ _ _ _ a q3, tadds_o q1 q2, xup_o _ _ _ _ a q1]
  have fo : ∀ (g : xH), FM g (xup g 66 0 0) := fun g => (FM.rf g).up (Or.inr ⟨rfl, by unfold mdf; decide⟩)
  obtain ⟨p1, p2, p3, p4, p5, p6, p7⟩ := Inv_p ci.2.2.2.1 ri.2.2.2.1
  have so : h 66 50 = 0 ∨ h 66 50 = 1 := by rw [p2]; exact p1
  have sq : h 66 50 = 1 ↔ h 56 4 = 1 := by rw [p2]
  refine o_ws (d + 3) h S T (EV_ci ci) p1 p3 (fun q u => ?_) (fun q u => ?_)
  · exact m_ws (d + 25) 0 (xup h 112 0 u) S T (h 57) (h 58) _ _ v2 v5 v3 v6 (ww _ (fun a _ _ q3 => xup_o _ _ _ _ a q3)).1 (ww _ (fun a _ _ q3 => xup_o _ _ _ _ a q3)).2 so (fun z9 => absurd (sq.mp z9) q) (fun z9 => absurd (sq.mp z9) q) (fun _ => CO_x hI 0 rfl u 0) (fun z9 => absurd (sq.mp z9) q)
  · have r9 : ((txN S T (h 57) (h 58) 3 0).length : Int) ≤ 1024 := by
      have := txN_r v2 v5 3 0 (p3 q)
      have : (2 ^ 3 : Nat) = 8 := rfl
      omega
    have k0 : (xup (tadds (xup h 64 1 0) (txN S T (h 57) (h 58) 3 0)) 112 0 u) 66 = h 66 := hb _ u _ (by decide) (by decide) (by decide)
    refine m_ws (d + 25) 0 (xup (tadds (xup h 64 1 0) (txN S T (h 57) (h 58) 3 0)) 112 0 u) S T (h 57) (h 58) _ _ v2 v5 v3 v6 (ww _ (hb _ u)).1 (ww _ (hb _ u)).2 (by rw [k0]; exact so) (fun z9 n z1 z2 => ?_) (fun z9 => p3 q) (fun z9 => absurd (show (xup (tadds (xup h 64 1 0) (txN S T (h 57) (h 58) 3 0)) 112 0 u) 66 50 = 1 by rw [k0]; exact sq.mpr q) z9) (fun _ h9 wd => CO_T hI r9 (fo _) rfl rfl wd)
    rw [hb _ u 105 (by decide) (by decide) (by decide), hb _ u 106 (by decide) (by decide) (by decide)]
    exact p5 q n z1 z2
