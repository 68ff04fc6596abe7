theorem m_mapart0 (d b : Nat) (h S T : xH) (k i n0 : Int) (wt : Int → Int) (hk : xr k) (hi : xr i) (hm : 1 ≤ h 66 1 ∧ h 66 1 ≤ 3) (h7r : ∀ k, 0 ≤ k → k < S 0 0 → 0 ≤ S 7 k ∧ S 7 k ≤ 400000) (hR : RR h S) (hRT : RRT h T) (hF : FW n0 wt 9 S) (hT : FWT S 7 T) (h3 : 0 ≤ S 0 0 ∧ S 0 0 ≤ 300) (h4 : 0 ≤ T 0 0 ∧ T 0 0 ≤ 150) (hM : 0 ≤ h 66 8 ∧ h 66 8 ≤ 300) {Q : xO → xH → Prop} (hN : ¬ ((0 ≤ k ∧ k < h 66 8) ∧ (0 ≤ i ∧ i ≤ 2)) → Q (.inl (some (.inl 0))) (xup h 66 0 1)) (hZ : ((0 ≤ k ∧ k < h 66 8) ∧ (0 ≤ i ∧ i ≤ 2)) → S 7 k = 0 → Q (.inl (some (.inl (-100)))) (xup h 66 0 0)) (hF9 : ((0 ≤ k ∧ k < h 66 8) ∧ (0 ≤ i ∧ i ≤ 2)) → S 7 k ≠ 0 → ∀ p, 0 ≤ p → p < ptN (h 66 1) → (dmE S (h 66 1) k) p → (∀ q, 0 ≤ q → q < p → ¬ (dmE S (h 66 1) k) q) → ∀ h', (∀ a, a ≠ 94 → a ≠ 95 → h' a = (xup (xup (xup (xup h 66 0 0) 69 300 (h 72 k)) 70 300 (h 73 k)) 71 300 (h 74 k)) a) → Q (.inl (some (.inl (ptX (h 66 1) p i)))) h') (hG : ((0 ≤ k ∧ k < h 66 8) ∧ (0 ≤ i ∧ i ≤ 2)) → S 7 k ≠ 0 → (∀ q, 0 ≤ q → q < ptN (h 66 1) → ¬ (dmE S (h 66 1) k) q) → ∀ h', (∀ a, a ≠ 94 → a ≠ 95 → h' a = (xup (xup (xup (xup h 66 0 0) 69 300 (h 72 k)) 70 300 (h 73 k)) 71 300 (h 74 k)) a) → Q (.inl (some (.inl (-100)))) h') : xRn G0 MT (d + 23) b 200 [.inr (.inr 66), .inl 0, .inl k, .inl i] h Q := by
  have : h 66 1 = 1 ∨ h 66 1 = 2 ∨ h 66 1 = 3 := by omega
  rcases this with e | e | e
  · rw [e] at hF9 hG
    exact m_mapart0_1 d b h S T k i n0 wt hk hi e h7r hR hRT hF hT h3 h4 hM hN hZ hF9 hG
  · rw [e] at hF9 hG
    exact m_mapart0_2 d b h S T k i n0 wt hk hi e h7r hR hRT hF hT h3 h4 hM hN hZ hF9 hG
  · rw [e] at hF9 hG
    exact m_mapart0_3 d b h S T k i n0 wt hk hi e h7r hR hRT hF hT h3 h4 hM hN hZ hF9 hG
set_option maxHeartbeats 1000000 in
theorem CO_mapart0 (d : Nat) {h : xH} (hI : Inv h) (k i : Int) (hk : xr k) (hi : xr i) : CO (d + 25) 2 119 200 [.inl 0, .inl k, .inl i] ["java/util/NoSuchElementException"] h := by
  obtain ⟨b0, b1, -, -, -, -, -, -, b9⟩ := Inv_e hI
  obtain ⟨S, T, ci, ri⟩ := Inv_i.mp hI
  obtain ⟨v1, v2, v3, v4, v5, v6⟩ := EV_ci ci
  have m1 : h 66 1 = h 1 1 := ri.1.2.1
  have c2 : 1 ≤ h 1 1 ∧ h 1 1 ≤ 3 := ci.1.2.1
  have c8 : 1 ≤ h 66 1 ∧ h 66 1 ≤ 3 := by rw [m1]; exact c2
  have b8 : 0 ≤ h 66 8 ∧ h 66 8 ≤ 300 := by rw [b1]; exact b0
  have cc : ((0 ≤ k ∧ k < h 66 8) ∧ (0 ≤ i ∧ i ≤ 2)) ↔ ((0 ≤ k ∧ k < h 9 9) ∧ (0 ≤ i ∧ i ≤ 2)) := by rw [b1]
  have h7r : ∀ k, 0 ≤ k → k < S 0 0 → 0 ≤ S 7 k ∧ S 7 k ≤ 400000 := fun k z1 z2 => by
    obtain ⟨-, -, -, -, e7, e1, e2, e3, e4, -⟩ := ci.2.1.2.1
    have := e7 k z1 z2
    exact ⟨by omega, by omega⟩
  refine o_mapart0 d h S T k i hk hi c2 (EV_ci ci) h7r b0 (fun q u => ?_) (fun q q7 u => ?_) (fun q q7 p p0 p1 dp pn h1 f1 u => ?_) (fun q q7 pn h1 f1 u => ?_)
  · obtain ⟨w1, w2⟩ := RI_rr (FM_RI v3.2 v6.2 ((FM.rf h).up (Or.inl (by unfold scr; decide)) : FM h (xup h 112 0 u)) ri)
    exact m_mapart0 (d + 2) 0 (xup h 112 0 u) S T k i (h 1 2) (h 6) hk hi c8 h7r w1 w2 v2 v5 v3 v6 b8 (fun _ => CO_x hI 0 rfl u 0) (fun z9 => absurd (cc.mp z9) q) (fun z9 => absurd (cc.mp z9) q) (fun z9 => absurd (cc.mp z9) q)
  · obtain ⟨w1, w2⟩ := RI_rr (FM_RI v3.2 v6.2 ((FM.rf h).up (Or.inl (by unfold scr; decide)) : FM h (xup h 112 0 u)) ri)
    exact m_mapart0 (d + 2) 0 (xup h 112 0 u) S T k i (h 1 2) (h 6) hk hi c8 h7r w1 w2 v2 v5 v3 v6 b8 (fun z9 => absurd (cc.mpr q) z9) (fun _ _ => CO_v hI u rfl) (fun _ z9 => absurd q7 z9) (fun _ z9 => absurd q7 z9)
  · have f0 : FM h h1 := FM_c (fun a => a = 63) (fun a z => by unfold scr; omega) f1
    have fm : FM h (xup h1 112 0 u) := f0.up (Or.inl (by unfold scr; decide))
    have k0 : h1 66 = h 66 := f1 _ (by decide)
    obtain ⟨w1, w2⟩ := RI_rr (FM_RI v3.2 v6.2 fm ri)
    have fb : FM h (xup (xup (xup (xup (xup h1 112 0 u) 66 0 0) 69 300 ((xup h1 112 0 u) 72 k)) 70 300 ((xup h1 112 0 u) 73 k)) 71 300 ((xup h1 112 0 u) 74 k)) := (FM_u3 (FM_u3 (FM_u3 (fm.up (Or.inr ⟨rfl, by unfold mdf; decide⟩)) (Or.inl ⟨by decide, by decide⟩)) (Or.inl ⟨by decide, by decide⟩)) (Or.inl ⟨by decide, by decide⟩))
    have dq : ∀ q, (dmE S ((xup h1 112 0 u) 66 1) k) q ↔ (dmE S (h 1 1) k) q := fun q => by
      show (dmE S (h1 66 1) k) q ↔ (dmE S (h 1 1) k) q
      rw [k0, m1]
    have nq : ptN ((xup h1 112 0 u) 66 1) = ptN (h 1 1) := by
      show ptN (h1 66 1) = _
      rw [k0, m1]
    refine m_mapart0 (d + 2) 0 (xup h1 112 0 u) S T k i (h 1 2) (h 6) hk hi (by show 1 ≤ h1 66 1 ∧ h1 66 1 ≤ 3; rw [k0]; exact c8) h7r w1 w2 v2 v5 v3 v6 (by show 0 ≤ h1 66 8 ∧ h1 66 8 ≤ 300; rw [k0]; exact b8) (fun z9 => absurd (show (0 ≤ k ∧ k < h1 66 8) ∧ (0 ≤ i ∧ i ≤ 2) by rw [k0]; exact cc.mpr q) z9) (fun _ z9 => absurd z9 q7) (fun _ _ p' p0' p1' dp' pn' h2 f2 => ?_) (fun _ _ pn' h2 f2 => ?_)
    · have e9 : p' = p := by
        rcases Int.lt_trichotomy p' p with z | z | z
        · exact absurd ((dq p').mp dp') (pn p' p0' z)
        · exact z
        · exact absurd ((dq p).mpr dp) (pn' p p0 z)
      subst e9
      refine CO_f hI (fb.tr (FM_vh f2)) (by rw [f2 _ (by decide) (by decide)]; rfl) (by rw [f2 _ (by decide) (by decide)]; rfl) ?_
      show ptX (h 1 1) p' i = ptX (h1 66 1) p' i
      rw [k0, m1]
    · exact absurd ((dq p).mpr dp) (pn' p p0 (by rw [nq]; exact p1))
  · have f0 : FM h h1 := FM_c (fun a => a = 63) (fun a z => by unfold scr; omega) f1
    have fm : FM h (xup h1 112 0 u) := f0.up (Or.inl (by unfold scr; decide))
    have k0 : h1 66 = h 66 := f1 _ (by decide)
    obtain ⟨w1, w2⟩ := RI_rr (FM_RI v3.2 v6.2 fm ri)
    have fb : FM h (xup (xup (xup (xup (xup h1 112 0 u) 66 0 0) 69 300 ((xup h1 112 0 u) 72 k)) 70 300 ((xup h1 112 0 u) 73 k)) 71 300 ((xup h1 112 0 u) 74 k)) := (FM_u3 (FM_u3 (FM_u3 (fm.up (Or.inr ⟨rfl, by unfold mdf; decide⟩)) (Or.inl ⟨by decide, by decide⟩)) (Or.inl ⟨by decide, by decide⟩)) (Or.inl ⟨by decide, by decide⟩))
    have dq : ∀ q, (dmE S ((xup h1 112 0 u) 66 1) k) q ↔ (dmE S (h 1 1) k) q := fun q => by
      show (dmE S (h1 66 1) k) q ↔ (dmE S (h 1 1) k) q
      rw [k0, m1]
    have nq : ptN ((xup h1 112 0 u) 66 1) = ptN (h 1 1) := by
      show ptN (h1 66 1) = _
      rw [k0, m1]
    refine m_mapart0 (d + 2) 0 (xup h1 112 0 u) S T k i (h 1 2) (h 6) hk hi (by show 1 ≤ h1 66 1 ∧ h1 66 1 ≤ 3; rw [k0]; exact c8) h7r w1 w2 v2 v5 v3 v6 (by show 0 ≤ h1 66 8 ∧ h1 66 8 ≤ 300; rw [k0]; exact b8) (fun z9 => absurd (show (0 ≤ k ∧ k < h1 66 8) ∧ (0 ≤ i ∧ i ≤ 2) by rw [k0]; exact cc.mpr q) z9) (fun _ z9 => absurd z9 q7) (fun _ _ p' p0' p1' dp' pn' h2 f2 => ?_) (fun _ _ pn' h2 f2 => ?_)
    · exact absurd ((dq p').mp dp') (pn p' p0' (by rw [nq] at p1'; exact p1'))
    · exact CO_f hI (fb.tr (FM_vh f2)) (by rw [f2 _ (by decide) (by decide)]; rfl) (by rw [f2 _ (by decide) (by decide)]; rfl) rfl
theorem m_mapart1 (d b : Nat) (h S T : xH) (k i n0 : Int) (wt : Int → Int) (hk : xr k) (hi : xr i) (hm : 1 ≤ h 66 1 ∧ h 66 1 ≤ 3) (h7r : ∀ k, 0 ≤ k → k < T 0 0 → 0 ≤ T 7 k ∧ T 7 k ≤ 400000) (hR : RR h S) (hRT : RRT h T) (hF : FW n0 wt 9 S) (hT : FWT S 7 T) (h3 : 0 ≤ S 0 0 ∧ S 0 0 ≤ 300) (h4 : 0 ≤ T 0 0 ∧ T 0 0 ≤ 150) (hM : 0 ≤ h 66 19 ∧ h 66 19 ≤ 150) {Q : xO → xH → Prop} (hN : ¬ ((0 ≤ k ∧ k < h 66 19) ∧ (0 ≤ i ∧ i ≤ 2)) → Q (.inl (some (.inl 0))) (xup h 66 0 1)) (hZ : ((0 ≤ k ∧ k < h 66 19) ∧ (0 ≤ i ∧ i ≤ 2)) → T 7 k = 0 → Q (.inl (some (.inl (-100)))) (xup h 66 0 0)) (hF9 : ((0 ≤ k ∧ k < h 66 19) ∧ (0 ≤ i ∧ i ≤ 2)) → T 7 k ≠ 0 → ∀ p, 0 ≤ p → p < ptN (h 66 1) → (dmU S T (h 66 1) k) p → (∀ q, 0 ≤ q → q < p → ¬ (dmU S T (h 66 1) k) q) → ∀ h', (∀ a, a ≠ 94 → a ≠ 95 → h' a = (xup (xup (xup (xup h 66 0 0) 79 150 (h 82 k)) 80 150 (h 83 k)) 81 150 (h 84 k)) a) → Q (.inl (some (.inl (ptX (h 66 1) p i)))) h') (hG : ((0 ≤ k ∧ k < h 66 19) ∧ (0 ≤ i ∧ i ≤ 2)) → T 7 k ≠ 0 → (∀ q, 0 ≤ q → q < ptN (h 66 1) → ¬ (dmU S T (h 66 1) k) q) → ∀ h', (∀ a, a ≠ 94 → a ≠ 95 → h' a = (xup (xup (xup (xup h 66 0 0) 79 150 (h 82 k)) 80 150 (h 83 k)) 81 150 (h 84 k)) a) → Q (.inl (some (.inl (-100)))) h') : xRn G0 MT (d + 23) b 200 [.inr (.inr 66), .inl 1, .inl k, .inl i] h Q := by
  have : h 66 1 = 1 ∨ h 66 1 = 2 ∨ h 66 1 = 3 := by omega
  rcases this with e | e | e
  · rw [e] at hF9 hG
    exact m_mapart1_1 d b h S T k i n0 wt hk hi e h7r hR hRT hF hT h3 h4 hM hN hZ hF9 hG
  · rw [e] at hF9 hG
    exact m_mapart1_2 d b h S T k i n0 wt hk hi e h7r hR hRT hF hT h3 h4 hM hN hZ hF9 hG
  · rw [e] at hF9 hG
    exact m_mapart1_3 d b h S T k i n0 wt hk hi e h7r hR hRT hF hT h3 h4 hM hN hZ hF9 hG
set_option maxHeartbeats 1000000 in
theorem CO_mapart1 (d : Nat) {h : xH} (hI : Inv h) (k i : Int) (hk : xr k) (hi : xr i) : CO (d + 25) 2 119 200 [.inl 1, .inl k, .inl i] ["java/util/NoSuchElementException"] h := by
  obtain ⟨b0, b1, -, -, -, -, -, -, b9⟩ := Inv_t hI
  obtain ⟨S, T, ci, ri⟩ := Inv_i.mp hI
  obtain ⟨v1, v2, v3, v4, v5, v6⟩ := EV_ci ci
  have m1 : h 66 1 = h 1 1 := ri.1.2.1
  have c2 : 1 ≤ h 1 1 ∧ h 1 1 ≤ 3 := ci.1.2.1
  have c8 : 1 ≤ h 66 1 ∧ h 66 1 ≤ 3 := by rw [m1]; exact c2
  have b8 : 0 ≤ h 66 19 ∧ h 66 19 ≤ 150 := by rw [b1]; exact b0
  have cc : ((0 ≤ k ∧ k < h 66 19) ∧ (0 ≤ i ∧ i ≤ 2)) ↔ ((0 ≤ k ∧ k < h 28 9) ∧ (0 ≤ i ∧ i ≤ 2)) := by rw [b1]
  have h7r : ∀ k, 0 ≤ k → k < T 0 0 → 0 ≤ T 7 k ∧ T 7 k ≤ 400000 := fun k z1 z2 => by
    obtain ⟨-, -, -, -, e7, e1, e2, e3, e4, -⟩ := ci.2.2.1.2.1
    have := e7 k z1 z2
    exact ⟨by omega, by omega⟩
  refine o_mapart1 d h S T k i hk hi c2 (EV_ci ci) h7r b0 (fun q u => ?_) (fun q q7 u => ?_) (fun q q7 p p0 p1 dp pn h1 f1 u => ?_) (fun q q7 pn h1 f1 u => ?_)
  · obtain ⟨w1, w2⟩ := RI_rr (FM_RI v3.2 v6.2 ((FM.rf h).up (Or.inl (by unfold scr; decide)) : FM h (xup h 112 0 u)) ri)
    exact m_mapart1 (d + 2) 0 (xup h 112 0 u) S T k i (h 1 2) (h 6) hk hi c8 h7r w1 w2 v2 v5 v3 v6 b8 (fun _ => CO_x hI 0 rfl u 0) (fun z9 => absurd (cc.mp z9) q) (fun z9 => absurd (cc.mp z9) q) (fun z9 => absurd (cc.mp z9) q)
  · obtain ⟨w1, w2⟩ := RI_rr (FM_RI v3.2 v6.2 ((FM.rf h).up (Or.inl (by unfold scr; decide)) : FM h (xup h 112 0 u)) ri)
    exact m_mapart1 (d + 2) 0 (xup h 112 0 u) S T k i (h 1 2) (h 6) hk hi c8 h7r w1 w2 v2 v5 v3 v6 b8 (fun z9 => absurd (cc.mpr q) z9) (fun _ _ => CO_v hI u rfl) (fun _ z9 => absurd q7 z9) (fun _ z9 => absurd q7 z9)
  · have f0 : FM h h1 := FM_c (fun a => a = 63) (fun a z => by unfold scr; omega) f1
    have fm : FM h (xup h1 112 0 u) := f0.up (Or.inl (by unfold scr; decide))
    have k0 : h1 66 = h 66 := f1 _ (by decide)
    obtain ⟨w1, w2⟩ := RI_rr (FM_RI v3.2 v6.2 fm ri)
    have fb : FM h (xup (xup (xup (xup (xup h1 112 0 u) 66 0 0) 79 150 ((xup h1 112 0 u) 82 k)) 80 150 ((xup h1 112 0 u) 83 k)) 81 150 ((xup h1 112 0 u) 84 k)) := (FM_u3 (FM_u3 (FM_u3 (fm.up (Or.inr ⟨rfl, by unfold mdf; decide⟩)) (Or.inr ⟨by decide, by decide⟩)) (Or.inr ⟨by decide, by decide⟩)) (Or.inr ⟨by decide, by decide⟩))
    have dq : ∀ q, (dmU S T ((xup h1 112 0 u) 66 1) k) q ↔ (dmU S T (h 1 1) k) q := fun q => by
      show (dmU S T (h1 66 1) k) q ↔ (dmU S T (h 1 1) k) q
      rw [k0, m1]
    have nq : ptN ((xup h1 112 0 u) 66 1) = ptN (h 1 1) := by
      show ptN (h1 66 1) = _
      rw [k0, m1]
    refine m_mapart1 (d + 2) 0 (xup h1 112 0 u) S T k i (h 1 2) (h 6) hk hi (by show 1 ≤ h1 66 1 ∧ h1 66 1 ≤ 3; rw [k0]; exact c8) h7r w1 w2 v2 v5 v3 v6 (by show 0 ≤ h1 66 19 ∧ h1 66 19 ≤ 150; rw [k0]; exact b8) (fun z9 => absurd (show (0 ≤ k ∧ k < h1 66 19) ∧ (0 ≤ i ∧ i ≤ 2) by rw [k0]; exact cc.mpr q) z9) (fun _ z9 => absurd z9 q7) (fun _ _ p' p0' p1' dp' pn' h2 f2 => ?_) (fun _ _ pn' h2 f2 => ?_)
    · have e9 : p' = p := by
        rcases Int.lt_trichotomy p' p with z | z | z
        · exact absurd ((dq p').mp dp') (pn p' p0' z)
        · exact z
        · exact absurd ((dq p).mpr dp) (pn' p p0 z)
      subst e9
      refine CO_f hI (fb.tr (FM_vh f2)) (by rw [f2 _ (by decide) (by decide)]; rfl) (by rw [f2 _ (by decide) (by decide)]; rfl) ?_
      show ptX (h 1 1) p' i = ptX (h1 66 1) p' i
      rw [k0, m1]
    · exact absurd ((dq p).mpr dp) (pn' p p0 (by rw [nq]; exact p1))
  · have f0 : FM h h1 := FM_c (fun a => a = 63) (fun a z => by unfold scr; omega) f1
    have fm : FM h (xup h1 112 0 u) := f0.up (Or.inl (by unfold scr; decide))
    have k0 : h1 66 = h 66 := f1 _ (by decide)
    obtain ⟨w1, w2⟩ := RI_rr (FM_RI v3.2 v6.2 fm ri)
    have fb : FM h (xup (xup (xup (xup (xup h1 112 0 u) 66 0 0) 79 150 ((xup h1 112 0 u) 82 k)) 80 150 ((xup h1 112 0 u) 83 k)) 81 150 ((xup h1 112 0 u) 84 k)) := (FM_u3 (FM_u3 (FM_u3 (fm.up (Or.inr ⟨rfl, by unfold mdf; decide⟩)) (Or.inr ⟨by decide, by decide⟩)) (Or.inr ⟨by decide, by decide⟩)) (Or.inr ⟨by decide, by decide⟩))
    have dq : ∀ q, (dmU S T ((xup h1 112 0 u) 66 1) k) q ↔ (dmU S T (h 1 1) k) q := fun q => by
      show (dmU S T (h1 66 1) k) q ↔ (dmU S T (h 1 1) k) q
      rw [k0, m1]
    have nq : ptN ((xup h1 112 0 u) 66 1) = ptN (h 1 1) := by
      show ptN (h1 66 1) = _
      rw [k0, m1]
    refine m_mapart1 (d + 2) 0 (xup h1 112 0 u) S T k i (h 1 2) (h 6) hk hi (by show 1 ≤ h1 66 1 ∧ h1 66 1 ≤ 3; rw [k0]; exact c8) h7r w1 w2 v2 v5 v3 v6 (by show 0 ≤ h1 66 19 ∧ h1 66 19 ≤ 150; rw [k0]; exact b8) (fun z9 => absurd (show (0 ≤ k ∧ k < h1 66 19) ∧ (0 ≤ i ∧ i ≤ 2) by rw [k0]; exact cc.mpr q) z9) (fun _ z9 => absurd z9 q7) (fun _ _ p' p0' p1' dp' pn' h2 f2 => ?_) (fun _ _ pn' h2 f2 => ?_)
    · exact absurd ((dq p').mp dp') (pn p' p0' (by rw [nq] at p1'; exact p1'))
    · exact CO_f hI (fb.tr (FM_vh f2)) (by rw [f2 _ (by decide) (by decide)]; rfl) (by rw [f2 _ (by decide) (by decide)]; rfl) rfl
