theorem m_differs0 (d b : Nat) (h S T : xH) (k o n0 : Int) (wt : Int → Int) (hk : xr k) (ho : xr o) (hm : 1 ≤ h 66 1 ∧ h 66 1 ≤ 3) (hR : RR h S) (hRT : RRT h T) (hF : FW n0 wt 9 S) (hT : FWT S 7 T) (h3 : 0 ≤ S 0 0 ∧ S 0 0 ≤ 300) (h4 : 0 ≤ T 0 0 ∧ T 0 0 ≤ 150) (hM : 0 ≤ h 66 8 ∧ h 66 8 ≤ 300) {Q : xO → xH → Prop} (hN : ¬ ((0 ≤ k ∧ k < h 66 8) ∧ (0 ≤ o ∧ o < h 66 8)) → Q (.inl (some (.inl 0))) (xup h 66 0 1)) (hO : ((0 ≤ k ∧ k < h 66 8) ∧ (0 ≤ o ∧ o < h 66 8)) → ∀ h', (∀ a, a ≠ 94 → a ≠ 95 → h' a = xup h 66 0 0 a) → Q (.inl (some (.inl (cN (dfE S (h 66 1) k o) (ptN (h 66 1)).toNat)))) h') : xRn G0 MT (d + 24) b 201 [.inr (.inr 66), .inl 0, .inl k, .inl o] h Q := by
  have : h 66 1 = 1 ∨ h 66 1 = 2 ∨ h 66 1 = 3 := by omega
  rcases this with e | e | e
  · rw [e] at hO
    exact m_differs0_1 d b h S T k o n0 wt hk ho e hR hRT hF hT h3 h4 hM hN hO
  · rw [e] at hO
    exact m_differs0_2 d b h S T k o n0 wt hk ho e hR hRT hF hT h3 h4 hM hN hO
  · rw [e] at hO
    exact m_differs0_3 d b h S T k o n0 wt hk ho e hR hRT hF hT h3 h4 hM hN hO
set_option maxHeartbeats 1000000 in
theorem CO_differs0 (d : Nat) {h : xH} (hI : Inv h) (k o : Int) (hk : xr k) (ho : xr o) : CO (d + 25) 2 120 201 [.inl 0, .inl k, .inl o] ["java/util/NoSuchElementException"] h := by
  obtain ⟨b0, b1, -, -, -, -, -, -, b9⟩ := Inv_e hI
  obtain ⟨S, T, ci, ri⟩ := Inv_i.mp hI
  obtain ⟨v1, v2, v3, v4, v5, v6⟩ := EV_ci ci
  have m1 : h 66 1 = h 1 1 := ri.1.2.1
  have c2 : 1 ≤ h 1 1 ∧ h 1 1 ≤ 3 := ci.1.2.1
  have c8 : 1 ≤ h 66 1 ∧ h 66 1 ≤ 3 := by rw [m1]; exact c2
  have b8 : 0 ≤ h 66 8 ∧ h 66 8 ≤ 300 := by rw [b1]; exact b0
  have cc : ((0 ≤ k ∧ k < h 66 8) ∧ (0 ≤ o ∧ o < h 66 8)) ↔ ((0 ≤ k ∧ k < h 9 9) ∧ (0 ≤ o ∧ o < h 9 9)) := by rw [b1]
  refine o_differs0 d h S T k o hk ho c2 (EV_ci ci) b0 (fun q u => ?_) (fun q h1 f1 u => ?_)
  · obtain ⟨w1, w2⟩ := RI_rr (FM_RI v3.2 v6.2 ((FM.rf h).up (Or.inl (by unfold scr; decide)) : FM h (xup h 112 0 u)) ri)
    exact m_differs0 (d + 1) 0 (xup h 112 0 u) S T k o (h 1 2) (h 6) hk ho c8 w1 w2 v2 v5 v3 v6 b8 (fun _ => CO_x hI 0 rfl u 0) (fun z9 => absurd (cc.mp z9) q)
  · have f0 : FM h h1 := FM_c (fun a => a = 63) (fun a z => by unfold scr; omega) f1
    have fm : FM h (xup h1 112 0 u) := f0.up (Or.inl (by unfold scr; decide))
    have k0 : h1 66 = h 66 := f1 _ (by decide)
    obtain ⟨w1, w2⟩ := RI_rr (FM_RI v3.2 v6.2 fm ri)
    refine m_differs0 (d + 1) 0 (xup h1 112 0 u) S T k o (h 1 2) (h 6) hk ho (by show 1 ≤ h1 66 1 ∧ h1 66 1 ≤ 3; rw [k0]; exact c8) w1 w2 v2 v5 v3 v6 (by show 0 ≤ h1 66 8 ∧ h1 66 8 ≤ 300; rw [k0]; exact b8) (fun z9 => absurd (show (0 ≤ k ∧ k < h1 66 8) ∧ (0 ≤ o ∧ o < h1 66 8) by rw [k0]; exact cc.mpr q) z9) (fun _ h2 f2 => CO_f hI ((fm.up (Or.inr ⟨rfl, by unfold mdf; decide⟩)).tr (FM_vh f2)) (by rw [f2 _ (by decide) (by decide)]; rfl) (by rw [f2 _ (by decide) (by decide)]; rfl) ?_)
    show cN (dfE S (h 1 1) k o) (ptN (h 1 1)).toNat = cN (dfE S (h1 66 1) k o) (ptN (h1 66 1)).toNat
    rw [k0, m1]
theorem m_differs1 (d b : Nat) (h S T : xH) (k o n0 : Int) (wt : Int → Int) (hk : xr k) (ho : xr o) (hm : 1 ≤ h 66 1 ∧ h 66 1 ≤ 3) (hR : RR h S) (hRT : RRT h T) (hF : FW n0 wt 9 S) (hT : FWT S 7 T) (h3 : 0 ≤ S 0 0 ∧ S 0 0 ≤ 300) (h4 : 0 ≤ T 0 0 ∧ T 0 0 ≤ 150) (hM : 0 ≤ h 66 19 ∧ h 66 19 ≤ 150) {Q : xO → xH → Prop} (hN : ¬ ((0 ≤ k ∧ k < h 66 19) ∧ (0 ≤ o ∧ o < h 66 19)) → Q (.inl (some (.inl 0))) (xup h 66 0 1)) (hO : ((0 ≤ k ∧ k < h 66 19) ∧ (0 ≤ o ∧ o < h 66 19)) → ∀ h', (∀ a, a ≠ 94 → a ≠ 95 → h' a = xup h 66 0 0 a) → Q (.inl (some (.inl (cN (dfU S T (h 66 1) k o) (ptN (h 66 1)).toNat)))) h') : xRn G0 MT (d + 24) b 201 [.inr (.inr 66), .inl 1, .inl k, .inl o] h Q := by
  have : h 66 1 = 1 ∨ h 66 1 = 2 ∨ h 66 1 = 3 := by omega
  rcases this with e | e | e
  · rw [e] at hO
    exact m_differs1_1 d b h S T k o n0 wt hk ho e hR hRT hF hT h3 h4 hM hN hO
  · rw [e] at hO
    exact m_differs1_2 d b h S T k o n0 wt hk ho e hR hRT hF hT h3 h4 hM hN hO
  · rw [e] at hO
    exact m_differs1_3 d b h S T k o n0 wt hk ho e hR hRT hF hT h3 h4 hM hN hO
set_option maxHeartbeats 1000000 in
theorem CO_differs1 (d : Nat) {h : xH} (hI : Inv h) (k o : Int) (hk : xr k) (ho : xr o) : CO (d + 25) 2 120 201 [.inl 1, .inl k, .inl o] ["java/util/NoSuchElementException"] h := by
  obtain ⟨b0, b1, -, -, -, -, -, -, b9⟩ := Inv_t hI
  obtain ⟨S, T, ci, ri⟩ := Inv_i.mp hI
  obtain ⟨v1, v2, v3, v4, v5, v6⟩ := EV_ci ci
  have m1 : h 66 1 = h 1 1 := ri.1.2.1
  have c2 : 1 ≤ h 1 1 ∧ h 1 1 ≤ 3 := ci.1.2.1
  have c8 : 1 ≤ h 66 1 ∧ h 66 1 ≤ 3 := by rw [m1]; exact c2
  have b8 : 0 ≤ h 66 19 ∧ h 66 19 ≤ 150 := by rw [b1]; exact b0
  have cc : ((0 ≤ k ∧ k < h 66 19) ∧ (0 ≤ o ∧ o < h 66 19)) ↔ ((0 ≤ k ∧ k < h 28 9) ∧ (0 ≤ o ∧ o < h 28 9)) := by rw [b1]
  refine o_differs1 d h S T k o hk ho c2 (EV_ci ci) b0 (fun q u => ?_) (fun q h1 f1 u => ?_)
  · obtain ⟨w1, w2⟩ := RI_rr (FM_RI v3.2 v6.2 ((FM.rf h).up (Or.inl (by unfold scr; decide)) : FM h (xup h 112 0 u)) ri)
    exact m_differs1 (d + 1) 0 (xup h 112 0 u) S T k o (h 1 2) (h 6) hk ho c8 w1 w2 v2 v5 v3 v6 b8 (fun _ => CO_x hI 0 rfl u 0) (fun z9 => absurd (cc.mp z9) q)
  · have f0 : FM h h1 := FM_c (fun a => a = 63) (fun a z => by unfold scr; omega) f1
    have fm : FM h (xup h1 112 0 u) := f0.up (Or.inl (by unfold scr; decide))
    have k0 : h1 66 = h 66 := f1 _ (by decide)
    obtain ⟨w1, w2⟩ := RI_rr (FM_RI v3.2 v6.2 fm ri)
    refine m_differs1 (d + 1) 0 (xup h1 112 0 u) S T k o (h 1 2) (h 6) hk ho (by show 1 ≤ h1 66 1 ∧ h1 66 1 ≤ 3; rw [k0]; exact c8) w1 w2 v2 v5 v3 v6 (by show 0 ≤ h1 66 19 ∧ h1 66 19 ≤ 150; rw [k0]; exact b8) (fun z9 => absurd (show (0 ≤ k ∧ k < h1 66 19) ∧ (0 ≤ o ∧ o < h1 66 19) by rw [k0]; exact cc.mpr q) z9) (fun _ h2 f2 => CO_f hI ((fm.up (Or.inr ⟨rfl, by unfold mdf; decide⟩)).tr (FM_vh f2)) (by rw [f2 _ (by decide) (by decide)]; rfl) (by rw [f2 _ (by decide) (by decide)]; rfl) ?_)
    show cN (dfU S T (h 1 1) k o) (ptN (h 1 1)).toNat = cN (dfU S T (h1 66 1) k o) (ptN (h1 66 1)).toNat
    rw [k0, m1]
