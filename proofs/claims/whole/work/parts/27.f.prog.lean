theorem m_apart (d b : Nat) (h S T : xH) (as le : Int → Int) (k i n0 : Int) (wt : Int → Int) (hk : xr k) (hi : xr i) (hm : 1 ≤ h 66 1 ∧ h 66 1 ≤ 3) (hR : RR h S) (hRT : RRT h T) (hF : FW n0 wt 9 S) (hT : FWT S 7 T) (h3 : 0 ≤ S 0 0 ∧ S 0 0 ≤ 300) (h4 : 0 ≤ T 0 0 ∧ T 0 0 ≤ 150)  (hs : h 66 50 = 0 ∨ h 66 50 = 1) (tn : h 66 50 = 1 → TN h as le) (hr : h 66 50 = 1 → ∀ nd, 0 ≤ nd → nd < 15 → -1 ≤ as nd ∧ as nd < T 0 0 ∧ -1 ≤ le nd ∧ le nd < S 0 0) (tr : h 66 50 = 1 → TRp as le S T 3 0) (hM : 0 ≤ h 66 8 ∧ h 66 8 ≤ 300) {Q : xO → xH → Prop} (hN : ¬ (h 66 50 = 1) → Q (.inl (some (.inl (0)))) (xup h 66 0 1)) (hA : (h 66 50 = 1) → ¬ ((0 ≤ k ∧ k < h 66 8) ∧ (0 ≤ i ∧ i ≤ 2)) → Q (.inl (some (.inl (0)))) (xup h 66 0 2)) (hF9 : (h 66 50 = 1) → ((0 ≤ k ∧ k < h 66 8) ∧ (0 ≤ i ∧ i ≤ 2)) → ∀ p, 0 ≤ p → p < ptN (h 66 1) → (daE as le S T (h 66 1) k) p → (∀ q, 0 ≤ q → q < p → ¬ (daE as le S T (h 66 1) k) q) → ∀ h', (∀ a, a ≠ 94 → a ≠ 95 → h' a = ((xup h 66 0 0)) a) → Q (.inl (some (.inl (ptX (h 66 1) p i)))) h') (hG : (h 66 50 = 1) → ((0 ≤ k ∧ k < h 66 8) ∧ (0 ≤ i ∧ i ≤ 2)) → (∀ q, 0 ≤ q → q < ptN (h 66 1) → ¬ (daE as le S T (h 66 1) k) q) → ∀ h', (∀ a, a ≠ 94 → a ≠ 95 → h' a = ((xup h 66 0 0)) a) → Q (.inl (some (.inl (-100)))) h') : xRn G0 MT (d + 6) b 245 [.inr (.inr 66), .inl k, .inl i] h Q := by
  have : h 66 1 = 1 ∨ h 66 1 = 2 ∨ h 66 1 = 3 := by omega
  rcases this with e | e | e
  · rw [e] at hF9 hG
    exact m_apart_1 d b h S T as le k i n0 wt hk hi e hR hRT hF hT h3 h4 hs tn hr tr hM hN hA hF9 hG
  · rw [e] at hF9 hG
    exact m_apart_2 d b h S T as le k i n0 wt hk hi e hR hRT hF hT h3 h4 hs tn hr tr hM hN hA hF9 hG
  · rw [e] at hF9 hG
    exact m_apart_3 d b h S T as le k i n0 wt hk hi e hR hRT hF hT h3 h4 hs tn hr tr hM hN hA hF9 hG
/-- of a PROGRAM that stands: the class's tree, and the reference's beside it -/
theorem Inv_p {h g S T : xH} (c : CP h S T) (d : DP h g) : (h 56 4 = 0 ∨ h 56 4 = 1) ∧ g 66 50 = h 56 4 ∧ (h 56 4 = 1 → TRp (h 57) (h 58) S T 3 0) ∧ (h 56 4 = 1 → ∀ nd, 0 ≤ nd → nd < 15 → -1 ≤ h 57 nd ∧ h 57 nd < T 0 0 ∧ -1 ≤ h 58 nd ∧ h 58 nd < S 0 0) ∧ (h 56 4 = 1 → TN g (h 57) (h 58)) ∧ (h 56 4 = 1 → ∀ nd, 0 ≤ nd → nd < 15 → (h 57 nd = -1 ∨ h 58 nd = -1) ∧ (7 ≤ nd → h 57 nd = -1)) ∧ (h 56 4 = 1 → g 66 60 = h 56 5) := by
  refine ⟨c.1, d.1, fun q => (c.2 q).1, fun q => (c.2 q).2.2.2.1, fun q n z1 z2 => ?_, fun q => (c.2 q).2.2.2.2, fun q => (d.2 q).1⟩
  have := (d.2 q).2.2.1 (n - 1) (by omega) (by omega)
  rw [show n - 1 + 1 = n by omega] at this
  exact this
set_option maxHeartbeats 1000000 in
theorem CO_solved (d : Nat) {h : xH} (hI : Inv h) (w : Int) (hw : xr w) : CO (d + 8) 2 123 240 [.inl w] ["java/lang/IllegalStateException", "java/util/NoSuchElementException"] h := by
  obtain ⟨S, T, ci, ri⟩ := Inv_i.mp hI
  obtain ⟨v1, v2, v3, v4, v5, v6⟩ := EV_ci ci
  have m1 : h 66 1 = h 1 1 := ri.1.2.1
  have c2 : 1 ≤ h 1 1 ∧ h 1 1 ≤ 3 := ci.1.2.1
  have c8 : 1 ≤ h 66 1 ∧ h 66 1 ≤ 3 := by rw [m1]; exact c2
  have fu : ∀ u, FM h (xup h 112 0 u) := fun u => (FM.rf h).up (Or.inl (by unfold scr; decide))
  have ww : ∀ g, FM h g → RR g S ∧ RRT g T := fun g f => RI_rr (FM_RI v3.2 v6.2 f ri)
  have pp : ∀ g, FM h g → _ := fun g f => Inv_p ci.2.2.2.1 (FM_RI v3.2 v6.2 f ri).2.2.2.1
  obtain ⟨p1, p2, p3, p4, p5, p6, p7⟩ := pp h (FM.rf h)
  have so : h 66 50 = 0 ∨ h 66 50 = 1 := by rw [p2]; exact p1
  have sq : h 66 50 = 1 ↔ h 56 4 = 1 := by rw [p2]
  refine o_solved (d + 5) h S T w hw v3.2 v6.2 p1 p4 p3 (fun q u => ?_) (fun q q2 u => ?_) (fun q q2 u => ?_) (fun q q2 u => ?_) (fun q q2 u => ?_) (fun q q2 u => ?_) (fun q q2 u => ?_) (fun q q2 u => ?_)
  · exact m_solved (d + 4) 0 (xup h 112 0 u) S T (h 57) (h 58) w hw v3.2 v6.2 so (fun z9 => (pp _ (fu u)).2.2.2.2.1 (sq.mp z9)) (fun z9 => p4 (sq.mp z9)) (fun z9 => p3 (sq.mp z9)) (fun z9 nd y1 y2 y3 => (p6 (sq.mp z9) nd y1 y2).2 y3) (fun _ => CO_x hI 0 rfl u 0) (fun z9 => absurd (sq.mp z9) q) (fun z9 => absurd (sq.mp z9) q)
  · exact m_solved (d + 4) 0 (xup h 112 0 u) S T (h 57) (h 58) w hw v3.2 v6.2 so (fun z9 => (pp _ (fu u)).2.2.2.2.1 (sq.mp z9)) (fun z9 => p4 (sq.mp z9)) (fun z9 => p3 (sq.mp z9)) (fun z9 nd y1 y2 y3 => (p6 (sq.mp z9) nd y1 y2).2 y3) (fun z9 => absurd (sq.mpr q) z9) (fun _ _ => CO_x hI 1 rfl u 0) (fun _ r z9 => absurd (show 0 ≤ w ∧ w ≤ 5 by unfold slv at z9; omega) q2)
  · exact m_solved (d + 4) 0 (xup h 112 0 u) S T (h 57) (h 58) w hw v3.2 v6.2 so (fun z9 => (pp _ (fu u)).2.2.2.2.1 (sq.mp z9)) (fun z9 => p4 (sq.mp z9)) (fun z9 => p3 (sq.mp z9)) (fun z9 nd y1 y2 y3 => (p6 (sq.mp z9) nd y1 y2).2 y3) (fun z9 => absurd (sq.mpr q) z9) (fun _ z9 => absurd (show 0 ≤ w ∧ w ≤ 5 by omega) z9) (fun _ r z9 => CO_v hI u (by
      rcases z9 with ⟨y, e9⟩ | ⟨y, e9⟩ | ⟨y, e9⟩ | ⟨y, e9⟩ | ⟨y, e9⟩ | ⟨y, e9⟩
      · rw [e9]; exact (p7 q).symm
      · omega
      · omega
      · omega
      · omega
      · omega))
  · exact m_solved (d + 4) 0 (xup h 112 0 u) S T (h 57) (h 58) w hw v3.2 v6.2 so (fun z9 => (pp _ (fu u)).2.2.2.2.1 (sq.mp z9)) (fun z9 => p4 (sq.mp z9)) (fun z9 => p3 (sq.mp z9)) (fun z9 nd y1 y2 y3 => (p6 (sq.mp z9) nd y1 y2).2 y3) (fun z9 => absurd (sq.mpr q) z9) (fun _ z9 => absurd (show 0 ≤ w ∧ w ≤ 5 by omega) z9) (fun _ r z9 => CO_v hI u (by
      rcases z9 with ⟨y, e9⟩ | ⟨y, e9⟩ | ⟨y, e9⟩ | ⟨y, e9⟩ | ⟨y, e9⟩ | ⟨y, e9⟩
      · omega
      · rw [e9]
      · omega
      · omega
      · omega
      · omega))
  · exact m_solved (d + 4) 0 (xup h 112 0 u) S T (h 57) (h 58) w hw v3.2 v6.2 so (fun z9 => (pp _ (fu u)).2.2.2.2.1 (sq.mp z9)) (fun z9 => p4 (sq.mp z9)) (fun z9 => p3 (sq.mp z9)) (fun z9 nd y1 y2 y3 => (p6 (sq.mp z9) nd y1 y2).2 y3) (fun z9 => absurd (sq.mpr q) z9) (fun _ z9 => absurd (show 0 ≤ w ∧ w ≤ 5 by omega) z9) (fun _ r z9 => CO_v hI u (by
      rcases z9 with ⟨y, e9⟩ | ⟨y, e9⟩ | ⟨y, e9⟩ | ⟨y, e9⟩ | ⟨y, e9⟩ | ⟨y, e9⟩
      · omega
      · omega
      · rw [e9]
      · omega
      · omega
      · omega))
  · exact m_solved (d + 4) 0 (xup h 112 0 u) S T (h 57) (h 58) w hw v3.2 v6.2 so (fun z9 => (pp _ (fu u)).2.2.2.2.1 (sq.mp z9)) (fun z9 => p4 (sq.mp z9)) (fun z9 => p3 (sq.mp z9)) (fun z9 nd y1 y2 y3 => (p6 (sq.mp z9) nd y1 y2).2 y3) (fun z9 => absurd (sq.mpr q) z9) (fun _ z9 => absurd (show 0 ≤ w ∧ w ≤ 5 by omega) z9) (fun _ r z9 => CO_v hI u (by
      rcases z9 with ⟨y, e9⟩ | ⟨y, e9⟩ | ⟨y, e9⟩ | ⟨y, e9⟩ | ⟨y, e9⟩ | ⟨y, e9⟩
      · omega
      · omega
      · omega
      · rw [e9]
      · omega
      · omega))
  · exact m_solved (d + 4) 0 (xup h 112 0 u) S T (h 57) (h 58) w hw v3.2 v6.2 so (fun z9 => (pp _ (fu u)).2.2.2.2.1 (sq.mp z9)) (fun z9 => p4 (sq.mp z9)) (fun z9 => p3 (sq.mp z9)) (fun z9 nd y1 y2 y3 => (p6 (sq.mp z9) nd y1 y2).2 y3) (fun z9 => absurd (sq.mpr q) z9) (fun _ z9 => absurd (show 0 ≤ w ∧ w ≤ 5 by omega) z9) (fun _ r z9 => CO_v hI u (by
      rcases z9 with ⟨y, e9⟩ | ⟨y, e9⟩ | ⟨y, e9⟩ | ⟨y, e9⟩ | ⟨y, e9⟩ | ⟨y, e9⟩
      · omega
      · omega
      · omega
      · omega
      · rw [e9]
      · omega))
  · exact m_solved (d + 4) 0 (xup h 112 0 u) S T (h 57) (h 58) w hw v3.2 v6.2 so (fun z9 => (pp _ (fu u)).2.2.2.2.1 (sq.mp z9)) (fun z9 => p4 (sq.mp z9)) (fun z9 => p3 (sq.mp z9)) (fun z9 nd y1 y2 y3 => (p6 (sq.mp z9) nd y1 y2).2 y3) (fun z9 => absurd (sq.mpr q) z9) (fun _ z9 => absurd (show 0 ≤ w ∧ w ≤ 5 by omega) z9) (fun _ r z9 => CO_v hI u (by
      rcases z9 with ⟨y, e9⟩ | ⟨y, e9⟩ | ⟨y, e9⟩ | ⟨y, e9⟩ | ⟨y, e9⟩ | ⟨y, e9⟩
      · omega
      · omega
      · omega
      · omega
      · omega
      · rw [e9]))
set_option maxHeartbeats 1000000 in
theorem CO_comes (d : Nat) {h : xH} (hI : Inv h) (x y z : Int) (hx : xr x) (hy : xr y) (hz : xr z) : CO (d + 26) 2 124 242 [.inl x, .inl y, .inl z] ["java/lang/IllegalStateException", "java/lang/IllegalArgumentException"] h := by
  obtain ⟨S, T, ci, ri⟩ := Inv_i.mp hI
  obtain ⟨v1, v2, v3, v4, v5, v6⟩ := EV_ci ci
  have m1 : h 66 1 = h 1 1 := ri.1.2.1
  have c2 : 1 ≤ h 1 1 ∧ h 1 1 ≤ 3 := ci.1.2.1
  have c8 : 1 ≤ h 66 1 ∧ h 66 1 ≤ 3 := by rw [m1]; exact c2
  have fu : ∀ u, FM h (xup h 112 0 u) := fun u => (FM.rf h).up (Or.inl (by unfold scr; decide))
  have ww : ∀ g, FM h g → RR g S ∧ RRT g T := fun g f => RI_rr (FM_RI v3.2 v6.2 f ri)
  have pp : ∀ g, FM h g → _ := fun g f => Inv_p ci.2.2.2.1 (FM_RI v3.2 v6.2 f ri).2.2.2.1
  obtain ⟨p1, p2, p3, p4, p5, p6, p7⟩ := pp h (FM.rf h)
  have so : h 66 50 = 0 ∨ h 66 50 = 1 := by rw [p2]; exact p1
  have sq : h 66 50 = 1 ↔ h 56 4 = 1 := by rw [p2]
  have cc : inOk (h 66 1) x y z ↔ inOk (h 1 1) x y z := by rw [m1]
  refine o_comes (d + 1) h S T x y z hx hy hz c2 (EV_ci ci) p1 p4 p3 (fun q u => ?_) (fun q q2 u => ?_) (fun q q2 v hv u => ?_)
  · exact m_comes (d + 20) 0 (xup h 112 0 u) S T (h 57) (h 58) x y z (h 1 2) (h 6) hx hy hz c8 (ww _ (fu u)).1 (ww _ (fu u)).2 v2 v5 v3 v6 so (fun z9 => (pp _ (fu u)).2.2.2.2.1 (sq.mp z9)) (fun z9 => p4 (sq.mp z9)) (fun z9 => p3 (sq.mp z9)) (fun _ => CO_x hI 0 rfl u 0) (fun z9 => absurd (sq.mp z9) q) (fun z9 => absurd (sq.mp z9) q)
  · exact m_comes (d + 20) 0 (xup h 112 0 u) S T (h 57) (h 58) x y z (h 1 2) (h 6) hx hy hz c8 (ww _ (fu u)).1 (ww _ (fu u)).2 v2 v5 v3 v6 so (fun z9 => (pp _ (fu u)).2.2.2.2.1 (sq.mp z9)) (fun z9 => p4 (sq.mp z9)) (fun z9 => p3 (sq.mp z9)) (fun z9 => absurd (sq.mpr q) z9) (fun _ _ => CO_x hI 1 rfl u 0) (fun _ z9 => absurd (cc.mp z9) q2)
  · have fm : FM h (xup (xup (xup (xup h 63 0 x) 63 1 y) 63 2 z) 112 0 u) := ((((FM.rf h).up (Or.inl (by unfold scr; decide))).up (Or.inl (by unfold scr; decide))).up (Or.inl (by unfold scr; decide))).up (Or.inl (by unfold scr; decide))
    exact m_comes (d + 20) 0 (xup (xup (xup (xup h 63 0 x) 63 1 y) 63 2 z) 112 0 u) S T (h 57) (h 58) x y z (h 1 2) (h 6) hx hy hz c8 (ww _ fm).1 (ww _ fm).2 v2 v5 v3 v6 so (fun z9 => (pp _ fm).2.2.2.2.1 (sq.mp z9)) (fun z9 => p4 (sq.mp z9)) (fun z9 => p3 (sq.mp z9)) (fun z9 => absurd (sq.mpr q) z9) (fun _ z9 => absurd (cc.mpr q2) z9) (fun _ _ h2 f2 => CO_w hI ((fm.up (Or.inr ⟨rfl, by unfold mdf; decide⟩)).tr (FM_vh f2)) (by rw [f2 _ (by decide) (by decide)]; rfl) (by rw [f2 _ (by decide) (by decide)]; rfl) hv)
set_option maxHeartbeats 1000000 in
theorem CO_way (d : Nat) {h : xH} (hI : Inv h) (x y z k : Int) (hx : xr x) (hy : xr y) (hz : xr z) (hk : xr k) : CO (d + 26) 2 132 238 [.inl x, .inl y, .inl z, .inl k] ["java/lang/IllegalStateException", "java/lang/IllegalArgumentException"] h := by
  obtain ⟨S, T, ci, ri⟩ := Inv_i.mp hI
  obtain ⟨v1, v2, v3, v4, v5, v6⟩ := EV_ci ci
  have m1 : h 66 1 = h 1 1 := ri.1.2.1
  have c2 : 1 ≤ h 1 1 ∧ h 1 1 ≤ 3 := ci.1.2.1
  have c8 : 1 ≤ h 66 1 ∧ h 66 1 ≤ 3 := by rw [m1]; exact c2
  have fu : ∀ u, FM h (xup h 112 0 u) := fun u => (FM.rf h).up (Or.inl (by unfold scr; decide))
  have ww : ∀ g, FM h g → RR g S ∧ RRT g T := fun g f => RI_rr (FM_RI v3.2 v6.2 f ri)
  have pp : ∀ g, FM h g → _ := fun g f => Inv_p ci.2.2.2.1 (FM_RI v3.2 v6.2 f ri).2.2.2.1
  obtain ⟨p1, p2, p3, p4, p5, p6, p7⟩ := pp h (FM.rf h)
  have so : h 66 50 = 0 ∨ h 66 50 = 1 := by rw [p2]; exact p1
  have sq : h 66 50 = 1 ↔ h 56 4 = 1 := by rw [p2]
  have cc : inOk (h 66 1) x y z ↔ inOk (h 1 1) x y z := by rw [m1]
  refine o_way (d + 1) h S T x y z k hx hy hz hk c2 (EV_ci ci) p1 p4 p3 (fun q u => ?_) (fun q q2 u => ?_) (fun q q2 u => ?_)
  · exact m_way (d + 20) 0 (xup h 112 0 u) S T (h 57) (h 58) x y z k (h 1 2) (h 6) hx hy hz hk c8 (ww _ (fu u)).1 (ww _ (fu u)).2 v2 v5 v3 v6 so (fun z9 => (pp _ (fu u)).2.2.2.2.1 (sq.mp z9)) (fun z9 => p4 (sq.mp z9)) (fun z9 => p3 (sq.mp z9)) (fun _ => CO_x hI 0 rfl u 0) (fun z9 => absurd (sq.mp z9) q) (fun z9 => absurd (sq.mp z9) q)
  · exact m_way (d + 20) 0 (xup h 112 0 u) S T (h 57) (h 58) x y z k (h 1 2) (h 6) hx hy hz hk c8 (ww _ (fu u)).1 (ww _ (fu u)).2 v2 v5 v3 v6 so (fun z9 => (pp _ (fu u)).2.2.2.2.1 (sq.mp z9)) (fun z9 => p4 (sq.mp z9)) (fun z9 => p3 (sq.mp z9)) (fun z9 => absurd (sq.mpr q) z9) (fun _ _ => CO_x hI 1 rfl u 0) (fun _ z9 => absurd (cc.mp z9) q2)
  · have fm : FM h (xup (xup (xup (xup h 63 0 x) 63 1 y) 63 2 z) 112 0 u) := ((((FM.rf h).up (Or.inl (by unfold scr; decide))).up (Or.inl (by unfold scr; decide))).up (Or.inl (by unfold scr; decide))).up (Or.inl (by unfold scr; decide))
    exact m_way (d + 20) 0 (xup (xup (xup (xup h 63 0 x) 63 1 y) 63 2 z) 112 0 u) S T (h 57) (h 58) x y z k (h 1 2) (h 6) hx hy hz hk c8 (ww _ fm).1 (ww _ fm).2 v2 v5 v3 v6 so (fun z9 => (pp _ fm).2.2.2.2.1 (sq.mp z9)) (fun z9 => p4 (sq.mp z9)) (fun z9 => p3 (sq.mp z9)) (fun z9 => absurd (sq.mpr q) z9) (fun _ z9 => absurd (cc.mpr q2) z9) (fun _ _ h2 f2 => CO_f hI ((fm.up (Or.inr ⟨rfl, by unfold mdf; decide⟩)).tr (FM_vh f2)) (by rw [f2 _ (by decide) (by decide)]; rfl) (by rw [f2 _ (by decide) (by decide)]; rfl) rfl)
set_option maxHeartbeats 1000000 in
theorem CO_leaf (d : Nat) {h : xH} (hI : Inv h) (e : Int) (he : xr e) : CO (d + 8) 2 126 244 [.inl e] ["java/lang/IllegalStateException", "java/util/NoSuchElementException"] h := by
  obtain ⟨S, T, ci, ri⟩ := Inv_i.mp hI
  obtain ⟨v1, v2, v3, v4, v5, v6⟩ := EV_ci ci
  have m1 : h 66 1 = h 1 1 := ri.1.2.1
  have c2 : 1 ≤ h 1 1 ∧ h 1 1 ≤ 3 := ci.1.2.1
  have c8 : 1 ≤ h 66 1 ∧ h 66 1 ≤ 3 := by rw [m1]; exact c2
  have fu : ∀ u, FM h (xup h 112 0 u) := fun u => (FM.rf h).up (Or.inl (by unfold scr; decide))
  have ww : ∀ g, FM h g → RR g S ∧ RRT g T := fun g f => RI_rr (FM_RI v3.2 v6.2 f ri)
  have pp : ∀ g, FM h g → _ := fun g f => Inv_p ci.2.2.2.1 (FM_RI v3.2 v6.2 f ri).2.2.2.1
  obtain ⟨p1, p2, p3, p4, p5, p6, p7⟩ := pp h (FM.rf h)
  have so : h 66 50 = 0 ∨ h 66 50 = 1 := by rw [p2]; exact p1
  have sq : h 66 50 = 1 ↔ h 56 4 = 1 := by rw [p2]
  have n1 : 0 ≤ h 1 2 ∧ h 1 2 ≤ 12 := ci.1.1
  have m4 : h 66 4 = h 1 2 := ri.1.1
  have n8 : 0 ≤ h 66 4 ∧ h 66 4 ≤ 12 := by rw [m4]; exact n1
  have cc : (0 ≤ e ∧ e < h 66 4) ↔ (0 ≤ e ∧ e < h 1 2) := by rw [m4]
  have b6 : ∀ t, 0 ≤ t → t < T 0 0 → 0 ≤ T 6 t ∧ T 6 t < 4096 := fun t z1 z2 => by
    have := ci.2.2.1.2.1.2.2.1 t z1 z2
    have := pw31 n1.2
    omega
  refine o_leaf (d + 5) h S T e he n1 v6.2 p1 p4 p3 (fun q u => ?_) (fun q q2 u => ?_) (fun q q2 u => ?_)
  · exact m_leaf (d + 4) 0 (xup h 112 0 u) S T (h 57) (h 58) e he n8 (ww _ (fu u)).2 b6 v3 v6 so (fun z9 => (pp _ (fu u)).2.2.2.2.1 (sq.mp z9)) (fun z9 => p4 (sq.mp z9)) (fun z9 => p3 (sq.mp z9)) (fun _ => CO_x hI 0 rfl u 0) (fun z9 => absurd (sq.mp z9) q) (fun z9 => absurd (sq.mp z9) q)
  · exact m_leaf (d + 4) 0 (xup h 112 0 u) S T (h 57) (h 58) e he n8 (ww _ (fu u)).2 b6 v3 v6 so (fun z9 => (pp _ (fu u)).2.2.2.2.1 (sq.mp z9)) (fun z9 => p4 (sq.mp z9)) (fun z9 => p3 (sq.mp z9)) (fun z9 => absurd (sq.mpr q) z9) (fun _ _ => CO_x hI 1 rfl u 0) (fun _ z9 => absurd (cc.mp z9) q2)
  · exact m_leaf (d + 4) 0 (xup h 112 0 u) S T (h 57) (h 58) e he n8 (ww _ (fu u)).2 b6 v3 v6 so (fun z9 => (pp _ (fu u)).2.2.2.2.1 (sq.mp z9)) (fun z9 => p4 (sq.mp z9)) (fun z9 => p3 (sq.mp z9)) (fun z9 => absurd (sq.mpr q) z9) (fun _ z9 => absurd (cc.mpr q2) z9) (fun _ _ => CO_v hI u (by
      rw [wlk_f (f := fun t => xand (xshr (h 39 t) e) 1) (g := fun t => xand (xshr (T 6 t) e) 1) (fun t z1 z2 => by
        show xand (xshr (h 39 t) e) 1 = xand (xshr (T 6 t) e) 1
        rw [(v4.2.2.2.2.2.2.1 t z1 z2).2.2.2.2.1]) 3 0 (p3 q)]))
set_option maxHeartbeats 1000000 in
theorem CO_solvedUses (d : Nat) {h : xH} (hI : Inv h) (p : Int) (hp : xr p) : CO (d + 8) 2 131 237 [.inl p] ["java/lang/IllegalStateException", "java/lang/IllegalArgumentException"] h := by
  obtain ⟨S, T, ci, ri⟩ := Inv_i.mp hI
  obtain ⟨v1, v2, v3, v4, v5, v6⟩ := EV_ci ci
  have m1 : h 66 1 = h 1 1 := ri.1.2.1
  have c2 : 1 ≤ h 1 1 ∧ h 1 1 ≤ 3 := ci.1.2.1
  have c8 : 1 ≤ h 66 1 ∧ h 66 1 ≤ 3 := by rw [m1]; exact c2
  have fu : ∀ u, FM h (xup h 112 0 u) := fun u => (FM.rf h).up (Or.inl (by unfold scr; decide))
  have ww : ∀ g, FM h g → RR g S ∧ RRT g T := fun g f => RI_rr (FM_RI v3.2 v6.2 f ri)
  have pp : ∀ g, FM h g → _ := fun g f => Inv_p ci.2.2.2.1 (FM_RI v3.2 v6.2 f ri).2.2.2.1
  obtain ⟨p1, p2, p3, p4, p5, p6, p7⟩ := pp h (FM.rf h)
  have so : h 66 50 = 0 ∨ h 66 50 = 1 := by rw [p2]; exact p1
  have sq : h 66 50 = 1 ↔ h 56 4 = 1 := by rw [p2]
  refine o_solvedUses (d + 5) h S T p (h 1 2) (h 6) hp v1 v4 v2 v5 v3.2 v6.2 p1 p4 p3 (fun q u => ?_) (fun q q2 u => ?_) (fun q q2 u => ?_)
  · exact m_solvedUses (d + 4) 0 (xup h 112 0 u) S T (h 57) (h 58) p (h 1 2) (h 6) hp (ww _ (fu u)).1 (ww _ (fu u)).2 v2 v5 v3 v6 so (fun z9 => (pp _ (fu u)).2.2.2.2.1 (sq.mp z9)) (fun z9 => p4 (sq.mp z9)) (fun z9 => p3 (sq.mp z9)) (fun z9 nd y1 y2 => (p6 (sq.mp z9) nd y1 y2).1) (fun _ => CO_x hI 0 rfl u 0) (fun z9 => absurd (sq.mp z9) q) (fun z9 => absurd (sq.mp z9) q)
  · exact m_solvedUses (d + 4) 0 (xup h 112 0 u) S T (h 57) (h 58) p (h 1 2) (h 6) hp (ww _ (fu u)).1 (ww _ (fu u)).2 v2 v5 v3 v6 so (fun z9 => (pp _ (fu u)).2.2.2.2.1 (sq.mp z9)) (fun z9 => p4 (sq.mp z9)) (fun z9 => p3 (sq.mp z9)) (fun z9 nd y1 y2 => (p6 (sq.mp z9) nd y1 y2).1) (fun z9 => absurd (sq.mpr q) z9) (fun _ _ => CO_x hI 1 rfl u 0) (fun _ z9 => absurd z9 q2)
  · exact m_solvedUses (d + 4) 0 (xup h 112 0 u) S T (h 57) (h 58) p (h 1 2) (h 6) hp (ww _ (fu u)).1 (ww _ (fu u)).2 v2 v5 v3 v6 so (fun z9 => (pp _ (fu u)).2.2.2.2.1 (sq.mp z9)) (fun z9 => p4 (sq.mp z9)) (fun z9 => p3 (sq.mp z9)) (fun z9 nd y1 y2 => (p6 (sq.mp z9) nd y1 y2).1) (fun z9 => absurd (sq.mpr q) z9) (fun _ z9 => absurd q2 z9) (fun _ _ h2 f2 => CO_f hI (((fu u).up (Or.inr ⟨rfl, by unfold mdf; decide⟩)).tr (FM_st f2)) (by rw [f2 _ (by decide) (by decide)]; rfl) (by rw [f2 _ (by decide) (by decide)]; rfl) rfl)
set_option maxHeartbeats 1000000 in
theorem CO_apart (d : Nat) {h : xH} (hI : Inv h) (k i : Int) (hk : xr k) (hi : xr i) : CO (d + 26) 3 127 245 [.inl k, .inl i] ["java/lang/IllegalStateException", "java/util/NoSuchElementException"] h := by
  obtain ⟨S, T, ci, ri⟩ := Inv_i.mp hI
  obtain ⟨v1, v2, v3, v4, v5, v6⟩ := EV_ci ci
  have m1 : h 66 1 = h 1 1 := ri.1.2.1
  have c2 : 1 ≤ h 1 1 ∧ h 1 1 ≤ 3 := ci.1.2.1
  have c8 : 1 ≤ h 66 1 ∧ h 66 1 ≤ 3 := by rw [m1]; exact c2
  have fu : ∀ u, FM h (xup h 112 0 u) := fun u => (FM.rf h).up (Or.inl (by unfold scr; decide))
  have ww : ∀ g, FM h g → RR g S ∧ RRT g T := fun g f => RI_rr (FM_RI v3.2 v6.2 f ri)
  have pp : ∀ g, FM h g → _ := fun g f => Inv_p ci.2.2.2.1 (FM_RI v3.2 v6.2 f ri).2.2.2.1
  obtain ⟨p1, p2, p3, p4, p5, p6, p7⟩ := pp h (FM.rf h)
  have so : h 66 50 = 0 ∨ h 66 50 = 1 := by rw [p2]; exact p1
  have sq : h 66 50 = 1 ↔ h 56 4 = 1 := by rw [p2]
  obtain ⟨b0, b1, -, -, -, -, -, -, b9⟩ := Inv_e hI
  have b8 : 0 ≤ h 66 8 ∧ h 66 8 ≤ 300 := by rw [b1]; exact b0
  have cc : ((0 ≤ k ∧ k < h 66 8) ∧ (0 ≤ i ∧ i ≤ 2)) ↔ ((0 ≤ k ∧ k < h 9 9) ∧ (0 ≤ i ∧ i ≤ 2)) := by rw [b1]
  refine o_apart (d + 1) h S T k i hk hi c2 (EV_ci ci) p1 p4 p3 b0 (fun q u => ?_) (fun q q2 u => ?_) (fun q q2 p z0 z1 dp pn h1 f1 u => ?_) (fun q q2 pn h1 f1 u => ?_)
  · exact m_apart (d + 20) 0 (xup h 112 0 u) S T (h 57) (h 58) k i (h 1 2) (h 6) hk hi c8 (ww _ (fu u)).1 (ww _ (fu u)).2 v2 v5 v3 v6 so (fun z9 => (pp _ (fu u)).2.2.2.2.1 (sq.mp z9)) (fun z9 => p4 (sq.mp z9)) (fun z9 => p3 (sq.mp z9)) b8 (fun _ => CO_x hI 0 rfl u 0) (fun z9 => absurd (sq.mp z9) q) (fun z9 => absurd (sq.mp z9) q) (fun z9 => absurd (sq.mp z9) q)
  · exact m_apart (d + 20) 0 (xup h 112 0 u) S T (h 57) (h 58) k i (h 1 2) (h 6) hk hi c8 (ww _ (fu u)).1 (ww _ (fu u)).2 v2 v5 v3 v6 so (fun z9 => (pp _ (fu u)).2.2.2.2.1 (sq.mp z9)) (fun z9 => p4 (sq.mp z9)) (fun z9 => p3 (sq.mp z9)) b8 (fun z9 => absurd (sq.mpr q) z9) (fun _ _ => CO_x hI 1 rfl u 0) (fun _ z9 => absurd (cc.mp z9) q2) (fun _ z9 => absurd (cc.mp z9) q2)
  · have f0 : FM h h1 := FM_c (fun a => a = 63) (fun a z => by unfold scr; omega) f1
    have fm : FM h (xup h1 112 0 u) := f0.up (Or.inl (by unfold scr; decide))
    have k0 : h1 66 = h 66 := f1 _ (by decide)
    have s1 : (xup h1 112 0 u) 66 50 = 1 → h 56 4 = 1 := fun z9 => by
      have z9 : h1 66 50 = 1 := z9
      rw [k0] at z9
      exact sq.mp z9
    have dq : ∀ q, (daE (h 57) (h 58) S T ((xup h1 112 0 u) 66 1) k) q ↔ (daE (h 57) (h 58) S T (h 1 1) k) q := fun q => by
      show (daE (h 57) (h 58) S T (h1 66 1) k) q ↔ (daE (h 57) (h 58) S T (h 1 1) k) q
      rw [k0, m1]
    have nq : ptN ((xup h1 112 0 u) 66 1) = ptN (h 1 1) := by
      show ptN (h1 66 1) = _
      rw [k0, m1]
    refine m_apart (d + 20) 0 (xup h1 112 0 u) S T (h 57) (h 58) k i (h 1 2) (h 6) hk hi (by show 1 ≤ h1 66 1 ∧ h1 66 1 ≤ 3; rw [k0]; exact c8) (ww _ fm).1 (ww _ fm).2 v2 v5 v3 v6 (by show h1 66 50 = 0 ∨ h1 66 50 = 1; rw [k0]; exact so) (fun z9 => (pp _ fm).2.2.2.2.1 (s1 z9)) (fun z9 => p4 (s1 z9)) (fun z9 => p3 (s1 z9)) (by show 0 ≤ h1 66 8 ∧ h1 66 8 ≤ 300; rw [k0]; exact b8) (fun z9 => absurd (show h1 66 50 = 1 by rw [k0]; exact sq.mpr q) z9) (fun _ z9 => absurd (show (0 ≤ k ∧ k < h1 66 8) ∧ (0 ≤ i ∧ i ≤ 2) by rw [k0]; exact cc.mpr q2) z9) (fun _ _ p' z0' z1' dp' pn' h2 f2 => ?_) (fun _ _ pn' h2 f2 => ?_)
    · have e9 : p' = p := by
        rcases Int.lt_trichotomy p' p with z | z | z
        · exact absurd ((dq p').mp dp') (pn p' z0' z)
        · exact z
        · exact absurd ((dq p).mpr dp) (pn' p z0 z)
      subst e9
      refine CO_f hI ((fm.up (Or.inr ⟨rfl, by unfold mdf; decide⟩)).tr (FM_vh f2)) (by rw [f2 _ (by decide) (by decide)]; rfl) (by rw [f2 _ (by decide) (by decide)]; rfl) ?_
      show ptX (h 1 1) p' i = ptX (h1 66 1) p' i
      rw [k0, m1]
    · exact absurd ((dq p).mpr dp) (pn' p z0 (by rw [nq]; exact z1))
  · have f0 : FM h h1 := FM_c (fun a => a = 63) (fun a z => by unfold scr; omega) f1
    have fm : FM h (xup h1 112 0 u) := f0.up (Or.inl (by unfold scr; decide))
    have k0 : h1 66 = h 66 := f1 _ (by decide)
    have s1 : (xup h1 112 0 u) 66 50 = 1 → h 56 4 = 1 := fun z9 => by
      have z9 : h1 66 50 = 1 := z9
      rw [k0] at z9
      exact sq.mp z9
    have dq : ∀ q, (daE (h 57) (h 58) S T ((xup h1 112 0 u) 66 1) k) q ↔ (daE (h 57) (h 58) S T (h 1 1) k) q := fun q => by
      show (daE (h 57) (h 58) S T (h1 66 1) k) q ↔ (daE (h 57) (h 58) S T (h 1 1) k) q
      rw [k0, m1]
    have nq : ptN ((xup h1 112 0 u) 66 1) = ptN (h 1 1) := by
      show ptN (h1 66 1) = _
      rw [k0, m1]
    refine m_apart (d + 20) 0 (xup h1 112 0 u) S T (h 57) (h 58) k i (h 1 2) (h 6) hk hi (by show 1 ≤ h1 66 1 ∧ h1 66 1 ≤ 3; rw [k0]; exact c8) (ww _ fm).1 (ww _ fm).2 v2 v5 v3 v6 (by show h1 66 50 = 0 ∨ h1 66 50 = 1; rw [k0]; exact so) (fun z9 => (pp _ fm).2.2.2.2.1 (s1 z9)) (fun z9 => p4 (s1 z9)) (fun z9 => p3 (s1 z9)) (by show 0 ≤ h1 66 8 ∧ h1 66 8 ≤ 300; rw [k0]; exact b8) (fun z9 => absurd (show h1 66 50 = 1 by rw [k0]; exact sq.mpr q) z9) (fun _ z9 => absurd (show (0 ≤ k ∧ k < h1 66 8) ∧ (0 ≤ i ∧ i ≤ 2) by rw [k0]; exact cc.mpr q2) z9) (fun _ _ p' z0' z1' dp' pn' h2 f2 => ?_) (fun _ _ pn' h2 f2 => ?_)
    · exact absurd ((dq p').mp dp') (pn p' z0' (by rw [nq] at z1'; exact z1'))
    · exact CO_f hI ((fm.up (Or.inr ⟨rfl, by unfold mdf; decide⟩)).tr (FM_vh f2)) (by rw [f2 _ (by decide) (by decide)]; rfl) (by rw [f2 _ (by decide) (by decide)]; rfl) rfl
