theorem szp_le {as le : Int → Int} {S T : xH} {m : Nat} (tr : TRp as le S T 3 0) (o : OKS S T (S 0 0) (T 0 0) m) : szp as le S T 3 0 ≤ 1000000 := by
  have key : ∀ (D : Nat) (nd : Int), TRp as le S T D nd → szp as le S T D nd ≤ 17 * 2 ^ D - 8 := by
    intro D
    induction D with
    | zero =>
      intro nd h
      have := (o.2.2.2.1 _ h.2.1 h.2.2).1
      show S 4 (le nd) ≤ _
      omega
    | succ D ih =>
      intro nd h
      unfold szp
      have p : (1 : Int) ≤ 2 ^ D := by exact_mod_cast Nat.two_pow_pos D
      have e : (2 : Int) ^ (D + 1) = 2 * 2 ^ D := by rw [Int.pow_succ]; omega
      rw [e]
      rcases h with h | ⟨a, b, c, x, f⟩
      · rw [if_pos h.1]
        have := (o.2.2.2.1 _ h.2.1 h.2.2).1
        omega
      · rw [if_neg (by omega)]
        have := (o.2.2.2.2 _ a b).1
        have := ih _ x
        have := ih _ f
        omega
  have := key 3 0 tr
  omega
set_option maxHeartbeats 1000000 in
theorem CO_isIdle (d : Nat) {h : xH} (hI : Inv h) (e : Int) (hx : xr e) : CO (d + 10) 2 133 247 [.inl e] ["java/lang/IllegalStateException", "java/util/NoSuchElementException"] h := by
  obtain ⟨S, T, ci, ri⟩ := Inv_i.mp hI
  obtain ⟨v1, v2, v3, v4, v5, v6⟩ := EV_ci ci
  have n1 : 0 ≤ h 1 2 ∧ h 1 2 ≤ 12 := ci.1.1
  have m4 : h 66 4 = h 1 2 := ri.1.1
  have n8 : 0 ≤ h 66 4 ∧ h 66 4 ≤ 12 := by rw [m4]; exact n1
  have o := OKS_ci ci
  have is0 : IS h S T := ci.2.2.2.2.1
  have nq : h 66 4 ≠ 0 ↔ h 1 2 ≠ 0 := by rw [m4]
  have fu : ∀ u, FM h (xup h 112 0 u) := fun u => (FM.rf h).up (Or.inl (by unfold scr; decide))
  obtain ⟨rr, rrt⟩ := RI_rr ri
  have hm8 : (h 1 2).toNat = (h 66 4).toNat := by rw [m4]
  obtain ⟨p1, p2, p3, p4, p5, p6, p7⟩ := Inv_p ci.2.2.2.1 ri.2.2.2.1
  have so : h 66 50 = 0 ∨ h 66 50 = 1 := by rw [p2]; exact p1
  have sq : h 66 50 = 1 ↔ h 56 4 = 1 := by rw [p2]
  have ce : (0 ≤ e ∧ e < h 66 4) ↔ (0 ≤ e ∧ e < h 1 2) := by rw [m4]
  have pz : h 56 4 = 1 → h 56 5 = szp (h 57) (h 58) S T 3 0 := fun q => (ci.2.2.2.1.2 q).2.1
  have pc : h 56 4 = 1 → 0 ≤ h 56 6 ∧ h 56 6 ≤ 3 := fun q => (ci.2.2.2.1.2 q).2.2.1
  have pu : h 56 4 = 1 → ∀ j, 0 ≤ j → j < 32 → (j = 0 ∨ 16 ≤ j) → h 105 j = -1 ∧ h 106 j = -1 := fun q => (ri.2.2.2.1.2 q).2.2.2
  have pi : h 56 4 = 1 → h 66 51 = h 56 6 := fun q => (ri.2.2.2.1.2 q).2.1
  have pif : h 56 4 = 1 → 0 ≤ h 66 51 ∧ h 66 51 ≤ 3 := fun q => by rw [pi q]; exact pc q
  have psb : h 56 4 = 1 → h 56 5 ≤ 1000000 := fun q => by rw [pz q]; exact szp_le (p3 q) o
  refine o_isIdle (d + 1) h S T e hx is0 v1 v4 _ o rfl n1 p1 p4 p3 pz pc psb (fun q u => ?_) (fun q q2 u => ?_) (fun q q2 q3 u => ?_) (fun q q2 q3 h1 f1 sv r hr9 u => ?_)
  · exact m_isIdle (d + 5) 0 (xup h 112 0 u) S T (h 57) (h 58) e (h 1 2) (h 6) hx _ o (hm8) (n8) (RI_rr (FM_RI v3.2 v6.2 (fu u) ri)).1 (RI_rr (FM_RI v3.2 v6.2 (fu u) ri)).2 v2 v5 v3 v6 (so) (fun z9 => p5 (sq.mp z9)) (fun z9 => pu (sq.mp z9)) (fun z9 => p4 (sq.mp z9)) (fun z9 => pif (sq.mp z9)) (fun _ => CO_x hI 0 rfl u 0) (fun z9 => absurd (sq.mp z9) q) (fun z9 => absurd (sq.mp z9) q) (fun z9 => absurd (sq.mp z9) q)
  · exact m_isIdle (d + 5) 0 (xup h 112 0 u) S T (h 57) (h 58) e (h 1 2) (h 6) hx _ o (hm8) (n8) (RI_rr (FM_RI v3.2 v6.2 (fu u) ri)).1 (RI_rr (FM_RI v3.2 v6.2 (fu u) ri)).2 v2 v5 v3 v6 (so) (fun z9 => p5 (sq.mp z9)) (fun z9 => pu (sq.mp z9)) (fun z9 => p4 (sq.mp z9)) (fun z9 => pif (sq.mp z9)) (fun z9 => absurd (sq.mpr q) z9) (fun _ _ => CO_x hI 1 rfl u 0) (fun _ z9 => absurd (ce.mp z9) q2) (fun _ z9 => absurd (ce.mp z9) q2)
  · have z1 : h 1 2 = 1 := (oth_0 n1.1 n1.2 q2).mp q3
    exact m_isIdle (d + 5) 0 (xup h 112 0 u) S T (h 57) (h 58) e (h 1 2) (h 6) hx _ o (hm8) (n8) (RI_rr (FM_RI v3.2 v6.2 (fu u) ri)).1 (RI_rr (FM_RI v3.2 v6.2 (fu u) ri)).2 v2 v5 v3 v6 (so) (fun z9 => p5 (sq.mp z9)) (fun z9 => pu (sq.mp z9)) (fun z9 => p4 (sq.mp z9)) (fun z9 => pif (sq.mp z9)) (fun z9 => absurd (sq.mpr q) z9) (fun _ z9 => absurd (ce.mpr q2) z9) (fun _ _ _ => CO_v hI u rfl) (fun _ _ z9 => absurd (show h 66 4 = 1 by rw [m4]; exact z1) z9)
  · have x1 : h1 1 = h 1 := f1 _ (by decide)
    have hI1 : Inv h1 := Inv_so2 ci ri f1 (IS_of (m := (h 1 2).toNat) (by rw [x1]; exact n1.1) (by rw [x1]) (Or.inl rfl) sv)
    have k66 : h1 66 = h 66 := f1 _ (by decide)
    have g9 : ∀ a, 66 ≤ a → a ≤ 91 → (xup h1 112 0 u) a = h a := fun a z1 z2 => by rw [xup_o _ _ _ _ a (by omega)]; exact f1 a (by omega)
    have e4 : (xup h1 112 0 u) 66 4 = h 1 2 := by show h1 66 4 = _; rw [k66]; exact m4
    have s50 : (xup h1 112 0 u) 66 50 = h 66 50 := by show h1 66 50 = _; rw [k66]
    have s51 : (xup h1 112 0 u) 66 51 = h 66 51 := by show h1 66 51 = _; rw [k66]
    have t105 : h 56 4 = 1 → TN (xup h1 112 0 u) (h 57) (h 58) := fun y => TN_of (f1 _ (by decide)) (f1 _ (by decide)) (p5 y)
    have u105 : h 56 4 = 1 → ∀ j, 0 ≤ j → j < 32 → (j = 0 ∨ 16 ≤ j) → (xup h1 112 0 u) 105 j = -1 ∧ (xup h1 112 0 u) 106 j = -1 := fun y j z1 z2 z3 => by
      show h1 105 j = -1 ∧ h1 106 j = -1
      rw [f1 _ (by decide), f1 _ (by decide)]
      exact pu y j z1 z2 z3
    have n1' : h 1 2 ≠ 1 := fun y => q3 ((oth_0 n1.1 n1.2 q2).mpr y)
    refine m_isIdle (d + 5) 0 (xup h1 112 0 u) S T (h 57) (h 58) e (h 1 2) (h 6) hx _ o (by rw [e4]) (by rw [e4]; exact n1) (RR_hi g9 rr) (RRT_hi g9 rrt) v2 v5 v3 v6 (by rw [s50]; exact so) (fun z9 => t105 (sq.mp (by rw [← s50]; exact z9))) (fun z9 => u105 (sq.mp (by rw [← s50]; exact z9))) (fun z9 => p4 (sq.mp (by rw [← s50]; exact z9))) (fun z9 => by rw [s51]; exact pif (sq.mp (by rw [← s50]; exact z9))) (fun z9 => absurd (by rw [s50]; exact sq.mpr q) z9) (fun _ z9 => absurd (by rw [e4]; exact q2) z9) (fun _ _ z9 => absurd (by rw [← e4]; exact z9) n1') (fun _ _ _ h2 f2 e2 r2 hr2 => ?_)
    rw [e4, s51, pi q] at hr2
    have fm : FM h1 (fun a => if a = 105 ∨ a = 106 then h1 a else h2 a) := by
      have f0 : FM h1 (xup (xup h1 112 0 u) 66 0 0) := ((FM.rf h1).up (Or.inl (by unfold scr; decide))).up (Or.inr ⟨rfl, by unfold mdf; decide⟩)
      refine f0.tr (FM_c (fun a => 98 ≤ a ∧ a ≤ 109 ∧ a ≠ 105 ∧ a ≠ 106) (fun a z => by unfold scr; omega) (fun a z => ?_))
      show (if a = 105 ∨ a = 106 then h1 a else h2 a) = _
      split
      · rename_i y
        rw [xup_o _ _ _ _ a (by omega), xup_o _ _ _ _ a (by omega)]
      · exact f2 a (by show a < 98 ∨ 109 < a; omega)
    refine ⟨Inv_fr2 fm (fun j z1 z2 => e2 j z1 z2) hI1, by rw [f2 _ (by decide)]; rfl, AG_v (by rw [f2 _ (by decide)]; rfl) ?_⟩
    rcases hr9 with ⟨y1, y2⟩ | ⟨y1, y2⟩
    · rcases hr2 with ⟨w1, w2⟩ | ⟨w1, w2⟩
      · rw [y1, w1]
      · exact absurd y2 w2
    · rcases hr2 with ⟨w1, w2⟩ | ⟨w1, w2⟩
      · exact absurd w2 y2
      · rw [y1, w1]
