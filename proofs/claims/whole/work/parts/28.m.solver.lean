theorem RR_hi {h h' S : xH} (e : ∀ a, 66 ≤ a → a ≤ 91 → h' a = h a) (r : RR h S) : RR h' S := by
  unfold RR at *
  rw [e 66 (by decide) (by decide), e 89 (by decide) (by decide), e 69 (by decide) (by decide), e 70 (by decide) (by decide), e 71 (by decide) (by decide), e 72 (by decide) (by decide), e 73 (by decide) (by decide), e 74 (by decide) (by decide), e 75 (by decide) (by decide), e 76 (by decide) (by decide), e 77 (by decide) (by decide), e 78 (by decide) (by decide)]
  exact r
theorem RRT_hi {h h' T : xH} (e : ∀ a, 66 ≤ a → a ≤ 91 → h' a = h a) (r : RRT h T) : RRT h' T := by
  unfold RRT at *
  rw [e 66 (by decide) (by decide), e 89 (by decide) (by decide), e 79 (by decide) (by decide), e 80 (by decide) (by decide), e 81 (by decide) (by decide), e 82 (by decide) (by decide), e 83 (by decide) (by decide), e 84 (by decide) (by decide), e 85 (by decide) (by decide), e 86 (by decide) (by decide), e 87 (by decide) (by decide)]
  exact r
theorem CI_sv {h h1 S T : xH} (c : CI h S T) (e : ∀ a, (a < 44 ∨ 58 < a) → h1 a = h a) (cp : CP h1 S T) (is1 : IS h1 S T) : CI h1 S T := by
  obtain ⟨a, b, c, d, s, x⟩ := c
  exact ⟨CB_fr (fun a z => e a (by omega)) a, CE_fr (fun a z => e a (by omega)) b, CT_fr (STB.rf _) (fun a z => e a (by omega)) c, cp, is1, CX_fr (e _ (by decide)) x⟩
/-- the reference after the class's solver: all but PROGRAMS -/
theorem RI_sv {h h1 g S T : xH} (h3 : S 0 0 ≤ 300) (h4 : T 0 0 ≤ 150) (r : RI h h S T) (e : ∀ a, (a < 44 ∨ 58 < a) → h1 a = h a) (g2 : ∀ a, 66 < a → (a < 98 ∨ 107 < a) → a ≠ 112 → g a = h1 a) (g3 : ∀ j, j ≠ 0 → j ≠ 50 → j ≠ 51 → j ≠ 60 → g 66 j = h1 66 j) (dp : DP h1 g) : RI h1 g S T := by
  obtain ⟨a, b, c, d, x⟩ := r
  have u : ∀ a, 66 < a → a < 98 → g a = h a := fun a z1 z2 => by rw [g2 a z1 (by omega) (by omega)]; exact e a (by omega)
  have m : ∀ j, j ≠ 0 → j ≠ 50 → j ≠ 51 → j ≠ 60 → g 66 j = h 66 j := fun j z1 z2 z3 z4 => by rw [g3 j z1 z2 z3 z4, e 66 (by decide)]
  have a' := DB_fr (g' := g) ⟨m 4 (by decide) (by decide) (by decide) (by decide), m 1 (by decide) (by decide) (by decide) (by decide), m 6 (by decide) (by decide) (by decide) (by decide), m 3 (by decide) (by decide) (by decide) (by decide), m 2 (by decide) (by decide) (by decide) (by decide)⟩ (u _ (by decide) (by decide)) (u _ (by decide) (by decide)) a
  have b' := DE_fr (g' := g) h3 (m 8 (by decide) (by decide) (by decide) (by decide)) (m 4 (by decide) (by decide) (by decide) (by decide)) (by rw [u 89 (by decide) (by decide)]) (fun k _ => ⟨by rw [u 69 (by decide) (by decide)], by rw [u 70 (by decide) (by decide)], by rw [u 71 (by decide) (by decide)]⟩) (fun a z1 z2 => u a (by omega) (by omega)) ⟨by rw [u 88 (by decide) (by decide)], by rw [u 91 (by decide) (by decide)], by rw [u 90 (by decide) (by decide)]⟩ b
  have c' := DT_fr (g' := g) h4 (m 19 (by decide) (by decide) (by decide) (by decide)) (m 33 (by decide) (by decide) (by decide) (by decide)) (by rw [u 89 (by decide) (by decide)]) (fun k _ => ⟨by rw [u 79 (by decide) (by decide)], by rw [u 80 (by decide) (by decide)], by rw [u 81 (by decide) (by decide)]⟩) (fun a z1 z2 => u a (by omega) (by omega)) ⟨by rw [u 88 (by decide) (by decide)], by rw [u 91 (by decide) (by decide)], by rw [u 90 (by decide) (by decide)]⟩ c
  have x' := DX_fr (g' := g) (m 45 (by decide) (by decide) (by decide) (by decide)) (u _ (by decide) (by decide)) x
  refine ⟨?_, ?_, ?_, dp, ?_⟩
  · unfold DB; rw [e 1 (by decide), e 3 (by decide), e 4 (by decide), e 5 (by decide), e 6 (by decide), e 7 (by decide), e 8 (by decide), e 0 (by decide)]; exact a'
  · unfold DE; rw [e 9 (by decide)]; exact b'
  · unfold DT; rw [e 28 (by decide)]; exact c'
  · unfold DX; rw [e 64 (by decide), e 65 (by decide)]; exact x'
theorem RI_so {h h1 S T : xH} (e : ∀ a, (a < 44 ∨ 55 < a) → h1 a = h a) (r : RI h h S T) : RI h1 h1 S T := by
  unfold RI DB DE DT DP DX RR RRT at *
  rw [e 66 (by decide), e 1 (by decide), e 3 (by decide), e 4 (by decide), e 5 (by decide), e 6 (by decide), e 7 (by decide), e 8 (by decide), e 0 (by decide), e 67 (by decide), e 68 (by decide), e 9 (by decide), e 28 (by decide), e 88 (by decide), e 89 (by decide), e 90 (by decide), e 91 (by decide), e 69 (by decide), e 70 (by decide), e 71 (by decide), e 72 (by decide), e 73 (by decide), e 74 (by decide), e 75 (by decide), e 76 (by decide), e 77 (by decide), e 78 (by decide), e 79 (by decide), e 80 (by decide), e 81 (by decide), e 82 (by decide), e 83 (by decide), e 84 (by decide), e 85 (by decide), e 86 (by decide), e 87 (by decide), e 56 (by decide), e 57 (by decide), e 58 (by decide), e 64 (by decide), e 65 (by decide), e 96 (by decide), e 105 (by decide), e 106 (by decide)]
  exact r
/-- only the solver has changed -/
theorem Inv_so {h h1 S T : xH} (c : CI h S T) (r : RI h h S T) (e : PRF h h1) (is1 : IS h1 S T) : Inv h1 := by
  have e' : ∀ a, (a < 44 ∨ 55 < a) → h1 a = h a := fun a z => e a (by omega)
  exact Inv_i.mpr ⟨S, T, CI_sv c (fun a z => e a (by omega)) (CP_fr (STB.rf _) (STB.rf _) (fun a z => e a (by omega)) c.2.2.2.1) is1, RI_so e' r⟩
theorem CP_TV {h1 S T : xH} {m : Nat} {ifs st : Int} (o : OKS S T (S 0 0) (T 0 0) m) (hi : 0 ≤ ifs ∧ ifs ≤ 3) (v : (szf S T (S 0 0) (T 0 0) (-1) ifs.toNat st = 1000000 ∧ h1 56 4 = 0) ∨ (szf S T (S 0 0) (T 0 0) (-1) ifs.toNat st < 1000000 ∧ h1 56 4 = 1 ∧ h1 56 5 = szf S T (S 0 0) (T 0 0) (-1) ifs.toNat st ∧ h1 56 6 = ifs ∧ TV S T (S 0 0) (T 0 0) (-1) (h1 57) (h1 58) 3 ifs.toNat 0 st)) : CP h1 S T := by
  rcases v with ⟨-, v⟩ | ⟨z, v1, v2, v3, v4⟩
  · exact ⟨Or.inl v, fun q => by omega⟩
  · obtain ⟨t1, t2⟩ := TV_TR o 3 ifs.toNat 0 st (by omega) z (Int.le_refl _) (Int.le_refl _) v4
    have k3 := o.2.1
    refine ⟨Or.inr v1, fun _ => ⟨t1, by rw [v2, t2], by rw [v3]; exact hi, fun nd z1 z2 => ?_, fun nd z1 z2 => ⟨?_, fun z3 => ?_⟩⟩⟩
    · obtain ⟨-, b, c⟩ := TV_b o.2.2.1.1 3 ifs.toNat 0 st nd v4 (sb3 z1 z2)
      omega
    · exact (TV_b o.2.2.1.1 3 ifs.toNat 0 st nd v4 (sb3 z1 z2)).1
    · exact TV_7 3 ifs.toNat 0 st nd v4 (sbb3 z3 z2)
set_option maxHeartbeats 1000000 in
theorem CO_solve (d : Nat) {h : xH} (hI : Inv h) (ifs : Int) (hx : xr ifs) : CO (d + 10) 2 121 232 [.inl ifs] ["java/lang/IllegalArgumentException", "java/lang/IllegalStateException"] h := by
  obtain ⟨S, T, ci, ri⟩ := Inv_i.mp hI
  obtain ⟨v1, v2, v3, v4, v5, v6⟩ := EV_ci ci
  have n1 : 0 ≤ h 1 2 ∧ h 1 2 ≤ 12 := ci.1.1
  have m4 : h 66 4 = h 1 2 := ri.1.1
  have n8 : 0 ≤ h 66 4 ∧ h 66 4 ≤ 12 := by rw [m4]; exact n1
  have o := OKS_ci ci
  have is0 : IS h S T := ci.2.2.2.2.1
  have nq : h 66 4 ≠ 0 ↔ h 1 2 ≠ 0 := by rw [m4]
  have fu : ∀ u, FM h (xup h 112 0 u) := fun u => (FM.rf h).up (Or.inl (by unfold scr; decide))
  obtain ⟨rr, rrt⟩ := RI_rr ri
  have hm8 : (h 1 2).toNat = (h 66 4).toNat := by rw [m4]
  refine o_solve d h S T ifs hx is0 v1 v4 _ o rfl n1 (fun q u => ?_) (fun q q2 u => ?_) (fun q q2 h1 sp u => ?_)
  · exact m_solve (d + 5) 0 (xup h 112 0 u) S T ifs (h 1 2) (h 6) hx _ o (hm8) (n8) (RI_rr (FM_RI v3.2 v6.2 (fu u) ri)).1 (RI_rr (FM_RI v3.2 v6.2 (fu u) ri)).2 v2 v5 v3 v6 (fun _ => CO_x hI 0 rfl u 0) (fun z9 => absurd z9 q) (fun z9 => absurd z9 q)
  · exact m_solve (d + 5) 0 (xup h 112 0 u) S T ifs (h 1 2) (h 6) hx _ o (hm8) (n8) (RI_rr (FM_RI v3.2 v6.2 (fu u) ri)).1 (RI_rr (FM_RI v3.2 v6.2 (fu u) ri)).2 v2 v5 v3 v6 (fun z9 => absurd q z9) (fun _ _ => CO_x hI 1 rfl u 0) (fun _ z9 => absurd (nq.mp z9) q2)
  · obtain ⟨s1, s2, s3⟩ := sp
    have e1 : ∀ a, (a < 44 ∨ 58 < a) → h1 a = h a := fun a z => s1 a (by omega)
    have k66 : h1 66 = h 66 := e1 _ (by decide)
    have x1 : h1 1 = h 1 := e1 _ (by decide)
    have g9 : ∀ a, 66 ≤ a → a ≤ 91 → (xup h1 112 0 u) a = h a := fun a z1 z2 => by rw [xup_o _ _ _ _ a (by omega)]; exact e1 a (by omega)
    have e4 : (xup h1 112 0 u) 66 4 = h 1 2 := by show h1 66 4 = _; rw [k66]; exact m4
    refine m_solve (d + 5) 0 (xup h1 112 0 u) S T ifs (h 1 2) (h 6) hx _ o (by rw [e4]) (by rw [e4]; exact n1) (RR_hi g9 rr) (RRT_hi g9 rrt) v2 v5 v3 v6 (fun z9 => absurd q z9) (fun _ z9 => absurd (by rw [e4]; exact q2) z9) (fun _ _ h2 sp2 => ?_)
    obtain ⟨t1, t2, t3⟩ := sp2
    have e5 : (xup (xup h1 112 0 u) 66 0 0) 66 4 = h 1 2 := e4
    rw [e5] at t3
    rw [e4]
    have zr := szf_r (p := -1) o ifs.toNat (xshl 1 (h 1 2) - 1)
    have is1 : IS h1 S T := IS_of (m := (h 1 2).toNat) (by rw [x1]; exact n1.1) (by rw [x1]) (Or.inl rfl) s2
    have cp := CP_TV o q s3
    have dp : DP h1 h2 := by
      rcases s3 with ⟨y1, y2⟩ | ⟨y1, y2, y3, y4, y5⟩
      · rcases t3 with ⟨w1, w2⟩ | ⟨w1, -⟩
        · exact ⟨by rw [w2, y2], fun z9 => by omega⟩
        · omega
      · rcases t3 with ⟨w1, -⟩ | ⟨w1, w2, w3, w4, w5, w6⟩
        · omega
        · refine ⟨by rw [w2, y2], fun _ => ⟨by rw [w4, y3], by rw [w3, y4], fun nd z1 z2 => ?_, w6⟩⟩
          obtain ⟨a, b⟩ := TV_eq 3 ifs.toNat 0 _ y5 w5 nd (sb3 z1 z2)
          exact ⟨a.symm, b.symm⟩
    have g66 : ∀ a, a < 66 → h2 a = h1 a := fun a z => by rw [t1 a (by omega) (by omega), xup_o _ _ _ _ a (by omega), xup_o _ _ _ _ a (by omega)]
    refine ⟨Inv_mk g66 (CI_sv ci e1 cp is1) (RI_sv v3.2 v6.2 ri e1 (fun a z1 z2 z3 => by rw [t1 a (by omega) (by omega), xup_o _ _ _ _ a (by omega), xup_o _ _ _ _ a z3]) (fun j z1 z2 z3 z4 => by rw [t2 j z2 z3 z4, xup_j z1, xup_o _ _ _ _ _ (by decide)]) dp), by rw [t1 _ (by decide) (by decide)]; rfl, AG_v (by rw [t2 _ (by decide) (by decide) (by decide)]; rfl) rfl⟩
set_option maxHeartbeats 1000000 in
theorem CO_without (d : Nat) {h : xH} (hI : Inv h) (p ifs : Int) (hp : xr p) (hx : xr ifs) : CO (d + 10) 3 128 246 [.inl p, .inl ifs] ["java/lang/IllegalArgumentException", "java/lang/IllegalStateException"] h := by
  obtain ⟨S, T, ci, ri⟩ := Inv_i.mp hI
  obtain ⟨v1, v2, v3, v4, v5, v6⟩ := EV_ci ci
  have n1 : 0 ≤ h 1 2 ∧ h 1 2 ≤ 12 := ci.1.1
  have m4 : h 66 4 = h 1 2 := ri.1.1
  have n8 : 0 ≤ h 66 4 ∧ h 66 4 ≤ 12 := by rw [m4]; exact n1
  have o := OKS_ci ci
  have is0 : IS h S T := ci.2.2.2.2.1
  have nq : h 66 4 ≠ 0 ↔ h 1 2 ≠ 0 := by rw [m4]
  have fu : ∀ u, FM h (xup h 112 0 u) := fun u => (FM.rf h).up (Or.inl (by unfold scr; decide))
  obtain ⟨rr, rrt⟩ := RI_rr ri
  have hm8 : (h 1 2).toNat = (h 66 4).toNat := by rw [m4]
  refine o_without (d + 1) h S T p ifs hp hx is0 v1 v4 _ o rfl n1 (fun q u => ?_) (fun q q2 u => ?_) (fun q q2 h1 f1 sv u => ?_)
  · exact m_without (d + 6) 0 (xup h 112 0 u) S T p ifs (h 1 2) (h 6) hp hx _ o (hm8) (n8) (RI_rr (FM_RI v3.2 v6.2 (fu u) ri)).1 (RI_rr (FM_RI v3.2 v6.2 (fu u) ri)).2 v2 v5 v3 v6 (fun _ => CO_x hI 0 rfl u 0) (fun z9 => absurd z9 q) (fun z9 => absurd z9 q)
  · exact m_without (d + 6) 0 (xup h 112 0 u) S T p ifs (h 1 2) (h 6) hp hx _ o (hm8) (n8) (RI_rr (FM_RI v3.2 v6.2 (fu u) ri)).1 (RI_rr (FM_RI v3.2 v6.2 (fu u) ri)).2 v2 v5 v3 v6 (fun z9 => absurd q z9) (fun _ _ => CO_x hI 1 rfl u 0) (fun _ z9 => absurd (nq.mp z9) q2)
  · have x1 : h1 1 = h 1 := f1 _ (by decide)
    have hI1 : Inv h1 := Inv_so ci ri f1 (IS_of (m := (h 1 2).toNat) (by rw [x1]; exact n1.1) (by rw [x1]) (Or.inr q.1) sv)
    have k66 : h1 66 = h 66 := f1 _ (by decide)
    have g9 : ∀ a, 66 ≤ a → a ≤ 91 → (xup h1 112 0 u) a = h a := fun a z1 z2 => by rw [xup_o _ _ _ _ a (by omega)]; exact f1 a (by omega)
    have e4 : (xup h1 112 0 u) 66 4 = h 1 2 := by show h1 66 4 = _; rw [k66]; exact m4
    have fm : FM h1 (xup (xup h1 112 0 u) 66 0 0) := ((FM.rf h1).up (Or.inl (by unfold scr; decide))).up (Or.inr ⟨rfl, by unfold mdf; decide⟩)
    refine m_without (d + 6) 0 (xup h1 112 0 u) S T p ifs (h 1 2) (h 6) hp hx _ o (by rw [e4]) (by rw [e4]; exact n1) (RR_hi g9 rr) (RRT_hi g9 rrt) v2 v5 v3 v6 (fun z9 => absurd q z9) (fun _ z9 => absurd (by rw [e4]; exact q2) z9) (fun _ _ h2 f2 => ?_)
    exact CO_f hI1 (fm.tr (FM_c (fun a => 98 ≤ a ∧ a ≤ 104) (fun a z => by unfold scr; omega) (fun a z => f2 a (by show a < 98 ∨ 104 < a; omega)))) (by rw [f2 _ (by decide)]; rfl) (by rw [f2 _ (by decide)]; rfl) (by rw [e4])
set_option maxHeartbeats 1000000 in
theorem CO_needed (d : Nat) {h : xH} (hI : Inv h)  : CO (d + 10) 1 130 236 [] ["java/lang/IllegalStateException"] h := by
  obtain ⟨S, T, ci, ri⟩ := Inv_i.mp hI
  obtain ⟨v1, v2, v3, v4, v5, v6⟩ := EV_ci ci
  have n1 : 0 ≤ h 1 2 ∧ h 1 2 ≤ 12 := ci.1.1
  have m4 : h 66 4 = h 1 2 := ri.1.1
  have n8 : 0 ≤ h 66 4 ∧ h 66 4 ≤ 12 := by rw [m4]; exact n1
  have o := OKS_ci ci
  have is0 : IS h S T := ci.2.2.2.2.1
  have nq : h 66 4 ≠ 0 ↔ h 1 2 ≠ 0 := by rw [m4]
  have fu : ∀ u, FM h (xup h 112 0 u) := fun u => (FM.rf h).up (Or.inl (by unfold scr; decide))
  obtain ⟨rr, rrt⟩ := RI_rr ri
  have hm8 : (h 1 2).toNat = (h 66 4).toNat := by rw [m4]
  refine o_needed (d + 1) h S T is0 v1 v4 _ o rfl n1 (fun q2 u => ?_) (fun q2 h1 f1 sv u => ?_)
  · exact m_needed (d + 6) 0 (xup h 112 0 u) S T (h 1 2) (h 6) _ o (hm8) (n8) (RI_rr (FM_RI v3.2 v6.2 (fu u) ri)).1 (RI_rr (FM_RI v3.2 v6.2 (fu u) ri)).2 v2 v5 v3 v6 (fun _ => CO_x hI 0 rfl u 0) (fun z9 => absurd (nq.mp z9) q2)
  · have x1 : h1 1 = h 1 := f1 _ (by decide)
    have hI1 : Inv h1 := Inv_so ci ri f1 (IS_of (m := (h 1 2).toNat) (by rw [x1]; exact n1.1) (by rw [x1]) (Or.inl rfl) sv)
    have k66 : h1 66 = h 66 := f1 _ (by decide)
    have g9 : ∀ a, 66 ≤ a → a ≤ 91 → (xup h1 112 0 u) a = h a := fun a z1 z2 => by rw [xup_o _ _ _ _ a (by omega)]; exact f1 a (by omega)
    have e4 : (xup h1 112 0 u) 66 4 = h 1 2 := by show h1 66 4 = _; rw [k66]; exact m4
    have fm : FM h1 (xup (xup h1 112 0 u) 66 0 0) := ((FM.rf h1).up (Or.inl (by unfold scr; decide))).up (Or.inr ⟨rfl, by unfold mdf; decide⟩)
    refine m_needed (d + 6) 0 (xup h1 112 0 u) S T (h 1 2) (h 6) _ o (by rw [e4]) (by rw [e4]; exact n1) (RR_hi g9 rr) (RRT_hi g9 rrt) v2 v5 v3 v6 (fun z9 => absurd (by rw [e4]; exact q2) z9) (fun _ h2 f2 => ?_)
    exact CO_f hI1 (fm.tr (FM_c (fun a => 98 ≤ a ∧ a ≤ 104) (fun a z => by unfold scr; omega) (fun a z => f2 a (by show a < 98 ∨ 104 < a; omega)))) (by rw [f2 _ (by decide)]; rfl) (by rw [f2 _ (by decide)]; rfl) (by rw [e4])
