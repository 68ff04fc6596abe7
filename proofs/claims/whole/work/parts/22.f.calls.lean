/-- what was told, out of what the class holds -/
theorem IB_w {g g1 : xH} (e : ∀ a, a < 9 → g a = g1 a) (c1 : 0 ≤ g1 1 2 ∧ g1 1 2 ≤ 12) (c2 : 1 ≤ g1 1 1 ∧ g1 1 1 ≤ 3) (c3 : ∀ e, 0 ≤ e → e < g1 1 2 → (-99 ≤ g1 3 e ∧ g1 3 e ≤ 99) ∧ (-99 ≤ g1 4 e ∧ g1 4 e ≤ 99) ∧ (-99 ≤ g1 5 e ∧ g1 5 e ≤ 99) ∧ (-999 ≤ g1 6 e ∧ g1 6 e ≤ 999)) (c4 : 2 ≤ g1 7 1 ∧ g1 7 1 ≤ 10) (c5 : ∀ i, 0 ≤ i → i < g1 7 1 → -99 ≤ g1 8 i ∧ g1 8 i ≤ 99) (c6 : 1 ≤ g1 0 9 ∧ g1 0 9 ≤ 20000) (m4 : g 66 4 = g1 1 2) (m1 : g 66 1 = g1 1 1) (m6 : g 66 6 = g1 7 1) (m3 : g 66 3 = g1 7 2) (m2 : g 66 2 = g1 0 9) (t : ∀ e, 0 ≤ e → e < g1 1 2 → g 67 (4 * e) = g1 3 e ∧ g 67 (4 * e + 1) = g1 4 e ∧ g 67 (4 * e + 2) = g1 5 e ∧ g 67 (4 * e + 3) = g1 6 e) (k : ∀ i, 0 ≤ i → i < g1 7 1 → g 68 i = g1 8 i) : IB g := by
  unfold IB
  rw [e 1 (by decide), e 3 (by decide), e 4 (by decide), e 5 (by decide), e 6 (by decide), e 7 (by decide), e 8 (by decide), e 0 (by decide)]
  exact ⟨c1, c2, c3, c4, c5, c6, m4, m1, m6, m3, m2, t, k⟩
theorem FGC_k {g h : xH} (f : FGC g h) : ∀ a, a < 9 → h a = g a := fun a ha => f.1 a (by omega) (by omega) (by omega) (by omega) (by omega) (by omega) (by omega) (by omega)
theorem FGC_m {g h : xH} (f : FGC g h) : ∀ a, 66 ≤ a → h a = g a := fun a ha => f.1 a (by omega) (by omega) (by omega) (by omega) (by omega) (by omega) (by omega) (by omega)
theorem FGR_o {g h : xH} (f : FGR g h) : h 112 = g 112 := f.1 _ (by decide) (by decide) (by decide) (by decide) (by decide)
theorem FGR_m {g h : xH} (f : FGR g h) {j : Int} (hj : j ≠ 8 ∧ j ≠ 19 ∧ j ≠ 33 ∧ j ≠ 50) : h 66 j = g 66 j := f.2.1 j hj.1 hj.2.1 hj.2.2.1 hj.2.2.2
/-- the end of a call that was refused -/
theorem CO_x {h : xH} (hI : Inv h) {ex : List String} {E : String} (k : Nat) (hE : ex[k]? = some E) (w r : Int) : Inv (xup (xup h 112 0 w) 66 0 (k + 1)) ∧ xup (xup h 112 0 w) 66 0 (k + 1) 112 0 = w ∧ AG ex (.inr E) (.inl (some (.inl r))) (xup (xup h 112 0 w) 66 0 (k + 1)) :=
  ⟨Inv_fr (((FM.rf h).up (Or.inl (by unfold scr; decide))).up (Or.inr ⟨rfl, by unfold mdf; decide⟩)) hI, rfl, AG_x k hE rfl⟩
theorem xr2 {a lo hi : Int} (h : lo ≤ a ∧ a ≤ hi) (l : -2147483648 ≤ lo) (u : hi ≤ 2147483647) : xr a := ⟨by omega, by omega⟩
set_option maxHeartbeats 1000000 in
theorem CO_many (d : Nat) {h : xH} (hI : Inv h) (p : Int) (hp : xr p) : CO (d + 6) 1 97 158 [.inl p] ["java/lang/IllegalArgumentException"] h := by
  obtain ⟨c1, c2, c3, c4, c5, c6, m4, m1, m6, m3, m2, tt, kk⟩ := (show IB h from hI.choose_spec.choose_spec.1)
  refine o_many d h p hp (Inv_K hI) (fun q h1 f1 w => ?_) (fun q w => ?_)
  · refine m_many (d + 4) 0 (xup h1 112 0 w) p hp (fun _ h2 f2 => ?_) (fun z => absurd q z)
    have k0 : h1 66 = h 66 := (FGC_m f1 _ (by decide)).trans (by rw [xup_o _ _ _ _ _ (by decide), xup_o _ _ _ _ _ (by decide)])
    have k1 : h1 68 = h 68 := (FGC_m f1 _ (by decide)).trans (by rw [xup_o _ _ _ _ _ (by decide), xup_o _ _ _ _ _ (by decide)])
    refine ⟨Inv_re hI (fun a ha => by rw [xup_o _ _ _ _ a (by omega), xup_o _ _ _ _ a (by omega)]) f1 (fun a z1 z2 z3 z4 => by rw [xup_o _ _ _ _ a z1, xup_o _ _ _ _ a z1, xup_o _ _ _ _ a z1, xup_o _ _ _ _ a z4]) (by rfl) f2 ?_, by rw [FGR_o f2]; rfl, AG_v (by rw [FGR_m f2 (by decide)]; rfl) (by rw [← m4, ← k0]; rfl)⟩
    refine IB_w (g1 := xup (xup h 1 2 0) 1 1 p) (fun a ha => by rw [xup_o _ _ _ _ a (by omega), xup_o _ _ _ _ a (by omega), xup_o _ _ _ _ a (by omega), xup_o _ _ _ _ a (by omega), FGC_k f1 a ha]) (show (0 : Int) ≤ 0 ∧ (0 : Int) ≤ 12 by decide) q (fun e z1 z2 => absurd z2 (Int.not_lt.mpr z1)) c4 c5 c6 rfl rfl ?_ ?_ ?_ (fun e z1 z2 => absurd z2 (Int.not_lt.mpr z1)) ?_
    · show h1 66 6 = _; rw [k0]; exact m6
    · show h1 66 3 = _; rw [k0]; exact m3
    · show h1 66 2 = _; rw [k0]; exact m2
    · show ∀ i, 0 ≤ i → i < h 7 1 → h1 68 i = _; rw [k1]; exact kk
  · exact m_many (d + 4) 0 (xup h 112 0 w) p hp (fun z => absurd z q) (fun z => CO_x hI 0 rfl w 0)
set_option maxHeartbeats 1000000 in
theorem CO_budget (d : Nat) {h : xH} (hI : Inv h) (p : Int) (hp : xr p) : CO (d + 6) 1 103 171 [.inl p] ["java/lang/IllegalArgumentException"] h := by
  obtain ⟨S, T, ib, ie, it, ip, is_, ix⟩ := id hI
  obtain ⟨c1, c2, c3, c4, c5, c6, m4, m1, m6, m3, m2, tt, kk⟩ := ib
  refine o_budget (d + 5) h p hp (fun q w => ?_) (fun q w => ?_)
  · refine m_budget (d + 4) 0 (xup (xup h 0 9 p) 112 0 w) p hp (fun _ => ?_) (fun z => absurd q z)
    have u : ∀ a, a ≠ 0 → a ≠ 66 → a ≠ 112 → (xup (xup (xup (xup h 0 9 p) 112 0 w) 66 0 0) 66 2 p) a = h a := fun a z1 z2 z3 => by rw [xup_o _ _ _ _ a z2, xup_o _ _ _ _ a z2, xup_o _ _ _ _ a z3, xup_o _ _ _ _ a z1]
    have u1 : ∀ a j, a ≠ 0 → a ≠ 66 → a ≠ 112 → (xup (xup (xup (xup h 0 9 p) 112 0 w) 66 0 0) 66 2 p) a j = h a j := fun a j z1 z2 z3 => by rw [u a z1 z2 z3]
    refine ⟨⟨S, T, IB_w (g1 := xup h 0 9 p) (fun a ha => by rw [xup_o _ _ _ _ a (by omega), xup_o _ _ _ _ a (by omega), xup_o _ _ _ _ a (by omega)]) c1 c2 c3 c4 c5 q m4 m1 m6 m3 rfl tt kk, IE_fr (fun a _ _ => u a (by omega) (by omega) (by omega)) (u _ (by decide) (by decide) (by decide)) (u _ (by decide) (by decide) (by decide)) rfl rfl (u1 _ _ (by decide) (by decide) (by decide)) (u1 _ _ (by decide) (by decide) (by decide)) (u1 _ _ (by decide) (by decide) (by decide)) (u1 _ _ (by decide) (by decide) (by decide)) (fun k _ => ⟨u1 _ _ (by decide) (by decide) (by decide), u1 _ _ (by decide) (by decide) (by decide), u1 _ _ (by decide) (by decide) (by decide)⟩) (fun a _ _ => u a (by omega) (by omega) (by omega)) ie, IT_fr (fun a _ _ => u a (by omega) (by omega) (by omega)) (u _ (by decide) (by decide) (by decide)) rfl rfl (u1 _ _ (by decide) (by decide) (by decide)) (u1 _ _ (by decide) (by decide) (by decide)) (u1 _ _ (by decide) (by decide) (by decide)) (u1 _ _ (by decide) (by decide) (by decide)) (fun k _ => ⟨u1 _ _ (by decide) (by decide) (by decide), u1 _ _ (by decide) (by decide) (by decide), u1 _ _ (by decide) (by decide) (by decide)⟩) (fun a _ _ => u a (by omega) (by omega) (by omega)) it, IP_fr (STB.rf _) (STB.rf _) (u _ (by decide) (by decide) (by decide)) (u _ (by decide) (by decide) (by decide)) (u _ (by decide) (by decide) (by decide)) ⟨rfl, rfl, rfl⟩ (u _ (by decide) (by decide) (by decide)) (u _ (by decide) (by decide) (by decide)) ip, IS_fr (STB.rf _) (STB.rf _) (fun a _ _ => u a (by omega) (by omega) (by omega)) (u _ (by decide) (by decide) (by decide)) is_, IX_fr (u _ (by decide) (by decide) (by decide)) (u _ (by decide) (by decide) (by decide)) rfl (u _ (by decide) (by decide) (by decide)) ix⟩, rfl, AG_v rfl m2.symm⟩
  · exact m_budget (d + 4) 0 (xup h 112 0 w) p hp (fun z => absurd z q) (fun z => CO_x hI 0 rfl w 0)
theorem exq {h : xH} (m4 : h 66 4 = h 1 2) (tt : ∀ e, 0 ≤ e → e < h 1 2 → h 67 (4 * e) = h 3 e ∧ h 67 (4 * e + 1) = h 4 e ∧ h 67 (4 * e + 2) = h 5 e ∧ h 67 (4 * e + 3) = h 6 e) (x y z : Int) : (∃ q, 0 ≤ q ∧ q < h 1 2 ∧ (h 3 q = x ∧ h 4 q = y ∧ h 5 q = z)) ↔ ∃ q, 0 ≤ q ∧ q < h 66 4 ∧ (h 67 (4 * q) = x ∧ h 67 (4 * q + 1) = y ∧ h 67 (4 * q + 2) = z) := by
  rw [m4]
  constructor
  · rintro ⟨q, a, b, c⟩
    obtain ⟨t0, t1, t2, -⟩ := tt q a b
    exact ⟨q, a, b, by rw [t0, t1, t2]; exact c⟩
  · rintro ⟨q, a, b, c⟩
    obtain ⟨t0, t1, t2, -⟩ := tt q a b
    exact ⟨q, a, b, by rw [t0, t1, t2] at c; exact c⟩
set_option maxHeartbeats 1000000 in
theorem CO_example (d : Nat) {h : xH} (hI : Inv h) (x y z w : Int) (hx : xr x) (hy : xr y) (hz : xr z) (hw : xr w) : CO (d + 6) 2 98 161 [.inl x, .inl y, .inl z, .inl w] ["java/lang/IllegalArgumentException", "java/lang/IllegalStateException"] h := by
  obtain ⟨c1, c2, c3, c4, c5, c6, m4, m1, m6, m3, m2, tt, kk⟩ := (show IB h from hI.choose_spec.choose_spec.1)
  have hr : ∀ e : Int, 0 ≤ e → e < h 1 2 → xr (h 3 e) ∧ xr (h 4 e) ∧ xr (h 5 e) := fun e z1 z2 => by
    obtain ⟨a, b, c, -⟩ := c3 e z1 z2
    exact ⟨xr2 a (by decide) (by decide), xr2 b (by decide) (by decide), xr2 c (by decide) (by decide)⟩
  have hr2 : ∀ e : Int, 0 ≤ e → e < h 66 4 → xr (h 67 (4 * e)) ∧ xr (h 67 (4 * e + 1)) ∧ xr (h 67 (4 * e + 2)) := fun e z1 z2 => by
    rw [m4] at z2
    obtain ⟨t0, t1, t2, -⟩ := tt e z1 z2
    rw [t0, t1, t2]
    exact hr e z1 z2
  have e1 : 1 ≤ h 66 1 ∧ h 66 1 ≤ 3 := by rw [m1]; exact c2
  have e2 : 0 ≤ h 66 4 ∧ h 66 4 ≤ 12 := by rw [m4]; exact c1
  refine o_example d h x y z w hx hy hz hw (Inv_K hI) c2 c1 hr (fun q u => ?_) (fun q q2 u => ?_) (fun q q2 q3 h1 f1 u => ?_)
  · exact m_example (d + 3) 0 (xup h 112 0 u) x y z w hx hy hz hw e1 e2 hr2 (fun _ => CO_x hI 0 rfl u 0) (fun v => absurd (show inOk (h 66 1) x y z ∧ -999 ≤ w ∧ w ≤ 999 from v) (by rw [m1]; exact q)) (fun v => absurd (show inOk (h 66 1) x y z ∧ -999 ≤ w ∧ w ≤ 999 from v) (by rw [m1]; exact q))
  · refine m_example (d + 3) 0 (xup h 112 0 u) x y z w hx hy hz hw e1 e2 hr2 (fun v => absurd (show inOk (h 66 1) x y z ∧ -999 ≤ w ∧ w ≤ 999 by rw [m1]; exact q) v) (fun _ _ => CO_x hI 1 rfl u 0) (fun _ v1 v2 => ?_)
    have v1 : h 66 4 < 12 := v1
    rcases q2 with q2 | q2
    · omega
    · exact absurd ((exq m4 tt x y z).mp q2) v2
  · have k0 : h1 66 = h 66 := (FGC_m f1 _ (by decide)).trans (by rw [xup_o _ _ _ _ _ (by decide), xup_o _ _ _ _ _ (by decide), xup_o _ _ _ _ _ (by decide), xup_o _ _ _ _ _ (by decide), xup_o _ _ _ _ _ (by decide)])
    have k1 : h1 68 = h 68 := (FGC_m f1 _ (by decide)).trans (by rw [xup_o _ _ _ _ _ (by decide), xup_o _ _ _ _ _ (by decide), xup_o _ _ _ _ _ (by decide), xup_o _ _ _ _ _ (by decide), xup_o _ _ _ _ _ (by decide)])
    have k2 : h1 67 = h 67 := (FGC_m f1 _ (by decide)).trans (by rw [xup_o _ _ _ _ _ (by decide), xup_o _ _ _ _ _ (by decide), xup_o _ _ _ _ _ (by decide), xup_o _ _ _ _ _ (by decide), xup_o _ _ _ _ _ (by decide)])
    have j1 : h1 66 1 = h 66 1 := by rw [k0]
    have j4 : h1 66 4 = h 66 4 := by rw [k0]
    refine m_example (d + 3) 0 (xup h1 112 0 u) x y z w hx hy hz hw (by show 1 ≤ h1 66 1 ∧ h1 66 1 ≤ 3; omega) (by show 0 ≤ h1 66 4 ∧ h1 66 4 ≤ 12; omega) (by show ∀ e : Int, 0 ≤ e → e < h1 66 4 → xr (h1 67 (4 * e)) ∧ xr (h1 67 (4 * e + 1)) ∧ xr (h1 67 (4 * e + 2)); rw [k0, k2]; exact hr2) (fun v => absurd (show inOk (h1 66 1) x y z ∧ -999 ≤ w ∧ w ≤ 999 by rw [j1, m1]; exact q) v) (fun _ v => ?_) (fun _ _ _ h2 f2 => ?_)
    · have v : h1 66 4 = 12 ∨ ∃ q, 0 ≤ q ∧ q < h1 66 4 ∧ (h1 67 (4 * q) = x ∧ h1 67 (4 * q + 1) = y ∧ h1 67 (4 * q + 2) = z) := v
      rw [k0, k2] at v
      rcases v with v | v
      · omega
      · exact absurd ((exq m4 tt x y z).mpr v) q3
    · have n1 : h1 66 4 = h 1 2 := by omega
      refine ⟨Inv_re hI (fun a ha => by rw [xup_o _ _ _ _ a (by omega), xup_o _ _ _ _ a (by omega), xup_o _ _ _ _ a (by omega), xup_o _ _ _ _ a (by omega), xup_o _ _ _ _ a (by omega)]) f1 (fun a z1 z2 z3 z4 => by rw [xup_o _ _ _ _ a z1, xup_o _ _ _ _ a z2, xup_o _ _ _ _ a z2, xup_o _ _ _ _ a z2, xup_o _ _ _ _ a z2, xup_o _ _ _ _ a z1, xup_o _ _ _ _ a z4]) (by rfl) f2 ?_, by rw [FGR_o f2]; rfl, AG_v (by rw [FGR_m f2 (by decide)]; rfl) (by rw [FGR_m f2 (by decide)]; show _ = h1 66 4 + 1 - 1; omega)⟩
      obtain ⟨i1, i2, i3, i4, i5⟩ := q.1
      refine IB_w (g1 := xup (xup (xup (xup (xup h 3 (h 1 2) x) 4 (h 1 2) y) 5 (h 1 2) z) 6 (h 1 2) w) 1 2 (h 1 2 + 1)) (fun a ha => by rw [xup_o _ _ _ _ a (by omega), xup_o _ _ _ _ a (by omega), xup_o _ _ _ _ a (by omega), xup_o _ _ _ _ a (by omega), xup_o _ _ _ _ a (by omega), xup_o _ _ _ _ a (by omega), xup_o _ _ _ _ a (by omega), FGC_k f1 a ha]) (show 0 ≤ h 1 2 + 1 ∧ h 1 2 + 1 ≤ 12 by omega) c2 ?_ c4 c5 c6 (show h1 66 4 + 1 = h 1 2 + 1 by omega) (show h1 66 1 = h 1 1 by omega) (show h1 66 6 = _ by rw [k0]; exact m6) (show h1 66 3 = _ by rw [k0]; exact m3) (show h1 66 2 = _ by rw [k0]; exact m2) ?_ (show ∀ i, 0 ≤ i → i < h 7 1 → h1 68 i = _ by rw [k1]; exact kk)
      · intro e z1 z2
        have z2 : e < h 1 2 + 1 := z2
        by_cases he : e = h 1 2
        · subst he
          simp only [xup]
          simp
          omega
        · have := c3 e z1 (by omega)
          simp only [xup]
          simp [he]
          omega
      · intro e z1 z2
        have z2 : e < h 1 2 + 1 := z2
        by_cases he : e = h 1 2
        · subst he
          simp only [xup, n1, k2]
          simp
          omega
        · have t9 := tt e z1 (by omega)
          have d1 : ¬ (4 * e = 4 * h 1 2) ∧ ¬ (4 * e = 4 * h 1 2 + 1) ∧ ¬ (4 * e = 4 * h 1 2 + 2) ∧ ¬ (4 * e = 4 * h 1 2 + 3) := by omega
          have d2 : ¬ (4 * e + 1 = 4 * h 1 2) ∧ ¬ (4 * e + 1 = 4 * h 1 2 + 1) ∧ ¬ (4 * e + 1 = 4 * h 1 2 + 2) ∧ ¬ (4 * e + 1 = 4 * h 1 2 + 3) := by omega
          have d3 : ¬ (4 * e + 2 = 4 * h 1 2) ∧ ¬ (4 * e + 2 = 4 * h 1 2 + 1) ∧ ¬ (4 * e + 2 = 4 * h 1 2 + 2) ∧ ¬ (4 * e + 2 = 4 * h 1 2 + 3) := by omega
          have d4 : ¬ (4 * e + 3 = 4 * h 1 2) ∧ ¬ (4 * e + 3 = 4 * h 1 2 + 1) ∧ ¬ (4 * e + 3 = 4 * h 1 2 + 2) ∧ ¬ (4 * e + 3 = 4 * h 1 2 + 3) := by omega
          simp only [xup, n1, k2]
          simp [he, d1, d2, d3, d4]
          exact t9
