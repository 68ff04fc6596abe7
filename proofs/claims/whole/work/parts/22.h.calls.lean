theorem cnq {h : xH} (m6 : h 66 6 = h 7 1) (kk : ∀ i, 0 ≤ i → i < h 7 1 → h 68 i = h 8 i) (v : Int) : (∃ q, 0 ≤ q ∧ q < h 7 1 ∧ h 8 q = v) ↔ ∃ q, 0 ≤ q ∧ q < h 66 6 ∧ h 68 q = v := by
  rw [m6]
  constructor
  · rintro ⟨q, a, b, c⟩
    exact ⟨q, a, b, (kk q a b).trans c⟩
  · rintro ⟨q, a, b, c⟩
    exact ⟨q, a, b, (kk q a b).symm.trans c⟩
/-- CONSTANTS may have come, in both -/
theorem Inv_cs {h g h1 g2 h2 : xH} (hI : Inv h) (w : Int) {s t : xCs} (hs : simC s t) (a : OFC h g s) (f1 : FGC g h1) (b : OFM (xup (xup h1 112 0 w) 66 0 0) g2 t) (f2 : FGR g2 h2) : Inv h2 ∧ h2 112 0 = w ∧ h2 66 0 = 0 ∧ h1 7 1 = h2 66 6 := by
  obtain ⟨c1, c2, c3, c4, c5, c6, m4, m1, m6, m3, m2, tt, kk⟩ := (show IB h from hI.choose_spec.choose_spec.1)
  obtain ⟨a1, a2, a3⟩ := a
  obtain ⟨b1, b2, b3⟩ := b
  obtain ⟨s1, s2, s3, s4⟩ := hs
  subst a3
  subst b3
  have s1 : g 7 1 = g2 66 6 := s1
  have k0 : h1 66 = h 66 := (FGC_m f1 _ (by decide)).trans (a1 _ (by decide) (by decide))
  have k2 : h1 67 = h 67 := (FGC_m f1 _ (by decide)).trans (a1 _ (by decide) (by decide))
  have j : ∀ i : Int, i ≠ 6 → i ≠ 0 → g2 66 i = h 66 i := fun i z1 z2 => by rw [b2 i z1, xup_j z2, xup_o _ _ _ _ _ (by decide), k0]
  refine ⟨Inv_re hI (fun x hx => a1 x (by omega) (by omega)) f1 (fun x z1 z2 z3 z4 => by rw [b1 x z1 z3, xup_o _ _ _ _ x z1, xup_o _ _ _ _ x z4]) (by rw [j _ (by decide) (by decide), k0]) f2 ?_, by rw [FGR_o f2, b1 _ (by decide) (by decide)]; rfl, by rw [FGR_m f2 (by decide), b2 _ (by decide)]; rfl, by rw [FGR_m f2 (by decide), FGC_k f1 7 (by decide)]; exact s1⟩
  refine IB_w (g1 := g) (fun x hx => by rw [b1 x (by omega) (by omega), xup_o _ _ _ _ x (by omega), xup_o _ _ _ _ x (by omega), FGC_k f1 x hx]) (by rw [a1 1 (by decide) (by decide)]; exact c1) (by rw [a1 1 (by decide) (by decide)]; exact c2) (by rw [a1 1 (by decide) (by decide), a1 3 (by decide) (by decide), a1 4 (by decide) (by decide), a1 5 (by decide) (by decide), a1 6 (by decide) (by decide)]; exact c3) s2 s4 (by rw [a1 0 (by decide) (by decide)]; exact c6) (by rw [j _ (by decide) (by decide), a1 1 (by decide) (by decide)]; exact m4) (by rw [j _ (by decide) (by decide), a1 1 (by decide) (by decide)]; exact m1) s1.symm (by rw [j _ (by decide) (by decide), a2 2 (by decide)]; exact m3) (by rw [j _ (by decide) (by decide), a1 0 (by decide) (by decide)]; exact m2) (by rw [a1 1 (by decide) (by decide), a1 3 (by decide) (by decide), a1 4 (by decide) (by decide), a1 5 (by decide) (by decide), a1 6 (by decide) (by decide), b1 67 (by decide) (by decide), xup_o _ _ _ _ _ (by decide), xup_o _ _ _ _ _ (by decide), k2]; exact tt) (fun i z1 z2 => (s3 i z1 z2).symm)
theorem OFC_rf (h : xH) : OFC h h (h 7 1, h 8) := ⟨fun _ _ _ => rfl, fun _ _ => rfl, rfl⟩
theorem OFM_rf (h : xH) : OFM h h (h 66 6, h 68) := ⟨fun _ _ _ => rfl, fun _ _ => rfl, rfl⟩
theorem simC_0 {h : xH} (i : IB h) : simC ((h 7 1, h 8) : xCs) (h 66 6, h 68) := by
  obtain ⟨c1, c2, c3, c4, c5, c6, m4, m1, m6, m3, m2, tt, kk⟩ := i
  exact ⟨m6.symm, c4, fun j z1 z2 => (kk j z1 z2).symm, c5⟩
theorem simC_l {s t : xCs} (h : simC s t) : simC s s := ⟨rfl, h.2.1, fun _ _ _ => rfl, h.2.2.2⟩
theorem simC_r {s t : xCs} (h : simC s t) : simC t t := by
  obtain ⟨a, b, c, e⟩ := h
  exact ⟨rfl, a ▸ b, fun _ _ _ => rfl, fun j z1 z2 => by rw [← c j z1 (a.symm ▸ z2)]; exact e j z1 (a.symm ▸ z2)⟩
set_option maxHeartbeats 1000000 in
theorem CO_constant (d : Nat) {h : xH} (hI : Inv h) (v : Int) (hv : xr v) : CO (d + 6) 1 101 168 [.inl v] ["java/lang/IllegalArgumentException", "java/lang/IllegalStateException"] h := by
  have ib : IB h := hI.choose_spec.choose_spec.1
  obtain ⟨c1, c2, c3, c4, c5, c6, m4, m1, m6, m3, m2, tt, kk⟩ := id ib
  have c4' : 2 ≤ h 66 6 ∧ h 66 6 ≤ 10 := by rw [m6]; exact c4
  have c5' : ∀ i, 0 ≤ i → i < h 66 6 → -99 ≤ h 68 i ∧ h 68 i ≤ 99 := fun i z1 z2 => by rw [m6] at z2; rw [kk i z1 z2]; exact c5 i z1 z2
  have cq := cnq m6 kk v
  refine o_constant d h v hv (Inv_K hI) c4 c5 (fun q w => ?_) (fun q q2 q3 w => ?_) (fun q q2 h1 f1 w => ?_) (fun q q2 q3 g h1 hg f1 w => ?_)
  · exact m_constant (d + 3) 0 (xup h 112 0 w) v hv c4' c5' (fun _ => CO_x hI 0 rfl w 0) (fun z => absurd z q) (fun z => absurd z q) (fun z => absurd z q)
  · refine m_constant (d + 3) 0 (xup h 112 0 w) v hv c4' c5' (fun z => absurd q z) (fun _ _ _ => CO_x hI 1 rfl w 0) (fun _ z => absurd (cq.mpr z) q3) (fun _ z _ => ?_)
    have z : h 66 6 < 10 := z
    omega
  · have k0 : h1 66 = h 66 := FGC_m f1 _ (by decide)
    have k1 : h1 68 = h 68 := FGC_m f1 _ (by decide)
    have nz : ∀ z : (¬ ∃ q, 0 ≤ q ∧ q < h1 66 6 ∧ h1 68 q = v), False := fun z => by rw [k0, k1] at z; exact z (cq.mp q2)
    refine m_constant (d + 3) 0 (xup h1 112 0 w) v hv (show 2 ≤ h1 66 6 ∧ h1 66 6 ≤ 10 by rw [k0]; exact c4') (show ∀ i, 0 ≤ i → i < h1 66 6 → -99 ≤ h1 68 i ∧ h1 68 i ≤ 99 by rw [k0, k1]; exact c5') (fun z => absurd q z) (fun _ _ z => (nz z).elim) (fun _ _ h2 f2 => ?_) (fun _ _ z => (nz z).elim)
    obtain ⟨x1, x2, x3, x4⟩ := Inv_cs hI w (s := (h 7 1, h 8)) (t := (h 66 6, h 68)) (simC_0 ib) (OFC_rf h) f1 (by
      have := OFM_rf (xup (xup h1 112 0 w) 66 0 0)
      have e : ((xup (xup h1 112 0 w) 66 0 0) 66 6, (xup (xup h1 112 0 w) 66 0 0) 68) = ((h 66 6, h 68) : xCs) := by rw [← k0, ← k1]; rfl
      rw [e] at this
      exact this) f2
    exact ⟨x1, x2, AG_v x3 rfl⟩
  · have k0 : h1 66 = h 66 := (FGC_m f1 _ (by decide)).trans (hg.1 _ (by decide) (by decide))
    have k1 : h1 68 = h 68 := (FGC_m f1 _ (by decide)).trans (hg.1 _ (by decide) (by decide))
    have nz : ∀ z : (∃ q, 0 ≤ q ∧ q < h1 66 6 ∧ h1 68 q = v), False := fun z => by rw [k0, k1] at z; exact q3 (cq.mpr z)
    refine m_constant (d + 3) 0 (xup h1 112 0 w) v hv (show 2 ≤ h1 66 6 ∧ h1 66 6 ≤ 10 by rw [k0]; exact c4') (show ∀ i, 0 ≤ i → i < h1 66 6 → -99 ≤ h1 68 i ∧ h1 68 i ≤ 99 by rw [k0, k1]; exact c5') (fun z => absurd q z) (fun _ z _ => ?_) (fun _ z => (nz z).elim) (fun _ _ _ g2 h2 hg2 f2 => ?_)
    · have z : h1 66 6 = 10 := z
      rw [k0] at z
      omega
    · have sc := tryC_sim v (simC_0 ib)
      have ea : OFC h g (tryC v (h 7 1, h 8)) := ⟨hg.1, hg.2.1, by rw [tryC_p ⟨q, q2, fun i z1 z2 z3 => q3 ⟨i, z1, z2, z3⟩⟩, hg.2.2.1, hg.2.2.2]⟩
      have eb : OFM (xup (xup h1 112 0 w) 66 0 0) g2 (tryC v (h 66 6, h 68)) := ⟨hg2.1, hg2.2.1, by
        rw [tryC_p ⟨q, by show h 66 6 < 10; omega, fun i z1 z2 z3 => q3 (cq.mpr ⟨i, z1, z2, z3⟩)⟩, hg2.2.2.1, hg2.2.2.2, ← k0, ← k1]
        rfl⟩
      obtain ⟨x1, x2, x3, x4⟩ := Inv_cs hI w sc ea f1 eb f2
      exact ⟨x1, x2, AG_v x3 rfl⟩
set_option maxHeartbeats 1000000 in
theorem CO_constants (d : Nat) {h : xH} (hI : Inv h)  : CO (d + 6) 0 102 170 [] [] h := by
  have ib : IB h := hI.choose_spec.choose_spec.1
  obtain ⟨c1, c2, c3, c4, c5, c6, m4, m1, m6, m3, m2, tt, kk⟩ := id ib
  have hr : ∀ e, 0 ≤ e → e < h 1 2 → (-99 ≤ h 3 e ∧ h 3 e ≤ 99) ∧ (-999 ≤ h 6 e ∧ h 6 e ≤ 999) := fun e z1 z2 => ⟨(c3 e z1 z2).1, (c3 e z1 z2).2.2.2⟩
  have hr2 : ∀ e, 0 ≤ e → e < h 66 4 → (-99 ≤ h 67 (4 * e) ∧ h 67 (4 * e) ≤ 99) ∧ (-999 ≤ h 67 (4 * e + 3) ∧ h 67 (4 * e + 3) ≤ 999) := fun e z1 z2 => by
    rw [m4] at z2
    rw [(tt e z1 z2).1, (tt e z1 z2).2.2.2]
    exact hr e z1 z2
  have e2 : 0 ≤ h 66 4 ∧ h 66 4 ≤ 12 := by rw [m4]; exact c1
  refine o_constants d 0 h (Inv_K hI) c1 hr (simC_l (simC_0 ib)) (fun g h1 hg f1 w => ?_)
  have k0 : h1 66 = h 66 := (FGC_m f1 _ (by decide)).trans (hg.1 _ (by decide) (by decide))
  have k1 : h1 68 = h 68 := (FGC_m f1 _ (by decide)).trans (hg.1 _ (by decide) (by decide))
  have k2 : h1 67 = h 67 := (FGC_m f1 _ (by decide)).trans (hg.1 _ (by decide) (by decide))
  refine m_constants (d + 2) 0 (xup h1 112 0 w) (show 0 ≤ h1 66 4 ∧ h1 66 4 ≤ 12 by rw [k0]; exact e2) (show ∀ e, 0 ≤ e → e < h1 66 4 → (-99 ≤ h1 67 (4 * e) ∧ h1 67 (4 * e) ≤ 99) ∧ (-999 ≤ h1 67 (4 * e + 3) ∧ h1 67 (4 * e + 3) ≤ 999) by rw [k0, k2]; exact hr2) (show simC ((h1 66 6, h1 68) : xCs) (h1 66 6, h1 68) by rw [k0, k1]; exact simC_r (simC_0 ib)) (fun g2 h2 hg2 f2 => ?_)
  have hg2 : OFM (xup (xup h1 112 0 w) 66 0 0) g2 (allC (fun e => h1 67 (4 * e + 3)) (fun e => h1 67 (4 * e)) (h1 66 6, h1 68) (h1 66 4).toNat) := hg2
  rw [k0, k1, k2, m4] at hg2
  have sc := allC_sim (w := h 6) (x := h 3) (simC_0 ib) (h 1 2).toNat
  have ec := allC_congr (w := fun e => h 67 (4 * e + 3)) (x := fun e => h 67 (4 * e)) (w' := h 6) (x' := h 3) (h 66 6, h 68) (h 1 2).toNat (fun e z1 z2 => ⟨(tt e z1 (by omega)).2.2.2, (tt e z1 (by omega)).1⟩)
  rw [ec] at hg2
  obtain ⟨x1, x2, x3, x4⟩ := Inv_cs hI w sc hg f1 hg2 f2
  exact ⟨x1, x2, AG_v x3 (by rw [x4]; show _ = h2 66 6 - h1 66 6; rw [k0, m6])⟩
