set_option maxHeartbeats 1000000 in
theorem CO_drop (d : Nat) {h : xH} (hI : Inv h) (p : Int) (hp : xr p) : CO (d + 6) 1 99 163 [.inl p] ["java/util/NoSuchElementException"] h := by
  obtain ⟨c1, c2, c3, c4, c5, c6, m4, m1, m6, m3, m2, tt, kk⟩ := (show IB h from hI.choose_spec.choose_spec.1)
  have e2 : 0 ≤ h 66 4 ∧ h 66 4 ≤ 12 := by rw [m4]; exact c1
  refine o_drop d h p hp (Inv_K hI) c1 (fun q g h1 hg f1 w => ?_) (fun q w => ?_)
  · have k0 : h1 66 = h 66 := (FGC_m f1 _ (by decide)).trans (hg.1 _ (by decide) (by decide))
    have k1 : h1 68 = h 68 := (FGC_m f1 _ (by decide)).trans (hg.1 _ (by decide) (by decide))
    have k2 : h1 67 = h 67 := (FGC_m f1 _ (by decide)).trans (hg.1 _ (by decide) (by decide))
    have j4 : h1 66 4 = h 1 2 := by rw [k0]; exact m4
    refine m_drop (d + 3) 0 (xup h1 112 0 w) p hp (show 0 ≤ h1 66 4 ∧ h1 66 4 ≤ 12 by omega) (fun _ hh h2 hh9 f2 => ?_) (fun z => absurd (show 0 ≤ p ∧ p < h1 66 4 by omega) z)
    obtain ⟨t1, t2⟩ := hh9
    have t2 : ∀ j, hh 67 j = if 4 * p ≤ j ∧ j < 4 * h1 66 4 - 4 then h1 67 (j + 4) else h1 67 j := t2
    rw [j4, k2] at t2
    obtain ⟨g1, g2, g3, g4⟩ := hg
    refine ⟨Inv_re hI (fun a ha => g1 a (by omega) (by omega)) f1 (fun a z1 z2 z3 z4 => by rw [xup_o _ _ _ _ a z1, t1 a z2, xup_o _ _ _ _ a z1, xup_o _ _ _ _ a z4]) (by rw [xup_j (by decide), t1 _ (by decide)]; rfl) f2 ?_, by rw [FGR_o f2, xup_o _ _ _ _ _ (by decide), t1 _ (by decide)]; rfl, AG_v (by rw [FGR_m f2 (by decide), xup_j (by decide), t1 _ (by decide)]; rfl) (by rw [FGR_m f2 (by decide), xup_s, FGC_k f1 1 (by decide), g4]; show _ = h1 66 4 - 1; omega)⟩
    have j : ∀ i : Int, i ≠ 4 → i ≠ 0 → xup hh 66 4 (xup h1 112 0 w 66 4 - 1) 66 i = h 66 i := fun i z1 z2 => by rw [xup_j z1, t1 _ (by decide), xup_j z2, xup_o _ _ _ _ _ (by decide), k0]
    refine IB_w (g1 := g) (fun a ha => by rw [xup_o _ _ _ _ a (by omega), t1 a (by omega), xup_o _ _ _ _ a (by omega), xup_o _ _ _ _ a (by omega), FGC_k f1 a ha]) (by rw [g4]; omega) (by rw [g3 1 (by decide)]; exact c2) ?_ (by rw [g1 7 (by decide) (by decide)]; exact c4) (by rw [g1 7 (by decide) (by decide), g1 8 (by decide) (by decide)]; exact c5) (by rw [g1 0 (by decide) (by decide)]; exact c6) (by rw [xup_s, g4]; show h1 66 4 - 1 = _; omega) (by rw [j _ (by decide) (by decide), g3 1 (by decide)]; exact m1) (by rw [j _ (by decide) (by decide), g1 7 (by decide) (by decide)]; exact m6) (by rw [j _ (by decide) (by decide), g1 7 (by decide) (by decide)]; exact m3) (by rw [j _ (by decide) (by decide), g1 0 (by decide) (by decide)]; exact m2) ?_ ?_
    · intro e z1 z2
      rw [g4] at z2
      rw [g2 3 (by decide) (by decide) e, g2 4 (by decide) (by decide) e, g2 5 (by decide) (by decide) e, g2 6 (by decide) (by decide) e]
      by_cases he : p ≤ e ∧ e < h 1 2 - 1
      · rw [if_pos he, if_pos he, if_pos he, if_pos he]
        exact c3 (e + 1) (by omega) (by omega)
      · rw [if_neg he, if_neg he, if_neg he, if_neg he]
        exact c3 e z1 (by omega)
    · intro e z1 z2
      rw [g4] at z2
      rw [g2 3 (by decide) (by decide) e, g2 4 (by decide) (by decide) e, g2 5 (by decide) (by decide) e, g2 6 (by decide) (by decide) e, xup_o _ _ _ _ _ (by decide), t2, t2, t2, t2]
      by_cases he : p ≤ e
      · rw [if_pos (by omega), if_pos (by omega), if_pos (by omega), if_pos (by omega), if_pos (by omega), if_pos (by omega), if_pos (by omega), if_pos (by omega)]
        have := tt (e + 1) (by omega) (by omega)
        rw [show 4 * e + 4 = 4 * (e + 1) by omega, show 4 * e + 1 + 4 = 4 * (e + 1) + 1 by omega, show 4 * e + 2 + 4 = 4 * (e + 1) + 2 by omega, show 4 * e + 3 + 4 = 4 * (e + 1) + 3 by omega]
        exact this
      · rw [if_neg (by omega), if_neg (by omega), if_neg (by omega), if_neg (by omega), if_neg (by omega), if_neg (by omega), if_neg (by omega), if_neg (by omega)]
        exact tt e z1 (by omega)
    · rw [g1 7 (by decide) (by decide), g1 8 (by decide) (by decide), xup_o _ _ _ _ _ (by decide), t1 _ (by decide), xup_o _ _ _ _ _ (by decide), xup_o _ _ _ _ _ (by decide), k1]
      exact kk
  · exact m_drop (d + 3) 0 (xup h 112 0 w) p hp e2 (fun z => absurd (show 0 ≤ p ∧ p < h 1 2 by have z : 0 ≤ p ∧ p < h 66 4 := z; omega) q) (fun _ => CO_x hI 0 rfl w 0)
set_option maxHeartbeats 1000000 in
theorem CO_part (d : Nat) {h : xH} (hI : Inv h) (p m : Int) (hp : xr p) (hm : m = 0 ∨ m = 1) : CO (d + 6) 1 100 165 [.inl p, .inl m] ["java/lang/IllegalArgumentException"] h := by
  obtain ⟨c1, c2, c3, c4, c5, c6, m4, m1, m6, m3, m2, tt, kk⟩ := (show IB h from hI.choose_spec.choose_spec.1)
  refine o_part d h p m hp hm (Inv_K hI) (fun q r v h1 hr hv f1 w => ?_) (fun q w => ?_)
  · have k0 : h1 66 = h 66 := (FGC_m f1 _ (by decide)).trans (by rw [xup_o _ _ _ _ _ (by decide)])
    have k1 : h1 68 = h 68 := (FGC_m f1 _ (by decide)).trans (by rw [xup_o _ _ _ _ _ (by decide)])
    have k2 : h1 67 = h 67 := (FGC_m f1 _ (by decide)).trans (by rw [xup_o _ _ _ _ _ (by decide)])
    have j3 : h1 66 3 = h 7 2 := by rw [k0]; exact m3
    refine m_part (d + 3) 0 (xup h1 112 0 w) p m hp hm (fun _ r2 v2 h2 hr2 hv2 f2 => ?_) (fun z => absurd q z)
    have hr2 : ((r2 = 0 ∧ (xand (xshr (h1 66 3) p) 1 = 1 ↔ m = 1)) ∨ (r2 = 1 ∧ ¬ (xand (xshr (h1 66 3) p) 1 = 1 ↔ m = 1))) := hr2
    have hv2 : v2 = (if m = 0 then xand (h1 66 3) (xxor (xshl 1 p) (-1)) else xor_ (h1 66 3) (xshl 1 p)) := hv2
    rw [j3] at hr2 hv2
    have ev : v2 = v := by rw [hv, hv2]
    subst ev
    refine ⟨Inv_re hI (fun a ha => by rw [xup_o _ _ _ _ a (by omega)]) f1 (fun a z1 z2 z3 z4 => by rw [xup_o _ _ _ _ a z1, xup_o _ _ _ _ a z1, xup_o _ _ _ _ a z4]) (by rfl) f2 ?_, by rw [FGR_o f2]; rfl, AG_v (by rw [FGR_m f2 (by decide)]; rfl) (by
      by_cases z : (xand (xshr (h 7 2) p) 1 = 1 ↔ m = 1)
      · rcases hr with ⟨a, -⟩ | ⟨-, a⟩
        · rcases hr2 with ⟨a2, -⟩ | ⟨-, a2⟩
          · rw [a, a2]
          · exact absurd z a2
        · exact absurd z a
      · rcases hr with ⟨-, a⟩ | ⟨a, -⟩
        · exact absurd a z
        · rcases hr2 with ⟨-, a2⟩ | ⟨a2, -⟩
          · exact absurd a2 z
          · rw [a, a2])⟩
    refine IB_w (g1 := xup h 7 2 v2) (fun a ha => by rw [xup_o _ _ _ _ a (by omega), xup_o _ _ _ _ a (by omega), xup_o _ _ _ _ a (by omega), FGC_k f1 a ha]) c1 c2 c3 c4 c5 c6 (show h1 66 4 = _ by rw [k0]; exact m4) (show h1 66 1 = _ by rw [k0]; exact m1) (show h1 66 6 = _ by rw [k0]; exact m6) rfl (show h1 66 2 = _ by rw [k0]; exact m2) ?_ ?_
    · show ∀ e, 0 ≤ e → e < h 1 2 → h1 67 (4 * e) = h 3 e ∧ h1 67 (4 * e + 1) = h 4 e ∧ h1 67 (4 * e + 2) = h 5 e ∧ h1 67 (4 * e + 3) = h 6 e
      rw [k2]; exact tt
    · show ∀ i, 0 ≤ i → i < h 7 1 → h1 68 i = h 8 i
      rw [k1]; exact kk
  · exact m_part (d + 3) 0 (xup h 112 0 w) p m hp hm (fun z => absurd z q) (fun _ => CO_x hI 0 rfl w 0)
