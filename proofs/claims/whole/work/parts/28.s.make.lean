set_option maxHeartbeats 1000000 in
theorem m_make (d b : Nat) (h S T : xH) (ifs n0 : Int) (wt : Int → Int) (hx : xr ifs) (m : Nat) (o : OKS S T (S 0 0) (T 0 0) m) (hm : m = (h 66 4).toNat) (hn : 0 ≤ h 66 4 ∧ h 66 4 ≤ 12) (hR : RR (xup (xup h 66 0 0) 66 35 (h 66 2)) S) (hRT : RRT (xup (xup h 66 0 0) 66 35 (h 66 2)) T) (hF : FW n0 wt 9 S) (hT : FWT S 7 T) (h3 : 0 ≤ S 0 0 ∧ S 0 0 ≤ 300) (h4 : 0 ≤ T 0 0 ∧ T 0 0 ≤ 150)  {Q : xO → xH → Prop} (hA : ¬ (0 ≤ ifs ∧ ifs ≤ 3) → Q (.inl (some (.inl (0)))) (xup h 66 0 1)) (hS : (0 ≤ ifs ∧ ifs ≤ 3) → ¬ (h 66 4 ≠ 0) → Q (.inl (some (.inl (0)))) (xup h 66 0 2)) (hO : (0 ≤ ifs ∧ ifs ≤ 3) → (h 66 4 ≠ 0) → ∀ h' mT l9, SOLP (xup (xup h 66 0 0) 66 35 (h 66 2)) h' S T ifs → mT = (if ifs > 0 then 1 else 0) → ML d b ifs (sno (szf S T (S 0 0) (T 0 0) (-1) ifs.toNat (xshl 1 (h 66 4) - 1))) 1 mT 0 l9 h' Q) : xRn G0 MT (d + 7) b 233 [.inr (.inr 66), .inl ifs] h Q := by
  refine R_of (M := mX12_make) rfl (Nat.le_of_ble_eq_true rfl) ?_
  show xEx G0 cdX12_make (some .int) (xRn G0 MT (d + 6)) Q b 0 [some (.inr (.inr 66)), some (.inl ifs), none, none, none, none, none] [] h
  refine E_s 4 (i' := 4) (ls' := [some (.inr (.inr 66)), some (.inl ifs), none, none, none, none, none]) (sk' := [.inl 3, .inl 0, .inl ifs, .inr (.inr 66)]) (h' := h) rfl ?_
  refine E_cp (x := (.invokestatic 180, 3, [(0, 155)], [])) (q := fun r1 h9 => ((r1 = 1 ∧ (0 ≤ ifs ∧ ifs ≤ 3)) ∨ (r1 = 0 ∧ ¬ (0 ≤ ifs ∧ ifs ≤ 3))) ∧ h = h9) rfl rfl (Nat.le_of_ble_eq_true rfl) (m_isIn (d + 5) 0 (h) ifs 0 3 hx ⟨by omega, by omega⟩ ⟨by omega, by omega⟩ (fun z => ⟨_, rfl, Or.inl ⟨rfl, z⟩, rfl⟩) (fun z => ⟨_, rfl, Or.inr ⟨rfl, z⟩, rfl⟩)) (fun r1 h9 q1 => ?_)
  obtain ⟨q1, rfl⟩ := q1
  show xEx G0 cdX12_make (some .int) (xRn G0 MT (d + 6)) Q b 5 [some (.inr (.inr 66)), some (.inl ifs), none, none, none, none, none] [.inl r1, .inr (.inr 66)] h
  refine E_b (x := (.ifCond .ne 7, 8, [], [])) rfl rfl (fun c5 => ?_) (fun c5 => ?_)
  · rw [c_ne (by first | assumption | (refine ⟨?_, ?_⟩ <;> omega) | (simp only [xr] at *; omega)) (by first | assumption | (refine ⟨?_, ?_⟩ <;> omega) | (simp only [xr] at *; omega))] at c5
    simp only [decide_eq_true_eq, decide_eq_false_iff_not, Decidable.not_not] at c5
    show xEx G0 cdX12_make (some .int) (xRn G0 MT (d + 6)) Q b 8 [some (.inr (.inr 66)), some (.inl ifs), none, none, none, none, none] [.inr (.inr 66)] h
    refine E_s 2 (i' := 10) (ls' := [some (.inr (.inr 66)), some (.inl ifs), none, none, none, none, none]) (sk' := [.inl (h 66 4), .inr (.inr 66)]) (h' := h) rfl ?_
    refine E_b (x := (.ifCond .ne 7, 13, [], [])) rfl rfl (fun c10 => ?_) (fun c10 => ?_)
    · rw [c_ne (by first | assumption | (refine ⟨?_, ?_⟩ <;> omega) | (simp only [xr] at *; omega)) (by first | assumption | (refine ⟨?_, ?_⟩ <;> omega) | (simp only [xr] at *; omega))] at c10
      simp only [decide_eq_true_eq, decide_eq_false_iff_not, Decidable.not_not] at c10
      show xEx G0 cdX12_make (some .int) (xRn G0 MT (d + 6)) Q b 13 [some (.inr (.inr 66)), some (.inl ifs), none, none, none, none, none] [.inr (.inr 66)] h
      refine E_s 4 (i' := 17) (ls' := [some (.inr (.inr 66)), some (.inl ifs), none, none, none, none, none]) (sk' := [.inl 0]) (h' := (xup h 66 0 0)) rfl ?_
      refine E_b (x := (.ifCond .le 5, 20, [], [])) rfl rfl (fun c17 => ?_) (fun c17 => ?_)
      · show xEx G0 cdX12_make (some .int) (xRn G0 MT (d + 6)) Q b 20 [some (.inr (.inr 66)), some (.inl ifs), none, none, none, none, none] [] (xup h 66 0 0)
        refine E_s 6 (i' := 26) (ls' := [some (.inr (.inr 66)), some (.inl ifs), none, none, none, none, none]) (sk' := [.inl ifs, .inr (.inr 66)]) (h' := (xup (xup h 66 0 0) 66 35 (h 66 2))) rfl ?_
        refine E_cp (x := (.invokevirtual 407, 1, [(10, 231)], [0])) (q := fun r h9 => r = sno (szf S T (S 0 0) (T 0 0) (-1) ifs.toNat (xshl 1 (h 66 4) - 1)) ∧ SOLP (xup (xup h 66 0 0) 66 35 (h 66 2)) h9 S T ifs) rfl rfl (Nat.le_of_ble_eq_true rfl) (m_solves (d + 2) 0 (xup (xup h 66 0 0) 66 35 (h 66 2)) S T ifs n0 wt (o1 q1 (by omega)) (by show h 66 4 ≠ 0; omega) m o hm hn hR hRT hF hT h3 h4 (fun h9 z => ⟨_, rfl, rfl, z⟩)) (fun r2 h1 hq2 => ?_)
        obtain ⟨er2, sp⟩ := hq2
        show xEx G0 cdX12_make (some .int) (xRn G0 MT (d + 6)) Q b 27 [some (.inr (.inr 66)), some (.inl ifs), none, none, none, none, none] [.inl r2] h1
        refine E_ti (y := (sno (szf S T (S 0 0) (T 0 0) (-1) ifs.toNat (xshl 1 (h 66 4) - 1)))) (by rw [er2]) ?_
        refine E_s 4 (i' := 31) (ls' := [some (.inr (.inr 66)), some (.inl ifs), some (.inl (sno (szf S T (S 0 0) (T 0 0) (-1) ifs.toNat (xshl 1 (h 66 4) - 1)))), some (.inl 1), none, none, none]) (sk' := [.inl ifs]) (h' := h1) rfl ?_
        refine E_b (x := (.ifCond .le 7, 34, [], [])) rfl rfl (fun c31 => ?_) (fun c31 => ?_)
        · rw [c_le (by first | assumption | (refine ⟨?_, ?_⟩ <;> omega) | (simp only [xr] at *; omega)) (by first | assumption | (refine ⟨?_, ?_⟩ <;> omega) | (simp only [xr] at *; omega))] at c31
          simp only [decide_eq_true_eq, decide_eq_false_iff_not, Decidable.not_not] at c31
          show xEx G0 cdX12_make (some .int) (xRn G0 MT (d + 6)) Q b 34 [some (.inr (.inr 66)), some (.inl ifs), some (.inl (sno (szf S T (S 0 0) (T 0 0) (-1) ifs.toNat (xshl 1 (h 66 4) - 1)))), some (.inl 1), none, none, none] [] h1
          refine E_s 4 (i' := 38) (ls' := [some (.inr (.inr 66)), some (.inl ifs), some (.inl (sno (szf S T (S 0 0) (T 0 0) (-1) ifs.toNat (xshl 1 (h 66 4) - 1)))), some (.inl 1), some (.inl 0), some (.inl 0), none]) (sk' := []) (h' := h1) rfl ?_
          exact hO (o1 q1 (by omega)) (by omega) h1 0 none sp (by first | (rw [if_pos (by omega)]; done) | (rw [if_neg (by omega)]; done))
        · rw [c_le (by first | assumption | (refine ⟨?_, ?_⟩ <;> omega) | (simp only [xr] at *; omega)) (by first | assumption | (refine ⟨?_, ?_⟩ <;> omega) | (simp only [xr] at *; omega))] at c31
          simp only [decide_eq_true_eq, decide_eq_false_iff_not, Decidable.not_not] at c31
          show xEx G0 cdX12_make (some .int) (xRn G0 MT (d + 6)) Q b 32 [some (.inr (.inr 66)), some (.inl ifs), some (.inl (sno (szf S T (S 0 0) (T 0 0) (-1) ifs.toNat (xshl 1 (h 66 4) - 1)))), some (.inl 1), none, none, none] [] h1
          refine E_s 5 (i' := 38) (ls' := [some (.inr (.inr 66)), some (.inl ifs), some (.inl (sno (szf S T (S 0 0) (T 0 0) (-1) ifs.toNat (xshl 1 (h 66 4) - 1)))), some (.inl 1), some (.inl 1), some (.inl 0), none]) (sk' := []) (h' := h1) rfl ?_
          exact hO (o1 q1 (by omega)) (by omega) h1 1 none sp (by first | (rw [if_pos (by omega)]; done) | (rw [if_neg (by omega)]; done))
      · show xEx G0 cdX12_make (some .int) (xRn G0 MT (d + 6)) Q b 18 [some (.inr (.inr 66)), some (.inl ifs), none, none, none, none, none] [] (xup h 66 0 0)
        exact absurd c17 (by decide)
    · rw [c_ne (by first | assumption | (refine ⟨?_, ?_⟩ <;> omega) | (simp only [xr] at *; omega)) (by first | assumption | (refine ⟨?_, ?_⟩ <;> omega) | (simp only [xr] at *; omega))] at c10
      simp only [decide_eq_true_eq, decide_eq_false_iff_not, Decidable.not_not] at c10
      show xEx G0 cdX12_make (some .int) (xRn G0 MT (d + 6)) Q b 11 [some (.inr (.inr 66)), some (.inl ifs), none, none, none, none, none] [.inr (.inr 66)] h
      refine E_s 5 (i' := 17) (ls' := [some (.inr (.inr 66)), some (.inl ifs), none, none, none, none, none]) (sk' := [.inl 2]) (h' := (xup h 66 0 2)) rfl ?_
      refine E_b (x := (.ifCond .le 5, 20, [], [])) rfl rfl (fun c17 => ?_) (fun c17 => ?_)
      · show xEx G0 cdX12_make (some .int) (xRn G0 MT (d + 6)) Q b 20 [some (.inr (.inr 66)), some (.inl ifs), none, none, none, none, none] [] (xup h 66 0 2)
        exact absurd c17 (by decide)
      · show xEx G0 cdX12_make (some .int) (xRn G0 MT (d + 6)) Q b 18 [some (.inr (.inr 66)), some (.inl ifs), none, none, none, none, none] [] (xup h 66 0 2)
        refine E_s 1 (i' := 19) (ls' := [some (.inr (.inr 66)), some (.inl ifs), none, none, none, none, none]) (sk' := [.inl 0]) (h' := (xup h 66 0 2)) rfl ?_
        exact E_ret (x := (.ireturn, 0, [], [])) (v := some (.inl 0)) rfl (Or.inl rfl) (hS (o1 q1 (by omega)) (by omega))
  · rw [c_ne (by first | assumption | (refine ⟨?_, ?_⟩ <;> omega) | (simp only [xr] at *; omega)) (by first | assumption | (refine ⟨?_, ?_⟩ <;> omega) | (simp only [xr] at *; omega))] at c5
    simp only [decide_eq_true_eq, decide_eq_false_iff_not, Decidable.not_not] at c5
    show xEx G0 cdX12_make (some .int) (xRn G0 MT (d + 6)) Q b 6 [some (.inr (.inr 66)), some (.inl ifs), none, none, none, none, none] [.inr (.inr 66)] h
    refine E_s 5 (i' := 17) (ls' := [some (.inr (.inr 66)), some (.inl ifs), none, none, none, none, none]) (sk' := [.inl 1]) (h' := (xup h 66 0 1)) rfl ?_
    refine E_b (x := (.ifCond .le 5, 20, [], [])) rfl rfl (fun c17 => ?_) (fun c17 => ?_)
    · show xEx G0 cdX12_make (some .int) (xRn G0 MT (d + 6)) Q b 20 [some (.inr (.inr 66)), some (.inl ifs), none, none, none, none, none] [] (xup h 66 0 1)
      exact absurd c17 (by decide)
    · show xEx G0 cdX12_make (some .int) (xRn G0 MT (d + 6)) Q b 18 [some (.inr (.inr 66)), some (.inl ifs), none, none, none, none, none] [] (xup h 66 0 1)
      refine E_s 1 (i' := 19) (ls' := [some (.inr (.inr 66)), some (.inl ifs), none, none, none, none, none]) (sk' := [.inl 0]) (h' := (xup h 66 0 1)) rfl ?_
      exact E_ret (x := (.ireturn, 0, [], [])) (v := some (.inl 0)) rfl (Or.inl rfl) (hA (o0 q1 (by omega)))
/-- the class has made so far: the reference comes to the same -/
def PK (d : Nat) (h : xH) (ifs : Int) (hh SS TT : xH) (left mE mT te sz : Int) : Prop := (0 ≤ ifs ∧ ifs ≤ 3) ∧ h 1 2 ≠ 0 ∧ (-1 ≤ sz ∧ sz < 1000000) ∧ (∀ a, 66 ≤ a → hh a = h a) ∧ ∀ (hE : xH) (u : Int), (∀ a, 66 ≤ a → hE a = h a) → ∀ Qr : xO → xH → Prop, (∀ g l6, RI hh g SS TT → (∀ a, a < 66 → g a = hE a) → g 112 0 = u → g 66 35 = left → g 66 0 = 0 → ML (d + 3) 0 ifs sz mE mT te l6 g Qr) → xRn G0 MT (d + 10) 0 233 [.inr (.inr 66), .inl ifs] (xup hE 112 0 u) Qr
theorem PK_E {d : Nat} {h : xH} {ifs : Int} {m : Nat} (hm : m = (h 1 2).toNat) (hh SS TT : xH) (left mE mT r : Int) (h1 S1 h2 : xH) (left2 mE2 mT2 te2 : Int) (pk : PK d h ifs hh SS TT left mE mT 0 (-1)) (ci : CI hh SS TT) (ex9 : hh 1 = h 1) (lr : 0 ≤ left ∧ left ≤ 20000) (m1 : mE = 1) (_mTr : mT = 0 ∨ mT = 1) (G : GEr hh SS left r h1 S1) (ce1 : CE h1 S1) (st1 : STB SS S1) (f1 : FA hh h1) (hr : r ≠ 2) (sp3 : SETP h1 h2 S1 TT m ifs) (hl2 : left2 = left - (S1 0 2 - SS 0 2)) (he2 : mE2 = (if r = 0 then 1 else 0)) (ht2 : mT2 = mT) (hte : te2 = 1) : PK d h ifs h2 S1 TT left2 mE2 mT2 te2 (sno (szf S1 TT (S1 0 0) (TT 0 0) (-1) ifs.toNat (xshl 1 (h1 1 2) - 1))) := by
  obtain ⟨hi, he, -, ka, run⟩ := pk
  subst m1 ht2 hte
  have ci1 := CI_ge ci ce1 st1 f1
  have x1 : h1 1 = hh 1 := f1.1 _ (by decide)
  refine ⟨hi, he, sno_r (szf_r (p := -1) (OKS_ci ci1) ifs.toNat _), fun a z => by rw [sp3.1 a (by omega), f1.1 a (by omega)]; exact ka a z, fun hE u kE Qr H => run hE u kE Qr (fun g l6 ri fr gu gl g0 => ?_)⟩
  refine mk_E (d + 3) 0 g ifs l6 hh SS TT left r hi (by rw [ex9]; exact he) ci ri lr gl mT2 h1 S1 G ce1 st1 f1 ci1 (fun z => absurd z hr) (fun _ e2 g1 g2 l9 ee ri1 fs ll sp => ?_)
  rw [← he2] at ee
  subst ee
  rw [show g1 66 4 = h1 1 2 from ri1.1.1]
  refine H g2 l9 (RI_set ci1 ri1 sp3 sp) (fun a z => ?_) ?_ ?_ ?_
  · rw [sp.1 a (by omega) (by omega), fs.1 a (by omega)]; exact fr a z
  · rw [sp.1 _ (by decide) (by decide), fs.1 _ (by decide)]; exact gu
  · rw [sp.2.1 _ (by decide) (by decide) (by decide), ll, hl2]
  · rw [sp.2.1 _ (by decide) (by decide) (by decide), fs.2.1 _ (by decide) (by decide) (by decide) (by decide) (by decide) (by decide) (by decide)]; exact g0
theorem PK_T {d : Nat} {h : xH} {ifs : Int} {m : Nat} (hm : m = (h 1 2).toNat) (hh SS TT : xH) (left mE mT r : Int) (h1 T1 h2 : xH) (left2 mE2 mT2 te2 : Int) (pk : PK d h ifs hh SS TT left mE mT 1 (-1)) (ci : CI hh SS TT) (ex9 : hh 1 = h 1) (lr : 0 ≤ left ∧ left ≤ 20000) (m1 : mT = 1) (mEr : mE = 0 ∨ mE = 1) (G : GTr hh TT left r h1 T1) (ct1 : CT h1 SS T1) (st1 : STB TT T1) (f1 : FB hh h1) (hr : r ≠ 2) (sp3 : SETP h1 h2 SS T1 m ifs) (hl2 : left2 = left - (T1 0 2 - TT 0 2)) (he2 : mT2 = (if r = 0 then 1 else 0)) (ht2 : mE2 = mE) (hte : te2 = 0) : PK d h ifs h2 SS T1 left2 mE2 mT2 te2 (sno (szf SS T1 (SS 0 0) (T1 0 0) (-1) ifs.toNat (xshl 1 (h1 1 2) - 1))) := by
  obtain ⟨hi, he, -, ka, run⟩ := pk
  subst m1 ht2 hte
  have ci1 := CI_gt ci ct1 st1 f1
  have x1 : h1 1 = hh 1 := f1 _ (by decide)
  refine ⟨hi, he, sno_r (szf_r (p := -1) (OKS_ci ci1) ifs.toNat _), fun a z => by rw [sp3.1 a (by omega), f1 a (by omega)]; exact ka a z, fun hE u kE Qr H => run hE u kE Qr (fun g l6 ri fr gu gl g0 => ?_)⟩
  refine mk_T (d + 3) 0 g ifs l6 hh SS TT left r hi (by rw [ex9]; exact he) ci ri lr gl mE2 mEr h1 T1 G ct1 st1 f1 ci1 (fun z => absurd z hr) (fun _ e2 g1 g2 l9 ee ri1 fs ll sp => ?_)
  rw [← he2] at ee
  subst ee
  rw [show g1 66 4 = h1 1 2 from ri1.1.1]
  refine H g2 l9 (RI_set ci1 ri1 sp3 sp) (fun a z => ?_) ?_ ?_ ?_
  · rw [sp.1 a (by omega) (by omega), fs.1 a (by omega)]; exact fr a z
  · rw [sp.1 _ (by decide) (by decide), fs.1 _ (by decide)]; exact gu
  · rw [sp.2.1 _ (by decide) (by decide) (by decide), ll, hl2]
  · rw [sp.2.1 _ (by decide) (by decide) (by decide), fs.2.1 _ (by decide) (by decide) (by decide) (by decide) (by decide) (by decide) (by decide) (by decide)]; exact g0
theorem PK_K {d : Nat} {h : xH} {ifs : Int} (hh SS TT : xH) (left mE mT te te2 : Int) (pk : PK d h ifs hh SS TT left mE mT te (-1)) (z : (te = 0 ∧ te2 = 1 ∧ mE = 0 ∧ mT = 1) ∨ (te = 1 ∧ te2 = 0 ∧ mT = 0 ∧ mE = 1)) : PK d h ifs hh SS TT left mE mT te2 (-1) := by
  obtain ⟨hi, he, zr, ka, run⟩ := pk
  refine ⟨hi, he, zr, ka, fun hE u kE Qr H => run hE u kE Qr (fun g l6 ri fr gu gl g0 => ?_)⟩
  have q := H g l6 ri fr gu gl g0
  rcases z with ⟨rfl, rfl, rfl, rfl⟩ | ⟨rfl, rfl, rfl, rfl⟩
  · exact mk_K0 _ _ _ _ _ q
  · exact mk_K1 _ _ _ _ _ q
set_option maxHeartbeats 1000000 in
theorem CO_make (d : Nat) {h : xH} (hI : Inv h) (ifs : Int) (hx : xr ifs) : CO (d + 10) 2 122 233 [.inl ifs] ["java/lang/IllegalArgumentException", "java/lang/IllegalStateException"] h := by
  obtain ⟨S, T, ci, ri⟩ := Inv_i.mp hI
  obtain ⟨v1, v2, v3, v4, v5, v6⟩ := EV_ci ci
  have n1 : 0 ≤ h 1 2 ∧ h 1 2 ≤ 12 := ci.1.1
  have m4 : h 66 4 = h 1 2 := ri.1.1
  have n8 : 0 ≤ h 66 4 ∧ h 66 4 ≤ 12 := by rw [m4]; exact n1
  have o := OKS_ci ci
  have is0 : IS h S T := ci.2.2.2.2.1
  have nq : h 66 4 ≠ 0 ↔ h 1 2 ≠ 0 := by rw [m4]
  have fu : ∀ u, FM h (xup h 112 0 u) := fun u => (FM.rf h).up (Or.inl (by unfold scr; decide))
  obtain ⟨rr, rrt⟩ := RI_rr ri
  have hm8 : (h 1 2).toNat = (h 66 4).toNat := by rw [m4]
  refine o_make d h S T ifs hx ci _ rfl (PK d h ifs) (fun q u => ?_) (fun q q2 u => ?_) (fun hi he h1 mT sp hmT => ?_) (fun hh SS TT left mE mT r h1 S1 h2 left2 mE2 mT2 te2 => PK_E rfl hh SS TT left mE mT r h1 S1 h2 left2 mE2 mT2 te2) (fun hh SS TT left mE mT r h1 T1 h2 left2 mE2 mT2 te2 => PK_T rfl hh SS TT left mE mT r h1 T1 h2 left2 mE2 mT2 te2) (fun hh SS TT left mE mT te te2 => PK_K hh SS TT left mE mT te te2) (fun hh SS TT left mE mT h1 S1 pk ci9 ex9 lr m1 mTr G ce1 st1 f1 u => ?_) (fun hh SS TT left mE mT h1 T1 pk ci9 ex9 lr m1 mEr G ct1 st1 f1 u => ?_) (fun hh SS TT left mE mT te sz pk ci9 hz mEr mTr u => ?_)
  · exact m_make (d + 3) 0 (xup h 112 0 u) S T ifs (h 1 2) (h 6) hx _ o (hm8) (n8) (RI_rr (RI_go (g := xup (xup (xup h 112 0 u) 66 0 0) 66 35 (h 66 2)) v3.2 v6.2 (fun _ _ => rfl) ((((FM.rf h).up (Or.inl (by unfold scr; decide))).up (Or.inr ⟨rfl, by unfold mdf; decide⟩)).up (Or.inr ⟨rfl, by unfold mdf; decide⟩)) ri)).1 (RI_rr (RI_go (g := xup (xup (xup h 112 0 u) 66 0 0) 66 35 (h 66 2)) v3.2 v6.2 (fun _ _ => rfl) ((((FM.rf h).up (Or.inl (by unfold scr; decide))).up (Or.inr ⟨rfl, by unfold mdf; decide⟩)).up (Or.inr ⟨rfl, by unfold mdf; decide⟩)) ri)).2 v2 v5 v3 v6 (fun _ => CO_x hI 0 rfl u 0) (fun z9 => absurd z9 q) (fun z9 => absurd z9 q)
  · exact m_make (d + 3) 0 (xup h 112 0 u) S T ifs (h 1 2) (h 6) hx _ o (hm8) (n8) (RI_rr (RI_go (g := xup (xup (xup h 112 0 u) 66 0 0) 66 35 (h 66 2)) v3.2 v6.2 (fun _ _ => rfl) ((((FM.rf h).up (Or.inl (by unfold scr; decide))).up (Or.inr ⟨rfl, by unfold mdf; decide⟩)).up (Or.inr ⟨rfl, by unfold mdf; decide⟩)) ri)).1 (RI_rr (RI_go (g := xup (xup (xup h 112 0 u) 66 0 0) 66 35 (h 66 2)) v3.2 v6.2 (fun _ _ => rfl) ((((FM.rf h).up (Or.inl (by unfold scr; decide))).up (Or.inr ⟨rfl, by unfold mdf; decide⟩)).up (Or.inr ⟨rfl, by unfold mdf; decide⟩)) ri)).2 v2 v5 v3 v6 (fun z9 => absurd q z9) (fun _ _ => CO_x hI 1 rfl u 0) (fun _ z9 => absurd (nq.mp z9) q2)
  · refine ⟨hi, he, sno_r (szf_r (p := -1) o ifs.toNat _), fun a z => sp.1 a (by omega), fun hE u kE Qr H => ?_⟩
    have r1 := RI_go (g := xup (xup (xup hE 112 0 u) 66 0 0) 66 35 (hE 66 2)) v3.2 v6.2 kE ((((FM.rf hE).up (Or.inl (by unfold scr; decide))).up (Or.inr ⟨rfl, by unfold mdf; decide⟩)).up (Or.inr ⟨rfl, by unfold mdf; decide⟩)) ri
    have e4 : (xup hE 112 0 u) 66 4 = h 1 2 := by show hE 66 4 = _; rw [kE _ (by decide)]; exact m4
    refine m_make (d + 3) 0 (xup hE 112 0 u) S T ifs (h 1 2) (h 6) hx _ o (by rw [e4]) (by rw [e4]; exact n1) (RI_rr r1).1 (RI_rr r1).2 v2 v5 v3 v6 (fun z9 => absurd hi z9) (fun _ z9 => absurd (by rw [e4]; exact he) z9) (fun _ _ g mT9 l9 sp2 e9 => ?_)
    rw [← hmT] at e9
    subst e9
    rw [e4]
    refine H g l9 (RI_set ci r1 sp sp2) (fun a z => ?_) ?_ ?_ ?_
    · rw [sp2.1 a (by omega) (by omega), xup_o _ _ _ _ a (by omega), xup_o _ _ _ _ a (by omega), xup_o _ _ _ _ a (by omega)]
    · rw [sp2.1 _ (by decide) (by decide)]; rfl
    · rw [sp2.2.1 _ (by decide) (by decide) (by decide), xup_s]
      show hE 66 2 = _
      rw [kE _ (by decide)]; exact ri.1.2.2.2.2.1
    · rw [sp2.2.1 _ (by decide) (by decide) (by decide)]; rfl
  · obtain ⟨hi, he, -, ka, run⟩ := pk
    subst m1
    have ci1 := CI_ge ci9 ce1 st1 f1
    refine run h1 u (fun a z => by rw [f1.1 a (by omega)]; exact ka a z) _ (fun g l6 ri9 fr gu gl g0 => ?_)
    refine mk_E (d + 3) 0 g ifs l6 hh SS TT left 2 hi (by rw [ex9]; exact he) ci9 ri9 lr gl mT h1 S1 G ce1 st1 f1 ci1 (fun _ g1 ri1 fs => ?_) (fun z => absurd rfl z)
    refine ⟨Inv_mk (fun a z => by rw [fs.1 a (by omega)]; exact fr a z) ci1 ri1, by rw [fs.1 _ (by decide)]; exact gu, AG_v (by rw [fs.2.1 _ (by decide) (by decide) (by decide) (by decide) (by decide) (by decide) (by decide)]; exact g0) rfl⟩
  · obtain ⟨hi, he, -, ka, run⟩ := pk
    subst m1
    have ci1 := CI_gt ci9 ct1 st1 f1
    refine run h1 u (fun a z => by rw [f1 a (by omega)]; exact ka a z) _ (fun g l6 ri9 fr gu gl g0 => ?_)
    refine mk_T (d + 3) 0 g ifs l6 hh SS TT left 2 hi (by rw [ex9]; exact he) ci9 ri9 lr gl mE mEr h1 T1 G ct1 st1 f1 ci1 (fun _ g1 ri1 fs => ?_) (fun z => absurd rfl z)
    refine ⟨Inv_mk (fun a z => by rw [fs.1 a (by omega)]; exact fr a z) ci1 ri1, by rw [fs.1 _ (by decide)]; exact gu, AG_v (by rw [fs.2.1 _ (by decide) (by decide) (by decide) (by decide) (by decide) (by decide) (by decide) (by decide)]; exact g0) rfl⟩
  · obtain ⟨hi, he, zr, ka, run⟩ := pk
    refine run hh u ka _ (fun g l6 ri9 fr gu gl g0 => mk_Z (d + 3) 0 g ifs l6 sz mE mT te zr mEr mTr hz ?_)
    exact ⟨Inv_mk fr ci9 ri9, gu, AG_v g0 rfl⟩
