/-! each call of the class beside the reference's -/
theorem E_cx {G : List xS} {cd : List xI} {rt : Option FieldType} {call : xCal} {Q : xO → xH → Prop} {b1 b2 i : Nat} {ls : xL} {sk : List xV} {h : xH} {x : xI} {mm : Nat} {as rest : List xV} {v : Option xV} {q : xH → Prop} (hx : cd[i]? = some x) (hs : xcl G x sk = some (mm, as, rest)) (hw : (rest.map xcat).sum ≤ 8) (hU : x.2.2.2.head? = some 1 → False) (hc : call b1 mm as h (fun o h9 => (o = .inl v ∧ q h9) ∨ ∃ E, o = .inr E ∧ Q (.inr E) h9)) (hk : ∀ h' : xH, q h' → xEx G cd rt call Q b2 (i + 1) ls (v.toList ++ rest) h') : xEx G cd rt call Q (b1 + b2) i ls sk h := by
  refine E_call hx hs hw (fun z => (hU z).elim) hc (fun v9 h9 z => ?_) (fun E h9 z => ?_)
  · rcases z with ⟨z1, z2⟩ | ⟨E, z1, -⟩
    · cases z1
      exact hk h9 z2
    · cases z1
  · rcases z with ⟨z1, -⟩ | ⟨E9, z1, z2⟩
    · cases z1
    · cases z1
      exact z2
/-- what both came to -/
def AG (ex : List String) (o o2 : xO) (h2 : xH) : Prop := ∃ r2 : Int, o2 = .inl (some (.inl r2)) ∧ ((∃ r1 : Int, o = .inl (some (.inl r1)) ∧ h2 66 0 = 0 ∧ w32 r1 = w32 r2) ∨ ∃ (k : Nat) (E : String), o = .inr E ∧ ex[k]? = some E ∧ h2 66 0 = (k : Int) + 1)
/-- a call of the class, what the law notes, then the reference's -/
def CO (d b mc mr : Nat) (as : List xV) (ex : List String) (h : xH) : Prop := xRn G0 MT d b mc (.inr (.inr 0) :: as) h (fun o h1 => ∀ w : Int, xRn G0 MT d 0 mr (.inr (.inr 66) :: as) (xup h1 112 0 w) (fun o2 h2 => Inv h2 ∧ h2 112 0 = w ∧ AG ex o o2 h2))
theorem AG_v {ex : List String} {r1 r2 : Int} {h2 : xH} (e : h2 66 0 = 0) (hr : r1 = r2) : AG ex (.inl (some (.inl r1))) (.inl (some (.inl r2))) h2 := ⟨r2, rfl, Or.inl ⟨r1, rfl, e, by rw [hr]⟩⟩
theorem AG_w {ex : List String} {r1 r2 : Int} {h2 : xH} (e : h2 66 0 = 0) (hr : w32 r1 = w32 r2) : AG ex (.inl (some (.inl r1))) (.inl (some (.inl r2))) h2 := ⟨r2, rfl, Or.inl ⟨r1, rfl, e, hr⟩⟩
theorem AG_x {ex : List String} {E : String} {r2 : Int} {h2 : xH} (k : Nat) (hE : ex[k]? = some E) (e : h2 66 0 = (k : Int) + 1) : AG ex (.inr E) (.inl (some (.inl r2))) h2 := ⟨r2, rfl, Or.inr ⟨k, E, rfl, hE, e⟩⟩
/-- nothing that counts has changed, but the reference's word on throws -/
theorem Inv_th {h : xH} (i : Inv h) (v : Int) : Inv (xup h 66 0 v) := Inv_fr ((FM.rf h).up (Or.inr ⟨rfl, by unfold mdf; decide⟩)) i
/-- all that was MADE goes, in the class -/
def FGC (h h' : xH) : Prop := (∀ a, a ≠ 25 → a ≠ 9 → a ≠ 23 → a ≠ 43 → a ≠ 28 → a ≠ 42 → a ≠ 44 → a ≠ 56 → h' a = h a) ∧ (∀ j, 14 < j → h' 9 j = h 9 j) ∧ (h' 9 9 = 0 ∧ h' 9 10 = 0 ∧ h' 9 11 = 0 ∧ h' 9 12 = 0 ∧ h' 9 13 = 0 ∧ h' 9 14 = 0) ∧ (∀ j, 0 ≤ j → j < 10 → h' 23 j = 0) ∧ chn h' 0 ∧
  (∀ j, 14 < j → h' 28 j = h 28 j) ∧ (h' 28 9 = 0 ∧ h' 28 10 = 0 ∧ h' 28 11 = 0 ∧ h' 28 12 = 0 ∧ h' 28 13 = 0 ∧ h' 28 14 = 0) ∧ (∀ j, 0 ≤ j → j < 8 → h' 42 j = 0) ∧ num h' 0 ∧ h' 44 13 = 0 ∧ (∀ j, j ≠ 13 → h' 44 j = h 44 j) ∧ h' 56 4 = 0
/-- and in the reference -/
def FGR (h h' : xH) : Prop := (∀ a, a ≠ 66 → a ≠ 88 → a ≠ 89 → a ≠ 90 → a ≠ 91 → h' a = h a) ∧ (∀ j, j ≠ 8 → j ≠ 19 → j ≠ 33 → j ≠ 50 → h' 66 j = h 66 j) ∧ (h' 66 8 = 0 ∧ h' 66 19 = 0 ∧ h' 66 33 = 0 ∧ h' 66 50 = 0) ∧ ∀ j, 0 ≤ j → j < 2 → h' 88 j = 0 ∧ h' 89 j = 0 ∧ h' 90 j = 0 ∧ h' 91 j = 0
theorem Inv_goes {h : xH} (ib : IB h) (ix : IX h) (e9 : h 9 9 = 0 ∧ h 9 10 = 0 ∧ h 9 11 = 0 ∧ h 9 12 = 0 ∧ h 9 13 = 0 ∧ h 9 14 = 0) (e23 : ∀ j, 0 ≤ j → j < 10 → h 23 j = 0) (hc : chn h 0) (r9 : (0 ≤ h 9 16 ∧ h 9 16 ≤ 20000) ∧ 0 ≤ h 9 17 ∧ h 9 17 ≤ 2) (e28 : h 28 9 = 0 ∧ h 28 10 = 0 ∧ h 28 11 = 0 ∧ h 28 12 = 0 ∧ h 28 13 = 0 ∧ h 28 14 = 0) (e42 : ∀ j, 0 ≤ j → j < 8 → h 42 j = 0) (hn : num h 0) (r28 : (0 ≤ h 28 16 ∧ h 28 16 ≤ 20000) ∧ 0 ≤ h 28 17 ∧ h 28 17 ≤ 2)
  (e44 : h 44 13 = 0 ∧ xr (h 44 10) ∧ xr (h 44 11) ∧ xr (h 44 12)) (e56 : h 56 4 = 0) (m : h 66 8 = 0 ∧ h 66 19 = 0 ∧ h 66 33 = 0 ∧ h 66 50 = 0) (z : ∀ j, 0 ≤ j → j < 2 → h 88 j = 0 ∧ h 89 j = 0 ∧ h 90 j = 0 ∧ h 91 j = 0) : Inv h := by
  obtain ⟨a1, a2, a3, a4, a5, a6⟩ := e9
  obtain ⟨b1, b2, b3, b4, b5, b6⟩ := e28
  obtain ⟨m1, m2, m3, m4⟩ := m
  obtain ⟨z1, z2, z3, z4⟩ := z 0 (by omega) (by omega)
  obtain ⟨y1, y2, y3, y4⟩ := z 1 (by omega) (by omega)
  refine ⟨fun a j => if a = 0 then (if j = 3 then h 9 16 else if j = 4 then h 9 17 else 0) else 0, fun a j => if a = 0 then (if j = 3 then h 28 16 else if j = 4 then h 28 17 else 0) else 0, ib, ⟨⟨a1, a2, a4, rfl, rfl, fun k q1 q2 => absurd q2 (Int.not_lt.mpr q1), fun k e q1 q2 => absurd q2 (Int.not_lt.mpr q1), hc, fun k q1 q2 => absurd q2 (Int.not_lt.mpr q1)⟩, ⟨m1, z2, fun k q1 q2 => absurd q2 (Int.not_lt.mpr q1), fun k e q1 q2 => absurd q2 (Int.not_lt.mpr q1)⟩, ?_, ⟨e23 0 (by omega) (by omega), fun s q1 q2 => by rw [e23 s q1 (by omega)]; exact ⟨Int.le_refl _, Int.le_refl _⟩, fun s k q1 q2 q3 q4 => absurd q4 (Int.not_lt.mpr q3)⟩, fun k q1 q2 => absurd q2 (Int.not_lt.mpr q1), fun _ k q1 q2 => absurd q2 (Int.not_lt.mpr q1), by rw [a5]; omega, by rw [a6]; omega, by rw [z1, a5], by rw [z4, a6], a3, z3, by rw [a5, a6]; exact Int.le_refl _⟩,
    ⟨⟨b1, b2, b4, rfl, rfl, b3, fun k q1 q2 => absurd q2 (Int.not_lt.mpr q1), hn⟩, ⟨m2, y2, m3, fun k q1 q2 => absurd q2 (Int.not_lt.mpr q1)⟩, ?_, ⟨e42 0 (by omega) (by omega), fun s q1 q2 => by rw [e42 s q1 (by omega)]; exact ⟨Int.le_refl _, Int.le_refl _⟩, fun s k q1 q2 q3 q4 => absurd q4 (Int.not_lt.mpr q3)⟩, fun k q1 q2 => absurd q2 (Int.not_lt.mpr q1), fun _ k q1 q2 => absurd q2 (Int.not_lt.mpr q1), Or.inl b5, by rw [b6]; omega, by rw [y1, b5], by rw [y4, b6], y3, by rw [b5, b6]; exact Int.le_refl _⟩,
    ⟨Or.inl e56, by rw [m4, e56], fun q => absurd (e56.symm.trans q) (by decide)⟩, ⟨Or.inl e44.1, e44.2, fun q => absurd (e44.1.symm.trans q) (by decide)⟩, ix⟩
  · refine ⟨Int.le_refl _, (show (0 : Int) ≤ 300 by decide), fun k e q1 q2 => absurd q2 (Int.not_lt.mpr q1), fun j k q1 q2 q3 => absurd (Int.lt_of_le_of_lt q1 q2) (Int.not_lt.mpr (Int.le_of_lt q3)), fun k q1 q2 => absurd q2 (Int.not_lt.mpr q1), Int.le_refl _, Int.le_refl _, ?_, r9.1.1, r9.1.2, r9.2.1, r9.2.2⟩
    show (0 : Int) + h 9 16 ≤ 400000
    omega
  · refine ⟨Int.le_refl _, (show (0 : Int) ≤ 150 by decide), fun k q1 q2 => absurd q2 (Int.not_lt.mpr q1), fun j k q1 q2 q3 => absurd (Int.lt_of_le_of_lt q1 q2) (Int.not_lt.mpr (Int.le_of_lt q3)), fun k q1 q2 => absurd q2 (Int.not_lt.mpr q1), Int.le_refl _, Int.le_refl _, ?_, r28.1.1, r28.1.2, r28.2.1, r28.2.2, Int.le_refl _, Int.le_refl _⟩
    show (0 : Int) + h 28 16 ≤ 400000
    omega
/-- the class changes what was told, all goes; then the reference -/
theorem Inv_re {h g1 h1 g2 h2 : xH} (hI : Inv h) (e1 : ∀ a, 9 ≤ a → g1 a = h a) (f1 : FGC g1 h1) (e2 : ∀ a, a ≠ 66 → a ≠ 67 → a ≠ 68 → a ≠ 112 → g2 a = h1 a) (e3 : g2 66 45 = h1 66 45) (f2 : FGR g2 h2) (ib : IB g2) : Inv h2 := by
  obtain ⟨S, T, -, ie, it, -, is_, ix⟩ := hI
  obtain ⟨c1, c2, c3, c4, c5, c6, c7, c8, c9, c10, c11, c12⟩ := f1
  obtain ⟨d1, d2, d3, d4⟩ := f2
  have u : ∀ a, a < 66 → h2 a = h1 a := fun a ha => (d1 a (by omega) (by omega) (by omega) (by omega) (by omega)).trans (e2 a (by omega) (by omega) (by omega) (by omega))
  have ur : ∀ a, (a = 64 ∨ a = 65 ∨ a = 96) → h2 a = h a := fun a ha => by
    rw [d1 a (by omega) (by omega) (by omega) (by omega) (by omega), e2 a (by omega) (by omega) (by omega) (by omega), c1 a (by omega) (by omega) (by omega) (by omega) (by omega) (by omega) (by omega) (by omega)]
    exact e1 a (by omega)
  have g9 : ∀ j, 14 < j → h1 9 j = h 9 j := fun j q => by rw [c2 j q, e1 _ (by decide)]
  have g28 : ∀ j, 14 < j → h1 28 j = h 28 j := fun j q => by rw [c6 j q, e1 _ (by decide)]
  have g44 : ∀ j, j ≠ 13 → h1 44 j = h 44 j := fun j q => by rw [c11 j q, e1 _ (by decide)]
  have m66 : h1 66 = h 66 := by rw [c1 66 (by decide) (by decide) (by decide) (by decide) (by decide) (by decide) (by decide) (by decide), e1 _ (by decide)]
  obtain ⟨p1, p2, p3, p4, p5, -⟩ := ie.1
  obtain ⟨w1, w2, w3, w4, w5, w6, w7, w8, w9, w10, w11, w12⟩ := ie.2.2.1
  obtain ⟨t1, t2, t3, t4, t5, -⟩ := it.1
  obtain ⟨v1, v2, v3, v4, v5, v6, v7, v8, v9, v10, v11, v12, -⟩ := it.2.2.1
  refine Inv_goes (IB_fr (fun a ha => d1 a (by omega) (by omega) (by omega) (by omega) (by omega)) ⟨d2 _ (by decide) (by decide) (by decide) (by decide), d2 _ (by decide) (by decide) (by decide) (by decide), d2 _ (by decide) (by decide) (by decide) (by decide), d2 _ (by decide) (by decide) (by decide) (by decide), d2 _ (by decide) (by decide) (by decide) (by decide)⟩ (d1 _ (by decide) (by decide) (by decide) (by decide) (by decide)) (d1 _ (by decide) (by decide) (by decide) (by decide) (by decide)) ib) (IX_fr (ur _ (by decide)) (ur _ (by decide)) (by rw [d2 _ (by decide) (by decide) (by decide) (by decide), e3, m66]) (ur _ (by decide)) ix) (by rw [u 9 (by decide)]; exact c3) (by rw [u 23 (by decide)]; exact c4) (chn_of (u _ (by decide)) (u _ (by decide)) (u _ (by decide)) c5) ?_ (by rw [u 28 (by decide)]; exact c7) (by rw [u 42 (by decide)]; exact c8) (num_of (u _ (by decide)) (u _ (by decide)) c9) ?_ ?_ (by rw [u 56 (by decide)]; exact c12) d3 d4
  · rw [u 9 (by decide), g9 _ (by decide), g9 _ (by decide), p4, p5]
    exact ⟨⟨w9, w10⟩, w11, w12⟩
  · rw [u 28 (by decide), g28 _ (by decide), g28 _ (by decide), t4, t5]
    exact ⟨⟨v9, v10⟩, v11, v12⟩
  · rw [u 44 (by decide), g44 10 (by decide), g44 11 (by decide), g44 12 (by decide)]
    exact ⟨c10, is_.2.1⟩
set_option maxHeartbeats 1000000 in
theorem c_forgetS (d b : Nat) (h : xH) {Q : xO → xH → Prop} (hQ : Q (.inl none) (xup h 44 13 0)) : xRn G0 MT (d + 1) b 58 [.inr (.inr 44)] h Q := by
  refine R_of (M := mX7_forget) rfl (Nat.le_of_ble_eq_true rfl) ?_
  show xEx G0 cdX7_forget none (xRn G0 MT d) Q b 0 [some (.inr (.inr 44))] [] h
  refine E_s 2 (i' := 2) (ls' := [some (.inr (.inr 44))]) (sk' := [.inl 0, .inr (.inr 44)]) (h' := h) rfl ?_
  refine E_pz (x := (.putfield 47, 0, [(5, 13)], [])) rfl rfl rfl (Or.inl rfl) ?_
  show xEx G0 cdX7_forget none (xRn G0 MT d) Q b 3 [some (.inr (.inr 44))] [] (xup h 44 13 0)
  exact E_ret (x := (.return_, 0, [], [])) (v := none) rfl (trivial) (hQ)
set_option maxHeartbeats 1000000 in
theorem c_forgetAll (d b : Nat) (h : xH) (hK : 0 ≤ h 9 9 ∧ h 9 9 ≤ 300) (hc : chn h (h 9 9)) (hT : 0 ≤ h 28 9 ∧ h 28 9 ≤ 150) (hn : num h (h 28 9)) {Q : xO → xH → Prop} (hQ : ∀ h', FGC h h' → Q (.inl none) h') : xRn G0 MT (d + 5) b 140 [.inr (.inr 0)] h Q := by
  refine R_of (M := mX11_forgetAllMade) rfl (Nat.le_of_ble_eq_true rfl) ?_
  show xEx G0 cdX11_forgetAllMade none (xRn G0 MT (d + 4)) Q b 0 [some (.inr (.inr 0))] [] h
  refine E_s 2 (i' := 2) (ls' := [some (.inr (.inr 0))]) (sk' := [.inr (.inr 9)]) (h' := h) rfl ?_
  refine E_cv (x := (.invokevirtual 374, 0, [(1, 32)], [1])) (q := fun h9 => (∀ a, a ≠ 25 → a ≠ 9 → a ≠ 23 → h9 a = h a) ∧ (∀ j, 14 < j → h9 9 j = h 9 j) ∧ h9 9 9 = 0 ∧ h9 9 10 = 0 ∧ h9 9 11 = 0 ∧ h9 9 12 = 0 ∧ h9 9 13 = 0 ∧ h9 9 14 = 0 ∧ (∀ j, 0 ≤ j → j < 10 → h9 23 j = 0) ∧ chn h9 0) rfl rfl (Nat.le_of_ble_eq_true rfl) (c_forget_ge (d + 1) 0 h hK hc (fun h9 q1 q2 q3 q4 q5 q6 q7 q8 q9 q10 => ⟨rfl, q1, q2, q3, q4, q5, q6, q7, q8, q9, q10⟩)) (fun h1 hq1 => ?_)
  obtain ⟨p1, p2, p3, p4, p5, p6, p7, p8, p9, p10⟩ := hq1
  show xEx G0 cdX11_forgetAllMade none (xRn G0 MT (d + 4)) Q b 3 [some (.inr (.inr 0))] [] h1
  refine E_s 2 (i' := 5) (ls' := [some (.inr (.inr 0))]) (sk' := [.inr (.inr 28)]) (h' := h1) rfl ?_
  refine E_cv (x := (.invokevirtual 377, 0, [(7, 32)], [1])) (q := fun h9 => (∀ a, a ≠ 43 → a ≠ 28 → a ≠ 42 → h9 a = h1 a) ∧ (∀ j, 14 < j → h9 28 j = h1 28 j) ∧ h9 28 9 = 0 ∧ h9 28 10 = 0 ∧ h9 28 11 = 0 ∧ h9 28 12 = 0 ∧ h9 28 13 = 0 ∧ h9 28 14 = 0 ∧ (∀ j, 0 ≤ j → j < 8 → h9 42 j = 0) ∧ num h9 0) rfl rfl (Nat.le_of_ble_eq_true rfl) (c_forget_gt (d + 1) 0 h1 (by rw [p1 28 (by decide) (by decide) (by decide)]; exact hT) (by rw [p1 28 (by decide) (by decide) (by decide)]; exact num_of (p1 _ (by decide) (by decide) (by decide)) (p1 _ (by decide) (by decide) (by decide)) hn) (fun h9 q1 q2 q3 q4 q5 q6 q7 q8 q9 q10 => ⟨rfl, q1, q2, q3, q4, q5, q6, q7, q8, q9, q10⟩)) (fun h2 hq2 => ?_)
  obtain ⟨s1, s2, s3, s4, s5, s6, s7, s8, s9, s10⟩ := hq2
  show xEx G0 cdX11_forgetAllMade none (xRn G0 MT (d + 4)) Q b 6 [some (.inr (.inr 0))] [] h2
  refine E_s 2 (i' := 8) (ls' := [some (.inr (.inr 0))]) (sk' := [.inr (.inr 44)]) (h' := h2) rfl ?_
  refine E_cv (x := (.invokevirtual 378, 0, [(5, 58)], [0])) (q := fun h9 => h9 = xup h2 44 13 0) rfl rfl (Nat.le_of_ble_eq_true rfl) (c_forgetS (d + 3) 0 h2 ⟨rfl, rfl⟩) (fun h9 e9 => ?_)
  subst e9
  show xEx G0 cdX11_forgetAllMade none (xRn G0 MT (d + 4)) Q b 9 [some (.inr (.inr 0))] [] (xup h2 44 13 0)
  refine E_s 3 (i' := 12) (ls' := [some (.inr (.inr 0))]) (sk' := [.inl 0, .inr (.inr 56)]) (h' := (xup h2 44 13 0)) rfl ?_
  refine E_pz (x := (.putfield 364, 0, [(4, 4)], [])) rfl rfl rfl (Or.inl rfl) ?_
  show xEx G0 cdX11_forgetAllMade none (xRn G0 MT (d + 4)) Q b 13 [some (.inr (.inr 0))] [] (xup (xup h2 44 13 0) 56 4 0)
  exact E_ret (x := (.return_, 0, [], [])) (v := none) rfl (trivial) (hQ _ ⟨fun a z1 z2 z3 z4 z5 z6 z7 z8 => by rw [xup_o _ _ _ _ a z8, xup_o _ _ _ _ a z7, s1 a z4 z5 z6, p1 a z1 z2 z3], fun j z => by
    rw [xup_a (by decide), xup_a (by decide), s1 9 (by decide) (by decide) (by decide)]; exact p2 j z, (by simp only [xup_a (show (9 : Nat) ≠ 56 by decide), xup_a (show (9 : Nat) ≠ 44 by decide), s1 9 (by decide) (by decide) (by decide)]; exact ⟨p3, p4, p5, p6, p7, p8⟩), fun j z1 z2 => by
    rw [xup_a (by decide), xup_a (by decide), s1 23 (by decide) (by decide) (by decide)]; exact p9 j z1 z2, chn_of (s1 _ (by decide) (by decide) (by decide)) (s1 _ (by decide) (by decide) (by decide)) (s1 _ (by decide) (by decide) (by decide)) p10, fun j z => by
    rw [xup_a (by decide), xup_a (by decide), s2 j z, p1 28 (by decide) (by decide) (by decide)], ⟨s3, s4, s5, s6, s7, s8⟩, s9, s10, rfl, fun j z => by
    rw [xup_a (by decide), xup_j z, s1 44 (by decide) (by decide) (by decide), p1 44 (by decide) (by decide) (by decide)], rfl⟩)
set_option maxHeartbeats 1000000 in
theorem m_goes (d b : Nat) (h : xH) {Q : xO → xH → Prop} (hQ : ∀ h', FGR h h' → Q (.inl none) h') : xRn G0 MT (d + 1) b 157 [.inr (.inr 66)] h Q := by
  refine R_of (M := mX12_goes) rfl (Nat.le_of_ble_eq_true rfl) ?_
  show xEx G0 cdX12_goes none (xRn G0 MT d) Q b 0 [some (.inr (.inr 66)), none] [] h
  refine E_s 11 (i' := 11) (ls' := [some (.inr (.inr 66)), some (.inl 0)]) (sk' := []) (h' := (xup (xup (xup h 66 8 0) 66 19 0) 66 33 0)) rfl ?_
  have key11 : ∀ (n : Nat) (hh : xH) (k : Int), (0 ≤ k) → (k ≤ 2) → (∀ a, a ≠ 88 → a ≠ 89 → a ≠ 90 → a ≠ 91 → hh a = (xup (xup (xup h 66 8 0) 66 19 0) 66 33 0) a) → (∀ j, 0 ≤ j → j < k → hh 88 j = 0 ∧ hh 89 j = 0 ∧ hh 90 j = 0 ∧ hh 91 j = 0) → ((2 - k).toNat) < n → xEx G0 cdX12_goes none (xRn G0 MT d) Q b 11 [some (.inr (.inr 66)), some (.inl k)] [] hh := by
    intro n
    induction n with
    | zero => intro hh k _ _ _ _ hm; exact absurd hm (Nat.not_lt_zero _)
    | succ n ih11 =>
      intro hh k hk0 hk2 hfr hz hm11
      refine E_s 2 (i' := 13) (ls' := [some (.inr (.inr 66)), some (.inl k)]) (sk' := [.inl 2, .inl k]) (h' := hh) rfl ?_
      refine E_b (x := (.if_icmp .ge 37, 36, [], [])) rfl rfl (fun c13 => ?_) (fun c13 => ?_)
      · rw [c_ge (by first | assumption | (refine ⟨?_, ?_⟩ <;> omega) | (simp only [xr] at *; omega)) (by first | assumption | (refine ⟨?_, ?_⟩ <;> omega) | (simp only [xr] at *; omega))] at c13
        simp only [decide_eq_true_eq, decide_eq_false_iff_not, Decidable.not_not] at c13
        show xEx G0 cdX12_goes none (xRn G0 MT d) Q b 36 [some (.inr (.inr 66)), some (.inl k)] [] hh
        refine E_s 2 (i' := 38) (ls' := [some (.inr (.inr 66)), some (.inl k)]) (sk' := [.inl 0, .inr (.inr 66)]) (h' := hh) rfl ?_
        refine E_pz (x := (.putfield 176, 0, [(10, 50)], [])) rfl rfl rfl (Or.inl rfl) ?_
        show xEx G0 cdX12_goes none (xRn G0 MT d) Q b 39 [some (.inr (.inr 66)), some (.inl k)] [] (xup hh 66 50 0)
        exact E_ret (x := (.return_, 0, [], [])) (v := none) rfl (trivial) (hQ _ ⟨fun a z1 z2 z3 z4 z5 => by rw [xup_o _ _ _ _ a z1, hfr a z2 z3 z4 z5, xup_o _ _ _ _ a z1, xup_o _ _ _ _ a z1, xup_o _ _ _ _ a z1], fun j z1 z2 z3 z4 => by rw [xup_j z4, hfr 66 (by decide) (by decide) (by decide) (by decide), xup_j z3, xup_j z2, xup_j z1], ⟨by rw [xup_j (by decide), hfr 66 (by decide) (by decide) (by decide) (by decide)]; rfl, by rw [xup_j (by decide), hfr 66 (by decide) (by decide) (by decide) (by decide)]; rfl, by rw [xup_j (by decide), hfr 66 (by decide) (by decide) (by decide) (by decide)]; rfl, rfl⟩, fun j z1 z2 => hz j z1 (by omega)⟩)
      · rw [c_ge (by first | assumption | (refine ⟨?_, ?_⟩ <;> omega) | (simp only [xr] at *; omega)) (by first | assumption | (refine ⟨?_, ?_⟩ <;> omega) | (simp only [xr] at *; omega))] at c13
        simp only [decide_eq_true_eq, decide_eq_false_iff_not, Decidable.not_not] at c13
        show xEx G0 cdX12_goes none (xRn G0 MT d) Q b 14 [some (.inr (.inr 66)), some (.inl k)] [] hh
        refine E_s 4 (i' := 18) (ls' := [some (.inr (.inr 66)), some (.inl k)]) (sk' := [.inl 0, .inl k, .inr (.inr 88)]) (h' := hh) rfl ?_
        refine E_sd (x := (.iastore, 0, [], [])) (ty := .int) (n := 2) (y := 0) rfl rfl rfl (by omega) (by omega) (trivial) ?_
        show xEx G0 cdX12_goes none (xRn G0 MT d) Q b 19 [some (.inr (.inr 66)), some (.inl k)] [] (xup hh 88 k 0)
        refine E_s 4 (i' := 23) (ls' := [some (.inr (.inr 66)), some (.inl k)]) (sk' := [.inl 0, .inl k, .inr (.inr 89)]) (h' := (xup hh 88 k 0)) rfl ?_
        refine E_sd (x := (.iastore, 0, [], [])) (ty := .int) (n := 2) (y := 0) rfl rfl rfl (by omega) (by omega) (trivial) ?_
        show xEx G0 cdX12_goes none (xRn G0 MT d) Q b 24 [some (.inr (.inr 66)), some (.inl k)] [] (xup (xup hh 88 k 0) 89 k 0)
        refine E_s 4 (i' := 28) (ls' := [some (.inr (.inr 66)), some (.inl k)]) (sk' := [.inl 0, .inl k, .inr (.inr 90)]) (h' := (xup (xup hh 88 k 0) 89 k 0)) rfl ?_
        refine E_sd (x := (.iastore, 0, [], [])) (ty := .int) (n := 2) (y := 0) rfl rfl rfl (by omega) (by omega) (trivial) ?_
        show xEx G0 cdX12_goes none (xRn G0 MT d) Q b 29 [some (.inr (.inr 66)), some (.inl k)] [] (xup (xup (xup hh 88 k 0) 89 k 0) 90 k 0)
        refine E_s 4 (i' := 33) (ls' := [some (.inr (.inr 66)), some (.inl k)]) (sk' := [.inl 0, .inl k, .inr (.inr 91)]) (h' := (xup (xup (xup hh 88 k 0) 89 k 0) 90 k 0)) rfl ?_
        refine E_sd (x := (.bastore, 0, [], [])) (ty := .boolean) (n := 2) (y := 0) rfl rfl rfl (by omega) (by omega) (Or.inl rfl) ?_
        show xEx G0 cdX12_goes none (xRn G0 MT d) Q b 34 [some (.inr (.inr 66)), some (.inl k)] [] (xup (xup (xup (xup hh 88 k 0) 89 k 0) 90 k 0) 91 k 0)
        refine E_s 2 (i' := 11) (ls' := [some (.inr (.inr 66)), some (.inl (k + 1))]) (sk' := []) (h' := (xup (xup (xup (xup hh 88 k 0) 89 k 0) 90 k 0) 91 k 0)) rfl ?_
        exact ih11 _ (k + 1) (by omega) (by omega) (fun a z1 z2 z3 z4 => by rw [xup_o _ _ _ _ a z4, xup_o _ _ _ _ a z3, xup_o _ _ _ _ a z2, xup_o _ _ _ _ a z1]; exact hfr a z1 z2 z3 z4) (fun j z1 z2 => by
          by_cases e : j = k
          · subst e; simp [xup]
          · have := hz j z1 (by omega)
            simpa [xup, e] using this) (by omega)
  exact key11 _ (xup (xup (xup h 66 8 0) 66 19 0) 66 33 0) 0 (by omega) (by omega) (fun _ _ _ _ _ => rfl) (fun j z1 z2 => by omega) (Nat.lt_succ_self _)
set_option maxHeartbeats 1000000 in
theorem c_refNoPart (d  : Nat) (h : xH) (p : Int) (hp : xr p) {Q : xO → xH → Prop} (h1 : (0 ≤ p ∧ p ≤ 9) → Q (.inl none) h) (h0 : ¬ (0 ≤ p ∧ p ≤ 9) → Q (.inr "java/lang/IllegalArgumentException") h) : xRn G0 MT (d + 1) 1 150 [.inl p] h Q := by
  refine R_of (M := mX11_refuseNoPart) rfl (Nat.le_of_ble_eq_true rfl) ?_
  show xEx G0 cdX11_refuseNoPart none (xRn G0 MT d) Q 1 0 [some (.inl p)] [] h
  refine E_s 1 (i' := 1) (ls' := [some (.inl p)]) (sk' := [.inl p]) (h' := h) rfl ?_
  refine E_b (x := (.ifCond .lt 9, 5, [], [])) rfl rfl (fun c1 => ?_) (fun c1 => ?_)
  · rw [c_lt (by first | assumption | (refine ⟨?_, ?_⟩ <;> omega) | (simp only [xr] at *; omega)) (by first | assumption | (refine ⟨?_, ?_⟩ <;> omega) | (simp only [xr] at *; omega))] at c1
    simp only [decide_eq_true_eq, decide_eq_false_iff_not, Decidable.not_not] at c1
    show xEx G0 cdX11_refuseNoPart none (xRn G0 MT d) Q 1 5 [some (.inl p)] [] h
    exact E_thr (x := (.new 80, 0, [(0, 1)], [])) rfl rfl rfl (Nat.le_of_ble_eq_true rfl) (h0 (by omega))
  · rw [c_lt (by first | assumption | (refine ⟨?_, ?_⟩ <;> omega) | (simp only [xr] at *; omega)) (by first | assumption | (refine ⟨?_, ?_⟩ <;> omega) | (simp only [xr] at *; omega))] at c1
    simp only [decide_eq_true_eq, decide_eq_false_iff_not, Decidable.not_not] at c1
    show xEx G0 cdX11_refuseNoPart none (xRn G0 MT d) Q 1 2 [some (.inl p)] [] h
    refine E_s 2 (i' := 4) (ls' := [some (.inl p)]) (sk' := [.inl 10, .inl p]) (h' := h) rfl ?_
    refine E_b (x := (.if_icmp .lt 14, 10, [], [])) rfl rfl (fun c4 => ?_) (fun c4 => ?_)
    · rw [c_lt (by first | assumption | (refine ⟨?_, ?_⟩ <;> omega) | (simp only [xr] at *; omega)) (by first | assumption | (refine ⟨?_, ?_⟩ <;> omega) | (simp only [xr] at *; omega))] at c4
      simp only [decide_eq_true_eq, decide_eq_false_iff_not, Decidable.not_not] at c4
      show xEx G0 cdX11_refuseNoPart none (xRn G0 MT d) Q 1 10 [some (.inl p)] [] h
      exact E_ret (x := (.return_, 0, [], [])) (v := none) rfl (trivial) (h1 (by omega))
    · rw [c_lt (by first | assumption | (refine ⟨?_, ?_⟩ <;> omega) | (simp only [xr] at *; omega)) (by first | assumption | (refine ⟨?_, ?_⟩ <;> omega) | (simp only [xr] at *; omega))] at c4
      simp only [decide_eq_true_eq, decide_eq_false_iff_not, Decidable.not_not] at c4
      show xEx G0 cdX11_refuseNoPart none (xRn G0 MT d) Q 1 5 [some (.inl p)] [] h
      exact E_thr (x := (.new 80, 0, [(0, 1)], [])) rfl rfl rfl (Nat.le_of_ble_eq_true rfl) (h0 (by omega))
set_option maxHeartbeats 1000000 in
theorem c_refNoIfs (d  : Nat) (h : xH) (p : Int) (hp : xr p) {Q : xO → xH → Prop} (h1 : (0 ≤ p ∧ p ≤ 3) → Q (.inl none) h) (h0 : ¬ (0 ≤ p ∧ p ≤ 3) → Q (.inr "java/lang/IllegalArgumentException") h) : xRn G0 MT (d + 1) 1 151 [.inl p] h Q := by
  refine R_of (M := mX11_refuseNoIfs) rfl (Nat.le_of_ble_eq_true rfl) ?_
  show xEx G0 cdX11_refuseNoIfs none (xRn G0 MT d) Q 1 0 [some (.inl p)] [] h
  refine E_s 1 (i' := 1) (ls' := [some (.inl p)]) (sk' := [.inl p]) (h' := h) rfl ?_
  refine E_b (x := (.ifCond .lt 8, 5, [], [])) rfl rfl (fun c1 => ?_) (fun c1 => ?_)
  · rw [c_lt (by first | assumption | (refine ⟨?_, ?_⟩ <;> omega) | (simp only [xr] at *; omega)) (by first | assumption | (refine ⟨?_, ?_⟩ <;> omega) | (simp only [xr] at *; omega))] at c1
    simp only [decide_eq_true_eq, decide_eq_false_iff_not, Decidable.not_not] at c1
    show xEx G0 cdX11_refuseNoIfs none (xRn G0 MT d) Q 1 5 [some (.inl p)] [] h
    exact E_thr (x := (.new 80, 0, [(0, 1)], [])) rfl rfl rfl (Nat.le_of_ble_eq_true rfl) (h0 (by omega))
  · rw [c_lt (by first | assumption | (refine ⟨?_, ?_⟩ <;> omega) | (simp only [xr] at *; omega)) (by first | assumption | (refine ⟨?_, ?_⟩ <;> omega) | (simp only [xr] at *; omega))] at c1
    simp only [decide_eq_true_eq, decide_eq_false_iff_not, Decidable.not_not] at c1
    show xEx G0 cdX11_refuseNoIfs none (xRn G0 MT d) Q 1 2 [some (.inl p)] [] h
    refine E_s 2 (i' := 4) (ls' := [some (.inl p)]) (sk' := [.inl 3, .inl p]) (h' := h) rfl ?_
    refine E_b (x := (.if_icmp .le 14, 10, [], [])) rfl rfl (fun c4 => ?_) (fun c4 => ?_)
    · rw [c_le (by first | assumption | (refine ⟨?_, ?_⟩ <;> omega) | (simp only [xr] at *; omega)) (by first | assumption | (refine ⟨?_, ?_⟩ <;> omega) | (simp only [xr] at *; omega))] at c4
      simp only [decide_eq_true_eq, decide_eq_false_iff_not, Decidable.not_not] at c4
      show xEx G0 cdX11_refuseNoIfs none (xRn G0 MT d) Q 1 10 [some (.inl p)] [] h
      exact E_ret (x := (.return_, 0, [], [])) (v := none) rfl (trivial) (h1 (by omega))
    · rw [c_le (by first | assumption | (refine ⟨?_, ?_⟩ <;> omega) | (simp only [xr] at *; omega)) (by first | assumption | (refine ⟨?_, ?_⟩ <;> omega) | (simp only [xr] at *; omega))] at c4
      simp only [decide_eq_true_eq, decide_eq_false_iff_not, Decidable.not_not] at c4
      show xEx G0 cdX11_refuseNoIfs none (xRn G0 MT d) Q 1 5 [some (.inl p)] [] h
      exact E_thr (x := (.new 80, 0, [(0, 1)], [])) rfl rfl rfl (Nat.le_of_ble_eq_true rfl) (h0 (by omega))
set_option maxHeartbeats 1000000 in
theorem c_refNoInput (d  : Nat) (h : xH) (p : Int) (hp : xr p) {Q : xO → xH → Prop} (h1 : (0 ≤ p ∧ p ≤ 2) → Q (.inl none) h) (h0 : ¬ (0 ≤ p ∧ p ≤ 2) → Q (.inr "java/util/NoSuchElementException") h) : xRn G0 MT (d + 1) 1 149 [.inl p] h Q := by
  refine R_of (M := mX11_refuseNoInputNumber) rfl (Nat.le_of_ble_eq_true rfl) ?_
  show xEx G0 cdX11_refuseNoInputNumber none (xRn G0 MT d) Q 1 0 [some (.inl p)] [] h
  refine E_s 1 (i' := 1) (ls' := [some (.inl p)]) (sk' := [.inl p]) (h' := h) rfl ?_
  refine E_b (x := (.ifCond .lt 8, 5, [], [])) rfl rfl (fun c1 => ?_) (fun c1 => ?_)
  · rw [c_lt (by first | assumption | (refine ⟨?_, ?_⟩ <;> omega) | (simp only [xr] at *; omega)) (by first | assumption | (refine ⟨?_, ?_⟩ <;> omega) | (simp only [xr] at *; omega))] at c1
    simp only [decide_eq_true_eq, decide_eq_false_iff_not, Decidable.not_not] at c1
    show xEx G0 cdX11_refuseNoInputNumber none (xRn G0 MT d) Q 1 5 [some (.inl p)] [] h
    exact E_thr (x := (.new 189, 0, [(2, 1)], [])) rfl rfl rfl (Nat.le_of_ble_eq_true rfl) (h0 (by omega))
  · rw [c_lt (by first | assumption | (refine ⟨?_, ?_⟩ <;> omega) | (simp only [xr] at *; omega)) (by first | assumption | (refine ⟨?_, ?_⟩ <;> omega) | (simp only [xr] at *; omega))] at c1
    simp only [decide_eq_true_eq, decide_eq_false_iff_not, Decidable.not_not] at c1
    show xEx G0 cdX11_refuseNoInputNumber none (xRn G0 MT d) Q 1 2 [some (.inl p)] [] h
    refine E_s 2 (i' := 4) (ls' := [some (.inl p)]) (sk' := [.inl 3, .inl p]) (h' := h) rfl ?_
    refine E_b (x := (.if_icmp .lt 14, 10, [], [])) rfl rfl (fun c4 => ?_) (fun c4 => ?_)
    · rw [c_lt (by first | assumption | (refine ⟨?_, ?_⟩ <;> omega) | (simp only [xr] at *; omega)) (by first | assumption | (refine ⟨?_, ?_⟩ <;> omega) | (simp only [xr] at *; omega))] at c4
      simp only [decide_eq_true_eq, decide_eq_false_iff_not, Decidable.not_not] at c4
      show xEx G0 cdX11_refuseNoInputNumber none (xRn G0 MT d) Q 1 10 [some (.inl p)] [] h
      exact E_ret (x := (.return_, 0, [], [])) (v := none) rfl (trivial) (h1 (by omega))
    · rw [c_lt (by first | assumption | (refine ⟨?_, ?_⟩ <;> omega) | (simp only [xr] at *; omega)) (by first | assumption | (refine ⟨?_, ?_⟩ <;> omega) | (simp only [xr] at *; omega))] at c4
      simp only [decide_eq_true_eq, decide_eq_false_iff_not, Decidable.not_not] at c4
      show xEx G0 cdX11_refuseNoInputNumber none (xRn G0 MT d) Q 1 5 [some (.inl p)] [] h
      exact E_thr (x := (.new 189, 0, [(2, 1)], [])) rfl rfl rfl (Nat.le_of_ble_eq_true rfl) (h0 (by omega))
set_option maxHeartbeats 1000000 in
theorem c_refEmpty (d  : Nat) (h : xH) (p : Int) (hp : xr p) {Q : xO → xH → Prop} (h1 : (p ≠ 0) → Q (.inl none) h) (h0 : ¬ (p ≠ 0) → Q (.inr "java/lang/IllegalArgumentException") h) : xRn G0 MT (d + 1) 1 152 [.inl p] h Q := by
  refine R_of (M := mX11_refuseEmpty) rfl (Nat.le_of_ble_eq_true rfl) ?_
  show xEx G0 cdX11_refuseEmpty none (xRn G0 MT d) Q 1 0 [some (.inl p)] [] h
  refine E_s 1 (i' := 1) (ls' := [some (.inl p)]) (sk' := [.inl p]) (h' := h) rfl ?_
  refine E_b (x := (.ifCond .ne 14, 7, [], [])) rfl rfl (fun c1 => ?_) (fun c1 => ?_)
  · rw [c_ne (by first | assumption | (refine ⟨?_, ?_⟩ <;> omega) | (simp only [xr] at *; omega)) (by first | assumption | (refine ⟨?_, ?_⟩ <;> omega) | (simp only [xr] at *; omega))] at c1
    simp only [decide_eq_true_eq, decide_eq_false_iff_not, Decidable.not_not] at c1
    show xEx G0 cdX11_refuseEmpty none (xRn G0 MT d) Q 1 7 [some (.inl p)] [] h
    exact E_ret (x := (.return_, 0, [], [])) (v := none) rfl (trivial) (h1 (by omega))
  · rw [c_ne (by first | assumption | (refine ⟨?_, ?_⟩ <;> omega) | (simp only [xr] at *; omega)) (by first | assumption | (refine ⟨?_, ?_⟩ <;> omega) | (simp only [xr] at *; omega))] at c1
    simp only [decide_eq_true_eq, decide_eq_false_iff_not, Decidable.not_not] at c1
    show xEx G0 cdX11_refuseEmpty none (xRn G0 MT d) Q 1 2 [some (.inl p)] [] h
    exact E_thr (x := (.new 80, 0, [(0, 1)], [])) rfl rfl rfl (Nat.le_of_ble_eq_true rfl) (h0 (by omega))
set_option maxHeartbeats 1000000 in
theorem c_refNoExample (d  : Nat) (h : xH) (p : Int) (hp : xr p) (hn : 0 ≤ h 1 2 ∧ h 1 2 ≤ 12) {Q : xO → xH → Prop} (h1 : (0 ≤ p ∧ p < h 1 2) → Q (.inl none) h) (h0 : ¬ (0 ≤ p ∧ p < h 1 2) → Q (.inr "java/util/NoSuchElementException") h) : xRn G0 MT (d + 1) 1 145 [.inr (.inr 0), .inl p] h Q := by
  refine R_of (M := mX11_refuseNoExample) rfl (Nat.le_of_ble_eq_true rfl) ?_
  show xEx G0 cdX11_refuseNoExample none (xRn G0 MT d) Q 1 0 [some (.inr (.inr 0)), some (.inl p)] [] h
  refine E_s 1 (i' := 1) (ls' := [some (.inr (.inr 0)), some (.inl p)]) (sk' := [.inl p]) (h' := h) rfl ?_
  refine E_b (x := (.ifCond .lt 14, 7, [], [])) rfl rfl (fun c1 => ?_) (fun c1 => ?_)
  · rw [c_lt (by first | assumption | (refine ⟨?_, ?_⟩ <;> omega) | (simp only [xr] at *; omega)) (by first | assumption | (refine ⟨?_, ?_⟩ <;> omega) | (simp only [xr] at *; omega))] at c1
    simp only [decide_eq_true_eq, decide_eq_false_iff_not, Decidable.not_not] at c1
    show xEx G0 cdX11_refuseNoExample none (xRn G0 MT d) Q 1 7 [some (.inr (.inr 0)), some (.inl p)] [] h
    exact E_thr (x := (.new 189, 0, [(2, 1)], [])) rfl rfl rfl (Nat.le_of_ble_eq_true rfl) (h0 (by omega))
  · rw [c_lt (by first | assumption | (refine ⟨?_, ?_⟩ <;> omega) | (simp only [xr] at *; omega)) (by first | assumption | (refine ⟨?_, ?_⟩ <;> omega) | (simp only [xr] at *; omega))] at c1
    simp only [decide_eq_true_eq, decide_eq_false_iff_not, Decidable.not_not] at c1
    show xEx G0 cdX11_refuseNoExample none (xRn G0 MT d) Q 1 2 [some (.inr (.inr 0)), some (.inl p)] [] h
    refine E_s 4 (i' := 6) (ls' := [some (.inr (.inr 0)), some (.inl p)]) (sk' := [.inl (h 1 2), .inl p]) (h' := h) rfl ?_
    refine E_b (x := (.if_icmp .lt 14, 12, [], [])) rfl rfl (fun c6 => ?_) (fun c6 => ?_)
    · rw [c_lt (by first | assumption | (refine ⟨?_, ?_⟩ <;> omega) | (simp only [xr] at *; omega)) (by first | assumption | (refine ⟨?_, ?_⟩ <;> omega) | (simp only [xr] at *; omega))] at c6
      simp only [decide_eq_true_eq, decide_eq_false_iff_not, Decidable.not_not] at c6
      show xEx G0 cdX11_refuseNoExample none (xRn G0 MT d) Q 1 12 [some (.inr (.inr 0)), some (.inl p)] [] h
      exact E_ret (x := (.return_, 0, [], [])) (v := none) rfl (trivial) (h1 (by omega))
    · rw [c_lt (by first | assumption | (refine ⟨?_, ?_⟩ <;> omega) | (simp only [xr] at *; omega)) (by first | assumption | (refine ⟨?_, ?_⟩ <;> omega) | (simp only [xr] at *; omega))] at c6
      simp only [decide_eq_true_eq, decide_eq_false_iff_not, Decidable.not_not] at c6
      show xEx G0 cdX11_refuseNoExample none (xRn G0 MT d) Q 1 7 [some (.inr (.inr 0)), some (.inl p)] [] h
      exact E_thr (x := (.new 189, 0, [(2, 1)], [])) rfl rfl rfl (Nat.le_of_ble_eq_true rfl) (h0 (by omega))
set_option maxHeartbeats 1000000 in
theorem c_refNoExamples (d  : Nat) (h : xH) (hn : 0 ≤ h 1 2 ∧ h 1 2 ≤ 12) {Q : xO → xH → Prop} (h1 : (h 1 2 ≠ 0) → Q (.inl none) h) (h0 : ¬ (h 1 2 ≠ 0) → Q (.inr "java/lang/IllegalStateException") h) : xRn G0 MT (d + 1) 1 146 [.inr (.inr 0)] h Q := by
  refine R_of (M := mX11_refuseNoExamples) rfl (Nat.le_of_ble_eq_true rfl) ?_
  show xEx G0 cdX11_refuseNoExamples none (xRn G0 MT d) Q 1 0 [some (.inr (.inr 0))] [] h
  refine E_s 3 (i' := 3) (ls' := [some (.inr (.inr 0))]) (sk' := [.inl (h 1 2)]) (h' := h) rfl ?_
  refine E_b (x := (.ifCond .ne 14, 9, [], [])) rfl rfl (fun c3 => ?_) (fun c3 => ?_)
  · rw [c_ne (by first | assumption | (refine ⟨?_, ?_⟩ <;> omega) | (simp only [xr] at *; omega)) (by first | assumption | (refine ⟨?_, ?_⟩ <;> omega) | (simp only [xr] at *; omega))] at c3
    simp only [decide_eq_true_eq, decide_eq_false_iff_not, Decidable.not_not] at c3
    show xEx G0 cdX11_refuseNoExamples none (xRn G0 MT d) Q 1 9 [some (.inr (.inr 0))] [] h
    exact E_ret (x := (.return_, 0, [], [])) (v := none) rfl (trivial) (h1 (by omega))
  · rw [c_ne (by first | assumption | (refine ⟨?_, ?_⟩ <;> omega) | (simp only [xr] at *; omega)) (by first | assumption | (refine ⟨?_, ?_⟩ <;> omega) | (simp only [xr] at *; omega))] at c3
    simp only [decide_eq_true_eq, decide_eq_false_iff_not, Decidable.not_not] at c3
    show xEx G0 cdX11_refuseNoExamples none (xRn G0 MT d) Q 1 4 [some (.inr (.inr 0))] [] h
    exact E_thr (x := (.new 106, 0, [(1, 1)], [])) rfl rfl rfl (Nat.le_of_ble_eq_true rfl) (h0 (by omega))
set_option maxHeartbeats 1000000 in
theorem c_refNotSolved (d  : Nat) (h : xH) (hs : h 56 4 = 0 ∨ h 56 4 = 1) {Q : xO → xH → Prop} (h1 : (h 56 4 = 1) → Q (.inl none) h) (h0 : ¬ (h 56 4 = 1) → Q (.inr "java/lang/IllegalStateException") h) : xRn G0 MT (d + 1) 1 147 [.inr (.inr 0)] h Q := by
  refine R_of (M := mX11_refuseNotSolved) rfl (Nat.le_of_ble_eq_true rfl) ?_
  show xEx G0 cdX11_refuseNotSolved none (xRn G0 MT d) Q 1 0 [some (.inr (.inr 0))] [] h
  refine E_s 3 (i' := 3) (ls' := [some (.inr (.inr 0))]) (sk' := [.inl (h 56 4)]) (h' := h) rfl ?_
  refine E_b (x := (.ifCond .ne 14, 9, [], [])) rfl rfl (fun c3 => ?_) (fun c3 => ?_)
  · rw [c_ne (by first | assumption | (refine ⟨?_, ?_⟩ <;> omega) | (simp only [xr] at *; omega)) (by first | assumption | (refine ⟨?_, ?_⟩ <;> omega) | (simp only [xr] at *; omega))] at c3
    simp only [decide_eq_true_eq, decide_eq_false_iff_not, Decidable.not_not] at c3
    show xEx G0 cdX11_refuseNotSolved none (xRn G0 MT d) Q 1 9 [some (.inr (.inr 0))] [] h
    exact E_ret (x := (.return_, 0, [], [])) (v := none) rfl (trivial) (h1 (by omega))
  · rw [c_ne (by first | assumption | (refine ⟨?_, ?_⟩ <;> omega) | (simp only [xr] at *; omega)) (by first | assumption | (refine ⟨?_, ?_⟩ <;> omega) | (simp only [xr] at *; omega))] at c3
    simp only [decide_eq_true_eq, decide_eq_false_iff_not, Decidable.not_not] at c3
    show xEx G0 cdX11_refuseNotSolved none (xRn G0 MT d) Q 1 4 [some (.inr (.inr 0))] [] h
    exact E_thr (x := (.new 106, 0, [(1, 1)], [])) rfl rfl rfl (Nat.le_of_ble_eq_true rfl) (h0 (by omega))
