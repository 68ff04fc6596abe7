def CT (h S T : xH) : Prop := RCT h T ∧ WT (h 1 2) T ∧ ETZ h T ∧ FWT S 7 T ∧ (h 28 14 = 0 → FWT S (h 28 13) T) ∧ (h 28 13 = 0 ∨ (3 ≤ h 28 13 ∧ h 28 13 ≤ 7)) ∧ (0 ≤ h 28 14 ∧ h 28 14 ≤ 1) ∧ T 0 2 ≤ 20000 * (h 28 13 + h 28 14)
def DT (h g T : xH) : Prop := RRT g T ∧ g 88 1 = h 28 13 ∧ g 91 1 = h 28 14 ∧ g 90 1 = T 0 2
theorem IT_i {h S T : xH} : IT h S T ↔ CT h S T ∧ DT h h T := ⟨fun ⟨a, b, c, e, f, g, i, j, k, l, m, n⟩ => ⟨⟨a, c, e, f, g, i, j, n⟩, b, k, l, m⟩, fun ⟨⟨a, c, e, f, g, i, j, n⟩, b, k, l, m⟩ => ⟨a, b, c, e, f, g, i, j, k, l, m, n⟩⟩
theorem FWT_le {S : xH} {z z' : Int} {T : xH} (hz : z ≤ z') (hF : FWT S z T) : FWT S z' T := fun k a b => by
  obtain ⟨f1, f2, f3, f4, f6, f7⟩ := hF k a b
  refine ⟨f1, f2, by omega, f4, f6, fun q => ?_⟩
  obtain ⟨y, y1, y2⟩ := f7 q
  exact ⟨y, by omega, y2⟩
theorem FB.rf (h : xH) : FB h h := fun _ _ => rfl
theorem FWT_st {S : xH} {z : Int} {T : xH} (x y : Int) (hF : FWT S z T) : FWT S z (xup (xup T 0 3 x) 0 4 y) := FWT_of (Int.le_refl _) (fun _ _ _ => rfl) (fun _ _ _ => rfl) rfl (fun k _ _ => ⟨rfl, rfl, rfl, rfl, rfl⟩) (fun k a b q => (hF k a b).2.2.2.2.2 q) hF
noncomputable def mzT (h T : xH) (mm : Int) : xH := mkT (hzt h (zT (h 28 13))) (zT (h 28 13)) (st0 T mm)
/-- what GROWTH of TESTS comes to -/
def GTr (h T : xH) (mm r : Int) (h' T' : xH) : Prop :=
  (r = 3 ∧ (h 1 2 = 0 ∨ (h 28 14 = 0 ∧ h 28 13 = 7)) ∧ h' = h ∧ T' = T) ∨
  (r = 1 ∧ h 1 2 ≠ 0 ∧ h 28 14 = 1 ∧ h' = h ∧ T' = T) ∨
  (r = 2 ∧ h 1 2 ≠ 0 ∧ h 28 14 = 0 ∧ h 28 13 < 7 ∧ mzT h T mm 0 4 = 2 ∧ T' = xup (xup T 0 3 (mzT h T mm 0 3)) 0 4 2 ∧ h' 28 13 = h 28 13 ∧ h' 28 14 = h 28 14) ∨
  (r = mzT h T mm 0 4 ∧ h 1 2 ≠ 0 ∧ h 28 14 = 0 ∧ h 28 13 < 7 ∧ mzT h T mm 0 4 ≠ 2 ∧ T' = mzT h T mm ∧ h' 28 13 = (if mzT h T mm 0 4 = 1 then h 28 13 else zT (h 28 13)) ∧ h' 28 14 = (if mzT h T mm 0 4 = 1 then 1 else 0))
theorem CE_bt {h S : xH} (cb : CB h) (ce : CE h S) : BT h := by
  obtain ⟨r1, -, -, -, -, -, r7, -⟩ := ce.1
  obtain ⟨w1, w2, w3, -⟩ := ce.2.1
  exact ⟨cb.1, by rw [r1]; exact ⟨w1, w2⟩, fun k e z1 z2 z3 z4 => by rw [r1] at z2; rw [r7 k e z1 z2 z3 z4]; exact w3 k e z1 z2 z3 z4⟩
theorem mzt_W {h S T : xH} {mm : Int} (ct : CT h S T) (hmm : 0 ≤ mm ∧ mm ≤ 20000) : WT (h 1 2) (st0 T mm) := by
  obtain ⟨-, ⟨w1, w2, w3, w4, w5, w6, w7, w8, w9, w10, w11, w12, w13, w14⟩, -, -, -, l, f, m⟩ := ct
  exact ⟨w1, w2, w3, w4, w5, w6, w7, (by show T 0 2 + mm ≤ 400000; omega), hmm.1, hmm.2, Int.le_refl _, (by show (0 : Int) ≤ 2; decide), w13, w14⟩
theorem zT_r {L : Int} (h : L = 0 ∨ (3 ≤ L ∧ L ≤ 7)) (h7 : L < 7) : 3 ≤ zT L ∧ zT L ≤ 7 ∧ L ≤ zT L ∧ zT L ≤ L + 3 := by
  unfold zT; split <;> omega
theorem mz_T {h S T : xH} {mm : Int} (cb : CB h) (ce : CE h S) (ct : CT h S T) (hmm : 0 ≤ mm ∧ mm ≤ 20000) (q2 : h 28 14 = 0) (q3 : h 28 13 < 7) : WT (h 1 2) (mzT h T mm) ∧ STB T (mzT h T mm) ∧ mzT h T mm 0 2 + mzT h T mm 0 3 = T 0 2 + mm ∧ FWT S (zT (h 28 13)) (mzT h T mm) ∧ ∀ k, T 0 0 ≤ k → k < mzT h T mm 0 0 → mzT h T mm 4 k = zT (h 28 13) := by
  obtain ⟨t1, t2, t3, t4, t5, t6, t7, t8⟩ := id ct
  have zz := zT_r t6 q3
  obtain ⟨r1, -, -, -, -, r6, -⟩ := ce.1
  exact mkT_F (h0 := hzt h (zT (h 28 13))) (S := S) (T := st0 T mm) (z := zT (h 28 13)) (z0 := h 28 13) (CE_bt cb ce) r1 (fun k z1 z2 => (r6 k z1 z2).2.2.2.2.2.2.1) (by omega) (by simp [hzt, xup]) ce.2.2.1 t3 (mzt_W ct hmm) (FWT_st mm 0 (t5 q2)) (by omega)
set_option maxHeartbeats 1000000 in
theorem a_gt (d b : Nat) (h S T : xH) (mm : Int) (cb : CB h) (ce : CE h S) (ct : CT h S T) (hmm : 0 ≤ mm ∧ mm ≤ 20000) {Q : xO → xH → Prop} (hQ : ∀ r h' T', GTr h T mm r h' T' → CT h' S T' → STB T T' → FB h h' → Q (.inl (some (.inl r))) h') : xRn G0 MT (d + 8) b 33 [.inr (.inr 28), .inl mm] h Q := by
  obtain ⟨c1, c2, c3, c4, c5, c6⟩ := id cb
  obtain ⟨t1, t2, t3, t4, t5, t6, t7, t8⟩ := id ct
  refine c_advance_gt d b h S T mm (CE_bt cb ce) ce.1.1 ce.2.2.1 t3 t1 t2 hmm (by omega) t6 t7 (fun q => ?_) (fun q1 q2 => ?_) (fun q1 q2 q3 q4 h' r1 f1 r2 r3 r4 => ?_) (fun q1 q2 q3 q4 h' r1 f1 r2 r2' r3 r4 => ?_)
  · exact hQ 3 h T (Or.inl ⟨rfl, q, rfl, rfl⟩) ct (STB.rf _) (FB.rf _)
  · exact hQ 1 h T (Or.inr (Or.inl ⟨rfl, q1, q2, rfl, rfl⟩)) ct (STB.rf _) (FB.rf _)
  · obtain ⟨F1, F2, F3, F4, F5⟩ := mz_T cb ce ct hmm q2 q3
    have x1 : h' 1 = h 1 := f1 _ (by decide)
    obtain ⟨w1, w2, w3, w4, w5, w6, w7, w8, w9, w10, w11, w12, w13, w14⟩ := t2
    obtain ⟨v1, v2, v3, v4, v5, v6, v7, v8, v9, v10, v11, v12, v13, v14⟩ := F1
    refine hQ 2 h' _ (Or.inr (Or.inr (Or.inl ⟨rfl, q1, q2, q3, q4, rfl, r3, r4⟩))) ⟨r1, ?_, ?_, FWT_st _ _ t4, fun _ => by rw [r3]; exact FWT_st _ _ (t5 q2), by rw [r3]; exact t6, by rw [r4]; exact t7, by rw [r3, r4]; exact t8⟩ (STB_st _ _ _) f1
    · rw [x1]
      refine ⟨w1, w2, w3, w4, w5, w6, w7, ?_, v9, v10, (by show (0 : Int) ≤ 2; decide), Int.le_refl _, w13, w14⟩
      show T 0 2 + mzT h T mm 0 3 ≤ 400000
      omega
    · have x := t3
      unfold ETZ at x ⊢
      rw [r2]
      exact x
  · obtain ⟨F1, F2, F3, F4, F5⟩ := mz_T cb ce ct hmm q2 q3
    have zz := zT_r t6 q3
    have x1 : h' 1 = h 1 := f1 _ (by decide)
    have F1' := F1
    obtain ⟨v1, v2, v3, v4, v5, v6, v7, v8, v9, v10, v11, v12, -⟩ := F1'
    have q4' : mzT h T mm 0 4 ≠ 2 := q4
    have r4 : h' 28 14 = (if mzT h T mm 0 4 = 1 then 1 else 0) := r4
    have r3 : h' 28 13 = (if mzT h T mm 0 4 = 1 then h 28 13 else zT (h 28 13)) := r3
    refine hQ (mzT h T mm 0 4) h' (mzT h T mm) (Or.inr (Or.inr (Or.inr ⟨rfl, q1, q2, q3, q4, rfl, r3, r4⟩))) ⟨r1, by rw [x1]; exact F1, ?_, FWT_le (by omega) F4, fun z => ?_, ?_, ?_, ?_⟩ F2 f1
    · obtain ⟨g1, g2, g3⟩ := t3
      have b1 : ∀ j, zT (h 28 13) ≤ j → j < 8 → h' 42 j = mzT h T mm 0 0 := r2
      have b2 : ∀ j, j < zT (h 28 13) → h' 42 j = h 42 j := r2'
      refine ⟨by rw [b2 0 (by omega)]; exact g1, fun s z1 z2 => ?_, fun s k z1 z2 z3 z4 => ?_⟩
      · by_cases y : zT (h 28 13) ≤ s
        · rw [b1 s y (by omega)]; exact ⟨v1, Int.le_refl _⟩
        · rw [b2 s (by omega)]
          have := g2 s z1 z2
          have := F2.1
          omega
      · by_cases y : zT (h 28 13) ≤ s
        · rw [b1 s y (by omega)]
          have := (F4 k z3 z4).2.2.1
          constructor
          · intro _; omega
          · intro _; exact z4
        · rw [b2 s (by omega)]
          by_cases y2 : k < T 0 0
          · rw [(F2.2 k z3 y2).2.2.2.1]
            exact g3 s k z1 z2 z3 y2
          · rw [F5 k (by omega) z4]
            have := g2 s z1 z2
            constructor
            · intro _; omega
            · intro _; omega
    · rw [r4] at z
      by_cases y : mzT h T mm 0 4 = 1
      · rw [if_pos y] at z; omega
      · rw [r3, if_neg y]; exact F4
    · rw [r3]; split
      · exact t6
      · exact Or.inr (by omega)
    · rw [r4]; split <;> omega
    · rw [r3, r4]
      have zq : zT (h 28 13) ≥ h 28 13 + 1 := by unfold zT; split <;> omega
      split <;> omega
set_option maxHeartbeats 1000000 in
theorem b_gt (d b : Nat) (h g S T : xH) (mm : Int) (cb : CB h) (ce : CE h S) (ct : CT h S T) (db : DB h g) (de : RR g S) (dt : DT h g T) (hl : g 66 35 = mm) (hmm : 0 ≤ mm ∧ mm ≤ 20000) {r : Int} {h' T' : xH} (G : GTr h T mm r h' T') {Q : xO → xH → Prop} (hQ : ∀ g', DT h' g' T' → FST g g' → (r ≠ 2 → g' 66 35 = mm - (T' 0 2 - T 0 2)) → Q (.inl (some (.inl r))) g') : xRn G0 MT (d + 6) b 190 [.inr (.inr 66), .inl 1] g Q := by
  obtain ⟨c1, c2, c3, c4, c5, c6⟩ := id cb
  obtain ⟨e1, e2, e3, e4, -⟩ := id ce
  obtain ⟨t1, t2, t3, t4, t5, t6, t7, t8⟩ := id ct
  obtain ⟨m4, m1, m6, m3, m2, tt, kk⟩ := db
  obtain ⟨d1, d2, d3, d4⟩ := id dt
  obtain ⟨r1, -, -, -, -, r6, r7, -⟩ := e1
  obtain ⟨p1, p2, p3, p4⟩ := de
  have S4 : ∀ k, 0 ≤ k → k < S 0 0 → 1 ≤ S 4 k ∧ S 4 k ≤ 9 := fun k z1 z2 => ⟨(e4 k z1 z2).2.1, (e4 k z1 z2).2.2.1⟩
  have s4 : ∀ k, 0 ≤ k → k < T 0 0 → 3 ≤ T 4 k ∧ T 4 k ≤ 7 := fun k z1 z2 => ⟨(t4 k z1 z2).2.1, (t4 k z1 z2).2.2.1⟩
  have sz : ∀ k, 0 ≤ k → k < S 0 0 → h 18 k = S 4 k := fun k z1 z2 => (r6 k z1 z2).2.2.2.1
  have er : RET (hzt h (zT (h 28 13))) g := ⟨m4, p1.trans r1.symm, fun k e z1 z2 z3 z4 => by
    have z2 : k < h 9 9 := z2
    have z4 : e < h 1 2 := z4
    rw [r1] at z2
    rw [p4 k e z1 z2 z3 (by omega)]
    exact (r7 k e z1 z2 z3 z4).symm, fun k z1 z2 => by
    have z2 : k < h 9 9 := z2
    rw [r1] at z2
    rw [(p3 k z1 z2).2.2.2.1]
    exact (sz k z1 z2).symm⟩
  refine r_grows1 d b (hzt h (zT (h 28 13))) g S T mm (CE_bt cb ce) r1 sz e3 S4 t3 s4 (by rw [d2]; simp [hzt, xup]) er d1 t2 hl d4 hmm (by omega) (by rw [d2]; exact t6) (by rw [d3]; exact t7) (fun q => ?_) (fun q1 q2 => ?_) (fun q1 q2 q3 q4 g' y1 y2 y3 y4 y5 => ?_) (fun q1 q2 q3 q4 g' y1 y2 y3 y4 y5 y6 => ?_)
  · have q : h 1 2 = 0 ∨ (g 91 1 = 0 ∧ g 88 1 = 7) := q
    rw [d2, d3] at q
    rcases G with ⟨a, -, a2, a3⟩ | ⟨a, a1, a2, -⟩ | ⟨a, a1, a2, a3, -⟩ | ⟨a, a1, a2, a3, -⟩
    · subst a a2 a3
      exact hQ g dt ⟨fun _ _ => rfl, fun _ _ _ _ _ _ _ _ _ => rfl, rfl, rfl, rfl, rfl⟩ (fun _ => by omega)
    · omega
    · omega
    · omega
  · have q1 : h 1 2 ≠ 0 := q1
    rw [d3] at q2
    rcases G with ⟨a, a1, -⟩ | ⟨a, a1, a2, a3, a4⟩ | ⟨a, a1, a2, a3, -⟩ | ⟨a, a1, a2, a3, -⟩
    · omega
    · subst a a3 a4
      exact hQ g dt ⟨fun _ _ => rfl, fun _ _ _ _ _ _ _ _ _ => rfl, rfl, rfl, rfl, rfl⟩ (fun _ => by omega)
    · omega
    · omega
  · have q1 : h 1 2 ≠ 0 := q1
    rw [d3] at q2
    rw [d2] at q3 q4
    have zz := zT_r t6 q3
    have em : mkRT (hzt h (zT (h 28 13))) (zT (h 28 13)) (st0 T mm) = mzT h T mm := mkT_eq (CE_bt cb ce) r1 sz e3 S4 t3 s4 (by omega) (mzt_W ct hmm)
    rw [em] at q4
    rcases G with ⟨a, a1, -⟩ | ⟨a, a1, a2, -⟩ | ⟨a, a1, a2, a3, a4, a5, a6, a7⟩ | ⟨a, a1, a2, a3, a4, -⟩
    · omega
    · omega
    · subst a a5
      exact hQ g' ⟨y1, by rw [y3, a6]; exact d2, by rw [y5, a7]; exact d3, by rw [y4]; exact d4⟩ y2 (fun z => absurd rfl z)
    · exact absurd q4 a4
  · have q1 : h 1 2 ≠ 0 := q1
    rw [d3] at q2
    rw [d2] at q3 q4 y1 y3 y4 y5 y6
    have zz := zT_r t6 q3
    have em : mkRT (hzt h (zT (h 28 13))) (zT (h 28 13)) (st0 T mm) = mzT h T mm := mkT_eq (CE_bt cb ce) r1 sz e3 S4 t3 s4 (by omega) (mzt_W ct hmm)
    rw [em] at q4 y1 y3 y4 y5 y6
    rw [d2, em]
    obtain ⟨F1, F2, F3, F4, F5⟩ := mz_T cb ce ct hmm q2 q3
    rcases G with ⟨a, a1, -⟩ | ⟨a, a1, a2, -⟩ | ⟨a, a1, a2, a3, a4, -⟩ | ⟨a, a1, a2, a3, a4, a5, a6, a7⟩
    · omega
    · omega
    · exact absurd a4 q4
    · subst a a5
      exact hQ g' ⟨y1, by rw [y5, a6], by rw [y6, a7], y3⟩ y2 (fun _ => by rw [y4]; omega)
