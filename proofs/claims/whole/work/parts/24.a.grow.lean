/-! GROWTH on both sides: the class's part, the reference's part -/
def CB (h : xH) : Prop := (0 ≤ h 1 2 ∧ h 1 2 ≤ 12) ∧ (1 ≤ h 1 1 ∧ h 1 1 ≤ 3) ∧ (∀ e, 0 ≤ e → e < h 1 2 → (-99 ≤ h 3 e ∧ h 3 e ≤ 99) ∧ (-99 ≤ h 4 e ∧ h 4 e ≤ 99) ∧ (-99 ≤ h 5 e ∧ h 5 e ≤ 99) ∧ (-999 ≤ h 6 e ∧ h 6 e ≤ 999)) ∧ (2 ≤ h 7 1 ∧ h 7 1 ≤ 10) ∧ (∀ i, 0 ≤ i → i < h 7 1 → -99 ≤ h 8 i ∧ h 8 i ≤ 99) ∧ (1 ≤ h 0 9 ∧ h 0 9 ≤ 20000)
def DB (h g : xH) : Prop := g 66 4 = h 1 2 ∧ g 66 1 = h 1 1 ∧ g 66 6 = h 7 1 ∧ g 66 3 = h 7 2 ∧ g 66 2 = h 0 9 ∧ (∀ e, 0 ≤ e → e < h 1 2 → g 67 (4 * e) = h 3 e ∧ g 67 (4 * e + 1) = h 4 e ∧ g 67 (4 * e + 2) = h 5 e ∧ g 67 (4 * e + 3) = h 6 e) ∧ (∀ i, 0 ≤ i → i < h 7 1 → g 68 i = h 8 i)
theorem IB_i {h : xH} : IB h ↔ CB h ∧ DB h h := ⟨fun ⟨a, b, c, e, f, g, r⟩ => ⟨⟨a, b, c, e, f, g⟩, r⟩, fun ⟨⟨a, b, c, e, f, g⟩, r⟩ => ⟨a, b, c, e, f, g, r⟩⟩
def CE (h S : xH) : Prop := RC h S ∧ WE (h 1 2) S ∧ ENZ h S ∧ FW (h 1 2) (h 6) 9 S ∧ (h 9 14 = 0 → FW (h 1 2) (h 6) (h 9 13) S) ∧ (0 ≤ h 9 13 ∧ h 9 13 ≤ 9) ∧ (0 ≤ h 9 14 ∧ h 9 14 ≤ 1) ∧ h 9 11 = 0 ∧ S 0 2 ≤ 20000 * (h 9 13 + h 9 14)
def DE (h g S : xH) : Prop := RR g S ∧ g 88 0 = h 9 13 ∧ g 91 0 = h 9 14 ∧ g 90 0 = S 0 2
theorem IE_i {h S : xH} : IE h S ↔ CE h S ∧ DE h h S := ⟨fun ⟨a, b, c, e, f, g, i, j, k, l, m, n, o⟩ => ⟨⟨a, c, e, f, g, i, j, m, o⟩, b, k, l, n⟩, fun ⟨⟨a, c, e, f, g, i, j, m, o⟩, b, k, l, n⟩ => ⟨a, b, c, e, f, g, i, j, k, l, m, n, o⟩⟩
theorem CB_b {h : xH} (c : CB h) : B0 h := by
  obtain ⟨n, -, r, -⟩ := c
  refine ⟨n, fun e h1 h2 => ?_⟩
  obtain ⟨a, b, c, e9⟩ := r e h1 h2
  refine ⟨⟨by omega, by omega⟩, fun j => ?_⟩
  unfold rwf
  split
  · exact ⟨by omega, by omega⟩
  · split
    · exact ⟨by omega, by omega⟩
    · exact ⟨by omega, by omega⟩
theorem FW_le {n : Int} {wt : Int → Int} {z z' : Int} {S : xH} (hz : z ≤ z') (hF : FW n wt z S) : FW n wt z' S := fun k a b => by
  obtain ⟨f1, f2, f3, f4, f5, f6, f7⟩ := hF k a b
  refine ⟨f1, f2, by omega, f4, f5, f6, fun q => ?_⟩
  obtain ⟨y, y1, y2⟩ := f7 q
  exact ⟨y, by omega, y2⟩
theorem FA.rf (h : xH) : FA h h := ⟨fun _ _ => rfl, rfl⟩
theorem FW_st {n : Int} {wt : Int → Int} {z : Int} {S : xH} (x y : Int) (hn : 0 ≤ n ∧ n ≤ 12) (hF : FW n wt z S) : FW n wt z (xup (xup S 0 3 x) 0 4 y) := FW_of hn rfl (fun k _ _ => ⟨rfl, rfl, rfl, rfl, rfl, rfl, fun _ _ _ => rfl⟩) (fun k a b q => (hF k a b).2.2.2.2.2.2 q) hF
theorem STB_st (S : xH) (x y : Int) : STB S (xup (xup S 0 3 x) 0 4 y) := ⟨Int.le_refl _, fun k _ _ => ⟨rfl, rfl, rfl, rfl, rfl, rfl, fun _ _ _ => rfl, Int.le_refl _, fun _ => ⟨rfl, rfl, rfl⟩⟩⟩
theorem STB_sr {S S' : xH} {x y : Int} (h : STB (xup (xup S 0 3 x) 0 4 y) S') : STB S S' := h
noncomputable def mzE (h S : xH) (mm : Int) : xH := mkE (hz h (h 9 13 + 1)) (h 9 13 + 1) (st0 S mm)
/-- what GROWTH of EXPRESSIONS comes to -/
def GEr (h S : xH) (mm r : Int) (h' S' : xH) : Prop :=
  (r = 3 ∧ (h 1 2 = 0 ∨ (h 9 14 = 0 ∧ h 9 13 = 9)) ∧ h' = h ∧ S' = S) ∨
  (r = 1 ∧ h 1 2 ≠ 0 ∧ h 9 14 = 1 ∧ h' = h ∧ S' = S) ∨
  (r = 2 ∧ h 1 2 ≠ 0 ∧ h 9 14 = 0 ∧ h 9 13 < 9 ∧ mzE h S mm 0 4 = 2 ∧ S' = xup (xup S 0 3 (mzE h S mm 0 3)) 0 4 2 ∧ h' 9 13 = h 9 13 ∧ h' 9 14 = h 9 14) ∨
  (r = mzE h S mm 0 4 ∧ h 1 2 ≠ 0 ∧ h 9 14 = 0 ∧ h 9 13 < 9 ∧ mzE h S mm 0 4 ≠ 2 ∧ S' = mzE h S mm ∧ h' 9 13 = (if mzE h S mm 0 4 = 1 then h 9 13 else h 9 13 + 1) ∧ h' 9 14 = (if mzE h S mm 0 4 = 1 then 1 else 0))
theorem mz_W {h S : xH} {mm : Int} (ce : CE h S) (hmm : 0 ≤ mm ∧ mm ≤ 20000) : WE (h 1 2) (st0 S mm) := by
  obtain ⟨-, ⟨w1, w2, w3, w4, w5, w6, w7, w8, w9, w10, w11, w12⟩, -, -, -, l, f, -, m⟩ := ce
  exact ⟨w1, w2, w3, w4, w5, w6, w7, (by show S 0 2 + mm ≤ 400000; omega), hmm.1, hmm.2, Int.le_refl _, (by show (0 : Int) ≤ 2; decide)⟩
theorem mz_F {h S : xH} {mm : Int} (cb : CB h) (ce : CE h S) (hmm : 0 ≤ mm ∧ mm ≤ 20000) (q2 : h 9 14 = 0) (q3 : h 9 13 < 9) : WE (h 1 2) (mzE h S mm) ∧ STB S (mzE h S mm) ∧ mzE h S mm 0 2 + mzE h S mm 0 3 = S 0 2 + mm ∧ FW (h 1 2) (h 6) (h 9 13 + 1) (mzE h S mm) ∧ ∀ k, S 0 0 ≤ k → k < mzE h S mm 0 0 → mzE h S mm 4 k = h 9 13 + 1 := by
  obtain ⟨c1, c2, c3, c4, c5, c6⟩ := id cb
  obtain ⟨e1, e2, e3, e4, e5, e6, e7, e8, e9⟩ := id ce
  exact mkE_F (h0 := hz h (h 9 13 + 1)) (S := st0 S mm) (z := h 9 13 + 1) (z0 := h 9 13) (CB_b cb) (by omega) (by simp [hz, xup]) c2 c5 e3 (mz_W ce hmm) (FW_st mm 0 c1 (e5 q2)) (by omega)
set_option maxHeartbeats 1000000 in
theorem a_ge (d b : Nat) (h S : xH) (mm : Int) (cb : CB h) (ce : CE h S) (hmm : 0 ≤ mm ∧ mm ≤ 20000) {Q : xO → xH → Prop} (hQ : ∀ r h' S', GEr h S mm r h' S' → CE h' S' → STB S S' → FA h h' → Q (.inl (some (.inl r))) h') : xRn G0 MT (d + 8) b 33 [.inr (.inr 9), .inl mm] h Q := by
  obtain ⟨c1, c2, c3, c4, c5, c6⟩ := id cb
  obtain ⟨e1, e2, e3, e4, e5, e6, e7, e8, e9⟩ := id ce
  refine c_advance_ge d b h S mm (CB_b cb) c2 c4 c5 e3 e1 e2 hmm (by omega) e6 e7 (fun q => ?_) (fun q1 q2 => ?_) (fun q1 q2 q3 q4 h' r1 f1 r2 r3 r4 => ?_) (fun q1 q2 q3 q4 h' r1 f1 r2 r2' r3 r4 => ?_)
  · exact hQ 3 h S (Or.inl ⟨rfl, q, rfl, rfl⟩) ce (STB.rf _) (FA.rf _)
  · exact hQ 1 h S (Or.inr (Or.inl ⟨rfl, q1, q2, rfl, rfl⟩)) ce (STB.rf _) (FA.rf _)
  · obtain ⟨F1, F2, F3, F4, F5⟩ := mz_F cb ce hmm q2 q3
    have x1 : h' 1 = h 1 := f1.1 _ (by decide)
    have x6 : h' 6 = h 6 := f1.1 _ (by decide)
    obtain ⟨w1, w2, w3, w4, w5, w6, w7, w8, w9, w10, w11, w12⟩ := e2
    obtain ⟨v1, v2, v3, v4, v5, v6, v7, v8, v9, v10, v11, v12⟩ := F1
    refine hQ 2 h' _ (Or.inr (Or.inr (Or.inl ⟨rfl, q1, q2, q3, q4, rfl, r3, r4⟩))) ⟨r1, ?_, ?_, by rw [x1, x6]; exact FW_st _ _ c1 e4, fun _ => by rw [x1, x6, r3]; exact FW_st _ _ c1 (e5 q2), by rw [r3]; exact e6, by rw [r4]; exact e7, by rw [f1.2]; exact e8, by rw [r3, r4]; exact e9⟩ (STB_st _ _ _) f1
    · rw [x1]
      refine ⟨w1, w2, w3, w4, w5, w6, w7, ?_, v9, v10, (by show (0 : Int) ≤ 2; decide), Int.le_refl _⟩
      show S 0 2 + mzE h S mm 0 3 ≤ 400000
      have y1 : S 0 2 ≤ 20000 * (h 9 13 + h 9 14) := e9
      omega
    · have x := e3
      unfold ENZ at x ⊢
      rw [r2]
      exact x
  · obtain ⟨F1, F2, F3, F4, F5⟩ := mz_F cb ce hmm q2 q3
    have x1 : h' 1 = h 1 := f1.1 _ (by decide)
    have x6 : h' 6 = h 6 := f1.1 _ (by decide)
    have F1' := F1
    obtain ⟨v1, v2, v3, v4, v5, v6, v7, v8, v9, v10, v11, v12⟩ := F1'
    have q4' : mzE h S mm 0 4 ≠ 2 := q4
    refine hQ (mzE h S mm 0 4) h' (mzE h S mm) (Or.inr (Or.inr (Or.inr ⟨rfl, q1, q2, q3, q4, rfl, r3, r4⟩))) ⟨r1, by rw [x1]; exact F1, ?_, by rw [x1, x6]; exact FW_le (by omega) F4, fun z => ?_, ?_, ?_, by rw [f1.2]; exact e8, ?_⟩ F2 f1
    · obtain ⟨g1, g2, g3⟩ := e3
      have b1 : ∀ j, h 9 13 + 1 ≤ j → j < 10 → h' 23 j = mzE h S mm 0 0 := r2
      have b2 : ∀ j, j < h 9 13 + 1 → h' 23 j = h 23 j := r2'
      refine ⟨by rw [b2 0 (by omega)]; exact g1, fun s z1 z2 => ?_, fun s k z1 z2 z3 z4 => ?_⟩
      · by_cases y : h 9 13 + 1 ≤ s
        · rw [b1 s y (by omega)]; exact ⟨v1, Int.le_refl _⟩
        · rw [b2 s (by omega)]
          have := g2 s z1 z2
          have := F2.1
          omega
      · by_cases y : h 9 13 + 1 ≤ s
        · rw [b1 s y (by omega)]
          have := (F4 k z3 z4).2.2.1
          constructor
          · intro _; omega
          · intro _; exact z4
        · rw [b2 s (by omega)]
          by_cases y2 : k < S 0 0
          · rw [(F2.2 k z3 y2).2.2.2.1]
            exact g3 s k z1 z2 z3 y2
          · rw [F5 k (by omega) z4]
            have := g2 s z1 z2
            constructor
            · intro _; omega
            · intro _; omega
    · have r4 : h' 9 14 = (if mzE h S mm 0 4 = 1 then 1 else 0) := r4
      have r3 : h' 9 13 = (if mzE h S mm 0 4 = 1 then h 9 13 else h 9 13 + 1) := r3
      rw [r4] at z
      by_cases y : mzE h S mm 0 4 = 1
      · rw [if_pos y] at z; omega
      · rw [x1, x6, r3, if_neg y]; exact F4
    · have r3 : h' 9 13 = (if mzE h S mm 0 4 = 1 then h 9 13 else h 9 13 + 1) := r3
      rw [r3]; split <;> omega
    · have r4 : h' 9 14 = (if mzE h S mm 0 4 = 1 then 1 else 0) := r4
      rw [r4]; split <;> omega
    · have r4 : h' 9 14 = (if mzE h S mm 0 4 = 1 then 1 else 0) := r4
      have r3 : h' 9 13 = (if mzE h S mm 0 4 = 1 then h 9 13 else h 9 13 + 1) := r3
      rw [r3, r4]
      split <;> omega
set_option maxHeartbeats 1000000 in
theorem b_ge (d b : Nat) (h g S : xH) (mm : Int) (cb : CB h) (ce : CE h S) (db : DB h g) (de : DE h g S) (hl : g 66 35 = mm) (hmm : 0 ≤ mm ∧ mm ≤ 20000) {r : Int} {h' S' : xH} (G : GEr h S mm r h' S') {Q : xO → xH → Prop} (hQ : ∀ g', DE h' g' S' → FS g g' → (r ≠ 2 → g' 66 35 = mm - (S' 0 2 - S 0 2)) → Q (.inl (some (.inl r))) g') : xRn G0 MT (d + 6) b 190 [.inr (.inr 66), .inl 0] g Q := by
  obtain ⟨c1, c2, c3, c4, c5, c6⟩ := id cb
  obtain ⟨e1, e2, e3, e4, e5, e6, e7, e8, e9⟩ := id ce
  obtain ⟨m4, m1, m6, m3, m2, tt, kk⟩ := db
  obtain ⟨d1, d2, d3, d4⟩ := id de
  have s4 : ∀ k, 0 ≤ k → k < S 0 0 → 1 ≤ S 4 k ∧ S 4 k ≤ 9 := fun k z1 z2 => ⟨(e4 k z1 z2).2.1, (e4 k z1 z2).2.2.1⟩
  have er : RE (hz h (h 9 13 + 1)) g := ⟨m4, m1, m6, m3, fun j e z1 z2 z3 z4 => by
    obtain ⟨t0, t1, t2, -⟩ := tt e z3 z4
    have : j = 0 ∨ j = 1 ∨ j = 2 := by omega
    rcases this with rfl | rfl | rfl
    · rw [Int.add_zero, t0]; rfl
    · rw [t1]; rfl
    · rw [t2]; rfl, fun e z1 z2 => (tt e z1 z2).2.2.2, kk⟩
  refine r_grows0 d b (hz h (h 9 13 + 1)) g S mm (CB_b cb) c2 c4 c5 (by rw [d2]; simp [hz, xup]) e3 s4 er d1 e2 hl d4 hmm (by omega) (by rw [d2]; exact e6) (by rw [d3]; exact e7) (fun q => ?_) (fun q1 q2 => ?_) (fun q1 q2 q3 q4 g' y1 y2 y3 y4 y5 => ?_) (fun q1 q2 q3 q4 g' y1 y2 y3 y4 y5 y6 => ?_)
  · have q : h 1 2 = 0 ∨ (g 91 0 = 0 ∧ g 88 0 = 9) := q
    rw [d2, d3] at q
    rcases G with ⟨a, -, a2, a3⟩ | ⟨a, a1, a2, -⟩ | ⟨a, a1, a2, a3, -⟩ | ⟨a, a1, a2, a3, -⟩
    · subst a a2 a3
      exact hQ g de ⟨fun _ _ => rfl, fun _ _ _ _ _ _ _ _ => rfl, rfl, rfl, rfl, rfl⟩ (fun _ => by omega)
    · omega
    · omega
    · omega
  · have q1 : h 1 2 ≠ 0 := q1
    rw [d3] at q2
    rcases G with ⟨a, a1, -⟩ | ⟨a, a1, a2, a3, a4⟩ | ⟨a, a1, a2, a3, -⟩ | ⟨a, a1, a2, a3, -⟩
    · omega
    · subst a a3 a4
      exact hQ g de ⟨fun _ _ => rfl, fun _ _ _ _ _ _ _ _ => rfl, rfl, rfl, rfl, rfl⟩ (fun _ => by omega)
    · omega
    · omega
  · have q1 : h 1 2 ≠ 0 := q1
    rw [d3] at q2
    rw [d2] at q3 q4
    have em : mkR (hz h (h 9 13 + 1)) (h 9 13 + 1) (st0 S mm) = mzE h S mm := mk_eq (CB_b cb) e3 s4 (by omega) (mz_W ce hmm)
    rw [em] at q4
    rcases G with ⟨a, a1, -⟩ | ⟨a, a1, a2, -⟩ | ⟨a, a1, a2, a3, a4, a5, a6, a7⟩ | ⟨a, a1, a2, a3, a4, -⟩
    · omega
    · omega
    · subst a a5
      exact hQ g' ⟨y1, by rw [y3, a6]; exact d2, by rw [y5, a7]; exact d3, by rw [y4]; exact d4⟩ y2 (fun z => absurd rfl z)
    · exact absurd q4 a4
  · have q1 : h 1 2 ≠ 0 := q1
    rw [d3] at q2
    rw [d2] at q3 q4 y1 y3 y4 y5 y6
    have em : mkR (hz h (h 9 13 + 1)) (h 9 13 + 1) (st0 S mm) = mzE h S mm := mk_eq (CB_b cb) e3 s4 (by omega) (mz_W ce hmm)
    rw [em] at q4 y1 y3 y4 y5 y6
    rw [d2, em]
    obtain ⟨F1, F2, F3, F4, F5⟩ := mz_F cb ce hmm q2 q3
    rcases G with ⟨a, a1, -⟩ | ⟨a, a1, a2, -⟩ | ⟨a, a1, a2, a3, a4, -⟩ | ⟨a, a1, a2, a3, a4, a5, a6, a7⟩
    · omega
    · omega
    · exact absurd a4 q4
    · subst a a5
      exact hQ g' ⟨y1, by rw [y5, a6], by rw [y6, a7], y3⟩ y2 (fun _ => by rw [y4]; omega)
