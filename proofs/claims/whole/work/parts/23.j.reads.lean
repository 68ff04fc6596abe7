/-- what was reckoned behind all is nobody's -/
theorem RC_rk {h h' S : xH} {o : Int → Int} (hn : h 1 2 ≤ 12) (r : RC h S) (k : RK h h' o) : RC h' S := by
  obtain ⟨r1, r2, r3, r4, r5, r6, r7, r8, r9⟩ := r
  obtain ⟨k1, k2, k3, k4, k5⟩ := k
  unfold RC
  rw [k2 9 (by decide), k2 10 (by decide), k2 12 (by decide), k2 16 (by decide), k2 17 (by decide), k1 11 (by decide) (by decide), k1 12 (by decide) (by decide), k1 13 (by decide) (by decide), k1 18 (by decide) (by decide), k1 20 (by decide) (by decide), k1 21 (by decide) (by decide), k1 19 (by decide) (by decide), k1 15 (by decide) (by decide), k1 16 (by decide) (by decide), k1 17 (by decide) (by decide), k1 1 (by decide) (by decide), k1 27 (by decide) (by decide)]
  refine ⟨r1, r2, r3, r4, r5, r6, fun k e z1 z2 z3 z4 => ?_, chn_of (k1 _ (by decide) (by decide)) (k1 _ (by decide) (by decide)) (k1 _ (by decide) (by decide)) r8, r9⟩
  rw [k3 _ (by omega)]
  exact r7 k e z1 z2 z3 z4
theorem Inv_rk {h h' : xH} {o : Int → Int} (hI : Inv h) (k : RK h h' o) : Inv h' := by
  obtain ⟨S, T, ib, ie, it, ip, is_, ix⟩ := hI
  have hn := ib.1
  obtain ⟨i1, i2, i3, i4, i5, i6, i7, i8, i9, i10, i11, i12, i13⟩ := ie
  have k0 := k
  obtain ⟨k1, k2, k3, k4, k5⟩ := k
  have u : ∀ a, a ≠ 24 → a ≠ 9 → h' a = h a := k1
  refine ⟨S, T, IB_fr (fun a ha => u a (by omega) (by omega)) (by rw [u 66 (by decide) (by decide)]; exact ⟨rfl, rfl, rfl, rfl, rfl⟩) (u _ (by decide) (by decide)) (u _ (by decide) (by decide)) ib, ?_, IT_fr (fun a z1 z2 => u a (by omega) (by omega)) (u _ (by decide) (by decide)) (by rw [u 66 (by decide) (by decide)]) (by rw [u 66 (by decide) (by decide)]) (by rw [u 89 (by decide) (by decide)]) (by rw [u 88 (by decide) (by decide)]) (by rw [u 91 (by decide) (by decide)]) (by rw [u 90 (by decide) (by decide)]) (fun q _ => by rw [u 79 (by decide) (by decide), u 80 (by decide) (by decide), u 81 (by decide) (by decide)]; exact ⟨rfl, rfl, rfl⟩) (fun a z1 z2 => u a (by omega) (by omega)) it, IP_fr (STB.rf _) (STB.rf _) (u _ (by decide) (by decide)) (u _ (by decide) (by decide)) (u _ (by decide) (by decide)) (by rw [u 66 (by decide) (by decide)]; exact ⟨rfl, rfl, rfl⟩) (u _ (by decide) (by decide)) (u _ (by decide) (by decide)) ip, IS_fr (STB.rf _) (STB.rf _) (fun a z1 z2 => u a (by omega) (by omega)) (u _ (by decide) (by decide)) is_, IX_fr (u _ (by decide) (by decide)) (u _ (by decide) (by decide)) (by rw [u 66 (by decide) (by decide)]) (u _ (by decide) (by decide)) ix⟩
  refine ⟨RC_rk hn.2 i1 k0, ?_, by rw [u 1 (by decide) (by decide)]; exact i3, ?_, by rw [u 1 (by decide) (by decide), u 6 (by decide) (by decide)]; exact i5, by rw [u 1 (by decide) (by decide), u 6 (by decide) (by decide), k2 14 (by decide), k2 13 (by decide)]; exact i6, by rw [k2 13 (by decide)]; exact i7, by rw [k2 14 (by decide)]; exact i8, by rw [u 88 (by decide) (by decide), k2 13 (by decide)]; exact i9, by rw [u 91 (by decide) (by decide), k2 14 (by decide)]; exact i10, by rw [k2 11 (by decide)]; exact i11, by rw [u 90 (by decide) (by decide)]; exact i12, by rw [k2 13 (by decide), k2 14 (by decide)]; exact i13⟩
  · exact RR_fr i3.2.1 (by rw [u 66 (by decide) (by decide)]) (by rw [u 66 (by decide) (by decide)]) (by rw [u 89 (by decide) (by decide)]) (fun q _ => by rw [u 69 (by decide) (by decide), u 70 (by decide) (by decide), u 71 (by decide) (by decide)]; exact ⟨rfl, rfl, rfl⟩) (fun a z1 z2 => u a (by omega) (by omega)) i2
  · unfold ENZ
    rw [u 23 (by decide) (by decide)]
    exact i4
set_option maxHeartbeats 1000000 in
theorem o_joins (d  : Nat) (h : xH) (p x y : Int) (hp : xr p) (hx : xr x) (hy : xr y) (hn : 0 ≤ h 1 2 ∧ h 1 2 ≤ 12) (hc : chn h (h 9 9)) (hr : ∀ k e, 0 ≤ k → k < h 9 9 → 0 ≤ e → e < h 1 2 → xr (h 24 (k * 12 + e))) (hsl : ∀ k, 0 ≤ k → k < h 9 9 → h 27 k = HS (h 1 2) (fun e => h 24 (k * 12 + e))) (hK0 : 0 ≤ h 9 9 ∧ h 9 9 ≤ 300) {Q : xO → xH → Prop} (hA : ¬ (0 ≤ p ∧ p ≤ 9) → Q (.inr "java/lang/IllegalArgumentException") h) (hN : (0 ≤ p ∧ p ≤ 9) → ¬ ((0 ≤ x ∧ x < h 9 9) ∧ ((p = 5 ∨ p = 8 ∨ p = 9) ∨ (0 ≤ y ∧ y < h 9 9))) → Q (.inr "java/util/NoSuchElementException") h) (hO : (0 ≤ p ∧ p ≤ 9) → ((0 ≤ x ∧ x < h 9 9) ∧ ((p = 5 ∨ p = 8 ∨ p = 9) ∨ (0 ≤ y ∧ y < h 9 9))) → ∀ y2, (((p = 5 ∨ p = 8 ∨ p = 9) ∧ y2 = x) ∨ (¬ (p = 5 ∨ p = 8 ∨ p = 9) ∧ y2 = y)) → ∀ r h', RK h h' (fun e => ap p (h 24 (x * 12 + e)) (h 24 (y2 * 12 + e))) → ((r = -1 ∧ ∀ k, 0 ≤ k → k < h 9 9 → ¬ ∀ e, 0 ≤ e → e < h 1 2 → h 24 (k * 12 + e) = ap p (h 24 (x * 12 + e)) (h 24 (y2 * 12 + e))) ∨ (0 ≤ r ∧ r < h 9 9 ∧ ∀ e, 0 ≤ e → e < h 1 2 → h 24 (r * 12 + e) = ap p (h 24 (x * 12 + e)) (h 24 (y2 * 12 + e)))) → Q (.inl (some (.inl r))) h') : xRn G0 MT (d + 6) 3 112 [.inr (.inr 0), .inl p, .inl x, .inl y] h Q := by
  refine R_of (M := mX11_joins) rfl (Nat.le_of_ble_eq_true rfl) ?_
  show xEx G0 cdX11_joins (some .int) (xRn G0 MT (d + 5)) Q 3 0 [some (.inr (.inr 0)), some (.inl p), some (.inl x), some (.inl y)] [] h
  refine E_s 1 (i' := 1) (ls' := [some (.inr (.inr 0)), some (.inl p), some (.inl x), some (.inl y)]) (sk' := [.inl p]) (h' := h) rfl ?_
  refine E_cx (x := (.invokestatic 122, 1, [(0, 150)], [])) (b1 := 1) (b2 := 2) (v := none) (q := fun h9 => (0 ≤ p ∧ p ≤ 9) ∧ h = h9) rfl rfl (Nat.le_of_ble_eq_true rfl) (fun z => by cases z) (c_refNoPart (d + 4) h p hp (fun z => Or.inl ⟨rfl, z, rfl⟩) (fun z => Or.inr ⟨_, rfl, hA z⟩)) (fun h9 hq9 => ?_)
  obtain ⟨q1, rfl⟩ := hq9
  show xEx G0 cdX11_joins (some .int) (xRn G0 MT (d + 5)) Q 2 2 [some (.inr (.inr 0)), some (.inl p), some (.inl x), some (.inl y)] [] h
  refine E_s 3 (i' := 5) (ls' := [some (.inr (.inr 0)), some (.inl p), some (.inl x), some (.inl y)]) (sk' := [.inl x, .inl 0, .inr (.inr 0)]) (h' := h) rfl ?_
  refine E_cx (x := (.invokevirtual 244, 2, [(9, 144)], [0])) (b1 := 1) (b2 := 1) (v := none) (q := fun h9 => (0 ≤ x ∧ x < h 9 9) ∧ h = h9) rfl rfl (Nat.le_of_ble_eq_true rfl) (fun z => by cases z) (c_refNotKept0 (d + 3) h x hx hK0 (fun z => Or.inl ⟨rfl, z, rfl⟩) (fun z => Or.inr ⟨_, rfl, hN q1 (fun y => z y.1)⟩)) (fun h9 hq9 => ?_)
  obtain ⟨q2, rfl⟩ := hq9
  show xEx G0 cdX11_joins (some .int) (xRn G0 MT (d + 5)) Q 1 6 [some (.inr (.inr 0)), some (.inl p), some (.inl x), some (.inl y)] [] h
  refine E_s 1 (i' := 7) (ls' := [some (.inr (.inr 0)), some (.inl p), some (.inl x), some (.inl y)]) (sk' := [.inl p]) (h' := h) rfl ?_
  refine E_cp (x := (.invokestatic 248, 1, [(0, 38)], [])) (q := fun r1 h9 => ((r1 = 1 ∧ ((p = 5 ∨ p = 8 ∨ p = 9))) ∨ (r1 = 0 ∧ ¬ ((p = 5 ∨ p = 8 ∨ p = 9)))) ∧ h = h9) rfl rfl (Nat.le_of_ble_eq_true rfl) (c_isOfOne (d + 4) 0 h p hp (fun z => ⟨_, rfl, Or.inl ⟨rfl, z⟩, rfl⟩) (fun z => ⟨_, rfl, Or.inr ⟨rfl, z⟩, rfl⟩)) (fun r1 h9 q3 => ?_)
  obtain ⟨q3, rfl⟩ := q3
  show xEx G0 cdX11_joins (some .int) (xRn G0 MT (d + 5)) Q 1 8 [some (.inr (.inr 0)), some (.inl p), some (.inl x), some (.inl y)] [.inl r1] h
  refine E_b (x := (.ifCond .ne 9, 13, [], [])) rfl rfl (fun c8 => ?_) (fun c8 => ?_)
  · rw [c_ne (by first | assumption | (refine ⟨?_, ?_⟩ <;> omega) | (simp only [xr] at *; omega)) (by first | assumption | (refine ⟨?_, ?_⟩ <;> omega) | (simp only [xr] at *; omega))] at c8
    simp only [decide_eq_true_eq, decide_eq_false_iff_not, Decidable.not_not] at c8
    show xEx G0 cdX11_joins (some .int) (xRn G0 MT (d + 5)) Q 1 13 [some (.inr (.inr 0)), some (.inl p), some (.inl x), some (.inl y)] [] h
    refine E_s 5 (i' := 18) (ls' := [some (.inr (.inr 0)), some (.inl p), some (.inl x), some (.inl y)]) (sk' := [.inl p, .inl x, .inl p, .inr (.inr 9)]) (h' := h) rfl ?_
    refine E_cp (x := (.invokestatic 248, 1, [(0, 38)], [])) (q := fun r2 h9 => ((r2 = 1 ∧ ((p = 5 ∨ p = 8 ∨ p = 9))) ∨ (r2 = 0 ∧ ¬ ((p = 5 ∨ p = 8 ∨ p = 9)))) ∧ h = h9) rfl rfl (Nat.le_of_ble_eq_true rfl) (c_isOfOne (d + 4) 0 h p hp (fun z => ⟨_, rfl, Or.inl ⟨rfl, z⟩, rfl⟩) (fun z => ⟨_, rfl, Or.inr ⟨rfl, z⟩, rfl⟩)) (fun r2 h9 q5 => ?_)
    obtain ⟨q5, rfl⟩ := q5
    show xEx G0 cdX11_joins (some .int) (xRn G0 MT (d + 5)) Q 1 19 [some (.inr (.inr 0)), some (.inl p), some (.inl x), some (.inl y)] [.inl r2, .inl x, .inl p, .inr (.inr 9)] h
    refine E_b (x := (.ifCond .eq 7, 22, [], [])) rfl rfl (fun c19 => ?_) (fun c19 => ?_)
    · rw [c_eq (by first | assumption | (refine ⟨?_, ?_⟩ <;> omega) | (simp only [xr] at *; omega)) (by first | assumption | (refine ⟨?_, ?_⟩ <;> omega) | (simp only [xr] at *; omega))] at c19
      simp only [decide_eq_true_eq, decide_eq_false_iff_not, Decidable.not_not] at c19
      show xEx G0 cdX11_joins (some .int) (xRn G0 MT (d + 5)) Q 1 22 [some (.inr (.inr 0)), some (.inl p), some (.inl x), some (.inl y)] [.inl x, .inl p, .inr (.inr 9)] h
      refine E_s 1 (i' := 23) (ls' := [some (.inr (.inr 0)), some (.inl p), some (.inl x), some (.inl y)]) (sk' := [.inl y, .inl x, .inl p, .inr (.inr 9)]) (h' := h) rfl ?_
      have q9 : 0 ≤ y ∧ y < h 9 9 := by omega
      refine E_cv (x := (.invokevirtual 253, 3, [(1, 11)], [0])) (q := fun h9 => RK h h9 (fun e => ap p (h 24 (x * 12 + e)) (h 24 (y * 12 + e)))) rfl rfl (Nat.le_of_ble_eq_true rfl) (c_reckon_o (d + 2) 0 h p x y hn hK0 q1 q2 q9 hr (fun h9 z => ⟨rfl, z⟩)) (fun h1 hk => ?_)
      obtain ⟨k1, k2, k3, k4, k5⟩ := id hk
      have ek : h1 9 9 = h 9 9 := k2 _ (by decide)
      have ex : h1 1 = h 1 := k1 _ (by decide) (by decide)
      have ro : ∀ k e, 0 ≤ k → k < h 9 9 → 0 ≤ e → e < h 1 2 → h1 24 (k * 12 + e) = h 24 (k * 12 + e) := fun k e z1 z2 z3 z4 => k3 _ (by omega)
      have sm : ∀ k, 0 ≤ k → k < h 9 9 → ((∀ e, 0 ≤ e → e < h1 1 2 → h1 24 (k * 12 + e) = h1 24 (h1 9 9 * 12 + e)) ↔ ∀ e, 0 ≤ e → e < h 1 2 → h 24 (k * 12 + e) = ap p (h 24 (x * 12 + e)) (h 24 (y * 12 + e))) := fun k z1 z2 => by
        rw [ek, ex]
        constructor
        · intro z e z3 z4; rw [← ro k e z1 z2 z3 z4, z e z3 z4]; exact k4 e z3 z4
        · intro z e z3 z4; rw [ro k e z1 z2 z3 z4, z e z3 z4]; exact (k4 e z3 z4).symm
      show xEx G0 cdX11_joins (some .int) (xRn G0 MT (d + 5)) Q 1 24 [some (.inr (.inr 0)), some (.inl p), some (.inl x), some (.inl y)] [] h1
      refine E_s 2 (i' := 26) (ls' := [some (.inr (.inr 0)), some (.inl p), some (.inl x), some (.inl y)]) (sk' := [.inr (.inr 9)]) (h' := h1) rfl ?_
      refine E_cp (x := (.invokevirtual 256, 0, [(1, 14)], [0])) (q := fun r h9 => ((r = -1 ∧ ∀ k, 0 ≤ k → k < h 9 9 → ¬ ∀ e, 0 ≤ e → e < h 1 2 → h 24 (k * 12 + e) = ap p (h 24 (x * 12 + e)) (h 24 (y * 12 + e))) ∨ (0 ≤ r ∧ r < h 9 9 ∧ ∀ e, 0 ≤ e → e < h 1 2 → h 24 (r * 12 + e) = ap p (h 24 (x * 12 + e)) (h 24 (y * 12 + e)))) ∧ h1 = h9) rfl rfl (Nat.le_of_ble_eq_true rfl) (c_holder (d + 3) 0 h1 (by rw [ex]; exact hn) (by rw [ek]; exact hK0) (by rw [ek]; exact chn_of (k1 _ (by decide) (by decide)) (k1 _ (by decide) (by decide)) (k1 _ (by decide) (by decide)) hc) (by rw [k5]; exact HS_r _ _) (fun k e z1 z2 z3 z4 => by
        rw [ek] at z2
        rw [ex] at z4
        by_cases z5 : k = h 9 9
        · rw [z5, k4 e z3 z4]; exact ap_r (hr x e q2.1 q2.2 z3 z4) (hr y e q9.1 q9.2 z3 z4)
        · rw [ro k e z1 (by omega) z3 z4]; exact hr k e z1 (by omega) z3 z4) (fun k z1 z2 z3 => by
        rw [ek] at z2
        rw [k1 27 (by decide) (by decide), hsl k z1 z2, k5]
        exact HS_congr (fun e z4 z5 => (sm k z1 z2).mp z3 e z4 z5)) (fun k z1 z2 z3 => ⟨k, rfl, Or.inr ⟨z1, by rw [ek] at z2; exact z2, (sm k z1 (by rw [ek] at z2; exact z2)).mp z3⟩, rfl⟩) (fun z1 => ⟨-1, rfl, Or.inl ⟨rfl, fun k z2 z3 z4 => z1 k z2 (by rw [ek]; exact z3) ((sm k z2 z3).mpr z4)⟩, rfl⟩)) (fun r h9 hq => ?_)
      obtain ⟨hq, rfl⟩ := hq
      show xEx G0 cdX11_joins (some .int) (xRn G0 MT (d + 5)) Q 1 27 [some (.inr (.inr 0)), some (.inl p), some (.inl x), some (.inl y)] [.inl r] h1
      exact E_ret (x := (.ireturn, 0, [], [])) (v := some (.inl r)) rfl (Or.inl rfl) (hO q1 (by omega) y (by omega) _ _ hk hq)
    · rw [c_eq (by first | assumption | (refine ⟨?_, ?_⟩ <;> omega) | (simp only [xr] at *; omega)) (by first | assumption | (refine ⟨?_, ?_⟩ <;> omega) | (simp only [xr] at *; omega))] at c19
      simp only [decide_eq_true_eq, decide_eq_false_iff_not, Decidable.not_not] at c19
      show xEx G0 cdX11_joins (some .int) (xRn G0 MT (d + 5)) Q 1 20 [some (.inr (.inr 0)), some (.inl p), some (.inl x), some (.inl y)] [.inl x, .inl p, .inr (.inr 9)] h
      refine E_s 2 (i' := 23) (ls' := [some (.inr (.inr 0)), some (.inl p), some (.inl x), some (.inl y)]) (sk' := [.inl x, .inl x, .inl p, .inr (.inr 9)]) (h' := h) rfl ?_
      have q9 : 0 ≤ x ∧ x < h 9 9 := by omega
      refine E_cv (x := (.invokevirtual 253, 3, [(1, 11)], [0])) (q := fun h9 => RK h h9 (fun e => ap p (h 24 (x * 12 + e)) (h 24 (x * 12 + e)))) rfl rfl (Nat.le_of_ble_eq_true rfl) (c_reckon_o (d + 2) 0 h p x x hn hK0 q1 q2 q9 hr (fun h9 z => ⟨rfl, z⟩)) (fun h1 hk => ?_)
      obtain ⟨k1, k2, k3, k4, k5⟩ := id hk
      have ek : h1 9 9 = h 9 9 := k2 _ (by decide)
      have ex : h1 1 = h 1 := k1 _ (by decide) (by decide)
      have ro : ∀ k e, 0 ≤ k → k < h 9 9 → 0 ≤ e → e < h 1 2 → h1 24 (k * 12 + e) = h 24 (k * 12 + e) := fun k e z1 z2 z3 z4 => k3 _ (by omega)
      have sm : ∀ k, 0 ≤ k → k < h 9 9 → ((∀ e, 0 ≤ e → e < h1 1 2 → h1 24 (k * 12 + e) = h1 24 (h1 9 9 * 12 + e)) ↔ ∀ e, 0 ≤ e → e < h 1 2 → h 24 (k * 12 + e) = ap p (h 24 (x * 12 + e)) (h 24 (x * 12 + e))) := fun k z1 z2 => by
        rw [ek, ex]
        constructor
        · intro z e z3 z4; rw [← ro k e z1 z2 z3 z4, z e z3 z4]; exact k4 e z3 z4
        · intro z e z3 z4; rw [ro k e z1 z2 z3 z4, z e z3 z4]; exact (k4 e z3 z4).symm
      show xEx G0 cdX11_joins (some .int) (xRn G0 MT (d + 5)) Q 1 24 [some (.inr (.inr 0)), some (.inl p), some (.inl x), some (.inl y)] [] h1
      refine E_s 2 (i' := 26) (ls' := [some (.inr (.inr 0)), some (.inl p), some (.inl x), some (.inl y)]) (sk' := [.inr (.inr 9)]) (h' := h1) rfl ?_
      refine E_cp (x := (.invokevirtual 256, 0, [(1, 14)], [0])) (q := fun r h9 => ((r = -1 ∧ ∀ k, 0 ≤ k → k < h 9 9 → ¬ ∀ e, 0 ≤ e → e < h 1 2 → h 24 (k * 12 + e) = ap p (h 24 (x * 12 + e)) (h 24 (x * 12 + e))) ∨ (0 ≤ r ∧ r < h 9 9 ∧ ∀ e, 0 ≤ e → e < h 1 2 → h 24 (r * 12 + e) = ap p (h 24 (x * 12 + e)) (h 24 (x * 12 + e)))) ∧ h1 = h9) rfl rfl (Nat.le_of_ble_eq_true rfl) (c_holder (d + 3) 0 h1 (by rw [ex]; exact hn) (by rw [ek]; exact hK0) (by rw [ek]; exact chn_of (k1 _ (by decide) (by decide)) (k1 _ (by decide) (by decide)) (k1 _ (by decide) (by decide)) hc) (by rw [k5]; exact HS_r _ _) (fun k e z1 z2 z3 z4 => by
        rw [ek] at z2
        rw [ex] at z4
        by_cases z5 : k = h 9 9
        · rw [z5, k4 e z3 z4]; exact ap_r (hr x e q2.1 q2.2 z3 z4) (hr x e q9.1 q9.2 z3 z4)
        · rw [ro k e z1 (by omega) z3 z4]; exact hr k e z1 (by omega) z3 z4) (fun k z1 z2 z3 => by
        rw [ek] at z2
        rw [k1 27 (by decide) (by decide), hsl k z1 z2, k5]
        exact HS_congr (fun e z4 z5 => (sm k z1 z2).mp z3 e z4 z5)) (fun k z1 z2 z3 => ⟨k, rfl, Or.inr ⟨z1, by rw [ek] at z2; exact z2, (sm k z1 (by rw [ek] at z2; exact z2)).mp z3⟩, rfl⟩) (fun z1 => ⟨-1, rfl, Or.inl ⟨rfl, fun k z2 z3 z4 => z1 k z2 (by rw [ek]; exact z3) ((sm k z2 z3).mpr z4)⟩, rfl⟩)) (fun r h9 hq => ?_)
      obtain ⟨hq, rfl⟩ := hq
      show xEx G0 cdX11_joins (some .int) (xRn G0 MT (d + 5)) Q 1 27 [some (.inr (.inr 0)), some (.inl p), some (.inl x), some (.inl y)] [.inl r] h1
      exact E_ret (x := (.ireturn, 0, [], [])) (v := some (.inl r)) rfl (Or.inl rfl) (hO q1 (by omega) x (by omega) _ _ hk hq)
  · rw [c_ne (by first | assumption | (refine ⟨?_, ?_⟩ <;> omega) | (simp only [xr] at *; omega)) (by first | assumption | (refine ⟨?_, ?_⟩ <;> omega) | (simp only [xr] at *; omega))] at c8
    simp only [decide_eq_true_eq, decide_eq_false_iff_not, Decidable.not_not] at c8
    show xEx G0 cdX11_joins (some .int) (xRn G0 MT (d + 5)) Q 1 9 [some (.inr (.inr 0)), some (.inl p), some (.inl x), some (.inl y)] [] h
    refine E_s 3 (i' := 12) (ls' := [some (.inr (.inr 0)), some (.inl p), some (.inl x), some (.inl y)]) (sk' := [.inl y, .inl 0, .inr (.inr 0)]) (h' := h) rfl ?_
    refine E_cx (x := (.invokevirtual 244, 2, [(9, 144)], [0])) (b1 := 1) (b2 := 0) (v := none) (q := fun h9 => (0 ≤ y ∧ y < h 9 9) ∧ h = h9) rfl rfl (Nat.le_of_ble_eq_true rfl) (fun z => by cases z) (c_refNotKept0 (d + 3) h y hy hK0 (fun z => Or.inl ⟨rfl, z, rfl⟩) (fun z => Or.inr ⟨_, rfl, hN q1 (fun y9 => by omega)⟩)) (fun h9 hq9 => ?_)
    obtain ⟨q4, rfl⟩ := hq9
    show xEx G0 cdX11_joins (some .int) (xRn G0 MT (d + 5)) Q 0 13 [some (.inr (.inr 0)), some (.inl p), some (.inl x), some (.inl y)] [] h
    refine E_s 5 (i' := 18) (ls' := [some (.inr (.inr 0)), some (.inl p), some (.inl x), some (.inl y)]) (sk' := [.inl p, .inl x, .inl p, .inr (.inr 9)]) (h' := h) rfl ?_
    refine E_cp (x := (.invokestatic 248, 1, [(0, 38)], [])) (q := fun r2 h9 => ((r2 = 1 ∧ ((p = 5 ∨ p = 8 ∨ p = 9))) ∨ (r2 = 0 ∧ ¬ ((p = 5 ∨ p = 8 ∨ p = 9)))) ∧ h = h9) rfl rfl (Nat.le_of_ble_eq_true rfl) (c_isOfOne (d + 4) 0 h p hp (fun z => ⟨_, rfl, Or.inl ⟨rfl, z⟩, rfl⟩) (fun z => ⟨_, rfl, Or.inr ⟨rfl, z⟩, rfl⟩)) (fun r2 h9 q5 => ?_)
    obtain ⟨q5, rfl⟩ := q5
    show xEx G0 cdX11_joins (some .int) (xRn G0 MT (d + 5)) Q 0 19 [some (.inr (.inr 0)), some (.inl p), some (.inl x), some (.inl y)] [.inl r2, .inl x, .inl p, .inr (.inr 9)] h
    refine E_b (x := (.ifCond .eq 7, 22, [], [])) rfl rfl (fun c19 => ?_) (fun c19 => ?_)
    · rw [c_eq (by first | assumption | (refine ⟨?_, ?_⟩ <;> omega) | (simp only [xr] at *; omega)) (by first | assumption | (refine ⟨?_, ?_⟩ <;> omega) | (simp only [xr] at *; omega))] at c19
      simp only [decide_eq_true_eq, decide_eq_false_iff_not, Decidable.not_not] at c19
      show xEx G0 cdX11_joins (some .int) (xRn G0 MT (d + 5)) Q 0 22 [some (.inr (.inr 0)), some (.inl p), some (.inl x), some (.inl y)] [.inl x, .inl p, .inr (.inr 9)] h
      refine E_s 1 (i' := 23) (ls' := [some (.inr (.inr 0)), some (.inl p), some (.inl x), some (.inl y)]) (sk' := [.inl y, .inl x, .inl p, .inr (.inr 9)]) (h' := h) rfl ?_
      have q9 : 0 ≤ y ∧ y < h 9 9 := by omega
      refine E_cv (x := (.invokevirtual 253, 3, [(1, 11)], [0])) (q := fun h9 => RK h h9 (fun e => ap p (h 24 (x * 12 + e)) (h 24 (y * 12 + e)))) rfl rfl (Nat.le_of_ble_eq_true rfl) (c_reckon_o (d + 2) 0 h p x y hn hK0 q1 q2 q9 hr (fun h9 z => ⟨rfl, z⟩)) (fun h1 hk => ?_)
      obtain ⟨k1, k2, k3, k4, k5⟩ := id hk
      have ek : h1 9 9 = h 9 9 := k2 _ (by decide)
      have ex : h1 1 = h 1 := k1 _ (by decide) (by decide)
      have ro : ∀ k e, 0 ≤ k → k < h 9 9 → 0 ≤ e → e < h 1 2 → h1 24 (k * 12 + e) = h 24 (k * 12 + e) := fun k e z1 z2 z3 z4 => k3 _ (by omega)
      have sm : ∀ k, 0 ≤ k → k < h 9 9 → ((∀ e, 0 ≤ e → e < h1 1 2 → h1 24 (k * 12 + e) = h1 24 (h1 9 9 * 12 + e)) ↔ ∀ e, 0 ≤ e → e < h 1 2 → h 24 (k * 12 + e) = ap p (h 24 (x * 12 + e)) (h 24 (y * 12 + e))) := fun k z1 z2 => by
        rw [ek, ex]
        constructor
        · intro z e z3 z4; rw [← ro k e z1 z2 z3 z4, z e z3 z4]; exact k4 e z3 z4
        · intro z e z3 z4; rw [ro k e z1 z2 z3 z4, z e z3 z4]; exact (k4 e z3 z4).symm
      show xEx G0 cdX11_joins (some .int) (xRn G0 MT (d + 5)) Q 0 24 [some (.inr (.inr 0)), some (.inl p), some (.inl x), some (.inl y)] [] h1
      refine E_s 2 (i' := 26) (ls' := [some (.inr (.inr 0)), some (.inl p), some (.inl x), some (.inl y)]) (sk' := [.inr (.inr 9)]) (h' := h1) rfl ?_
      refine E_cp (x := (.invokevirtual 256, 0, [(1, 14)], [0])) (q := fun r h9 => ((r = -1 ∧ ∀ k, 0 ≤ k → k < h 9 9 → ¬ ∀ e, 0 ≤ e → e < h 1 2 → h 24 (k * 12 + e) = ap p (h 24 (x * 12 + e)) (h 24 (y * 12 + e))) ∨ (0 ≤ r ∧ r < h 9 9 ∧ ∀ e, 0 ≤ e → e < h 1 2 → h 24 (r * 12 + e) = ap p (h 24 (x * 12 + e)) (h 24 (y * 12 + e)))) ∧ h1 = h9) rfl rfl (Nat.le_of_ble_eq_true rfl) (c_holder (d + 3) 0 h1 (by rw [ex]; exact hn) (by rw [ek]; exact hK0) (by rw [ek]; exact chn_of (k1 _ (by decide) (by decide)) (k1 _ (by decide) (by decide)) (k1 _ (by decide) (by decide)) hc) (by rw [k5]; exact HS_r _ _) (fun k e z1 z2 z3 z4 => by
        rw [ek] at z2
        rw [ex] at z4
        by_cases z5 : k = h 9 9
        · rw [z5, k4 e z3 z4]; exact ap_r (hr x e q2.1 q2.2 z3 z4) (hr y e q9.1 q9.2 z3 z4)
        · rw [ro k e z1 (by omega) z3 z4]; exact hr k e z1 (by omega) z3 z4) (fun k z1 z2 z3 => by
        rw [ek] at z2
        rw [k1 27 (by decide) (by decide), hsl k z1 z2, k5]
        exact HS_congr (fun e z4 z5 => (sm k z1 z2).mp z3 e z4 z5)) (fun k z1 z2 z3 => ⟨k, rfl, Or.inr ⟨z1, by rw [ek] at z2; exact z2, (sm k z1 (by rw [ek] at z2; exact z2)).mp z3⟩, rfl⟩) (fun z1 => ⟨-1, rfl, Or.inl ⟨rfl, fun k z2 z3 z4 => z1 k z2 (by rw [ek]; exact z3) ((sm k z2 z3).mpr z4)⟩, rfl⟩)) (fun r h9 hq => ?_)
      obtain ⟨hq, rfl⟩ := hq
      show xEx G0 cdX11_joins (some .int) (xRn G0 MT (d + 5)) Q 0 27 [some (.inr (.inr 0)), some (.inl p), some (.inl x), some (.inl y)] [.inl r] h1
      exact E_ret (x := (.ireturn, 0, [], [])) (v := some (.inl r)) rfl (Or.inl rfl) (hO q1 (by omega) y (by omega) _ _ hk hq)
    · rw [c_eq (by first | assumption | (refine ⟨?_, ?_⟩ <;> omega) | (simp only [xr] at *; omega)) (by first | assumption | (refine ⟨?_, ?_⟩ <;> omega) | (simp only [xr] at *; omega))] at c19
      simp only [decide_eq_true_eq, decide_eq_false_iff_not, Decidable.not_not] at c19
      show xEx G0 cdX11_joins (some .int) (xRn G0 MT (d + 5)) Q 0 20 [some (.inr (.inr 0)), some (.inl p), some (.inl x), some (.inl y)] [.inl x, .inl p, .inr (.inr 9)] h
      refine E_s 2 (i' := 23) (ls' := [some (.inr (.inr 0)), some (.inl p), some (.inl x), some (.inl y)]) (sk' := [.inl x, .inl x, .inl p, .inr (.inr 9)]) (h' := h) rfl ?_
      have q9 : 0 ≤ x ∧ x < h 9 9 := by omega
      refine E_cv (x := (.invokevirtual 253, 3, [(1, 11)], [0])) (q := fun h9 => RK h h9 (fun e => ap p (h 24 (x * 12 + e)) (h 24 (x * 12 + e)))) rfl rfl (Nat.le_of_ble_eq_true rfl) (c_reckon_o (d + 2) 0 h p x x hn hK0 q1 q2 q9 hr (fun h9 z => ⟨rfl, z⟩)) (fun h1 hk => ?_)
      obtain ⟨k1, k2, k3, k4, k5⟩ := id hk
      have ek : h1 9 9 = h 9 9 := k2 _ (by decide)
      have ex : h1 1 = h 1 := k1 _ (by decide) (by decide)
      have ro : ∀ k e, 0 ≤ k → k < h 9 9 → 0 ≤ e → e < h 1 2 → h1 24 (k * 12 + e) = h 24 (k * 12 + e) := fun k e z1 z2 z3 z4 => k3 _ (by omega)
      have sm : ∀ k, 0 ≤ k → k < h 9 9 → ((∀ e, 0 ≤ e → e < h1 1 2 → h1 24 (k * 12 + e) = h1 24 (h1 9 9 * 12 + e)) ↔ ∀ e, 0 ≤ e → e < h 1 2 → h 24 (k * 12 + e) = ap p (h 24 (x * 12 + e)) (h 24 (x * 12 + e))) := fun k z1 z2 => by
        rw [ek, ex]
        constructor
        · intro z e z3 z4; rw [← ro k e z1 z2 z3 z4, z e z3 z4]; exact k4 e z3 z4
        · intro z e z3 z4; rw [ro k e z1 z2 z3 z4, z e z3 z4]; exact (k4 e z3 z4).symm
      show xEx G0 cdX11_joins (some .int) (xRn G0 MT (d + 5)) Q 0 24 [some (.inr (.inr 0)), some (.inl p), some (.inl x), some (.inl y)] [] h1
      refine E_s 2 (i' := 26) (ls' := [some (.inr (.inr 0)), some (.inl p), some (.inl x), some (.inl y)]) (sk' := [.inr (.inr 9)]) (h' := h1) rfl ?_
      refine E_cp (x := (.invokevirtual 256, 0, [(1, 14)], [0])) (q := fun r h9 => ((r = -1 ∧ ∀ k, 0 ≤ k → k < h 9 9 → ¬ ∀ e, 0 ≤ e → e < h 1 2 → h 24 (k * 12 + e) = ap p (h 24 (x * 12 + e)) (h 24 (x * 12 + e))) ∨ (0 ≤ r ∧ r < h 9 9 ∧ ∀ e, 0 ≤ e → e < h 1 2 → h 24 (r * 12 + e) = ap p (h 24 (x * 12 + e)) (h 24 (x * 12 + e)))) ∧ h1 = h9) rfl rfl (Nat.le_of_ble_eq_true rfl) (c_holder (d + 3) 0 h1 (by rw [ex]; exact hn) (by rw [ek]; exact hK0) (by rw [ek]; exact chn_of (k1 _ (by decide) (by decide)) (k1 _ (by decide) (by decide)) (k1 _ (by decide) (by decide)) hc) (by rw [k5]; exact HS_r _ _) (fun k e z1 z2 z3 z4 => by
        rw [ek] at z2
        rw [ex] at z4
        by_cases z5 : k = h 9 9
        · rw [z5, k4 e z3 z4]; exact ap_r (hr x e q2.1 q2.2 z3 z4) (hr x e q9.1 q9.2 z3 z4)
        · rw [ro k e z1 (by omega) z3 z4]; exact hr k e z1 (by omega) z3 z4) (fun k z1 z2 z3 => by
        rw [ek] at z2
        rw [k1 27 (by decide) (by decide), hsl k z1 z2, k5]
        exact HS_congr (fun e z4 z5 => (sm k z1 z2).mp z3 e z4 z5)) (fun k z1 z2 z3 => ⟨k, rfl, Or.inr ⟨z1, by rw [ek] at z2; exact z2, (sm k z1 (by rw [ek] at z2; exact z2)).mp z3⟩, rfl⟩) (fun z1 => ⟨-1, rfl, Or.inl ⟨rfl, fun k z2 z3 z4 => z1 k z2 (by rw [ek]; exact z3) ((sm k z2 z3).mpr z4)⟩, rfl⟩)) (fun r h9 hq => ?_)
      obtain ⟨hq, rfl⟩ := hq
      show xEx G0 cdX11_joins (some .int) (xRn G0 MT (d + 5)) Q 0 27 [some (.inr (.inr 0)), some (.inl p), some (.inl x), some (.inl y)] [.inl r] h1
      exact E_ret (x := (.ireturn, 0, [], [])) (v := some (.inl r)) rfl (Or.inl rfl) (hO q1 (by omega) x (by omega) _ _ hk hq)
set_option maxHeartbeats 1000000 in
theorem m_joins (d b : Nat) (h : xH) (p x y : Int) (vy : Int → Int) (hp : xr p) (hx : xr x) (hy : xr y) (hn : 0 ≤ h 66 4 ∧ h 66 4 ≤ 12) (hr : ∀ k e, 0 ≤ k → k < h 66 8 → 0 ≤ e → e < h 66 4 → xr (h 77 (12 * k + e))) (hvy : ((p = 5 ∨ p = 8 ∨ p = 9) ∧ True) ∨ (¬ (p = 5 ∨ p = 8 ∨ p = 9) ∧ ∀ e, vy e = h 77 (12 * y + e))) (hvr : ∀ e, 0 ≤ e → e < h 66 4 → xr (vy e)) (hM0 : 0 ≤ h 66 8 ∧ h 66 8 ≤ 300) {Q : xO → xH → Prop} (hA : ¬ (0 ≤ p ∧ p ≤ 9) → Q (.inl (some (.inl (0)))) (xup h 66 0 1)) (hN : (0 ≤ p ∧ p ≤ 9) → ¬ ((0 ≤ x ∧ x < h 66 8) ∧ ((p = 5 ∨ p = 8 ∨ p = 9) ∨ (0 ≤ y ∧ y < h 66 8))) → Q (.inl (some (.inl (0)))) (xup h 66 0 2)) (hO : (0 ≤ p ∧ p ≤ 9) → ((0 ≤ x ∧ x < h 66 8) ∧ ((p = 5 ∨ p = 8 ∨ p = 9) ∨ (0 ≤ y ∧ y < h 66 8))) → ∀ r h', (∀ a, a ≠ 92 → h' a = xup h 66 0 0 a) → ((r = -1 ∧ ∀ k, 0 ≤ k → k < h 66 8 → ¬ ∀ e, 0 ≤ e → e < h 66 4 → h 77 (12 * k + e) = ap p (h 77 (12 * x + e)) (vy e)) ∨ (0 ≤ r ∧ r < h 66 8 ∧ ∀ e, 0 ≤ e → e < h 66 4 → h 77 (12 * r + e) = ap p (h 77 (12 * x + e)) (vy e))) → Q (.inl (some (.inl r))) h') : xRn G0 MT (d + 6) b 218 [.inr (.inr 66), .inl p, .inl x, .inl y] h Q := by
  refine R_of (M := mX12_joins) rfl (Nat.le_of_ble_eq_true rfl) ?_
  show xEx G0 cdX12_joins (some .int) (xRn G0 MT (d + 5)) Q b 0 [some (.inr (.inr 66)), some (.inl p), some (.inl x), some (.inl y), none] [] h
  refine E_s 2 (i' := 2) (ls' := [some (.inr (.inr 66)), some (.inl p), some (.inl x), some (.inl y), none]) (sk' := [.inl p, .inr (.inr 66)]) (h' := h) rfl ?_
  refine E_cp (x := (.invokestatic 197, 1, [(0, 164)], [])) (q := fun r1 h9 => ((r1 = 1 ∧ (0 ≤ p ∧ p ≤ 9)) ∨ (r1 = 0 ∧ ¬ (0 ≤ p ∧ p ≤ 9))) ∧ h = h9) rfl rfl (Nat.le_of_ble_eq_true rfl) (m_isPart (d + 3) 0 h p hp (fun z => ⟨_, rfl, Or.inl ⟨rfl, z⟩, rfl⟩) (fun z => ⟨_, rfl, Or.inr ⟨rfl, z⟩, rfl⟩)) (fun r1 h9 q1 => ?_)
  obtain ⟨q1, rfl⟩ := q1
  show xEx G0 cdX12_joins (some .int) (xRn G0 MT (d + 5)) Q b 3 [some (.inr (.inr 66)), some (.inl p), some (.inl x), some (.inl y), none] [.inl r1, .inr (.inr 66)] h
  refine E_b (x := (.ifCond .ne 7, 6, [], [])) rfl rfl (fun c3 => ?_) (fun c3 => ?_)
  · rw [c_ne (by first | assumption | (refine ⟨?_, ?_⟩ <;> omega) | (simp only [xr] at *; omega)) (by first | assumption | (refine ⟨?_, ?_⟩ <;> omega) | (simp only [xr] at *; omega))] at c3
    simp only [decide_eq_true_eq, decide_eq_false_iff_not, Decidable.not_not] at c3
    show xEx G0 cdX12_joins (some .int) (xRn G0 MT (d + 5)) Q b 6 [some (.inr (.inr 66)), some (.inl p), some (.inl x), some (.inl y), none] [.inr (.inr 66)] h
    refine E_s 3 (i' := 9) (ls' := [some (.inr (.inr 66)), some (.inl p), some (.inl x), some (.inl y), none]) (sk' := [.inl x, .inl 0, .inr (.inr 66), .inr (.inr 66)]) (h' := h) rfl ?_
    refine E_cp (x := (.invokevirtual 295, 2, [(10, 193)], [0])) (q := fun r2 h9 => ((r2 = 1 ∧ (0 ≤ x ∧ x < h 66 8)) ∨ (r2 = 0 ∧ ¬ (0 ≤ x ∧ x < h 66 8))) ∧ h = h9) rfl rfl (Nat.le_of_ble_eq_true rfl) (m_isKept0 (d + 3) 0 h x hx hM0 (fun z => ⟨_, rfl, Or.inl ⟨rfl, z⟩, rfl⟩) (fun z => ⟨_, rfl, Or.inr ⟨rfl, z⟩, rfl⟩)) (fun r2 h9 q2 => ?_)
    obtain ⟨q2, rfl⟩ := q2
    show xEx G0 cdX12_joins (some .int) (xRn G0 MT (d + 5)) Q b 10 [some (.inr (.inr 66)), some (.inl p), some (.inl x), some (.inl y), none] [.inl r2, .inr (.inr 66)] h
    refine E_b (x := (.ifCond .eq 19, 19, [], [])) rfl rfl (fun c10 => ?_) (fun c10 => ?_)
    · rw [c_eq (by first | assumption | (refine ⟨?_, ?_⟩ <;> omega) | (simp only [xr] at *; omega)) (by first | assumption | (refine ⟨?_, ?_⟩ <;> omega) | (simp only [xr] at *; omega))] at c10
      simp only [decide_eq_true_eq, decide_eq_false_iff_not, Decidable.not_not] at c10
      show xEx G0 cdX12_joins (some .int) (xRn G0 MT (d + 5)) Q b 19 [some (.inr (.inr 66)), some (.inl p), some (.inl x), some (.inl y), none] [.inr (.inr 66)] h
      refine E_s 3 (i' := 23) (ls' := [some (.inr (.inr 66)), some (.inl p), some (.inl x), some (.inl y), none]) (sk' := []) (h' := (xup h 66 0 2)) rfl ?_
      
      refine E_s 2 (i' := 25) (ls' := [some (.inr (.inr 66)), some (.inl p), some (.inl x), some (.inl y), none]) (sk' := [.inl 2]) (h' := (xup h 66 0 2)) rfl ?_
      refine E_b (x := (.ifCond .le 5, 28, [], [])) rfl rfl (fun c25 => ?_) (fun c25 => ?_)
      · show xEx G0 cdX12_joins (some .int) (xRn G0 MT (d + 5)) Q b 28 [some (.inr (.inr 66)), some (.inl p), some (.inl x), some (.inl y), none] [] (xup h 66 0 2)
        exact absurd c25 (by decide)
      · show xEx G0 cdX12_joins (some .int) (xRn G0 MT (d + 5)) Q b 26 [some (.inr (.inr 66)), some (.inl p), some (.inl x), some (.inl y), none] [] (xup h 66 0 2)
        refine E_s 1 (i' := 27) (ls' := [some (.inr (.inr 66)), some (.inl p), some (.inl x), some (.inl y), none]) (sk' := [.inl 0]) (h' := (xup h 66 0 2)) rfl ?_
        exact E_ret (x := (.ireturn, 0, [], [])) (v := some (.inl 0)) rfl (Or.inl rfl) (hN (by omega) (by omega))
    · rw [c_eq (by first | assumption | (refine ⟨?_, ?_⟩ <;> omega) | (simp only [xr] at *; omega)) (by first | assumption | (refine ⟨?_, ?_⟩ <;> omega) | (simp only [xr] at *; omega))] at c10
      simp only [decide_eq_true_eq, decide_eq_false_iff_not, Decidable.not_not] at c10
      show xEx G0 cdX12_joins (some .int) (xRn G0 MT (d + 5)) Q b 11 [some (.inr (.inr 66)), some (.inl p), some (.inl x), some (.inl y), none] [.inr (.inr 66)] h
      refine E_s 1 (i' := 12) (ls' := [some (.inr (.inr 66)), some (.inl p), some (.inl x), some (.inl y), none]) (sk' := [.inl p, .inr (.inr 66)]) (h' := h) rfl ?_
      refine E_cp (x := (.invokestatic 242, 1, [(0, 174)], [])) (q := fun r3 h9 => ((r3 = 1 ∧ ((p = 5 ∨ p = 8 ∨ p = 9))) ∨ (r3 = 0 ∧ ¬ ((p = 5 ∨ p = 8 ∨ p = 9)))) ∧ h = h9) rfl rfl (Nat.le_of_ble_eq_true rfl) (m_isOfOne (d + 4) 0 h p hp (fun z => ⟨_, rfl, Or.inl ⟨rfl, z⟩, rfl⟩) (fun z => ⟨_, rfl, Or.inr ⟨rfl, z⟩, rfl⟩)) (fun r3 h9 q3 => ?_)
      obtain ⟨q3, rfl⟩ := q3
      show xEx G0 cdX12_joins (some .int) (xRn G0 MT (d + 5)) Q b 13 [some (.inr (.inr 66)), some (.inl p), some (.inl x), some (.inl y), none] [.inl r3, .inr (.inr 66)] h
      refine E_b (x := (.ifCond .ne 16, 21, [], [])) rfl rfl (fun c13 => ?_) (fun c13 => ?_)
      · rw [c_ne (by first | assumption | (refine ⟨?_, ?_⟩ <;> omega) | (simp only [xr] at *; omega)) (by first | assumption | (refine ⟨?_, ?_⟩ <;> omega) | (simp only [xr] at *; omega))] at c13
        simp only [decide_eq_true_eq, decide_eq_false_iff_not, Decidable.not_not] at c13
        show xEx G0 cdX12_joins (some .int) (xRn G0 MT (d + 5)) Q b 21 [some (.inr (.inr 66)), some (.inl p), some (.inl x), some (.inl y), none] [.inr (.inr 66)] h
        refine E_s 2 (i' := 23) (ls' := [some (.inr (.inr 66)), some (.inl p), some (.inl x), some (.inl y), none]) (sk' := []) (h' := (xup h 66 0 0)) rfl ?_
        
        refine E_s 2 (i' := 25) (ls' := [some (.inr (.inr 66)), some (.inl p), some (.inl x), some (.inl y), none]) (sk' := [.inl 0]) (h' := (xup h 66 0 0)) rfl ?_
        refine E_b (x := (.ifCond .le 5, 28, [], [])) rfl rfl (fun c25 => ?_) (fun c25 => ?_)
        · show xEx G0 cdX12_joins (some .int) (xRn G0 MT (d + 5)) Q b 28 [some (.inr (.inr 66)), some (.inl p), some (.inl x), some (.inl y), none] [] (xup h 66 0 0)
          refine E_s 2 (i' := 30) (ls' := [some (.inr (.inr 66)), some (.inl p), some (.inl x), some (.inl y), some (.inl 0)]) (sk' := []) (h' := (xup h 66 0 0)) rfl ?_
          have key30 : ∀ (n : Nat) (hw : xH) (e : Int), (0 ≤ e) → (e ≤ h 66 4) → (∀ a, a ≠ 92 → hw a = xup h 66 0 0 a) → (∀ q, 0 ≤ q → q < e → hw 92 q = ap p (h 77 (12 * x + q)) (vy q)) → (0 ≤ p ∧ p ≤ 9) → ((0 ≤ x ∧ x < h 66 8) ∧ ((p = 5 ∨ p = 8 ∨ p = 9) ∨ (0 ≤ y ∧ y < h 66 8))) → ((h 66 4 - e).toNat) < n → xEx G0 cdX12_joins (some .int) (xRn G0 MT (d + 5)) Q b 30 [some (.inr (.inr 66)), some (.inl p), some (.inl x), some (.inl y), some (.inl e)] [] hw := by
            intro n
            induction n with
            | zero => intro hw e _ _ _ _ _ _ hm; exact absurd hm (Nat.not_lt_zero _)
            | succ n ih30 =>
              intro hw e he0 he9 hwa hwr hp9 hc9 hm30
              have hwx : hw 66 = xup h 66 0 0 66 := hwa 66 (by decide)
              have hwe : hw 66 4 = h 66 4 := by rw [hwx]; rfl
              refine E_s 3 (i' := 33) (ls' := [some (.inr (.inr 66)), some (.inl p), some (.inl x), some (.inl y), some (.inl e)]) (sk' := [.inl (hw 66 4), .inl e]) (h' := hw) rfl ?_
              refine E_b (x := (.if_icmp .ge 55, 63, [], [])) rfl rfl (fun c33 => ?_) (fun c33 => ?_)
              · rw [c_ge (by first | assumption | (refine ⟨?_, ?_⟩ <;> omega) | (simp only [xr] at *; omega)) (by first | assumption | (refine ⟨?_, ?_⟩ <;> omega) | (simp only [xr] at *; omega))] at c33
                simp only [decide_eq_true_eq, decide_eq_false_iff_not, Decidable.not_not] at c33
                show xEx G0 cdX12_joins (some .int) (xRn G0 MT (d + 5)) Q b 63 [some (.inr (.inr 66)), some (.inl p), some (.inl x), some (.inl y), some (.inl e)] [] hw
                refine E_s 1 (i' := 64) (ls' := [some (.inr (.inr 66)), some (.inl p), some (.inl x), some (.inl y), some (.inl e)]) (sk' := [.inr (.inr 66)]) (h' := hw) rfl ?_
                refine E_cp (x := (.invokevirtual 227, 0, [(10, 177)], [0])) (q := fun r h9 => ((r = -1 ∧ ∀ k, 0 ≤ k → k < h 66 8 → ¬ ∀ e, 0 ≤ e → e < h 66 4 → h 77 (12 * k + e) = ap p (h 77 (12 * x + e)) (vy e)) ∨ (0 ≤ r ∧ r < h 66 8 ∧ ∀ e, 0 ≤ e → e < h 66 4 → h 77 (12 * r + e) = ap p (h 77 (12 * x + e)) (vy e))) ∧ hw = h9) rfl rfl (Nat.le_of_ble_eq_true rfl) (r_like (d + 4) 0 hw (by rw [hwx]; exact hn) (by rw [hwx]; exact hM0) (fun k e z1 z2 z3 z4 => by
                  rw [hwx] at z2 z4
                  rw [hwa 77 (by decide)]
                  exact hr k e z1 z2 z3 z4) (fun e z1 z2 => by
                  rw [hwx] at z2
                  have z2 : e < h 66 4 := z2
                  rw [hwr e z1 (by omega)]
                  exact ap_r (hr x e (by omega) (by omega) z1 z2) (hvr e z1 z2)) (fun k z1 z2 z3 z4 => ⟨k, rfl, Or.inr ⟨z1, by rw [hwx] at z2; exact z2, fun e z5 z6 => by
                  have z7 := z3 e z5 (by rw [hwx]; exact z6)
                  rw [hwa 77 (by decide), hwr e z5 (by omega)] at z7
                  exact z7⟩, rfl⟩) (fun z1 => ⟨-1, rfl, Or.inl ⟨rfl, fun k z2 z3 z4 => z1 k z2 (by rw [hwx]; exact z3) (fun e z5 z6 => by
                  rw [hwx] at z6
                  have z6 : e < h 66 4 := z6
                  rw [hwa 77 (by decide), hwr e z5 (by omega)]
                  exact z4 e z5 z6)⟩, rfl⟩)) (fun r h9 hq => ?_)
                obtain ⟨hq, rfl⟩ := hq
                show xEx G0 cdX12_joins (some .int) (xRn G0 MT (d + 5)) Q b 65 [some (.inr (.inr 66)), some (.inl p), some (.inl x), some (.inl y), some (.inl e)] [.inl r] hw
                exact E_ret (x := (.ireturn, 0, [], [])) (v := some (.inl r)) rfl (Or.inl rfl) (hO hp9 hc9 _ _ hwa hq)
              · rw [c_ge (by first | assumption | (refine ⟨?_, ?_⟩ <;> omega) | (simp only [xr] at *; omega)) (by first | assumption | (refine ⟨?_, ?_⟩ <;> omega) | (simp only [xr] at *; omega))] at c33
                simp only [decide_eq_true_eq, decide_eq_false_iff_not, Decidable.not_not] at c33
                show xEx G0 cdX12_joins (some .int) (xRn G0 MT (d + 5)) Q b 34 [some (.inr (.inr 66)), some (.inl p), some (.inl x), some (.inl y), some (.inl e)] [] hw
                refine E_s 11 (i' := 45) (ls' := [some (.inr (.inr 66)), some (.inl p), some (.inl x), some (.inl y), some (.inl e)]) (sk' := [.inl ((12 * x) + e), .inr (.inr 77), .inl p, .inl e, .inr (.inr 92)]) (h' := hw) rfl ?_
                refine E_ld (x := (.iaload, 0, [], [])) (ty := .int) (n := 3600) rfl rfl rfl (by omega) (by omega) ?_
                show xEx G0 cdX12_joins (some .int) (xRn G0 MT (d + 5)) Q b 46 [some (.inr (.inr 66)), some (.inl p), some (.inl x), some (.inl y), some (.inl e)] [.inl (hw 77 ((12 * x) + e)), .inl p, .inl e, .inr (.inr 92)] hw
                refine E_s 1 (i' := 47) (ls' := [some (.inr (.inr 66)), some (.inl p), some (.inl x), some (.inl y), some (.inl e)]) (sk' := [.inl p, .inl (hw 77 ((12 * x) + e)), .inl p, .inl e, .inr (.inr 92)]) (h' := hw) rfl ?_
                refine E_cp (x := (.invokestatic 242, 1, [(0, 174)], [])) (q := fun r5 h9 => ((r5 = 1 ∧ ((p = 5 ∨ p = 8 ∨ p = 9))) ∨ (r5 = 0 ∧ ¬ ((p = 5 ∨ p = 8 ∨ p = 9)))) ∧ hw = h9) rfl rfl (Nat.le_of_ble_eq_true rfl) (m_isOfOne (d + 4) 0 hw p hp (fun z => ⟨_, rfl, Or.inl ⟨rfl, z⟩, rfl⟩) (fun z => ⟨_, rfl, Or.inr ⟨rfl, z⟩, rfl⟩)) (fun r5 h9 q5 => ?_)
                obtain ⟨q5, rfl⟩ := q5
                show xEx G0 cdX12_joins (some .int) (xRn G0 MT (d + 5)) Q b 48 [some (.inr (.inr 66)), some (.inl p), some (.inl x), some (.inl y), some (.inl e)] [.inl r5, .inl (hw 77 ((12 * x) + e)), .inl p, .inl e, .inr (.inr 92)] hw
                refine E_b (x := (.ifCond .eq 7, 51, [], [])) rfl rfl (fun c48 => ?_) (fun c48 => ?_)
                · rw [c_eq (by first | assumption | (refine ⟨?_, ?_⟩ <;> omega) | (simp only [xr] at *; omega)) (by first | assumption | (refine ⟨?_, ?_⟩ <;> omega) | (simp only [xr] at *; omega))] at c48
                  simp only [decide_eq_true_eq, decide_eq_false_iff_not, Decidable.not_not] at c48
                  show xEx G0 cdX12_joins (some .int) (xRn G0 MT (d + 5)) Q b 51 [some (.inr (.inr 66)), some (.inl p), some (.inl x), some (.inl y), some (.inl e)] [.inl (hw 77 ((12 * x) + e)), .inl p, .inl e, .inr (.inr 92)] hw
                  refine E_s 7 (i' := 58) (ls' := [some (.inr (.inr 66)), some (.inl p), some (.inl x), some (.inl y), some (.inl e)]) (sk' := [.inl ((12 * y) + e), .inr (.inr 77), .inl (hw 77 ((12 * x) + e)), .inl p, .inl e, .inr (.inr 92)]) (h' := hw) rfl ?_
                  refine E_ld (x := (.iaload, 0, [], [])) (ty := .int) (n := 3600) rfl rfl rfl (by omega) (by omega) ?_
                  show xEx G0 cdX12_joins (some .int) (xRn G0 MT (d + 5)) Q b 59 [some (.inr (.inr 66)), some (.inl p), some (.inl x), some (.inl y), some (.inl e)] [.inl (hw 77 ((12 * y) + e)), .inl (hw 77 ((12 * x) + e)), .inl p, .inl e, .inr (.inr 92)] hw
                  have hra : xr (hw 77 (12 * x + e)) := by rw [hwa 77 (by decide)]; exact hr x e (by omega) (by omega) he0 (by omega)
                  have hrb : xr (hw 77 ((12 * y) + e)) := by rw [hwa 77 (by decide)]; exact hr y e (by omega) (by omega) he0 (by omega)
                  refine E_cp (x := (.invokestatic 238, 3, [(0, 173)], [])) (q := fun r h9 => w32 r = ap p (hw 77 (12 * x + e)) (hw 77 ((12 * y) + e)) ∧ hw = h9) rfl rfl (Nat.le_of_ble_eq_true rfl) (c_does (d + 3) 0 hw p (hw 77 (12 * x + e)) (hw 77 ((12 * y) + e)) (by omega) hra hrb (fun v hv9 => ⟨v, rfl, hv9, rfl⟩)) (fun r h9 hr9 => ?_)
                  obtain ⟨hr9, rfl⟩ := hr9
                  have hval : w32 r = ap p (h 77 (12 * x + e)) (vy e) := by
                    rw [hr9, hwa 77 (by decide)]
                    rcases hvy with ⟨y1, -⟩ | ⟨-, y1⟩
                    · exact absurd y1 (o0 q5 c48)
                    · rw [y1 e]; rfl
                  show xEx G0 cdX12_joins (some .int) (xRn G0 MT (d + 5)) Q b 60 [some (.inr (.inr 66)), some (.inl p), some (.inl x), some (.inl y), some (.inl e)] [.inl r, .inl e, .inr (.inr 92)] hw
                  refine E_ti (y := w32 r) (w32_w r).symm ?_
                  refine E_sd (x := (.iastore, 0, [], [])) (ty := .int) (n := 12) (y := (w32 r)) rfl rfl rfl (by omega) (by omega) (trivial) ?_
                  show xEx G0 cdX12_joins (some .int) (xRn G0 MT (d + 5)) Q b 61 [some (.inr (.inr 66)), some (.inl p), some (.inl x), some (.inl y), some (.inl e)] [] (xup hw 92 e (w32 r))
                  refine E_s 2 (i' := 30) (ls' := [some (.inr (.inr 66)), some (.inl p), some (.inl x), some (.inl y), some (.inl (e + 1))]) (sk' := []) (h' := (xup hw 92 e (w32 r))) rfl ?_
                  exact ih30 _ (e + 1) (by omega) (by omega) (fun a q1 => by rw [← hwa a q1]; exact xup_o _ _ _ _ a q1) (fun q z1 z2 => by
                    rcases Int.lt_or_eq_of_le (show q ≤ e by omega) with z9 | z9
                    · rw [xup_j (by omega)]; exact hwr q z1 z9
                    · rw [z9, xup_s]; exact hval) hp9 hc9 (by omega)
                · rw [c_eq (by first | assumption | (refine ⟨?_, ?_⟩ <;> omega) | (simp only [xr] at *; omega)) (by first | assumption | (refine ⟨?_, ?_⟩ <;> omega) | (simp only [xr] at *; omega))] at c48
                  simp only [decide_eq_true_eq, decide_eq_false_iff_not, Decidable.not_not] at c48
                  show xEx G0 cdX12_joins (some .int) (xRn G0 MT (d + 5)) Q b 49 [some (.inr (.inr 66)), some (.inl p), some (.inl x), some (.inl y), some (.inl e)] [.inl (hw 77 ((12 * x) + e)), .inl p, .inl e, .inr (.inr 92)] hw
                  refine E_s 2 (i' := 59) (ls' := [some (.inr (.inr 66)), some (.inl p), some (.inl x), some (.inl y), some (.inl e)]) (sk' := [.inl 0, .inl (hw 77 ((12 * x) + e)), .inl p, .inl e, .inr (.inr 92)]) (h' := hw) rfl ?_
                  have hra : xr (hw 77 (12 * x + e)) := by rw [hwa 77 (by decide)]; exact hr x e (by omega) (by omega) he0 (by omega)
                  have hrb : xr (0) := by exact ⟨by omega, by omega⟩
                  refine E_cp (x := (.invokestatic 238, 3, [(0, 173)], [])) (q := fun r h9 => w32 r = ap p (hw 77 (12 * x + e)) (0) ∧ hw = h9) rfl rfl (Nat.le_of_ble_eq_true rfl) (c_does (d + 3) 0 hw p (hw 77 (12 * x + e)) (0) (by omega) hra hrb (fun v hv9 => ⟨v, rfl, hv9, rfl⟩)) (fun r h9 hr9 => ?_)
                  obtain ⟨hr9, rfl⟩ := hr9
                  have hval : w32 r = ap p (h 77 (12 * x + e)) (vy e) := by
                    rw [hr9, hwa 77 (by decide)]
                    exact ap_one (o1 q5 c48) _ _ _
                  show xEx G0 cdX12_joins (some .int) (xRn G0 MT (d + 5)) Q b 60 [some (.inr (.inr 66)), some (.inl p), some (.inl x), some (.inl y), some (.inl e)] [.inl r, .inl e, .inr (.inr 92)] hw
                  refine E_ti (y := w32 r) (w32_w r).symm ?_
                  refine E_sd (x := (.iastore, 0, [], [])) (ty := .int) (n := 12) (y := (w32 r)) rfl rfl rfl (by omega) (by omega) (trivial) ?_
                  show xEx G0 cdX12_joins (some .int) (xRn G0 MT (d + 5)) Q b 61 [some (.inr (.inr 66)), some (.inl p), some (.inl x), some (.inl y), some (.inl e)] [] (xup hw 92 e (w32 r))
                  refine E_s 2 (i' := 30) (ls' := [some (.inr (.inr 66)), some (.inl p), some (.inl x), some (.inl y), some (.inl (e + 1))]) (sk' := []) (h' := (xup hw 92 e (w32 r))) rfl ?_
                  exact ih30 _ (e + 1) (by omega) (by omega) (fun a q1 => by rw [← hwa a q1]; exact xup_o _ _ _ _ a q1) (fun q z1 z2 => by
                    rcases Int.lt_or_eq_of_le (show q ≤ e by omega) with z9 | z9
                    · rw [xup_j (by omega)]; exact hwr q z1 z9
                    · rw [z9, xup_s]; exact hval) hp9 hc9 (by omega)
          exact key30 _ _ 0 (by omega) (by omega) (fun _ _ => rfl) (fun q z1 z2 => by omega) (by omega) (by omega) (Nat.lt_succ_self _)
        · show xEx G0 cdX12_joins (some .int) (xRn G0 MT (d + 5)) Q b 26 [some (.inr (.inr 66)), some (.inl p), some (.inl x), some (.inl y), none] [] (xup h 66 0 0)
          exact absurd c25 (by decide)
      · rw [c_ne (by first | assumption | (refine ⟨?_, ?_⟩ <;> omega) | (simp only [xr] at *; omega)) (by first | assumption | (refine ⟨?_, ?_⟩ <;> omega) | (simp only [xr] at *; omega))] at c13
        simp only [decide_eq_true_eq, decide_eq_false_iff_not, Decidable.not_not] at c13
        show xEx G0 cdX12_joins (some .int) (xRn G0 MT (d + 5)) Q b 14 [some (.inr (.inr 66)), some (.inl p), some (.inl x), some (.inl y), none] [.inr (.inr 66)] h
        refine E_s 3 (i' := 17) (ls' := [some (.inr (.inr 66)), some (.inl p), some (.inl x), some (.inl y), none]) (sk' := [.inl y, .inl 0, .inr (.inr 66), .inr (.inr 66)]) (h' := h) rfl ?_
        refine E_cp (x := (.invokevirtual 295, 2, [(10, 193)], [0])) (q := fun r4 h9 => ((r4 = 1 ∧ (0 ≤ y ∧ y < h 66 8)) ∨ (r4 = 0 ∧ ¬ (0 ≤ y ∧ y < h 66 8))) ∧ h = h9) rfl rfl (Nat.le_of_ble_eq_true rfl) (m_isKept0 (d + 3) 0 h y hy hM0 (fun z => ⟨_, rfl, Or.inl ⟨rfl, z⟩, rfl⟩) (fun z => ⟨_, rfl, Or.inr ⟨rfl, z⟩, rfl⟩)) (fun r4 h9 q4 => ?_)
        obtain ⟨q4, rfl⟩ := q4
        show xEx G0 cdX12_joins (some .int) (xRn G0 MT (d + 5)) Q b 18 [some (.inr (.inr 66)), some (.inl p), some (.inl x), some (.inl y), none] [.inl r4, .inr (.inr 66)] h
        refine E_b (x := (.ifCond .ne 7, 21, [], [])) rfl rfl (fun c18 => ?_) (fun c18 => ?_)
        · rw [c_ne (by first | assumption | (refine ⟨?_, ?_⟩ <;> omega) | (simp only [xr] at *; omega)) (by first | assumption | (refine ⟨?_, ?_⟩ <;> omega) | (simp only [xr] at *; omega))] at c18
          simp only [decide_eq_true_eq, decide_eq_false_iff_not, Decidable.not_not] at c18
          show xEx G0 cdX12_joins (some .int) (xRn G0 MT (d + 5)) Q b 21 [some (.inr (.inr 66)), some (.inl p), some (.inl x), some (.inl y), none] [.inr (.inr 66)] h
          refine E_s 2 (i' := 23) (ls' := [some (.inr (.inr 66)), some (.inl p), some (.inl x), some (.inl y), none]) (sk' := []) (h' := (xup h 66 0 0)) rfl ?_
          
          refine E_s 2 (i' := 25) (ls' := [some (.inr (.inr 66)), some (.inl p), some (.inl x), some (.inl y), none]) (sk' := [.inl 0]) (h' := (xup h 66 0 0)) rfl ?_
          refine E_b (x := (.ifCond .le 5, 28, [], [])) rfl rfl (fun c25 => ?_) (fun c25 => ?_)
          · show xEx G0 cdX12_joins (some .int) (xRn G0 MT (d + 5)) Q b 28 [some (.inr (.inr 66)), some (.inl p), some (.inl x), some (.inl y), none] [] (xup h 66 0 0)
            refine E_s 2 (i' := 30) (ls' := [some (.inr (.inr 66)), some (.inl p), some (.inl x), some (.inl y), some (.inl 0)]) (sk' := []) (h' := (xup h 66 0 0)) rfl ?_
            have key30 : ∀ (n : Nat) (hw : xH) (e : Int), (0 ≤ e) → (e ≤ h 66 4) → (∀ a, a ≠ 92 → hw a = xup h 66 0 0 a) → (∀ q, 0 ≤ q → q < e → hw 92 q = ap p (h 77 (12 * x + q)) (vy q)) → (0 ≤ p ∧ p ≤ 9) → ((0 ≤ x ∧ x < h 66 8) ∧ ((p = 5 ∨ p = 8 ∨ p = 9) ∨ (0 ≤ y ∧ y < h 66 8))) → ((h 66 4 - e).toNat) < n → xEx G0 cdX12_joins (some .int) (xRn G0 MT (d + 5)) Q b 30 [some (.inr (.inr 66)), some (.inl p), some (.inl x), some (.inl y), some (.inl e)] [] hw := by
              intro n
              induction n with
              | zero => intro hw e _ _ _ _ _ _ hm; exact absurd hm (Nat.not_lt_zero _)
              | succ n ih30 =>
                intro hw e he0 he9 hwa hwr hp9 hc9 hm30
                have hwx : hw 66 = xup h 66 0 0 66 := hwa 66 (by decide)
                have hwe : hw 66 4 = h 66 4 := by rw [hwx]; rfl
                refine E_s 3 (i' := 33) (ls' := [some (.inr (.inr 66)), some (.inl p), some (.inl x), some (.inl y), some (.inl e)]) (sk' := [.inl (hw 66 4), .inl e]) (h' := hw) rfl ?_
                refine E_b (x := (.if_icmp .ge 55, 63, [], [])) rfl rfl (fun c33 => ?_) (fun c33 => ?_)
                · rw [c_ge (by first | assumption | (refine ⟨?_, ?_⟩ <;> omega) | (simp only [xr] at *; omega)) (by first | assumption | (refine ⟨?_, ?_⟩ <;> omega) | (simp only [xr] at *; omega))] at c33
                  simp only [decide_eq_true_eq, decide_eq_false_iff_not, Decidable.not_not] at c33
                  show xEx G0 cdX12_joins (some .int) (xRn G0 MT (d + 5)) Q b 63 [some (.inr (.inr 66)), some (.inl p), some (.inl x), some (.inl y), some (.inl e)] [] hw
                  refine E_s 1 (i' := 64) (ls' := [some (.inr (.inr 66)), some (.inl p), some (.inl x), some (.inl y), some (.inl e)]) (sk' := [.inr (.inr 66)]) (h' := hw) rfl ?_
                  refine E_cp (x := (.invokevirtual 227, 0, [(10, 177)], [0])) (q := fun r h9 => ((r = -1 ∧ ∀ k, 0 ≤ k → k < h 66 8 → ¬ ∀ e, 0 ≤ e → e < h 66 4 → h 77 (12 * k + e) = ap p (h 77 (12 * x + e)) (vy e)) ∨ (0 ≤ r ∧ r < h 66 8 ∧ ∀ e, 0 ≤ e → e < h 66 4 → h 77 (12 * r + e) = ap p (h 77 (12 * x + e)) (vy e))) ∧ hw = h9) rfl rfl (Nat.le_of_ble_eq_true rfl) (r_like (d + 4) 0 hw (by rw [hwx]; exact hn) (by rw [hwx]; exact hM0) (fun k e z1 z2 z3 z4 => by
                    rw [hwx] at z2 z4
                    rw [hwa 77 (by decide)]
                    exact hr k e z1 z2 z3 z4) (fun e z1 z2 => by
                    rw [hwx] at z2
                    have z2 : e < h 66 4 := z2
                    rw [hwr e z1 (by omega)]
                    exact ap_r (hr x e (by omega) (by omega) z1 z2) (hvr e z1 z2)) (fun k z1 z2 z3 z4 => ⟨k, rfl, Or.inr ⟨z1, by rw [hwx] at z2; exact z2, fun e z5 z6 => by
                    have z7 := z3 e z5 (by rw [hwx]; exact z6)
                    rw [hwa 77 (by decide), hwr e z5 (by omega)] at z7
                    exact z7⟩, rfl⟩) (fun z1 => ⟨-1, rfl, Or.inl ⟨rfl, fun k z2 z3 z4 => z1 k z2 (by rw [hwx]; exact z3) (fun e z5 z6 => by
                    rw [hwx] at z6
                    have z6 : e < h 66 4 := z6
                    rw [hwa 77 (by decide), hwr e z5 (by omega)]
                    exact z4 e z5 z6)⟩, rfl⟩)) (fun r h9 hq => ?_)
                  obtain ⟨hq, rfl⟩ := hq
                  show xEx G0 cdX12_joins (some .int) (xRn G0 MT (d + 5)) Q b 65 [some (.inr (.inr 66)), some (.inl p), some (.inl x), some (.inl y), some (.inl e)] [.inl r] hw
                  exact E_ret (x := (.ireturn, 0, [], [])) (v := some (.inl r)) rfl (Or.inl rfl) (hO hp9 hc9 _ _ hwa hq)
                · rw [c_ge (by first | assumption | (refine ⟨?_, ?_⟩ <;> omega) | (simp only [xr] at *; omega)) (by first | assumption | (refine ⟨?_, ?_⟩ <;> omega) | (simp only [xr] at *; omega))] at c33
                  simp only [decide_eq_true_eq, decide_eq_false_iff_not, Decidable.not_not] at c33
                  show xEx G0 cdX12_joins (some .int) (xRn G0 MT (d + 5)) Q b 34 [some (.inr (.inr 66)), some (.inl p), some (.inl x), some (.inl y), some (.inl e)] [] hw
                  refine E_s 11 (i' := 45) (ls' := [some (.inr (.inr 66)), some (.inl p), some (.inl x), some (.inl y), some (.inl e)]) (sk' := [.inl ((12 * x) + e), .inr (.inr 77), .inl p, .inl e, .inr (.inr 92)]) (h' := hw) rfl ?_
                  refine E_ld (x := (.iaload, 0, [], [])) (ty := .int) (n := 3600) rfl rfl rfl (by omega) (by omega) ?_
                  show xEx G0 cdX12_joins (some .int) (xRn G0 MT (d + 5)) Q b 46 [some (.inr (.inr 66)), some (.inl p), some (.inl x), some (.inl y), some (.inl e)] [.inl (hw 77 ((12 * x) + e)), .inl p, .inl e, .inr (.inr 92)] hw
                  refine E_s 1 (i' := 47) (ls' := [some (.inr (.inr 66)), some (.inl p), some (.inl x), some (.inl y), some (.inl e)]) (sk' := [.inl p, .inl (hw 77 ((12 * x) + e)), .inl p, .inl e, .inr (.inr 92)]) (h' := hw) rfl ?_
                  refine E_cp (x := (.invokestatic 242, 1, [(0, 174)], [])) (q := fun r5 h9 => ((r5 = 1 ∧ ((p = 5 ∨ p = 8 ∨ p = 9))) ∨ (r5 = 0 ∧ ¬ ((p = 5 ∨ p = 8 ∨ p = 9)))) ∧ hw = h9) rfl rfl (Nat.le_of_ble_eq_true rfl) (m_isOfOne (d + 4) 0 hw p hp (fun z => ⟨_, rfl, Or.inl ⟨rfl, z⟩, rfl⟩) (fun z => ⟨_, rfl, Or.inr ⟨rfl, z⟩, rfl⟩)) (fun r5 h9 q5 => ?_)
                  obtain ⟨q5, rfl⟩ := q5
                  show xEx G0 cdX12_joins (some .int) (xRn G0 MT (d + 5)) Q b 48 [some (.inr (.inr 66)), some (.inl p), some (.inl x), some (.inl y), some (.inl e)] [.inl r5, .inl (hw 77 ((12 * x) + e)), .inl p, .inl e, .inr (.inr 92)] hw
                  refine E_b (x := (.ifCond .eq 7, 51, [], [])) rfl rfl (fun c48 => ?_) (fun c48 => ?_)
                  · rw [c_eq (by first | assumption | (refine ⟨?_, ?_⟩ <;> omega) | (simp only [xr] at *; omega)) (by first | assumption | (refine ⟨?_, ?_⟩ <;> omega) | (simp only [xr] at *; omega))] at c48
                    simp only [decide_eq_true_eq, decide_eq_false_iff_not, Decidable.not_not] at c48
                    show xEx G0 cdX12_joins (some .int) (xRn G0 MT (d + 5)) Q b 51 [some (.inr (.inr 66)), some (.inl p), some (.inl x), some (.inl y), some (.inl e)] [.inl (hw 77 ((12 * x) + e)), .inl p, .inl e, .inr (.inr 92)] hw
                    refine E_s 7 (i' := 58) (ls' := [some (.inr (.inr 66)), some (.inl p), some (.inl x), some (.inl y), some (.inl e)]) (sk' := [.inl ((12 * y) + e), .inr (.inr 77), .inl (hw 77 ((12 * x) + e)), .inl p, .inl e, .inr (.inr 92)]) (h' := hw) rfl ?_
                    refine E_ld (x := (.iaload, 0, [], [])) (ty := .int) (n := 3600) rfl rfl rfl (by omega) (by omega) ?_
                    show xEx G0 cdX12_joins (some .int) (xRn G0 MT (d + 5)) Q b 59 [some (.inr (.inr 66)), some (.inl p), some (.inl x), some (.inl y), some (.inl e)] [.inl (hw 77 ((12 * y) + e)), .inl (hw 77 ((12 * x) + e)), .inl p, .inl e, .inr (.inr 92)] hw
                    have hra : xr (hw 77 (12 * x + e)) := by rw [hwa 77 (by decide)]; exact hr x e (by omega) (by omega) he0 (by omega)
                    have hrb : xr (hw 77 ((12 * y) + e)) := by rw [hwa 77 (by decide)]; exact hr y e (by omega) (by omega) he0 (by omega)
                    refine E_cp (x := (.invokestatic 238, 3, [(0, 173)], [])) (q := fun r h9 => w32 r = ap p (hw 77 (12 * x + e)) (hw 77 ((12 * y) + e)) ∧ hw = h9) rfl rfl (Nat.le_of_ble_eq_true rfl) (c_does (d + 3) 0 hw p (hw 77 (12 * x + e)) (hw 77 ((12 * y) + e)) (by omega) hra hrb (fun v hv9 => ⟨v, rfl, hv9, rfl⟩)) (fun r h9 hr9 => ?_)
                    obtain ⟨hr9, rfl⟩ := hr9
                    have hval : w32 r = ap p (h 77 (12 * x + e)) (vy e) := by
                      rw [hr9, hwa 77 (by decide)]
                      rcases hvy with ⟨y1, -⟩ | ⟨-, y1⟩
                      · exact absurd y1 (o0 q5 c48)
                      · rw [y1 e]; rfl
                    show xEx G0 cdX12_joins (some .int) (xRn G0 MT (d + 5)) Q b 60 [some (.inr (.inr 66)), some (.inl p), some (.inl x), some (.inl y), some (.inl e)] [.inl r, .inl e, .inr (.inr 92)] hw
                    refine E_ti (y := w32 r) (w32_w r).symm ?_
                    refine E_sd (x := (.iastore, 0, [], [])) (ty := .int) (n := 12) (y := (w32 r)) rfl rfl rfl (by omega) (by omega) (trivial) ?_
                    show xEx G0 cdX12_joins (some .int) (xRn G0 MT (d + 5)) Q b 61 [some (.inr (.inr 66)), some (.inl p), some (.inl x), some (.inl y), some (.inl e)] [] (xup hw 92 e (w32 r))
                    refine E_s 2 (i' := 30) (ls' := [some (.inr (.inr 66)), some (.inl p), some (.inl x), some (.inl y), some (.inl (e + 1))]) (sk' := []) (h' := (xup hw 92 e (w32 r))) rfl ?_
                    exact ih30 _ (e + 1) (by omega) (by omega) (fun a q1 => by rw [← hwa a q1]; exact xup_o _ _ _ _ a q1) (fun q z1 z2 => by
                      rcases Int.lt_or_eq_of_le (show q ≤ e by omega) with z9 | z9
                      · rw [xup_j (by omega)]; exact hwr q z1 z9
                      · rw [z9, xup_s]; exact hval) hp9 hc9 (by omega)
                  · rw [c_eq (by first | assumption | (refine ⟨?_, ?_⟩ <;> omega) | (simp only [xr] at *; omega)) (by first | assumption | (refine ⟨?_, ?_⟩ <;> omega) | (simp only [xr] at *; omega))] at c48
                    simp only [decide_eq_true_eq, decide_eq_false_iff_not, Decidable.not_not] at c48
                    show xEx G0 cdX12_joins (some .int) (xRn G0 MT (d + 5)) Q b 49 [some (.inr (.inr 66)), some (.inl p), some (.inl x), some (.inl y), some (.inl e)] [.inl (hw 77 ((12 * x) + e)), .inl p, .inl e, .inr (.inr 92)] hw
                    refine E_s 2 (i' := 59) (ls' := [some (.inr (.inr 66)), some (.inl p), some (.inl x), some (.inl y), some (.inl e)]) (sk' := [.inl 0, .inl (hw 77 ((12 * x) + e)), .inl p, .inl e, .inr (.inr 92)]) (h' := hw) rfl ?_
                    have hra : xr (hw 77 (12 * x + e)) := by rw [hwa 77 (by decide)]; exact hr x e (by omega) (by omega) he0 (by omega)
                    have hrb : xr (0) := by exact ⟨by omega, by omega⟩
                    refine E_cp (x := (.invokestatic 238, 3, [(0, 173)], [])) (q := fun r h9 => w32 r = ap p (hw 77 (12 * x + e)) (0) ∧ hw = h9) rfl rfl (Nat.le_of_ble_eq_true rfl) (c_does (d + 3) 0 hw p (hw 77 (12 * x + e)) (0) (by omega) hra hrb (fun v hv9 => ⟨v, rfl, hv9, rfl⟩)) (fun r h9 hr9 => ?_)
                    obtain ⟨hr9, rfl⟩ := hr9
                    have hval : w32 r = ap p (h 77 (12 * x + e)) (vy e) := by
                      rw [hr9, hwa 77 (by decide)]
                      exact ap_one (o1 q5 c48) _ _ _
                    show xEx G0 cdX12_joins (some .int) (xRn G0 MT (d + 5)) Q b 60 [some (.inr (.inr 66)), some (.inl p), some (.inl x), some (.inl y), some (.inl e)] [.inl r, .inl e, .inr (.inr 92)] hw
                    refine E_ti (y := w32 r) (w32_w r).symm ?_
                    refine E_sd (x := (.iastore, 0, [], [])) (ty := .int) (n := 12) (y := (w32 r)) rfl rfl rfl (by omega) (by omega) (trivial) ?_
                    show xEx G0 cdX12_joins (some .int) (xRn G0 MT (d + 5)) Q b 61 [some (.inr (.inr 66)), some (.inl p), some (.inl x), some (.inl y), some (.inl e)] [] (xup hw 92 e (w32 r))
                    refine E_s 2 (i' := 30) (ls' := [some (.inr (.inr 66)), some (.inl p), some (.inl x), some (.inl y), some (.inl (e + 1))]) (sk' := []) (h' := (xup hw 92 e (w32 r))) rfl ?_
                    exact ih30 _ (e + 1) (by omega) (by omega) (fun a q1 => by rw [← hwa a q1]; exact xup_o _ _ _ _ a q1) (fun q z1 z2 => by
                      rcases Int.lt_or_eq_of_le (show q ≤ e by omega) with z9 | z9
                      · rw [xup_j (by omega)]; exact hwr q z1 z9
                      · rw [z9, xup_s]; exact hval) hp9 hc9 (by omega)
            exact key30 _ _ 0 (by omega) (by omega) (fun _ _ => rfl) (fun q z1 z2 => by omega) (by omega) (by omega) (Nat.lt_succ_self _)
          · show xEx G0 cdX12_joins (some .int) (xRn G0 MT (d + 5)) Q b 26 [some (.inr (.inr 66)), some (.inl p), some (.inl x), some (.inl y), none] [] (xup h 66 0 0)
            exact absurd c25 (by decide)
        · rw [c_ne (by first | assumption | (refine ⟨?_, ?_⟩ <;> omega) | (simp only [xr] at *; omega)) (by first | assumption | (refine ⟨?_, ?_⟩ <;> omega) | (simp only [xr] at *; omega))] at c18
          simp only [decide_eq_true_eq, decide_eq_false_iff_not, Decidable.not_not] at c18
          show xEx G0 cdX12_joins (some .int) (xRn G0 MT (d + 5)) Q b 19 [some (.inr (.inr 66)), some (.inl p), some (.inl x), some (.inl y), none] [.inr (.inr 66)] h
          refine E_s 3 (i' := 23) (ls' := [some (.inr (.inr 66)), some (.inl p), some (.inl x), some (.inl y), none]) (sk' := []) (h' := (xup h 66 0 2)) rfl ?_
          
          refine E_s 2 (i' := 25) (ls' := [some (.inr (.inr 66)), some (.inl p), some (.inl x), some (.inl y), none]) (sk' := [.inl 2]) (h' := (xup h 66 0 2)) rfl ?_
          refine E_b (x := (.ifCond .le 5, 28, [], [])) rfl rfl (fun c25 => ?_) (fun c25 => ?_)
          · show xEx G0 cdX12_joins (some .int) (xRn G0 MT (d + 5)) Q b 28 [some (.inr (.inr 66)), some (.inl p), some (.inl x), some (.inl y), none] [] (xup h 66 0 2)
            exact absurd c25 (by decide)
          · show xEx G0 cdX12_joins (some .int) (xRn G0 MT (d + 5)) Q b 26 [some (.inr (.inr 66)), some (.inl p), some (.inl x), some (.inl y), none] [] (xup h 66 0 2)
            refine E_s 1 (i' := 27) (ls' := [some (.inr (.inr 66)), some (.inl p), some (.inl x), some (.inl y), none]) (sk' := [.inl 0]) (h' := (xup h 66 0 2)) rfl ?_
            exact E_ret (x := (.ireturn, 0, [], [])) (v := some (.inl 0)) rfl (Or.inl rfl) (hN (by omega) (by omega))
  · rw [c_ne (by first | assumption | (refine ⟨?_, ?_⟩ <;> omega) | (simp only [xr] at *; omega)) (by first | assumption | (refine ⟨?_, ?_⟩ <;> omega) | (simp only [xr] at *; omega))] at c3
    simp only [decide_eq_true_eq, decide_eq_false_iff_not, Decidable.not_not] at c3
    show xEx G0 cdX12_joins (some .int) (xRn G0 MT (d + 5)) Q b 4 [some (.inr (.inr 66)), some (.inl p), some (.inl x), some (.inl y), none] [.inr (.inr 66)] h
    refine E_s 3 (i' := 23) (ls' := [some (.inr (.inr 66)), some (.inl p), some (.inl x), some (.inl y), none]) (sk' := []) (h' := (xup h 66 0 1)) rfl ?_
    
    refine E_s 2 (i' := 25) (ls' := [some (.inr (.inr 66)), some (.inl p), some (.inl x), some (.inl y), none]) (sk' := [.inl 1]) (h' := (xup h 66 0 1)) rfl ?_
    refine E_b (x := (.ifCond .le 5, 28, [], [])) rfl rfl (fun c25 => ?_) (fun c25 => ?_)
    · show xEx G0 cdX12_joins (some .int) (xRn G0 MT (d + 5)) Q b 28 [some (.inr (.inr 66)), some (.inl p), some (.inl x), some (.inl y), none] [] (xup h 66 0 1)
      exact absurd c25 (by decide)
    · show xEx G0 cdX12_joins (some .int) (xRn G0 MT (d + 5)) Q b 26 [some (.inr (.inr 66)), some (.inl p), some (.inl x), some (.inl y), none] [] (xup h 66 0 1)
      refine E_s 1 (i' := 27) (ls' := [some (.inr (.inr 66)), some (.inl p), some (.inl x), some (.inl y), none]) (sk' := [.inl 0]) (h' := (xup h 66 0 1)) rfl ?_
      exact E_ret (x := (.ireturn, 0, [], [])) (v := some (.inl 0)) rfl (Or.inl rfl) (hA (by omega))
