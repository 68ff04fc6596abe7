/-- what of EXPRESSIONS both show -/
theorem cvb (p : Int → Prop) (n : Int) : (0 : Int) ≤ (cv p n.toNat : Int) ∧ (cv p n.toNat : Int) < (2 ^ n.toNat : Nat) := ⟨Int.natCast_nonneg _, by exact_mod_cast cv_lt p n.toNat⟩
theorem Inv_e {h : xH} (hI : Inv h) : (0 ≤ h 9 9 ∧ h 9 9 ≤ 300) ∧ h 66 8 = h 9 9 ∧ h 89 0 = h 9 10 ∧ h 90 0 = h 9 12 ∧ h 88 0 = h 9 13 ∧ h 91 0 = h 9 14 ∧ h 9 11 = 0 ∧ (0 ≤ h 9 14 ∧ h 9 14 ≤ 1) ∧ ∀ k, 0 ≤ k → k < h 9 9 → h 75 k = h 18 k ∧ h 76 k = h 21 k ∧ h 78 k = h 20 k ∧ (1 ≤ h 18 k ∧ h 18 k ≤ 9) ∧ (0 ≤ h 20 k ∧ h 20 k < (2 ^ (h 1 2).toNat : Nat)) ∧ (0 ≤ h 21 k ∧ h 21 k ≤ 400000) ∧ ∀ e, 0 ≤ e → e < h 1 2 → h 77 (12 * k + e) = h 24 (k * 12 + e) ∧ xr (h 24 (k * 12 + e)) := by
  obtain ⟨S, T, ib, ie, -⟩ := hI
  obtain ⟨r1, r2, r3, r4, r5, r6, r7, -⟩ := ie.1
  obtain ⟨s1, s2, s3, s4⟩ := ie.2.1
  obtain ⟨w1, w2, w3, w4, w5, w6, w7, w8, w9, -⟩ := ie.2.2.1
  have fw := ie.2.2.2.2.1
  obtain ⟨l1, l2, l3, l4, l5, l6, -⟩ := ie.2.2.2.2.2.2
  have n1 : h 66 4 = h 1 2 := ib.2.2.2.2.2.2.1
  rw [r1]
  refine ⟨⟨w1, w2⟩, s1, by rw [r2]; exact s2, by rw [r3]; exact l6, l3, l4, l5, l2, fun k z1 z2 => ?_⟩
  obtain ⟨a1, a2, a3, a4, a5, a6, a7, -⟩ := r6 k z1 z2
  obtain ⟨b1, b2, b3, b4, b5, b6, -⟩ := s3 k z1 z2
  obtain ⟨-, f2, f3, -, f5, -⟩ := fw k z1 z2
  rw [a4, a5, a6]
  refine ⟨b4, b6, b5, ⟨f2, f3⟩, ?_, ?_, fun e y1 y2 => ?_⟩
  · rw [f5]; exact cvb _ _
  · have := w5 k z1 z2; omega
  · rw [r7 k e z1 z2 y1 y2]
    exact ⟨s4 k e z1 z2 y1 (by omega), w3 k e z1 z2 y1 y2⟩
theorem Inv_t {h : xH} (hI : Inv h) : (0 ≤ h 28 9 ∧ h 28 9 ≤ 150) ∧ h 66 19 = h 28 9 ∧ h 89 1 = h 28 10 ∧ h 90 1 = h 28 12 ∧ h 88 1 = h 28 13 ∧ h 91 1 = h 28 14 ∧ h 66 33 = h 28 11 ∧ (0 ≤ h 28 14 ∧ h 28 14 ≤ 1) ∧ ∀ k, 0 ≤ k → k < h 28 9 → h 85 k = h 37 k ∧ h 86 k = h 40 k ∧ h 87 k = h 39 k ∧ (3 ≤ h 37 k ∧ h 37 k ≤ 7) ∧ (0 ≤ h 39 k ∧ h 39 k < (2 ^ (h 1 2).toNat : Nat)) ∧ (0 ≤ h 40 k ∧ h 40 k ≤ 400000) := by
  obtain ⟨S, T, ib, -, it, -⟩ := hI
  obtain ⟨r1, r2, r3, r4, r5, r5', r6, -⟩ := it.1
  obtain ⟨s1, s2, s2', s3⟩ := it.2.1
  obtain ⟨w1, w2, w3, w4, w5, w6, w7, w8, w9, -⟩ := it.2.2.1
  have fw := it.2.2.2.2.1
  obtain ⟨l1, l2, l3, l4, l6, -⟩ := it.2.2.2.2.2.2
  rw [r1]
  refine ⟨⟨w1, w2⟩, s1, by rw [r2]; exact s2, by rw [r3]; exact l6, l3, l4, by rw [r5']; exact s2', l2, fun k z1 z2 => ?_⟩
  obtain ⟨a1, a2, a3, a4, a5, a6, a7, -⟩ := r6 k z1 z2
  obtain ⟨b1, b2, b3, b4, b5, b6, -⟩ := s3 k z1 z2
  obtain ⟨-, f2, f3, -⟩ := fw k z1 z2
  rw [a4, a5, a6]
  refine ⟨b4, b6, b5, ⟨f2, f3⟩, w3 k z1 z2, ?_⟩
  have := w5 k z1 z2; omega
theorem Inv_b {h : xH} (hI : Inv h) : IB h := hI.choose_spec.choose_spec.1
theorem CO_f {h h2 : xH} (hI : Inv h) (f : FM h h2) {ex : List String} {w r1 r2 : Int} (o : h2 112 0 = w) (t : h2 66 0 = 0) (e : r1 = r2) : Inv h2 ∧ h2 112 0 = w ∧ AG ex (.inl (some (.inl r1))) (.inl (some (.inl r2))) h2 := ⟨Inv_fr f hI, o, AG_v t e⟩
theorem CO_v {h : xH} (hI : Inv h) {ex : List String} (w : Int) {r1 r2 : Int} (e : r1 = r2) : Inv (xup (xup h 112 0 w) 66 0 0) ∧ xup (xup h 112 0 w) 66 0 0 112 0 = w ∧ AG ex (.inl (some (.inl r1))) (.inl (some (.inl r2))) (xup (xup h 112 0 w) 66 0 0) :=
  CO_f hI (((FM.rf h).up (Or.inl (by unfold scr; decide))).up (Or.inr ⟨rfl, by unfold mdf; decide⟩)) rfl rfl e
theorem CO_t {h : xH} {d b mc mr : Nat} {as : List xV} {ex : List String} {t : Int} (ht : t = 0 ∨ t = 1) (h0 : CO d b mc mr (.inl 0 :: as) ex h) (h1 : CO d b mc mr (.inl 1 :: as) ex h) : CO d b mc mr (.inl t :: as) ex h := by
  rcases ht with rfl | rfl
  · exact h0
  · exact h1
set_option maxHeartbeats 1000000 in
theorem c_growthOf0 (d b : Nat) (h : xH) {Q : xO → xH → Prop} (hQ : Q (.inl (some (.inr (.inr 9)))) h) : xRn G0 MT (d + 1) b 142 [.inr (.inr 0), .inl 0] h Q := by
  refine R_of (M := mX11_growthOf) rfl (Nat.le_of_ble_eq_true rfl) ?_
  show xEx G0 cdX11_growthOf (some (.object "PartMaker$Growth")) (xRn G0 MT d) Q b 0 [some (.inr (.inr 0)), some (.inl 0)] [] h
  refine E_s 1 (i' := 1) (ls' := [some (.inr (.inr 0)), some (.inl 0)]) (sk' := [.inl 0]) (h' := h) rfl ?_
  refine E_b (x := (.ifCond .eq 10, 5, [], [])) rfl rfl (fun c1 => ?_) (fun c1 => ?_)
  · show xEx G0 cdX11_growthOf (some (.object "PartMaker$Growth")) (xRn G0 MT d) Q b 5 [some (.inr (.inr 0)), some (.inl 0)] [] h
    refine E_s 2 (i' := 7) (ls' := [some (.inr (.inr 0)), some (.inl 0)]) (sk' := [.inr (.inr 9)]) (h' := h) rfl ?_
    exact E_ret (x := (.areturn, 0, [], [])) (v := some (.inr (.inr 9))) rfl (Or.inl ⟨_, rfl⟩) (hQ)
  · show xEx G0 cdX11_growthOf (some (.object "PartMaker$Growth")) (xRn G0 MT d) Q b 2 [some (.inr (.inr 0)), some (.inl 0)] [] h
    exact absurd c1 (by decide)
set_option maxHeartbeats 1000000 in
theorem c_refNotKept0 (d  : Nat) (h : xH) (k : Int) (hk : xr k) (hK0 : 0 ≤ h 9 9 ∧ h 9 9 ≤ 300) {Q : xO → xH → Prop} (h1 : (0 ≤ k ∧ k < h 9 9) → Q (.inl none) h) (h0 : ¬ (0 ≤ k ∧ k < h 9 9) → Q (.inr "java/util/NoSuchElementException") h) : xRn G0 MT (d + 2) 1 144 [.inr (.inr 0), .inl 0, .inl k] h Q := by
  refine R_of (M := mX11_refuseNotKept) rfl (Nat.le_of_ble_eq_true rfl) ?_
  show xEx G0 cdX11_refuseNotKept none (xRn G0 MT (d + 1)) Q 1 0 [some (.inr (.inr 0)), some (.inl 0), some (.inl k)] [] h
  refine E_s 1 (i' := 1) (ls' := [some (.inr (.inr 0)), some (.inl 0), some (.inl k)]) (sk' := [.inl k]) (h' := h) rfl ?_
  refine E_b (x := (.ifCond .lt 15, 8, [], [])) rfl rfl (fun c1 => ?_) (fun c1 => ?_)
  · rw [c_lt (by first | assumption | (refine ⟨?_, ?_⟩ <;> omega) | (simp only [xr] at *; omega)) (by first | assumption | (refine ⟨?_, ?_⟩ <;> omega) | (simp only [xr] at *; omega))] at c1
    simp only [decide_eq_true_eq, decide_eq_false_iff_not, Decidable.not_not] at c1
    show xEx G0 cdX11_refuseNotKept none (xRn G0 MT (d + 1)) Q 1 8 [some (.inr (.inr 0)), some (.inl 0), some (.inl k)] [] h
    exact E_thr (x := (.new 189, 0, [(2, 1)], [])) rfl rfl rfl (Nat.le_of_ble_eq_true rfl) (h0 (by omega))
  · rw [c_lt (by first | assumption | (refine ⟨?_, ?_⟩ <;> omega) | (simp only [xr] at *; omega)) (by first | assumption | (refine ⟨?_, ?_⟩ <;> omega) | (simp only [xr] at *; omega))] at c1
    simp only [decide_eq_true_eq, decide_eq_false_iff_not, Decidable.not_not] at c1
    show xEx G0 cdX11_refuseNotKept none (xRn G0 MT (d + 1)) Q 1 2 [some (.inr (.inr 0)), some (.inl 0), some (.inl k)] [] h
    refine E_s 3 (i' := 5) (ls' := [some (.inr (.inr 0)), some (.inl 0), some (.inl k)]) (sk' := [.inl 0, .inr (.inr 0), .inl k]) (h' := h) rfl ?_
    refine E_cx (x := (.invokevirtual 161, 1, [(9, 142)], [0])) (b1 := 0) (b2 := 1) (v := (some (.inr (.inr 9)))) (q := fun h9 => (True) ∧ h = h9) rfl rfl (Nat.le_of_ble_eq_true rfl) (fun z => by cases z) (c_growthOf0 d 0 h (Or.inl ⟨rfl, trivial, rfl⟩)) (fun h9 hq9 => ?_)
    obtain ⟨_t, rfl⟩ := hq9
    show xEx G0 cdX11_refuseNotKept none (xRn G0 MT (d + 1)) Q 1 6 [some (.inr (.inr 0)), some (.inl 0), some (.inl k)] [.inr (.inr 9), .inl k] h
    refine E_s 1 (i' := 7) (ls' := [some (.inr (.inr 0)), some (.inl 0), some (.inl k)]) (sk' := [.inl (h 9 9), .inl k]) (h' := h) rfl ?_
    refine E_b (x := (.if_icmp .lt 14, 13, [], [])) rfl rfl (fun c7 => ?_) (fun c7 => ?_)
    · rw [c_lt (by first | assumption | (refine ⟨?_, ?_⟩ <;> omega) | (simp only [xr] at *; omega)) (by first | assumption | (refine ⟨?_, ?_⟩ <;> omega) | (simp only [xr] at *; omega))] at c7
      simp only [decide_eq_true_eq, decide_eq_false_iff_not, Decidable.not_not] at c7
      show xEx G0 cdX11_refuseNotKept none (xRn G0 MT (d + 1)) Q 1 13 [some (.inr (.inr 0)), some (.inl 0), some (.inl k)] [] h
      exact E_ret (x := (.return_, 0, [], [])) (v := none) rfl (trivial) (h1 (by omega))
    · rw [c_lt (by first | assumption | (refine ⟨?_, ?_⟩ <;> omega) | (simp only [xr] at *; omega)) (by first | assumption | (refine ⟨?_, ?_⟩ <;> omega) | (simp only [xr] at *; omega))] at c7
      simp only [decide_eq_true_eq, decide_eq_false_iff_not, Decidable.not_not] at c7
      show xEx G0 cdX11_refuseNotKept none (xRn G0 MT (d + 1)) Q 1 8 [some (.inr (.inr 0)), some (.inl 0), some (.inl k)] [] h
      exact E_thr (x := (.new 189, 0, [(2, 1)], [])) rfl rfl rfl (Nat.le_of_ble_eq_true rfl) (h0 (by omega))
set_option maxHeartbeats 1000000 in
theorem c_growthWith0 (d  : Nat) (h : xH) (k : Int) (hk : xr k) (hK0 : 0 ≤ h 9 9 ∧ h 9 9 ≤ 300) {Q : xO → xH → Prop} (h1 : (0 ≤ k ∧ k < h 9 9) → Q (.inl (some (.inr (.inr 9)))) h) (h0 : ¬ (0 ≤ k ∧ k < h 9 9) → Q (.inr "java/util/NoSuchElementException") h) : xRn G0 MT (d + 3) 1 143 [.inr (.inr 0), .inl 0, .inl k] h Q := by
  refine R_of (M := mX11_growthWith) rfl (Nat.le_of_ble_eq_true rfl) ?_
  show xEx G0 cdX11_growthWith (some (.object "PartMaker$Growth")) (xRn G0 MT (d + 2)) Q 1 0 [some (.inr (.inr 0)), some (.inl 0), some (.inl k)] [] h
  refine E_s 3 (i' := 3) (ls' := [some (.inr (.inr 0)), some (.inl 0), some (.inl k)]) (sk' := [.inl k, .inl 0, .inr (.inr 0)]) (h' := h) rfl ?_
  refine E_cx (x := (.invokevirtual 244, 2, [(9, 144)], [0])) (b1 := 1) (b2 := 0) (v := none) (q := fun h9 => (0 ≤ k ∧ k < h 9 9) ∧ h = h9) rfl rfl (Nat.le_of_ble_eq_true rfl) (fun z => by cases z) (c_refNotKept0 d h k hk hK0 (fun z => Or.inl ⟨rfl, z, rfl⟩) (fun z => Or.inr ⟨_, rfl, h0 z⟩)) (fun h9 hq9 => ?_)
  obtain ⟨qk, rfl⟩ := hq9
  show xEx G0 cdX11_growthWith (some (.object "PartMaker$Growth")) (xRn G0 MT (d + 2)) Q 0 4 [some (.inr (.inr 0)), some (.inl 0), some (.inl k)] [] h
  refine E_s 2 (i' := 6) (ls' := [some (.inr (.inr 0)), some (.inl 0), some (.inl k)]) (sk' := [.inl 0, .inr (.inr 0)]) (h' := h) rfl ?_
  refine E_cx (x := (.invokevirtual 161, 1, [(9, 142)], [0])) (b1 := 0) (b2 := 0) (v := (some (.inr (.inr 9)))) (q := fun h9 => (True) ∧ h = h9) rfl rfl (Nat.le_of_ble_eq_true rfl) (fun z => by cases z) (c_growthOf0 (d + 1) 0 h (Or.inl ⟨rfl, trivial, rfl⟩)) (fun h9 hq9 => ?_)
  obtain ⟨_t, rfl⟩ := hq9
  show xEx G0 cdX11_growthWith (some (.object "PartMaker$Growth")) (xRn G0 MT (d + 2)) Q 0 7 [some (.inr (.inr 0)), some (.inl 0), some (.inl k)] [.inr (.inr 9)] h
  exact E_ret (x := (.areturn, 0, [], [])) (v := some (.inr (.inr 9))) rfl (Or.inl ⟨_, rfl⟩) (h1 qk)
set_option maxHeartbeats 1000000 in
theorem m_isKept0 (d b : Nat) (h : xH) (k : Int) (hk : xr k) (hM0 : 0 ≤ h 66 8 ∧ h 66 8 ≤ 300) {Q : xO → xH → Prop} (h1 : (0 ≤ k ∧ k < h 66 8) → Q (.inl (some (.inl 1))) h) (h0 : ¬ (0 ≤ k ∧ k < h 66 8) → Q (.inl (some (.inl 0))) h) : xRn G0 MT (d + 2) b 193 [.inr (.inr 66), .inl 0, .inl k] h Q := by
  refine R_of (M := mX12_isKept) rfl (Nat.le_of_ble_eq_true rfl) ?_
  show xEx G0 cdX12_isKept (some .boolean) (xRn G0 MT (d + 1)) Q b 0 [some (.inr (.inr 66)), some (.inl 0), some (.inl k)] [] h
  refine E_s 3 (i' := 3) (ls' := [some (.inr (.inr 66)), some (.inl 0), some (.inl k)]) (sk' := [.inl 0, .inl 0, .inl k]) (h' := h) rfl ?_
  refine E_b (x := (.ifCond .eq 10, 7, [], [])) rfl rfl (fun c3 => ?_) (fun c3 => ?_)
  · show xEx G0 cdX12_isKept (some .boolean) (xRn G0 MT (d + 1)) Q b 7 [some (.inr (.inr 66)), some (.inl 0), some (.inl k)] [.inl 0, .inl k] h
    refine E_s 4 (i' := 11) (ls' := [some (.inr (.inr 66)), some (.inl 0), some (.inl k)]) (sk' := [.inl ((h 66 8) - 1), .inl 0, .inl k]) (h' := h) rfl ?_
    refine E_cp (x := (.invokestatic 180, 3, [(0, 155)], [])) (q := fun r h9 => ((r = 1 ∧ (0 ≤ k ∧ k ≤ h 66 8 - 1)) ∨ (r = 0 ∧ ¬ (0 ≤ k ∧ k ≤ h 66 8 - 1))) ∧ h = h9) rfl rfl (Nat.le_of_ble_eq_true rfl) (m_isIn d 0 h k 0 (h 66 8 - 1) hk ⟨by omega, by omega⟩ ⟨by omega, by omega⟩ (fun z => ⟨_, rfl, Or.inl ⟨rfl, z⟩, rfl⟩) (fun z => ⟨_, rfl, Or.inr ⟨rfl, z⟩, rfl⟩)) (fun r h9 q1 => ?_)
    obtain ⟨q1, rfl⟩ := q1
    show xEx G0 cdX12_isKept (some .boolean) (xRn G0 MT (d + 1)) Q b 12 [some (.inr (.inr 66)), some (.inl 0), some (.inl k)] [.inl r] h
    exact E_ret (x := (.ireturn, 0, [], [])) (v := some (.inl r)) rfl (Or.inr ⟨rfl, by omega⟩) (by
      have : r = 1 ∨ r = 0 := by omega
      rcases this with e | e
      · subst e; exact h1 (by omega)
      · subst e; exact h0 (by omega))
  · show xEx G0 cdX12_isKept (some .boolean) (xRn G0 MT (d + 1)) Q b 4 [some (.inr (.inr 66)), some (.inl 0), some (.inl k)] [.inl 0, .inl k] h
    exact absurd c3 (by decide)
set_option maxHeartbeats 1000000 in
theorem c_growthOf1 (d b : Nat) (h : xH) {Q : xO → xH → Prop} (hQ : Q (.inl (some (.inr (.inr 28)))) h) : xRn G0 MT (d + 1) b 142 [.inr (.inr 0), .inl 1] h Q := by
  refine R_of (M := mX11_growthOf) rfl (Nat.le_of_ble_eq_true rfl) ?_
  show xEx G0 cdX11_growthOf (some (.object "PartMaker$Growth")) (xRn G0 MT d) Q b 0 [some (.inr (.inr 0)), some (.inl 1)] [] h
  refine E_s 1 (i' := 1) (ls' := [some (.inr (.inr 0)), some (.inl 1)]) (sk' := [.inl 1]) (h' := h) rfl ?_
  refine E_b (x := (.ifCond .eq 10, 5, [], [])) rfl rfl (fun c1 => ?_) (fun c1 => ?_)
  · show xEx G0 cdX11_growthOf (some (.object "PartMaker$Growth")) (xRn G0 MT d) Q b 5 [some (.inr (.inr 0)), some (.inl 1)] [] h
    exact absurd c1 (by decide)
  · show xEx G0 cdX11_growthOf (some (.object "PartMaker$Growth")) (xRn G0 MT d) Q b 2 [some (.inr (.inr 0)), some (.inl 1)] [] h
    refine E_s 3 (i' := 7) (ls' := [some (.inr (.inr 0)), some (.inl 1)]) (sk' := [.inr (.inr 28)]) (h' := h) rfl ?_
    exact E_ret (x := (.areturn, 0, [], [])) (v := some (.inr (.inr 28))) rfl (Or.inl ⟨_, rfl⟩) (hQ)
set_option maxHeartbeats 1000000 in
theorem c_refNotKept1 (d  : Nat) (h : xH) (k : Int) (hk : xr k) (hK1 : 0 ≤ h 28 9 ∧ h 28 9 ≤ 150) {Q : xO → xH → Prop} (h1 : (0 ≤ k ∧ k < h 28 9) → Q (.inl none) h) (h0 : ¬ (0 ≤ k ∧ k < h 28 9) → Q (.inr "java/util/NoSuchElementException") h) : xRn G0 MT (d + 2) 1 144 [.inr (.inr 0), .inl 1, .inl k] h Q := by
  refine R_of (M := mX11_refuseNotKept) rfl (Nat.le_of_ble_eq_true rfl) ?_
  show xEx G0 cdX11_refuseNotKept none (xRn G0 MT (d + 1)) Q 1 0 [some (.inr (.inr 0)), some (.inl 1), some (.inl k)] [] h
  refine E_s 1 (i' := 1) (ls' := [some (.inr (.inr 0)), some (.inl 1), some (.inl k)]) (sk' := [.inl k]) (h' := h) rfl ?_
  refine E_b (x := (.ifCond .lt 15, 8, [], [])) rfl rfl (fun c1 => ?_) (fun c1 => ?_)
  · rw [c_lt (by first | assumption | (refine ⟨?_, ?_⟩ <;> omega) | (simp only [xr] at *; omega)) (by first | assumption | (refine ⟨?_, ?_⟩ <;> omega) | (simp only [xr] at *; omega))] at c1
    simp only [decide_eq_true_eq, decide_eq_false_iff_not, Decidable.not_not] at c1
    show xEx G0 cdX11_refuseNotKept none (xRn G0 MT (d + 1)) Q 1 8 [some (.inr (.inr 0)), some (.inl 1), some (.inl k)] [] h
    exact E_thr (x := (.new 189, 0, [(2, 1)], [])) rfl rfl rfl (Nat.le_of_ble_eq_true rfl) (h0 (by omega))
  · rw [c_lt (by first | assumption | (refine ⟨?_, ?_⟩ <;> omega) | (simp only [xr] at *; omega)) (by first | assumption | (refine ⟨?_, ?_⟩ <;> omega) | (simp only [xr] at *; omega))] at c1
    simp only [decide_eq_true_eq, decide_eq_false_iff_not, Decidable.not_not] at c1
    show xEx G0 cdX11_refuseNotKept none (xRn G0 MT (d + 1)) Q 1 2 [some (.inr (.inr 0)), some (.inl 1), some (.inl k)] [] h
    refine E_s 3 (i' := 5) (ls' := [some (.inr (.inr 0)), some (.inl 1), some (.inl k)]) (sk' := [.inl 1, .inr (.inr 0), .inl k]) (h' := h) rfl ?_
    refine E_cx (x := (.invokevirtual 161, 1, [(9, 142)], [0])) (b1 := 0) (b2 := 1) (v := (some (.inr (.inr 28)))) (q := fun h9 => (True) ∧ h = h9) rfl rfl (Nat.le_of_ble_eq_true rfl) (fun z => by cases z) (c_growthOf1 d 0 h (Or.inl ⟨rfl, trivial, rfl⟩)) (fun h9 hq9 => ?_)
    obtain ⟨_t, rfl⟩ := hq9
    show xEx G0 cdX11_refuseNotKept none (xRn G0 MT (d + 1)) Q 1 6 [some (.inr (.inr 0)), some (.inl 1), some (.inl k)] [.inr (.inr 28), .inl k] h
    refine E_s 1 (i' := 7) (ls' := [some (.inr (.inr 0)), some (.inl 1), some (.inl k)]) (sk' := [.inl (h 28 9), .inl k]) (h' := h) rfl ?_
    refine E_b (x := (.if_icmp .lt 14, 13, [], [])) rfl rfl (fun c7 => ?_) (fun c7 => ?_)
    · rw [c_lt (by first | assumption | (refine ⟨?_, ?_⟩ <;> omega) | (simp only [xr] at *; omega)) (by first | assumption | (refine ⟨?_, ?_⟩ <;> omega) | (simp only [xr] at *; omega))] at c7
      simp only [decide_eq_true_eq, decide_eq_false_iff_not, Decidable.not_not] at c7
      show xEx G0 cdX11_refuseNotKept none (xRn G0 MT (d + 1)) Q 1 13 [some (.inr (.inr 0)), some (.inl 1), some (.inl k)] [] h
      exact E_ret (x := (.return_, 0, [], [])) (v := none) rfl (trivial) (h1 (by omega))
    · rw [c_lt (by first | assumption | (refine ⟨?_, ?_⟩ <;> omega) | (simp only [xr] at *; omega)) (by first | assumption | (refine ⟨?_, ?_⟩ <;> omega) | (simp only [xr] at *; omega))] at c7
      simp only [decide_eq_true_eq, decide_eq_false_iff_not, Decidable.not_not] at c7
      show xEx G0 cdX11_refuseNotKept none (xRn G0 MT (d + 1)) Q 1 8 [some (.inr (.inr 0)), some (.inl 1), some (.inl k)] [] h
      exact E_thr (x := (.new 189, 0, [(2, 1)], [])) rfl rfl rfl (Nat.le_of_ble_eq_true rfl) (h0 (by omega))
set_option maxHeartbeats 1000000 in
theorem c_growthWith1 (d  : Nat) (h : xH) (k : Int) (hk : xr k) (hK1 : 0 ≤ h 28 9 ∧ h 28 9 ≤ 150) {Q : xO → xH → Prop} (h1 : (0 ≤ k ∧ k < h 28 9) → Q (.inl (some (.inr (.inr 28)))) h) (h0 : ¬ (0 ≤ k ∧ k < h 28 9) → Q (.inr "java/util/NoSuchElementException") h) : xRn G0 MT (d + 3) 1 143 [.inr (.inr 0), .inl 1, .inl k] h Q := by
  refine R_of (M := mX11_growthWith) rfl (Nat.le_of_ble_eq_true rfl) ?_
  show xEx G0 cdX11_growthWith (some (.object "PartMaker$Growth")) (xRn G0 MT (d + 2)) Q 1 0 [some (.inr (.inr 0)), some (.inl 1), some (.inl k)] [] h
  refine E_s 3 (i' := 3) (ls' := [some (.inr (.inr 0)), some (.inl 1), some (.inl k)]) (sk' := [.inl k, .inl 1, .inr (.inr 0)]) (h' := h) rfl ?_
  refine E_cx (x := (.invokevirtual 244, 2, [(9, 144)], [0])) (b1 := 1) (b2 := 0) (v := none) (q := fun h9 => (0 ≤ k ∧ k < h 28 9) ∧ h = h9) rfl rfl (Nat.le_of_ble_eq_true rfl) (fun z => by cases z) (c_refNotKept1 d h k hk hK1 (fun z => Or.inl ⟨rfl, z, rfl⟩) (fun z => Or.inr ⟨_, rfl, h0 z⟩)) (fun h9 hq9 => ?_)
  obtain ⟨qk, rfl⟩ := hq9
  show xEx G0 cdX11_growthWith (some (.object "PartMaker$Growth")) (xRn G0 MT (d + 2)) Q 0 4 [some (.inr (.inr 0)), some (.inl 1), some (.inl k)] [] h
  refine E_s 2 (i' := 6) (ls' := [some (.inr (.inr 0)), some (.inl 1), some (.inl k)]) (sk' := [.inl 1, .inr (.inr 0)]) (h' := h) rfl ?_
  refine E_cx (x := (.invokevirtual 161, 1, [(9, 142)], [0])) (b1 := 0) (b2 := 0) (v := (some (.inr (.inr 28)))) (q := fun h9 => (True) ∧ h = h9) rfl rfl (Nat.le_of_ble_eq_true rfl) (fun z => by cases z) (c_growthOf1 (d + 1) 0 h (Or.inl ⟨rfl, trivial, rfl⟩)) (fun h9 hq9 => ?_)
  obtain ⟨_t, rfl⟩ := hq9
  show xEx G0 cdX11_growthWith (some (.object "PartMaker$Growth")) (xRn G0 MT (d + 2)) Q 0 7 [some (.inr (.inr 0)), some (.inl 1), some (.inl k)] [.inr (.inr 28)] h
  exact E_ret (x := (.areturn, 0, [], [])) (v := some (.inr (.inr 28))) rfl (Or.inl ⟨_, rfl⟩) (h1 qk)
set_option maxHeartbeats 1000000 in
theorem m_isKept1 (d b : Nat) (h : xH) (k : Int) (hk : xr k) (hM1 : 0 ≤ h 66 19 ∧ h 66 19 ≤ 150) {Q : xO → xH → Prop} (h1 : (0 ≤ k ∧ k < h 66 19) → Q (.inl (some (.inl 1))) h) (h0 : ¬ (0 ≤ k ∧ k < h 66 19) → Q (.inl (some (.inl 0))) h) : xRn G0 MT (d + 2) b 193 [.inr (.inr 66), .inl 1, .inl k] h Q := by
  refine R_of (M := mX12_isKept) rfl (Nat.le_of_ble_eq_true rfl) ?_
  show xEx G0 cdX12_isKept (some .boolean) (xRn G0 MT (d + 1)) Q b 0 [some (.inr (.inr 66)), some (.inl 1), some (.inl k)] [] h
  refine E_s 3 (i' := 3) (ls' := [some (.inr (.inr 66)), some (.inl 1), some (.inl k)]) (sk' := [.inl 1, .inl 0, .inl k]) (h' := h) rfl ?_
  refine E_b (x := (.ifCond .eq 10, 7, [], [])) rfl rfl (fun c3 => ?_) (fun c3 => ?_)
  · show xEx G0 cdX12_isKept (some .boolean) (xRn G0 MT (d + 1)) Q b 7 [some (.inr (.inr 66)), some (.inl 1), some (.inl k)] [.inl 0, .inl k] h
    exact absurd c3 (by decide)
  · show xEx G0 cdX12_isKept (some .boolean) (xRn G0 MT (d + 1)) Q b 4 [some (.inr (.inr 66)), some (.inl 1), some (.inl k)] [.inl 0, .inl k] h
    refine E_s 5 (i' := 11) (ls' := [some (.inr (.inr 66)), some (.inl 1), some (.inl k)]) (sk' := [.inl ((h 66 19) - 1), .inl 0, .inl k]) (h' := h) rfl ?_
    refine E_cp (x := (.invokestatic 180, 3, [(0, 155)], [])) (q := fun r h9 => ((r = 1 ∧ (0 ≤ k ∧ k ≤ h 66 19 - 1)) ∨ (r = 0 ∧ ¬ (0 ≤ k ∧ k ≤ h 66 19 - 1))) ∧ h = h9) rfl rfl (Nat.le_of_ble_eq_true rfl) (m_isIn d 0 h k 0 (h 66 19 - 1) hk ⟨by omega, by omega⟩ ⟨by omega, by omega⟩ (fun z => ⟨_, rfl, Or.inl ⟨rfl, z⟩, rfl⟩) (fun z => ⟨_, rfl, Or.inr ⟨rfl, z⟩, rfl⟩)) (fun r h9 q1 => ?_)
    obtain ⟨q1, rfl⟩ := q1
    show xEx G0 cdX12_isKept (some .boolean) (xRn G0 MT (d + 1)) Q b 12 [some (.inr (.inr 66)), some (.inl 1), some (.inl k)] [.inl r] h
    exact E_ret (x := (.ireturn, 0, [], [])) (v := some (.inl r)) rfl (Or.inr ⟨rfl, by omega⟩) (by
      have : r = 1 ∨ r = 0 := by omega
      rcases this with e | e
      · subst e; exact h1 (by omega)
      · subst e; exact h0 (by omega))
