theorem c_start (d b : Nat) (h : xH) (m : Int) (hm : 1 ≤ m ∧ m ≤ 3) {Q : xO → xH → Prop} (hQ : ∀ h', (∀ a, a ≠ 63 → h' a = h a) → PTS h' m 0 → Q (.inl (some (.inl (ptN m)))) h') : xRn G0 MT (d + 1) b 43 [.inr (.inr 62), .inl m] h Q := by
  have : m = 1 ∨ m = 2 ∨ m = 3 := by omega
  rcases this with rfl | rfl | rfl
  · exact c_start1 d b h hQ
  · exact c_start2 d b h hQ
  · exact c_start3 d b h hQ
theorem c_step (d b : Nat) (h : xH) (m p : Int) (hm : 1 ≤ m ∧ m ≤ 3) (h0 : 0 ≤ p) (h1 : p < ptN m) (hp : PTS h m p) {Q : xO → xH → Prop} (hQ : ∀ h', (∀ a, a ≠ 63 → h' a = h a) → (p + 1 < ptN m → PTS h' m (p + 1)) → Q (.inl none) h') : xRn G0 MT (d + 1) b 44 [.inr (.inr 62), .inl m] h Q := by
  have : m = 1 ∨ m = 2 ∨ m = 3 := by omega
  rcases this with rfl | rfl | rfl
  · exact c_step1 d b h p h0 h1 hp hQ
  · exact c_step2 d b h p h0 h1 hp hQ
  · exact c_step3 d b h p h0 h1 hp hQ
theorem ptN_r {m : Int} : 19 ≤ ptN m ∧ ptN m ≤ 6859 := by
  unfold ptN
  split
  · omega
  · split <;> omega
/-- how many numbers have it -/
noncomputable def cN (D : Int → Prop) : Nat → Int
  | 0 => 0
  | m + 1 => cN D m + @ite _ (D m) (Classical.propDecidable _) 1 0
theorem cN_p {D : Int → Prop} {q : Int} (h : 0 ≤ q) (z : D q) : cN D (q + 1).toNat = cN D q.toNat + 1 := by
  obtain ⟨m, rfl⟩ : ∃ m : Nat, q = m := ⟨q.toNat, by omega⟩
  have e : ((m : Int) + 1).toNat = m + 1 := by omega
  rw [e]
  show cN D m + @ite _ (D m) (Classical.propDecidable _) 1 0 = _
  rw [if_pos z]
  rfl
theorem cN_n {D : Int → Prop} {q : Int} (h : 0 ≤ q) (z : ¬ D q) : cN D (q + 1).toNat = cN D q.toNat := by
  obtain ⟨m, rfl⟩ : ∃ m : Nat, q = m := ⟨q.toNat, by omega⟩
  have e : ((m : Int) + 1).toNat = m + 1 := by omega
  rw [e]
  show cN D m + @ite _ (D m) (Classical.propDecidable _) 1 0 = _
  rw [if_neg z, Int.add_zero]
  rfl
theorem cN_r (D : Int → Prop) : ∀ m : Nat, 0 ≤ cN D m ∧ cN D m ≤ m
  | 0 => ⟨Int.le_refl _, Int.le_refl _⟩
  | m + 1 => by
    have := cN_r D m
    by_cases z : D m
    · have e : cN D (m + 1) = cN D m + 1 := by
        show cN D m + @ite _ (D m) (Classical.propDecidable _) 1 0 = _
        rw [if_pos z]
      rw [e]; omega
    · have e : cN D (m + 1) = cN D m := by
        show cN D m + @ite _ (D m) (Classical.propDecidable _) 1 0 = _
        rw [if_neg z, Int.add_zero]
      rw [e]; omega
abbrev ptX (m q : Int) : Int → Int := pX (ptx m q) (pty m q) (ptz m q)
def dfE (S : xH) (m k o : Int) : Int → Prop := fun q => ¬ VE S (ptX m q) k = VE S (ptX m q) o
def dfU (S T : xH) (m k o : Int) : Int → Prop := fun q => ¬ VU S T (ptX m q) k = VU S T (ptX m q) o
theorem RR_vh {h h' S : xH} (e : ∀ a, a ≠ 94 → a ≠ 95 → h' a = h a) (r : RR h S) : RR h' S := by
  unfold RR
  rw [e 66 (by decide) (by decide), e 89 (by decide) (by decide), e 69 (by decide) (by decide), e 70 (by decide) (by decide), e 71 (by decide) (by decide), e 72 (by decide) (by decide), e 73 (by decide) (by decide), e 74 (by decide) (by decide), e 75 (by decide) (by decide), e 76 (by decide) (by decide), e 77 (by decide) (by decide), e 78 (by decide) (by decide)]
  exact r
theorem RRT_vh {h h' T : xH} (e : ∀ a, a ≠ 94 → a ≠ 95 → h' a = h a) (r : RRT h T) : RRT h' T := by
  unfold RRT
  rw [e 66 (by decide) (by decide), e 89 (by decide) (by decide), e 79 (by decide) (by decide), e 80 (by decide) (by decide), e 81 (by decide) (by decide), e 82 (by decide) (by decide), e 83 (by decide) (by decide), e 84 (by decide) (by decide), e 85 (by decide) (by decide), e 86 (by decide) (by decide), e 87 (by decide) (by decide)]
  exact r
theorem pt_1 {x y z : Int} (hx : -9 ≤ x ∧ x ≤ 9) (hy : y = 0) (hz : z = 0) : ptX 1 ((x + 9) + y + z) = pX x y z := by
  have e1 : ptx 1 ((x + 9) + y + z) = x := by simp [ptx]; omega
  have e2 : pty 1 ((x + 9) + y + z) = y := by simp [pty]; omega
  have e3 : ptz 1 ((x + 9) + y + z) = z := by simp [ptz]; omega
  unfold ptX
  rw [e1, e2, e3]
theorem pt_2 {x y z : Int} (hx : -9 ≤ x ∧ x ≤ 9) (hy : -9 ≤ y ∧ y ≤ 9) (hz : z = 0) : ptX 2 ((x + 9) * 19 + (y + 9) + z) = pX x y z := by
  have e1 : ptx 2 ((x + 9) * 19 + (y + 9) + z) = x := by simp [ptx]; omega
  have e2 : pty 2 ((x + 9) * 19 + (y + 9) + z) = y := by simp [pty]; omega
  have e3 : ptz 2 ((x + 9) * 19 + (y + 9) + z) = z := by simp [ptz]; omega
  unfold ptX
  rw [e1, e2, e3]
theorem pt_3 {x y z : Int} (hx : -9 ≤ x ∧ x ≤ 9) (hy : -9 ≤ y ∧ y ≤ 9) (hz : -9 ≤ z ∧ z ≤ 9) : ptX 3 ((x + 9) * 361 + (y + 9) * 19 + (z + 9)) = pX x y z := by
  have e1 : ptx 3 ((x + 9) * 361 + (y + 9) * 19 + (z + 9)) = x := by simp [ptx]; omega
  have e2 : pty 3 ((x + 9) * 361 + (y + 9) * 19 + (z + 9)) = y := by simp [pty]; omega
  have e3 : ptz 3 ((x + 9) * 361 + (y + 9) * 19 + (z + 9)) = z := by simp [ptz]; omega
  unfold ptX
  rw [e1, e2, e3]
set_option maxHeartbeats 1000000 in
theorem o_differs0 (d  : Nat) (h S T : xH) (k o : Int) (hk : xr k) (ho : xr o) (hm : 1 ≤ h 1 1 ∧ h 1 1 ≤ 3) (ev0 : EV h S T) (hK0 : 0 ≤ h 9 9 ∧ h 9 9 ≤ 300) {Q : xO → xH → Prop} (hN : ¬ ((0 ≤ k ∧ k < h 9 9) ∧ (0 ≤ o ∧ o < h 9 9)) → Q (.inr "java/util/NoSuchElementException") h) (hO : ((0 ≤ k ∧ k < h 9 9) ∧ (0 ≤ o ∧ o < h 9 9)) → ∀ h', (∀ a, a ≠ 63 → h' a = h a) → Q (.inl (some (.inl (cN (dfE S (h 1 1) k o) (ptN (h 1 1)).toNat)))) h') : xRn G0 MT (d + 25) 2 120 [.inr (.inr 0), .inl 0, .inl k, .inl o] h Q := by
  refine R_of (M := mX11_differs) rfl (Nat.le_of_ble_eq_true rfl) ?_
  show xEx G0 cdX11_differs (some .int) (xRn G0 MT (d + 24)) Q 2 0 [some (.inr (.inr 0)), some (.inl 0), some (.inl k), some (.inl o), none, none, none, none] [] h
  refine E_s 3 (i' := 3) (ls' := [some (.inr (.inr 0)), some (.inl 0), some (.inl k), some (.inl o), none, none, none, none]) (sk' := [.inl k, .inl 0, .inr (.inr 0)]) (h' := h) rfl ?_
  refine E_cx (x := (.invokevirtual 194, 2, [(9, 143)], [0])) (b1 := 1) (b2 := 1) (v := (some (.inr (.inr 9)))) (q := fun h9 => (0 ≤ k ∧ k < h 9 9) ∧ h = h9) rfl rfl (Nat.le_of_ble_eq_true rfl) (fun z => by cases z) (c_growthWith0 (d + 21) h k hk hK0 (fun z => Or.inl ⟨rfl, z, rfl⟩) (fun z => Or.inr ⟨_, rfl, hN (fun y => z y.1)⟩)) (fun h9 hq9 => ?_)
  obtain ⟨qk, rfl⟩ := hq9
  show xEx G0 cdX11_differs (some .int) (xRn G0 MT (d + 24)) Q 1 4 [some (.inr (.inr 0)), some (.inl 0), some (.inl k), some (.inl o), none, none, none, none] [.inr (.inr 9)] h
  refine E_s 4 (i' := 8) (ls' := [some (.inr (.inr 0)), some (.inl 0), some (.inl k), some (.inl o), some (.inr (.inr 9)), none, none, none]) (sk' := [.inl o, .inl 0, .inr (.inr 0)]) (h' := h) rfl ?_
  refine E_cx (x := (.invokevirtual 244, 2, [(9, 144)], [0])) (b1 := 1) (b2 := 0) (v := none) (q := fun h9 => (0 ≤ o ∧ o < h 9 9) ∧ h = h9) rfl rfl (Nat.le_of_ble_eq_true rfl) (fun z => by cases z) (c_refNotKept0 (d + 22) h o ho hK0 (fun z => Or.inl ⟨rfl, z, rfl⟩) (fun z => Or.inr ⟨_, rfl, hN (fun y => z y.2)⟩)) (fun h9 hq9 => ?_)
  obtain ⟨qo, rfl⟩ := hq9
  show xEx G0 cdX11_differs (some .int) (xRn G0 MT (d + 24)) Q 0 9 [some (.inr (.inr 0)), some (.inl 0), some (.inl k), some (.inl o), some (.inr (.inr 9)), none, none, none] [] h
  refine E_s 7 (i' := 16) (ls' := [some (.inr (.inr 0)), some (.inl 0), some (.inl k), some (.inl o), some (.inr (.inr 9)), some (.inl 0), none, none]) (sk' := [.inl (h 1 1), .inr (.inr 62)]) (h' := h) rfl ?_
  refine E_cp (x := (.invokevirtual 273, 1, [(3, 43)], [0])) (q := fun r h9 => r = ptN (h 1 1) ∧ (∀ a, a ≠ 63 → h9 a = h a) ∧ PTS h9 (h 1 1) 0) rfl rfl (Nat.le_of_ble_eq_true rfl) (c_start (d + 23) 0 h (h 1 1) hm (fun h9 z1 z2 => ⟨_, rfl, rfl, z1, z2⟩)) (fun rN h1 hq => ?_)
  obtain ⟨hrN, f1, p1⟩ := hq
  have hN9 := @ptN_r (h 1 1)
  show xEx G0 cdX11_differs (some .int) (xRn G0 MT (d + 24)) Q 0 17 [some (.inr (.inr 0)), some (.inl 0), some (.inl k), some (.inl o), some (.inr (.inr 9)), some (.inl 0), none, none] [.inl rN] h1
  subst hrN
  refine E_s 3 (i' := 20) (ls' := [some (.inr (.inr 0)), some (.inl 0), some (.inl k), some (.inl o), some (.inr (.inr 9)), some (.inl 0), some (.inl (ptN (h 1 1))), some (.inl 0)]) (sk' := []) (h' := h1) rfl ?_
  have key20 : ∀ (n : Nat) (hh : xH) (n9 p : Int), (0 ≤ p) → (p ≤ ptN (h 1 1)) → (∀ a, a ≠ 63 → hh a = h a) → (p < ptN (h 1 1) → PTS hh (h 1 1) p) → (n9 = cN (dfE S (h 1 1) k o) p.toNat) → ((ptN (h 1 1) - p).toNat) < n → xEx G0 cdX11_differs (some .int) (xRn G0 MT (d + 24)) Q 0 20 [some (.inr (.inr 0)), some (.inl 0), some (.inl k), some (.inl o), some (.inr (.inr 9)), some (.inl n9), some (.inl (ptN (h 1 1))), some (.inl p)] [] hh := by
    intro n
    induction n with
    | zero => intro hh n9 p _ _ _ _ _ hm; exact absurd hm (Nat.not_lt_zero _)
    | succ n ih20 =>
      intro hh n9 p hp0 hp9 hfr hpt hn9 hm20
      have e1 : hh 1 = h 1 := hfr _ (by decide)
      have ev : EV hh S T := EV_po hfr ev0
      have qk2 : 0 ≤ k ∧ k < S 0 0 := by rw [ev0.1.1] at qk; exact qk
      have qo2 : 0 ≤ o ∧ o < S 0 0 := by rw [ev0.1.1] at qo; exact qo
      refine E_s 2 (i' := 22) (ls' := [some (.inr (.inr 0)), some (.inl 0), some (.inl k), some (.inl o), some (.inr (.inr 9)), some (.inl n9), some (.inl (ptN (h 1 1))), some (.inl p)]) (sk' := [.inl (ptN (h 1 1)), .inl p]) (h' := hh) rfl ?_
      refine E_b (x := (.if_icmp .ge 55, 45, [], [])) rfl rfl (fun c22 => ?_) (fun c22 => ?_)
      · rw [c_ge (by first | assumption | (refine ⟨?_, ?_⟩ <;> omega) | (simp only [xr] at *; omega)) (by first | assumption | (refine ⟨?_, ?_⟩ <;> omega) | (simp only [xr] at *; omega))] at c22
        simp only [decide_eq_true_eq, decide_eq_false_iff_not, Decidable.not_not] at c22
        show xEx G0 cdX11_differs (some .int) (xRn G0 MT (d + 24)) Q 0 45 [some (.inr (.inr 0)), some (.inl 0), some (.inl k), some (.inl o), some (.inr (.inr 9)), some (.inl n9), some (.inl (ptN (h 1 1))), some (.inl p)] [] hh
        refine E_s 1 (i' := 46) (ls' := [some (.inr (.inr 0)), some (.inl 0), some (.inl k), some (.inl o), some (.inr (.inr 9)), some (.inl n9), some (.inl (ptN (h 1 1))), some (.inl p)]) (sk' := [.inl n9]) (h' := hh) rfl ?_
        exact E_ret (x := (.ireturn, 0, [], [])) (v := some (.inl n9)) rfl (Or.inl rfl) (by
          have e9 : p = ptN (h 1 1) := by omega
          rw [hn9, e9]
          exact hO ⟨qk, qo⟩ _ hfr)
      · rw [c_ge (by first | assumption | (refine ⟨?_, ?_⟩ <;> omega) | (simp only [xr] at *; omega)) (by first | assumption | (refine ⟨?_, ?_⟩ <;> omega) | (simp only [xr] at *; omega))] at c22
        simp only [decide_eq_true_eq, decide_eq_false_iff_not, Decidable.not_not] at c22
        show xEx G0 cdX11_differs (some .int) (xRn G0 MT (d + 24)) Q 0 23 [some (.inr (.inr 0)), some (.inl 0), some (.inl k), some (.inl o), some (.inr (.inr 9)), some (.inl n9), some (.inl (ptN (h 1 1))), some (.inl p)] [] hh
        have pp := hpt (by omega)
        have pr := pt_r hm hp0 (by omega)
        have rx : ∀ i, 0 ≤ i → i ≤ 2 → xr (hh 63 i) := po_r (by rw [pp.1]; exact ⟨by omega, by omega⟩) (by rw [pp.2.1]; exact ⟨by omega, by omega⟩) (by rw [pp.2.2]; exact ⟨by omega, by omega⟩)
        refine E_s 5 (i' := 28) (ls' := [some (.inr (.inr 0)), some (.inl 0), some (.inl k), some (.inl o), some (.inr (.inr 9)), some (.inl n9), some (.inl (ptN (h 1 1))), some (.inl p)]) (sk' := [.inr (.inr 63), .inl k, .inr (.inr 9)]) (h' := hh) rfl ?_
        refine E_cp (x := (.invokevirtual 220, 2, [(1, 24), (7, 24)], [1])) (q := fun r h9 => w32 r = VE S (hh 63) k ∧ hh = h9) rfl rfl (Nat.le_of_ble_eq_true rfl) (c_comesTo (d + 12) 0 hh S k ev.1 ev.2.1 ev.2.2.1.2 qk2 rx (fun v hv => ⟨v, rfl, hv, rfl⟩)) (fun ra h9 hva => ?_)
        obtain ⟨hva, rfl⟩ := hva
        show xEx G0 cdX11_differs (some .int) (xRn G0 MT (d + 24)) Q 0 29 [some (.inr (.inr 0)), some (.inl 0), some (.inl k), some (.inl o), some (.inr (.inr 9)), some (.inl n9), some (.inl (ptN (h 1 1))), some (.inl p)] [.inl ra] hh
        have ua : xr (VE S (ptX (h 1 1) p) k) := VE_r ev.2.1 (pX_r ⟨by omega, by omega⟩ ⟨by omega, by omega⟩ ⟨by omega, by omega⟩) 300 _ qk2.1 qk2.2
        refine E_ti (y := (VE S (ptX (h 1 1) p) k)) (by rw [hva, VE_p ev pp.1 pp.2.1 pp.2.2 qk2.1 qk2.2, w32_id ua]) ?_
        refine E_s 5 (i' := 34) (ls' := [some (.inr (.inr 0)), some (.inl 0), some (.inl k), some (.inl o), some (.inr (.inr 9)), some (.inl n9), some (.inl (ptN (h 1 1))), some (.inl p)]) (sk' := [.inr (.inr 63), .inl o, .inr (.inr 9), .inl (VE S (ptX (h 1 1) p) k)]) (h' := hh) rfl ?_
        refine E_cp (x := (.invokevirtual 220, 2, [(1, 24), (7, 24)], [1])) (q := fun r h9 => w32 r = VE S (hh 63) o ∧ hh = h9) rfl rfl (Nat.le_of_ble_eq_true rfl) (c_comesTo (d + 12) 0 hh S o ev.1 ev.2.1 ev.2.2.1.2 qo2 rx (fun v hv => ⟨v, rfl, hv, rfl⟩)) (fun rb h9 hvb => ?_)
        obtain ⟨hvb, rfl⟩ := hvb
        show xEx G0 cdX11_differs (some .int) (xRn G0 MT (d + 24)) Q 0 35 [some (.inr (.inr 0)), some (.inl 0), some (.inl k), some (.inl o), some (.inr (.inr 9)), some (.inl n9), some (.inl (ptN (h 1 1))), some (.inl p)] [.inl rb, .inl (VE S (ptX (h 1 1) p) k)] hh
        have ub : xr (VE S (ptX (h 1 1) p) o) := VE_r ev.2.1 (pX_r ⟨by omega, by omega⟩ ⟨by omega, by omega⟩ ⟨by omega, by omega⟩) 300 _ qo2.1 qo2.2
        refine E_ti (y := (VE S (ptX (h 1 1) p) o)) (by rw [hvb, VE_p ev pp.1 pp.2.1 pp.2.2 qo2.1 qo2.2, w32_id ub]) ?_
        refine E_b (x := (.if_icmp .eq 6, 37, [], [])) rfl rfl (fun c35 => ?_) (fun c35 => ?_)
        · rw [c_eq (by first | assumption | (refine ⟨?_, ?_⟩ <;> omega) | (simp only [xr] at *; omega)) (by first | assumption | (refine ⟨?_, ?_⟩ <;> omega) | (simp only [xr] at *; omega))] at c35
          simp only [decide_eq_true_eq, decide_eq_false_iff_not, Decidable.not_not] at c35
          show xEx G0 cdX11_differs (some .int) (xRn G0 MT (d + 24)) Q 0 37 [some (.inr (.inr 0)), some (.inl 0), some (.inl k), some (.inl o), some (.inr (.inr 9)), some (.inl n9), some (.inl (ptN (h 1 1))), some (.inl p)] [] hh
          refine E_s 5 (i' := 42) (ls' := [some (.inr (.inr 0)), some (.inl 0), some (.inl k), some (.inl o), some (.inr (.inr 9)), some (.inl n9), some (.inl (ptN (h 1 1))), some (.inl p)]) (sk' := [.inl (hh 1 1), .inr (.inr 62)]) (h' := hh) rfl ?_
          refine E_cv (x := (.invokevirtual 279, 1, [(3, 44)], [0])) (q := fun h9 => (∀ a, a ≠ 63 → h9 a = hh a) ∧ (p + 1 < ptN (hh 1 1) → PTS h9 (hh 1 1) (p + 1))) rfl rfl (Nat.le_of_ble_eq_true rfl) (c_step (d + 23) 0 hh (hh 1 1) p (by rw [e1]; exact hm) hp0 (by rw [e1]; omega) (by rw [e1]; exact pp) (fun h9 z1 z2 => ⟨rfl, z1, z2⟩)) (fun h2 hq2 => ?_)
          obtain ⟨f2, p2⟩ := hq2
          rw [e1] at p2
          show xEx G0 cdX11_differs (some .int) (xRn G0 MT (d + 24)) Q 0 43 [some (.inr (.inr 0)), some (.inl 0), some (.inl k), some (.inl o), some (.inr (.inr 9)), some (.inl n9), some (.inl (ptN (h 1 1))), some (.inl p)] [] h2
          refine E_s 2 (i' := 20) (ls' := [some (.inr (.inr 0)), some (.inl 0), some (.inl k), some (.inl o), some (.inr (.inr 9)), some (.inl n9), some (.inl (ptN (h 1 1))), some (.inl (p + 1))]) (sk' := []) (h' := h2) rfl ?_
          exact ih20 _ _ (p + 1) (by omega) (by omega) (fun a z => (f2 a z).trans (hfr a z)) p2 (by rw [cN_n hp0 (fun z => z c35), hn9]) (by omega)
        · rw [c_eq (by first | assumption | (refine ⟨?_, ?_⟩ <;> omega) | (simp only [xr] at *; omega)) (by first | assumption | (refine ⟨?_, ?_⟩ <;> omega) | (simp only [xr] at *; omega))] at c35
          simp only [decide_eq_true_eq, decide_eq_false_iff_not, Decidable.not_not] at c35
          show xEx G0 cdX11_differs (some .int) (xRn G0 MT (d + 24)) Q 0 36 [some (.inr (.inr 0)), some (.inl 0), some (.inl k), some (.inl o), some (.inr (.inr 9)), some (.inl n9), some (.inl (ptN (h 1 1))), some (.inl p)] [] hh
          refine E_s 6 (i' := 42) (ls' := [some (.inr (.inr 0)), some (.inl 0), some (.inl k), some (.inl o), some (.inr (.inr 9)), some (.inl (n9 + 1)), some (.inl (ptN (h 1 1))), some (.inl p)]) (sk' := [.inl (hh 1 1), .inr (.inr 62)]) (h' := hh) rfl ?_
          refine E_cv (x := (.invokevirtual 279, 1, [(3, 44)], [0])) (q := fun h9 => (∀ a, a ≠ 63 → h9 a = hh a) ∧ (p + 1 < ptN (hh 1 1) → PTS h9 (hh 1 1) (p + 1))) rfl rfl (Nat.le_of_ble_eq_true rfl) (c_step (d + 23) 0 hh (hh 1 1) p (by rw [e1]; exact hm) hp0 (by rw [e1]; omega) (by rw [e1]; exact pp) (fun h9 z1 z2 => ⟨rfl, z1, z2⟩)) (fun h2 hq2 => ?_)
          obtain ⟨f2, p2⟩ := hq2
          rw [e1] at p2
          show xEx G0 cdX11_differs (some .int) (xRn G0 MT (d + 24)) Q 0 43 [some (.inr (.inr 0)), some (.inl 0), some (.inl k), some (.inl o), some (.inr (.inr 9)), some (.inl (n9 + 1)), some (.inl (ptN (h 1 1))), some (.inl p)] [] h2
          refine E_s 2 (i' := 20) (ls' := [some (.inr (.inr 0)), some (.inl 0), some (.inl k), some (.inl o), some (.inr (.inr 9)), some (.inl (n9 + 1)), some (.inl (ptN (h 1 1))), some (.inl (p + 1))]) (sk' := []) (h' := h2) rfl ?_
          exact ih20 _ _ (p + 1) (by omega) (by omega) (fun a z => (f2 a z).trans (hfr a z)) p2 (by rw [cN_p hp0 c35, hn9]) (by omega)
  exact key20 _ h1 0 0 (by omega) (by omega) f1 (fun _ => p1) rfl (Nat.lt_succ_self _)
set_option maxHeartbeats 1000000 in
theorem o_differs1 (d  : Nat) (h S T : xH) (k o : Int) (hk : xr k) (ho : xr o) (hm : 1 ≤ h 1 1 ∧ h 1 1 ≤ 3) (ev0 : EV h S T) (hK1 : 0 ≤ h 28 9 ∧ h 28 9 ≤ 150) {Q : xO → xH → Prop} (hN : ¬ ((0 ≤ k ∧ k < h 28 9) ∧ (0 ≤ o ∧ o < h 28 9)) → Q (.inr "java/util/NoSuchElementException") h) (hO : ((0 ≤ k ∧ k < h 28 9) ∧ (0 ≤ o ∧ o < h 28 9)) → ∀ h', (∀ a, a ≠ 63 → h' a = h a) → Q (.inl (some (.inl (cN (dfU S T (h 1 1) k o) (ptN (h 1 1)).toNat)))) h') : xRn G0 MT (d + 25) 2 120 [.inr (.inr 0), .inl 1, .inl k, .inl o] h Q := by
  refine R_of (M := mX11_differs) rfl (Nat.le_of_ble_eq_true rfl) ?_
  show xEx G0 cdX11_differs (some .int) (xRn G0 MT (d + 24)) Q 2 0 [some (.inr (.inr 0)), some (.inl 1), some (.inl k), some (.inl o), none, none, none, none] [] h
  refine E_s 3 (i' := 3) (ls' := [some (.inr (.inr 0)), some (.inl 1), some (.inl k), some (.inl o), none, none, none, none]) (sk' := [.inl k, .inl 1, .inr (.inr 0)]) (h' := h) rfl ?_
  refine E_cx (x := (.invokevirtual 194, 2, [(9, 143)], [0])) (b1 := 1) (b2 := 1) (v := (some (.inr (.inr 28)))) (q := fun h9 => (0 ≤ k ∧ k < h 28 9) ∧ h = h9) rfl rfl (Nat.le_of_ble_eq_true rfl) (fun z => by cases z) (c_growthWith1 (d + 21) h k hk hK1 (fun z => Or.inl ⟨rfl, z, rfl⟩) (fun z => Or.inr ⟨_, rfl, hN (fun y => z y.1)⟩)) (fun h9 hq9 => ?_)
  obtain ⟨qk, rfl⟩ := hq9
  show xEx G0 cdX11_differs (some .int) (xRn G0 MT (d + 24)) Q 1 4 [some (.inr (.inr 0)), some (.inl 1), some (.inl k), some (.inl o), none, none, none, none] [.inr (.inr 28)] h
  refine E_s 4 (i' := 8) (ls' := [some (.inr (.inr 0)), some (.inl 1), some (.inl k), some (.inl o), some (.inr (.inr 28)), none, none, none]) (sk' := [.inl o, .inl 1, .inr (.inr 0)]) (h' := h) rfl ?_
  refine E_cx (x := (.invokevirtual 244, 2, [(9, 144)], [0])) (b1 := 1) (b2 := 0) (v := none) (q := fun h9 => (0 ≤ o ∧ o < h 28 9) ∧ h = h9) rfl rfl (Nat.le_of_ble_eq_true rfl) (fun z => by cases z) (c_refNotKept1 (d + 22) h o ho hK1 (fun z => Or.inl ⟨rfl, z, rfl⟩) (fun z => Or.inr ⟨_, rfl, hN (fun y => z y.2)⟩)) (fun h9 hq9 => ?_)
  obtain ⟨qo, rfl⟩ := hq9
  show xEx G0 cdX11_differs (some .int) (xRn G0 MT (d + 24)) Q 0 9 [some (.inr (.inr 0)), some (.inl 1), some (.inl k), some (.inl o), some (.inr (.inr 28)), none, none, none] [] h
  refine E_s 7 (i' := 16) (ls' := [some (.inr (.inr 0)), some (.inl 1), some (.inl k), some (.inl o), some (.inr (.inr 28)), some (.inl 0), none, none]) (sk' := [.inl (h 1 1), .inr (.inr 62)]) (h' := h) rfl ?_
  refine E_cp (x := (.invokevirtual 273, 1, [(3, 43)], [0])) (q := fun r h9 => r = ptN (h 1 1) ∧ (∀ a, a ≠ 63 → h9 a = h a) ∧ PTS h9 (h 1 1) 0) rfl rfl (Nat.le_of_ble_eq_true rfl) (c_start (d + 23) 0 h (h 1 1) hm (fun h9 z1 z2 => ⟨_, rfl, rfl, z1, z2⟩)) (fun rN h1 hq => ?_)
  obtain ⟨hrN, f1, p1⟩ := hq
  have hN9 := @ptN_r (h 1 1)
  show xEx G0 cdX11_differs (some .int) (xRn G0 MT (d + 24)) Q 0 17 [some (.inr (.inr 0)), some (.inl 1), some (.inl k), some (.inl o), some (.inr (.inr 28)), some (.inl 0), none, none] [.inl rN] h1
  subst hrN
  refine E_s 3 (i' := 20) (ls' := [some (.inr (.inr 0)), some (.inl 1), some (.inl k), some (.inl o), some (.inr (.inr 28)), some (.inl 0), some (.inl (ptN (h 1 1))), some (.inl 0)]) (sk' := []) (h' := h1) rfl ?_
  have key20 : ∀ (n : Nat) (hh : xH) (n9 p : Int), (0 ≤ p) → (p ≤ ptN (h 1 1)) → (∀ a, a ≠ 63 → hh a = h a) → (p < ptN (h 1 1) → PTS hh (h 1 1) p) → (n9 = cN (dfU S T (h 1 1) k o) p.toNat) → ((ptN (h 1 1) - p).toNat) < n → xEx G0 cdX11_differs (some .int) (xRn G0 MT (d + 24)) Q 0 20 [some (.inr (.inr 0)), some (.inl 1), some (.inl k), some (.inl o), some (.inr (.inr 28)), some (.inl n9), some (.inl (ptN (h 1 1))), some (.inl p)] [] hh := by
    intro n
    induction n with
    | zero => intro hh n9 p _ _ _ _ _ hm; exact absurd hm (Nat.not_lt_zero _)
    | succ n ih20 =>
      intro hh n9 p hp0 hp9 hfr hpt hn9 hm20
      have e1 : hh 1 = h 1 := hfr _ (by decide)
      have ev : EV hh S T := EV_po hfr ev0
      have qk2 : 0 ≤ k ∧ k < T 0 0 := by rw [ev0.2.2.2.1.1] at qk; exact qk
      have qo2 : 0 ≤ o ∧ o < T 0 0 := by rw [ev0.2.2.2.1.1] at qo; exact qo
      refine E_s 2 (i' := 22) (ls' := [some (.inr (.inr 0)), some (.inl 1), some (.inl k), some (.inl o), some (.inr (.inr 28)), some (.inl n9), some (.inl (ptN (h 1 1))), some (.inl p)]) (sk' := [.inl (ptN (h 1 1)), .inl p]) (h' := hh) rfl ?_
      refine E_b (x := (.if_icmp .ge 55, 45, [], [])) rfl rfl (fun c22 => ?_) (fun c22 => ?_)
      · rw [c_ge (by first | assumption | (refine ⟨?_, ?_⟩ <;> omega) | (simp only [xr] at *; omega)) (by first | assumption | (refine ⟨?_, ?_⟩ <;> omega) | (simp only [xr] at *; omega))] at c22
        simp only [decide_eq_true_eq, decide_eq_false_iff_not, Decidable.not_not] at c22
        show xEx G0 cdX11_differs (some .int) (xRn G0 MT (d + 24)) Q 0 45 [some (.inr (.inr 0)), some (.inl 1), some (.inl k), some (.inl o), some (.inr (.inr 28)), some (.inl n9), some (.inl (ptN (h 1 1))), some (.inl p)] [] hh
        refine E_s 1 (i' := 46) (ls' := [some (.inr (.inr 0)), some (.inl 1), some (.inl k), some (.inl o), some (.inr (.inr 28)), some (.inl n9), some (.inl (ptN (h 1 1))), some (.inl p)]) (sk' := [.inl n9]) (h' := hh) rfl ?_
        exact E_ret (x := (.ireturn, 0, [], [])) (v := some (.inl n9)) rfl (Or.inl rfl) (by
          have e9 : p = ptN (h 1 1) := by omega
          rw [hn9, e9]
          exact hO ⟨qk, qo⟩ _ hfr)
      · rw [c_ge (by first | assumption | (refine ⟨?_, ?_⟩ <;> omega) | (simp only [xr] at *; omega)) (by first | assumption | (refine ⟨?_, ?_⟩ <;> omega) | (simp only [xr] at *; omega))] at c22
        simp only [decide_eq_true_eq, decide_eq_false_iff_not, Decidable.not_not] at c22
        show xEx G0 cdX11_differs (some .int) (xRn G0 MT (d + 24)) Q 0 23 [some (.inr (.inr 0)), some (.inl 1), some (.inl k), some (.inl o), some (.inr (.inr 28)), some (.inl n9), some (.inl (ptN (h 1 1))), some (.inl p)] [] hh
        have pp := hpt (by omega)
        have pr := pt_r hm hp0 (by omega)
        have rx : ∀ i, 0 ≤ i → i ≤ 2 → xr (hh 63 i) := po_r (by rw [pp.1]; exact ⟨by omega, by omega⟩) (by rw [pp.2.1]; exact ⟨by omega, by omega⟩) (by rw [pp.2.2]; exact ⟨by omega, by omega⟩)
        refine E_s 5 (i' := 28) (ls' := [some (.inr (.inr 0)), some (.inl 1), some (.inl k), some (.inl o), some (.inr (.inr 28)), some (.inl n9), some (.inl (ptN (h 1 1))), some (.inl p)]) (sk' := [.inr (.inr 63), .inl k, .inr (.inr 28)]) (h' := hh) rfl ?_
        refine E_cp (x := (.invokevirtual 220, 2, [(1, 24), (7, 24)], [1])) (q := fun r h9 => w32 r = VU S T (hh 63) k ∧ hh = h9) rfl rfl (Nat.le_of_ble_eq_true rfl) (c_comesToT (d + 1) 0 hh S T k ev.1 ev.2.1 ev.2.2.1.2 ev.2.2.2.1 ev.2.2.2.2.1 ev.2.2.2.2.2.2 qk2 rx (fun v hv => ⟨v, rfl, hv, rfl⟩)) (fun ra h9 hva => ?_)
        obtain ⟨hva, rfl⟩ := hva
        show xEx G0 cdX11_differs (some .int) (xRn G0 MT (d + 24)) Q 0 29 [some (.inr (.inr 0)), some (.inl 1), some (.inl k), some (.inl o), some (.inr (.inr 28)), some (.inl n9), some (.inl (ptN (h 1 1))), some (.inl p)] [.inl ra] hh
        have ua : VU S T (ptX (h 1 1) p) k = 0 ∨ VU S T (ptX (h 1 1) p) k = 1 := vU_01 S T _ 150 _
        refine E_ti (y := (VU S T (ptX (h 1 1) p) k)) (by rw [hva, VU_p ev pp.1 pp.2.1 pp.2.2 qk2.1 qk2.2, w32_id]; exact ⟨by omega, by omega⟩) ?_
        refine E_s 5 (i' := 34) (ls' := [some (.inr (.inr 0)), some (.inl 1), some (.inl k), some (.inl o), some (.inr (.inr 28)), some (.inl n9), some (.inl (ptN (h 1 1))), some (.inl p)]) (sk' := [.inr (.inr 63), .inl o, .inr (.inr 28), .inl (VU S T (ptX (h 1 1) p) k)]) (h' := hh) rfl ?_
        refine E_cp (x := (.invokevirtual 220, 2, [(1, 24), (7, 24)], [1])) (q := fun r h9 => w32 r = VU S T (hh 63) o ∧ hh = h9) rfl rfl (Nat.le_of_ble_eq_true rfl) (c_comesToT (d + 1) 0 hh S T o ev.1 ev.2.1 ev.2.2.1.2 ev.2.2.2.1 ev.2.2.2.2.1 ev.2.2.2.2.2.2 qo2 rx (fun v hv => ⟨v, rfl, hv, rfl⟩)) (fun rb h9 hvb => ?_)
        obtain ⟨hvb, rfl⟩ := hvb
        show xEx G0 cdX11_differs (some .int) (xRn G0 MT (d + 24)) Q 0 35 [some (.inr (.inr 0)), some (.inl 1), some (.inl k), some (.inl o), some (.inr (.inr 28)), some (.inl n9), some (.inl (ptN (h 1 1))), some (.inl p)] [.inl rb, .inl (VU S T (ptX (h 1 1) p) k)] hh
        have ub : VU S T (ptX (h 1 1) p) o = 0 ∨ VU S T (ptX (h 1 1) p) o = 1 := vU_01 S T _ 150 _
        refine E_ti (y := (VU S T (ptX (h 1 1) p) o)) (by rw [hvb, VU_p ev pp.1 pp.2.1 pp.2.2 qo2.1 qo2.2, w32_id]; exact ⟨by omega, by omega⟩) ?_
        refine E_b (x := (.if_icmp .eq 6, 37, [], [])) rfl rfl (fun c35 => ?_) (fun c35 => ?_)
        · rw [c_eq (by first | assumption | (refine ⟨?_, ?_⟩ <;> omega) | (simp only [xr] at *; omega)) (by first | assumption | (refine ⟨?_, ?_⟩ <;> omega) | (simp only [xr] at *; omega))] at c35
          simp only [decide_eq_true_eq, decide_eq_false_iff_not, Decidable.not_not] at c35
          show xEx G0 cdX11_differs (some .int) (xRn G0 MT (d + 24)) Q 0 37 [some (.inr (.inr 0)), some (.inl 1), some (.inl k), some (.inl o), some (.inr (.inr 28)), some (.inl n9), some (.inl (ptN (h 1 1))), some (.inl p)] [] hh
          refine E_s 5 (i' := 42) (ls' := [some (.inr (.inr 0)), some (.inl 1), some (.inl k), some (.inl o), some (.inr (.inr 28)), some (.inl n9), some (.inl (ptN (h 1 1))), some (.inl p)]) (sk' := [.inl (hh 1 1), .inr (.inr 62)]) (h' := hh) rfl ?_
          refine E_cv (x := (.invokevirtual 279, 1, [(3, 44)], [0])) (q := fun h9 => (∀ a, a ≠ 63 → h9 a = hh a) ∧ (p + 1 < ptN (hh 1 1) → PTS h9 (hh 1 1) (p + 1))) rfl rfl (Nat.le_of_ble_eq_true rfl) (c_step (d + 23) 0 hh (hh 1 1) p (by rw [e1]; exact hm) hp0 (by rw [e1]; omega) (by rw [e1]; exact pp) (fun h9 z1 z2 => ⟨rfl, z1, z2⟩)) (fun h2 hq2 => ?_)
          obtain ⟨f2, p2⟩ := hq2
          rw [e1] at p2
          show xEx G0 cdX11_differs (some .int) (xRn G0 MT (d + 24)) Q 0 43 [some (.inr (.inr 0)), some (.inl 1), some (.inl k), some (.inl o), some (.inr (.inr 28)), some (.inl n9), some (.inl (ptN (h 1 1))), some (.inl p)] [] h2
          refine E_s 2 (i' := 20) (ls' := [some (.inr (.inr 0)), some (.inl 1), some (.inl k), some (.inl o), some (.inr (.inr 28)), some (.inl n9), some (.inl (ptN (h 1 1))), some (.inl (p + 1))]) (sk' := []) (h' := h2) rfl ?_
          exact ih20 _ _ (p + 1) (by omega) (by omega) (fun a z => (f2 a z).trans (hfr a z)) p2 (by rw [cN_n hp0 (fun z => z c35), hn9]) (by omega)
        · rw [c_eq (by first | assumption | (refine ⟨?_, ?_⟩ <;> omega) | (simp only [xr] at *; omega)) (by first | assumption | (refine ⟨?_, ?_⟩ <;> omega) | (simp only [xr] at *; omega))] at c35
          simp only [decide_eq_true_eq, decide_eq_false_iff_not, Decidable.not_not] at c35
          show xEx G0 cdX11_differs (some .int) (xRn G0 MT (d + 24)) Q 0 36 [some (.inr (.inr 0)), some (.inl 1), some (.inl k), some (.inl o), some (.inr (.inr 28)), some (.inl n9), some (.inl (ptN (h 1 1))), some (.inl p)] [] hh
          refine E_s 6 (i' := 42) (ls' := [some (.inr (.inr 0)), some (.inl 1), some (.inl k), some (.inl o), some (.inr (.inr 28)), some (.inl (n9 + 1)), some (.inl (ptN (h 1 1))), some (.inl p)]) (sk' := [.inl (hh 1 1), .inr (.inr 62)]) (h' := hh) rfl ?_
          refine E_cv (x := (.invokevirtual 279, 1, [(3, 44)], [0])) (q := fun h9 => (∀ a, a ≠ 63 → h9 a = hh a) ∧ (p + 1 < ptN (hh 1 1) → PTS h9 (hh 1 1) (p + 1))) rfl rfl (Nat.le_of_ble_eq_true rfl) (c_step (d + 23) 0 hh (hh 1 1) p (by rw [e1]; exact hm) hp0 (by rw [e1]; omega) (by rw [e1]; exact pp) (fun h9 z1 z2 => ⟨rfl, z1, z2⟩)) (fun h2 hq2 => ?_)
          obtain ⟨f2, p2⟩ := hq2
          rw [e1] at p2
          show xEx G0 cdX11_differs (some .int) (xRn G0 MT (d + 24)) Q 0 43 [some (.inr (.inr 0)), some (.inl 1), some (.inl k), some (.inl o), some (.inr (.inr 28)), some (.inl (n9 + 1)), some (.inl (ptN (h 1 1))), some (.inl p)] [] h2
          refine E_s 2 (i' := 20) (ls' := [some (.inr (.inr 0)), some (.inl 1), some (.inl k), some (.inl o), some (.inr (.inr 28)), some (.inl (n9 + 1)), some (.inl (ptN (h 1 1))), some (.inl (p + 1))]) (sk' := []) (h' := h2) rfl ?_
          exact ih20 _ _ (p + 1) (by omega) (by omega) (fun a z => (f2 a z).trans (hfr a z)) p2 (by rw [cN_p hp0 c35, hn9]) (by omega)
  exact key20 _ h1 0 0 (by omega) (by omega) f1 (fun _ => p1) rfl (Nat.lt_succ_self _)
