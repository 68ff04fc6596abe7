def dmE (S : xH) (m k : Int) : Int → Prop := fun q => ¬ VE S (ptX m q) k = fE S (ptX m q) (S 8 k) (S 9 k) (S 10 k)
def dmU (S T : xH) (m k : Int) : Int → Prop := fun q => ¬ VU S T (ptX m q) k = fU S T (ptX m q) (T 8 k) (T 9 k) (T 10 k)
theorem PTS_i {h : xH} {m p i : Int} (hp : PTS h m p) (h0 : 0 ≤ i) (h1 : i ≤ 2) : h 63 i = ptX m p i := by
  have : i = 0 ∨ i = 1 ∨ i = 2 := by omega
  rcases this with rfl | rfl | rfl
  · exact hp.1
  · exact hp.2.1
  · exact hp.2.2
theorem fE_x {n : Int} {wt : Int → Int} {z : Int} {S : xH} {x y : Int → Int} (hF : FW n wt z S) (hx : ∀ i, 0 ≤ i → i ≤ 2 → x i = y i) {K u a b c : Int} (hK : K ≤ S 0 0) (cw : cwf S K u a b c) : fE S x a b c = fE S y a b c := by
  have cc := cw_ch hF hK cw
  unfold fE
  rcases cc with ⟨c1, c2, c3⟩ | ⟨c1, c2, c3⟩ | ⟨c1, c2, c3, c4, c5, c6, -⟩
  · rw [if_pos c1, if_pos c1]; exact hx _ c2 c3
  · have n10 : ¬ a = 10 := by omega
    rw [if_neg n10, if_pos c1, if_neg n10, if_pos c1]
  · have e1 : VE S x b = VE S y b := vE_x hF hx 300 _ c3 (by omega)
    have e2 : VE S x c = VE S y c := vE_x hF hx 300 _ c5 (by omega)
    have n10 : ¬ a = 10 := by omega
    have n11 : ¬ a = 11 := by omega
    rw [if_neg n10, if_neg n11, if_neg n10, if_neg n11, e1, e2]
theorem fU_x {n : Int} {wt : Int → Int} {z z2 : Int} {S T : xH} {x y : Int → Int} (hS : FW n wt z2 S) (hF : FWT S z T) (hx : ∀ i, 0 ≤ i → i ≤ 2 → x i = y i) {K u a b c : Int} (hK : K ≤ T 0 0) (tw : twf S T K u a b c) : fU S T x a b c = fU S T y a b c := by
  have cc := tw_ch hF hK tw
  unfold fU
  rcases cc with ⟨c1, c2, c3, c4, c5, c6⟩ | ⟨c1, c2, c3, -⟩ | ⟨c1, c2, c3, c4, c5, -⟩
  · have e1 : VE S x b = VE S y b := vE_x hS hx 300 _ c3 c4
    have e2 : VE S x c = VE S y c := vE_x hS hx 300 _ c5 c6
    by_cases q : a = 0
    · rw [if_pos q, if_pos q, e1, e2]
    · have q1 : a = 1 := by omega
      rw [if_neg q, if_pos q1, if_neg q, if_pos q1, e1, e2]
  · have e1 : VU S T x b = VU S T y b := vU_x hS hF hx 150 _ c2 (by omega)
    have n0 : ¬ a = 0 := by omega
    have n1 : ¬ a = 1 := by omega
    rw [if_neg n0, if_neg n1, if_pos c1, if_neg n0, if_neg n1, if_pos c1, e1]
  · have e1 : VU S T x b = VU S T y b := vU_x hS hF hx 150 _ c2 (by omega)
    have e2 : VU S T x c = VU S T y c := vU_x hS hF hx 150 _ c4 (by omega)
    have n0 : ¬ a = 0 := by omega
    have n1 : ¬ a = 1 := by omega
    have n2 : ¬ a = 2 := by omega
    rw [if_neg n0, if_neg n1, if_neg n2, if_neg n0, if_neg n1, if_neg n2, e1, e2]
theorem po_x {h : xH} {m p : Int} (hp : PTS h m p) : ∀ i, 0 ≤ i → i ≤ 2 → h 63 i = ptX m p i := fun i z1 z2 => PTS_i hp z1 z2
set_option maxHeartbeats 1000000 in
theorem o_mapart0 (d  : Nat) (h S T : xH) (k i : Int) (hk : xr k) (hi : xr i) (hm : 1 ≤ h 1 1 ∧ h 1 1 ≤ 3) (ev0 : EV h S T) (h7r : ∀ k, 0 ≤ k → k < S 0 0 → 0 ≤ S 7 k ∧ S 7 k ≤ 400000) (hK0 : 0 ≤ h 9 9 ∧ h 9 9 ≤ 300) {Q : xO → xH → Prop} (hN : ¬ ((0 ≤ k ∧ k < h 9 9) ∧ (0 ≤ i ∧ i ≤ 2)) → Q (.inr "java/util/NoSuchElementException") h) (hZ : ((0 ≤ k ∧ k < h 9 9) ∧ (0 ≤ i ∧ i ≤ 2)) → S 7 k = 0 → Q (.inl (some (.inl (-100)))) h) (hF : ((0 ≤ k ∧ k < h 9 9) ∧ (0 ≤ i ∧ i ≤ 2)) → S 7 k ≠ 0 → ∀ p, 0 ≤ p → p < ptN (h 1 1) → (dmE S (h 1 1) k) p → (∀ q, 0 ≤ q → q < p → ¬ (dmE S (h 1 1) k) q) → ∀ h', (∀ a, a ≠ 63 → h' a = h a) → Q (.inl (some (.inl (ptX (h 1 1) p i)))) h') (hG : ((0 ≤ k ∧ k < h 9 9) ∧ (0 ≤ i ∧ i ≤ 2)) → S 7 k ≠ 0 → (∀ q, 0 ≤ q → q < ptN (h 1 1) → ¬ (dmE S (h 1 1) k) q) → ∀ h', (∀ a, a ≠ 63 → h' a = h a) → Q (.inl (some (.inl (-100)))) h') : xRn G0 MT (d + 25) 2 119 [.inr (.inr 0), .inl 0, .inl k, .inl i] h Q := by
  refine R_of (M := mX11_mergedApart) rfl (Nat.le_of_ble_eq_true rfl) ?_
  show xEx G0 cdX11_mergedApart (some .int) (xRn G0 MT (d + 24)) Q 2 0 [some (.inr (.inr 0)), some (.inl 0), some (.inl k), some (.inl i), none, none, none] [] h
  refine E_s 3 (i' := 3) (ls' := [some (.inr (.inr 0)), some (.inl 0), some (.inl k), some (.inl i), none, none, none]) (sk' := [.inl k, .inl 0, .inr (.inr 0)]) (h' := h) rfl ?_
  refine E_cx (x := (.invokevirtual 194, 2, [(9, 143)], [0])) (b1 := 1) (b2 := 1) (v := (some (.inr (.inr 9)))) (q := fun h9 => (0 ≤ k ∧ k < h 9 9) ∧ h = h9) rfl rfl (Nat.le_of_ble_eq_true rfl) (fun z => by cases z) (c_growthWith0 (d + 21) h k hk hK0 (fun z => Or.inl ⟨rfl, z, rfl⟩) (fun z => Or.inr ⟨_, rfl, hN (fun y => z y.1)⟩)) (fun h9 hq9 => ?_)
  obtain ⟨qk, rfl⟩ := hq9
  show xEx G0 cdX11_mergedApart (some .int) (xRn G0 MT (d + 24)) Q 1 4 [some (.inr (.inr 0)), some (.inl 0), some (.inl k), some (.inl i), none, none, none] [.inr (.inr 9)] h
  refine E_s 2 (i' := 6) (ls' := [some (.inr (.inr 0)), some (.inl 0), some (.inl k), some (.inl i), some (.inr (.inr 9)), none, none]) (sk' := [.inl i]) (h' := h) rfl ?_
  refine E_cx (x := (.invokestatic 270, 1, [(0, 149)], [])) (b1 := 1) (b2 := 0) (v := none) (q := fun h9 => (0 ≤ i ∧ i ≤ 2) ∧ h = h9) rfl rfl (Nat.le_of_ble_eq_true rfl) (fun z => by cases z) (c_refNoInput (d + 23) h i hi (fun z => Or.inl ⟨rfl, z, rfl⟩) (fun z => Or.inr ⟨_, rfl, hN (fun y => z y.2)⟩)) (fun h9 hq9 => ?_)
  obtain ⟨qi, rfl⟩ := hq9
  show xEx G0 cdX11_mergedApart (some .int) (xRn G0 MT (d + 24)) Q 0 7 [some (.inr (.inr 0)), some (.inl 0), some (.inl k), some (.inl i), some (.inr (.inr 9)), none, none] [] h
  have qk2 : 0 ≤ k ∧ k < S 0 0 := by rw [ev0.1.1] at qk; exact qk
  have e7 : h 21 k = S 7 k := (ev0.1.2.2.2.2.2.1 k qk2.1 qk2.2).2.2.2.2.2.1
  have r7 := h7r k qk2.1 qk2.2
  refine E_s 3 (i' := 10) (ls' := [some (.inr (.inr 0)), some (.inl 0), some (.inl k), some (.inl i), some (.inr (.inr 9)), none, none]) (sk' := [.inl k, .inr (.inr 21)]) (h' := h) rfl ?_
  refine E_ld (x := (.iaload, 0, [], [])) (ty := .int) (n := 300) rfl rfl rfl (by omega) (by omega) ?_
  show xEx G0 cdX11_mergedApart (some .int) (xRn G0 MT (d + 24)) Q 0 11 [some (.inr (.inr 0)), some (.inl 0), some (.inl k), some (.inl i), some (.inr (.inr 9)), none, none] [.inl (h 21 k)] h
  refine E_b (x := (.ifCond .ne 6, 14, [], [])) rfl rfl (fun c11 => ?_) (fun c11 => ?_)
  · rw [c_ne (by first | assumption | (refine ⟨?_, ?_⟩ <;> omega) | (simp only [xr] at *; omega)) (by first | assumption | (refine ⟨?_, ?_⟩ <;> omega) | (simp only [xr] at *; omega))] at c11
    simp only [decide_eq_true_eq, decide_eq_false_iff_not, Decidable.not_not] at c11
    show xEx G0 cdX11_mergedApart (some .int) (xRn G0 MT (d + 24)) Q 0 14 [some (.inr (.inr 0)), some (.inl 0), some (.inl k), some (.inl i), some (.inr (.inr 9)), none, none] [] h
    have h7 : S 7 k ≠ 0 := by omega
    refine E_s 5 (i' := 19) (ls' := [some (.inr (.inr 0)), some (.inl 0), some (.inl k), some (.inl i), some (.inr (.inr 9)), none, none]) (sk' := [.inl (h 1 1), .inr (.inr 62)]) (h' := h) rfl ?_
    refine E_cp (x := (.invokevirtual 273, 1, [(3, 43)], [0])) (q := fun r h9 => r = ptN (h 1 1) ∧ (∀ a, a ≠ 63 → h9 a = h a) ∧ PTS h9 (h 1 1) 0) rfl rfl (Nat.le_of_ble_eq_true rfl) (c_start (d + 23) 0 h (h 1 1) hm (fun h9 z1 z2 => ⟨_, rfl, rfl, z1, z2⟩)) (fun rN h1 hq => ?_)
    obtain ⟨hrN, f1, p1⟩ := hq
    have hN9 := @ptN_r (h 1 1)
    show xEx G0 cdX11_mergedApart (some .int) (xRn G0 MT (d + 24)) Q 0 20 [some (.inr (.inr 0)), some (.inl 0), some (.inl k), some (.inl i), some (.inr (.inr 9)), none, none] [.inl rN] h1
    subst hrN
    refine E_s 3 (i' := 23) (ls' := [some (.inr (.inr 0)), some (.inl 0), some (.inl k), some (.inl i), some (.inr (.inr 9)), some (.inl (ptN (h 1 1))), some (.inl 0)]) (sk' := []) (h' := h1) rfl ?_
    have key23 : ∀ (n : Nat) (hh : xH) (p : Int), (0 ≤ p) → (p ≤ ptN (h 1 1)) → (∀ a, a ≠ 63 → hh a = h a) → (p < ptN (h 1 1) → PTS hh (h 1 1) p) → (∀ q, 0 ≤ q → q < p → ¬ (dmE S (h 1 1) k) q) → ((ptN (h 1 1) - p).toNat) < n → xEx G0 cdX11_mergedApart (some .int) (xRn G0 MT (d + 24)) Q 0 23 [some (.inr (.inr 0)), some (.inl 0), some (.inl k), some (.inl i), some (.inr (.inr 9)), some (.inl (ptN (h 1 1))), some (.inl p)] [] hh := by
      intro n
      induction n with
      | zero => intro hh p _ _ _ _ _ hm; exact absurd hm (Nat.not_lt_zero _)
      | succ n ih23 =>
        intro hh p hp0 hp9 hfr hpt hno hm23
        have e1 : hh 1 = h 1 := hfr _ (by decide)
        have ev : EV hh S T := EV_po hfr ev0
        refine E_s 2 (i' := 25) (ls' := [some (.inr (.inr 0)), some (.inl 0), some (.inl k), some (.inl i), some (.inr (.inr 9)), some (.inl (ptN (h 1 1))), some (.inl p)]) (sk' := [.inl (ptN (h 1 1)), .inl p]) (h' := hh) rfl ?_
        refine E_b (x := (.if_icmp .ge 62, 53, [], [])) rfl rfl (fun c25 => ?_) (fun c25 => ?_)
        · rw [c_ge (by first | assumption | (refine ⟨?_, ?_⟩ <;> omega) | (simp only [xr] at *; omega)) (by first | assumption | (refine ⟨?_, ?_⟩ <;> omega) | (simp only [xr] at *; omega))] at c25
          simp only [decide_eq_true_eq, decide_eq_false_iff_not, Decidable.not_not] at c25
          show xEx G0 cdX11_mergedApart (some .int) (xRn G0 MT (d + 24)) Q 0 53 [some (.inr (.inr 0)), some (.inl 0), some (.inl k), some (.inl i), some (.inr (.inr 9)), some (.inl (ptN (h 1 1))), some (.inl p)] [] hh
          refine E_s 1 (i' := 54) (ls' := [some (.inr (.inr 0)), some (.inl 0), some (.inl k), some (.inl i), some (.inr (.inr 9)), some (.inl (ptN (h 1 1))), some (.inl p)]) (sk' := [.inl (-100)]) (h' := hh) rfl ?_
          exact E_ret (x := (.ireturn, 0, [], [])) (v := some (.inl (-100))) rfl (Or.inl rfl) (hG ⟨qk, qi⟩ h7 (fun q z1 z2 => hno q z1 (by omega)) _ hfr)
        · rw [c_ge (by first | assumption | (refine ⟨?_, ?_⟩ <;> omega) | (simp only [xr] at *; omega)) (by first | assumption | (refine ⟨?_, ?_⟩ <;> omega) | (simp only [xr] at *; omega))] at c25
          simp only [decide_eq_true_eq, decide_eq_false_iff_not, Decidable.not_not] at c25
          show xEx G0 cdX11_mergedApart (some .int) (xRn G0 MT (d + 24)) Q 0 26 [some (.inr (.inr 0)), some (.inl 0), some (.inl k), some (.inl i), some (.inr (.inr 9)), some (.inl (ptN (h 1 1))), some (.inl p)] [] hh
          have pp := hpt (by omega)
          have pr := pt_r hm hp0 (by omega)
          have rx : ∀ i, 0 ≤ i → i ≤ 2 → xr (hh 63 i) := po_r (by rw [pp.1]; exact ⟨by omega, by omega⟩) (by rw [pp.2.1]; exact ⟨by omega, by omega⟩) (by rw [pp.2.2]; exact ⟨by omega, by omega⟩)
          refine E_s 5 (i' := 31) (ls' := [some (.inr (.inr 0)), some (.inl 0), some (.inl k), some (.inl i), some (.inr (.inr 9)), some (.inl (ptN (h 1 1))), some (.inl p)]) (sk' := [.inr (.inr 63), .inl k, .inr (.inr 9)]) (h' := hh) rfl ?_
          refine E_cp (x := (.invokevirtual 220, 2, [(1, 24), (7, 24)], [1])) (q := fun r h9 => w32 r = VE S (hh 63) k ∧ hh = h9) rfl rfl (Nat.le_of_ble_eq_true rfl) (c_comesTo (d + 12) 0 hh S k ev.1 ev.2.1 ev.2.2.1.2 qk2 rx (fun v hv => ⟨v, rfl, hv, rfl⟩)) (fun ra h9 hva => ?_)
          obtain ⟨hva, rfl⟩ := hva
          show xEx G0 cdX11_mergedApart (some .int) (xRn G0 MT (d + 24)) Q 0 32 [some (.inr (.inr 0)), some (.inl 0), some (.inl k), some (.inl i), some (.inr (.inr 9)), some (.inl (ptN (h 1 1))), some (.inl p)] [.inl ra] hh
          have ua : xr (VE S (ptX (h 1 1) p) k) := VE_r ev.2.1 (pX_r ⟨by omega, by omega⟩ ⟨by omega, by omega⟩ ⟨by omega, by omega⟩) 300 _ qk2.1 qk2.2
          refine E_ti (y := (VE S (ptX (h 1 1) p) k)) (by rw [hva, VE_p ev pp.1 pp.2.1 pp.2.2 qk2.1 qk2.2, w32_id ua]) ?_
          refine E_s 5 (i' := 37) (ls' := [some (.inr (.inr 0)), some (.inl 0), some (.inl k), some (.inl i), some (.inr (.inr 9)), some (.inl (ptN (h 1 1))), some (.inl p)]) (sk' := [.inr (.inr 63), .inl k, .inr (.inr 9), .inl (VE S (ptX (h 1 1) p) k)]) (h' := hh) rfl ?_
          refine E_cp (x := (.invokevirtual 276, 2, [(1, 25), (7, 25)], [1])) (q := fun r h9 => w32 r = fE S (hh 63) (S 8 k) (S 9 k) (S 10 k) ∧ hh = h9) rfl rfl (Nat.le_of_ble_eq_true rfl) (c_firstM (d + 12) 0 hh S k ev.1 ev.2.1 ev.2.2.1.2 qk2 h7 rx (fun v hv => ⟨v, rfl, hv, rfl⟩)) (fun rb h9 hvb => ?_)
          obtain ⟨hvb, rfl⟩ := hvb
          show xEx G0 cdX11_mergedApart (some .int) (xRn G0 MT (d + 24)) Q 0 38 [some (.inr (.inr 0)), some (.inl 0), some (.inl k), some (.inl i), some (.inr (.inr 9)), some (.inl (ptN (h 1 1))), some (.inl p)] [.inl rb, .inl (VE S (ptX (h 1 1) p) k)] hh
          obtain ⟨yz, -, cz⟩ := (ev.2.1 k qk2.1 qk2.2).2.2.2.2.2.2 h7
          have ub : xr (fE S (ptX (h 1 1) p) (S 8 k) (S 9 k) (S 10 k)) := fE_r ev.2.1 (pX_r ⟨by omega, by omega⟩ ⟨by omega, by omega⟩ ⟨by omega, by omega⟩) (Int.le_refl _) cz
          refine E_ti (y := (fE S (ptX (h 1 1) p) (S 8 k) (S 9 k) (S 10 k))) (by rw [hvb, fE_x ev.2.1 (po_x pp) (Int.le_refl _) cz, w32_id ub]) ?_
          refine E_b (x := (.if_icmp .eq 13, 45, [], [])) rfl rfl (fun c38 => ?_) (fun c38 => ?_)
          · rw [c_eq (by first | assumption | (refine ⟨?_, ?_⟩ <;> omega) | (simp only [xr] at *; omega)) (by first | assumption | (refine ⟨?_, ?_⟩ <;> omega) | (simp only [xr] at *; omega))] at c38
            simp only [decide_eq_true_eq, decide_eq_false_iff_not, Decidable.not_not] at c38
            show xEx G0 cdX11_mergedApart (some .int) (xRn G0 MT (d + 24)) Q 0 45 [some (.inr (.inr 0)), some (.inl 0), some (.inl k), some (.inl i), some (.inr (.inr 9)), some (.inl (ptN (h 1 1))), some (.inl p)] [] hh
            refine E_s 5 (i' := 50) (ls' := [some (.inr (.inr 0)), some (.inl 0), some (.inl k), some (.inl i), some (.inr (.inr 9)), some (.inl (ptN (h 1 1))), some (.inl p)]) (sk' := [.inl (hh 1 1), .inr (.inr 62)]) (h' := hh) rfl ?_
            refine E_cv (x := (.invokevirtual 279, 1, [(3, 44)], [0])) (q := fun h9 => (∀ a, a ≠ 63 → h9 a = hh a) ∧ (p + 1 < ptN (hh 1 1) → PTS h9 (hh 1 1) (p + 1))) rfl rfl (Nat.le_of_ble_eq_true rfl) (c_step (d + 23) 0 hh (hh 1 1) p (by rw [e1]; exact hm) hp0 (by rw [e1]; omega) (by rw [e1]; exact pp) (fun h9 z1 z2 => ⟨rfl, z1, z2⟩)) (fun h2 hq2 => ?_)
            obtain ⟨f2, p2⟩ := hq2
            rw [e1] at p2
            show xEx G0 cdX11_mergedApart (some .int) (xRn G0 MT (d + 24)) Q 0 51 [some (.inr (.inr 0)), some (.inl 0), some (.inl k), some (.inl i), some (.inr (.inr 9)), some (.inl (ptN (h 1 1))), some (.inl p)] [] h2
            refine E_s 2 (i' := 23) (ls' := [some (.inr (.inr 0)), some (.inl 0), some (.inl k), some (.inl i), some (.inr (.inr 9)), some (.inl (ptN (h 1 1))), some (.inl (p + 1))]) (sk' := []) (h' := h2) rfl ?_
            exact ih23 _ (p + 1) (by omega) (by omega) (fun a z => (f2 a z).trans (hfr a z)) p2 (fun q z1 z2 => by
              rcases Int.lt_or_eq_of_le (show q ≤ p by omega) with z9 | z9
              · exact hno q z1 z9
              · subst z9; exact fun y => y c38) (by omega)
          · rw [c_eq (by first | assumption | (refine ⟨?_, ?_⟩ <;> omega) | (simp only [xr] at *; omega)) (by first | assumption | (refine ⟨?_, ?_⟩ <;> omega) | (simp only [xr] at *; omega))] at c38
            simp only [decide_eq_true_eq, decide_eq_false_iff_not, Decidable.not_not] at c38
            show xEx G0 cdX11_mergedApart (some .int) (xRn G0 MT (d + 24)) Q 0 39 [some (.inr (.inr 0)), some (.inl 0), some (.inl k), some (.inl i), some (.inr (.inr 9)), some (.inl (ptN (h 1 1))), some (.inl p)] [] hh
            refine E_s 4 (i' := 43) (ls' := [some (.inr (.inr 0)), some (.inl 0), some (.inl k), some (.inl i), some (.inr (.inr 9)), some (.inl (ptN (h 1 1))), some (.inl p)]) (sk' := [.inl i, .inr (.inr 63)]) (h' := hh) rfl ?_
            refine E_ld (x := (.iaload, 0, [], [])) (ty := .int) (n := 3) rfl rfl rfl (by omega) (by omega) ?_
            show xEx G0 cdX11_mergedApart (some .int) (xRn G0 MT (d + 24)) Q 0 44 [some (.inr (.inr 0)), some (.inl 0), some (.inl k), some (.inl i), some (.inr (.inr 9)), some (.inl (ptN (h 1 1))), some (.inl p)] [.inl (hh 63 i)] hh
            exact E_ret (x := (.ireturn, 0, [], [])) (v := some (.inl (hh 63 i))) rfl (Or.inl rfl) (by
              have r9 := hF ⟨qk, qi⟩ h7 p hp0 (by omega) c38 hno _ hfr
              rw [← PTS_i pp qi.1 qi.2] at r9
              exact r9)
    exact key23 _ h1 0 (by omega) (by omega) f1 (fun _ => p1) (fun q z1 z2 => by omega) (Nat.lt_succ_self _)
  · rw [c_ne (by first | assumption | (refine ⟨?_, ?_⟩ <;> omega) | (simp only [xr] at *; omega)) (by first | assumption | (refine ⟨?_, ?_⟩ <;> omega) | (simp only [xr] at *; omega))] at c11
    simp only [decide_eq_true_eq, decide_eq_false_iff_not, Decidable.not_not] at c11
    show xEx G0 cdX11_mergedApart (some .int) (xRn G0 MT (d + 24)) Q 0 12 [some (.inr (.inr 0)), some (.inl 0), some (.inl k), some (.inl i), some (.inr (.inr 9)), none, none] [] h
    refine E_s 1 (i' := 13) (ls' := [some (.inr (.inr 0)), some (.inl 0), some (.inl k), some (.inl i), some (.inr (.inr 9)), none, none]) (sk' := [.inl (-100)]) (h' := h) rfl ?_
    exact E_ret (x := (.ireturn, 0, [], [])) (v := some (.inl (-100))) rfl (Or.inl rfl) (hZ ⟨qk, qi⟩ (by omega))
set_option maxHeartbeats 1000000 in
theorem o_mapart1 (d  : Nat) (h S T : xH) (k i : Int) (hk : xr k) (hi : xr i) (hm : 1 ≤ h 1 1 ∧ h 1 1 ≤ 3) (ev0 : EV h S T) (h7r : ∀ k, 0 ≤ k → k < T 0 0 → 0 ≤ T 7 k ∧ T 7 k ≤ 400000) (hK1 : 0 ≤ h 28 9 ∧ h 28 9 ≤ 150) {Q : xO → xH → Prop} (hN : ¬ ((0 ≤ k ∧ k < h 28 9) ∧ (0 ≤ i ∧ i ≤ 2)) → Q (.inr "java/util/NoSuchElementException") h) (hZ : ((0 ≤ k ∧ k < h 28 9) ∧ (0 ≤ i ∧ i ≤ 2)) → T 7 k = 0 → Q (.inl (some (.inl (-100)))) h) (hF : ((0 ≤ k ∧ k < h 28 9) ∧ (0 ≤ i ∧ i ≤ 2)) → T 7 k ≠ 0 → ∀ p, 0 ≤ p → p < ptN (h 1 1) → (dmU S T (h 1 1) k) p → (∀ q, 0 ≤ q → q < p → ¬ (dmU S T (h 1 1) k) q) → ∀ h', (∀ a, a ≠ 63 → h' a = h a) → Q (.inl (some (.inl (ptX (h 1 1) p i)))) h') (hG : ((0 ≤ k ∧ k < h 28 9) ∧ (0 ≤ i ∧ i ≤ 2)) → T 7 k ≠ 0 → (∀ q, 0 ≤ q → q < ptN (h 1 1) → ¬ (dmU S T (h 1 1) k) q) → ∀ h', (∀ a, a ≠ 63 → h' a = h a) → Q (.inl (some (.inl (-100)))) h') : xRn G0 MT (d + 25) 2 119 [.inr (.inr 0), .inl 1, .inl k, .inl i] h Q := by
  refine R_of (M := mX11_mergedApart) rfl (Nat.le_of_ble_eq_true rfl) ?_
  show xEx G0 cdX11_mergedApart (some .int) (xRn G0 MT (d + 24)) Q 2 0 [some (.inr (.inr 0)), some (.inl 1), some (.inl k), some (.inl i), none, none, none] [] h
  refine E_s 3 (i' := 3) (ls' := [some (.inr (.inr 0)), some (.inl 1), some (.inl k), some (.inl i), none, none, none]) (sk' := [.inl k, .inl 1, .inr (.inr 0)]) (h' := h) rfl ?_
  refine E_cx (x := (.invokevirtual 194, 2, [(9, 143)], [0])) (b1 := 1) (b2 := 1) (v := (some (.inr (.inr 28)))) (q := fun h9 => (0 ≤ k ∧ k < h 28 9) ∧ h = h9) rfl rfl (Nat.le_of_ble_eq_true rfl) (fun z => by cases z) (c_growthWith1 (d + 21) h k hk hK1 (fun z => Or.inl ⟨rfl, z, rfl⟩) (fun z => Or.inr ⟨_, rfl, hN (fun y => z y.1)⟩)) (fun h9 hq9 => ?_)
  obtain ⟨qk, rfl⟩ := hq9
  show xEx G0 cdX11_mergedApart (some .int) (xRn G0 MT (d + 24)) Q 1 4 [some (.inr (.inr 0)), some (.inl 1), some (.inl k), some (.inl i), none, none, none] [.inr (.inr 28)] h
  refine E_s 2 (i' := 6) (ls' := [some (.inr (.inr 0)), some (.inl 1), some (.inl k), some (.inl i), some (.inr (.inr 28)), none, none]) (sk' := [.inl i]) (h' := h) rfl ?_
  refine E_cx (x := (.invokestatic 270, 1, [(0, 149)], [])) (b1 := 1) (b2 := 0) (v := none) (q := fun h9 => (0 ≤ i ∧ i ≤ 2) ∧ h = h9) rfl rfl (Nat.le_of_ble_eq_true rfl) (fun z => by cases z) (c_refNoInput (d + 23) h i hi (fun z => Or.inl ⟨rfl, z, rfl⟩) (fun z => Or.inr ⟨_, rfl, hN (fun y => z y.2)⟩)) (fun h9 hq9 => ?_)
  obtain ⟨qi, rfl⟩ := hq9
  show xEx G0 cdX11_mergedApart (some .int) (xRn G0 MT (d + 24)) Q 0 7 [some (.inr (.inr 0)), some (.inl 1), some (.inl k), some (.inl i), some (.inr (.inr 28)), none, none] [] h
  have qk2 : 0 ≤ k ∧ k < T 0 0 := by rw [ev0.2.2.2.1.1] at qk; exact qk
  have e7 : h 40 k = T 7 k := (ev0.2.2.2.1.2.2.2.2.2.2.1 k qk2.1 qk2.2).2.2.2.2.2.1
  have r7 := h7r k qk2.1 qk2.2
  refine E_s 3 (i' := 10) (ls' := [some (.inr (.inr 0)), some (.inl 1), some (.inl k), some (.inl i), some (.inr (.inr 28)), none, none]) (sk' := [.inl k, .inr (.inr 40)]) (h' := h) rfl ?_
  refine E_ld (x := (.iaload, 0, [], [])) (ty := .int) (n := 150) rfl rfl rfl (by omega) (by omega) ?_
  show xEx G0 cdX11_mergedApart (some .int) (xRn G0 MT (d + 24)) Q 0 11 [some (.inr (.inr 0)), some (.inl 1), some (.inl k), some (.inl i), some (.inr (.inr 28)), none, none] [.inl (h 40 k)] h
  refine E_b (x := (.ifCond .ne 6, 14, [], [])) rfl rfl (fun c11 => ?_) (fun c11 => ?_)
  · rw [c_ne (by first | assumption | (refine ⟨?_, ?_⟩ <;> omega) | (simp only [xr] at *; omega)) (by first | assumption | (refine ⟨?_, ?_⟩ <;> omega) | (simp only [xr] at *; omega))] at c11
    simp only [decide_eq_true_eq, decide_eq_false_iff_not, Decidable.not_not] at c11
    show xEx G0 cdX11_mergedApart (some .int) (xRn G0 MT (d + 24)) Q 0 14 [some (.inr (.inr 0)), some (.inl 1), some (.inl k), some (.inl i), some (.inr (.inr 28)), none, none] [] h
    have h7 : T 7 k ≠ 0 := by omega
    refine E_s 5 (i' := 19) (ls' := [some (.inr (.inr 0)), some (.inl 1), some (.inl k), some (.inl i), some (.inr (.inr 28)), none, none]) (sk' := [.inl (h 1 1), .inr (.inr 62)]) (h' := h) rfl ?_
    refine E_cp (x := (.invokevirtual 273, 1, [(3, 43)], [0])) (q := fun r h9 => r = ptN (h 1 1) ∧ (∀ a, a ≠ 63 → h9 a = h a) ∧ PTS h9 (h 1 1) 0) rfl rfl (Nat.le_of_ble_eq_true rfl) (c_start (d + 23) 0 h (h 1 1) hm (fun h9 z1 z2 => ⟨_, rfl, rfl, z1, z2⟩)) (fun rN h1 hq => ?_)
    obtain ⟨hrN, f1, p1⟩ := hq
    have hN9 := @ptN_r (h 1 1)
    show xEx G0 cdX11_mergedApart (some .int) (xRn G0 MT (d + 24)) Q 0 20 [some (.inr (.inr 0)), some (.inl 1), some (.inl k), some (.inl i), some (.inr (.inr 28)), none, none] [.inl rN] h1
    subst hrN
    refine E_s 3 (i' := 23) (ls' := [some (.inr (.inr 0)), some (.inl 1), some (.inl k), some (.inl i), some (.inr (.inr 28)), some (.inl (ptN (h 1 1))), some (.inl 0)]) (sk' := []) (h' := h1) rfl ?_
    have key23 : ∀ (n : Nat) (hh : xH) (p : Int), (0 ≤ p) → (p ≤ ptN (h 1 1)) → (∀ a, a ≠ 63 → hh a = h a) → (p < ptN (h 1 1) → PTS hh (h 1 1) p) → (∀ q, 0 ≤ q → q < p → ¬ (dmU S T (h 1 1) k) q) → ((ptN (h 1 1) - p).toNat) < n → xEx G0 cdX11_mergedApart (some .int) (xRn G0 MT (d + 24)) Q 0 23 [some (.inr (.inr 0)), some (.inl 1), some (.inl k), some (.inl i), some (.inr (.inr 28)), some (.inl (ptN (h 1 1))), some (.inl p)] [] hh := by
      intro n
      induction n with
      | zero => intro hh p _ _ _ _ _ hm; exact absurd hm (Nat.not_lt_zero _)
      | succ n ih23 =>
        intro hh p hp0 hp9 hfr hpt hno hm23
        have e1 : hh 1 = h 1 := hfr _ (by decide)
        have ev : EV hh S T := EV_po hfr ev0
        refine E_s 2 (i' := 25) (ls' := [some (.inr (.inr 0)), some (.inl 1), some (.inl k), some (.inl i), some (.inr (.inr 28)), some (.inl (ptN (h 1 1))), some (.inl p)]) (sk' := [.inl (ptN (h 1 1)), .inl p]) (h' := hh) rfl ?_
        refine E_b (x := (.if_icmp .ge 62, 53, [], [])) rfl rfl (fun c25 => ?_) (fun c25 => ?_)
        · rw [c_ge (by first | assumption | (refine ⟨?_, ?_⟩ <;> omega) | (simp only [xr] at *; omega)) (by first | assumption | (refine ⟨?_, ?_⟩ <;> omega) | (simp only [xr] at *; omega))] at c25
          simp only [decide_eq_true_eq, decide_eq_false_iff_not, Decidable.not_not] at c25
          show xEx G0 cdX11_mergedApart (some .int) (xRn G0 MT (d + 24)) Q 0 53 [some (.inr (.inr 0)), some (.inl 1), some (.inl k), some (.inl i), some (.inr (.inr 28)), some (.inl (ptN (h 1 1))), some (.inl p)] [] hh
          refine E_s 1 (i' := 54) (ls' := [some (.inr (.inr 0)), some (.inl 1), some (.inl k), some (.inl i), some (.inr (.inr 28)), some (.inl (ptN (h 1 1))), some (.inl p)]) (sk' := [.inl (-100)]) (h' := hh) rfl ?_
          exact E_ret (x := (.ireturn, 0, [], [])) (v := some (.inl (-100))) rfl (Or.inl rfl) (hG ⟨qk, qi⟩ h7 (fun q z1 z2 => hno q z1 (by omega)) _ hfr)
        · rw [c_ge (by first | assumption | (refine ⟨?_, ?_⟩ <;> omega) | (simp only [xr] at *; omega)) (by first | assumption | (refine ⟨?_, ?_⟩ <;> omega) | (simp only [xr] at *; omega))] at c25
          simp only [decide_eq_true_eq, decide_eq_false_iff_not, Decidable.not_not] at c25
          show xEx G0 cdX11_mergedApart (some .int) (xRn G0 MT (d + 24)) Q 0 26 [some (.inr (.inr 0)), some (.inl 1), some (.inl k), some (.inl i), some (.inr (.inr 28)), some (.inl (ptN (h 1 1))), some (.inl p)] [] hh
          have pp := hpt (by omega)
          have pr := pt_r hm hp0 (by omega)
          have rx : ∀ i, 0 ≤ i → i ≤ 2 → xr (hh 63 i) := po_r (by rw [pp.1]; exact ⟨by omega, by omega⟩) (by rw [pp.2.1]; exact ⟨by omega, by omega⟩) (by rw [pp.2.2]; exact ⟨by omega, by omega⟩)
          refine E_s 5 (i' := 31) (ls' := [some (.inr (.inr 0)), some (.inl 1), some (.inl k), some (.inl i), some (.inr (.inr 28)), some (.inl (ptN (h 1 1))), some (.inl p)]) (sk' := [.inr (.inr 63), .inl k, .inr (.inr 28)]) (h' := hh) rfl ?_
          refine E_cp (x := (.invokevirtual 220, 2, [(1, 24), (7, 24)], [1])) (q := fun r h9 => w32 r = VU S T (hh 63) k ∧ hh = h9) rfl rfl (Nat.le_of_ble_eq_true rfl) (c_comesToT (d + 1) 0 hh S T k ev.1 ev.2.1 ev.2.2.1.2 ev.2.2.2.1 ev.2.2.2.2.1 ev.2.2.2.2.2.2 qk2 rx (fun v hv => ⟨v, rfl, hv, rfl⟩)) (fun ra h9 hva => ?_)
          obtain ⟨hva, rfl⟩ := hva
          show xEx G0 cdX11_mergedApart (some .int) (xRn G0 MT (d + 24)) Q 0 32 [some (.inr (.inr 0)), some (.inl 1), some (.inl k), some (.inl i), some (.inr (.inr 28)), some (.inl (ptN (h 1 1))), some (.inl p)] [.inl ra] hh
          have ua : VU S T (ptX (h 1 1) p) k = 0 ∨ VU S T (ptX (h 1 1) p) k = 1 := vU_01 S T _ 150 _
          refine E_ti (y := (VU S T (ptX (h 1 1) p) k)) (by rw [hva, VU_p ev pp.1 pp.2.1 pp.2.2 qk2.1 qk2.2, w32_id]; exact ⟨by omega, by omega⟩) ?_
          refine E_s 5 (i' := 37) (ls' := [some (.inr (.inr 0)), some (.inl 1), some (.inl k), some (.inl i), some (.inr (.inr 28)), some (.inl (ptN (h 1 1))), some (.inl p)]) (sk' := [.inr (.inr 63), .inl k, .inr (.inr 28), .inl (VU S T (ptX (h 1 1) p) k)]) (h' := hh) rfl ?_
          refine E_cp (x := (.invokevirtual 276, 2, [(1, 25), (7, 25)], [1])) (q := fun r h9 => w32 r = fU S T (hh 63) (T 8 k) (T 9 k) (T 10 k) ∧ hh = h9) rfl rfl (Nat.le_of_ble_eq_true rfl) (c_firstMT (d + 1) 0 hh S T k ev.1 ev.2.1 ev.2.2.1.2 ev.2.2.2.1 ev.2.2.2.2.1 ev.2.2.2.2.2.2 qk2 h7 rx (fun v hv => ⟨v, rfl, hv, rfl⟩)) (fun rb h9 hvb => ?_)
          obtain ⟨hvb, rfl⟩ := hvb
          show xEx G0 cdX11_mergedApart (some .int) (xRn G0 MT (d + 24)) Q 0 38 [some (.inr (.inr 0)), some (.inl 1), some (.inl k), some (.inl i), some (.inr (.inr 28)), some (.inl (ptN (h 1 1))), some (.inl p)] [.inl rb, .inl (VU S T (ptX (h 1 1) p) k)] hh
          have ub := fU_01 S T (ptX (h 1 1) p) (T 8 k) (T 9 k) (T 10 k)
          obtain ⟨yz, -, cz⟩ := (ev.2.2.2.2.1 k qk2.1 qk2.2).2.2.2.2.2 h7
          refine E_ti (y := (fU S T (ptX (h 1 1) p) (T 8 k) (T 9 k) (T 10 k))) (by rw [hvb, fU_x ev.2.1 ev.2.2.2.2.1 (po_x pp) (Int.le_refl _) cz, w32_id]; exact ⟨by omega, by omega⟩) ?_
          refine E_b (x := (.if_icmp .eq 13, 45, [], [])) rfl rfl (fun c38 => ?_) (fun c38 => ?_)
          · rw [c_eq (by first | assumption | (refine ⟨?_, ?_⟩ <;> omega) | (simp only [xr] at *; omega)) (by first | assumption | (refine ⟨?_, ?_⟩ <;> omega) | (simp only [xr] at *; omega))] at c38
            simp only [decide_eq_true_eq, decide_eq_false_iff_not, Decidable.not_not] at c38
            show xEx G0 cdX11_mergedApart (some .int) (xRn G0 MT (d + 24)) Q 0 45 [some (.inr (.inr 0)), some (.inl 1), some (.inl k), some (.inl i), some (.inr (.inr 28)), some (.inl (ptN (h 1 1))), some (.inl p)] [] hh
            refine E_s 5 (i' := 50) (ls' := [some (.inr (.inr 0)), some (.inl 1), some (.inl k), some (.inl i), some (.inr (.inr 28)), some (.inl (ptN (h 1 1))), some (.inl p)]) (sk' := [.inl (hh 1 1), .inr (.inr 62)]) (h' := hh) rfl ?_
            refine E_cv (x := (.invokevirtual 279, 1, [(3, 44)], [0])) (q := fun h9 => (∀ a, a ≠ 63 → h9 a = hh a) ∧ (p + 1 < ptN (hh 1 1) → PTS h9 (hh 1 1) (p + 1))) rfl rfl (Nat.le_of_ble_eq_true rfl) (c_step (d + 23) 0 hh (hh 1 1) p (by rw [e1]; exact hm) hp0 (by rw [e1]; omega) (by rw [e1]; exact pp) (fun h9 z1 z2 => ⟨rfl, z1, z2⟩)) (fun h2 hq2 => ?_)
            obtain ⟨f2, p2⟩ := hq2
            rw [e1] at p2
            show xEx G0 cdX11_mergedApart (some .int) (xRn G0 MT (d + 24)) Q 0 51 [some (.inr (.inr 0)), some (.inl 1), some (.inl k), some (.inl i), some (.inr (.inr 28)), some (.inl (ptN (h 1 1))), some (.inl p)] [] h2
            refine E_s 2 (i' := 23) (ls' := [some (.inr (.inr 0)), some (.inl 1), some (.inl k), some (.inl i), some (.inr (.inr 28)), some (.inl (ptN (h 1 1))), some (.inl (p + 1))]) (sk' := []) (h' := h2) rfl ?_
            exact ih23 _ (p + 1) (by omega) (by omega) (fun a z => (f2 a z).trans (hfr a z)) p2 (fun q z1 z2 => by
              rcases Int.lt_or_eq_of_le (show q ≤ p by omega) with z9 | z9
              · exact hno q z1 z9
              · subst z9; exact fun y => y c38) (by omega)
          · rw [c_eq (by first | assumption | (refine ⟨?_, ?_⟩ <;> omega) | (simp only [xr] at *; omega)) (by first | assumption | (refine ⟨?_, ?_⟩ <;> omega) | (simp only [xr] at *; omega))] at c38
            simp only [decide_eq_true_eq, decide_eq_false_iff_not, Decidable.not_not] at c38
            show xEx G0 cdX11_mergedApart (some .int) (xRn G0 MT (d + 24)) Q 0 39 [some (.inr (.inr 0)), some (.inl 1), some (.inl k), some (.inl i), some (.inr (.inr 28)), some (.inl (ptN (h 1 1))), some (.inl p)] [] hh
            refine E_s 4 (i' := 43) (ls' := [some (.inr (.inr 0)), some (.inl 1), some (.inl k), some (.inl i), some (.inr (.inr 28)), some (.inl (ptN (h 1 1))), some (.inl p)]) (sk' := [.inl i, .inr (.inr 63)]) (h' := hh) rfl ?_
            refine E_ld (x := (.iaload, 0, [], [])) (ty := .int) (n := 3) rfl rfl rfl (by omega) (by omega) ?_
            show xEx G0 cdX11_mergedApart (some .int) (xRn G0 MT (d + 24)) Q 0 44 [some (.inr (.inr 0)), some (.inl 1), some (.inl k), some (.inl i), some (.inr (.inr 28)), some (.inl (ptN (h 1 1))), some (.inl p)] [.inl (hh 63 i)] hh
            exact E_ret (x := (.ireturn, 0, [], [])) (v := some (.inl (hh 63 i))) rfl (Or.inl rfl) (by
              have r9 := hF ⟨qk, qi⟩ h7 p hp0 (by omega) c38 hno _ hfr
              rw [← PTS_i pp qi.1 qi.2] at r9
              exact r9)
    exact key23 _ h1 0 (by omega) (by omega) f1 (fun _ => p1) (fun q z1 z2 => by omega) (Nat.lt_succ_self _)
  · rw [c_ne (by first | assumption | (refine ⟨?_, ?_⟩ <;> omega) | (simp only [xr] at *; omega)) (by first | assumption | (refine ⟨?_, ?_⟩ <;> omega) | (simp only [xr] at *; omega))] at c11
    simp only [decide_eq_true_eq, decide_eq_false_iff_not, Decidable.not_not] at c11
    show xEx G0 cdX11_mergedApart (some .int) (xRn G0 MT (d + 24)) Q 0 12 [some (.inr (.inr 0)), some (.inl 1), some (.inl k), some (.inl i), some (.inr (.inr 28)), none, none] [] h
    refine E_s 1 (i' := 13) (ls' := [some (.inr (.inr 0)), some (.inl 1), some (.inl k), some (.inl i), some (.inr (.inr 28)), none, none]) (sk' := [.inl (-100)]) (h' := h) rfl ?_
    exact E_ret (x := (.ireturn, 0, [], [])) (v := some (.inl (-100))) rfl (Or.inl rfl) (hZ ⟨qk, qi⟩ (by omega))
