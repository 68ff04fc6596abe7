def TN (g : xH) (as le : Int → Int) : Prop := ∀ n, 1 ≤ n → n < 16 → g 105 n = as (n - 1) ∧ g 106 n = le (n - 1)
theorem TN_of {g g' : xH} {as le : Int → Int} (e1 : g' 105 = g 105) (e2 : g' 106 = g 106) (t : TN g as le) : TN g' as le := fun n z1 z2 => by rw [e1, e2]; exact t n z1 z2
def NA (le : Int → Int) (m q : Int) : Prop := ∀ j, 0 ≤ j → j + 1 < m → ¬ le j = le q
theorem NA_1 {le : Int → Int} {m q : Int} (h : NA le m q) (z : ¬ le (m - 1) = le q) : NA le (m + 1) q := fun j z1 z2 => by
  by_cases e : j = m - 1
  · rw [e]; exact z
  · exact h j z1 (by omega)
theorem NA_2 {le : Int → Int} {m q : Int} (h : ¬ NA le m q) : ¬ NA le (m + 1) q := fun y => h (fun j z1 z2 => y j z1 (by omega))
theorem NA_3 {le : Int → Int} {m q : Int} (h : 1 ≤ m) (z : le (m - 1) = le q) : ¬ NA le (m + 1) q := fun y => y (m - 1) (by omega) (by omega) z
set_option maxHeartbeats 1000000 in
theorem m_comesNow (d b : Nat) (h S T : xH) (as le X : Int → Int) (h3 : 0 ≤ S 0 0 ∧ S 0 0 ≤ 300) (h4 : 0 ≤ T 0 0 ∧ T 0 0 ≤ 150)  (hV : ∀ k, 0 ≤ k → k < S 0 0 → h 94 k = VE S X k) (hH : ∀ t, 0 ≤ t → t < T 0 0 → h 95 t = VU S T X t) (tn : TN h as le) (hr : ∀ nd, 0 ≤ nd → nd < 15 → -1 ≤ as nd ∧ as nd < T 0 0 ∧ -1 ≤ le nd ∧ le nd < S 0 0) (tr : TRp as le S T 3 0) {Q : xO → xH → Prop} (hQ : Q (.inl (some (.inl (VE S X (le (wlk as (VU S T X) 3 0)))))) h) : xRn G0 MT (d + 1) b 241 [.inr (.inr 66)] h Q := by
  refine R_of (M := mX12_comesNow) rfl (Nat.le_of_ble_eq_true rfl) ?_
  show xEx G0 cdX12_comesNow (some .int) (xRn G0 MT d) Q b 0 [some (.inr (.inr 66)), none] [] h
  refine E_s 2 (i' := 2) (ls' := [some (.inr (.inr 66)), some (.inl 1)]) (sk' := []) (h' := h) rfl ?_
  have key2 : ∀ (n : Nat) (st nn : Int), (0 ≤ st) → (st ≤ 3) → (1 ≤ nn) → ((st = 0 ∧ nn ≤ 1) ∨ (st = 1 ∧ nn ≤ 3) ∨ (st = 2 ∧ nn ≤ 7) ∨ (st = 3 ∧ nn ≤ 15)) → (TRp as le S T (3 - st).toNat (nn - 1)) → (wlk as (VU S T X) (3 - st).toNat (nn - 1) = wlk as (VU S T X) 3 0) → ((4 - st).toNat) < n → xEx G0 cdX12_comesNow (some .int) (xRn G0 MT d) Q b 2 [some (.inr (.inr 66)), some (.inl nn)] [] h := by
    intro n
    induction n with
    | zero => intro st nn _ _ _ _ _ _ hm; exact absurd hm (Nat.not_lt_zero _)
    | succ n ih2 =>
      intro st nn hs0 hs9 hn0 hn9 htr hwl hm2
      obtain ⟨g1, g2⟩ := tn nn hn0 (by omega)
      have hrn := hr (nn - 1) (by omega) (by omega)
      refine E_s 3 (i' := 5) (ls' := [some (.inr (.inr 66)), some (.inl nn)]) (sk' := [.inl nn, .inr (.inr 105)]) (h' := h) rfl ?_
      refine E_ld (x := (.iaload, 0, [], [])) (ty := .int) (n := 32) rfl rfl rfl (by omega) (by omega) ?_
      show xEx G0 cdX12_comesNow (some .int) (xRn G0 MT d) Q b 6 [some (.inr (.inr 66)), some (.inl nn)] [.inl (h 105 nn)] h
      refine E_s 1 (i' := 7) (ls' := [some (.inr (.inr 66)), some (.inl nn)]) (sk' := [.inl (-1), .inl (h 105 nn)]) (h' := h) rfl ?_
      refine E_b (x := (.if_icmp .eq 24, 23, [], [])) rfl rfl (fun c7 => ?_) (fun c7 => ?_)
      · rw [c_eq (by first | assumption | (refine ⟨?_, ?_⟩ <;> omega) | (simp only [xr] at *; omega)) (by first | assumption | (refine ⟨?_, ?_⟩ <;> omega) | (simp only [xr] at *; omega))] at c7
        simp only [decide_eq_true_eq, decide_eq_false_iff_not, Decidable.not_not] at c7
        show xEx G0 cdX12_comesNow (some .int) (xRn G0 MT d) Q b 23 [some (.inr (.inr 66)), some (.inl nn)] [] h
        have ha : as (nn - 1) = -1 := by rw [← g1]; exact c7
        have hl := TR_e htr ha
        have hw9 := hwl
        rw [wlk_e ha] at hw9
        refine E_s 5 (i' := 28) (ls' := [some (.inr (.inr 66)), some (.inl nn)]) (sk' := [.inl nn, .inr (.inr 106), .inr (.inr 94)]) (h' := h) rfl ?_
        refine E_ld (x := (.iaload, 0, [], [])) (ty := .int) (n := 32) rfl rfl rfl (by omega) (by omega) ?_
        show xEx G0 cdX12_comesNow (some .int) (xRn G0 MT d) Q b 29 [some (.inr (.inr 66)), some (.inl nn)] [.inl (h 106 nn), .inr (.inr 94)] h
        refine E_ld (x := (.iaload, 0, [], [])) (ty := .int) (n := 300) rfl rfl rfl (by rw [g2]; omega) (by rw [g2]; omega) ?_
        show xEx G0 cdX12_comesNow (some .int) (xRn G0 MT d) Q b 30 [some (.inr (.inr 66)), some (.inl nn)] [.inl (h 94 (h 106 nn))] h
        exact E_ret (x := (.ireturn, 0, [], [])) (v := some (.inl (h 94 (h 106 nn)))) rfl (Or.inl rfl) (by
          have e9 := hV _ hl.1 hl.2
          rw [← g2] at e9
          rw [← hw9, ← g2, ← e9] at hQ
          exact hQ)
      · rw [c_eq (by first | assumption | (refine ⟨?_, ?_⟩ <;> omega) | (simp only [xr] at *; omega)) (by first | assumption | (refine ⟨?_, ?_⟩ <;> omega) | (simp only [xr] at *; omega))] at c7
        simp only [decide_eq_true_eq, decide_eq_false_iff_not, Decidable.not_not] at c7
        show xEx G0 cdX12_comesNow (some .int) (xRn G0 MT d) Q b 8 [some (.inr (.inr 66)), some (.inl nn)] [] h
        have na : ¬ as (nn - 1) = -1 := by rw [← g1]; exact c7
        have s3 : st < 3 := by
          rcases Int.lt_or_eq_of_le hs9 with z9 | z9
          · exact z9
          · exact absurd (TR_3 htr z9) na
        have tt := TR_s htr hs0 s3 na
        have u1 : h 95 (h 105 nn) = VU S T X (as (nn - 1)) := by rw [g1]; exact hH _ tt.1 tt.2.1
        have u9 : VU S T X (as (nn - 1)) = 0 ∨ VU S T X (as (nn - 1)) = 1 := vU_01 S T _ 150 _
        have u0 : h 95 (h 105 nn) = 0 ∨ h 95 (h 105 nn) = 1 := by rw [u1]; exact u9
        refine E_s 10 (i' := 18) (ls' := [some (.inr (.inr 66)), some (.inl nn)]) (sk' := [.inl nn, .inr (.inr 105), .inr (.inr 95), .inl ((2 * nn) + 1)]) (h' := h) rfl ?_
        refine E_ld (x := (.iaload, 0, [], [])) (ty := .int) (n := 32) rfl rfl rfl (by omega) (by omega) ?_
        show xEx G0 cdX12_comesNow (some .int) (xRn G0 MT d) Q b 19 [some (.inr (.inr 66)), some (.inl nn)] [.inl (h 105 nn), .inr (.inr 95), .inl ((2 * nn) + 1)] h
        refine E_ld (x := (.iaload, 0, [], [])) (ty := .int) (n := 150) rfl rfl rfl (by omega) (by omega) ?_
        show xEx G0 cdX12_comesNow (some .int) (xRn G0 MT d) Q b 20 [some (.inr (.inr 66)), some (.inl nn)] [.inl (h 95 (h 105 nn)), .inl ((2 * nn) + 1)] h
        refine E_s 3 (i' := 2) (ls' := [some (.inr (.inr 66)), some (.inl (((2 * nn) + 1) - (h 95 (h 105 nn))))]) (sk' := []) (h' := h) rfl ?_
        exact ih2 (st + 1) (((2 * nn) + 1) - (h 95 (h 105 nn))) (by omega) (by omega) (by omega) (by omega) (by
          rcases u0 with z9 | z9
          · rw [show (((2 * nn) + 1) - (h 95 (h 105 nn))) - 1 = 2 * (nn - 1) + 2 by omega]; exact tt.2.2.2.2
          · rw [show (((2 * nn) + 1) - (h 95 (h 105 nn))) - 1 = 2 * (nn - 1) + 1 by omega]; exact tt.2.2.2.1) (by
          rcases u0 with z9 | z9
          · rw [show (((2 * nn) + 1) - (h 95 (h 105 nn))) - 1 = 2 * (nn - 1) + 2 by omega]; exact (wlk_2 hs0 s3 na (by rw [← u1, z9]; decide)).symm.trans hwl
          · rw [show (((2 * nn) + 1) - (h 95 (h 105 nn))) - 1 = 2 * (nn - 1) + 1 by omega]; exact (wlk_1 hs0 s3 na (by rw [← u1, z9])).symm.trans hwl) (by omega)
  exact key2 _ 0 1 (by omega) (by omega) (by omega) (by omega) tr rfl (Nat.lt_succ_self _)
set_option maxHeartbeats 1000000 in
theorem m_comes (d b : Nat) (h S T : xH) (as le : Int → Int) (x y z n0 : Int) (wt : Int → Int) (hx : xr x) (hy : xr y) (hz : xr z) (hm : 1 ≤ h 66 1 ∧ h 66 1 ≤ 3)  (hR : RR h S) (hRT : RRT h T) (hF : FW n0 wt 9 S) (hT : FWT S 7 T) (h3 : 0 ≤ S 0 0 ∧ S 0 0 ≤ 300) (h4 : 0 ≤ T 0 0 ∧ T 0 0 ≤ 150)  (hs : h 66 50 = 0 ∨ h 66 50 = 1) (tn : h 66 50 = 1 → TN h as le) (hr : h 66 50 = 1 → ∀ nd, 0 ≤ nd → nd < 15 → -1 ≤ as nd ∧ as nd < T 0 0 ∧ -1 ≤ le nd ∧ le nd < S 0 0) (tr : h 66 50 = 1 → TRp as le S T 3 0) {Q : xO → xH → Prop} (hN : ¬ (h 66 50 = 1) → Q (.inl (some (.inl (0)))) (xup h 66 0 1)) (hA : (h 66 50 = 1) → ¬ (inOk (h 66 1) x y z) → Q (.inl (some (.inl (0)))) (xup h 66 0 2)) (hO : (h 66 50 = 1) → inOk (h 66 1) x y z → ∀ h', (∀ a, a ≠ 94 → a ≠ 95 → h' a = (xup h 66 0 0) a) → Q (.inl (some (.inl (VE S (pX x y z) (le (wlk as (VU S T (pX x y z)) 3 0)))))) h') : xRn G0 MT (d + 6) b 242 [.inr (.inr 66), .inl x, .inl y, .inl z] h Q := by
  refine R_of (M := mX12_comes) rfl (Nat.le_of_ble_eq_true rfl) ?_
  show xEx G0 cdX12_comes (some .int) (xRn G0 MT (d + 5)) Q b 0 [some (.inr (.inr 66)), some (.inl x), some (.inl y), some (.inl z)] [] h
  refine E_s 3 (i' := 3) (ls' := [some (.inr (.inr 66)), some (.inl x), some (.inl y), some (.inl z)]) (sk' := [.inl (h 66 50), .inr (.inr 66)]) (h' := h) rfl ?_
  refine E_b (x := (.ifCond .ne 7, 6, [], [])) rfl rfl (fun c3 => ?_) (fun c3 => ?_)
  · rw [c_ne (by first | assumption | (refine ⟨?_, ?_⟩ <;> omega) | (simp only [xr] at *; omega)) (by first | assumption | (refine ⟨?_, ?_⟩ <;> omega) | (simp only [xr] at *; omega))] at c3
    simp only [decide_eq_true_eq, decide_eq_false_iff_not, Decidable.not_not] at c3
    show xEx G0 cdX12_comes (some .int) (xRn G0 MT (d + 5)) Q b 6 [some (.inr (.inr 66)), some (.inl x), some (.inl y), some (.inl z)] [.inr (.inr 66)] h
    refine E_s 4 (i' := 10) (ls' := [some (.inr (.inr 66)), some (.inl x), some (.inl y), some (.inl z)]) (sk' := [.inl z, .inl y, .inl x, .inr (.inr 66), .inr (.inr 66)]) (h' := h) rfl ?_
    refine E_cp (x := (.invokevirtual 187, 3, [(10, 159)], [0])) (q := fun r2 h9 => ((r2 = 1 ∧ (inOk (h 66 1) x y z)) ∨ (r2 = 0 ∧ ¬ (inOk (h 66 1) x y z))) ∧ h = h9) rfl rfl (Nat.le_of_ble_eq_true rfl) (m_areInputs (d + 3) 0 h x y z hm hx hy hz (fun z => ⟨_, rfl, Or.inl ⟨rfl, z⟩, rfl⟩) (fun z => ⟨_, rfl, Or.inr ⟨rfl, z⟩, rfl⟩)) (fun r2 h9 q2 => ?_)
    obtain ⟨q2, rfl⟩ := q2
    show xEx G0 cdX12_comes (some .int) (xRn G0 MT (d + 5)) Q b 11 [some (.inr (.inr 66)), some (.inl x), some (.inl y), some (.inl z)] [.inl r2, .inr (.inr 66)] h
    refine E_b (x := (.ifCond .ne 7, 14, [], [])) rfl rfl (fun c11 => ?_) (fun c11 => ?_)
    · rw [c_ne (by first | assumption | (refine ⟨?_, ?_⟩ <;> omega) | (simp only [xr] at *; omega)) (by first | assumption | (refine ⟨?_, ?_⟩ <;> omega) | (simp only [xr] at *; omega))] at c11
      simp only [decide_eq_true_eq, decide_eq_false_iff_not, Decidable.not_not] at c11
      show xEx G0 cdX12_comes (some .int) (xRn G0 MT (d + 5)) Q b 14 [some (.inr (.inr 66)), some (.inl x), some (.inl y), some (.inl z)] [.inr (.inr 66)] h
      refine E_s 4 (i' := 18) (ls' := [some (.inr (.inr 66)), some (.inl x), some (.inl y), some (.inl z)]) (sk' := [.inl 0]) (h' := (xup h 66 0 0)) rfl ?_
      refine E_b (x := (.ifCond .le 5, 21, [], [])) rfl rfl (fun c18 => ?_) (fun c18 => ?_)
      · show xEx G0 cdX12_comes (some .int) (xRn G0 MT (d + 5)) Q b 21 [some (.inr (.inr 66)), some (.inl x), some (.inl y), some (.inl z)] [] (xup h 66 0 0)
        have qs : h 66 50 = 1 := by omega
        refine E_s 4 (i' := 25) (ls' := [some (.inr (.inr 66)), some (.inl x), some (.inl y), some (.inl z)]) (sk' := [.inl z, .inl y, .inl x, .inr (.inr 66)]) (h' := (xup h 66 0 0)) rfl ?_
        refine E_cv (x := (.invokevirtual 309, 3, [(10, 198)], [0])) (q := fun h9 => (∀ a, a ≠ 94 → a ≠ 95 → h9 a = (xup h 66 0 0) a) ∧ (∀ k, 0 ≤ k → k < S 0 0 → h9 94 k = VE S (pX x y z) k) ∧ (∀ t, 0 ≤ t → t < T 0 0 → h9 95 t = VU S T (pX x y z) t)) rfl rfl (Nat.le_of_ble_eq_true rfl) (m_reckons (d + 1) 0 (xup h 66 0 0) S T x y z n0 wt hx hy hz (RR_vh0 hR) (RRT_vh0 hRT) hF hT h3 h4 (fun h9 z1 z2 z3 => ⟨rfl, z1, z2, z3⟩)) (fun h1 hq => ?_)
        obtain ⟨f1, f2, f3⟩ := hq
        have tn1 : TN h1 as le := TN_of (f1 _ (by decide) (by decide)) (f1 _ (by decide) (by decide)) (tn qs)
        show xEx G0 cdX12_comes (some .int) (xRn G0 MT (d + 5)) Q b 26 [some (.inr (.inr 66)), some (.inl x), some (.inl y), some (.inl z)] [] h1
        refine E_s 1 (i' := 27) (ls' := [some (.inr (.inr 66)), some (.inl x), some (.inl y), some (.inl z)]) (sk' := [.inr (.inr 66)]) (h' := h1) rfl ?_
        refine E_ci (x := (.invokevirtual 418, 0, [(10, 241)], [0])) (r := (VE S (pX x y z) (le (wlk as (VU S T (pX x y z)) 3 0)))) (h' := h1) rfl rfl (Nat.le_of_ble_eq_true rfl) (m_comesNow (d + 4) 0 h1 S T as le (pX x y z) h3 h4 f2 f3 tn1 (hr qs) (tr qs) ⟨rfl, rfl⟩) ?_
        show xEx G0 cdX12_comes (some .int) (xRn G0 MT (d + 5)) Q b 28 [some (.inr (.inr 66)), some (.inl x), some (.inl y), some (.inl z)] [.inl (VE S (pX x y z) (le (wlk as (VU S T (pX x y z)) 3 0)))] h1
        exact E_ret (x := (.ireturn, 0, [], [])) (v := some (.inl (VE S (pX x y z) (le (wlk as (VU S T (pX x y z)) 3 0))))) rfl (Or.inl rfl) (hO qs (o1 q2 c11) h1 f1)
      · show xEx G0 cdX12_comes (some .int) (xRn G0 MT (d + 5)) Q b 19 [some (.inr (.inr 66)), some (.inl x), some (.inl y), some (.inl z)] [] (xup h 66 0 0)
        exact absurd c18 (by decide)
    · rw [c_ne (by first | assumption | (refine ⟨?_, ?_⟩ <;> omega) | (simp only [xr] at *; omega)) (by first | assumption | (refine ⟨?_, ?_⟩ <;> omega) | (simp only [xr] at *; omega))] at c11
      simp only [decide_eq_true_eq, decide_eq_false_iff_not, Decidable.not_not] at c11
      show xEx G0 cdX12_comes (some .int) (xRn G0 MT (d + 5)) Q b 12 [some (.inr (.inr 66)), some (.inl x), some (.inl y), some (.inl z)] [.inr (.inr 66)] h
      refine E_s 5 (i' := 18) (ls' := [some (.inr (.inr 66)), some (.inl x), some (.inl y), some (.inl z)]) (sk' := [.inl 2]) (h' := (xup h 66 0 2)) rfl ?_
      refine E_b (x := (.ifCond .le 5, 21, [], [])) rfl rfl (fun c18 => ?_) (fun c18 => ?_)
      · show xEx G0 cdX12_comes (some .int) (xRn G0 MT (d + 5)) Q b 21 [some (.inr (.inr 66)), some (.inl x), some (.inl y), some (.inl z)] [] (xup h 66 0 2)
        exact absurd c18 (by decide)
      · show xEx G0 cdX12_comes (some .int) (xRn G0 MT (d + 5)) Q b 19 [some (.inr (.inr 66)), some (.inl x), some (.inl y), some (.inl z)] [] (xup h 66 0 2)
        refine E_s 1 (i' := 20) (ls' := [some (.inr (.inr 66)), some (.inl x), some (.inl y), some (.inl z)]) (sk' := [.inl 0]) (h' := (xup h 66 0 2)) rfl ?_
        exact E_ret (x := (.ireturn, 0, [], [])) (v := some (.inl 0)) rfl (Or.inl rfl) (hA (by omega) (o0 q2 (by omega)))
  · rw [c_ne (by first | assumption | (refine ⟨?_, ?_⟩ <;> omega) | (simp only [xr] at *; omega)) (by first | assumption | (refine ⟨?_, ?_⟩ <;> omega) | (simp only [xr] at *; omega))] at c3
    simp only [decide_eq_true_eq, decide_eq_false_iff_not, Decidable.not_not] at c3
    show xEx G0 cdX12_comes (some .int) (xRn G0 MT (d + 5)) Q b 4 [some (.inr (.inr 66)), some (.inl x), some (.inl y), some (.inl z)] [.inr (.inr 66)] h
    refine E_s 5 (i' := 18) (ls' := [some (.inr (.inr 66)), some (.inl x), some (.inl y), some (.inl z)]) (sk' := [.inl 1]) (h' := (xup h 66 0 1)) rfl ?_
    refine E_b (x := (.ifCond .le 5, 21, [], [])) rfl rfl (fun c18 => ?_) (fun c18 => ?_)
    · show xEx G0 cdX12_comes (some .int) (xRn G0 MT (d + 5)) Q b 21 [some (.inr (.inr 66)), some (.inl x), some (.inl y), some (.inl z)] [] (xup h 66 0 1)
      exact absurd c18 (by decide)
    · show xEx G0 cdX12_comes (some .int) (xRn G0 MT (d + 5)) Q b 19 [some (.inr (.inr 66)), some (.inl x), some (.inl y), some (.inl z)] [] (xup h 66 0 1)
      refine E_s 1 (i' := 20) (ls' := [some (.inr (.inr 66)), some (.inl x), some (.inl y), some (.inl z)]) (sk' := [.inl 0]) (h' := (xup h 66 0 1)) rfl ?_
      exact E_ret (x := (.ireturn, 0, [], [])) (v := some (.inl 0)) rfl (Or.inl rfl) (hN (fun z9 => by omega))
set_option maxHeartbeats 1000000 in
theorem m_way (d b : Nat) (h S T : xH) (as le : Int → Int) (x y z k n0 : Int) (wt : Int → Int) (hx : xr x) (hy : xr y) (hz : xr z) (hk : xr k) (hm : 1 ≤ h 66 1 ∧ h 66 1 ≤ 3)  (hR : RR h S) (hRT : RRT h T) (hF : FW n0 wt 9 S) (hT : FWT S 7 T) (h3 : 0 ≤ S 0 0 ∧ S 0 0 ≤ 300) (h4 : 0 ≤ T 0 0 ∧ T 0 0 ≤ 150)  (hs : h 66 50 = 0 ∨ h 66 50 = 1) (tn : h 66 50 = 1 → TN h as le) (hr : h 66 50 = 1 → ∀ nd, 0 ≤ nd → nd < 15 → -1 ≤ as nd ∧ as nd < T 0 0 ∧ -1 ≤ le nd ∧ le nd < S 0 0) (tr : h 66 50 = 1 → TRp as le S T 3 0) {Q : xO → xH → Prop} (hN : ¬ (h 66 50 = 1) → Q (.inl (some (.inl (0)))) (xup h 66 0 1)) (hA : (h 66 50 = 1) → ¬ (inOk (h 66 1) x y z) → Q (.inl (some (.inl (0)))) (xup h 66 0 2)) (hO : (h 66 50 = 1) → inOk (h 66 1) x y z → ∀ h', (∀ a, a ≠ 94 → a ≠ 95 → h' a = (xup h 66 0 0) a) → Q (.inl (some (.inl (wak as (VU S T (pX x y z)) 3 0 k)))) h') : xRn G0 MT (d + 6) b 238 [.inr (.inr 66), .inl x, .inl y, .inl z, .inl k] h Q := by
  refine R_of (M := mX12_way) rfl (Nat.le_of_ble_eq_true rfl) ?_
  show xEx G0 cdX12_way (some .int) (xRn G0 MT (d + 5)) Q b 0 [some (.inr (.inr 66)), some (.inl x), some (.inl y), some (.inl z), some (.inl k), none, none] [] h
  refine E_s 3 (i' := 3) (ls' := [some (.inr (.inr 66)), some (.inl x), some (.inl y), some (.inl z), some (.inl k), none, none]) (sk' := [.inl (h 66 50), .inr (.inr 66)]) (h' := h) rfl ?_
  refine E_b (x := (.ifCond .ne 7, 6, [], [])) rfl rfl (fun c3 => ?_) (fun c3 => ?_)
  · rw [c_ne (by first | assumption | (refine ⟨?_, ?_⟩ <;> omega) | (simp only [xr] at *; omega)) (by first | assumption | (refine ⟨?_, ?_⟩ <;> omega) | (simp only [xr] at *; omega))] at c3
    simp only [decide_eq_true_eq, decide_eq_false_iff_not, Decidable.not_not] at c3
    show xEx G0 cdX12_way (some .int) (xRn G0 MT (d + 5)) Q b 6 [some (.inr (.inr 66)), some (.inl x), some (.inl y), some (.inl z), some (.inl k), none, none] [.inr (.inr 66)] h
    refine E_s 4 (i' := 10) (ls' := [some (.inr (.inr 66)), some (.inl x), some (.inl y), some (.inl z), some (.inl k), none, none]) (sk' := [.inl z, .inl y, .inl x, .inr (.inr 66), .inr (.inr 66)]) (h' := h) rfl ?_
    refine E_cp (x := (.invokevirtual 187, 3, [(10, 159)], [0])) (q := fun r2 h9 => ((r2 = 1 ∧ (inOk (h 66 1) x y z)) ∨ (r2 = 0 ∧ ¬ (inOk (h 66 1) x y z))) ∧ h = h9) rfl rfl (Nat.le_of_ble_eq_true rfl) (m_areInputs (d + 3) 0 h x y z hm hx hy hz (fun z => ⟨_, rfl, Or.inl ⟨rfl, z⟩, rfl⟩) (fun z => ⟨_, rfl, Or.inr ⟨rfl, z⟩, rfl⟩)) (fun r2 h9 q2 => ?_)
    obtain ⟨q2, rfl⟩ := q2
    show xEx G0 cdX12_way (some .int) (xRn G0 MT (d + 5)) Q b 11 [some (.inr (.inr 66)), some (.inl x), some (.inl y), some (.inl z), some (.inl k), none, none] [.inl r2, .inr (.inr 66)] h
    refine E_b (x := (.ifCond .ne 7, 14, [], [])) rfl rfl (fun c11 => ?_) (fun c11 => ?_)
    · rw [c_ne (by first | assumption | (refine ⟨?_, ?_⟩ <;> omega) | (simp only [xr] at *; omega)) (by first | assumption | (refine ⟨?_, ?_⟩ <;> omega) | (simp only [xr] at *; omega))] at c11
      simp only [decide_eq_true_eq, decide_eq_false_iff_not, Decidable.not_not] at c11
      show xEx G0 cdX12_way (some .int) (xRn G0 MT (d + 5)) Q b 14 [some (.inr (.inr 66)), some (.inl x), some (.inl y), some (.inl z), some (.inl k), none, none] [.inr (.inr 66)] h
      refine E_s 4 (i' := 18) (ls' := [some (.inr (.inr 66)), some (.inl x), some (.inl y), some (.inl z), some (.inl k), none, none]) (sk' := [.inl 0]) (h' := (xup h 66 0 0)) rfl ?_
      refine E_b (x := (.ifCond .le 5, 21, [], [])) rfl rfl (fun c18 => ?_) (fun c18 => ?_)
      · show xEx G0 cdX12_way (some .int) (xRn G0 MT (d + 5)) Q b 21 [some (.inr (.inr 66)), some (.inl x), some (.inl y), some (.inl z), some (.inl k), none, none] [] (xup h 66 0 0)
        have qs : h 66 50 = 1 := by omega
        refine E_s 4 (i' := 25) (ls' := [some (.inr (.inr 66)), some (.inl x), some (.inl y), some (.inl z), some (.inl k), none, none]) (sk' := [.inl z, .inl y, .inl x, .inr (.inr 66)]) (h' := (xup h 66 0 0)) rfl ?_
        refine E_cv (x := (.invokevirtual 309, 3, [(10, 198)], [0])) (q := fun h9 => (∀ a, a ≠ 94 → a ≠ 95 → h9 a = (xup h 66 0 0) a) ∧ (∀ k, 0 ≤ k → k < S 0 0 → h9 94 k = VE S (pX x y z) k) ∧ (∀ t, 0 ≤ t → t < T 0 0 → h9 95 t = VU S T (pX x y z) t)) rfl rfl (Nat.le_of_ble_eq_true rfl) (m_reckons (d + 1) 0 (xup h 66 0 0) S T x y z n0 wt hx hy hz (RR_vh0 hR) (RRT_vh0 hRT) hF hT h3 h4 (fun h9 z1 z2 z3 => ⟨rfl, z1, z2, z3⟩)) (fun h1 hq => ?_)
        obtain ⟨f1, f2, f3⟩ := hq
        have tn1 : TN h1 as le := TN_of (f1 _ (by decide) (by decide)) (f1 _ (by decide) (by decide)) (tn qs)
        show xEx G0 cdX12_way (some .int) (xRn G0 MT (d + 5)) Q b 26 [some (.inr (.inr 66)), some (.inl x), some (.inl y), some (.inl z), some (.inl k), none, none] [] h1
        refine E_s 4 (i' := 30) (ls' := [some (.inr (.inr 66)), some (.inl x), some (.inl y), some (.inl z), some (.inl k), some (.inl 1), some (.inl 0)]) (sk' := []) (h' := h1) rfl ?_
        have key30 : ∀ (n : Nat) (st nn : Int), (0 ≤ st) → (st ≤ 3) → (1 ≤ nn) → ((st = 0 ∧ nn ≤ 1) ∨ (st = 1 ∧ nn ≤ 3) ∨ (st = 2 ∧ nn ≤ 7) ∨ (st = 3 ∧ nn ≤ 15)) → (TRp as le S T (3 - st).toNat (nn - 1)) → (wak as (VU S T (pX x y z)) (3 - st).toNat (nn - 1) (k - st) = wak as (VU S T (pX x y z)) 3 0 k) → ((4 - st).toNat) < n → xEx G0 cdX12_way (some .int) (xRn G0 MT (d + 5)) Q b 30 [some (.inr (.inr 66)), some (.inl x), some (.inl y), some (.inl z), some (.inl k), some (.inl nn), some (.inl st)] [] h1 := by
          intro n
          induction n with
          | zero => intro st nn _ _ _ _ _ _ hm; exact absurd hm (Nat.not_lt_zero _)
          | succ n ih30 =>
            intro st nn hs0 hs9 hn0 hn9 htr hwl hm30
            obtain ⟨g1, g2⟩ := tn1 nn hn0 (by omega)
            have hrn := hr qs (nn - 1) (by omega) (by omega)
            refine E_s 3 (i' := 33) (ls' := [some (.inr (.inr 66)), some (.inl x), some (.inl y), some (.inl z), some (.inl k), some (.inl nn), some (.inl st)]) (sk' := [.inl nn, .inr (.inr 105)]) (h' := h1) rfl ?_
            refine E_ld (x := (.iaload, 0, [], [])) (ty := .int) (n := 32) rfl rfl rfl (by omega) (by omega) ?_
            show xEx G0 cdX12_way (some .int) (xRn G0 MT (d + 5)) Q b 34 [some (.inr (.inr 66)), some (.inl x), some (.inl y), some (.inl z), some (.inl k), some (.inl nn), some (.inl st)] [.inl (h1 105 nn)] h1
            refine E_s 1 (i' := 35) (ls' := [some (.inr (.inr 66)), some (.inl x), some (.inl y), some (.inl z), some (.inl k), some (.inl nn), some (.inl st)]) (sk' := [.inl (-1), .inl (h1 105 nn)]) (h' := h1) rfl ?_
            refine E_b (x := (.if_icmp .eq 60, 70, [], [])) rfl rfl (fun c35 => ?_) (fun c35 => ?_)
            · rw [c_eq (by first | assumption | (refine ⟨?_, ?_⟩ <;> omega) | (simp only [xr] at *; omega)) (by first | assumption | (refine ⟨?_, ?_⟩ <;> omega) | (simp only [xr] at *; omega))] at c35
              simp only [decide_eq_true_eq, decide_eq_false_iff_not, Decidable.not_not] at c35
              show xEx G0 cdX12_way (some .int) (xRn G0 MT (d + 5)) Q b 70 [some (.inr (.inr 66)), some (.inl x), some (.inl y), some (.inl z), some (.inl k), some (.inl nn), some (.inl st)] [] h1
              have ha : as (nn - 1) = -1 := by rw [← g1]; exact c35
              rw [wak_e ha] at hwl
              refine E_s 1 (i' := 71) (ls' := [some (.inr (.inr 66)), some (.inl x), some (.inl y), some (.inl z), some (.inl k), some (.inl nn), some (.inl st)]) (sk' := [.inl (-1)]) (h' := h1) rfl ?_
              exact E_ret (x := (.ireturn, 0, [], [])) (v := some (.inl (-1))) rfl (Or.inl rfl) (by
                rw [hwl]
                exact hO qs (o1 q2 c11) h1 f1)
            · rw [c_eq (by first | assumption | (refine ⟨?_, ?_⟩ <;> omega) | (simp only [xr] at *; omega)) (by first | assumption | (refine ⟨?_, ?_⟩ <;> omega) | (simp only [xr] at *; omega))] at c35
              simp only [decide_eq_true_eq, decide_eq_false_iff_not, Decidable.not_not] at c35
              show xEx G0 cdX12_way (some .int) (xRn G0 MT (d + 5)) Q b 36 [some (.inr (.inr 66)), some (.inl x), some (.inl y), some (.inl z), some (.inl k), some (.inl nn), some (.inl st)] [] h1
              have na : ¬ as (nn - 1) = -1 := by rw [← g1]; exact c35
              have s3 : st < 3 := by
                rcases Int.lt_or_eq_of_le hs9 with z9 | z9
                · exact z9
                · exact absurd (TR_3 htr z9) na
              have tt := TR_s htr hs0 s3 na
              have u1 : h1 95 (h1 105 nn) = VU S T (pX x y z) (as (nn - 1)) := by rw [g1]; exact f3 _ tt.1 tt.2.1
              have u9 : VU S T (pX x y z) (as (nn - 1)) = 0 ∨ VU S T (pX x y z) (as (nn - 1)) = 1 := vU_01 S T _ 150 _
              have u0 : h1 95 (h1 105 nn) = 0 ∨ h1 95 (h1 105 nn) = 1 := by rw [u1]; exact u9
              refine E_s 2 (i' := 38) (ls' := [some (.inr (.inr 66)), some (.inl x), some (.inl y), some (.inl z), some (.inl k), some (.inl nn), some (.inl st)]) (sk' := [.inl k, .inl st]) (h' := h1) rfl ?_
              refine E_b (x := (.if_icmp .ne 26, 54, [], [])) rfl rfl (fun c38 => ?_) (fun c38 => ?_)
              · rw [c_ne (by first | assumption | (refine ⟨?_, ?_⟩ <;> omega) | (simp only [xr] at *; omega)) (by first | assumption | (refine ⟨?_, ?_⟩ <;> omega) | (simp only [xr] at *; omega))] at c38
                simp only [decide_eq_true_eq, decide_eq_false_iff_not, Decidable.not_not] at c38
                show xEx G0 cdX12_way (some .int) (xRn G0 MT (d + 5)) Q b 54 [some (.inr (.inr 66)), some (.inl x), some (.inl y), some (.inl z), some (.inl k), some (.inl nn), some (.inl st)] [] h1
                refine E_s 10 (i' := 64) (ls' := [some (.inr (.inr 66)), some (.inl x), some (.inl y), some (.inl z), some (.inl k), some (.inl nn), some (.inl st)]) (sk' := [.inl nn, .inr (.inr 105), .inr (.inr 95), .inl ((2 * nn) + 1)]) (h' := h1) rfl ?_
                refine E_ld (x := (.iaload, 0, [], [])) (ty := .int) (n := 32) rfl rfl rfl (by omega) (by omega) ?_
                show xEx G0 cdX12_way (some .int) (xRn G0 MT (d + 5)) Q b 65 [some (.inr (.inr 66)), some (.inl x), some (.inl y), some (.inl z), some (.inl k), some (.inl nn), some (.inl st)] [.inl (h1 105 nn), .inr (.inr 95), .inl ((2 * nn) + 1)] h1
                refine E_ld (x := (.iaload, 0, [], [])) (ty := .int) (n := 150) rfl rfl rfl (by rw [g1]; omega) (by rw [g1]; omega) ?_
                show xEx G0 cdX12_way (some .int) (xRn G0 MT (d + 5)) Q b 66 [some (.inr (.inr 66)), some (.inl x), some (.inl y), some (.inl z), some (.inl k), some (.inl nn), some (.inl st)] [.inl (h1 95 (h1 105 nn)), .inl ((2 * nn) + 1)] h1
                refine E_s 4 (i' := 30) (ls' := [some (.inr (.inr 66)), some (.inl x), some (.inl y), some (.inl z), some (.inl k), some (.inl (((2 * nn) + 1) - (h1 95 (h1 105 nn)))), some (.inl (st + 1))]) (sk' := []) (h' := h1) rfl ?_
                exact ih30 (st + 1) (((2 * nn) + 1) - (h1 95 (h1 105 nn))) (by omega) (by omega) (by omega) (by omega) (by
                  rcases u0 with z9 | z9
                  · rw [show (((2 * nn) + 1) - (h1 95 (h1 105 nn))) - 1 = 2 * (nn - 1) + 2 by omega]; exact tt.2.2.2.2
                  · rw [show (((2 * nn) + 1) - (h1 95 (h1 105 nn))) - 1 = 2 * (nn - 1) + 1 by omega]; exact tt.2.2.2.1) (by
                  rcases u0 with z9 | z9
                  · rw [show (((2 * nn) + 1) - (h1 95 (h1 105 nn))) - 1 = 2 * (nn - 1) + 2 by omega]; exact (wak_2 hs0 s3 na (by omega) (by rw [← u1, z9]; decide)).symm.trans hwl
                  · rw [show (((2 * nn) + 1) - (h1 95 (h1 105 nn))) - 1 = 2 * (nn - 1) + 1 by omega]; exact (wak_1 hs0 s3 na (by omega) (by rw [← u1, z9])).symm.trans hwl) (by omega)
              · rw [c_ne (by first | assumption | (refine ⟨?_, ?_⟩ <;> omega) | (simp only [xr] at *; omega)) (by first | assumption | (refine ⟨?_, ?_⟩ <;> omega) | (simp only [xr] at *; omega))] at c38
                simp only [decide_eq_true_eq, decide_eq_false_iff_not, Decidable.not_not] at c38
                show xEx G0 cdX12_way (some .int) (xRn G0 MT (d + 5)) Q b 39 [some (.inr (.inr 66)), some (.inl x), some (.inl y), some (.inl z), some (.inl k), some (.inl nn), some (.inl st)] [] h1
                refine E_s 4 (i' := 43) (ls' := [some (.inr (.inr 66)), some (.inl x), some (.inl y), some (.inl z), some (.inl k), some (.inl nn), some (.inl st)]) (sk' := [.inl nn, .inr (.inr 105), .inl 2]) (h' := h1) rfl ?_
                refine E_ld (x := (.iaload, 0, [], [])) (ty := .int) (n := 32) rfl rfl rfl (by omega) (by omega) ?_
                show xEx G0 cdX12_way (some .int) (xRn G0 MT (d + 5)) Q b 44 [some (.inr (.inr 66)), some (.inl x), some (.inl y), some (.inl z), some (.inl k), some (.inl nn), some (.inl st)] [.inl (h1 105 nn), .inl 2] h1
                refine E_s 6 (i' := 50) (ls' := [some (.inr (.inr 66)), some (.inl x), some (.inl y), some (.inl z), some (.inl k), some (.inl nn), some (.inl st)]) (sk' := [.inl nn, .inr (.inr 105), .inr (.inr 95), .inl (2 * (h1 105 nn))]) (h' := h1) rfl ?_
                refine E_ld (x := (.iaload, 0, [], [])) (ty := .int) (n := 32) rfl rfl rfl (by omega) (by omega) ?_
                show xEx G0 cdX12_way (some .int) (xRn G0 MT (d + 5)) Q b 51 [some (.inr (.inr 66)), some (.inl x), some (.inl y), some (.inl z), some (.inl k), some (.inl nn), some (.inl st)] [.inl (h1 105 nn), .inr (.inr 95), .inl (2 * (h1 105 nn))] h1
                refine E_ld (x := (.iaload, 0, [], [])) (ty := .int) (n := 150) rfl rfl rfl (by rw [g1]; omega) (by rw [g1]; omega) ?_
                show xEx G0 cdX12_way (some .int) (xRn G0 MT (d + 5)) Q b 52 [some (.inr (.inr 66)), some (.inl x), some (.inl y), some (.inl z), some (.inl k), some (.inl nn), some (.inl st)] [.inl (h1 95 (h1 105 nn)), .inl (2 * (h1 105 nn))] h1
                refine E_s 1 (i' := 53) (ls' := [some (.inr (.inr 66)), some (.inl x), some (.inl y), some (.inl z), some (.inl k), some (.inl nn), some (.inl st)]) (sk' := [.inl ((2 * (h1 105 nn)) + (h1 95 (h1 105 nn)))]) (h' := h1) rfl ?_
                exact E_ret (x := (.ireturn, 0, [], [])) (v := some (.inl ((2 * (h1 105 nn)) + (h1 95 (h1 105 nn))))) rfl (Or.inl rfl) (by
                  have r9 := hO qs (o1 q2 c11) h1 f1
                  rw [← hwl, wak_k hs0 s3 na (by omega), ← u1, ← g1] at r9
                  exact r9)
        exact key30 _ 0 1 (by omega) (by omega) (by omega) (by omega) (tr qs) (congrArg (wak as (VU S T (pX x y z)) 3 0) (Int.sub_zero k)) (Nat.lt_succ_self _)
      · show xEx G0 cdX12_way (some .int) (xRn G0 MT (d + 5)) Q b 19 [some (.inr (.inr 66)), some (.inl x), some (.inl y), some (.inl z), some (.inl k), none, none] [] (xup h 66 0 0)
        exact absurd c18 (by decide)
    · rw [c_ne (by first | assumption | (refine ⟨?_, ?_⟩ <;> omega) | (simp only [xr] at *; omega)) (by first | assumption | (refine ⟨?_, ?_⟩ <;> omega) | (simp only [xr] at *; omega))] at c11
      simp only [decide_eq_true_eq, decide_eq_false_iff_not, Decidable.not_not] at c11
      show xEx G0 cdX12_way (some .int) (xRn G0 MT (d + 5)) Q b 12 [some (.inr (.inr 66)), some (.inl x), some (.inl y), some (.inl z), some (.inl k), none, none] [.inr (.inr 66)] h
      refine E_s 5 (i' := 18) (ls' := [some (.inr (.inr 66)), some (.inl x), some (.inl y), some (.inl z), some (.inl k), none, none]) (sk' := [.inl 2]) (h' := (xup h 66 0 2)) rfl ?_
      refine E_b (x := (.ifCond .le 5, 21, [], [])) rfl rfl (fun c18 => ?_) (fun c18 => ?_)
      · show xEx G0 cdX12_way (some .int) (xRn G0 MT (d + 5)) Q b 21 [some (.inr (.inr 66)), some (.inl x), some (.inl y), some (.inl z), some (.inl k), none, none] [] (xup h 66 0 2)
        exact absurd c18 (by decide)
      · show xEx G0 cdX12_way (some .int) (xRn G0 MT (d + 5)) Q b 19 [some (.inr (.inr 66)), some (.inl x), some (.inl y), some (.inl z), some (.inl k), none, none] [] (xup h 66 0 2)
        refine E_s 1 (i' := 20) (ls' := [some (.inr (.inr 66)), some (.inl x), some (.inl y), some (.inl z), some (.inl k), none, none]) (sk' := [.inl 0]) (h' := (xup h 66 0 2)) rfl ?_
        exact E_ret (x := (.ireturn, 0, [], [])) (v := some (.inl 0)) rfl (Or.inl rfl) (hA (by omega) (o0 q2 (by omega)))
  · rw [c_ne (by first | assumption | (refine ⟨?_, ?_⟩ <;> omega) | (simp only [xr] at *; omega)) (by first | assumption | (refine ⟨?_, ?_⟩ <;> omega) | (simp only [xr] at *; omega))] at c3
    simp only [decide_eq_true_eq, decide_eq_false_iff_not, Decidable.not_not] at c3
    show xEx G0 cdX12_way (some .int) (xRn G0 MT (d + 5)) Q b 4 [some (.inr (.inr 66)), some (.inl x), some (.inl y), some (.inl z), some (.inl k), none, none] [.inr (.inr 66)] h
    refine E_s 5 (i' := 18) (ls' := [some (.inr (.inr 66)), some (.inl x), some (.inl y), some (.inl z), some (.inl k), none, none]) (sk' := [.inl 1]) (h' := (xup h 66 0 1)) rfl ?_
    refine E_b (x := (.ifCond .le 5, 21, [], [])) rfl rfl (fun c18 => ?_) (fun c18 => ?_)
    · show xEx G0 cdX12_way (some .int) (xRn G0 MT (d + 5)) Q b 21 [some (.inr (.inr 66)), some (.inl x), some (.inl y), some (.inl z), some (.inl k), none, none] [] (xup h 66 0 1)
      exact absurd c18 (by decide)
    · show xEx G0 cdX12_way (some .int) (xRn G0 MT (d + 5)) Q b 19 [some (.inr (.inr 66)), some (.inl x), some (.inl y), some (.inl z), some (.inl k), none, none] [] (xup h 66 0 1)
      refine E_s 1 (i' := 20) (ls' := [some (.inr (.inr 66)), some (.inl x), some (.inl y), some (.inl z), some (.inl k), none, none]) (sk' := [.inl 0]) (h' := (xup h 66 0 1)) rfl ?_
      exact E_ret (x := (.ireturn, 0, [], [])) (v := some (.inl 0)) rfl (Or.inl rfl) (hN (fun z9 => by omega))
set_option maxHeartbeats 1000000 in
theorem m_leaf (d b : Nat) (h S T : xH) (as le : Int → Int) (e : Int) (he : xr e) (hn : 0 ≤ h 66 4 ∧ h 66 4 ≤ 12) (hRT : RRT h T) (hb6 : ∀ t, 0 ≤ t → t < T 0 0 → 0 ≤ T 6 t ∧ T 6 t < 4096) (h3 : 0 ≤ S 0 0 ∧ S 0 0 ≤ 300) (h4 : 0 ≤ T 0 0 ∧ T 0 0 ≤ 150)  (hs : h 66 50 = 0 ∨ h 66 50 = 1) (tn : h 66 50 = 1 → TN h as le) (hr : h 66 50 = 1 → ∀ nd, 0 ≤ nd → nd < 15 → -1 ≤ as nd ∧ as nd < T 0 0 ∧ -1 ≤ le nd ∧ le nd < S 0 0) (tr : h 66 50 = 1 → TRp as le S T 3 0) {Q : xO → xH → Prop} (hN : ¬ (h 66 50 = 1) → Q (.inl (some (.inl (0)))) (xup h 66 0 1)) (hA : (h 66 50 = 1) → ¬ (0 ≤ e ∧ e < h 66 4) → Q (.inl (some (.inl (0)))) (xup h 66 0 2)) (hO : (h 66 50 = 1) → (0 ≤ e ∧ e < h 66 4) → Q (.inl (some (.inl (le (wlk as (fun t => xand (xshr (T 6 t) e) 1) 3 0))))) (xup h 66 0 0)) : xRn G0 MT (d + 4) b 244 [.inr (.inr 66), .inl e] h Q := by
  refine R_of (M := mX12_leaf) rfl (Nat.le_of_ble_eq_true rfl) ?_
  show xEx G0 cdX12_leaf (some .int) (xRn G0 MT (d + 3)) Q b 0 [some (.inr (.inr 66)), some (.inl e), none] [] h
  refine E_s 3 (i' := 3) (ls' := [some (.inr (.inr 66)), some (.inl e), none]) (sk' := [.inl (h 66 50), .inr (.inr 66)]) (h' := h) rfl ?_
  refine E_b (x := (.ifCond .ne 7, 6, [], [])) rfl rfl (fun c3 => ?_) (fun c3 => ?_)
  · rw [c_ne (by first | assumption | (refine ⟨?_, ?_⟩ <;> omega) | (simp only [xr] at *; omega)) (by first | assumption | (refine ⟨?_, ?_⟩ <;> omega) | (simp only [xr] at *; omega))] at c3
    simp only [decide_eq_true_eq, decide_eq_false_iff_not, Decidable.not_not] at c3
    show xEx G0 cdX12_leaf (some .int) (xRn G0 MT (d + 3)) Q b 6 [some (.inr (.inr 66)), some (.inl e), none] [.inr (.inr 66)] h
    refine E_s 2 (i' := 8) (ls' := [some (.inr (.inr 66)), some (.inl e), none]) (sk' := [.inl e, .inr (.inr 66), .inr (.inr 66)]) (h' := h) rfl ?_
    refine E_cp (x := (.invokevirtual 193, 1, [(10, 162)], [0])) (q := fun r2 h9 => ((r2 = 1 ∧ (0 ≤ e ∧ e < h 66 4)) ∨ (r2 = 0 ∧ ¬ (0 ≤ e ∧ e < h 66 4))) ∧ h = h9) rfl rfl (Nat.le_of_ble_eq_true rfl) (m_isExample (d + 1) 0 h e he hn (fun z => ⟨_, rfl, Or.inl ⟨rfl, z⟩, rfl⟩) (fun z => ⟨_, rfl, Or.inr ⟨rfl, z⟩, rfl⟩)) (fun r2 h9 q2 => ?_)
    obtain ⟨q2, rfl⟩ := q2
    show xEx G0 cdX12_leaf (some .int) (xRn G0 MT (d + 3)) Q b 9 [some (.inr (.inr 66)), some (.inl e), none] [.inl r2, .inr (.inr 66)] h
    refine E_b (x := (.ifCond .ne 7, 12, [], [])) rfl rfl (fun c9 => ?_) (fun c9 => ?_)
    · rw [c_ne (by first | assumption | (refine ⟨?_, ?_⟩ <;> omega) | (simp only [xr] at *; omega)) (by first | assumption | (refine ⟨?_, ?_⟩ <;> omega) | (simp only [xr] at *; omega))] at c9
      simp only [decide_eq_true_eq, decide_eq_false_iff_not, Decidable.not_not] at c9
      show xEx G0 cdX12_leaf (some .int) (xRn G0 MT (d + 3)) Q b 12 [some (.inr (.inr 66)), some (.inl e), none] [.inr (.inr 66)] h
      refine E_s 4 (i' := 16) (ls' := [some (.inr (.inr 66)), some (.inl e), none]) (sk' := [.inl 0]) (h' := (xup h 66 0 0)) rfl ?_
      refine E_b (x := (.ifCond .le 5, 19, [], [])) rfl rfl (fun c16 => ?_) (fun c16 => ?_)
      · show xEx G0 cdX12_leaf (some .int) (xRn G0 MT (d + 3)) Q b 19 [some (.inr (.inr 66)), some (.inl e), none] [] (xup h 66 0 0)
        have qs : h 66 50 = 1 := by omega
        have qe := o1 q2 c9
        refine E_s 2 (i' := 21) (ls' := [some (.inr (.inr 66)), some (.inl e), some (.inl 1)]) (sk' := []) (h' := (xup h 66 0 0)) rfl ?_
        have key21 : ∀ (n : Nat) (st nn : Int), (0 ≤ st) → (st ≤ 3) → (1 ≤ nn) → ((st = 0 ∧ nn ≤ 1) ∨ (st = 1 ∧ nn ≤ 3) ∨ (st = 2 ∧ nn ≤ 7) ∨ (st = 3 ∧ nn ≤ 15)) → (TRp as le S T (3 - st).toNat (nn - 1)) → (wlk as (fun t => xand (xshr (T 6 t) e) 1) (3 - st).toNat (nn - 1) = wlk as (fun t => xand (xshr (T 6 t) e) 1) 3 0) → ((4 - st).toNat) < n → xEx G0 cdX12_leaf (some .int) (xRn G0 MT (d + 3)) Q b 21 [some (.inr (.inr 66)), some (.inl e), some (.inl nn)] [] (xup h 66 0 0) := by
          intro n
          induction n with
          | zero => intro st nn _ _ _ _ _ _ hm; exact absurd hm (Nat.not_lt_zero _)
          | succ n ih21 =>
            intro st nn hs0 hs9 hn0 hn9 htr hwl hm21
            obtain ⟨g1, g2⟩ := tn qs nn hn0 (by omega)
            have hrn := hr qs (nn - 1) (by omega) (by omega)
            refine E_s 3 (i' := 24) (ls' := [some (.inr (.inr 66)), some (.inl e), some (.inl nn)]) (sk' := [.inl nn, .inr (.inr 105)]) (h' := (xup h 66 0 0)) rfl ?_
            refine E_ld (x := (.iaload, 0, [], [])) (ty := .int) (n := 32) rfl rfl rfl (by omega) (by omega) ?_
            show xEx G0 cdX12_leaf (some .int) (xRn G0 MT (d + 3)) Q b 25 [some (.inr (.inr 66)), some (.inl e), some (.inl nn)] [.inl (h 105 nn)] (xup h 66 0 0)
            refine E_s 1 (i' := 26) (ls' := [some (.inr (.inr 66)), some (.inl e), some (.inl nn)]) (sk' := [.inl (-1), .inl (h 105 nn)]) (h' := (xup h 66 0 0)) rfl ?_
            refine E_b (x := (.if_icmp .eq 28, 46, [], [])) rfl rfl (fun c26 => ?_) (fun c26 => ?_)
            · rw [c_eq (by first | assumption | (refine ⟨?_, ?_⟩ <;> omega) | (simp only [xr] at *; omega)) (by first | assumption | (refine ⟨?_, ?_⟩ <;> omega) | (simp only [xr] at *; omega))] at c26
              simp only [decide_eq_true_eq, decide_eq_false_iff_not, Decidable.not_not] at c26
              show xEx G0 cdX12_leaf (some .int) (xRn G0 MT (d + 3)) Q b 46 [some (.inr (.inr 66)), some (.inl e), some (.inl nn)] [] (xup h 66 0 0)
              have ha : as (nn - 1) = -1 := by rw [← g1]; exact c26
              have hw9 := hwl
              rw [wlk_e ha] at hw9
              refine E_s 3 (i' := 49) (ls' := [some (.inr (.inr 66)), some (.inl e), some (.inl nn)]) (sk' := [.inl nn, .inr (.inr 106)]) (h' := (xup h 66 0 0)) rfl ?_
              refine E_ld (x := (.iaload, 0, [], [])) (ty := .int) (n := 32) rfl rfl rfl (by omega) (by omega) ?_
              show xEx G0 cdX12_leaf (some .int) (xRn G0 MT (d + 3)) Q b 50 [some (.inr (.inr 66)), some (.inl e), some (.inl nn)] [.inl (h 106 nn)] (xup h 66 0 0)
              exact E_ret (x := (.ireturn, 0, [], [])) (v := some (.inl (h 106 nn))) rfl (Or.inl rfl) (by
                have r9 := hO qs qe
                rw [← hw9, ← g2] at r9
                exact r9)
            · rw [c_eq (by first | assumption | (refine ⟨?_, ?_⟩ <;> omega) | (simp only [xr] at *; omega)) (by first | assumption | (refine ⟨?_, ?_⟩ <;> omega) | (simp only [xr] at *; omega))] at c26
              simp only [decide_eq_true_eq, decide_eq_false_iff_not, Decidable.not_not] at c26
              show xEx G0 cdX12_leaf (some .int) (xRn G0 MT (d + 3)) Q b 27 [some (.inr (.inr 66)), some (.inl e), some (.inl nn)] [] (xup h 66 0 0)
              have na : ¬ as (nn - 1) = -1 := by rw [← g1]; exact c26
              have s3 : st < 3 := by
                rcases Int.lt_or_eq_of_le hs9 with z9 | z9
                · exact z9
                · exact absurd (TR_3 htr z9) na
              have tt := TR_s htr hs0 s3 na
              have t6 : h 87 (as (nn - 1)) = T 6 (as (nn - 1)) := (hRT.2.2.2 _ tt.1 tt.2.1).2.2.2.2.1
              have b6 := hb6 _ tt.1 tt.2.1
              have u1 : xand (xshr (h 87 (h 105 nn)) e) 1 = xand (xshr (T 6 (as (nn - 1))) e) 1 := by rw [g1, t6]
              have u9 : xand (xshr (T 6 (as (nn - 1))) e) 1 = 0 ∨ xand (xshr (T 6 (as (nn - 1))) e) 1 = 1 := by
                have e9 := n_shr1 (a := (T 6 (as (nn - 1))).toNat) (e := e) (by omega) qe.1 (by omega)
                rw [Int.toNat_of_nonneg b6.1] at e9
                rw [e9]
                split
                · exact Or.inr rfl
                · exact Or.inl rfl
              have u0 : xand (xshr (h 87 (h 105 nn)) e) 1 = 0 ∨ xand (xshr (h 87 (h 105 nn)) e) 1 = 1 := by rw [u1]; exact u9
              refine E_s 10 (i' := 37) (ls' := [some (.inr (.inr 66)), some (.inl e), some (.inl nn)]) (sk' := [.inl nn, .inr (.inr 105), .inr (.inr 87), .inl ((2 * nn) + 1)]) (h' := (xup h 66 0 0)) rfl ?_
              refine E_ld (x := (.iaload, 0, [], [])) (ty := .int) (n := 32) rfl rfl rfl (by omega) (by omega) ?_
              show xEx G0 cdX12_leaf (some .int) (xRn G0 MT (d + 3)) Q b 38 [some (.inr (.inr 66)), some (.inl e), some (.inl nn)] [.inl (h 105 nn), .inr (.inr 87), .inl ((2 * nn) + 1)] (xup h 66 0 0)
              refine E_ld (x := (.iaload, 0, [], [])) (ty := .int) (n := 150) rfl rfl rfl (by rw [g1]; omega) (by rw [g1]; omega) ?_
              show xEx G0 cdX12_leaf (some .int) (xRn G0 MT (d + 3)) Q b 39 [some (.inr (.inr 66)), some (.inl e), some (.inl nn)] [.inl (h 87 (h 105 nn)), .inl ((2 * nn) + 1)] (xup h 66 0 0)
              refine E_s 7 (i' := 21) (ls' := [some (.inr (.inr 66)), some (.inl e), some (.inl (((2 * nn) + 1) - (xand (xshr (h 87 (h 105 nn)) e) 1)))]) (sk' := []) (h' := (xup h 66 0 0)) rfl ?_
              exact ih21 (st + 1) (((2 * nn) + 1) - (xand (xshr (h 87 (h 105 nn)) e) 1)) (by omega) (by omega) (by omega) (by omega) (by
                rcases u0 with z9 | z9
                · rw [show (((2 * nn) + 1) - (xand (xshr (h 87 (h 105 nn)) e) 1)) - 1 = 2 * (nn - 1) + 2 by omega]; exact tt.2.2.2.2
                · rw [show (((2 * nn) + 1) - (xand (xshr (h 87 (h 105 nn)) e) 1)) - 1 = 2 * (nn - 1) + 1 by omega]; exact tt.2.2.2.1) (by
                rcases u0 with z9 | z9
                · rw [show (((2 * nn) + 1) - (xand (xshr (h 87 (h 105 nn)) e) 1)) - 1 = 2 * (nn - 1) + 2 by omega]; exact (wlk_2 hs0 s3 na (show ¬ xand (xshr (T 6 (as (nn - 1))) e) 1 = 1 by rw [← u1, z9]; decide)).symm.trans hwl
                · rw [show (((2 * nn) + 1) - (xand (xshr (h 87 (h 105 nn)) e) 1)) - 1 = 2 * (nn - 1) + 1 by omega]; exact (wlk_1 hs0 s3 na (show xand (xshr (T 6 (as (nn - 1))) e) 1 = 1 by rw [← u1, z9])).symm.trans hwl) (by omega)
        exact key21 _ 0 1 (by omega) (by omega) (by omega) (by omega) (tr qs) rfl (Nat.lt_succ_self _)
      · show xEx G0 cdX12_leaf (some .int) (xRn G0 MT (d + 3)) Q b 17 [some (.inr (.inr 66)), some (.inl e), none] [] (xup h 66 0 0)
        exact absurd c16 (by decide)
    · rw [c_ne (by first | assumption | (refine ⟨?_, ?_⟩ <;> omega) | (simp only [xr] at *; omega)) (by first | assumption | (refine ⟨?_, ?_⟩ <;> omega) | (simp only [xr] at *; omega))] at c9
      simp only [decide_eq_true_eq, decide_eq_false_iff_not, Decidable.not_not] at c9
      show xEx G0 cdX12_leaf (some .int) (xRn G0 MT (d + 3)) Q b 10 [some (.inr (.inr 66)), some (.inl e), none] [.inr (.inr 66)] h
      refine E_s 5 (i' := 16) (ls' := [some (.inr (.inr 66)), some (.inl e), none]) (sk' := [.inl 2]) (h' := (xup h 66 0 2)) rfl ?_
      refine E_b (x := (.ifCond .le 5, 19, [], [])) rfl rfl (fun c16 => ?_) (fun c16 => ?_)
      · show xEx G0 cdX12_leaf (some .int) (xRn G0 MT (d + 3)) Q b 19 [some (.inr (.inr 66)), some (.inl e), none] [] (xup h 66 0 2)
        exact absurd c16 (by decide)
      · show xEx G0 cdX12_leaf (some .int) (xRn G0 MT (d + 3)) Q b 17 [some (.inr (.inr 66)), some (.inl e), none] [] (xup h 66 0 2)
        refine E_s 1 (i' := 18) (ls' := [some (.inr (.inr 66)), some (.inl e), none]) (sk' := [.inl 0]) (h' := (xup h 66 0 2)) rfl ?_
        exact E_ret (x := (.ireturn, 0, [], [])) (v := some (.inl 0)) rfl (Or.inl rfl) (hA (by omega) (o0 q2 (by omega)))
  · rw [c_ne (by first | assumption | (refine ⟨?_, ?_⟩ <;> omega) | (simp only [xr] at *; omega)) (by first | assumption | (refine ⟨?_, ?_⟩ <;> omega) | (simp only [xr] at *; omega))] at c3
    simp only [decide_eq_true_eq, decide_eq_false_iff_not, Decidable.not_not] at c3
    show xEx G0 cdX12_leaf (some .int) (xRn G0 MT (d + 3)) Q b 4 [some (.inr (.inr 66)), some (.inl e), none] [.inr (.inr 66)] h
    refine E_s 5 (i' := 16) (ls' := [some (.inr (.inr 66)), some (.inl e), none]) (sk' := [.inl 1]) (h' := (xup h 66 0 1)) rfl ?_
    refine E_b (x := (.ifCond .le 5, 19, [], [])) rfl rfl (fun c16 => ?_) (fun c16 => ?_)
    · show xEx G0 cdX12_leaf (some .int) (xRn G0 MT (d + 3)) Q b 19 [some (.inr (.inr 66)), some (.inl e), none] [] (xup h 66 0 1)
      exact absurd c16 (by decide)
    · show xEx G0 cdX12_leaf (some .int) (xRn G0 MT (d + 3)) Q b 17 [some (.inr (.inr 66)), some (.inl e), none] [] (xup h 66 0 1)
      refine E_s 1 (i' := 18) (ls' := [some (.inr (.inr 66)), some (.inl e), none]) (sk' := [.inl 0]) (h' := (xup h 66 0 1)) rfl ?_
      exact E_ret (x := (.ireturn, 0, [], [])) (v := some (.inl 0)) rfl (Or.inl rfl) (hN (fun z9 => by omega))
set_option maxHeartbeats 1000000 in
theorem m_solvedUses (d b : Nat) (h S T : xH) (as le : Int → Int) (p n0 : Int) (wt : Int → Int) (hp : xr p) (hR : RR h S) (hRT : RRT h T) (hF : FW n0 wt 9 S) (hT : FWT S 7 T) (h3 : 0 ≤ S 0 0 ∧ S 0 0 ≤ 300) (h4 : 0 ≤ T 0 0 ∧ T 0 0 ≤ 150)  (hs : h 66 50 = 0 ∨ h 66 50 = 1) (tn : h 66 50 = 1 → TN h as le) (hr : h 66 50 = 1 → ∀ nd, 0 ≤ nd → nd < 15 → -1 ≤ as nd ∧ as nd < T 0 0 ∧ -1 ≤ le nd ∧ le nd < S 0 0) (tr : h 66 50 = 1 → TRp as le S T 3 0) (hx : h 66 50 = 1 → ∀ nd, 0 ≤ nd → nd < 15 → as nd = -1 ∨ le nd = -1) {Q : xO → xH → Prop} (hN : ¬ (h 66 50 = 1) → Q (.inl (some (.inl (0)))) (xup h 66 0 1)) (hA : (h 66 50 = 1) → ¬ (0 ≤ p ∧ p ≤ 9) → Q (.inl (some (.inl (0)))) (xup h 66 0 2)) (hO : (h 66 50 = 1) → (0 ≤ p ∧ p ≤ 9) → ∀ h', (∀ a, a ≠ 98 → a ≠ 99 → h' a = (xup h 66 0 0) a) → Q (.inl (some (.inl (smN (psN as le S T p) 15)))) h') : xRn G0 MT (d + 4) b 237 [.inr (.inr 66), .inl p] h Q := by
  refine R_of (M := mX12_solvedUses) rfl (Nat.le_of_ble_eq_true rfl) ?_
  show xEx G0 cdX12_solvedUses (some .int) (xRn G0 MT (d + 3)) Q b 0 [some (.inr (.inr 66)), some (.inl p), none, none] [] h
  refine E_s 3 (i' := 3) (ls' := [some (.inr (.inr 66)), some (.inl p), none, none]) (sk' := [.inl (h 66 50), .inr (.inr 66)]) (h' := h) rfl ?_
  refine E_b (x := (.ifCond .ne 7, 6, [], [])) rfl rfl (fun c3 => ?_) (fun c3 => ?_)
  · rw [c_ne (by first | assumption | (refine ⟨?_, ?_⟩ <;> omega) | (simp only [xr] at *; omega)) (by first | assumption | (refine ⟨?_, ?_⟩ <;> omega) | (simp only [xr] at *; omega))] at c3
    simp only [decide_eq_true_eq, decide_eq_false_iff_not, Decidable.not_not] at c3
    show xEx G0 cdX12_solvedUses (some .int) (xRn G0 MT (d + 3)) Q b 6 [some (.inr (.inr 66)), some (.inl p), none, none] [.inr (.inr 66)] h
    refine E_s 1 (i' := 7) (ls' := [some (.inr (.inr 66)), some (.inl p), none, none]) (sk' := [.inl p, .inr (.inr 66)]) (h' := h) rfl ?_
    refine E_cp (x := (.invokestatic 197, 1, [(0, 164)], [])) (q := fun r2 h9 => ((r2 = 1 ∧ (0 ≤ p ∧ p ≤ 9)) ∨ (r2 = 0 ∧ ¬ (0 ≤ p ∧ p ≤ 9))) ∧ h = h9) rfl rfl (Nat.le_of_ble_eq_true rfl) (m_isPart (d + 1) 0 h p hp (fun z => ⟨_, rfl, Or.inl ⟨rfl, z⟩, rfl⟩) (fun z => ⟨_, rfl, Or.inr ⟨rfl, z⟩, rfl⟩)) (fun r2 h9 q2 => ?_)
    obtain ⟨q2, rfl⟩ := q2
    show xEx G0 cdX12_solvedUses (some .int) (xRn G0 MT (d + 3)) Q b 8 [some (.inr (.inr 66)), some (.inl p), none, none] [.inl r2, .inr (.inr 66)] h
    refine E_b (x := (.ifCond .ne 7, 11, [], [])) rfl rfl (fun c8 => ?_) (fun c8 => ?_)
    · rw [c_ne (by first | assumption | (refine ⟨?_, ?_⟩ <;> omega) | (simp only [xr] at *; omega)) (by first | assumption | (refine ⟨?_, ?_⟩ <;> omega) | (simp only [xr] at *; omega))] at c8
      simp only [decide_eq_true_eq, decide_eq_false_iff_not, Decidable.not_not] at c8
      show xEx G0 cdX12_solvedUses (some .int) (xRn G0 MT (d + 3)) Q b 11 [some (.inr (.inr 66)), some (.inl p), none, none] [.inr (.inr 66)] h
      refine E_s 4 (i' := 15) (ls' := [some (.inr (.inr 66)), some (.inl p), none, none]) (sk' := [.inl 0]) (h' := (xup h 66 0 0)) rfl ?_
      refine E_b (x := (.ifCond .le 5, 18, [], [])) rfl rfl (fun c15 => ?_) (fun c15 => ?_)
      · show xEx G0 cdX12_solvedUses (some .int) (xRn G0 MT (d + 3)) Q b 18 [some (.inr (.inr 66)), some (.inl p), none, none] [] (xup h 66 0 0)
        have qs : h 66 50 = 1 := by omega
        have qp := o1 q2 c8
        refine E_s 2 (i' := 20) (ls' := [some (.inr (.inr 66)), some (.inl p), none, none]) (sk' := [.inl p, .inr (.inr 66)]) (h' := (xup h 66 0 0)) rfl ?_
        refine E_cv (x := (.invokevirtual 375, 1, [(10, 221)], [0])) (q := fun h9 => (∀ a, a ≠ 98 → a ≠ 99 → h9 a = (xup h 66 0 0) a) ∧ (∀ k, 0 ≤ k → k < S 0 0 → h9 98 k = pin (S 11 k) p) ∧ (∀ t, 0 ≤ t → t < T 0 0 → h9 99 t = pin (T 11 t) p)) rfl rfl (Nat.le_of_ble_eq_true rfl) (m_countsPart (d + 2) 0 (xup h 66 0 0) S T p n0 wt qp (RR_vh0 hR) (RRT_vh0 hRT) hF hT h3 h4 (fun h9 z1 z2 z3 => ⟨rfl, z1, z2, z3⟩)) (fun h1 hq => ?_)
        obtain ⟨f1, f2, f3⟩ := hq
        have tn1 : TN h1 as le := TN_of (f1 _ (by decide) (by decide)) (f1 _ (by decide) (by decide)) (tn qs)
        show xEx G0 cdX12_solvedUses (some .int) (xRn G0 MT (d + 3)) Q b 21 [some (.inr (.inr 66)), some (.inl p), none, none] [] h1
        refine E_s 4 (i' := 25) (ls' := [some (.inr (.inr 66)), some (.inl p), some (.inl 0), some (.inl 1)]) (sk' := []) (h' := h1) rfl ?_
        have key25 : ∀ (n : Nat) (nn w : Int), (1 ≤ nn) → (nn ≤ 16) → (w = smN (psN as le S T p) (nn - 1).toNat) → ((16 - nn).toNat) < n → xEx G0 cdX12_solvedUses (some .int) (xRn G0 MT (d + 3)) Q b 25 [some (.inr (.inr 66)), some (.inl p), some (.inl w), some (.inl nn)] [] h1 := by
          intro n
          induction n with
          | zero => intro nn w _ _ _ hm; exact absurd hm (Nat.not_lt_zero _)
          | succ n ih25 =>
            intro nn w hn0 hn9 hn hm25
            refine E_s 2 (i' := 27) (ls' := [some (.inr (.inr 66)), some (.inl p), some (.inl w), some (.inl nn)]) (sk' := [.inl 16, .inl nn]) (h' := h1) rfl ?_
            refine E_b (x := (.if_icmp .ge 61, 62, [], [])) rfl rfl (fun c27 => ?_) (fun c27 => ?_)
            · rw [c_ge (by first | assumption | (refine ⟨?_, ?_⟩ <;> omega) | (simp only [xr] at *; omega)) (by first | assumption | (refine ⟨?_, ?_⟩ <;> omega) | (simp only [xr] at *; omega))] at c27
              simp only [decide_eq_true_eq, decide_eq_false_iff_not, Decidable.not_not] at c27
              show xEx G0 cdX12_solvedUses (some .int) (xRn G0 MT (d + 3)) Q b 62 [some (.inr (.inr 66)), some (.inl p), some (.inl w), some (.inl nn)] [] h1
              refine E_s 1 (i' := 63) (ls' := [some (.inr (.inr 66)), some (.inl p), some (.inl w), some (.inl nn)]) (sk' := [.inl w]) (h' := h1) rfl ?_
              exact E_ret (x := (.ireturn, 0, [], [])) (v := some (.inl w)) rfl (Or.inl rfl) (by
                have e9 : nn = 16 := by omega
                subst e9
                rw [hn]
                exact hO qs qp h1 f1)
            · rw [c_ge (by first | assumption | (refine ⟨?_, ?_⟩ <;> omega) | (simp only [xr] at *; omega)) (by first | assumption | (refine ⟨?_, ?_⟩ <;> omega) | (simp only [xr] at *; omega))] at c27
              simp only [decide_eq_true_eq, decide_eq_false_iff_not, Decidable.not_not] at c27
              show xEx G0 cdX12_solvedUses (some .int) (xRn G0 MT (d + 3)) Q b 28 [some (.inr (.inr 66)), some (.inl p), some (.inl w), some (.inl nn)] [] h1
              obtain ⟨g1, g2⟩ := tn1 nn hn0 (by omega)
              have hrn := hr qs (nn - 1) (by omega) (by omega)
              have hxn := hx qs (nn - 1) (by omega) (by omega)
              refine E_s 4 (i' := 32) (ls' := [some (.inr (.inr 66)), some (.inl p), some (.inl w), some (.inl nn)]) (sk' := [.inl nn, .inr (.inr 105), .inl w]) (h' := h1) rfl ?_
              refine E_ld (x := (.iaload, 0, [], [])) (ty := .int) (n := 32) rfl rfl rfl (by omega) (by omega) ?_
              show xEx G0 cdX12_solvedUses (some .int) (xRn G0 MT (d + 3)) Q b 33 [some (.inr (.inr 66)), some (.inl p), some (.inl w), some (.inl nn)] [.inl (h1 105 nn), .inl w] h1
              refine E_s 1 (i' := 34) (ls' := [some (.inr (.inr 66)), some (.inl p), some (.inl w), some (.inl nn)]) (sk' := [.inl (-1), .inl (h1 105 nn), .inl w]) (h' := h1) rfl ?_
              refine E_b (x := (.if_icmp .eq 17, 43, [], [])) rfl rfl (fun c34 => ?_) (fun c34 => ?_)
              · rw [c_eq (by first | assumption | (refine ⟨?_, ?_⟩ <;> omega) | (simp only [xr] at *; omega)) (by first | assumption | (refine ⟨?_, ?_⟩ <;> omega) | (simp only [xr] at *; omega))] at c34
                simp only [decide_eq_true_eq, decide_eq_false_iff_not, Decidable.not_not] at c34
                show xEx G0 cdX12_solvedUses (some .int) (xRn G0 MT (d + 3)) Q b 43 [some (.inr (.inr 66)), some (.inl p), some (.inl w), some (.inl nn)] [.inl w] h1
                have a0 : as (nn - 1) = -1 := by rw [← g1]; exact c34
                refine E_s 3 (i' := 46) (ls' := [some (.inr (.inr 66)), some (.inl p), some (.inl w), some (.inl nn)]) (sk' := [.inl nn, .inr (.inr 106), .inl w]) (h' := h1) rfl ?_
                refine E_ld (x := (.iaload, 0, [], [])) (ty := .int) (n := 32) rfl rfl rfl (by omega) (by omega) ?_
                show xEx G0 cdX12_solvedUses (some .int) (xRn G0 MT (d + 3)) Q b 47 [some (.inr (.inr 66)), some (.inl p), some (.inl w), some (.inl nn)] [.inl (h1 106 nn), .inl w] h1
                refine E_s 1 (i' := 48) (ls' := [some (.inr (.inr 66)), some (.inl p), some (.inl w), some (.inl nn)]) (sk' := [.inl (-1), .inl (h1 106 nn), .inl w]) (h' := h1) rfl ?_
                refine E_b (x := (.if_icmp .eq 17, 57, [], [])) rfl rfl (fun c48 => ?_) (fun c48 => ?_)
                · rw [c_eq (by first | assumption | (refine ⟨?_, ?_⟩ <;> omega) | (simp only [xr] at *; omega)) (by first | assumption | (refine ⟨?_, ?_⟩ <;> omega) | (simp only [xr] at *; omega))] at c48
                  simp only [decide_eq_true_eq, decide_eq_false_iff_not, Decidable.not_not] at c48
                  show xEx G0 cdX12_solvedUses (some .int) (xRn G0 MT (d + 3)) Q b 57 [some (.inr (.inr 66)), some (.inl p), some (.inl w), some (.inl nn)] [.inl w] h1
                  have b0 : le (nn - 1) = -1 := by rw [← g2]; exact c48
                  refine E_s 5 (i' := 25) (ls' := [some (.inr (.inr 66)), some (.inl p), some (.inl (w + 0)), some (.inl (nn + 1))]) (sk' := []) (h' := h1) rfl ?_
                  exact ih25 (nn + 1) (w + 0) (by omega) (by omega) (by
                    have e9 : psN as le S T p (nn - 1) = 0 + 0 := by
                      unfold psN
                      rw [if_pos a0, if_pos b0]
                    rw [show nn + 1 - 1 = nn - 1 + 1 by omega, smN_s (by omega), hn, e9]
                    omega) (by omega)
                · rw [c_eq (by first | assumption | (refine ⟨?_, ?_⟩ <;> omega) | (simp only [xr] at *; omega)) (by first | assumption | (refine ⟨?_, ?_⟩ <;> omega) | (simp only [xr] at *; omega))] at c48
                  simp only [decide_eq_true_eq, decide_eq_false_iff_not, Decidable.not_not] at c48
                  show xEx G0 cdX12_solvedUses (some .int) (xRn G0 MT (d + 3)) Q b 49 [some (.inr (.inr 66)), some (.inl p), some (.inl w), some (.inl nn)] [.inl w] h1
                  have b1 : ¬ le (nn - 1) = -1 := by rw [← g2]; exact c48
                  refine E_s 5 (i' := 54) (ls' := [some (.inr (.inr 66)), some (.inl p), some (.inl w), some (.inl nn)]) (sk' := [.inl nn, .inr (.inr 106), .inr (.inr 98), .inl w]) (h' := h1) rfl ?_
                  refine E_ld (x := (.iaload, 0, [], [])) (ty := .int) (n := 32) rfl rfl rfl (by omega) (by omega) ?_
                  show xEx G0 cdX12_solvedUses (some .int) (xRn G0 MT (d + 3)) Q b 55 [some (.inr (.inr 66)), some (.inl p), some (.inl w), some (.inl nn)] [.inl (h1 106 nn), .inr (.inr 98), .inl w] h1
                  refine E_ld (x := (.iaload, 0, [], [])) (ty := .int) (n := 300) rfl rfl rfl (by rw [g2]; omega) (by rw [g2]; omega) ?_
                  show xEx G0 cdX12_solvedUses (some .int) (xRn G0 MT (d + 3)) Q b 56 [some (.inr (.inr 66)), some (.inl p), some (.inl w), some (.inl nn)] [.inl (h1 98 (h1 106 nn)), .inl w] h1
                  refine E_s 5 (i' := 25) (ls' := [some (.inr (.inr 66)), some (.inl p), some (.inl (w + (h1 98 (h1 106 nn)))), some (.inl (nn + 1))]) (sk' := []) (h' := h1) rfl ?_
                  exact ih25 (nn + 1) (w + (h1 98 (h1 106 nn))) (by omega) (by omega) (by
                    have e9 : psN as le S T p (nn - 1) = 0 + h1 98 (h1 106 nn) := by
                      unfold psN
                      rw [if_pos a0, if_neg b1, g2, f2 _ (by omega) (by omega)]
                    rw [show nn + 1 - 1 = nn - 1 + 1 by omega, smN_s (by omega), hn, e9]
                    omega) (by omega)
              · rw [c_eq (by first | assumption | (refine ⟨?_, ?_⟩ <;> omega) | (simp only [xr] at *; omega)) (by first | assumption | (refine ⟨?_, ?_⟩ <;> omega) | (simp only [xr] at *; omega))] at c34
                simp only [decide_eq_true_eq, decide_eq_false_iff_not, Decidable.not_not] at c34
                show xEx G0 cdX12_solvedUses (some .int) (xRn G0 MT (d + 3)) Q b 35 [some (.inr (.inr 66)), some (.inl p), some (.inl w), some (.inl nn)] [.inl w] h1
                have a1 : ¬ as (nn - 1) = -1 := by rw [← g1]; exact c34
                refine E_s 5 (i' := 40) (ls' := [some (.inr (.inr 66)), some (.inl p), some (.inl w), some (.inl nn)]) (sk' := [.inl nn, .inr (.inr 105), .inr (.inr 99), .inl w]) (h' := h1) rfl ?_
                refine E_ld (x := (.iaload, 0, [], [])) (ty := .int) (n := 32) rfl rfl rfl (by omega) (by omega) ?_
                show xEx G0 cdX12_solvedUses (some .int) (xRn G0 MT (d + 3)) Q b 41 [some (.inr (.inr 66)), some (.inl p), some (.inl w), some (.inl nn)] [.inl (h1 105 nn), .inr (.inr 99), .inl w] h1
                refine E_ld (x := (.iaload, 0, [], [])) (ty := .int) (n := 150) rfl rfl rfl (by rw [g1]; omega) (by rw [g1]; omega) ?_
                show xEx G0 cdX12_solvedUses (some .int) (xRn G0 MT (d + 3)) Q b 42 [some (.inr (.inr 66)), some (.inl p), some (.inl w), some (.inl nn)] [.inl (h1 99 (h1 105 nn)), .inl w] h1
                refine E_s 5 (i' := 25) (ls' := [some (.inr (.inr 66)), some (.inl p), some (.inl (w + (h1 99 (h1 105 nn)))), some (.inl (nn + 1))]) (sk' := []) (h' := h1) rfl ?_
                exact ih25 (nn + 1) (w + (h1 99 (h1 105 nn))) (by omega) (by omega) (by
                  have e9 : psN as le S T p (nn - 1) = h1 99 (h1 105 nn) + 0 := by
                    unfold psN
                    rw [if_neg a1, if_pos (show le (nn - 1) = -1 by omega), g1, f3 _ (by omega) (by omega)]
                  rw [show nn + 1 - 1 = nn - 1 + 1 by omega, smN_s (by omega), hn, e9]
                  omega) (by omega)
        exact key25 _ 1 0 (by omega) (by omega) rfl (Nat.lt_succ_self _)
      · show xEx G0 cdX12_solvedUses (some .int) (xRn G0 MT (d + 3)) Q b 16 [some (.inr (.inr 66)), some (.inl p), none, none] [] (xup h 66 0 0)
        exact absurd c15 (by decide)
    · rw [c_ne (by first | assumption | (refine ⟨?_, ?_⟩ <;> omega) | (simp only [xr] at *; omega)) (by first | assumption | (refine ⟨?_, ?_⟩ <;> omega) | (simp only [xr] at *; omega))] at c8
      simp only [decide_eq_true_eq, decide_eq_false_iff_not, Decidable.not_not] at c8
      show xEx G0 cdX12_solvedUses (some .int) (xRn G0 MT (d + 3)) Q b 9 [some (.inr (.inr 66)), some (.inl p), none, none] [.inr (.inr 66)] h
      refine E_s 5 (i' := 15) (ls' := [some (.inr (.inr 66)), some (.inl p), none, none]) (sk' := [.inl 2]) (h' := (xup h 66 0 2)) rfl ?_
      refine E_b (x := (.ifCond .le 5, 18, [], [])) rfl rfl (fun c15 => ?_) (fun c15 => ?_)
      · show xEx G0 cdX12_solvedUses (some .int) (xRn G0 MT (d + 3)) Q b 18 [some (.inr (.inr 66)), some (.inl p), none, none] [] (xup h 66 0 2)
        exact absurd c15 (by decide)
      · show xEx G0 cdX12_solvedUses (some .int) (xRn G0 MT (d + 3)) Q b 16 [some (.inr (.inr 66)), some (.inl p), none, none] [] (xup h 66 0 2)
        refine E_s 1 (i' := 17) (ls' := [some (.inr (.inr 66)), some (.inl p), none, none]) (sk' := [.inl 0]) (h' := (xup h 66 0 2)) rfl ?_
        exact E_ret (x := (.ireturn, 0, [], [])) (v := some (.inl 0)) rfl (Or.inl rfl) (hA (by omega) (o0 q2 (by omega)))
  · rw [c_ne (by first | assumption | (refine ⟨?_, ?_⟩ <;> omega) | (simp only [xr] at *; omega)) (by first | assumption | (refine ⟨?_, ?_⟩ <;> omega) | (simp only [xr] at *; omega))] at c3
    simp only [decide_eq_true_eq, decide_eq_false_iff_not, Decidable.not_not] at c3
    show xEx G0 cdX12_solvedUses (some .int) (xRn G0 MT (d + 3)) Q b 4 [some (.inr (.inr 66)), some (.inl p), none, none] [.inr (.inr 66)] h
    refine E_s 5 (i' := 15) (ls' := [some (.inr (.inr 66)), some (.inl p), none, none]) (sk' := [.inl 1]) (h' := (xup h 66 0 1)) rfl ?_
    refine E_b (x := (.ifCond .le 5, 18, [], [])) rfl rfl (fun c15 => ?_) (fun c15 => ?_)
    · show xEx G0 cdX12_solvedUses (some .int) (xRn G0 MT (d + 3)) Q b 18 [some (.inr (.inr 66)), some (.inl p), none, none] [] (xup h 66 0 1)
      exact absurd c15 (by decide)
    · show xEx G0 cdX12_solvedUses (some .int) (xRn G0 MT (d + 3)) Q b 16 [some (.inr (.inr 66)), some (.inl p), none, none] [] (xup h 66 0 1)
      refine E_s 1 (i' := 17) (ls' := [some (.inr (.inr 66)), some (.inl p), none, none]) (sk' := [.inl 0]) (h' := (xup h 66 0 1)) rfl ?_
      exact E_ret (x := (.ireturn, 0, [], [])) (v := some (.inl 0)) rfl (Or.inl rfl) (hN (fun z9 => by omega))
