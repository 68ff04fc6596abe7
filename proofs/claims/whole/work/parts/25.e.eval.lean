theorem FM_c {h h' : xH} (c : Nat → Prop) (hc : ∀ a, c a → scr a) (e : ∀ a, ¬ c a → h' a = h a) : FM h h' := by
  have n : ∀ a, ¬ scr a → ¬ c a := fun a z y => z (hc a y)
  refine ⟨fun a z _ _ _ _ _ _ _ => e a (n a z), fun j _ => by rw [e _ (n _ (by unfold scr; decide))], fun k _ => ?_, fun k _ => ?_⟩
  · rw [e 69 (n _ (by unfold scr; decide)), e 70 (n _ (by unfold scr; decide)), e 71 (n _ (by unfold scr; decide))]; exact ⟨rfl, rfl, rfl⟩
  · rw [e 79 (n _ (by unfold scr; decide)), e 80 (n _ (by unfold scr; decide)), e 81 (n _ (by unfold scr; decide))]; exact ⟨rfl, rfl, rfl⟩
theorem FM_vh {h h' : xH} (e : ∀ a, a ≠ 94 → a ≠ 95 → h' a = h a) : FM h h' := FM_c (fun a => a = 94 ∨ a = 95) (fun a z => by unfold scr; omega) (fun a z => e a (by omega) (by omega))
/-- what the class needs to come to something -/
def EV (h S T : xH) : Prop := RC h S ∧ FW (h 1 2) (h 6) 9 S ∧ (0 ≤ S 0 0 ∧ S 0 0 ≤ 300) ∧ RCT h T ∧ FWT S 7 T ∧ (0 ≤ T 0 0 ∧ T 0 0 ≤ 150)
theorem EV_ci {h S T : xH} (c : CI h S T) : EV h S T := ⟨c.2.1.1, c.2.1.2.2.2.1, ⟨c.2.1.2.1.1, c.2.1.2.1.2.1⟩, c.2.2.1.1, c.2.2.1.2.2.2.1, ⟨c.2.2.1.2.1.1, c.2.2.1.2.1.2.1⟩⟩
theorem EV_fr {h h' S T : xH} (e : ∀ a, a ≤ 43 → h' a = h a) (v : EV h S T) : EV h' S T := by
  obtain ⟨a, b, c, d, f, g⟩ := v
  refine ⟨RC_fr (fun a _ z => e a (by omega)) (e 1 (by decide)) a, ?_, c, RCT_fr (fun a z1 z2 => e a (by omega)) d, f, g⟩
  rw [e 1 (by decide), e 6 (by decide)]
  exact b
theorem EV_po {h h' S T : xH} (e : ∀ a, a ≠ 63 → h' a = h a) (v : EV h S T) : EV h' S T := EV_fr (fun a z => e a (by omega)) v
theorem VE_p {h S T : xH} (v : EV h S T) {x y z k : Int} (e0 : h 63 0 = x) (e1 : h 63 1 = y) (e2 : h 63 2 = z) (h0 : 0 ≤ k) (h1 : k < S 0 0) : VE S (h 63) k = VE S (pX x y z) k := vE_x v.2.1 (fun i z1 z2 => by
  have : i = 0 ∨ i = 1 ∨ i = 2 := by omega
  rcases this with rfl | rfl | rfl
  · rw [e0]; rfl
  · rw [e1]; rfl
  · rw [e2]; rfl) 300 k h0 h1
theorem VU_p {h S T : xH} (v : EV h S T) {x y z k : Int} (e0 : h 63 0 = x) (e1 : h 63 1 = y) (e2 : h 63 2 = z) (h0 : 0 ≤ k) (h1 : k < T 0 0) : VU S T (h 63) k = VU S T (pX x y z) k := vU_x v.2.1 v.2.2.2.2.1 (fun i z1 z2 => by
  have : i = 0 ∨ i = 1 ∨ i = 2 := by omega
  rcases this with rfl | rfl | rfl
  · rw [e0]; rfl
  · rw [e1]; rfl
  · rw [e2]; rfl) 150 k h0 h1
theorem po_r {h : xH} (h0 : xr (h 63 0)) (h1 : xr (h 63 1)) (h2 : xr (h 63 2)) : ∀ i, 0 ≤ i → i ≤ 2 → xr (h 63 i) := fun i z1 z2 => by
  have : i = 0 ∨ i = 1 ∨ i = 2 := by omega
  rcases this with rfl | rfl | rfl
  · exact h0
  · exact h1
  · exact h2
set_option maxHeartbeats 1000000 in
theorem c_put (d b : Nat) (h : xH) (x y z : Int) {Q : xO → xH → Prop} (hQ : Q (.inl none) (xup (xup (xup h 63 0 x) 63 1 y) 63 2 z)) : xRn G0 MT (d + 1) b 42 [.inr (.inr 62), .inl x, .inl y, .inl z] h Q := by
  refine R_of (M := mX5_put) rfl (Nat.le_of_ble_eq_true rfl) ?_
  show xEx G0 cdX5_put none (xRn G0 MT d) Q b 0 [some (.inr (.inr 62)), some (.inl x), some (.inl y), some (.inl z)] [] h
  refine E_s 4 (i' := 4) (ls' := [some (.inr (.inr 62)), some (.inl x), some (.inl y), some (.inl z)]) (sk' := [.inl x, .inl 0, .inr (.inr 63)]) (h' := h) rfl ?_
  refine E_sd (x := (.iastore, 0, [], [])) (ty := .int) (n := 3) (y := x) rfl rfl rfl (by omega) (by omega) (trivial) ?_
  show xEx G0 cdX5_put none (xRn G0 MT d) Q b 5 [some (.inr (.inr 62)), some (.inl x), some (.inl y), some (.inl z)] [] (xup h 63 0 x)
  refine E_s 4 (i' := 9) (ls' := [some (.inr (.inr 62)), some (.inl x), some (.inl y), some (.inl z)]) (sk' := [.inl y, .inl 1, .inr (.inr 63)]) (h' := (xup h 63 0 x)) rfl ?_
  refine E_sd (x := (.iastore, 0, [], [])) (ty := .int) (n := 3) (y := y) rfl rfl rfl (by omega) (by omega) (trivial) ?_
  show xEx G0 cdX5_put none (xRn G0 MT d) Q b 10 [some (.inr (.inr 62)), some (.inl x), some (.inl y), some (.inl z)] [] (xup (xup h 63 0 x) 63 1 y)
  refine E_s 4 (i' := 14) (ls' := [some (.inr (.inr 62)), some (.inl x), some (.inl y), some (.inl z)]) (sk' := [.inl z, .inl 2, .inr (.inr 63)]) (h' := (xup (xup h 63 0 x) 63 1 y)) rfl ?_
  refine E_sd (x := (.iastore, 0, [], [])) (ty := .int) (n := 3) (y := z) rfl rfl rfl (by omega) (by omega) (trivial) ?_
  show xEx G0 cdX5_put none (xRn G0 MT d) Q b 15 [some (.inr (.inr 62)), some (.inl x), some (.inl y), some (.inl z)] [] (xup (xup (xup h 63 0 x) 63 1 y) 63 2 z)
  exact E_ret (x := (.return_, 0, [], [])) (v := none) rfl (trivial) (hQ)
set_option maxHeartbeats 1000000 in
theorem o_value0 (d  : Nat) (h S T : xH) (k x y z : Int) (hk : xr k) (hx : xr x) (hy : xr y) (hz : xr z) (hm : 1 ≤ h 1 1 ∧ h 1 1 ≤ 3) (ev0 : EV h S T) (hK0 : 0 ≤ h 9 9 ∧ h 9 9 ≤ 300) {Q : xO → xH → Prop} (hN : ¬ (0 ≤ k ∧ k < h 9 9) → Q (.inr "java/util/NoSuchElementException") h) (hA : (0 ≤ k ∧ k < h 9 9) → ¬ inOk (h 1 1) x y z → Q (.inr "java/lang/IllegalArgumentException") h) (hO : (0 ≤ k ∧ k < h 9 9) → inOk (h 1 1) x y z → ∀ v, w32 v = VE S (pX x y z) k → Q (.inl (some (.inl v))) (xup (xup (xup h 63 0 x) 63 1 y) 63 2 z)) : xRn G0 MT (d + 25) 2 108 [.inr (.inr 0), .inl 0, .inl k, .inl x, .inl y, .inl z] h Q := by
  refine R_of (M := mX11_value) rfl (Nat.le_of_ble_eq_true rfl) ?_
  show xEx G0 cdX11_value (some .int) (xRn G0 MT (d + 24)) Q 2 0 [some (.inr (.inr 0)), some (.inl 0), some (.inl k), some (.inl x), some (.inl y), some (.inl z), none] [] h
  refine E_s 3 (i' := 3) (ls' := [some (.inr (.inr 0)), some (.inl 0), some (.inl k), some (.inl x), some (.inl y), some (.inl z), none]) (sk' := [.inl k, .inl 0, .inr (.inr 0)]) (h' := h) rfl ?_
  refine E_cx (x := (.invokevirtual 194, 2, [(9, 143)], [0])) (b1 := 1) (b2 := 1) (v := (some (.inr (.inr 9)))) (q := fun h9 => (0 ≤ k ∧ k < h 9 9) ∧ h = h9) rfl rfl (Nat.le_of_ble_eq_true rfl) (fun z => by cases z) (c_growthWith0 (d + 21) h k hk hK0 (fun z => Or.inl ⟨rfl, z, rfl⟩) (fun z9 => Or.inr ⟨_, rfl, hN z9⟩)) (fun h9 hq9 => ?_)
  obtain ⟨qk, rfl⟩ := hq9
  show xEx G0 cdX11_value (some .int) (xRn G0 MT (d + 24)) Q 1 4 [some (.inr (.inr 0)), some (.inl 0), some (.inl k), some (.inl x), some (.inl y), some (.inl z), none] [.inr (.inr 9)] h
  refine E_s 5 (i' := 9) (ls' := [some (.inr (.inr 0)), some (.inl 0), some (.inl k), some (.inl x), some (.inl y), some (.inl z), some (.inr (.inr 9))]) (sk' := [.inl z, .inl y, .inl x, .inr (.inr 0)]) (h' := h) rfl ?_
  refine E_cx (x := (.invokevirtual 96, 3, [(9, 148)], [0])) (b1 := 1) (b2 := 0) (v := none) (q := fun h9 => (inOk (h 1 1) x y z) ∧ h = h9) rfl rfl (Nat.le_of_ble_eq_true rfl) (fun z => by cases z) (c_refNoInputs (d + 22) h x y z hm hx hy hz (fun z9 => Or.inl ⟨rfl, z9, rfl⟩) (fun z9 => Or.inr ⟨_, rfl, hA qk z9⟩)) (fun h9 hq9 => ?_)
  obtain ⟨q2, rfl⟩ := hq9
  show xEx G0 cdX11_value (some .int) (xRn G0 MT (d + 24)) Q 0 10 [some (.inr (.inr 0)), some (.inl 0), some (.inl k), some (.inl x), some (.inl y), some (.inl z), some (.inr (.inr 9))] [] h
  refine E_s 5 (i' := 15) (ls' := [some (.inr (.inr 0)), some (.inl 0), some (.inl k), some (.inl x), some (.inl y), some (.inl z), some (.inr (.inr 9))]) (sk' := [.inl z, .inl y, .inl x, .inr (.inr 62)]) (h' := h) rfl ?_
  refine E_cv (x := (.invokevirtual 214, 3, [(3, 42)], [0])) (q := fun h9 => h9 = xup (xup (xup h 63 0 x) 63 1 y) 63 2 z) rfl rfl (Nat.le_of_ble_eq_true rfl) (c_put (d + 23) 0 h x y z ⟨rfl, rfl⟩) (fun h9 e9 => ?_)
  subst e9
  show xEx G0 cdX11_value (some .int) (xRn G0 MT (d + 24)) Q 0 16 [some (.inr (.inr 0)), some (.inl 0), some (.inl k), some (.inl x), some (.inl y), some (.inl z), some (.inr (.inr 9))] [] (xup (xup (xup h 63 0 x) 63 1 y) 63 2 z)
  have ev : EV (xup (xup (xup h 63 0 x) 63 1 y) 63 2 z) S T := EV_po (fun a z9 => by rw [xup_o _ _ _ _ a z9, xup_o _ _ _ _ a z9, xup_o _ _ _ _ a z9]) ev0
  have rx : ∀ i, 0 ≤ i → i ≤ 2 → xr ((xup (xup (xup h 63 0 x) 63 1 y) 63 2 z) 63 i) := po_r hx hy hz
  have qk2 : 0 ≤ k ∧ k < S 0 0 := by rw [ev0.1.1] at qk; exact qk
  refine E_s 5 (i' := 21) (ls' := [some (.inr (.inr 0)), some (.inl 0), some (.inl k), some (.inl x), some (.inl y), some (.inl z), some (.inr (.inr 9))]) (sk' := [.inr (.inr 63), .inl k, .inr (.inr 9)]) (h' := (xup (xup (xup h 63 0 x) 63 1 y) 63 2 z)) rfl ?_
  refine E_cp (x := (.invokevirtual 220, 2, [(1, 24), (7, 24)], [1])) (q := fun r h9 => w32 r = VE S ((xup (xup (xup h 63 0 x) 63 1 y) 63 2 z) 63) k ∧ (xup (xup (xup h 63 0 x) 63 1 y) 63 2 z) = h9) rfl rfl (Nat.le_of_ble_eq_true rfl) (c_comesTo (d + 12) 0 (xup (xup (xup h 63 0 x) 63 1 y) 63 2 z) S k ev.1 ev.2.1 ev.2.2.1.2 qk2 rx (fun v hv => ⟨v, rfl, hv, rfl⟩)) (fun r h9 hv => ?_)
  obtain ⟨hv, rfl⟩ := hv
  show xEx G0 cdX11_value (some .int) (xRn G0 MT (d + 24)) Q 0 22 [some (.inr (.inr 0)), some (.inl 0), some (.inl k), some (.inl x), some (.inl y), some (.inl z), some (.inr (.inr 9))] [.inl r] (xup (xup (xup h 63 0 x) 63 1 y) 63 2 z)
  exact E_ret (x := (.ireturn, 0, [], [])) (v := some (.inl r)) rfl (Or.inl rfl) (hO qk q2 _ (by rw [hv]; exact VE_p ev rfl rfl rfl qk2.1 qk2.2))
set_option maxHeartbeats 1000000 in
theorem m_value0 (d b : Nat) (h S T : xH) (k x y z n0 : Int) (wt : Int → Int) (hk : xr k) (hx : xr x) (hy : xr y) (hz : xr z) (hm : 1 ≤ h 66 1 ∧ h 66 1 ≤ 3) (hR : RR h S) (hRT : RRT h T) (hF : FW n0 wt 9 S) (hT : FWT S 7 T) (h3 : 0 ≤ S 0 0 ∧ S 0 0 ≤ 300) (h4 : 0 ≤ T 0 0 ∧ T 0 0 ≤ 150) (hM0 : 0 ≤ h 66 8 ∧ h 66 8 ≤ 300) {Q : xO → xH → Prop} (hN : ¬ (0 ≤ k ∧ k < h 66 8) → Q (.inl (some (.inl (0)))) (xup h 66 0 1)) (hA : (0 ≤ k ∧ k < h 66 8) → ¬ inOk (h 66 1) x y z → Q (.inl (some (.inl (0)))) (xup h 66 0 2)) (hO : (0 ≤ k ∧ k < h 66 8) → inOk (h 66 1) x y z → ∀ h', (∀ a, a ≠ 94 → a ≠ 95 → h' a = (xup h 66 0 0) a) → Q (.inl (some (.inl (VE S (pX x y z) k)))) h') : xRn G0 MT (d + 25) b 202 [.inr (.inr 66), .inl 0, .inl k, .inl x, .inl y, .inl z] h Q := by
  refine R_of (M := mX12_value) rfl (Nat.le_of_ble_eq_true rfl) ?_
  show xEx G0 cdX12_value (some .int) (xRn G0 MT (d + 24)) Q b 0 [some (.inr (.inr 66)), some (.inl 0), some (.inl k), some (.inl x), some (.inl y), some (.inl z)] [] h
  refine E_s 4 (i' := 4) (ls' := [some (.inr (.inr 66)), some (.inl 0), some (.inl k), some (.inl x), some (.inl y), some (.inl z)]) (sk' := [.inl k, .inl 0, .inr (.inr 66), .inr (.inr 66)]) (h' := h) rfl ?_
  refine E_cp (x := (.invokevirtual 295, 2, [(10, 193)], [0])) (q := fun r1 h9 => ((r1 = 1 ∧ (0 ≤ k ∧ k < h 66 8)) ∨ (r1 = 0 ∧ ¬ (0 ≤ k ∧ k < h 66 8))) ∧ h = h9) rfl rfl (Nat.le_of_ble_eq_true rfl) (m_isKept0 (d + 22) 0 h k hk hM0 (fun z => ⟨_, rfl, Or.inl ⟨rfl, z⟩, rfl⟩) (fun z => ⟨_, rfl, Or.inr ⟨rfl, z⟩, rfl⟩)) (fun r1 h9 q1 => ?_)
  obtain ⟨q1, rfl⟩ := q1
  show xEx G0 cdX12_value (some .int) (xRn G0 MT (d + 24)) Q b 5 [some (.inr (.inr 66)), some (.inl 0), some (.inl k), some (.inl x), some (.inl y), some (.inl z)] [.inl r1, .inr (.inr 66)] h
  refine E_b (x := (.ifCond .ne 7, 8, [], [])) rfl rfl (fun c5 => ?_) (fun c5 => ?_)
  · rw [c_ne (by first | assumption | (refine ⟨?_, ?_⟩ <;> omega) | (simp only [xr] at *; omega)) (by first | assumption | (refine ⟨?_, ?_⟩ <;> omega) | (simp only [xr] at *; omega))] at c5
    simp only [decide_eq_true_eq, decide_eq_false_iff_not, Decidable.not_not] at c5
    show xEx G0 cdX12_value (some .int) (xRn G0 MT (d + 24)) Q b 8 [some (.inr (.inr 66)), some (.inl 0), some (.inl k), some (.inl x), some (.inl y), some (.inl z)] [.inr (.inr 66)] h
    refine E_s 4 (i' := 12) (ls' := [some (.inr (.inr 66)), some (.inl 0), some (.inl k), some (.inl x), some (.inl y), some (.inl z)]) (sk' := [.inl z, .inl y, .inl x, .inr (.inr 66), .inr (.inr 66)]) (h' := h) rfl ?_
    refine E_cp (x := (.invokevirtual 187, 3, [(10, 159)], [0])) (q := fun r2 h9 => ((r2 = 1 ∧ (inOk (h 66 1) x y z)) ∨ (r2 = 0 ∧ ¬ (inOk (h 66 1) x y z))) ∧ h = h9) rfl rfl (Nat.le_of_ble_eq_true rfl) (m_areInputs (d + 22) 0 h x y z hm hx hy hz (fun z => ⟨_, rfl, Or.inl ⟨rfl, z⟩, rfl⟩) (fun z => ⟨_, rfl, Or.inr ⟨rfl, z⟩, rfl⟩)) (fun r2 h9 q2 => ?_)
    obtain ⟨q2, rfl⟩ := q2
    show xEx G0 cdX12_value (some .int) (xRn G0 MT (d + 24)) Q b 13 [some (.inr (.inr 66)), some (.inl 0), some (.inl k), some (.inl x), some (.inl y), some (.inl z)] [.inl r2, .inr (.inr 66)] h
    refine E_b (x := (.ifCond .ne 7, 16, [], [])) rfl rfl (fun c13 => ?_) (fun c13 => ?_)
    · rw [c_ne (by first | assumption | (refine ⟨?_, ?_⟩ <;> omega) | (simp only [xr] at *; omega)) (by first | assumption | (refine ⟨?_, ?_⟩ <;> omega) | (simp only [xr] at *; omega))] at c13
      simp only [decide_eq_true_eq, decide_eq_false_iff_not, Decidable.not_not] at c13
      show xEx G0 cdX12_value (some .int) (xRn G0 MT (d + 24)) Q b 16 [some (.inr (.inr 66)), some (.inl 0), some (.inl k), some (.inl x), some (.inl y), some (.inl z)] [.inr (.inr 66)] h
      refine E_s 2 (i' := 18) (ls' := [some (.inr (.inr 66)), some (.inl 0), some (.inl k), some (.inl x), some (.inl y), some (.inl z)]) (sk' := []) (h' := (xup h 66 0 0)) rfl ?_
      
      refine E_s 2 (i' := 20) (ls' := [some (.inr (.inr 66)), some (.inl 0), some (.inl k), some (.inl x), some (.inl y), some (.inl z)]) (sk' := [.inl 0]) (h' := (xup h 66 0 0)) rfl ?_
      refine E_b (x := (.ifCond .le 5, 23, [], [])) rfl rfl (fun c20 => ?_) (fun c20 => ?_)
      · show xEx G0 cdX12_value (some .int) (xRn G0 MT (d + 24)) Q b 23 [some (.inr (.inr 66)), some (.inl 0), some (.inl k), some (.inl x), some (.inl y), some (.inl z)] [] (xup h 66 0 0)
        refine E_s 4 (i' := 27) (ls' := [some (.inr (.inr 66)), some (.inl 0), some (.inl k), some (.inl x), some (.inl y), some (.inl z)]) (sk' := [.inl z, .inl y, .inl x, .inr (.inr 66)]) (h' := (xup h 66 0 0)) rfl ?_
        refine E_cv (x := (.invokevirtual 309, 3, [(10, 198)], [0])) (q := fun h9 => (∀ a, a ≠ 94 → a ≠ 95 → h9 a = (xup h 66 0 0) a) ∧ (∀ k, 0 ≤ k → k < S 0 0 → h9 94 k = VE S (pX x y z) k) ∧ (∀ t, 0 ≤ t → t < T 0 0 → h9 95 t = VU S T (pX x y z) t)) rfl rfl (Nat.le_of_ble_eq_true rfl) (m_reckons (d + 20) 0 (xup h 66 0 0) S T x y z n0 wt hx hy hz hR hRT hF hT h3 h4 (fun h9 z1 z2 z3 => ⟨rfl, z1, z2, z3⟩)) (fun h1 hq => ?_)
        obtain ⟨f1, f2, f3⟩ := hq
        show xEx G0 cdX12_value (some .int) (xRn G0 MT (d + 24)) Q b 28 [some (.inr (.inr 66)), some (.inl 0), some (.inl k), some (.inl x), some (.inl y), some (.inl z)] [] h1
        refine E_s 1 (i' := 29) (ls' := [some (.inr (.inr 66)), some (.inl 0), some (.inl k), some (.inl x), some (.inl y), some (.inl z)]) (sk' := [.inl 0]) (h' := h1) rfl ?_
        refine E_b (x := (.ifCond .eq 12, 35, [], [])) rfl rfl (fun c29 => ?_) (fun c29 => ?_)
        · show xEx G0 cdX12_value (some .int) (xRn G0 MT (d + 24)) Q b 35 [some (.inr (.inr 66)), some (.inl 0), some (.inl k), some (.inl x), some (.inl y), some (.inl z)] [] h1
          refine E_s 3 (i' := 38) (ls' := [some (.inr (.inr 66)), some (.inl 0), some (.inl k), some (.inl x), some (.inl y), some (.inl z)]) (sk' := [.inl k, .inr (.inr 94)]) (h' := h1) rfl ?_
          refine E_ld (x := (.iaload, 0, [], [])) (ty := .int) (n := 300) rfl rfl rfl (by omega) (by omega) ?_
          show xEx G0 cdX12_value (some .int) (xRn G0 MT (d + 24)) Q b 39 [some (.inr (.inr 66)), some (.inl 0), some (.inl k), some (.inl x), some (.inl y), some (.inl z)] [.inl (h1 94 k)] h1
          exact E_ret (x := (.ireturn, 0, [], [])) (v := some (.inl (h1 94 k))) rfl (Or.inl rfl) (by
            have kk := o1 q1 c5
            have e9 := f2 k kk.1 (by rw [← hR.1]; exact kk.2)
            rw [e9]
            exact hO kk (o1 q2 c13) _ f1)
        · show xEx G0 cdX12_value (some .int) (xRn G0 MT (d + 24)) Q b 30 [some (.inr (.inr 66)), some (.inl 0), some (.inl k), some (.inl x), some (.inl y), some (.inl z)] [] h1
          exact absurd c29 (by decide)
      · show xEx G0 cdX12_value (some .int) (xRn G0 MT (d + 24)) Q b 21 [some (.inr (.inr 66)), some (.inl 0), some (.inl k), some (.inl x), some (.inl y), some (.inl z)] [] (xup h 66 0 0)
        exact absurd c20 (by decide)
    · rw [c_ne (by first | assumption | (refine ⟨?_, ?_⟩ <;> omega) | (simp only [xr] at *; omega)) (by first | assumption | (refine ⟨?_, ?_⟩ <;> omega) | (simp only [xr] at *; omega))] at c13
      simp only [decide_eq_true_eq, decide_eq_false_iff_not, Decidable.not_not] at c13
      show xEx G0 cdX12_value (some .int) (xRn G0 MT (d + 24)) Q b 14 [some (.inr (.inr 66)), some (.inl 0), some (.inl k), some (.inl x), some (.inl y), some (.inl z)] [.inr (.inr 66)] h
      refine E_s 3 (i' := 18) (ls' := [some (.inr (.inr 66)), some (.inl 0), some (.inl k), some (.inl x), some (.inl y), some (.inl z)]) (sk' := []) (h' := (xup h 66 0 2)) rfl ?_
      
      refine E_s 2 (i' := 20) (ls' := [some (.inr (.inr 66)), some (.inl 0), some (.inl k), some (.inl x), some (.inl y), some (.inl z)]) (sk' := [.inl 2]) (h' := (xup h 66 0 2)) rfl ?_
      refine E_b (x := (.ifCond .le 5, 23, [], [])) rfl rfl (fun c20 => ?_) (fun c20 => ?_)
      · show xEx G0 cdX12_value (some .int) (xRn G0 MT (d + 24)) Q b 23 [some (.inr (.inr 66)), some (.inl 0), some (.inl k), some (.inl x), some (.inl y), some (.inl z)] [] (xup h 66 0 2)
        exact absurd c20 (by decide)
      · show xEx G0 cdX12_value (some .int) (xRn G0 MT (d + 24)) Q b 21 [some (.inr (.inr 66)), some (.inl 0), some (.inl k), some (.inl x), some (.inl y), some (.inl z)] [] (xup h 66 0 2)
        refine E_s 1 (i' := 22) (ls' := [some (.inr (.inr 66)), some (.inl 0), some (.inl k), some (.inl x), some (.inl y), some (.inl z)]) (sk' := [.inl 0]) (h' := (xup h 66 0 2)) rfl ?_
        exact E_ret (x := (.ireturn, 0, [], [])) (v := some (.inl 0)) rfl (Or.inl rfl) (hA (o1 q1 c5) (o0 q2 c13))
  · rw [c_ne (by first | assumption | (refine ⟨?_, ?_⟩ <;> omega) | (simp only [xr] at *; omega)) (by first | assumption | (refine ⟨?_, ?_⟩ <;> omega) | (simp only [xr] at *; omega))] at c5
    simp only [decide_eq_true_eq, decide_eq_false_iff_not, Decidable.not_not] at c5
    show xEx G0 cdX12_value (some .int) (xRn G0 MT (d + 24)) Q b 6 [some (.inr (.inr 66)), some (.inl 0), some (.inl k), some (.inl x), some (.inl y), some (.inl z)] [.inr (.inr 66)] h
    refine E_s 3 (i' := 18) (ls' := [some (.inr (.inr 66)), some (.inl 0), some (.inl k), some (.inl x), some (.inl y), some (.inl z)]) (sk' := []) (h' := (xup h 66 0 1)) rfl ?_
    
    refine E_s 2 (i' := 20) (ls' := [some (.inr (.inr 66)), some (.inl 0), some (.inl k), some (.inl x), some (.inl y), some (.inl z)]) (sk' := [.inl 1]) (h' := (xup h 66 0 1)) rfl ?_
    refine E_b (x := (.ifCond .le 5, 23, [], [])) rfl rfl (fun c20 => ?_) (fun c20 => ?_)
    · show xEx G0 cdX12_value (some .int) (xRn G0 MT (d + 24)) Q b 23 [some (.inr (.inr 66)), some (.inl 0), some (.inl k), some (.inl x), some (.inl y), some (.inl z)] [] (xup h 66 0 1)
      exact absurd c20 (by decide)
    · show xEx G0 cdX12_value (some .int) (xRn G0 MT (d + 24)) Q b 21 [some (.inr (.inr 66)), some (.inl 0), some (.inl k), some (.inl x), some (.inl y), some (.inl z)] [] (xup h 66 0 1)
      refine E_s 1 (i' := 22) (ls' := [some (.inr (.inr 66)), some (.inl 0), some (.inl k), some (.inl x), some (.inl y), some (.inl z)]) (sk' := [.inl 0]) (h' := (xup h 66 0 1)) rfl ?_
      exact E_ret (x := (.ireturn, 0, [], [])) (v := some (.inl 0)) rfl (Or.inl rfl) (hN (o0 q1 c5))
set_option maxHeartbeats 1000000 in
theorem o_value1 (d  : Nat) (h S T : xH) (k x y z : Int) (hk : xr k) (hx : xr x) (hy : xr y) (hz : xr z) (hm : 1 ≤ h 1 1 ∧ h 1 1 ≤ 3) (ev0 : EV h S T) (hK1 : 0 ≤ h 28 9 ∧ h 28 9 ≤ 150) {Q : xO → xH → Prop} (hN : ¬ (0 ≤ k ∧ k < h 28 9) → Q (.inr "java/util/NoSuchElementException") h) (hA : (0 ≤ k ∧ k < h 28 9) → ¬ inOk (h 1 1) x y z → Q (.inr "java/lang/IllegalArgumentException") h) (hO : (0 ≤ k ∧ k < h 28 9) → inOk (h 1 1) x y z → ∀ v, w32 v = VU S T (pX x y z) k → Q (.inl (some (.inl v))) (xup (xup (xup h 63 0 x) 63 1 y) 63 2 z)) : xRn G0 MT (d + 25) 2 108 [.inr (.inr 0), .inl 1, .inl k, .inl x, .inl y, .inl z] h Q := by
  refine R_of (M := mX11_value) rfl (Nat.le_of_ble_eq_true rfl) ?_
  show xEx G0 cdX11_value (some .int) (xRn G0 MT (d + 24)) Q 2 0 [some (.inr (.inr 0)), some (.inl 1), some (.inl k), some (.inl x), some (.inl y), some (.inl z), none] [] h
  refine E_s 3 (i' := 3) (ls' := [some (.inr (.inr 0)), some (.inl 1), some (.inl k), some (.inl x), some (.inl y), some (.inl z), none]) (sk' := [.inl k, .inl 1, .inr (.inr 0)]) (h' := h) rfl ?_
  refine E_cx (x := (.invokevirtual 194, 2, [(9, 143)], [0])) (b1 := 1) (b2 := 1) (v := (some (.inr (.inr 28)))) (q := fun h9 => (0 ≤ k ∧ k < h 28 9) ∧ h = h9) rfl rfl (Nat.le_of_ble_eq_true rfl) (fun z => by cases z) (c_growthWith1 (d + 21) h k hk hK1 (fun z => Or.inl ⟨rfl, z, rfl⟩) (fun z9 => Or.inr ⟨_, rfl, hN z9⟩)) (fun h9 hq9 => ?_)
  obtain ⟨qk, rfl⟩ := hq9
  show xEx G0 cdX11_value (some .int) (xRn G0 MT (d + 24)) Q 1 4 [some (.inr (.inr 0)), some (.inl 1), some (.inl k), some (.inl x), some (.inl y), some (.inl z), none] [.inr (.inr 28)] h
  refine E_s 5 (i' := 9) (ls' := [some (.inr (.inr 0)), some (.inl 1), some (.inl k), some (.inl x), some (.inl y), some (.inl z), some (.inr (.inr 28))]) (sk' := [.inl z, .inl y, .inl x, .inr (.inr 0)]) (h' := h) rfl ?_
  refine E_cx (x := (.invokevirtual 96, 3, [(9, 148)], [0])) (b1 := 1) (b2 := 0) (v := none) (q := fun h9 => (inOk (h 1 1) x y z) ∧ h = h9) rfl rfl (Nat.le_of_ble_eq_true rfl) (fun z => by cases z) (c_refNoInputs (d + 22) h x y z hm hx hy hz (fun z9 => Or.inl ⟨rfl, z9, rfl⟩) (fun z9 => Or.inr ⟨_, rfl, hA qk z9⟩)) (fun h9 hq9 => ?_)
  obtain ⟨q2, rfl⟩ := hq9
  show xEx G0 cdX11_value (some .int) (xRn G0 MT (d + 24)) Q 0 10 [some (.inr (.inr 0)), some (.inl 1), some (.inl k), some (.inl x), some (.inl y), some (.inl z), some (.inr (.inr 28))] [] h
  refine E_s 5 (i' := 15) (ls' := [some (.inr (.inr 0)), some (.inl 1), some (.inl k), some (.inl x), some (.inl y), some (.inl z), some (.inr (.inr 28))]) (sk' := [.inl z, .inl y, .inl x, .inr (.inr 62)]) (h' := h) rfl ?_
  refine E_cv (x := (.invokevirtual 214, 3, [(3, 42)], [0])) (q := fun h9 => h9 = xup (xup (xup h 63 0 x) 63 1 y) 63 2 z) rfl rfl (Nat.le_of_ble_eq_true rfl) (c_put (d + 23) 0 h x y z ⟨rfl, rfl⟩) (fun h9 e9 => ?_)
  subst e9
  show xEx G0 cdX11_value (some .int) (xRn G0 MT (d + 24)) Q 0 16 [some (.inr (.inr 0)), some (.inl 1), some (.inl k), some (.inl x), some (.inl y), some (.inl z), some (.inr (.inr 28))] [] (xup (xup (xup h 63 0 x) 63 1 y) 63 2 z)
  have ev : EV (xup (xup (xup h 63 0 x) 63 1 y) 63 2 z) S T := EV_po (fun a z9 => by rw [xup_o _ _ _ _ a z9, xup_o _ _ _ _ a z9, xup_o _ _ _ _ a z9]) ev0
  have rx : ∀ i, 0 ≤ i → i ≤ 2 → xr ((xup (xup (xup h 63 0 x) 63 1 y) 63 2 z) 63 i) := po_r hx hy hz
  have qk2 : 0 ≤ k ∧ k < T 0 0 := by rw [ev0.2.2.2.1.1] at qk; exact qk
  refine E_s 5 (i' := 21) (ls' := [some (.inr (.inr 0)), some (.inl 1), some (.inl k), some (.inl x), some (.inl y), some (.inl z), some (.inr (.inr 28))]) (sk' := [.inr (.inr 63), .inl k, .inr (.inr 28)]) (h' := (xup (xup (xup h 63 0 x) 63 1 y) 63 2 z)) rfl ?_
  refine E_cp (x := (.invokevirtual 220, 2, [(1, 24), (7, 24)], [1])) (q := fun r h9 => w32 r = VU S T ((xup (xup (xup h 63 0 x) 63 1 y) 63 2 z) 63) k ∧ (xup (xup (xup h 63 0 x) 63 1 y) 63 2 z) = h9) rfl rfl (Nat.le_of_ble_eq_true rfl) (c_comesToT (d + 1) 0 (xup (xup (xup h 63 0 x) 63 1 y) 63 2 z) S T k ev.1 ev.2.1 ev.2.2.1.2 ev.2.2.2.1 ev.2.2.2.2.1 ev.2.2.2.2.2.2 qk2 rx (fun v hv => ⟨v, rfl, hv, rfl⟩)) (fun r h9 hv => ?_)
  obtain ⟨hv, rfl⟩ := hv
  show xEx G0 cdX11_value (some .int) (xRn G0 MT (d + 24)) Q 0 22 [some (.inr (.inr 0)), some (.inl 1), some (.inl k), some (.inl x), some (.inl y), some (.inl z), some (.inr (.inr 28))] [.inl r] (xup (xup (xup h 63 0 x) 63 1 y) 63 2 z)
  exact E_ret (x := (.ireturn, 0, [], [])) (v := some (.inl r)) rfl (Or.inl rfl) (hO qk q2 _ (by rw [hv]; exact VU_p ev rfl rfl rfl qk2.1 qk2.2))
set_option maxHeartbeats 1000000 in
theorem m_value1 (d b : Nat) (h S T : xH) (k x y z n0 : Int) (wt : Int → Int) (hk : xr k) (hx : xr x) (hy : xr y) (hz : xr z) (hm : 1 ≤ h 66 1 ∧ h 66 1 ≤ 3) (hR : RR h S) (hRT : RRT h T) (hF : FW n0 wt 9 S) (hT : FWT S 7 T) (h3 : 0 ≤ S 0 0 ∧ S 0 0 ≤ 300) (h4 : 0 ≤ T 0 0 ∧ T 0 0 ≤ 150) (hM1 : 0 ≤ h 66 19 ∧ h 66 19 ≤ 150) {Q : xO → xH → Prop} (hN : ¬ (0 ≤ k ∧ k < h 66 19) → Q (.inl (some (.inl (0)))) (xup h 66 0 1)) (hA : (0 ≤ k ∧ k < h 66 19) → ¬ inOk (h 66 1) x y z → Q (.inl (some (.inl (0)))) (xup h 66 0 2)) (hO : (0 ≤ k ∧ k < h 66 19) → inOk (h 66 1) x y z → ∀ h', (∀ a, a ≠ 94 → a ≠ 95 → h' a = (xup h 66 0 0) a) → Q (.inl (some (.inl (VU S T (pX x y z) k)))) h') : xRn G0 MT (d + 25) b 202 [.inr (.inr 66), .inl 1, .inl k, .inl x, .inl y, .inl z] h Q := by
  refine R_of (M := mX12_value) rfl (Nat.le_of_ble_eq_true rfl) ?_
  show xEx G0 cdX12_value (some .int) (xRn G0 MT (d + 24)) Q b 0 [some (.inr (.inr 66)), some (.inl 1), some (.inl k), some (.inl x), some (.inl y), some (.inl z)] [] h
  refine E_s 4 (i' := 4) (ls' := [some (.inr (.inr 66)), some (.inl 1), some (.inl k), some (.inl x), some (.inl y), some (.inl z)]) (sk' := [.inl k, .inl 1, .inr (.inr 66), .inr (.inr 66)]) (h' := h) rfl ?_
  refine E_cp (x := (.invokevirtual 295, 2, [(10, 193)], [0])) (q := fun r1 h9 => ((r1 = 1 ∧ (0 ≤ k ∧ k < h 66 19)) ∨ (r1 = 0 ∧ ¬ (0 ≤ k ∧ k < h 66 19))) ∧ h = h9) rfl rfl (Nat.le_of_ble_eq_true rfl) (m_isKept1 (d + 22) 0 h k hk hM1 (fun z => ⟨_, rfl, Or.inl ⟨rfl, z⟩, rfl⟩) (fun z => ⟨_, rfl, Or.inr ⟨rfl, z⟩, rfl⟩)) (fun r1 h9 q1 => ?_)
  obtain ⟨q1, rfl⟩ := q1
  show xEx G0 cdX12_value (some .int) (xRn G0 MT (d + 24)) Q b 5 [some (.inr (.inr 66)), some (.inl 1), some (.inl k), some (.inl x), some (.inl y), some (.inl z)] [.inl r1, .inr (.inr 66)] h
  refine E_b (x := (.ifCond .ne 7, 8, [], [])) rfl rfl (fun c5 => ?_) (fun c5 => ?_)
  · rw [c_ne (by first | assumption | (refine ⟨?_, ?_⟩ <;> omega) | (simp only [xr] at *; omega)) (by first | assumption | (refine ⟨?_, ?_⟩ <;> omega) | (simp only [xr] at *; omega))] at c5
    simp only [decide_eq_true_eq, decide_eq_false_iff_not, Decidable.not_not] at c5
    show xEx G0 cdX12_value (some .int) (xRn G0 MT (d + 24)) Q b 8 [some (.inr (.inr 66)), some (.inl 1), some (.inl k), some (.inl x), some (.inl y), some (.inl z)] [.inr (.inr 66)] h
    refine E_s 4 (i' := 12) (ls' := [some (.inr (.inr 66)), some (.inl 1), some (.inl k), some (.inl x), some (.inl y), some (.inl z)]) (sk' := [.inl z, .inl y, .inl x, .inr (.inr 66), .inr (.inr 66)]) (h' := h) rfl ?_
    refine E_cp (x := (.invokevirtual 187, 3, [(10, 159)], [0])) (q := fun r2 h9 => ((r2 = 1 ∧ (inOk (h 66 1) x y z)) ∨ (r2 = 0 ∧ ¬ (inOk (h 66 1) x y z))) ∧ h = h9) rfl rfl (Nat.le_of_ble_eq_true rfl) (m_areInputs (d + 22) 0 h x y z hm hx hy hz (fun z => ⟨_, rfl, Or.inl ⟨rfl, z⟩, rfl⟩) (fun z => ⟨_, rfl, Or.inr ⟨rfl, z⟩, rfl⟩)) (fun r2 h9 q2 => ?_)
    obtain ⟨q2, rfl⟩ := q2
    show xEx G0 cdX12_value (some .int) (xRn G0 MT (d + 24)) Q b 13 [some (.inr (.inr 66)), some (.inl 1), some (.inl k), some (.inl x), some (.inl y), some (.inl z)] [.inl r2, .inr (.inr 66)] h
    refine E_b (x := (.ifCond .ne 7, 16, [], [])) rfl rfl (fun c13 => ?_) (fun c13 => ?_)
    · rw [c_ne (by first | assumption | (refine ⟨?_, ?_⟩ <;> omega) | (simp only [xr] at *; omega)) (by first | assumption | (refine ⟨?_, ?_⟩ <;> omega) | (simp only [xr] at *; omega))] at c13
      simp only [decide_eq_true_eq, decide_eq_false_iff_not, Decidable.not_not] at c13
      show xEx G0 cdX12_value (some .int) (xRn G0 MT (d + 24)) Q b 16 [some (.inr (.inr 66)), some (.inl 1), some (.inl k), some (.inl x), some (.inl y), some (.inl z)] [.inr (.inr 66)] h
      refine E_s 2 (i' := 18) (ls' := [some (.inr (.inr 66)), some (.inl 1), some (.inl k), some (.inl x), some (.inl y), some (.inl z)]) (sk' := []) (h' := (xup h 66 0 0)) rfl ?_
      
      refine E_s 2 (i' := 20) (ls' := [some (.inr (.inr 66)), some (.inl 1), some (.inl k), some (.inl x), some (.inl y), some (.inl z)]) (sk' := [.inl 0]) (h' := (xup h 66 0 0)) rfl ?_
      refine E_b (x := (.ifCond .le 5, 23, [], [])) rfl rfl (fun c20 => ?_) (fun c20 => ?_)
      · show xEx G0 cdX12_value (some .int) (xRn G0 MT (d + 24)) Q b 23 [some (.inr (.inr 66)), some (.inl 1), some (.inl k), some (.inl x), some (.inl y), some (.inl z)] [] (xup h 66 0 0)
        refine E_s 4 (i' := 27) (ls' := [some (.inr (.inr 66)), some (.inl 1), some (.inl k), some (.inl x), some (.inl y), some (.inl z)]) (sk' := [.inl z, .inl y, .inl x, .inr (.inr 66)]) (h' := (xup h 66 0 0)) rfl ?_
        refine E_cv (x := (.invokevirtual 309, 3, [(10, 198)], [0])) (q := fun h9 => (∀ a, a ≠ 94 → a ≠ 95 → h9 a = (xup h 66 0 0) a) ∧ (∀ k, 0 ≤ k → k < S 0 0 → h9 94 k = VE S (pX x y z) k) ∧ (∀ t, 0 ≤ t → t < T 0 0 → h9 95 t = VU S T (pX x y z) t)) rfl rfl (Nat.le_of_ble_eq_true rfl) (m_reckons (d + 20) 0 (xup h 66 0 0) S T x y z n0 wt hx hy hz hR hRT hF hT h3 h4 (fun h9 z1 z2 z3 => ⟨rfl, z1, z2, z3⟩)) (fun h1 hq => ?_)
        obtain ⟨f1, f2, f3⟩ := hq
        show xEx G0 cdX12_value (some .int) (xRn G0 MT (d + 24)) Q b 28 [some (.inr (.inr 66)), some (.inl 1), some (.inl k), some (.inl x), some (.inl y), some (.inl z)] [] h1
        refine E_s 1 (i' := 29) (ls' := [some (.inr (.inr 66)), some (.inl 1), some (.inl k), some (.inl x), some (.inl y), some (.inl z)]) (sk' := [.inl 1]) (h' := h1) rfl ?_
        refine E_b (x := (.ifCond .eq 12, 35, [], [])) rfl rfl (fun c29 => ?_) (fun c29 => ?_)
        · show xEx G0 cdX12_value (some .int) (xRn G0 MT (d + 24)) Q b 35 [some (.inr (.inr 66)), some (.inl 1), some (.inl k), some (.inl x), some (.inl y), some (.inl z)] [] h1
          exact absurd c29 (by decide)
        · show xEx G0 cdX12_value (some .int) (xRn G0 MT (d + 24)) Q b 30 [some (.inr (.inr 66)), some (.inl 1), some (.inl k), some (.inl x), some (.inl y), some (.inl z)] [] h1
          refine E_s 3 (i' := 33) (ls' := [some (.inr (.inr 66)), some (.inl 1), some (.inl k), some (.inl x), some (.inl y), some (.inl z)]) (sk' := [.inl k, .inr (.inr 95)]) (h' := h1) rfl ?_
          refine E_ld (x := (.iaload, 0, [], [])) (ty := .int) (n := 150) rfl rfl rfl (by omega) (by omega) ?_
          show xEx G0 cdX12_value (some .int) (xRn G0 MT (d + 24)) Q b 34 [some (.inr (.inr 66)), some (.inl 1), some (.inl k), some (.inl x), some (.inl y), some (.inl z)] [.inl (h1 95 k)] h1
          refine E_s 1 (i' := 39) (ls' := [some (.inr (.inr 66)), some (.inl 1), some (.inl k), some (.inl x), some (.inl y), some (.inl z)]) (sk' := [.inl (h1 95 k)]) (h' := h1) rfl ?_
          exact E_ret (x := (.ireturn, 0, [], [])) (v := some (.inl (h1 95 k))) rfl (Or.inl rfl) (by
            have kk := o1 q1 c5
            have e9 := f3 k kk.1 (by rw [← hRT.1]; exact kk.2)
            rw [e9]
            exact hO kk (o1 q2 c13) _ f1)
      · show xEx G0 cdX12_value (some .int) (xRn G0 MT (d + 24)) Q b 21 [some (.inr (.inr 66)), some (.inl 1), some (.inl k), some (.inl x), some (.inl y), some (.inl z)] [] (xup h 66 0 0)
        exact absurd c20 (by decide)
    · rw [c_ne (by first | assumption | (refine ⟨?_, ?_⟩ <;> omega) | (simp only [xr] at *; omega)) (by first | assumption | (refine ⟨?_, ?_⟩ <;> omega) | (simp only [xr] at *; omega))] at c13
      simp only [decide_eq_true_eq, decide_eq_false_iff_not, Decidable.not_not] at c13
      show xEx G0 cdX12_value (some .int) (xRn G0 MT (d + 24)) Q b 14 [some (.inr (.inr 66)), some (.inl 1), some (.inl k), some (.inl x), some (.inl y), some (.inl z)] [.inr (.inr 66)] h
      refine E_s 3 (i' := 18) (ls' := [some (.inr (.inr 66)), some (.inl 1), some (.inl k), some (.inl x), some (.inl y), some (.inl z)]) (sk' := []) (h' := (xup h 66 0 2)) rfl ?_
      
      refine E_s 2 (i' := 20) (ls' := [some (.inr (.inr 66)), some (.inl 1), some (.inl k), some (.inl x), some (.inl y), some (.inl z)]) (sk' := [.inl 2]) (h' := (xup h 66 0 2)) rfl ?_
      refine E_b (x := (.ifCond .le 5, 23, [], [])) rfl rfl (fun c20 => ?_) (fun c20 => ?_)
      · show xEx G0 cdX12_value (some .int) (xRn G0 MT (d + 24)) Q b 23 [some (.inr (.inr 66)), some (.inl 1), some (.inl k), some (.inl x), some (.inl y), some (.inl z)] [] (xup h 66 0 2)
        exact absurd c20 (by decide)
      · show xEx G0 cdX12_value (some .int) (xRn G0 MT (d + 24)) Q b 21 [some (.inr (.inr 66)), some (.inl 1), some (.inl k), some (.inl x), some (.inl y), some (.inl z)] [] (xup h 66 0 2)
        refine E_s 1 (i' := 22) (ls' := [some (.inr (.inr 66)), some (.inl 1), some (.inl k), some (.inl x), some (.inl y), some (.inl z)]) (sk' := [.inl 0]) (h' := (xup h 66 0 2)) rfl ?_
        exact E_ret (x := (.ireturn, 0, [], [])) (v := some (.inl 0)) rfl (Or.inl rfl) (hA (o1 q1 c5) (o0 q2 c13))
  · rw [c_ne (by first | assumption | (refine ⟨?_, ?_⟩ <;> omega) | (simp only [xr] at *; omega)) (by first | assumption | (refine ⟨?_, ?_⟩ <;> omega) | (simp only [xr] at *; omega))] at c5
    simp only [decide_eq_true_eq, decide_eq_false_iff_not, Decidable.not_not] at c5
    show xEx G0 cdX12_value (some .int) (xRn G0 MT (d + 24)) Q b 6 [some (.inr (.inr 66)), some (.inl 1), some (.inl k), some (.inl x), some (.inl y), some (.inl z)] [.inr (.inr 66)] h
    refine E_s 3 (i' := 18) (ls' := [some (.inr (.inr 66)), some (.inl 1), some (.inl k), some (.inl x), some (.inl y), some (.inl z)]) (sk' := []) (h' := (xup h 66 0 1)) rfl ?_
    
    refine E_s 2 (i' := 20) (ls' := [some (.inr (.inr 66)), some (.inl 1), some (.inl k), some (.inl x), some (.inl y), some (.inl z)]) (sk' := [.inl 1]) (h' := (xup h 66 0 1)) rfl ?_
    refine E_b (x := (.ifCond .le 5, 23, [], [])) rfl rfl (fun c20 => ?_) (fun c20 => ?_)
    · show xEx G0 cdX12_value (some .int) (xRn G0 MT (d + 24)) Q b 23 [some (.inr (.inr 66)), some (.inl 1), some (.inl k), some (.inl x), some (.inl y), some (.inl z)] [] (xup h 66 0 1)
      exact absurd c20 (by decide)
    · show xEx G0 cdX12_value (some .int) (xRn G0 MT (d + 24)) Q b 21 [some (.inr (.inr 66)), some (.inl 1), some (.inl k), some (.inl x), some (.inl y), some (.inl z)] [] (xup h 66 0 1)
      refine E_s 1 (i' := 22) (ls' := [some (.inr (.inr 66)), some (.inl 1), some (.inl k), some (.inl x), some (.inl y), some (.inl z)]) (sk' := [.inl 0]) (h' := (xup h 66 0 1)) rfl ?_
      exact E_ret (x := (.ireturn, 0, [], [])) (v := some (.inl 0)) rfl (Or.inl rfl) (hN (o0 q1 c5))
