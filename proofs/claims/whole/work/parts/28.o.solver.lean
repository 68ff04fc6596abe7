def EQN (h g : xH) (n : Int) : Prop := ∀ j, 0 ≤ j → j < n → h 105 j = g 105 j ∧ h 106 j = g 106 j
/-- nothing that counts has changed, of the nodes where they lie -/
theorem Inv_fr2 {h h' : xH} (f : FM h (fun a => if a = 105 ∨ a = 106 then h a else h' a)) (e : ∀ j, 0 ≤ j → j < 32 → h' 105 j = h 105 j ∧ h' 106 j = h 106 j) (i : Inv h) : Inv h' := by
  obtain ⟨S, T, ib, ie, it, ip, is_, ix⟩ := Inv_fr f i
  have u : ∀ a, a ≠ 105 → a ≠ 106 → h' a = (fun a => if a = 105 ∨ a = 106 then h a else h' a) a := fun a z1 z2 => by
    show h' a = if a = 105 ∨ a = 106 then h a else h' a
    rw [if_neg (by omega)]
  have m : ∀ j, h' 66 j = (fun a => if a = 105 ∨ a = 106 then h a else h' a) 66 j := fun j => congrFun (u _ (by decide) (by decide)) j
  refine ⟨S, T, IB_fr (fun a z => u a (by omega) (by omega)) ⟨m _, m _, m _, m _, m _⟩ (u _ (by decide) (by decide)) (u _ (by decide) (by decide)) ib, IE_fr (fun a z1 z2 => u a (by omega) (by omega)) (u _ (by decide) (by decide)) (u _ (by decide) (by decide)) (m _) (m _) (congrFun (u 89 (by decide) (by decide)) _) (congrFun (u 88 (by decide) (by decide)) _) (congrFun (u 91 (by decide) (by decide)) _) (congrFun (u 90 (by decide) (by decide)) _) (fun k _ => ⟨congrFun (u 69 (by decide) (by decide)) _, congrFun (u 70 (by decide) (by decide)) _, congrFun (u 71 (by decide) (by decide)) _⟩) (fun a z1 z2 => u a (by omega) (by omega)) ie, IT_fr (fun a z1 z2 => u a (by omega) (by omega)) (u _ (by decide) (by decide)) (m _) (m _) (congrFun (u 89 (by decide) (by decide)) _) (congrFun (u 88 (by decide) (by decide)) _) (congrFun (u 91 (by decide) (by decide)) _) (congrFun (u 90 (by decide) (by decide)) _) (fun k _ => ⟨congrFun (u 79 (by decide) (by decide)) _, congrFun (u 80 (by decide) (by decide)) _, congrFun (u 81 (by decide) (by decide)) _⟩) (fun a z1 z2 => u a (by omega) (by omega)) it, ?_, IS_fr (STB.rf _) (STB.rf _) (fun a z1 z2 => u a (by omega) (by omega)) (u _ (by decide) (by decide)) is_, IX_fr (u _ (by decide) (by decide)) (u _ (by decide) (by decide)) (m _) (u _ (by decide) (by decide)) ix⟩
  obtain ⟨p1, p2, p3⟩ := ip
  refine ⟨p1, p2, fun q => ?_⟩
  obtain ⟨q1, q2, q3, q4, q5, q6, q7, q8⟩ := p3 q
  refine ⟨q1, q2, q3, q4, q5, fun nd z1 z2 => ?_, fun j z1 z2 z3 => ?_, q8⟩
  · obtain ⟨x1, x2, x3⟩ := q6 nd z1 z2
    obtain ⟨y1, y2⟩ := e (nd + 1) (by omega) (by omega)
    have x1 : h 105 (nd + 1) = h' 57 nd := x1
    have x2 : h 106 (nd + 1) = h' 58 nd := x2
    exact ⟨by rw [y1]; exact x1, by rw [y2]; exact x2, x3⟩
  · obtain ⟨x1, x2⟩ := q7 j z1 z2 z3
    obtain ⟨y1, y2⟩ := e j z1 z2
    have x1 : h 105 j = -1 := x1
    have x2 : h 106 j = -1 := x2
    exact ⟨by rw [y1]; exact x1, by rw [y2]; exact x2⟩
set_option maxHeartbeats 1000000 in
theorem m_isIdle (d b : Nat) (h S T : xH) (as le : Int → Int) (e n0 : Int) (wt : Int → Int) (hx : xr e) (m : Nat) (o : OKS S T (S 0 0) (T 0 0) m) (hm : m = (h 66 4).toNat) (hn : 0 ≤ h 66 4 ∧ h 66 4 ≤ 12) (hR : RR h S) (hRT : RRT h T) (hF : FW n0 wt 9 S) (hT : FWT S 7 T) (h3 : 0 ≤ S 0 0 ∧ S 0 0 ≤ 300) (h4 : 0 ≤ T 0 0 ∧ T 0 0 ≤ 150) (hs : h 66 50 = 0 ∨ h 66 50 = 1) (tn : h 66 50 = 1 → TN h as le) (hu : h 66 50 = 1 → ∀ j, 0 ≤ j → j < 32 → (j = 0 ∨ 16 ≤ j) → h 105 j = -1 ∧ h 106 j = -1) (hr : h 66 50 = 1 → ∀ nd, 0 ≤ nd → nd < 15 → -1 ≤ as nd ∧ as nd < T 0 0 ∧ -1 ≤ le nd ∧ le nd < S 0 0) (hif : h 66 50 = 1 → 0 ≤ h 66 51 ∧ h 66 51 ≤ 3) {Q : xO → xH → Prop} (hN : ¬ (h 66 50 = 1) → Q (.inl (some (.inl (0)))) (xup h 66 0 1)) (hA : (h 66 50 = 1) → ¬ (0 ≤ e ∧ e < h 66 4) → Q (.inl (some (.inl (0)))) (xup h 66 0 2)) (hZ : (h 66 50 = 1) → (0 ≤ e ∧ e < h 66 4) → h 66 4 = 1 → Q (.inl (some (.inl (0)))) (xup h 66 0 0)) (hO : (h 66 50 = 1) → (0 ≤ e ∧ e < h 66 4) → h 66 4 ≠ 1 → ∀ h', (∀ a, (a < 98 ∨ 109 < a) → h' a = (xup h 66 0 0) a) → (∀ j, 0 ≤ j → j < 32 → h' 105 j = h 105 j ∧ h' 106 j = h 106 j) → ∀ r, ((r = 1 ∧ SAM S T as le (h 66 51) (xand (xshl 1 (h 66 4) - 1) (xxor (xshl 1 e) (-1)))) ∨ (r = 0 ∧ ¬ SAM S T as le (h 66 51) (xand (xshl 1 (h 66 4) - 1) (xxor (xshl 1 e) (-1))))) → Q (.inl (some (.inl r))) h') : xRn G0 MT (d + 5) b 247 [.inr (.inr 66), .inl e] h Q := by
  refine R_of (M := mX12_isIdle) rfl (Nat.le_of_ble_eq_true rfl) ?_
  show xEx G0 cdX12_isIdle (some .boolean) (xRn G0 MT (d + 4)) Q b 0 [some (.inr (.inr 66)), some (.inl e), none, none, none] [] h
  refine E_s 3 (i' := 3) (ls' := [some (.inr (.inr 66)), some (.inl e), none, none, none]) (sk' := [.inl (h 66 50), .inr (.inr 66)]) (h' := h) rfl ?_
  refine E_b (x := (.ifCond .ne 7, 6, [], [])) rfl rfl (fun c3 => ?_) (fun c3 => ?_)
  · rw [c_ne (by first | assumption | (refine ⟨?_, ?_⟩ <;> omega) | (simp only [xr] at *; omega)) (by first | assumption | (refine ⟨?_, ?_⟩ <;> omega) | (simp only [xr] at *; omega))] at c3
    simp only [decide_eq_true_eq, decide_eq_false_iff_not, Decidable.not_not] at c3
    show xEx G0 cdX12_isIdle (some .boolean) (xRn G0 MT (d + 4)) Q b 6 [some (.inr (.inr 66)), some (.inl e), none, none, none] [.inr (.inr 66)] h
    refine E_s 2 (i' := 8) (ls' := [some (.inr (.inr 66)), some (.inl e), none, none, none]) (sk' := [.inl e, .inr (.inr 66), .inr (.inr 66)]) (h' := h) rfl ?_
    refine E_cp (x := (.invokevirtual 193, 1, [(10, 162)], [0])) (q := fun r2 h9 => ((r2 = 1 ∧ (0 ≤ e ∧ e < h 66 4)) ∨ (r2 = 0 ∧ ¬ (0 ≤ e ∧ e < h 66 4))) ∧ h = h9) rfl rfl (Nat.le_of_ble_eq_true rfl) (m_isExample (d + 2) 0 h e hx hn (fun z => ⟨_, rfl, Or.inl ⟨rfl, z⟩, rfl⟩) (fun z => ⟨_, rfl, Or.inr ⟨rfl, z⟩, rfl⟩)) (fun r2 h9 q2 => ?_)
    obtain ⟨q2, rfl⟩ := q2
    show xEx G0 cdX12_isIdle (some .boolean) (xRn G0 MT (d + 4)) Q b 9 [some (.inr (.inr 66)), some (.inl e), none, none, none] [.inl r2, .inr (.inr 66)] h
    refine E_b (x := (.ifCond .ne 7, 12, [], [])) rfl rfl (fun c9 => ?_) (fun c9 => ?_)
    · rw [c_ne (by first | assumption | (refine ⟨?_, ?_⟩ <;> omega) | (simp only [xr] at *; omega)) (by first | assumption | (refine ⟨?_, ?_⟩ <;> omega) | (simp only [xr] at *; omega))] at c9
      simp only [decide_eq_true_eq, decide_eq_false_iff_not, Decidable.not_not] at c9
      show xEx G0 cdX12_isIdle (some .boolean) (xRn G0 MT (d + 4)) Q b 12 [some (.inr (.inr 66)), some (.inl e), none, none, none] [.inr (.inr 66)] h
      refine E_s 4 (i' := 16) (ls' := [some (.inr (.inr 66)), some (.inl e), none, none, none]) (sk' := [.inl 0]) (h' := (xup h 66 0 0)) rfl ?_
      refine E_b (x := (.ifCond .gt 11, 21, [], [])) rfl rfl (fun c16 => ?_) (fun c16 => ?_)
      · show xEx G0 cdX12_isIdle (some .boolean) (xRn G0 MT (d + 4)) Q b 21 [some (.inr (.inr 66)), some (.inl e), none, none, none] [] (xup h 66 0 0)
        exact absurd c16 (by decide)
      · show xEx G0 cdX12_isIdle (some .boolean) (xRn G0 MT (d + 4)) Q b 17 [some (.inr (.inr 66)), some (.inl e), none, none, none] [] (xup h 66 0 0)
        refine E_s 3 (i' := 20) (ls' := [some (.inr (.inr 66)), some (.inl e), none, none, none]) (sk' := [.inl 1, .inl (h 66 4)]) (h' := (xup h 66 0 0)) rfl ?_
        refine E_b (x := (.if_icmp .ne 5, 23, [], [])) rfl rfl (fun c20 => ?_) (fun c20 => ?_)
        · rw [c_ne (by first | assumption | (refine ⟨?_, ?_⟩ <;> omega) | (simp only [xr] at *; omega)) (by first | assumption | (refine ⟨?_, ?_⟩ <;> omega) | (simp only [xr] at *; omega))] at c20
          simp only [decide_eq_true_eq, decide_eq_false_iff_not, Decidable.not_not] at c20
          show xEx G0 cdX12_isIdle (some .boolean) (xRn G0 MT (d + 4)) Q b 23 [some (.inr (.inr 66)), some (.inl e), none, none, none] [] (xup h 66 0 0)
          have qs : h 66 50 = 1 := by omega
          have qe := o1 q2 (by omega)
          have q1 : h 66 4 ≠ 1 := by omega
          have k3 := o.2.1
          have k4 := o.2.2.1
          have rgo : ∀ j, 0 ≤ j → j < 32 → xr (h 105 j) ∧ xr (h 106 j) := fun j z1 z2 => by
            by_cases y : j = 0 ∨ 16 ≤ j
            · obtain ⟨a, b⟩ := hu qs j z1 z2 y
              rw [a, b]; exact ⟨⟨by decide, by decide⟩, ⟨by decide, by decide⟩⟩
            · obtain ⟨a, b⟩ := tn qs j (by omega) (by omega)
              have c := hr qs (j - 1) (by omega) (by omega)
              rw [a, b]; exact ⟨⟨by omega, by omega⟩, ⟨by omega, by omega⟩⟩
          refine E_s 2 (i' := 25) (ls' := [some (.inr (.inr 66)), some (.inl e), some (.inl 0), none, none]) (sk' := []) (h' := (xup h 66 0 0)) rfl ?_
          have key25 : ∀ (n : Nat) (hc : xH) (n9 : Int), (0 ≤ n9) → (n9 ≤ 32) → (∀ a, a ≠ 108 → a ≠ 109 → hc a = (xup h 66 0 0) a) → (∀ j, 0 ≤ j → j < n9 → hc 108 j = h 105 j ∧ hc 109 j = h 106 j) → ((32 - n9).toNat) < n → xEx G0 cdX12_isIdle (some .boolean) (xRn G0 MT (d + 4)) Q b 25 [some (.inr (.inr 66)), some (.inl e), some (.inl n9), none, none] [] hc := by
            intro n
            induction n with
            | zero => intro hc n9 _ _ _ _ hm; exact absurd hm (Nat.not_lt_zero _)
            | succ n ih25 =>
              intro hc n9 hn0 hn9 hcf hcd hm25
              refine E_s 2 (i' := 27) (ls' := [some (.inr (.inr 66)), some (.inl e), some (.inl n9), none, none]) (sk' := [.inl 32, .inl n9]) (h' := hc) rfl ?_
              refine E_b (x := (.if_icmp .ge 33, 46, [], [])) rfl rfl (fun c27 => ?_) (fun c27 => ?_)
              · rw [c_ge (by first | assumption | (refine ⟨?_, ?_⟩ <;> omega) | (simp only [xr] at *; omega)) (by first | assumption | (refine ⟨?_, ?_⟩ <;> omega) | (simp only [xr] at *; omega))] at c27
                simp only [decide_eq_true_eq, decide_eq_false_iff_not, Decidable.not_not] at c27
                show xEx G0 cdX12_isIdle (some .boolean) (xRn G0 MT (d + 4)) Q b 46 [some (.inr (.inr 66)), some (.inl e), some (.inl n9), none, none] [] hc
                refine E_s 2 (i' := 48) (ls' := [some (.inr (.inr 66)), some (.inl e), some (.inl n9), none, none]) (sk' := [.inl (-1), .inr (.inr 66)]) (h' := hc) rfl ?_
                have hR9 : RR hc S := RR_hi (fun a z1 z2 => hcf a (by omega) (by omega)) (RR_vh0 hR)
                have hRT9 : RRT hc T := RRT_hi (fun a z1 z2 => hcf a (by omega) (by omega)) (RRT_vh0 hRT)
                refine E_cv (x := (.invokevirtual 391, 1, [(10, 229)], [0])) (q := fun h9 => (∀ a, a ≠ 98 → a ≠ 99 → a ≠ 103 → a ≠ 104 → h9 a = hc a) ∧ RB h9 S T (-1)) rfl rfl (Nat.le_of_ble_eq_true rfl) (m_barsN (d + 3) 0 hc S T n0 wt hR9 hRT9 hF hT h3 h4 (fun h9 z1 z2 => ⟨rfl, z1, z2⟩)) (fun h1 hq1 => ?_)
                obtain ⟨f1, rb1⟩ := hq1
                have x1 : h1 66 = (xup h 66 0 0) 66 := by rw [f1 _ (by decide) (by decide) (by decide) (by decide)]; exact hcf _ (by decide) (by decide)
                have ra1 : RA h1 S T := RA_fr (fun a z => f1 a (by omega) (by omega) (by omega) (by omega)) (RA_rr hR9 hRT9)
                have io : ir m (xand (xshl 1 (h 66 4) - 1) (xxor (xshl 1 e) (-1))) := ir_oth hn.1 hn.2 hm qe
                have on : (xand (xshl 1 (h 66 4) - 1) (xxor (xshl 1 e) (-1))) ≠ 0 := fun y => q1 ((oth_0 hn.1 hn.2 qe).mp y)
                have hi := hif qs
                have x51 : h1 66 51 = h 66 51 := by rw [x1]; rfl
                show xEx G0 cdX12_isIdle (some .boolean) (xRn G0 MT (d + 4)) Q b 49 [some (.inr (.inr 66)), some (.inl e), some (.inl n9), none, none] [] h1
                refine E_s 1 (i' := 50) (ls' := [some (.inr (.inr 66)), some (.inl e), some (.inl n9), none, none]) (sk' := [.inr (.inr 66)]) (h' := h1) rfl ?_
                refine E_ci (x := (.invokevirtual 257, 0, [(10, 156)], [0])) (r := (xshl 1 (h 66 4) - 1)) (h' := h1) rfl rfl (Nat.le_of_ble_eq_true rfl) (m_all (d + 3) 0 h1 ⟨by rw [x1]; rfl, rfl⟩) ?_
                show xEx G0 cdX12_isIdle (some .boolean) (xRn G0 MT (d + 4)) Q b 51 [some (.inr (.inr 66)), some (.inl e), some (.inl n9), none, none] [.inl (xshl 1 (h 66 4) - 1)] h1
                refine E_s 11 (i' := 62) (ls' := [some (.inr (.inr 66)), some (.inl e), some (.inl (xand (xshl 1 (h 66 4) - 1) (xxor (xshl 1 e) (-1)))), none, none]) (sk' := [.inl (xand (xshl 1 (h 66 4) - 1) (xxor (xshl 1 e) (-1))), .inl (h1 66 51), .inr (.inr 66)]) (h' := h1) rfl ?_
                refine E_cp (x := (.invokevirtual 394, 2, [(10, 228)], [0])) (q := fun r h9 => r = szf S T (S 0 0) (T 0 0) (-1) (h1 66 51).toNat (xand (xshl 1 (h 66 4) - 1) (xxor (xshl 1 e) (-1))) ∧ (∀ a, a ≠ 100 → a ≠ 101 → a ≠ 102 → h9 a = h1 a) ∧ (∀ r : Int, ir m r → r ≠ 0 → sub r (xand (xshl 1 (h 66 4) - 1) (xxor (xshl 1 e) (-1))) → h9 100 r = lf S (S 0 0) (-1) r) ∧ (∀ j : Int, 0 ≤ j → ∀ s : Int, ir m s → s ≠ 0 → sub s (xand (xshl 1 (h 66 4) - 1) (xxor (xshl 1 e) (-1))) → (j ≤ h1 66 51) → h9 101 (4096 * j + s) = szf S T (S 0 0) (T 0 0) (-1) j.toNat s ∧ h9 102 (4096 * j + s) = bti S T (S 0 0) (T 0 0) (-1) j.toNat s)) rfl rfl (Nat.le_of_ble_eq_true rfl) (m_lays (d + 2) 0 h1 S T (-1) (h1 66 51) (xand (xshl 1 (h 66 4) - 1) (xxor (xshl 1 e) (-1))) m o ra1 rb1 io on (by rw [x51]; exact hi) (fun h9 z1 z2 z3 => ⟨_, rfl, rfl, z1, z2, z3⟩)) (fun r2 h2 hq2 => ?_)
                obtain ⟨er2, f2, lf2, ls2⟩ := hq2
                rw [x51] at er2 ls2
                have zr2 := szf_r (p := -1) o ((h 66 51).toNat) (xand (xshl 1 (h 66 4) - 1) (xxor (xshl 1 e) (-1)))
                show xEx G0 cdX12_isIdle (some .boolean) (xRn G0 MT (d + 4)) Q b 63 [some (.inr (.inr 66)), some (.inl e), some (.inl (xand (xshl 1 (h 66 4) - 1) (xxor (xshl 1 e) (-1)))), none, none] [.inl r2] h2
                refine E_ti (y := (szf S T (S 0 0) (T 0 0) (-1) (h 66 51).toNat (xand (xshl 1 (h 66 4) - 1) (xxor (xshl 1 e) (-1))))) (by rw [er2]) ?_
                have x2 : h2 66 = h1 66 := f2 _ (by decide) (by decide) (by decide)
                have y51 : h2 66 51 = h 66 51 := by rw [x2]; exact x51
                have ra2 : RA h2 S T := RA_fr (fun a z => f2 a (by omega) (by omega) (by omega)) ra1
                have w2 : ∀ a, (a < 98 ∨ 104 < a) → a ≠ 108 → a ≠ 109 → h2 a = (xup h 66 0 0) a := fun a z z8 z9 => by rw [f2 a (by omega) (by omega) (by omega), f1 a (by omega) (by omega) (by omega) (by omega)]; exact hcf a z8 z9
                have d2 : ∀ j, 0 ≤ j → j < 32 → h2 108 j = h 105 j ∧ h2 109 j = h 106 j := fun j z1 z2 => by
                  rw [f2 _ (by decide) (by decide) (by decide), f2 _ (by decide) (by decide) (by decide), f1 _ (by decide) (by decide) (by decide) (by decide), f1 _ (by decide) (by decide) (by decide) (by decide)]
                  exact hcd j z1 (by omega)
                refine E_s 1 (i' := 64) (ls' := [some (.inr (.inr 66)), some (.inl e), some (.inl (xand (xshl 1 (h 66 4) - 1) (xxor (xshl 1 e) (-1)))), none, none]) (sk' := [.inl 1000000, .inl (szf S T (S 0 0) (T 0 0) (-1) (h 66 51).toNat (xand (xshl 1 (h 66 4) - 1) (xxor (xshl 1 e) (-1))))]) (h' := h2) rfl ?_
                refine E_b (x := (.if_icmp .ge 7, 67, [], [])) rfl rfl (fun c64 => ?_) (fun c64 => ?_)
                · rw [c_ge (by first | assumption | (refine ⟨?_, ?_⟩ <;> omega) | (simp only [xr] at *; omega)) (by first | assumption | (refine ⟨?_, ?_⟩ <;> omega) | (simp only [xr] at *; omega))] at c64
                  simp only [decide_eq_true_eq, decide_eq_false_iff_not, Decidable.not_not] at c64
                  show xEx G0 cdX12_isIdle (some .boolean) (xRn G0 MT (d + 4)) Q b 67 [some (.inr (.inr 66)), some (.inl e), some (.inl (xand (xshl 1 (h 66 4) - 1) (xxor (xshl 1 e) (-1)))), none, none] [] h2
                  refine E_s 3 (i' := 70) (ls' := [some (.inr (.inr 66)), some (.inl e), some (.inl (xand (xshl 1 (h 66 4) - 1) (xxor (xshl 1 e) (-1)))), some (.inl 0), none]) (sk' := [.inl 0]) (h' := h2) rfl ?_
                  refine E_b (x := (.ifCond .eq 12, 76, [], [])) rfl rfl (fun c70 => ?_) (fun c70 => ?_)
                  · show xEx G0 cdX12_isIdle (some .boolean) (xRn G0 MT (d + 4)) Q b 76 [some (.inr (.inr 66)), some (.inl e), some (.inl (xand (xshl 1 (h 66 4) - 1) (xxor (xshl 1 e) (-1)))), some (.inl 0), none] [] h2
                    generalize hgg : h2 = gg
                    have w9 : ∀ a, (a < 98 ∨ 104 < a) → a ≠ 108 → a ≠ 109 → a ≠ 105 → a ≠ 106 → a ≠ 107 → gg a = (xup h 66 0 0) a := fun a z z8 z9 y1 y2 y3 => by rw [← hgg]; exact w2 a z z8 z9
                    have d9 : ∀ j, 0 ≤ j → j < 32 → gg 108 j = h 105 j ∧ gg 109 j = h 106 j := fun j z1 z2 => by rw [← hgg]; exact d2 j z1 z2
                    have rg : ∀ j, 0 ≤ j → j < 32 → xr (gg 105 j) ∧ xr (gg 106 j) := fun j z1 z2 => by
                      rw [← hgg, w2 _ (by decide) (by decide) (by decide), w2 _ (by decide) (by decide) (by decide)]
                      exact rgo j z1 z2
                    have fin : SAM S T as le (h 66 51) (xand (xshl 1 (h 66 4) - 1) (xxor (xshl 1 e) (-1))) ↔ (szf S T (S 0 0) (T 0 0) (-1) (h 66 51).toNat (xand (xshl 1 (h 66 4) - 1) (xxor (xshl 1 e) (-1))) < 1000000 ∧ EQN h gg 32) := ⟨fun y => by have := y.1; omega, fun y => by have := y.1; omega⟩
                    have ent : ((0 : Int) = 1 ∧ (szf S T (S 0 0) (T 0 0) (-1) (h 66 51).toNat (xand (xshl 1 (h 66 4) - 1) (xxor (xshl 1 e) (-1))) < 1000000 ∧ EQN h gg 0)) ∨ ((0 : Int) = 0 ∧ ¬ (szf S T (S 0 0) (T 0 0) (-1) (h 66 51).toNat (xand (xshl 1 (h 66 4) - 1) (xxor (xshl 1 e) (-1))) < 1000000 ∧ EQN h gg 0)) := Or.inr ⟨rfl, fun y => by have := y.1; omega⟩
                    show xEx G0 cdX12_isIdle (some .boolean) (xRn G0 MT (d + 4)) Q b 76 [some (.inr (.inr 66)), some (.inl e), some (.inl (xand (xshl 1 (h 66 4) - 1) (xxor (xshl 1 e) (-1)))), some (.inl 0), none] [] gg
                    refine E_s 2 (i' := 78) (ls' := [some (.inr (.inr 66)), some (.inl e), some (.inl (xand (xshl 1 (h 66 4) - 1) (xxor (xshl 1 e) (-1)))), some (.inl 0), some (.inl 0)]) (sk' := []) (h' := gg) rfl ?_
                    have key78 : ∀ (n : Nat) (hh : xH) (n9 ii : Int), (0 ≤ n9) → (n9 ≤ 32) → (ii = 0 ∨ ii = 1) → (∀ a, a ≠ 105 → a ≠ 106 → hh a = gg a) → (∀ j, 0 ≤ j → j < n9 → hh 105 j = h 105 j ∧ hh 106 j = h 106 j) → (∀ j, n9 ≤ j → j < 32 → hh 105 j = gg 105 j ∧ hh 106 j = gg 106 j) → ((ii = 1 ∧ (szf S T (S 0 0) (T 0 0) (-1) (h 66 51).toNat (xand (xshl 1 (h 66 4) - 1) (xxor (xshl 1 e) (-1))) < 1000000 ∧ EQN h gg n9)) ∨ (ii = 0 ∧ ¬ (szf S T (S 0 0) (T 0 0) (-1) (h 66 51).toNat (xand (xshl 1 (h 66 4) - 1) (xxor (xshl 1 e) (-1))) < 1000000 ∧ EQN h gg n9))) → ((32 - n9).toNat) < n → xEx G0 cdX12_isIdle (some .boolean) (xRn G0 MT (d + 4)) Q b 78 [some (.inr (.inr 66)), some (.inl e), some (.inl (xand (xshl 1 (h 66 4) - 1) (xxor (xshl 1 e) (-1)))), some (.inl ii), some (.inl n9)] [] hh := by
                      intro n
                      induction n with
                      | zero => intro hh n9 ii _ _ _ _ _ _ _ hm; exact absurd hm (Nat.not_lt_zero _)
                      | succ n ih78 =>
                        intro hh n9 ii hn0 hn9 hii hhf hh1 hh2 hhe hm78
                        refine E_s 2 (i' := 80) (ls' := [some (.inr (.inr 66)), some (.inl e), some (.inl (xand (xshl 1 (h 66 4) - 1) (xxor (xshl 1 e) (-1)))), some (.inl ii), some (.inl n9)]) (sk' := [.inl 32, .inl n9]) (h' := hh) rfl ?_
                        refine E_b (x := (.if_icmp .ge 81, 123, [], [])) rfl rfl (fun c80 => ?_) (fun c80 => ?_)
                        · rw [c_ge (by first | assumption | (refine ⟨?_, ?_⟩ <;> omega) | (simp only [xr] at *; omega)) (by first | assumption | (refine ⟨?_, ?_⟩ <;> omega) | (simp only [xr] at *; omega))] at c80
                          simp only [decide_eq_true_eq, decide_eq_false_iff_not, Decidable.not_not] at c80
                          show xEx G0 cdX12_isIdle (some .boolean) (xRn G0 MT (d + 4)) Q b 123 [some (.inr (.inr 66)), some (.inl e), some (.inl (xand (xshl 1 (h 66 4) - 1) (xxor (xshl 1 e) (-1)))), some (.inl ii), some (.inl n9)] [] hh
                          have e32 : n9 = 32 := by omega
                          rw [e32] at hhe hh1
                          refine E_s 1 (i' := 124) (ls' := [some (.inr (.inr 66)), some (.inl e), some (.inl (xand (xshl 1 (h 66 4) - 1) (xxor (xshl 1 e) (-1)))), some (.inl ii), some (.inl n9)]) (sk' := [.inl ii]) (h' := hh) rfl ?_
                          exact E_ret (x := (.ireturn, 0, [], [])) (v := some (.inl ii)) rfl (Or.inr ⟨rfl, hii⟩) (hO qs qe q1 hh (fun a z => by rw [hhf a (by omega) (by omega)]; exact w9 a (by omega) (by omega) (by omega) (by omega) (by omega) (by omega)) hh1 ii (by rw [fin]; exact hhe))
                        · rw [c_ge (by first | assumption | (refine ⟨?_, ?_⟩ <;> omega) | (simp only [xr] at *; omega)) (by first | assumption | (refine ⟨?_, ?_⟩ <;> omega) | (simp only [xr] at *; omega))] at c80
                          simp only [decide_eq_true_eq, decide_eq_false_iff_not, Decidable.not_not] at c80
                          show xEx G0 cdX12_isIdle (some .boolean) (xRn G0 MT (d + 4)) Q b 81 [some (.inr (.inr 66)), some (.inl e), some (.inl (xand (xshl 1 (h 66 4) - 1) (xxor (xshl 1 e) (-1)))), some (.inl ii), some (.inl n9)] [] hh
                          refine E_s 1 (i' := 82) (ls' := [some (.inr (.inr 66)), some (.inl e), some (.inl (xand (xshl 1 (h 66 4) - 1) (xxor (xshl 1 e) (-1)))), some (.inl ii), some (.inl n9)]) (sk' := [.inl ii]) (h' := hh) rfl ?_
                          refine E_b (x := (.ifCond .eq 41, 103, [], [])) rfl rfl (fun c82 => ?_) (fun c82 => ?_)
                          · rw [c_eq (by first | assumption | (refine ⟨?_, ?_⟩ <;> omega) | (simp only [xr] at *; omega)) (by first | assumption | (refine ⟨?_, ?_⟩ <;> omega) | (simp only [xr] at *; omega))] at c82
                            simp only [decide_eq_true_eq, decide_eq_false_iff_not, Decidable.not_not] at c82
                            show xEx G0 cdX12_isIdle (some .boolean) (xRn G0 MT (d + 4)) Q b 103 [some (.inr (.inr 66)), some (.inl e), some (.inl (xand (xshl 1 (h 66 4) - 1) (xxor (xshl 1 e) (-1)))), some (.inl ii), some (.inl n9)] [] hh
                            have nhyp : ¬ (szf S T (S 0 0) (T 0 0) (-1) (h 66 51).toNat (xand (xshl 1 (h 66 4) - 1) (xxor (xshl 1 e) (-1))) < 1000000 ∧ EQN h gg (n9 + 1)) := by
                              rintro ⟨y1, y2⟩
                              first
                              | exact c91 (by rw [b1, g1]; exact (y2 n9 hn0 (by omega)).1)
                              | exact c100 (by rw [b2, g2]; exact (y2 n9 hn0 (by omega)).2)
                              | (rcases hhe with ⟨y, -⟩ | ⟨-, y⟩
                                 · omega
                                 · exact y ⟨y1, fun j z1 z2 => y2 j z1 (by omega)⟩)
                            refine E_s 8 (i' := 111) (ls' := [some (.inr (.inr 66)), some (.inl e), some (.inl (xand (xshl 1 (h 66 4) - 1) (xxor (xshl 1 e) (-1)))), some (.inl 0), some (.inl n9)]) (sk' := [.inl n9, .inr (.inr 108), .inl n9, .inr (.inr 105)]) (h' := hh) rfl ?_
                            refine E_ld (x := (.iaload, 0, [], [])) (ty := .int) (n := 32) rfl rfl rfl (by omega) (by omega) ?_
                            show xEx G0 cdX12_isIdle (some .boolean) (xRn G0 MT (d + 4)) Q b 112 [some (.inr (.inr 66)), some (.inl e), some (.inl (xand (xshl 1 (h 66 4) - 1) (xxor (xshl 1 e) (-1)))), some (.inl 0), some (.inl n9)] [.inl (hh 108 n9), .inl n9, .inr (.inr 105)] hh
                            refine E_sd (x := (.iastore, 0, [], [])) (ty := .int) (n := 32) (y := (hh 108 n9)) rfl rfl rfl (by omega) (by omega) (trivial) ?_
                            show xEx G0 cdX12_isIdle (some .boolean) (xRn G0 MT (d + 4)) Q b 113 [some (.inr (.inr 66)), some (.inl e), some (.inl (xand (xshl 1 (h 66 4) - 1) (xxor (xshl 1 e) (-1)))), some (.inl 0), some (.inl n9)] [] (xup hh 105 n9 (hh 108 n9))
                            refine E_s 6 (i' := 119) (ls' := [some (.inr (.inr 66)), some (.inl e), some (.inl (xand (xshl 1 (h 66 4) - 1) (xxor (xshl 1 e) (-1)))), some (.inl 0), some (.inl n9)]) (sk' := [.inl n9, .inr (.inr 109), .inl n9, .inr (.inr 106)]) (h' := (xup hh 105 n9 (hh 108 n9))) rfl ?_
                            refine E_ld (x := (.iaload, 0, [], [])) (ty := .int) (n := 32) rfl rfl rfl (by omega) (by omega) ?_
                            show xEx G0 cdX12_isIdle (some .boolean) (xRn G0 MT (d + 4)) Q b 120 [some (.inr (.inr 66)), some (.inl e), some (.inl (xand (xshl 1 (h 66 4) - 1) (xxor (xshl 1 e) (-1)))), some (.inl 0), some (.inl n9)] [.inl (hh 109 n9), .inl n9, .inr (.inr 106)] (xup hh 105 n9 (hh 108 n9))
                            refine E_sd (x := (.iastore, 0, [], [])) (ty := .int) (n := 32) (y := (hh 109 n9)) rfl rfl rfl (by omega) (by omega) (trivial) ?_
                            show xEx G0 cdX12_isIdle (some .boolean) (xRn G0 MT (d + 4)) Q b 121 [some (.inr (.inr 66)), some (.inl e), some (.inl (xand (xshl 1 (h 66 4) - 1) (xxor (xshl 1 e) (-1)))), some (.inl 0), some (.inl n9)] [] (xup (xup hh 105 n9 (hh 108 n9)) 106 n9 (hh 109 n9))
                            refine E_s 2 (i' := 78) (ls' := [some (.inr (.inr 66)), some (.inl e), some (.inl (xand (xshl 1 (h 66 4) - 1) (xxor (xshl 1 e) (-1)))), some (.inl 0), some (.inl (n9 + 1))]) (sk' := []) (h' := (xup (xup hh 105 n9 (hh 108 n9)) 106 n9 (hh 109 n9))) rfl ?_
                            exact ih78 _ (n9 + 1) 0 (by omega) (by omega) (by omega) (fun a z1 z2 => by rw [xup_o _ _ _ _ a z2, xup_o _ _ _ _ a z1]; exact hhf a z1 z2) (fun j z1 z2 => by
                              by_cases e9 : j = n9
                              · rw [e9, xup_s, xup_o _ _ _ _ _ (by decide), xup_s]
                                rw [hhf _ (by decide) (by decide), hhf _ (by decide) (by decide)]
                                exact d9 n9 hn0 (by omega)
                              · rw [xup_j e9, xup_o _ _ _ _ _ (by decide), xup_j e9, xup_o _ _ _ _ _ (by decide)]
                                exact hh1 j z1 (by omega)) (fun j z1 z2 => by
                              rw [xup_j (by omega), xup_o _ _ _ _ _ (by decide), xup_j (by omega), xup_o _ _ _ _ _ (by decide)]
                              exact hh2 j (by omega) z2) (Or.inr ⟨rfl, nhyp⟩) (by omega)
                          · rw [c_eq (by first | assumption | (refine ⟨?_, ?_⟩ <;> omega) | (simp only [xr] at *; omega)) (by first | assumption | (refine ⟨?_, ?_⟩ <;> omega) | (simp only [xr] at *; omega))] at c82
                            simp only [decide_eq_true_eq, decide_eq_false_iff_not, Decidable.not_not] at c82
                            show xEx G0 cdX12_isIdle (some .boolean) (xRn G0 MT (d + 4)) Q b 83 [some (.inr (.inr 66)), some (.inl e), some (.inl (xand (xshl 1 (h 66 4) - 1) (xxor (xshl 1 e) (-1)))), some (.inl ii), some (.inl n9)] [] hh
                            obtain ⟨g1, g2⟩ := hh2 n9 (Int.le_refl _) (by omega)
                            obtain ⟨g3, g4⟩ := rg n9 hn0 (by omega)
                            obtain ⟨g5, g6⟩ := d9 n9 hn0 (by omega)
                            obtain ⟨g7, g8⟩ := rgo n9 hn0 (by omega)
                            have b1 : hh 108 n9 = h 105 n9 := by rw [hhf _ (by decide) (by decide)]; exact g5
                            have b2 : hh 109 n9 = h 106 n9 := by rw [hhf _ (by decide) (by decide)]; exact g6
                            have hyp : szf S T (S 0 0) (T 0 0) (-1) (h 66 51).toNat (xand (xshl 1 (h 66 4) - 1) (xxor (xshl 1 e) (-1))) < 1000000 ∧ EQN h gg n9 := by
                              rcases hhe with ⟨-, y⟩ | ⟨y, -⟩
                              · exact y
                              · exact absurd y c82
                            refine E_s 3 (i' := 86) (ls' := [some (.inr (.inr 66)), some (.inl e), some (.inl (xand (xshl 1 (h 66 4) - 1) (xxor (xshl 1 e) (-1)))), some (.inl ii), some (.inl n9)]) (sk' := [.inl n9, .inr (.inr 108)]) (h' := hh) rfl ?_
                            refine E_ld (x := (.iaload, 0, [], [])) (ty := .int) (n := 32) rfl rfl rfl (by omega) (by omega) ?_
                            show xEx G0 cdX12_isIdle (some .boolean) (xRn G0 MT (d + 4)) Q b 87 [some (.inr (.inr 66)), some (.inl e), some (.inl (xand (xshl 1 (h 66 4) - 1) (xxor (xshl 1 e) (-1)))), some (.inl ii), some (.inl n9)] [.inl (hh 108 n9)] hh
                            refine E_s 3 (i' := 90) (ls' := [some (.inr (.inr 66)), some (.inl e), some (.inl (xand (xshl 1 (h 66 4) - 1) (xxor (xshl 1 e) (-1)))), some (.inl ii), some (.inl n9)]) (sk' := [.inl n9, .inr (.inr 105), .inl (hh 108 n9)]) (h' := hh) rfl ?_
                            refine E_ld (x := (.iaload, 0, [], [])) (ty := .int) (n := 32) rfl rfl rfl (by omega) (by omega) ?_
                            show xEx G0 cdX12_isIdle (some .boolean) (xRn G0 MT (d + 4)) Q b 91 [some (.inr (.inr 66)), some (.inl e), some (.inl (xand (xshl 1 (h 66 4) - 1) (xxor (xshl 1 e) (-1)))), some (.inl ii), some (.inl n9)] [.inl (hh 105 n9), .inl (hh 108 n9)] hh
                            refine E_b (x := (.if_icmp .ne 24, 103, [], [])) rfl rfl (fun c91 => ?_) (fun c91 => ?_)
                            · rw [c_ne (by first | (rw [b1]; exact g7) | (rw [g1]; exact g3)) (by first | (rw [b1]; exact g7) | (rw [g1]; exact g3))] at c91
                              simp only [decide_eq_true_eq, decide_eq_false_iff_not, Decidable.not_not] at c91
                              show xEx G0 cdX12_isIdle (some .boolean) (xRn G0 MT (d + 4)) Q b 103 [some (.inr (.inr 66)), some (.inl e), some (.inl (xand (xshl 1 (h 66 4) - 1) (xxor (xshl 1 e) (-1)))), some (.inl ii), some (.inl n9)] [] hh
                              have nhyp : ¬ (szf S T (S 0 0) (T 0 0) (-1) (h 66 51).toNat (xand (xshl 1 (h 66 4) - 1) (xxor (xshl 1 e) (-1))) < 1000000 ∧ EQN h gg (n9 + 1)) := by
                                rintro ⟨y1, y2⟩
                                first
                                | exact c91 (by rw [b1, g1]; exact (y2 n9 hn0 (by omega)).1)
                                | exact c100 (by rw [b2, g2]; exact (y2 n9 hn0 (by omega)).2)
                                | (rcases hhe with ⟨y, -⟩ | ⟨-, y⟩
                                   · omega
                                   · exact y ⟨y1, fun j z1 z2 => y2 j z1 (by omega)⟩)
                              refine E_s 8 (i' := 111) (ls' := [some (.inr (.inr 66)), some (.inl e), some (.inl (xand (xshl 1 (h 66 4) - 1) (xxor (xshl 1 e) (-1)))), some (.inl 0), some (.inl n9)]) (sk' := [.inl n9, .inr (.inr 108), .inl n9, .inr (.inr 105)]) (h' := hh) rfl ?_
                              refine E_ld (x := (.iaload, 0, [], [])) (ty := .int) (n := 32) rfl rfl rfl (by omega) (by omega) ?_
                              show xEx G0 cdX12_isIdle (some .boolean) (xRn G0 MT (d + 4)) Q b 112 [some (.inr (.inr 66)), some (.inl e), some (.inl (xand (xshl 1 (h 66 4) - 1) (xxor (xshl 1 e) (-1)))), some (.inl 0), some (.inl n9)] [.inl (hh 108 n9), .inl n9, .inr (.inr 105)] hh
                              refine E_sd (x := (.iastore, 0, [], [])) (ty := .int) (n := 32) (y := (hh 108 n9)) rfl rfl rfl (by omega) (by omega) (trivial) ?_
                              show xEx G0 cdX12_isIdle (some .boolean) (xRn G0 MT (d + 4)) Q b 113 [some (.inr (.inr 66)), some (.inl e), some (.inl (xand (xshl 1 (h 66 4) - 1) (xxor (xshl 1 e) (-1)))), some (.inl 0), some (.inl n9)] [] (xup hh 105 n9 (hh 108 n9))
                              refine E_s 6 (i' := 119) (ls' := [some (.inr (.inr 66)), some (.inl e), some (.inl (xand (xshl 1 (h 66 4) - 1) (xxor (xshl 1 e) (-1)))), some (.inl 0), some (.inl n9)]) (sk' := [.inl n9, .inr (.inr 109), .inl n9, .inr (.inr 106)]) (h' := (xup hh 105 n9 (hh 108 n9))) rfl ?_
                              refine E_ld (x := (.iaload, 0, [], [])) (ty := .int) (n := 32) rfl rfl rfl (by omega) (by omega) ?_
                              show xEx G0 cdX12_isIdle (some .boolean) (xRn G0 MT (d + 4)) Q b 120 [some (.inr (.inr 66)), some (.inl e), some (.inl (xand (xshl 1 (h 66 4) - 1) (xxor (xshl 1 e) (-1)))), some (.inl 0), some (.inl n9)] [.inl (hh 109 n9), .inl n9, .inr (.inr 106)] (xup hh 105 n9 (hh 108 n9))
                              refine E_sd (x := (.iastore, 0, [], [])) (ty := .int) (n := 32) (y := (hh 109 n9)) rfl rfl rfl (by omega) (by omega) (trivial) ?_
                              show xEx G0 cdX12_isIdle (some .boolean) (xRn G0 MT (d + 4)) Q b 121 [some (.inr (.inr 66)), some (.inl e), some (.inl (xand (xshl 1 (h 66 4) - 1) (xxor (xshl 1 e) (-1)))), some (.inl 0), some (.inl n9)] [] (xup (xup hh 105 n9 (hh 108 n9)) 106 n9 (hh 109 n9))
                              refine E_s 2 (i' := 78) (ls' := [some (.inr (.inr 66)), some (.inl e), some (.inl (xand (xshl 1 (h 66 4) - 1) (xxor (xshl 1 e) (-1)))), some (.inl 0), some (.inl (n9 + 1))]) (sk' := []) (h' := (xup (xup hh 105 n9 (hh 108 n9)) 106 n9 (hh 109 n9))) rfl ?_
                              exact ih78 _ (n9 + 1) 0 (by omega) (by omega) (by omega) (fun a z1 z2 => by rw [xup_o _ _ _ _ a z2, xup_o _ _ _ _ a z1]; exact hhf a z1 z2) (fun j z1 z2 => by
                                by_cases e9 : j = n9
                                · rw [e9, xup_s, xup_o _ _ _ _ _ (by decide), xup_s]
                                  rw [hhf _ (by decide) (by decide), hhf _ (by decide) (by decide)]
                                  exact d9 n9 hn0 (by omega)
                                · rw [xup_j e9, xup_o _ _ _ _ _ (by decide), xup_j e9, xup_o _ _ _ _ _ (by decide)]
                                  exact hh1 j z1 (by omega)) (fun j z1 z2 => by
                                rw [xup_j (by omega), xup_o _ _ _ _ _ (by decide), xup_j (by omega), xup_o _ _ _ _ _ (by decide)]
                                exact hh2 j (by omega) z2) (Or.inr ⟨rfl, nhyp⟩) (by omega)
                            · rw [c_ne (by first | (rw [b1]; exact g7) | (rw [g1]; exact g3)) (by first | (rw [b1]; exact g7) | (rw [g1]; exact g3))] at c91
                              simp only [decide_eq_true_eq, decide_eq_false_iff_not, Decidable.not_not] at c91
                              show xEx G0 cdX12_isIdle (some .boolean) (xRn G0 MT (d + 4)) Q b 92 [some (.inr (.inr 66)), some (.inl e), some (.inl (xand (xshl 1 (h 66 4) - 1) (xxor (xshl 1 e) (-1)))), some (.inl ii), some (.inl n9)] [] hh
                              refine E_s 3 (i' := 95) (ls' := [some (.inr (.inr 66)), some (.inl e), some (.inl (xand (xshl 1 (h 66 4) - 1) (xxor (xshl 1 e) (-1)))), some (.inl ii), some (.inl n9)]) (sk' := [.inl n9, .inr (.inr 109)]) (h' := hh) rfl ?_
                              refine E_ld (x := (.iaload, 0, [], [])) (ty := .int) (n := 32) rfl rfl rfl (by omega) (by omega) ?_
                              show xEx G0 cdX12_isIdle (some .boolean) (xRn G0 MT (d + 4)) Q b 96 [some (.inr (.inr 66)), some (.inl e), some (.inl (xand (xshl 1 (h 66 4) - 1) (xxor (xshl 1 e) (-1)))), some (.inl ii), some (.inl n9)] [.inl (hh 109 n9)] hh
                              refine E_s 3 (i' := 99) (ls' := [some (.inr (.inr 66)), some (.inl e), some (.inl (xand (xshl 1 (h 66 4) - 1) (xxor (xshl 1 e) (-1)))), some (.inl ii), some (.inl n9)]) (sk' := [.inl n9, .inr (.inr 106), .inl (hh 109 n9)]) (h' := hh) rfl ?_
                              refine E_ld (x := (.iaload, 0, [], [])) (ty := .int) (n := 32) rfl rfl rfl (by omega) (by omega) ?_
                              show xEx G0 cdX12_isIdle (some .boolean) (xRn G0 MT (d + 4)) Q b 100 [some (.inr (.inr 66)), some (.inl e), some (.inl (xand (xshl 1 (h 66 4) - 1) (xxor (xshl 1 e) (-1)))), some (.inl ii), some (.inl n9)] [.inl (hh 106 n9), .inl (hh 109 n9)] hh
                              refine E_b (x := (.if_icmp .ne 7, 103, [], [])) rfl rfl (fun c100 => ?_) (fun c100 => ?_)
                              · rw [c_ne (by first | (rw [b2]; exact g8) | (rw [g2]; exact g4)) (by first | (rw [b2]; exact g8) | (rw [g2]; exact g4))] at c100
                                simp only [decide_eq_true_eq, decide_eq_false_iff_not, Decidable.not_not] at c100
                                show xEx G0 cdX12_isIdle (some .boolean) (xRn G0 MT (d + 4)) Q b 103 [some (.inr (.inr 66)), some (.inl e), some (.inl (xand (xshl 1 (h 66 4) - 1) (xxor (xshl 1 e) (-1)))), some (.inl ii), some (.inl n9)] [] hh
                                have nhyp : ¬ (szf S T (S 0 0) (T 0 0) (-1) (h 66 51).toNat (xand (xshl 1 (h 66 4) - 1) (xxor (xshl 1 e) (-1))) < 1000000 ∧ EQN h gg (n9 + 1)) := by
                                  rintro ⟨y1, y2⟩
                                  first
                                  | exact c91 (by rw [b1, g1]; exact (y2 n9 hn0 (by omega)).1)
                                  | exact c100 (by rw [b2, g2]; exact (y2 n9 hn0 (by omega)).2)
                                  | (rcases hhe with ⟨y, -⟩ | ⟨-, y⟩
                                     · omega
                                     · exact y ⟨y1, fun j z1 z2 => y2 j z1 (by omega)⟩)
                                refine E_s 8 (i' := 111) (ls' := [some (.inr (.inr 66)), some (.inl e), some (.inl (xand (xshl 1 (h 66 4) - 1) (xxor (xshl 1 e) (-1)))), some (.inl 0), some (.inl n9)]) (sk' := [.inl n9, .inr (.inr 108), .inl n9, .inr (.inr 105)]) (h' := hh) rfl ?_
                                refine E_ld (x := (.iaload, 0, [], [])) (ty := .int) (n := 32) rfl rfl rfl (by omega) (by omega) ?_
                                show xEx G0 cdX12_isIdle (some .boolean) (xRn G0 MT (d + 4)) Q b 112 [some (.inr (.inr 66)), some (.inl e), some (.inl (xand (xshl 1 (h 66 4) - 1) (xxor (xshl 1 e) (-1)))), some (.inl 0), some (.inl n9)] [.inl (hh 108 n9), .inl n9, .inr (.inr 105)] hh
                                refine E_sd (x := (.iastore, 0, [], [])) (ty := .int) (n := 32) (y := (hh 108 n9)) rfl rfl rfl (by omega) (by omega) (trivial) ?_
                                show xEx G0 cdX12_isIdle (some .boolean) (xRn G0 MT (d + 4)) Q b 113 [some (.inr (.inr 66)), some (.inl e), some (.inl (xand (xshl 1 (h 66 4) - 1) (xxor (xshl 1 e) (-1)))), some (.inl 0), some (.inl n9)] [] (xup hh 105 n9 (hh 108 n9))
                                refine E_s 6 (i' := 119) (ls' := [some (.inr (.inr 66)), some (.inl e), some (.inl (xand (xshl 1 (h 66 4) - 1) (xxor (xshl 1 e) (-1)))), some (.inl 0), some (.inl n9)]) (sk' := [.inl n9, .inr (.inr 109), .inl n9, .inr (.inr 106)]) (h' := (xup hh 105 n9 (hh 108 n9))) rfl ?_
                                refine E_ld (x := (.iaload, 0, [], [])) (ty := .int) (n := 32) rfl rfl rfl (by omega) (by omega) ?_
                                show xEx G0 cdX12_isIdle (some .boolean) (xRn G0 MT (d + 4)) Q b 120 [some (.inr (.inr 66)), some (.inl e), some (.inl (xand (xshl 1 (h 66 4) - 1) (xxor (xshl 1 e) (-1)))), some (.inl 0), some (.inl n9)] [.inl (hh 109 n9), .inl n9, .inr (.inr 106)] (xup hh 105 n9 (hh 108 n9))
                                refine E_sd (x := (.iastore, 0, [], [])) (ty := .int) (n := 32) (y := (hh 109 n9)) rfl rfl rfl (by omega) (by omega) (trivial) ?_
                                show xEx G0 cdX12_isIdle (some .boolean) (xRn G0 MT (d + 4)) Q b 121 [some (.inr (.inr 66)), some (.inl e), some (.inl (xand (xshl 1 (h 66 4) - 1) (xxor (xshl 1 e) (-1)))), some (.inl 0), some (.inl n9)] [] (xup (xup hh 105 n9 (hh 108 n9)) 106 n9 (hh 109 n9))
                                refine E_s 2 (i' := 78) (ls' := [some (.inr (.inr 66)), some (.inl e), some (.inl (xand (xshl 1 (h 66 4) - 1) (xxor (xshl 1 e) (-1)))), some (.inl 0), some (.inl (n9 + 1))]) (sk' := []) (h' := (xup (xup hh 105 n9 (hh 108 n9)) 106 n9 (hh 109 n9))) rfl ?_
                                exact ih78 _ (n9 + 1) 0 (by omega) (by omega) (by omega) (fun a z1 z2 => by rw [xup_o _ _ _ _ a z2, xup_o _ _ _ _ a z1]; exact hhf a z1 z2) (fun j z1 z2 => by
                                  by_cases e9 : j = n9
                                  · rw [e9, xup_s, xup_o _ _ _ _ _ (by decide), xup_s]
                                    rw [hhf _ (by decide) (by decide), hhf _ (by decide) (by decide)]
                                    exact d9 n9 hn0 (by omega)
                                  · rw [xup_j e9, xup_o _ _ _ _ _ (by decide), xup_j e9, xup_o _ _ _ _ _ (by decide)]
                                    exact hh1 j z1 (by omega)) (fun j z1 z2 => by
                                  rw [xup_j (by omega), xup_o _ _ _ _ _ (by decide), xup_j (by omega), xup_o _ _ _ _ _ (by decide)]
                                  exact hh2 j (by omega) z2) (Or.inr ⟨rfl, nhyp⟩) (by omega)
                              · rw [c_ne (by first | (rw [b2]; exact g8) | (rw [g2]; exact g4)) (by first | (rw [b2]; exact g8) | (rw [g2]; exact g4))] at c100
                                simp only [decide_eq_true_eq, decide_eq_false_iff_not, Decidable.not_not] at c100
                                show xEx G0 cdX12_isIdle (some .boolean) (xRn G0 MT (d + 4)) Q b 101 [some (.inr (.inr 66)), some (.inl e), some (.inl (xand (xshl 1 (h 66 4) - 1) (xxor (xshl 1 e) (-1)))), some (.inl ii), some (.inl n9)] [] hh
                                have a91 : h 105 n9 = gg 105 n9 := by rw [← b1, ← g1]; exact c91
                                have a100 : h 106 n9 = gg 106 n9 := by rw [← b2, ← g2]; exact c100
                                refine E_s 9 (i' := 111) (ls' := [some (.inr (.inr 66)), some (.inl e), some (.inl (xand (xshl 1 (h 66 4) - 1) (xxor (xshl 1 e) (-1)))), some (.inl 1), some (.inl n9)]) (sk' := [.inl n9, .inr (.inr 108), .inl n9, .inr (.inr 105)]) (h' := hh) rfl ?_
                                refine E_ld (x := (.iaload, 0, [], [])) (ty := .int) (n := 32) rfl rfl rfl (by omega) (by omega) ?_
                                show xEx G0 cdX12_isIdle (some .boolean) (xRn G0 MT (d + 4)) Q b 112 [some (.inr (.inr 66)), some (.inl e), some (.inl (xand (xshl 1 (h 66 4) - 1) (xxor (xshl 1 e) (-1)))), some (.inl 1), some (.inl n9)] [.inl (hh 108 n9), .inl n9, .inr (.inr 105)] hh
                                refine E_sd (x := (.iastore, 0, [], [])) (ty := .int) (n := 32) (y := (hh 108 n9)) rfl rfl rfl (by omega) (by omega) (trivial) ?_
                                show xEx G0 cdX12_isIdle (some .boolean) (xRn G0 MT (d + 4)) Q b 113 [some (.inr (.inr 66)), some (.inl e), some (.inl (xand (xshl 1 (h 66 4) - 1) (xxor (xshl 1 e) (-1)))), some (.inl 1), some (.inl n9)] [] (xup hh 105 n9 (hh 108 n9))
                                refine E_s 6 (i' := 119) (ls' := [some (.inr (.inr 66)), some (.inl e), some (.inl (xand (xshl 1 (h 66 4) - 1) (xxor (xshl 1 e) (-1)))), some (.inl 1), some (.inl n9)]) (sk' := [.inl n9, .inr (.inr 109), .inl n9, .inr (.inr 106)]) (h' := (xup hh 105 n9 (hh 108 n9))) rfl ?_
                                refine E_ld (x := (.iaload, 0, [], [])) (ty := .int) (n := 32) rfl rfl rfl (by omega) (by omega) ?_
                                show xEx G0 cdX12_isIdle (some .boolean) (xRn G0 MT (d + 4)) Q b 120 [some (.inr (.inr 66)), some (.inl e), some (.inl (xand (xshl 1 (h 66 4) - 1) (xxor (xshl 1 e) (-1)))), some (.inl 1), some (.inl n9)] [.inl (hh 109 n9), .inl n9, .inr (.inr 106)] (xup hh 105 n9 (hh 108 n9))
                                refine E_sd (x := (.iastore, 0, [], [])) (ty := .int) (n := 32) (y := (hh 109 n9)) rfl rfl rfl (by omega) (by omega) (trivial) ?_
                                show xEx G0 cdX12_isIdle (some .boolean) (xRn G0 MT (d + 4)) Q b 121 [some (.inr (.inr 66)), some (.inl e), some (.inl (xand (xshl 1 (h 66 4) - 1) (xxor (xshl 1 e) (-1)))), some (.inl 1), some (.inl n9)] [] (xup (xup hh 105 n9 (hh 108 n9)) 106 n9 (hh 109 n9))
                                refine E_s 2 (i' := 78) (ls' := [some (.inr (.inr 66)), some (.inl e), some (.inl (xand (xshl 1 (h 66 4) - 1) (xxor (xshl 1 e) (-1)))), some (.inl 1), some (.inl (n9 + 1))]) (sk' := []) (h' := (xup (xup hh 105 n9 (hh 108 n9)) 106 n9 (hh 109 n9))) rfl ?_
                                exact ih78 _ (n9 + 1) 1 (by omega) (by omega) (by omega) (fun a z1 z2 => by rw [xup_o _ _ _ _ a z2, xup_o _ _ _ _ a z1]; exact hhf a z1 z2) (fun j z1 z2 => by
                                  by_cases e9 : j = n9
                                  · rw [e9, xup_s, xup_o _ _ _ _ _ (by decide), xup_s]
                                    rw [hhf _ (by decide) (by decide), hhf _ (by decide) (by decide)]
                                    exact d9 n9 hn0 (by omega)
                                  · rw [xup_j e9, xup_o _ _ _ _ _ (by decide), xup_j e9, xup_o _ _ _ _ _ (by decide)]
                                    exact hh1 j z1 (by omega)) (fun j z1 z2 => by
                                  rw [xup_j (by omega), xup_o _ _ _ _ _ (by decide), xup_j (by omega), xup_o _ _ _ _ _ (by decide)]
                                  exact hh2 j (by omega) z2) (Or.inl ⟨rfl, hyp.1, fun j z1 z2 => by
                                  by_cases e9 : j = n9
                                  · rw [e9]; exact ⟨a91, a100⟩
                                  · exact hyp.2 j z1 (by omega)⟩) (by omega)
                    exact key78 _ gg 0 0 (by omega) (by omega) (by omega) (fun _ _ _ => rfl) (fun j z1 z2 => by omega) (fun j z1 z2 => ⟨rfl, rfl⟩) ent (Nat.lt_succ_self _)
                  · show xEx G0 cdX12_isIdle (some .boolean) (xRn G0 MT (d + 4)) Q b 71 [some (.inr (.inr 66)), some (.inl e), some (.inl (xand (xshl 1 (h 66 4) - 1) (xxor (xshl 1 e) (-1)))), some (.inl 0), none] [] h2
                    exact absurd c70 (by decide)
                · rw [c_ge (by first | assumption | (refine ⟨?_, ?_⟩ <;> omega) | (simp only [xr] at *; omega)) (by first | assumption | (refine ⟨?_, ?_⟩ <;> omega) | (simp only [xr] at *; omega))] at c64
                  simp only [decide_eq_true_eq, decide_eq_false_iff_not, Decidable.not_not] at c64
                  show xEx G0 cdX12_isIdle (some .boolean) (xRn G0 MT (d + 4)) Q b 65 [some (.inr (.inr 66)), some (.inl e), some (.inl (xand (xshl 1 (h 66 4) - 1) (xxor (xshl 1 e) (-1)))), none, none] [] h2
                  refine E_s 4 (i' := 70) (ls' := [some (.inr (.inr 66)), some (.inl e), some (.inl (xand (xshl 1 (h 66 4) - 1) (xxor (xshl 1 e) (-1)))), some (.inl 1), none]) (sk' := [.inl 1]) (h' := h2) rfl ?_
                  refine E_b (x := (.ifCond .eq 12, 76, [], [])) rfl rfl (fun c70 => ?_) (fun c70 => ?_)
                  · show xEx G0 cdX12_isIdle (some .boolean) (xRn G0 MT (d + 4)) Q b 76 [some (.inr (.inr 66)), some (.inl e), some (.inl (xand (xshl 1 (h 66 4) - 1) (xxor (xshl 1 e) (-1)))), some (.inl 1), none] [] h2
                    exact absurd c70 (by decide)
                  · show xEx G0 cdX12_isIdle (some .boolean) (xRn G0 MT (d + 4)) Q b 71 [some (.inr (.inr 66)), some (.inl e), some (.inl (xand (xshl 1 (h 66 4) - 1) (xxor (xshl 1 e) (-1)))), some (.inl 1), none] [] h2
                    refine E_s 4 (i' := 75) (ls' := [some (.inr (.inr 66)), some (.inl e), some (.inl (xand (xshl 1 (h 66 4) - 1) (xxor (xshl 1 e) (-1)))), some (.inl 1), none]) (sk' := [.inl (xand (xshl 1 (h 66 4) - 1) (xxor (xshl 1 e) (-1))), .inl (h2 66 51), .inr (.inr 66)]) (h' := h2) rfl ?_
                    refine E_cv (x := (.invokevirtual 404, 2, [(10, 230)], [0])) (q := fun h9 => (∀ a, a ≠ 105 → a ≠ 106 → a ≠ 107 → h9 a = h2 a) ∧ TV S T (S 0 0) (T 0 0) (-1) (fun j => h9 105 (j + 1)) (fun j => h9 106 (j + 1)) 3 (h2 66 51).toNat 0 (xand (xshl 1 (h 66 4) - 1) (xxor (xshl 1 e) (-1))) ∧ ∀ j, 0 ≤ j → j < 32 → (j = 0 ∨ 16 ≤ j) → h9 105 j = -1 ∧ h9 106 j = -1) rfl rfl (Nat.le_of_ble_eq_true rfl) (m_laysTree (d + 3) 0 h2 S T (-1) (h2 66 51) (xand (xshl 1 (h 66 4) - 1) (xxor (xshl 1 e) (-1))) m o ra2 io on (by rw [y51]; exact hi) lf2 (by rw [y51]; exact ls2) (fun h9 z1 z2 z3 => ⟨rfl, z1, z2, z3⟩)) (fun h5 hq5 => ?_)
                    obtain ⟨f5, t5, u5⟩ := hq5
                    rw [y51] at t5
                    show xEx G0 cdX12_isIdle (some .boolean) (xRn G0 MT (d + 4)) Q b 76 [some (.inr (.inr 66)), some (.inl e), some (.inl (xand (xshl 1 (h 66 4) - 1) (xxor (xshl 1 e) (-1)))), some (.inl 1), none] [] h5
                    generalize hgg : h5 = gg
                    have w9 : ∀ a, (a < 98 ∨ 104 < a) → a ≠ 108 → a ≠ 109 → a ≠ 105 → a ≠ 106 → a ≠ 107 → gg a = (xup h 66 0 0) a := fun a z z8 z9 y1 y2 y3 => by rw [← hgg, f5 a y1 y2 y3]; exact w2 a z z8 z9
                    have d9 : ∀ j, 0 ≤ j → j < 32 → gg 108 j = h 105 j ∧ gg 109 j = h 106 j := fun j z1 z2 => by rw [← hgg, f5 _ (by decide) (by decide) (by decide), f5 _ (by decide) (by decide) (by decide)]; exact d2 j z1 z2
                    have zl : szf S T (S 0 0) (T 0 0) (-1) (h 66 51).toNat (xand (xshl 1 (h 66 4) - 1) (xxor (xshl 1 e) (-1))) < 1000000 := by omega
                    rw [hgg] at t5 u5
                    have rg : ∀ j, 0 ≤ j → j < 32 → xr (gg 105 j) ∧ xr (gg 106 j) := fun j z1 z2 => by
                      have k3 := o.2.1
                      have k4 := o.2.2.1
                      by_cases y : j = 0 ∨ 16 ≤ j
                      · obtain ⟨a, b⟩ := u5 j z1 z2 y
                        rw [a, b]; exact ⟨⟨by decide, by decide⟩, ⟨by decide, by decide⟩⟩
                      · obtain ⟨-, a, b⟩ := TV_b o.2.2.1.1 3 _ 0 _ (j - 1) t5 (sb3 (by omega) (by omega))
                        rw [show j - 1 + 1 = j by omega] at a b
                        exact ⟨⟨by omega, by omega⟩, ⟨by omega, by omega⟩⟩
                    have fin : SAM S T as le (h 66 51) (xand (xshl 1 (h 66 4) - 1) (xxor (xshl 1 e) (-1))) ↔ (szf S T (S 0 0) (T 0 0) (-1) (h 66 51).toNat (xand (xshl 1 (h 66 4) - 1) (xxor (xshl 1 e) (-1))) < 1000000 ∧ EQN h gg 32) := by
                      constructor
                      · rintro ⟨y1, y2⟩
                        refine ⟨y1, fun j z1 z2 => ?_⟩
                        by_cases y : j = 0 ∨ 16 ≤ j
                        · obtain ⟨a, b⟩ := u5 j z1 z2 y
                          obtain ⟨a', b'⟩ := hu qs j z1 z2 y
                          rw [a, b]; exact ⟨a', b'⟩
                        · obtain ⟨a, b⟩ := TV_eq 3 _ 0 _ y2 t5 (j - 1) (sb3 (by omega) (by omega))
                          obtain ⟨c, d9⟩ := tn qs j (by omega) (by omega)
                          rw [show j - 1 + 1 = j by omega] at a b
                          exact ⟨c.trans a, d9.trans b⟩
                      · rintro ⟨y1, y2⟩
                        refine ⟨y1, TV_fr 3 _ 0 _ (fun j z => ?_) t5⟩
                        have zj : 0 ≤ j ∧ j < 15 := by simp only [sb] at z; omega
                        obtain ⟨a, b⟩ := y2 (j + 1) (by omega) (by omega)
                        obtain ⟨c, d9⟩ := tn qs (j + 1) (by omega) (by omega)
                        rw [show j + 1 - 1 = j by omega] at c d9
                        exact ⟨c.symm.trans a, d9.symm.trans b⟩
                    have ent : ((1 : Int) = 1 ∧ (szf S T (S 0 0) (T 0 0) (-1) (h 66 51).toNat (xand (xshl 1 (h 66 4) - 1) (xxor (xshl 1 e) (-1))) < 1000000 ∧ EQN h gg 0)) ∨ ((1 : Int) = 0 ∧ ¬ (szf S T (S 0 0) (T 0 0) (-1) (h 66 51).toNat (xand (xshl 1 (h 66 4) - 1) (xxor (xshl 1 e) (-1))) < 1000000 ∧ EQN h gg 0)) := Or.inl ⟨rfl, zl, fun j z1 z2 => by omega⟩
                    show xEx G0 cdX12_isIdle (some .boolean) (xRn G0 MT (d + 4)) Q b 76 [some (.inr (.inr 66)), some (.inl e), some (.inl (xand (xshl 1 (h 66 4) - 1) (xxor (xshl 1 e) (-1)))), some (.inl 1), none] [] gg
                    refine E_s 2 (i' := 78) (ls' := [some (.inr (.inr 66)), some (.inl e), some (.inl (xand (xshl 1 (h 66 4) - 1) (xxor (xshl 1 e) (-1)))), some (.inl 1), some (.inl 0)]) (sk' := []) (h' := gg) rfl ?_
                    have key78 : ∀ (n : Nat) (hh : xH) (n9 ii : Int), (0 ≤ n9) → (n9 ≤ 32) → (ii = 0 ∨ ii = 1) → (∀ a, a ≠ 105 → a ≠ 106 → hh a = gg a) → (∀ j, 0 ≤ j → j < n9 → hh 105 j = h 105 j ∧ hh 106 j = h 106 j) → (∀ j, n9 ≤ j → j < 32 → hh 105 j = gg 105 j ∧ hh 106 j = gg 106 j) → ((ii = 1 ∧ (szf S T (S 0 0) (T 0 0) (-1) (h 66 51).toNat (xand (xshl 1 (h 66 4) - 1) (xxor (xshl 1 e) (-1))) < 1000000 ∧ EQN h gg n9)) ∨ (ii = 0 ∧ ¬ (szf S T (S 0 0) (T 0 0) (-1) (h 66 51).toNat (xand (xshl 1 (h 66 4) - 1) (xxor (xshl 1 e) (-1))) < 1000000 ∧ EQN h gg n9))) → ((32 - n9).toNat) < n → xEx G0 cdX12_isIdle (some .boolean) (xRn G0 MT (d + 4)) Q b 78 [some (.inr (.inr 66)), some (.inl e), some (.inl (xand (xshl 1 (h 66 4) - 1) (xxor (xshl 1 e) (-1)))), some (.inl ii), some (.inl n9)] [] hh := by
                      intro n
                      induction n with
                      | zero => intro hh n9 ii _ _ _ _ _ _ _ hm; exact absurd hm (Nat.not_lt_zero _)
                      | succ n ih78 =>
                        intro hh n9 ii hn0 hn9 hii hhf hh1 hh2 hhe hm78
                        refine E_s 2 (i' := 80) (ls' := [some (.inr (.inr 66)), some (.inl e), some (.inl (xand (xshl 1 (h 66 4) - 1) (xxor (xshl 1 e) (-1)))), some (.inl ii), some (.inl n9)]) (sk' := [.inl 32, .inl n9]) (h' := hh) rfl ?_
                        refine E_b (x := (.if_icmp .ge 81, 123, [], [])) rfl rfl (fun c80 => ?_) (fun c80 => ?_)
                        · rw [c_ge (by first | assumption | (refine ⟨?_, ?_⟩ <;> omega) | (simp only [xr] at *; omega)) (by first | assumption | (refine ⟨?_, ?_⟩ <;> omega) | (simp only [xr] at *; omega))] at c80
                          simp only [decide_eq_true_eq, decide_eq_false_iff_not, Decidable.not_not] at c80
                          show xEx G0 cdX12_isIdle (some .boolean) (xRn G0 MT (d + 4)) Q b 123 [some (.inr (.inr 66)), some (.inl e), some (.inl (xand (xshl 1 (h 66 4) - 1) (xxor (xshl 1 e) (-1)))), some (.inl ii), some (.inl n9)] [] hh
                          have e32 : n9 = 32 := by omega
                          rw [e32] at hhe hh1
                          refine E_s 1 (i' := 124) (ls' := [some (.inr (.inr 66)), some (.inl e), some (.inl (xand (xshl 1 (h 66 4) - 1) (xxor (xshl 1 e) (-1)))), some (.inl ii), some (.inl n9)]) (sk' := [.inl ii]) (h' := hh) rfl ?_
                          exact E_ret (x := (.ireturn, 0, [], [])) (v := some (.inl ii)) rfl (Or.inr ⟨rfl, hii⟩) (hO qs qe q1 hh (fun a z => by rw [hhf a (by omega) (by omega)]; exact w9 a (by omega) (by omega) (by omega) (by omega) (by omega) (by omega)) hh1 ii (by rw [fin]; exact hhe))
                        · rw [c_ge (by first | assumption | (refine ⟨?_, ?_⟩ <;> omega) | (simp only [xr] at *; omega)) (by first | assumption | (refine ⟨?_, ?_⟩ <;> omega) | (simp only [xr] at *; omega))] at c80
                          simp only [decide_eq_true_eq, decide_eq_false_iff_not, Decidable.not_not] at c80
                          show xEx G0 cdX12_isIdle (some .boolean) (xRn G0 MT (d + 4)) Q b 81 [some (.inr (.inr 66)), some (.inl e), some (.inl (xand (xshl 1 (h 66 4) - 1) (xxor (xshl 1 e) (-1)))), some (.inl ii), some (.inl n9)] [] hh
                          refine E_s 1 (i' := 82) (ls' := [some (.inr (.inr 66)), some (.inl e), some (.inl (xand (xshl 1 (h 66 4) - 1) (xxor (xshl 1 e) (-1)))), some (.inl ii), some (.inl n9)]) (sk' := [.inl ii]) (h' := hh) rfl ?_
                          refine E_b (x := (.ifCond .eq 41, 103, [], [])) rfl rfl (fun c82 => ?_) (fun c82 => ?_)
                          · rw [c_eq (by first | assumption | (refine ⟨?_, ?_⟩ <;> omega) | (simp only [xr] at *; omega)) (by first | assumption | (refine ⟨?_, ?_⟩ <;> omega) | (simp only [xr] at *; omega))] at c82
                            simp only [decide_eq_true_eq, decide_eq_false_iff_not, Decidable.not_not] at c82
                            show xEx G0 cdX12_isIdle (some .boolean) (xRn G0 MT (d + 4)) Q b 103 [some (.inr (.inr 66)), some (.inl e), some (.inl (xand (xshl 1 (h 66 4) - 1) (xxor (xshl 1 e) (-1)))), some (.inl ii), some (.inl n9)] [] hh
                            have nhyp : ¬ (szf S T (S 0 0) (T 0 0) (-1) (h 66 51).toNat (xand (xshl 1 (h 66 4) - 1) (xxor (xshl 1 e) (-1))) < 1000000 ∧ EQN h gg (n9 + 1)) := by
                              rintro ⟨y1, y2⟩
                              first
                              | exact c91 (by rw [b1, g1]; exact (y2 n9 hn0 (by omega)).1)
                              | exact c100 (by rw [b2, g2]; exact (y2 n9 hn0 (by omega)).2)
                              | (rcases hhe with ⟨y, -⟩ | ⟨-, y⟩
                                 · omega
                                 · exact y ⟨y1, fun j z1 z2 => y2 j z1 (by omega)⟩)
                            refine E_s 8 (i' := 111) (ls' := [some (.inr (.inr 66)), some (.inl e), some (.inl (xand (xshl 1 (h 66 4) - 1) (xxor (xshl 1 e) (-1)))), some (.inl 0), some (.inl n9)]) (sk' := [.inl n9, .inr (.inr 108), .inl n9, .inr (.inr 105)]) (h' := hh) rfl ?_
                            refine E_ld (x := (.iaload, 0, [], [])) (ty := .int) (n := 32) rfl rfl rfl (by omega) (by omega) ?_
                            show xEx G0 cdX12_isIdle (some .boolean) (xRn G0 MT (d + 4)) Q b 112 [some (.inr (.inr 66)), some (.inl e), some (.inl (xand (xshl 1 (h 66 4) - 1) (xxor (xshl 1 e) (-1)))), some (.inl 0), some (.inl n9)] [.inl (hh 108 n9), .inl n9, .inr (.inr 105)] hh
                            refine E_sd (x := (.iastore, 0, [], [])) (ty := .int) (n := 32) (y := (hh 108 n9)) rfl rfl rfl (by omega) (by omega) (trivial) ?_
                            show xEx G0 cdX12_isIdle (some .boolean) (xRn G0 MT (d + 4)) Q b 113 [some (.inr (.inr 66)), some (.inl e), some (.inl (xand (xshl 1 (h 66 4) - 1) (xxor (xshl 1 e) (-1)))), some (.inl 0), some (.inl n9)] [] (xup hh 105 n9 (hh 108 n9))
                            refine E_s 6 (i' := 119) (ls' := [some (.inr (.inr 66)), some (.inl e), some (.inl (xand (xshl 1 (h 66 4) - 1) (xxor (xshl 1 e) (-1)))), some (.inl 0), some (.inl n9)]) (sk' := [.inl n9, .inr (.inr 109), .inl n9, .inr (.inr 106)]) (h' := (xup hh 105 n9 (hh 108 n9))) rfl ?_
                            refine E_ld (x := (.iaload, 0, [], [])) (ty := .int) (n := 32) rfl rfl rfl (by omega) (by omega) ?_
                            show xEx G0 cdX12_isIdle (some .boolean) (xRn G0 MT (d + 4)) Q b 120 [some (.inr (.inr 66)), some (.inl e), some (.inl (xand (xshl 1 (h 66 4) - 1) (xxor (xshl 1 e) (-1)))), some (.inl 0), some (.inl n9)] [.inl (hh 109 n9), .inl n9, .inr (.inr 106)] (xup hh 105 n9 (hh 108 n9))
                            refine E_sd (x := (.iastore, 0, [], [])) (ty := .int) (n := 32) (y := (hh 109 n9)) rfl rfl rfl (by omega) (by omega) (trivial) ?_
                            show xEx G0 cdX12_isIdle (some .boolean) (xRn G0 MT (d + 4)) Q b 121 [some (.inr (.inr 66)), some (.inl e), some (.inl (xand (xshl 1 (h 66 4) - 1) (xxor (xshl 1 e) (-1)))), some (.inl 0), some (.inl n9)] [] (xup (xup hh 105 n9 (hh 108 n9)) 106 n9 (hh 109 n9))
                            refine E_s 2 (i' := 78) (ls' := [some (.inr (.inr 66)), some (.inl e), some (.inl (xand (xshl 1 (h 66 4) - 1) (xxor (xshl 1 e) (-1)))), some (.inl 0), some (.inl (n9 + 1))]) (sk' := []) (h' := (xup (xup hh 105 n9 (hh 108 n9)) 106 n9 (hh 109 n9))) rfl ?_
                            exact ih78 _ (n9 + 1) 0 (by omega) (by omega) (by omega) (fun a z1 z2 => by rw [xup_o _ _ _ _ a z2, xup_o _ _ _ _ a z1]; exact hhf a z1 z2) (fun j z1 z2 => by
                              by_cases e9 : j = n9
                              · rw [e9, xup_s, xup_o _ _ _ _ _ (by decide), xup_s]
                                rw [hhf _ (by decide) (by decide), hhf _ (by decide) (by decide)]
                                exact d9 n9 hn0 (by omega)
                              · rw [xup_j e9, xup_o _ _ _ _ _ (by decide), xup_j e9, xup_o _ _ _ _ _ (by decide)]
                                exact hh1 j z1 (by omega)) (fun j z1 z2 => by
                              rw [xup_j (by omega), xup_o _ _ _ _ _ (by decide), xup_j (by omega), xup_o _ _ _ _ _ (by decide)]
                              exact hh2 j (by omega) z2) (Or.inr ⟨rfl, nhyp⟩) (by omega)
                          · rw [c_eq (by first | assumption | (refine ⟨?_, ?_⟩ <;> omega) | (simp only [xr] at *; omega)) (by first | assumption | (refine ⟨?_, ?_⟩ <;> omega) | (simp only [xr] at *; omega))] at c82
                            simp only [decide_eq_true_eq, decide_eq_false_iff_not, Decidable.not_not] at c82
                            show xEx G0 cdX12_isIdle (some .boolean) (xRn G0 MT (d + 4)) Q b 83 [some (.inr (.inr 66)), some (.inl e), some (.inl (xand (xshl 1 (h 66 4) - 1) (xxor (xshl 1 e) (-1)))), some (.inl ii), some (.inl n9)] [] hh
                            obtain ⟨g1, g2⟩ := hh2 n9 (Int.le_refl _) (by omega)
                            obtain ⟨g3, g4⟩ := rg n9 hn0 (by omega)
                            obtain ⟨g5, g6⟩ := d9 n9 hn0 (by omega)
                            obtain ⟨g7, g8⟩ := rgo n9 hn0 (by omega)
                            have b1 : hh 108 n9 = h 105 n9 := by rw [hhf _ (by decide) (by decide)]; exact g5
                            have b2 : hh 109 n9 = h 106 n9 := by rw [hhf _ (by decide) (by decide)]; exact g6
                            have hyp : szf S T (S 0 0) (T 0 0) (-1) (h 66 51).toNat (xand (xshl 1 (h 66 4) - 1) (xxor (xshl 1 e) (-1))) < 1000000 ∧ EQN h gg n9 := by
                              rcases hhe with ⟨-, y⟩ | ⟨y, -⟩
                              · exact y
                              · exact absurd y c82
                            refine E_s 3 (i' := 86) (ls' := [some (.inr (.inr 66)), some (.inl e), some (.inl (xand (xshl 1 (h 66 4) - 1) (xxor (xshl 1 e) (-1)))), some (.inl ii), some (.inl n9)]) (sk' := [.inl n9, .inr (.inr 108)]) (h' := hh) rfl ?_
                            refine E_ld (x := (.iaload, 0, [], [])) (ty := .int) (n := 32) rfl rfl rfl (by omega) (by omega) ?_
                            show xEx G0 cdX12_isIdle (some .boolean) (xRn G0 MT (d + 4)) Q b 87 [some (.inr (.inr 66)), some (.inl e), some (.inl (xand (xshl 1 (h 66 4) - 1) (xxor (xshl 1 e) (-1)))), some (.inl ii), some (.inl n9)] [.inl (hh 108 n9)] hh
                            refine E_s 3 (i' := 90) (ls' := [some (.inr (.inr 66)), some (.inl e), some (.inl (xand (xshl 1 (h 66 4) - 1) (xxor (xshl 1 e) (-1)))), some (.inl ii), some (.inl n9)]) (sk' := [.inl n9, .inr (.inr 105), .inl (hh 108 n9)]) (h' := hh) rfl ?_
                            refine E_ld (x := (.iaload, 0, [], [])) (ty := .int) (n := 32) rfl rfl rfl (by omega) (by omega) ?_
                            show xEx G0 cdX12_isIdle (some .boolean) (xRn G0 MT (d + 4)) Q b 91 [some (.inr (.inr 66)), some (.inl e), some (.inl (xand (xshl 1 (h 66 4) - 1) (xxor (xshl 1 e) (-1)))), some (.inl ii), some (.inl n9)] [.inl (hh 105 n9), .inl (hh 108 n9)] hh
                            refine E_b (x := (.if_icmp .ne 24, 103, [], [])) rfl rfl (fun c91 => ?_) (fun c91 => ?_)
                            · rw [c_ne (by first | (rw [b1]; exact g7) | (rw [g1]; exact g3)) (by first | (rw [b1]; exact g7) | (rw [g1]; exact g3))] at c91
                              simp only [decide_eq_true_eq, decide_eq_false_iff_not, Decidable.not_not] at c91
                              show xEx G0 cdX12_isIdle (some .boolean) (xRn G0 MT (d + 4)) Q b 103 [some (.inr (.inr 66)), some (.inl e), some (.inl (xand (xshl 1 (h 66 4) - 1) (xxor (xshl 1 e) (-1)))), some (.inl ii), some (.inl n9)] [] hh
                              have nhyp : ¬ (szf S T (S 0 0) (T 0 0) (-1) (h 66 51).toNat (xand (xshl 1 (h 66 4) - 1) (xxor (xshl 1 e) (-1))) < 1000000 ∧ EQN h gg (n9 + 1)) := by
                                rintro ⟨y1, y2⟩
                                first
                                | exact c91 (by rw [b1, g1]; exact (y2 n9 hn0 (by omega)).1)
                                | exact c100 (by rw [b2, g2]; exact (y2 n9 hn0 (by omega)).2)
                                | (rcases hhe with ⟨y, -⟩ | ⟨-, y⟩
                                   · omega
                                   · exact y ⟨y1, fun j z1 z2 => y2 j z1 (by omega)⟩)
                              refine E_s 8 (i' := 111) (ls' := [some (.inr (.inr 66)), some (.inl e), some (.inl (xand (xshl 1 (h 66 4) - 1) (xxor (xshl 1 e) (-1)))), some (.inl 0), some (.inl n9)]) (sk' := [.inl n9, .inr (.inr 108), .inl n9, .inr (.inr 105)]) (h' := hh) rfl ?_
                              refine E_ld (x := (.iaload, 0, [], [])) (ty := .int) (n := 32) rfl rfl rfl (by omega) (by omega) ?_
                              show xEx G0 cdX12_isIdle (some .boolean) (xRn G0 MT (d + 4)) Q b 112 [some (.inr (.inr 66)), some (.inl e), some (.inl (xand (xshl 1 (h 66 4) - 1) (xxor (xshl 1 e) (-1)))), some (.inl 0), some (.inl n9)] [.inl (hh 108 n9), .inl n9, .inr (.inr 105)] hh
                              refine E_sd (x := (.iastore, 0, [], [])) (ty := .int) (n := 32) (y := (hh 108 n9)) rfl rfl rfl (by omega) (by omega) (trivial) ?_
                              show xEx G0 cdX12_isIdle (some .boolean) (xRn G0 MT (d + 4)) Q b 113 [some (.inr (.inr 66)), some (.inl e), some (.inl (xand (xshl 1 (h 66 4) - 1) (xxor (xshl 1 e) (-1)))), some (.inl 0), some (.inl n9)] [] (xup hh 105 n9 (hh 108 n9))
                              refine E_s 6 (i' := 119) (ls' := [some (.inr (.inr 66)), some (.inl e), some (.inl (xand (xshl 1 (h 66 4) - 1) (xxor (xshl 1 e) (-1)))), some (.inl 0), some (.inl n9)]) (sk' := [.inl n9, .inr (.inr 109), .inl n9, .inr (.inr 106)]) (h' := (xup hh 105 n9 (hh 108 n9))) rfl ?_
                              refine E_ld (x := (.iaload, 0, [], [])) (ty := .int) (n := 32) rfl rfl rfl (by omega) (by omega) ?_
                              show xEx G0 cdX12_isIdle (some .boolean) (xRn G0 MT (d + 4)) Q b 120 [some (.inr (.inr 66)), some (.inl e), some (.inl (xand (xshl 1 (h 66 4) - 1) (xxor (xshl 1 e) (-1)))), some (.inl 0), some (.inl n9)] [.inl (hh 109 n9), .inl n9, .inr (.inr 106)] (xup hh 105 n9 (hh 108 n9))
                              refine E_sd (x := (.iastore, 0, [], [])) (ty := .int) (n := 32) (y := (hh 109 n9)) rfl rfl rfl (by omega) (by omega) (trivial) ?_
                              show xEx G0 cdX12_isIdle (some .boolean) (xRn G0 MT (d + 4)) Q b 121 [some (.inr (.inr 66)), some (.inl e), some (.inl (xand (xshl 1 (h 66 4) - 1) (xxor (xshl 1 e) (-1)))), some (.inl 0), some (.inl n9)] [] (xup (xup hh 105 n9 (hh 108 n9)) 106 n9 (hh 109 n9))
                              refine E_s 2 (i' := 78) (ls' := [some (.inr (.inr 66)), some (.inl e), some (.inl (xand (xshl 1 (h 66 4) - 1) (xxor (xshl 1 e) (-1)))), some (.inl 0), some (.inl (n9 + 1))]) (sk' := []) (h' := (xup (xup hh 105 n9 (hh 108 n9)) 106 n9 (hh 109 n9))) rfl ?_
                              exact ih78 _ (n9 + 1) 0 (by omega) (by omega) (by omega) (fun a z1 z2 => by rw [xup_o _ _ _ _ a z2, xup_o _ _ _ _ a z1]; exact hhf a z1 z2) (fun j z1 z2 => by
                                by_cases e9 : j = n9
                                · rw [e9, xup_s, xup_o _ _ _ _ _ (by decide), xup_s]
                                  rw [hhf _ (by decide) (by decide), hhf _ (by decide) (by decide)]
                                  exact d9 n9 hn0 (by omega)
                                · rw [xup_j e9, xup_o _ _ _ _ _ (by decide), xup_j e9, xup_o _ _ _ _ _ (by decide)]
                                  exact hh1 j z1 (by omega)) (fun j z1 z2 => by
                                rw [xup_j (by omega), xup_o _ _ _ _ _ (by decide), xup_j (by omega), xup_o _ _ _ _ _ (by decide)]
                                exact hh2 j (by omega) z2) (Or.inr ⟨rfl, nhyp⟩) (by omega)
                            · rw [c_ne (by first | (rw [b1]; exact g7) | (rw [g1]; exact g3)) (by first | (rw [b1]; exact g7) | (rw [g1]; exact g3))] at c91
                              simp only [decide_eq_true_eq, decide_eq_false_iff_not, Decidable.not_not] at c91
                              show xEx G0 cdX12_isIdle (some .boolean) (xRn G0 MT (d + 4)) Q b 92 [some (.inr (.inr 66)), some (.inl e), some (.inl (xand (xshl 1 (h 66 4) - 1) (xxor (xshl 1 e) (-1)))), some (.inl ii), some (.inl n9)] [] hh
                              refine E_s 3 (i' := 95) (ls' := [some (.inr (.inr 66)), some (.inl e), some (.inl (xand (xshl 1 (h 66 4) - 1) (xxor (xshl 1 e) (-1)))), some (.inl ii), some (.inl n9)]) (sk' := [.inl n9, .inr (.inr 109)]) (h' := hh) rfl ?_
                              refine E_ld (x := (.iaload, 0, [], [])) (ty := .int) (n := 32) rfl rfl rfl (by omega) (by omega) ?_
                              show xEx G0 cdX12_isIdle (some .boolean) (xRn G0 MT (d + 4)) Q b 96 [some (.inr (.inr 66)), some (.inl e), some (.inl (xand (xshl 1 (h 66 4) - 1) (xxor (xshl 1 e) (-1)))), some (.inl ii), some (.inl n9)] [.inl (hh 109 n9)] hh
                              refine E_s 3 (i' := 99) (ls' := [some (.inr (.inr 66)), some (.inl e), some (.inl (xand (xshl 1 (h 66 4) - 1) (xxor (xshl 1 e) (-1)))), some (.inl ii), some (.inl n9)]) (sk' := [.inl n9, .inr (.inr 106), .inl (hh 109 n9)]) (h' := hh) rfl ?_
                              refine E_ld (x := (.iaload, 0, [], [])) (ty := .int) (n := 32) rfl rfl rfl (by omega) (by omega) ?_
                              show xEx G0 cdX12_isIdle (some .boolean) (xRn G0 MT (d + 4)) Q b 100 [some (.inr (.inr 66)), some (.inl e), some (.inl (xand (xshl 1 (h 66 4) - 1) (xxor (xshl 1 e) (-1)))), some (.inl ii), some (.inl n9)] [.inl (hh 106 n9), .inl (hh 109 n9)] hh
                              refine E_b (x := (.if_icmp .ne 7, 103, [], [])) rfl rfl (fun c100 => ?_) (fun c100 => ?_)
                              · rw [c_ne (by first | (rw [b2]; exact g8) | (rw [g2]; exact g4)) (by first | (rw [b2]; exact g8) | (rw [g2]; exact g4))] at c100
                                simp only [decide_eq_true_eq, decide_eq_false_iff_not, Decidable.not_not] at c100
                                show xEx G0 cdX12_isIdle (some .boolean) (xRn G0 MT (d + 4)) Q b 103 [some (.inr (.inr 66)), some (.inl e), some (.inl (xand (xshl 1 (h 66 4) - 1) (xxor (xshl 1 e) (-1)))), some (.inl ii), some (.inl n9)] [] hh
                                have nhyp : ¬ (szf S T (S 0 0) (T 0 0) (-1) (h 66 51).toNat (xand (xshl 1 (h 66 4) - 1) (xxor (xshl 1 e) (-1))) < 1000000 ∧ EQN h gg (n9 + 1)) := by
                                  rintro ⟨y1, y2⟩
                                  first
                                  | exact c91 (by rw [b1, g1]; exact (y2 n9 hn0 (by omega)).1)
                                  | exact c100 (by rw [b2, g2]; exact (y2 n9 hn0 (by omega)).2)
                                  | (rcases hhe with ⟨y, -⟩ | ⟨-, y⟩
                                     · omega
                                     · exact y ⟨y1, fun j z1 z2 => y2 j z1 (by omega)⟩)
                                refine E_s 8 (i' := 111) (ls' := [some (.inr (.inr 66)), some (.inl e), some (.inl (xand (xshl 1 (h 66 4) - 1) (xxor (xshl 1 e) (-1)))), some (.inl 0), some (.inl n9)]) (sk' := [.inl n9, .inr (.inr 108), .inl n9, .inr (.inr 105)]) (h' := hh) rfl ?_
                                refine E_ld (x := (.iaload, 0, [], [])) (ty := .int) (n := 32) rfl rfl rfl (by omega) (by omega) ?_
                                show xEx G0 cdX12_isIdle (some .boolean) (xRn G0 MT (d + 4)) Q b 112 [some (.inr (.inr 66)), some (.inl e), some (.inl (xand (xshl 1 (h 66 4) - 1) (xxor (xshl 1 e) (-1)))), some (.inl 0), some (.inl n9)] [.inl (hh 108 n9), .inl n9, .inr (.inr 105)] hh
                                refine E_sd (x := (.iastore, 0, [], [])) (ty := .int) (n := 32) (y := (hh 108 n9)) rfl rfl rfl (by omega) (by omega) (trivial) ?_
                                show xEx G0 cdX12_isIdle (some .boolean) (xRn G0 MT (d + 4)) Q b 113 [some (.inr (.inr 66)), some (.inl e), some (.inl (xand (xshl 1 (h 66 4) - 1) (xxor (xshl 1 e) (-1)))), some (.inl 0), some (.inl n9)] [] (xup hh 105 n9 (hh 108 n9))
                                refine E_s 6 (i' := 119) (ls' := [some (.inr (.inr 66)), some (.inl e), some (.inl (xand (xshl 1 (h 66 4) - 1) (xxor (xshl 1 e) (-1)))), some (.inl 0), some (.inl n9)]) (sk' := [.inl n9, .inr (.inr 109), .inl n9, .inr (.inr 106)]) (h' := (xup hh 105 n9 (hh 108 n9))) rfl ?_
                                refine E_ld (x := (.iaload, 0, [], [])) (ty := .int) (n := 32) rfl rfl rfl (by omega) (by omega) ?_
                                show xEx G0 cdX12_isIdle (some .boolean) (xRn G0 MT (d + 4)) Q b 120 [some (.inr (.inr 66)), some (.inl e), some (.inl (xand (xshl 1 (h 66 4) - 1) (xxor (xshl 1 e) (-1)))), some (.inl 0), some (.inl n9)] [.inl (hh 109 n9), .inl n9, .inr (.inr 106)] (xup hh 105 n9 (hh 108 n9))
                                refine E_sd (x := (.iastore, 0, [], [])) (ty := .int) (n := 32) (y := (hh 109 n9)) rfl rfl rfl (by omega) (by omega) (trivial) ?_
                                show xEx G0 cdX12_isIdle (some .boolean) (xRn G0 MT (d + 4)) Q b 121 [some (.inr (.inr 66)), some (.inl e), some (.inl (xand (xshl 1 (h 66 4) - 1) (xxor (xshl 1 e) (-1)))), some (.inl 0), some (.inl n9)] [] (xup (xup hh 105 n9 (hh 108 n9)) 106 n9 (hh 109 n9))
                                refine E_s 2 (i' := 78) (ls' := [some (.inr (.inr 66)), some (.inl e), some (.inl (xand (xshl 1 (h 66 4) - 1) (xxor (xshl 1 e) (-1)))), some (.inl 0), some (.inl (n9 + 1))]) (sk' := []) (h' := (xup (xup hh 105 n9 (hh 108 n9)) 106 n9 (hh 109 n9))) rfl ?_
                                exact ih78 _ (n9 + 1) 0 (by omega) (by omega) (by omega) (fun a z1 z2 => by rw [xup_o _ _ _ _ a z2, xup_o _ _ _ _ a z1]; exact hhf a z1 z2) (fun j z1 z2 => by
                                  by_cases e9 : j = n9
                                  · rw [e9, xup_s, xup_o _ _ _ _ _ (by decide), xup_s]
                                    rw [hhf _ (by decide) (by decide), hhf _ (by decide) (by decide)]
                                    exact d9 n9 hn0 (by omega)
                                  · rw [xup_j e9, xup_o _ _ _ _ _ (by decide), xup_j e9, xup_o _ _ _ _ _ (by decide)]
                                    exact hh1 j z1 (by omega)) (fun j z1 z2 => by
                                  rw [xup_j (by omega), xup_o _ _ _ _ _ (by decide), xup_j (by omega), xup_o _ _ _ _ _ (by decide)]
                                  exact hh2 j (by omega) z2) (Or.inr ⟨rfl, nhyp⟩) (by omega)
                              · rw [c_ne (by first | (rw [b2]; exact g8) | (rw [g2]; exact g4)) (by first | (rw [b2]; exact g8) | (rw [g2]; exact g4))] at c100
                                simp only [decide_eq_true_eq, decide_eq_false_iff_not, Decidable.not_not] at c100
                                show xEx G0 cdX12_isIdle (some .boolean) (xRn G0 MT (d + 4)) Q b 101 [some (.inr (.inr 66)), some (.inl e), some (.inl (xand (xshl 1 (h 66 4) - 1) (xxor (xshl 1 e) (-1)))), some (.inl ii), some (.inl n9)] [] hh
                                have a91 : h 105 n9 = gg 105 n9 := by rw [← b1, ← g1]; exact c91
                                have a100 : h 106 n9 = gg 106 n9 := by rw [← b2, ← g2]; exact c100
                                refine E_s 9 (i' := 111) (ls' := [some (.inr (.inr 66)), some (.inl e), some (.inl (xand (xshl 1 (h 66 4) - 1) (xxor (xshl 1 e) (-1)))), some (.inl 1), some (.inl n9)]) (sk' := [.inl n9, .inr (.inr 108), .inl n9, .inr (.inr 105)]) (h' := hh) rfl ?_
                                refine E_ld (x := (.iaload, 0, [], [])) (ty := .int) (n := 32) rfl rfl rfl (by omega) (by omega) ?_
                                show xEx G0 cdX12_isIdle (some .boolean) (xRn G0 MT (d + 4)) Q b 112 [some (.inr (.inr 66)), some (.inl e), some (.inl (xand (xshl 1 (h 66 4) - 1) (xxor (xshl 1 e) (-1)))), some (.inl 1), some (.inl n9)] [.inl (hh 108 n9), .inl n9, .inr (.inr 105)] hh
                                refine E_sd (x := (.iastore, 0, [], [])) (ty := .int) (n := 32) (y := (hh 108 n9)) rfl rfl rfl (by omega) (by omega) (trivial) ?_
                                show xEx G0 cdX12_isIdle (some .boolean) (xRn G0 MT (d + 4)) Q b 113 [some (.inr (.inr 66)), some (.inl e), some (.inl (xand (xshl 1 (h 66 4) - 1) (xxor (xshl 1 e) (-1)))), some (.inl 1), some (.inl n9)] [] (xup hh 105 n9 (hh 108 n9))
                                refine E_s 6 (i' := 119) (ls' := [some (.inr (.inr 66)), some (.inl e), some (.inl (xand (xshl 1 (h 66 4) - 1) (xxor (xshl 1 e) (-1)))), some (.inl 1), some (.inl n9)]) (sk' := [.inl n9, .inr (.inr 109), .inl n9, .inr (.inr 106)]) (h' := (xup hh 105 n9 (hh 108 n9))) rfl ?_
                                refine E_ld (x := (.iaload, 0, [], [])) (ty := .int) (n := 32) rfl rfl rfl (by omega) (by omega) ?_
                                show xEx G0 cdX12_isIdle (some .boolean) (xRn G0 MT (d + 4)) Q b 120 [some (.inr (.inr 66)), some (.inl e), some (.inl (xand (xshl 1 (h 66 4) - 1) (xxor (xshl 1 e) (-1)))), some (.inl 1), some (.inl n9)] [.inl (hh 109 n9), .inl n9, .inr (.inr 106)] (xup hh 105 n9 (hh 108 n9))
                                refine E_sd (x := (.iastore, 0, [], [])) (ty := .int) (n := 32) (y := (hh 109 n9)) rfl rfl rfl (by omega) (by omega) (trivial) ?_
                                show xEx G0 cdX12_isIdle (some .boolean) (xRn G0 MT (d + 4)) Q b 121 [some (.inr (.inr 66)), some (.inl e), some (.inl (xand (xshl 1 (h 66 4) - 1) (xxor (xshl 1 e) (-1)))), some (.inl 1), some (.inl n9)] [] (xup (xup hh 105 n9 (hh 108 n9)) 106 n9 (hh 109 n9))
                                refine E_s 2 (i' := 78) (ls' := [some (.inr (.inr 66)), some (.inl e), some (.inl (xand (xshl 1 (h 66 4) - 1) (xxor (xshl 1 e) (-1)))), some (.inl 1), some (.inl (n9 + 1))]) (sk' := []) (h' := (xup (xup hh 105 n9 (hh 108 n9)) 106 n9 (hh 109 n9))) rfl ?_
                                exact ih78 _ (n9 + 1) 1 (by omega) (by omega) (by omega) (fun a z1 z2 => by rw [xup_o _ _ _ _ a z2, xup_o _ _ _ _ a z1]; exact hhf a z1 z2) (fun j z1 z2 => by
                                  by_cases e9 : j = n9
                                  · rw [e9, xup_s, xup_o _ _ _ _ _ (by decide), xup_s]
                                    rw [hhf _ (by decide) (by decide), hhf _ (by decide) (by decide)]
                                    exact d9 n9 hn0 (by omega)
                                  · rw [xup_j e9, xup_o _ _ _ _ _ (by decide), xup_j e9, xup_o _ _ _ _ _ (by decide)]
                                    exact hh1 j z1 (by omega)) (fun j z1 z2 => by
                                  rw [xup_j (by omega), xup_o _ _ _ _ _ (by decide), xup_j (by omega), xup_o _ _ _ _ _ (by decide)]
                                  exact hh2 j (by omega) z2) (Or.inl ⟨rfl, hyp.1, fun j z1 z2 => by
                                  by_cases e9 : j = n9
                                  · rw [e9]; exact ⟨a91, a100⟩
                                  · exact hyp.2 j z1 (by omega)⟩) (by omega)
                    exact key78 _ gg 0 1 (by omega) (by omega) (by omega) (fun _ _ _ => rfl) (fun j z1 z2 => by omega) (fun j z1 z2 => ⟨rfl, rfl⟩) ent (Nat.lt_succ_self _)
              · rw [c_ge (by first | assumption | (refine ⟨?_, ?_⟩ <;> omega) | (simp only [xr] at *; omega)) (by first | assumption | (refine ⟨?_, ?_⟩ <;> omega) | (simp only [xr] at *; omega))] at c27
                simp only [decide_eq_true_eq, decide_eq_false_iff_not, Decidable.not_not] at c27
                show xEx G0 cdX12_isIdle (some .boolean) (xRn G0 MT (d + 4)) Q b 28 [some (.inr (.inr 66)), some (.inl e), some (.inl n9), none, none] [] hc
                refine E_s 6 (i' := 34) (ls' := [some (.inr (.inr 66)), some (.inl e), some (.inl n9), none, none]) (sk' := [.inl n9, .inr (.inr 105), .inl n9, .inr (.inr 108)]) (h' := hc) rfl ?_
                refine E_ld (x := (.iaload, 0, [], [])) (ty := .int) (n := 32) rfl rfl rfl (by omega) (by omega) ?_
                show xEx G0 cdX12_isIdle (some .boolean) (xRn G0 MT (d + 4)) Q b 35 [some (.inr (.inr 66)), some (.inl e), some (.inl n9), none, none] [.inl (hc 105 n9), .inl n9, .inr (.inr 108)] hc
                refine E_sd (x := (.iastore, 0, [], [])) (ty := .int) (n := 32) (y := (hc 105 n9)) rfl rfl rfl (by omega) (by omega) (trivial) ?_
                show xEx G0 cdX12_isIdle (some .boolean) (xRn G0 MT (d + 4)) Q b 36 [some (.inr (.inr 66)), some (.inl e), some (.inl n9), none, none] [] (xup hc 108 n9 (hc 105 n9))
                refine E_s 6 (i' := 42) (ls' := [some (.inr (.inr 66)), some (.inl e), some (.inl n9), none, none]) (sk' := [.inl n9, .inr (.inr 106), .inl n9, .inr (.inr 109)]) (h' := (xup hc 108 n9 (hc 105 n9))) rfl ?_
                refine E_ld (x := (.iaload, 0, [], [])) (ty := .int) (n := 32) rfl rfl rfl (by omega) (by omega) ?_
                show xEx G0 cdX12_isIdle (some .boolean) (xRn G0 MT (d + 4)) Q b 43 [some (.inr (.inr 66)), some (.inl e), some (.inl n9), none, none] [.inl (hc 106 n9), .inl n9, .inr (.inr 109)] (xup hc 108 n9 (hc 105 n9))
                refine E_sd (x := (.iastore, 0, [], [])) (ty := .int) (n := 32) (y := (hc 106 n9)) rfl rfl rfl (by omega) (by omega) (trivial) ?_
                show xEx G0 cdX12_isIdle (some .boolean) (xRn G0 MT (d + 4)) Q b 44 [some (.inr (.inr 66)), some (.inl e), some (.inl n9), none, none] [] (xup (xup hc 108 n9 (hc 105 n9)) 109 n9 (hc 106 n9))
                refine E_s 2 (i' := 25) (ls' := [some (.inr (.inr 66)), some (.inl e), some (.inl (n9 + 1)), none, none]) (sk' := []) (h' := (xup (xup hc 108 n9 (hc 105 n9)) 109 n9 (hc 106 n9))) rfl ?_
                exact ih25 _ (n9 + 1) (by omega) (by omega) (fun a z1 z2 => by rw [xup_o _ _ _ _ a z2, xup_o _ _ _ _ a z1]; exact hcf a z1 z2) (fun j z1 z2 => by
                  by_cases e9 : j = n9
                  · rw [e9]
                    refine ⟨?_, ?_⟩
                    · rw [xup_o _ _ _ _ _ (by decide), xup_s, hcf _ (by decide) (by decide)]; rfl
                    · rw [xup_s, hcf _ (by decide) (by decide)]; rfl
                  · rw [xup_j e9, xup_o _ _ _ _ _ (by decide), xup_j e9, xup_o _ _ _ _ _ (by decide)]
                    exact hcd j z1 (by omega)) (by omega)
          exact key25 _ _ 0 (by omega) (by omega) (fun _ _ _ => rfl) (fun j z1 z2 => by omega) (Nat.lt_succ_self _)
        · rw [c_ne (by first | assumption | (refine ⟨?_, ?_⟩ <;> omega) | (simp only [xr] at *; omega)) (by first | assumption | (refine ⟨?_, ?_⟩ <;> omega) | (simp only [xr] at *; omega))] at c20
          simp only [decide_eq_true_eq, decide_eq_false_iff_not, Decidable.not_not] at c20
          show xEx G0 cdX12_isIdle (some .boolean) (xRn G0 MT (d + 4)) Q b 21 [some (.inr (.inr 66)), some (.inl e), none, none, none] [] (xup h 66 0 0)
          refine E_s 1 (i' := 22) (ls' := [some (.inr (.inr 66)), some (.inl e), none, none, none]) (sk' := [.inl 0]) (h' := (xup h 66 0 0)) rfl ?_
          exact E_ret (x := (.ireturn, 0, [], [])) (v := some (.inl 0)) rfl (Or.inr ⟨rfl, by omega⟩) (hZ (by omega) (o1 q2 (by omega)) (by omega))
    · rw [c_ne (by first | assumption | (refine ⟨?_, ?_⟩ <;> omega) | (simp only [xr] at *; omega)) (by first | assumption | (refine ⟨?_, ?_⟩ <;> omega) | (simp only [xr] at *; omega))] at c9
      simp only [decide_eq_true_eq, decide_eq_false_iff_not, Decidable.not_not] at c9
      show xEx G0 cdX12_isIdle (some .boolean) (xRn G0 MT (d + 4)) Q b 10 [some (.inr (.inr 66)), some (.inl e), none, none, none] [.inr (.inr 66)] h
      refine E_s 5 (i' := 16) (ls' := [some (.inr (.inr 66)), some (.inl e), none, none, none]) (sk' := [.inl 2]) (h' := (xup h 66 0 2)) rfl ?_
      refine E_b (x := (.ifCond .gt 11, 21, [], [])) rfl rfl (fun c16 => ?_) (fun c16 => ?_)
      · show xEx G0 cdX12_isIdle (some .boolean) (xRn G0 MT (d + 4)) Q b 21 [some (.inr (.inr 66)), some (.inl e), none, none, none] [] (xup h 66 0 2)
        refine E_s 1 (i' := 22) (ls' := [some (.inr (.inr 66)), some (.inl e), none, none, none]) (sk' := [.inl 0]) (h' := (xup h 66 0 2)) rfl ?_
        exact E_ret (x := (.ireturn, 0, [], [])) (v := some (.inl 0)) rfl (Or.inr ⟨rfl, by omega⟩) (hA (by omega) (o0 q2 (by omega)))
      · show xEx G0 cdX12_isIdle (some .boolean) (xRn G0 MT (d + 4)) Q b 17 [some (.inr (.inr 66)), some (.inl e), none, none, none] [] (xup h 66 0 2)
        exact absurd c16 (by decide)
  · rw [c_ne (by first | assumption | (refine ⟨?_, ?_⟩ <;> omega) | (simp only [xr] at *; omega)) (by first | assumption | (refine ⟨?_, ?_⟩ <;> omega) | (simp only [xr] at *; omega))] at c3
    simp only [decide_eq_true_eq, decide_eq_false_iff_not, Decidable.not_not] at c3
    show xEx G0 cdX12_isIdle (some .boolean) (xRn G0 MT (d + 4)) Q b 4 [some (.inr (.inr 66)), some (.inl e), none, none, none] [.inr (.inr 66)] h
    refine E_s 5 (i' := 16) (ls' := [some (.inr (.inr 66)), some (.inl e), none, none, none]) (sk' := [.inl 1]) (h' := (xup h 66 0 1)) rfl ?_
    refine E_b (x := (.ifCond .gt 11, 21, [], [])) rfl rfl (fun c16 => ?_) (fun c16 => ?_)
    · show xEx G0 cdX12_isIdle (some .boolean) (xRn G0 MT (d + 4)) Q b 21 [some (.inr (.inr 66)), some (.inl e), none, none, none] [] (xup h 66 0 1)
      refine E_s 1 (i' := 22) (ls' := [some (.inr (.inr 66)), some (.inl e), none, none, none]) (sk' := [.inl 0]) (h' := (xup h 66 0 1)) rfl ?_
      exact E_ret (x := (.ireturn, 0, [], [])) (v := some (.inl 0)) rfl (Or.inr ⟨rfl, by omega⟩) (hN (fun z9 => by omega))
    · show xEx G0 cdX12_isIdle (some .boolean) (xRn G0 MT (d + 4)) Q b 17 [some (.inr (.inr 66)), some (.inl e), none, none, none] [] (xup h 66 0 1)
      exact absurd c16 (by decide)
