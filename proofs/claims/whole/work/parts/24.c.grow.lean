/-! all that couples both: the class's part, the reference's part -/
def CP (h S T : xH) : Prop := (h 56 4 = 0 ∨ h 56 4 = 1) ∧ (h 56 4 = 1 → TRp (h 57) (h 58) S T 3 0 ∧ h 56 5 = szp (h 57) (h 58) S T 3 0 ∧ (0 ≤ h 56 6 ∧ h 56 6 ≤ 3) ∧ (∀ nd, 0 ≤ nd → nd < 15 → -1 ≤ h 57 nd ∧ h 57 nd < T 0 0 ∧ -1 ≤ h 58 nd ∧ h 58 nd < S 0 0) ∧ (∀ nd, 0 ≤ nd → nd < 15 → (h 57 nd = -1 ∨ h 58 nd = -1) ∧ (7 ≤ nd → h 57 nd = -1)))
def DP (h g : xH) : Prop := g 66 50 = h 56 4 ∧ (h 56 4 = 1 → g 66 60 = h 56 5 ∧ g 66 51 = h 56 6 ∧ (∀ nd, 0 ≤ nd → nd < 15 → g 105 (nd + 1) = h 57 nd ∧ g 106 (nd + 1) = h 58 nd) ∧ ∀ j, 0 ≤ j → j < 32 → (j = 0 ∨ 16 ≤ j) → g 105 j = -1 ∧ g 106 j = -1)
theorem IP_i {h S T : xH} : IP h S T ↔ CP h S T ∧ DP h h := by
  constructor
  · rintro ⟨a, b, c⟩
    refine ⟨⟨a, fun q => ?_⟩, b, fun q => ?_⟩
    · obtain ⟨x1, x2, x3, x4, x5, x6, x7⟩ := c q
      exact ⟨x1, x2, x4, fun nd z1 z2 => (x6 nd z1 z2).2.2, x7.2⟩
    · obtain ⟨x1, x2, x3, x4, x5, x6, x7⟩ := c q
      exact ⟨x3, x5, fun nd z1 z2 => ⟨(x6 nd z1 z2).1, (x6 nd z1 z2).2.1⟩, x7.1⟩
  · rintro ⟨⟨a, c⟩, b, e⟩
    refine ⟨a, b, fun q => ?_⟩
    obtain ⟨x1, x2, x4, x6⟩ := c q
    obtain ⟨y1, y2, y3, y4⟩ := e q
    exact ⟨x1, x2, y1, x4, y2, fun nd z1 z2 => ⟨(y3 nd z1 z2).1, (y3 nd z1 z2).2, x6.1 nd z1 z2⟩, y4, x6.2⟩
def CX (h : xH) : Prop := 0 ≤ h 64 1 ∧ h 64 1 ≤ 1024
def DX (h g : xH) : Prop := g 66 45 = h 64 1 ∧ ∀ i, 0 ≤ i → i < h 64 1 → g 96 i = h 65 i
def CI (h S T : xH) : Prop := CB h ∧ CE h S ∧ CT h S T ∧ CP h S T ∧ IS h S T ∧ CX h
def RI (h g S T : xH) : Prop := DB h g ∧ DE h g S ∧ DT h g T ∧ DP h g ∧ DX h g
theorem Inv_i {h : xH} : Inv h ↔ ∃ S T, CI h S T ∧ RI h h S T := by
  constructor
  · rintro ⟨S, T, ib, ie, it, ip, is_, ix⟩
    obtain ⟨a1, a2⟩ := IB_i.mp ib
    obtain ⟨b1, b2⟩ := IE_i.mp ie
    obtain ⟨c1, c2⟩ := IT_i.mp it
    obtain ⟨d1, d2⟩ := IP_i.mp ip
    exact ⟨S, T, ⟨a1, b1, c1, d1, is_, ix.1⟩, a2, b2, c2, d2, ix.2⟩
  · rintro ⟨S, T, ⟨a1, b1, c1, d1, is_, x1⟩, a2, b2, c2, d2, x2⟩
    exact ⟨S, T, IB_i.mpr ⟨a1, a2⟩, IE_i.mpr ⟨b1, b2⟩, IT_i.mpr ⟨c1, c2⟩, IP_i.mpr ⟨d1, d2⟩, is_, x1, x2⟩
theorem CB_fr {h h' : xH} (e : ∀ a, a < 9 → h' a = h a) (c : CB h) : CB h' := by
  unfold CB
  rw [e 1 (by decide), e 3 (by decide), e 4 (by decide), e 5 (by decide), e 6 (by decide), e 7 (by decide), e 8 (by decide), e 0 (by decide)]
  exact c
theorem CE_fr {h h' S : xH} (e : ∀ a, a < 28 → h' a = h a) (c : CE h S) : CE h' S := by
  obtain ⟨c1, c2⟩ := c
  refine ⟨RC_fr (fun a _ z => e a (by omega)) (e 1 (by decide)) c1, ?_⟩
  unfold ENZ
  rw [e 1 (by decide), e 6 (by decide), e 9 (by decide), e 23 (by decide)]
  exact c2
theorem CT_fr {h h' S S' T : xH} (st : STB S S') (e : ∀ a, (a = 1 ∨ (28 ≤ a ∧ a ≤ 43)) → h' a = h a) (c : CT h S T) : CT h' S' T := by
  obtain ⟨c1, c2, c3, c4, c5, c6⟩ := c
  refine ⟨RCT_fr (fun a z1 z2 => e a (by omega)) c1, ?_⟩
  unfold ETZ
  rw [e 1 (by decide), e 28 (by decide), e 42 (by decide)]
  exact ⟨c2, c3, FWT_up st c4, fun q => FWT_up st (c5 q), c6⟩
theorem CP_fr {h h' S S' T T' : xH} (hS : STB S S') (hT : STB T T') (e : ∀ a, (56 ≤ a ∧ a ≤ 58) → h' a = h a) (c : CP h S T) : CP h' S' T' := by
  unfold CP
  rw [e 56 (by decide), e 57 (by decide), e 58 (by decide)]
  refine ⟨c.1, fun q => ?_⟩
  obtain ⟨x1, x2, x3, x4⟩ := c.2 q
  refine ⟨TRp_up hS.1 hT.1 3 0 x1, ?_, x3, fun nd z1 z2 => ?_, x4.2⟩
  · rw [szp_up hS hT 3 0 x1]; exact x2
  · have := x4.1 nd z1 z2
    have := hS.1
    have := hT.1
    omega
theorem CX_fr {h h' : xH} (e : h' 64 = h 64) (c : CX h) : CX h' := by unfold CX; rw [e]; exact c
theorem CI_fr {h h' S T : xH} (e : ∀ a, a < 66 → h' a = h a) (c : CI h S T) : CI h' S T := by
  obtain ⟨a, b, c, d, s, x⟩ := c
  exact ⟨CB_fr (fun a z => e a (by omega)) a, CE_fr (fun a z => e a (by omega)) b, CT_fr (STB.rf _) (fun a z => e a (by omega)) c, CP_fr (STB.rf _) (STB.rf _) (fun a z => e a (by omega)) d, IS_fr (STB.rf _) (STB.rf _) (fun a z1 z2 => e a (by omega)) (e 1 (by decide)) s, CX_fr (e _ (by decide)) x⟩
theorem DB_fr {h g g' : xH} (m : g' 66 4 = g 66 4 ∧ g' 66 1 = g 66 1 ∧ g' 66 6 = g 66 6 ∧ g' 66 3 = g 66 3 ∧ g' 66 2 = g 66 2) (t : g' 67 = g 67) (c : g' 68 = g 68) (i : DB h g) : DB h g' := by
  unfold DB
  rw [m.1, m.2.1, m.2.2.1, m.2.2.2.1, m.2.2.2.2, t, c]
  exact i
theorem DE_fr {h g g' S : xH} (h3 : S 0 0 ≤ 300) (k0 : g' 66 8 = g 66 8) (k1 : g' 66 4 = g 66 4) (al : g' 89 0 = g 89 0) (pp : ∀ k, k < 300 → g' 69 k = g 69 k ∧ g' 70 k = g 70 k ∧ g' 71 k = g 71 k) (e : ∀ a, 72 ≤ a → a ≤ 78 → g' a = g a) (l : g' 88 0 = g 88 0 ∧ g' 91 0 = g 91 0 ∧ g' 90 0 = g 90 0) (i : DE h g S) : DE h g' S := by
  obtain ⟨i1, i2, i3, i4⟩ := i
  exact ⟨RR_fr h3 k0 k1 al pp e i1, l.1.trans i2, l.2.1.trans i3, l.2.2.trans i4⟩
theorem DT_fr {h g g' T : xH} (h3 : T 0 0 ≤ 150) (k0 : g' 66 19 = g 66 19) (k1 : g' 66 33 = g 66 33) (al : g' 89 1 = g 89 1) (pp : ∀ k, k < 150 → g' 79 k = g 79 k ∧ g' 80 k = g 80 k ∧ g' 81 k = g 81 k) (e : ∀ a, 82 ≤ a → a ≤ 87 → g' a = g a) (l : g' 88 1 = g 88 1 ∧ g' 91 1 = g 91 1 ∧ g' 90 1 = g 90 1) (i : DT h g T) : DT h g' T := by
  obtain ⟨i1, i2, i3, i4⟩ := i
  exact ⟨RRT_fr h3 k0 k1 al pp e i1, l.1.trans i2, l.2.1.trans i3, l.2.2.trans i4⟩
theorem DP_fr {h g g' : xH} (m : g' 66 50 = g 66 50 ∧ g' 66 60 = g 66 60 ∧ g' 66 51 = g 66 51) (e4 : g' 105 = g 105) (e5 : g' 106 = g 106) (i : DP h g) : DP h g' := by
  unfold DP
  rw [m.1, m.2.1, m.2.2, e4, e5]
  exact i
theorem DX_fr {h g g' : xH} (m : g' 66 45 = g 66 45) (e : g' 96 = g 96) (i : DX h g) : DX h g' := by
  unfold DX
  rw [m, e]
  exact i
/-- the reference's part speaks of the class's cells alone by what they hold -/
theorem RI_cl {h h' g S T : xH} (e : ∀ a, a < 66 → h' a = h a) (r : RI h g S T) : RI h' g S T := by
  unfold RI DB DE DT DP DX
  rw [e 1 (by decide), e 3 (by decide), e 4 (by decide), e 5 (by decide), e 6 (by decide), e 7 (by decide), e 8 (by decide), e 0 (by decide), e 9 (by decide), e 28 (by decide), e 56 (by decide), e 57 (by decide), e 58 (by decide), e 64 (by decide), e 65 (by decide)]
  exact r
/-- reference's run over: the class's cells are as they were -/
theorem Inv_mk {h g S T : xH} (e : ∀ a, a < 66 → g a = h a) (c : CI h S T) (r : RI h g S T) : Inv g := Inv_i.mpr ⟨S, T, CI_fr e c, RI_cl e r⟩
theorem FM_RI {h g g' S T : xH} (h3 : S 0 0 ≤ 300) (h4 : T 0 0 ≤ 150) (f : FM g g') (r : RI h g S T) : RI h g' S T := by
  obtain ⟨f1, f2, f3, f4⟩ := f
  obtain ⟨a, b, c, d, x⟩ := r
  have m : ∀ j, mdf j → g' 66 j = g 66 j := f2
  have u : ∀ a, (66 < a ∧ a ≤ 91 ∧ a ≠ 69 ∧ a ≠ 70 ∧ a ≠ 71 ∧ a ≠ 79 ∧ a ≠ 80 ∧ a ≠ 81) ∨ a = 96 ∨ a = 105 ∨ a = 106 → g' a = g a := fun a z => f1 a (by unfold scr; omega) (by omega) (by omega) (by omega) (by omega) (by omega) (by omega) (by omega)
  refine ⟨DB_fr ⟨m 4 (by unfold mdf; decide), m 1 (by unfold mdf; decide), m 6 (by unfold mdf; decide), m 3 (by unfold mdf; decide), m 2 (by unfold mdf; decide)⟩ (u _ (by decide)) (u _ (by decide)) a, DE_fr h3 (m 8 (by unfold mdf; decide)) (m 4 (by unfold mdf; decide)) (by rw [u 89 (by decide)]) f3 (fun a z1 z2 => u a (by omega)) ⟨by rw [u 88 (by decide)], by rw [u 91 (by decide)], by rw [u 90 (by decide)]⟩ b, DT_fr h4 (m 19 (by unfold mdf; decide)) (m 33 (by unfold mdf; decide)) (by rw [u 89 (by decide)]) f4 (fun a z1 z2 => u a (by omega)) ⟨by rw [u 88 (by decide)], by rw [u 91 (by decide)], by rw [u 90 (by decide)]⟩ c, DP_fr ⟨m 50 (by unfold mdf; decide), m 60 (by unfold mdf; decide), m 51 (by unfold mdf; decide)⟩ (u _ (by decide)) (u _ (by decide)) d, DX_fr (m 45 (by unfold mdf; decide)) (u _ (by decide)) x⟩
set_option maxHeartbeats 1000000 in
theorem o_grow0 (d  : Nat) (h : xH) {Q : xO → xH → Prop} (H : xRn G0 MT (d + 8) 0 33 [.inr (.inr 9), .inl (h 0 9)] h (fun o h9 => ∃ r, o = .inl (some (.inl r)) ∧ Q (.inl (some (.inl r))) h9)) : xRn G0 MT (d + 9) 0 104 [.inr (.inr 0), .inl 0] h Q := by
  refine R_of (M := mX11_grow) rfl (Nat.le_of_ble_eq_true rfl) ?_
  show xEx G0 cdX11_grow (some .int) (xRn G0 MT (d + 8)) Q 0 0 [some (.inr (.inr 0)), some (.inl 0)] [] h
  refine E_s 2 (i' := 2) (ls' := [some (.inr (.inr 0)), some (.inl 0)]) (sk' := [.inl 0, .inr (.inr 0)]) (h' := h) rfl ?_
  refine E_cx (x := (.invokevirtual 161, 1, [(9, 142)], [0])) (b1 := 0) (b2 := 0) (v := (some (.inr (.inr 9)))) (q := fun h9 => (True) ∧ h = h9) rfl rfl (Nat.le_of_ble_eq_true rfl) (fun z => by cases z) (c_growthOf0 (d + 7) 0 h (Or.inl ⟨rfl, trivial, rfl⟩)) (fun h9 hq9 => ?_)
  obtain ⟨_t, rfl⟩ := hq9
  show xEx G0 cdX11_grow (some .int) (xRn G0 MT (d + 8)) Q 0 3 [some (.inr (.inr 0)), some (.inl 0)] [.inr (.inr 9)] h
  refine E_s 2 (i' := 5) (ls' := [some (.inr (.inr 0)), some (.inl 0)]) (sk' := [.inl (h 0 9), .inr (.inr 9)]) (h' := h) rfl ?_
  refine E_cp (x := (.invokevirtual 165, 1, [(1, 33), (7, 33)], [1])) (q := fun r h9 => Q (.inl (some (.inl r))) h9) rfl rfl (Nat.le_of_ble_eq_true rfl) (H) (fun r h9 hq => ?_)
  show xEx G0 cdX11_grow (some .int) (xRn G0 MT (d + 8)) Q 0 6 [some (.inr (.inr 0)), some (.inl 0)] [.inl r] h9
  exact E_ret (x := (.ireturn, 0, [], [])) (v := some (.inl r)) rfl (Or.inl rfl) (hq)
set_option maxHeartbeats 1000000 in
theorem m_grow0 (d b : Nat) (h : xH) {Q : xO → xH → Prop} (H : xRn G0 MT (d + 6) 0 190 [.inr (.inr 66), .inl 0] (xup (xup h 66 0 0) 66 35 (h 66 2)) (fun o h9 => ∃ r, o = .inl (some (.inl r)) ∧ Q (.inl (some (.inl r))) h9)) : xRn G0 MT (d + 7) b 191 [.inr (.inr 66), .inl 0] h Q := by
  refine R_of (M := mX12_grow) rfl (Nat.le_of_ble_eq_true rfl) ?_
  show xEx G0 cdX12_grow (some .int) (xRn G0 MT (d + 6)) Q b 0 [some (.inr (.inr 66)), some (.inl 0)] [] h
  refine E_s 9 (i' := 9) (ls' := [some (.inr (.inr 66)), some (.inl 0)]) (sk' := [.inl 0, .inr (.inr 66)]) (h' := (xup (xup h 66 0 0) 66 35 (h 66 2))) rfl ?_
  refine E_b (x := (.ifCond .eq 7, 12, [], [])) rfl rfl (fun c9 => ?_) (fun c9 => ?_)
  · show xEx G0 cdX12_grow (some .int) (xRn G0 MT (d + 6)) Q b 12 [some (.inr (.inr 66)), some (.inl 0)] [.inr (.inr 66)] (xup (xup h 66 0 0) 66 35 (h 66 2))
    refine E_s 1 (i' := 13) (ls' := [some (.inr (.inr 66)), some (.inl 0)]) (sk' := [.inl 0, .inr (.inr 66)]) (h' := (xup (xup h 66 0 0) 66 35 (h 66 2))) rfl ?_
    refine E_cp (x := (.invokevirtual 292, 1, [(10, 190)], [0])) (q := fun r h9 => Q (.inl (some (.inl r))) h9) rfl rfl (Nat.le_of_ble_eq_true rfl) (H) (fun r h9 hq => ?_)
    show xEx G0 cdX12_grow (some .int) (xRn G0 MT (d + 6)) Q b 14 [some (.inr (.inr 66)), some (.inl 0)] [.inl r] h9
    exact E_ret (x := (.ireturn, 0, [], [])) (v := some (.inl r)) rfl (Or.inl rfl) (hq)
  · show xEx G0 cdX12_grow (some .int) (xRn G0 MT (d + 6)) Q b 10 [some (.inr (.inr 66)), some (.inl 0)] [.inr (.inr 66)] (xup (xup h 66 0 0) 66 35 (h 66 2))
    exact absurd c9 (by decide)
set_option maxHeartbeats 1000000 in
theorem o_grow1 (d  : Nat) (h : xH) {Q : xO → xH → Prop} (H : xRn G0 MT (d + 8) 0 33 [.inr (.inr 28), .inl (h 0 9)] h (fun o h9 => ∃ r, o = .inl (some (.inl r)) ∧ Q (.inl (some (.inl r))) h9)) : xRn G0 MT (d + 9) 0 104 [.inr (.inr 0), .inl 1] h Q := by
  refine R_of (M := mX11_grow) rfl (Nat.le_of_ble_eq_true rfl) ?_
  show xEx G0 cdX11_grow (some .int) (xRn G0 MT (d + 8)) Q 0 0 [some (.inr (.inr 0)), some (.inl 1)] [] h
  refine E_s 2 (i' := 2) (ls' := [some (.inr (.inr 0)), some (.inl 1)]) (sk' := [.inl 1, .inr (.inr 0)]) (h' := h) rfl ?_
  refine E_cx (x := (.invokevirtual 161, 1, [(9, 142)], [0])) (b1 := 0) (b2 := 0) (v := (some (.inr (.inr 28)))) (q := fun h9 => (True) ∧ h = h9) rfl rfl (Nat.le_of_ble_eq_true rfl) (fun z => by cases z) (c_growthOf1 (d + 7) 0 h (Or.inl ⟨rfl, trivial, rfl⟩)) (fun h9 hq9 => ?_)
  obtain ⟨_t, rfl⟩ := hq9
  show xEx G0 cdX11_grow (some .int) (xRn G0 MT (d + 8)) Q 0 3 [some (.inr (.inr 0)), some (.inl 1)] [.inr (.inr 28)] h
  refine E_s 2 (i' := 5) (ls' := [some (.inr (.inr 0)), some (.inl 1)]) (sk' := [.inl (h 0 9), .inr (.inr 28)]) (h' := h) rfl ?_
  refine E_cp (x := (.invokevirtual 165, 1, [(1, 33), (7, 33)], [1])) (q := fun r h9 => Q (.inl (some (.inl r))) h9) rfl rfl (Nat.le_of_ble_eq_true rfl) (H) (fun r h9 hq => ?_)
  show xEx G0 cdX11_grow (some .int) (xRn G0 MT (d + 8)) Q 0 6 [some (.inr (.inr 0)), some (.inl 1)] [.inl r] h9
  exact E_ret (x := (.ireturn, 0, [], [])) (v := some (.inl r)) rfl (Or.inl rfl) (hq)
set_option maxHeartbeats 1000000 in
theorem m_grow1 (d b : Nat) (h : xH) {Q : xO → xH → Prop} (H : xRn G0 MT (d + 6) 0 190 [.inr (.inr 66), .inl 1] (xup (xup h 66 0 0) 66 35 (h 66 2)) (fun o h9 => ∃ r, o = .inl (some (.inl r)) ∧ Q (.inl (some (.inl r))) h9)) : xRn G0 MT (d + 7) b 191 [.inr (.inr 66), .inl 1] h Q := by
  refine R_of (M := mX12_grow) rfl (Nat.le_of_ble_eq_true rfl) ?_
  show xEx G0 cdX12_grow (some .int) (xRn G0 MT (d + 6)) Q b 0 [some (.inr (.inr 66)), some (.inl 1)] [] h
  refine E_s 9 (i' := 9) (ls' := [some (.inr (.inr 66)), some (.inl 1)]) (sk' := [.inl 1, .inr (.inr 66)]) (h' := (xup (xup h 66 0 0) 66 35 (h 66 2))) rfl ?_
  refine E_b (x := (.ifCond .eq 7, 12, [], [])) rfl rfl (fun c9 => ?_) (fun c9 => ?_)
  · show xEx G0 cdX12_grow (some .int) (xRn G0 MT (d + 6)) Q b 12 [some (.inr (.inr 66)), some (.inl 1)] [.inr (.inr 66)] (xup (xup h 66 0 0) 66 35 (h 66 2))
    exact absurd c9 (by decide)
  · show xEx G0 cdX12_grow (some .int) (xRn G0 MT (d + 6)) Q b 10 [some (.inr (.inr 66)), some (.inl 1)] [.inr (.inr 66)] (xup (xup h 66 0 0) 66 35 (h 66 2))
    refine E_s 2 (i' := 13) (ls' := [some (.inr (.inr 66)), some (.inl 1)]) (sk' := [.inl 1, .inr (.inr 66)]) (h' := (xup (xup h 66 0 0) 66 35 (h 66 2))) rfl ?_
    refine E_cp (x := (.invokevirtual 292, 1, [(10, 190)], [0])) (q := fun r h9 => Q (.inl (some (.inl r))) h9) rfl rfl (Nat.le_of_ble_eq_true rfl) (H) (fun r h9 hq => ?_)
    show xEx G0 cdX12_grow (some .int) (xRn G0 MT (d + 6)) Q b 14 [some (.inr (.inr 66)), some (.inl 1)] [.inl r] h9
    exact E_ret (x := (.ireturn, 0, [], [])) (v := some (.inl r)) rfl (Or.inl rfl) (hq)
