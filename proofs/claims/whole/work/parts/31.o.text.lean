theorem tt_cg {κ u w : Int} {f g g' : Int → List Int} (h1 : 2 ≤ κ → g u = g' u) (h2 : κ = 3 → g w = g' w) : tt1 κ u w f g = tt1 κ u w f g' := by
  unfold tt1
  by_cases c : κ = 2
  · rw [if_pos c, if_pos c, h1 (by omega)]
  by_cases c2 : κ = 3
  · rw [if_neg c, if_neg c, if_pos c2, if_pos c2, h1 (by omega), h2 c2]
  · rw [if_neg c, if_neg c, if_neg c2, if_neg c2]
theorem tt_r {n0 : Int} {wt : Int → Int} {S T : xH} (hF : FW n0 wt 9 S) {K z κ u w : Int} {g : Int → List Int} (c : twf S T K z κ u w) (h1 : 2 ≤ κ → ((g u).length : Int) ≤ 6 * T 4 u) (h2 : κ = 3 → ((g w).length : Int) ≤ 6 * T 4 w) : ((tt1 κ u w (TE S) g).length : Int) ≤ 6 * z := by
  rcases c with ⟨a, a1, b, b1, c, c1, -, -, e⟩ | ⟨a, b, b1, -, e⟩ | ⟨a, b, b1, c, c1, e⟩
  · rw [tt_1 ⟨a, a1⟩]
    have := TE_r hF b b1
    have := TE_r hF c c1
    simp only [List.length_append, List.length_cons, List.length_nil]
    omega
  · rw [tt_2 a]
    have := h1 (by omega)
    simp only [List.length_append, List.length_cons, List.length_nil]
    omega
  · rw [tt_3 a]
    have := h1 (by omega)
    have := h2 a
    simp only [List.length_append, List.length_cons, List.length_nil]
    omega
theorem txT_r {n0 : Int} {wt : Int → Int} {S T : xH} (hF : FW n0 wt 9 S) (hT : FWT S 7 T) : ∀ (n : Nat) (k : Int), 0 ≤ k → k < T 0 0 → T 4 k ≤ (n : Int) → ((txT S T n k).length : Int) ≤ 6 * T 4 k
  | 0, k, k0, k1, kn => by have := (hT k k0 k1).2.1; omega
  | n + 1, k, k0, k1, kn => by
    obtain ⟨c, -⟩ := hT k k0 k1
    have ch := tw_ch hT (Int.le_of_lt k1) c
    refine tt_r hF c (fun z => ?_) (fun z => ?_)
    · rcases ch with ⟨-, a, -⟩ | ⟨a, a1, a2, a3, -⟩ | ⟨a, a1, a2, a3, a4, a5, a6, -⟩
      · omega
      · exact txT_r hF hT n _ a1 (by omega) (by omega)
      · exact txT_r hF hT n _ a1 (by omega) (by omega)
    · rcases ch with ⟨-, a, -⟩ | ⟨a, a1, a2, a3, -⟩ | ⟨a, a1, a2, a3, a4, a5, a6, -⟩
      · omega
      · omega
      · exact txT_r hF hT n _ a3 (by omega) (by omega)
theorem txT_st {S T : xH} (hT : FWT S 7 T) : ∀ (n m : Nat) (k : Int), 0 ≤ k → k < T 0 0 → T 4 k ≤ (n : Int) → T 4 k ≤ (m : Int) → txT S T n k = txT S T m k
  | 0, _, k, k0, k1, kn, _ => by have := (hT k k0 k1).2.1; omega
  | _ + 1, 0, k, k0, k1, _, kn => by have := (hT k k0 k1).2.1; omega
  | n + 1, m + 1, k, k0, k1, kn, km => by
    obtain ⟨c, -⟩ := hT k k0 k1
    have ch := tw_ch hT (Int.le_of_lt k1) c
    show tt1 (T 1 k) (T 2 k) (T 3 k) (txE S 9) (txT S T n) = tt1 (T 1 k) (T 2 k) (T 3 k) (txE S 9) (txT S T m)
    refine tt_cg (fun z => ?_) (fun z => ?_)
    · rcases ch with ⟨-, a, -⟩ | ⟨a, a1, a2, a3, -⟩ | ⟨a, a1, a2, a3, a4, a5, a6, -⟩
      · omega
      · exact txT_st hT n m _ a1 (by omega) (by omega) (by omega)
      · exact txT_st hT n m _ a1 (by omega) (by omega) (by omega)
    · rcases ch with ⟨-, a, -⟩ | ⟨a, a1, a2, a3, -⟩ | ⟨a, a1, a2, a3, a4, a5, a6, -⟩
      · omega
      · omega
      · exact txT_st hT n m _ a3 (by omega) (by omega) (by omega)
def TT (S T : xH) (k : Int) : List Int := txT S T 9 k
def GT (S T : xH) (c1 c2 c3 : Int) : List Int := tt1 c1 c2 c3 (TE S) (TT S T)
theorem GT_8 {S T : xH} (hT : FWT S 7 T) {y c1 c2 c3 : Int} (hy : y ≤ 7) (c : twf S T (T 0 0) y c1 c2 c3) : GT S T c1 c2 c3 = tt1 c1 c2 c3 (TE S) (txT S T 8) := by
  have ch := tw_ch hT (Int.le_refl _) c
  refine tt_cg (fun z => ?_) (fun z => ?_)
  · rcases ch with ⟨-, a, -⟩ | ⟨a, a1, a2, a3, -⟩ | ⟨a, a1, a2, a3, a4, a5, a6, -⟩
    · omega
    · exact txT_st hT 9 8 _ a1 (by omega) (by omega) (by omega)
    · exact txT_st hT 9 8 _ a1 (by omega) (by omega) (by omega)
  · rcases ch with ⟨-, a, -⟩ | ⟨a, a1, a2, a3, -⟩ | ⟨a, a1, a2, a3, a4, a5, a6, -⟩
    · omega
    · omega
    · exact txT_st hT 9 8 _ a3 (by omega) (by omega) (by omega)
theorem twf_K {S T : xH} {K K' y c1 c2 c3 : Int} (hK : K ≤ K') (c : twf S T K y c1 c2 c3) : twf S T K' y c1 c2 c3 := by
  rcases c with a | ⟨a, b, b1, c, e⟩ | ⟨a, b, b1, c, c1, e⟩
  · exact Or.inl a
  · exact Or.inr (Or.inl ⟨a, b, by omega, c, e⟩)
  · exact Or.inr (Or.inr ⟨a, b, by omega, c, by omega, e⟩)
theorem TT_eq {S T : xH} (hT : FWT S 7 T) {k : Int} (k0 : 0 ≤ k) (k1 : k < T 0 0) : TT S T k = GT S T (T 1 k) (T 2 k) (T 3 k) := by
  obtain ⟨c, -, c2, -⟩ := hT k k0 k1
  rw [GT_8 hT c2 (twf_K (Int.le_of_lt k1) c)]
  rfl
theorem TT_r {n0 : Int} {wt : Int → Int} {S T : xH} (hF : FW n0 wt 9 S) (hT : FWT S 7 T) {k : Int} (k0 : 0 ≤ k) (k1 : k < T 0 0) : ((TT S T k).length : Int) ≤ 42 := by
  have q := (hT k k0 k1).2.2.1
  have := txT_r hF hT 9 k k0 k1 (by omega)
  unfold TT
  omega
theorem GT_r {n0 : Int} {wt : Int → Int} {S T : xH} (hF : FW n0 wt 9 S) (hT : FWT S 7 T) {y c1 c2 c3 : Int} (hy : y ≤ 7) (c : twf S T (T 0 0) y c1 c2 c3) : ((GT S T c1 c2 c3).length : Int) ≤ 42 := by
  have ch := tw_ch hT (Int.le_refl _) c
  have r : ((tt1 c1 c2 c3 (TE S) (TT S T)).length : Int) ≤ 6 * y := by
    refine tt_r hF c (fun z => ?_) (fun z => ?_)
    · rcases ch with ⟨-, a, -⟩ | ⟨a, a1, a2, a3, -⟩ | ⟨a, a1, a2, a3, a4, a5, a6, -⟩
      · omega
      · exact txT_r hF hT 9 _ a1 (by omega) (by omega)
      · exact txT_r hF hT 9 _ a1 (by omega) (by omega)
    · rcases ch with ⟨-, a, -⟩ | ⟨a, a1, a2, a3, -⟩ | ⟨a, a1, a2, a3, a4, a5, a6, -⟩
      · omega
      · omega
      · exact txT_r hF hT 9 _ a3 (by omega) (by omega)
  unfold GT
  omega
theorem c_spT {n0 : Int} {wt : Int → Int} {S T : xH} (hF : FW n0 wt 9 S) (hT : FWT S 7 T) : ∀ (n d b : Nat) (h : xH) (k dp : Int), RC h S → S 0 0 ≤ 300 → RCT h T → T 0 0 ≤ 150 → (0 ≤ k ∧ k < T 0 0) → T 4 k ≤ (n : Int) → (n : Int) ≤ dp → dp ≤ 9 → 0 ≤ h 64 1 → h 64 1 + ((txT S T n k).length : Nat) + 3 ≤ 1024 → ∀ {Q : xO → xH → Prop}, Q (.inl none) (tadds h (txT S T n k)) → xRn2 G0 MT (d + n + 12) b 92 [.inr (.inr 28), .inr (.inr 64), .inr (.inr 29), .inl k, .inl dp] h Q
  | 0, d, b, h, k, dp, hR, h3, hRT, h4, hk, hn, hd, hd9, l0, l1, Q, hQ => by have := (hT k hk.1 hk.2).2.1; omega
  | n + 1, d, b, h, k, dp, hR, h3, hRT, h4, hk, hn, hd, hd9, l0, l1, Q, hQ => by
    obtain ⟨c, t3, -⟩ := hT k hk.1 hk.2
    have ch := tw_ch hT (Int.le_of_lt hk.2) c
    obtain ⟨e1, e2, e3, -⟩ := hRT.2.2.2.2.2.2.1 k hk.1 hk.2
    have e : d + (n + 1) + 12 = (d + n) + 13 := by omega
    rw [e]
    refine c_sp2_gtf (d + n) b h S k dp n0 wt (txT S T n) hF hR h3 ⟨hk.1, by omega⟩ ⟨by omega, hd9⟩ ?_ ?_ ?_ ?_ (fun hh j hj he hl h0 Q9 q9 => ?_) ?_
    · rw [e1]; omega
    · rw [e1, e2, e3]; omega
    · intro _; omega
    · rw [e1, e2, e3]; exact ⟨l0, l1⟩
    · rw [e1, e2, e3] at hj
      have hR' : RC hh S := RC_fr (fun a z1 z2 => he a (by omega) (by omega)) (he 1 (by decide) (by decide)) hR
      have hRT' : RCT hh T := RCT_fr (fun a z1 z2 => he a (by omega) (by omega)) hRT
      have hj2 := hj.2
      rcases ch with ⟨-, a, -⟩ | ⟨a, a1, a2, a3, -⟩ | ⟨a, a1, a2, a3, a4, a5, a6, -⟩
      · omega
      · rcases hj2 with rfl | ⟨-, y⟩
        · exact c_spT hF hT n d 0 hh _ (dp - 1) hR' h3 hRT' h4 ⟨a1, by omega⟩ (by omega) (by omega) (by omega) h0 hl q9
        · omega
      · rcases hj2 with rfl | ⟨rfl, y⟩
        · exact c_spT hF hT n d 0 hh _ (dp - 1) hR' h3 hRT' h4 ⟨a1, by omega⟩ (by omega) (by omega) (by omega) h0 hl q9
        · exact c_spT hF hT n d 0 hh _ (dp - 1) hR' h3 hRT' h4 ⟨a3, by omega⟩ (by omega) (by omega) (by omega) h0 hl q9
    · rw [e1, e2, e3]; exact hQ
theorem c_spK1 (d b : Nat) (h S T : xH) (k n0 : Int) (wt : Int → Int) (hF : FW n0 wt 9 S) (hR : RC h S) (h3 : S 0 0 ≤ 300) (hT : FWT S 7 T) (hRT : RCT h T) (h4 : T 0 0 ≤ 150) (hk : 0 ≤ k ∧ k < T 0 0) (l0 : 0 ≤ h 64 1) (l1 : h 64 1 + ((TT S T k).length : Nat) + 3 ≤ 1024) {Q : xO → xH → Prop} (hQ : Q (.inl none) (tadds h (TT S T k))) : xRn2 G0 MT (d + 21) b 92 [.inr (.inr 28), .inr (.inr 64), .inr (.inr 29), .inl k, .inl 9] h Q :=
  c_spT hF hT 9 d b h k 9 hR h3 hRT h4 hk (by have := (hT k hk.1 hk.2).2.2.1; omega) (by omega) (by omega) l0 l1 hQ
theorem c_spM1 (d b : Nat) (h S T : xH) (k n0 : Int) (wt : Int → Int) (hF : FW n0 wt 9 S) (hR : RC h S) (h3 : S 0 0 ≤ 300) (hT : FWT S 7 T) (hRT : RCT h T) (h4 : T 0 0 ≤ 150) (hk : 0 ≤ k ∧ k < T 0 0) (h7 : T 7 k ≠ 0) (l0 : 0 ≤ h 64 1) (l1 : h 64 1 + ((GT S T (T 8 k) (T 9 k) (T 10 k)).length : Nat) + 3 ≤ 1024) {Q : xO → xH → Prop} (hQ : Q (.inl none) (tadds h (GT S T (T 8 k) (T 9 k) (T 10 k)))) : xRn2 G0 MT (d + 21) b 92 [.inr (.inr 28), .inr (.inr 64), .inr (.inr 33), .inl k, .inl 9] h Q := by
  obtain ⟨-, -, -, -, -, f7⟩ := hT k hk.1 hk.2
  obtain ⟨y, y9, c⟩ := f7 h7
  have ch := tw_ch hT (Int.le_refl _) c
  obtain ⟨-, -, -, -, -, -, -, r8⟩ := hRT.2.2.2.2.2.2.1 k hk.1 hk.2
  obtain ⟨e1, e2, e3⟩ := r8 h7
  rw [GT_8 hT y9 c] at l1 hQ
  refine c_sp2_gtm (d + 8) b h S k 9 n0 wt (txT S T 8) hF hR h3 ⟨hk.1, by omega⟩ ⟨by omega, by omega⟩ ?_ ?_ ?_ ?_ (fun hh j hj he hl h0 Q9 q9 => ?_) ?_
  · rw [e1]; omega
  · rw [e1, e2, e3]; omega
  · intro _; omega
  · rw [e1, e2, e3]; exact ⟨l0, l1⟩
  · rw [e1, e2, e3] at hj
    have hR' : RC hh S := RC_fr (fun a z1 z2 => he a (by omega) (by omega)) (he 1 (by decide) (by decide)) hR
    have hRT' : RCT hh T := RCT_fr (fun a z1 z2 => he a (by omega) (by omega)) hRT
    have hj2 := hj.2
    rcases ch with ⟨-, a, -⟩ | ⟨a, a1, a2, a3, -⟩ | ⟨a, a1, a2, a3, a4, a5, a6, -⟩
    · omega
    · rcases hj2 with rfl | ⟨-, y⟩
      · exact c_spT hF hT 8 d 0 hh _ (9 - 1) hR' h3 hRT' h4 ⟨a1, by omega⟩ (by omega) (by omega) (by omega) h0 hl q9
      · omega
    · rcases hj2 with rfl | ⟨rfl, y⟩
      · exact c_spT hF hT 8 d 0 hh _ (9 - 1) hR' h3 hRT' h4 ⟨a1, by omega⟩ (by omega) (by omega) (by omega) h0 hl q9
      · exact c_spT hF hT 8 d 0 hh _ (9 - 1) hR' h3 hRT' h4 ⟨a3, by omega⟩ (by omega) (by omega) (by omega) h0 hl q9
  · rw [e1, e2, e3]; exact hQ
set_option maxHeartbeats 1000000 in
theorem c_spK1_ (d b : Nat) (h S T : xH) (k n0 : Int) (wt : Int → Int) (hF : FW n0 wt 9 S) (hR : RC h S) (h3 : S 0 0 ≤ 300) (hT : FWT S 7 T) (hRT : RCT h T) (h4 : T 0 0 ≤ 150) (hk : 0 ≤ k ∧ k < T 0 0) (l0 : 0 ≤ h 64 1) (l1 : h 64 1 + ((TT S T k).length : Nat) + 3 ≤ 1024) {Q : xO → xH → Prop} (hQ : Q (.inl none) (tadds h (TT S T k))) : xRn2 G0 MT (d + 22) b 26 [.inr (.inr 28), .inr (.inr 64), .inl k] h Q := by
  refine R2_of (M := mX3_spellKept) rfl (Nat.le_of_ble_eq_true rfl) ?_
  show xEx2 RX3 G0 cdX3_spellKept none (xRn2 G0 MT (d + 21)) Q b 0 [some (.inr (.inr 28)), some (.inr (.inr 64)), some (.inl k)] [] h
  refine E2_s 6 (i' := 6) (ls' := [some (.inr (.inr 28)), some (.inr (.inr 64)), some (.inl k)]) (sk' := [.inl 9, .inl k, .inr (.inr 29), .inr (.inr 64), .inr (.inr 28)]) (h' := h) rfl ?_
  refine E2_cv (x := (.invokevirtual 51, 4, [(1, 21), (7, 92)], [1])) (q := fun h9 => h9 = (tadds h (TT S T k))) rfl rfl (Nat.le_of_ble_eq_true rfl) (c_spK1 d 0 h S T k n0 wt hF hR h3 hT hRT h4 hk  l0 l1 ⟨rfl, rfl⟩) (fun h9 e9 => ?_)
  subst e9
  show xEx2 RX3 G0 cdX3_spellKept none (xRn2 G0 MT (d + 21)) Q b 7 [some (.inr (.inr 28)), some (.inr (.inr 64)), some (.inl k)] [] (tadds h (TT S T k))
  exact E2_ret (x := (.return_, 0, [], [])) (v := none) rfl (trivial) (hQ)
set_option maxHeartbeats 1000000 in
theorem c_spM1_ (d b : Nat) (h S T : xH) (k n0 : Int) (wt : Int → Int) (hF : FW n0 wt 9 S) (hR : RC h S) (h3 : S 0 0 ≤ 300) (hT : FWT S 7 T) (hRT : RCT h T) (h4 : T 0 0 ≤ 150) (hk : 0 ≤ k ∧ k < T 0 0) (h7 : T 7 k ≠ 0) (l0 : 0 ≤ h 64 1) (l1 : h 64 1 + ((GT S T (T 8 k) (T 9 k) (T 10 k)).length : Nat) + 3 ≤ 1024) {Q : xO → xH → Prop} (hQ : Q (.inl none) (tadds h (GT S T (T 8 k) (T 9 k) (T 10 k)))) : xRn2 G0 MT (d + 22) b 27 [.inr (.inr 28), .inr (.inr 64), .inl k] h Q := by
  refine R2_of (M := mX3_spellFirstMerged) rfl (Nat.le_of_ble_eq_true rfl) ?_
  show xEx2 RX3 G0 cdX3_spellFirstMerged none (xRn2 G0 MT (d + 21)) Q b 0 [some (.inr (.inr 28)), some (.inr (.inr 64)), some (.inl k)] [] h
  refine E2_s 6 (i' := 6) (ls' := [some (.inr (.inr 28)), some (.inr (.inr 64)), some (.inl k)]) (sk' := [.inl 9, .inl k, .inr (.inr 33), .inr (.inr 64), .inr (.inr 28)]) (h' := h) rfl ?_
  refine E2_cv (x := (.invokevirtual 51, 4, [(1, 21), (7, 92)], [1])) (q := fun h9 => h9 = (tadds h (GT S T (T 8 k) (T 9 k) (T 10 k)))) rfl rfl (Nat.le_of_ble_eq_true rfl) (c_spM1 d 0 h S T k n0 wt hF hR h3 hT hRT h4 hk h7 l0 l1 ⟨rfl, rfl⟩) (fun h9 e9 => ?_)
  subst e9
  show xEx2 RX3 G0 cdX3_spellFirstMerged none (xRn2 G0 MT (d + 21)) Q b 7 [some (.inr (.inr 28)), some (.inr (.inr 64)), some (.inl k)] [] (tadds h (GT S T (T 8 k) (T 9 k) (T 10 k)))
  exact E2_ret (x := (.return_, 0, [], [])) (v := none) rfl (trivial) (hQ)
