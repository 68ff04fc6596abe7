theorem tx1_cg {κ u w : Int} {f g : Int → List Int} (hk : κ ≤ 11) (h1 : κ ≤ 9 → f u = g u) (h2 : κ ≤ 9 → ¬ (κ = 5 ∨ κ = 8 ∨ κ = 9) → f w = g w) : tx1 κ u w f = tx1 κ u w g := by
  unfold tx1
  by_cases c : κ = 10
  · rw [if_pos c, if_pos c]
  by_cases c2 : κ = 11
  · rw [if_neg c, if_neg c, if_pos c2, if_pos c2]
  rw [if_neg c, if_neg c, if_neg c2, if_neg c2, h1 (by omega)]
  by_cases c3 : κ = 5 ∨ κ = 8 ∨ κ = 9
  · rw [if_pos c3, if_pos c3]
  · rw [if_neg c3, if_neg c3, h2 (by omega) c3]
theorem txE_st {n0 : Int} {wt : Int → Int} {S : xH} (hF : FW n0 wt 9 S) : ∀ (n m : Nat) (k : Int), 0 ≤ k → k < S 0 0 → S 4 k ≤ (n : Int) → S 4 k ≤ (m : Int) → txE S n k = txE S m k
  | 0, _, k, k0, k1, kn, _ => by have := (hF k k0 k1).2.1; omega
  | _ + 1, 0, k, k0, k1, _, kn => by have := (hF k k0 k1).2.1; omega
  | n + 1, m + 1, k, k0, k1, kn, km => by
    obtain ⟨c, -⟩ := hF k k0 k1
    have ch := cw_ch hF (Int.le_of_lt k1) c
    show tx1 (S 1 k) (S 2 k) (S 3 k) (txE S n) = tx1 (S 1 k) (S 2 k) (S 3 k) (txE S m)
    rcases ch with ⟨a, -⟩ | ⟨a, -⟩ | ⟨a, a2, u0, u1, w0, w1, s1, s2, s3⟩
    · exact tx1_cg (by omega) (fun z => by omega) (fun z => by omega)
    · exact tx1_cg (by omega) (fun z => by omega) (fun z => by omega)
    · refine tx1_cg (by omega) (fun z => txE_st hF n m _ u0 (by omega) (by omega) (by omega)) (fun z y => ?_)
      have := s3 y
      exact txE_st hF n m _ w0 (by omega) (by omega) (by omega)
theorem c_spE {n0 : Int} {wt : Int → Int} {S : xH} (hF : FW n0 wt 9 S) : ∀ (n d b : Nat) (h : xH) (k dp : Int), RC h S → S 0 0 ≤ 300 → (0 ≤ k ∧ k < S 0 0) → S 4 k ≤ (n : Int) → (n : Int) ≤ dp → dp ≤ 9 → 0 ≤ h 64 1 → h 64 1 + ((txE S n k).length : Nat) + 3 ≤ 1024 → ∀ {Q : xO → xH → Prop}, Q (.inl none) (tadds h (txE S n k)) → xRn2 G0 MT (d + n + 2) b 21 [.inr (.inr 9), .inr (.inr 64), .inr (.inr 10), .inl k, .inl dp] h Q
  | 0, d, b, h, k, dp, hR, h3, hk, hn, hd, hd9, l0, l1, Q, hQ => by have := (hF k hk.1 hk.2).2.1; omega
  | n + 1, d, b, h, k, dp, hR, h3, hk, hn, hd, hd9, l0, l1, Q, hQ => by
    obtain ⟨c, -⟩ := hF k hk.1 hk.2
    have ch := cw_ch hF (Int.le_of_lt hk.2) c
    obtain ⟨e1, e2, e3, -⟩ := hR.2.2.2.2.2.1 k hk.1 hk.2
    have e : d + (n + 1) + 2 = (d + n) + 3 := by omega
    rw [e]
    refine c_sp1_gef (d + n) b h k dp (txE S n) ⟨hk.1, by omega⟩ ⟨by omega, hd9⟩ ?_ ?_ ?_ ?_ (fun hh j hj he hl h0 Q9 q9 => ?_) ?_
    · rw [e1]; omega
    · rw [e1, e2]; omega
    · rw [e1, e2]; omega
    · rw [e1, e2, e3]; exact ⟨l0, l1⟩
    · rw [e1, e2, e3] at hj
      have hR' : RC hh S := RC_fr (fun a z1 z2 => he a (by omega) (by omega)) (he 1 (by decide) (by decide)) hR
      rcases ch with ⟨a, -⟩ | ⟨a, -⟩ | ⟨a, a2, u0, u1, w0, w1, s1, s2, s3⟩
      · omega
      · omega
      · have hj2 := hj.2
        rcases hj2 with rfl | ⟨rfl, y⟩
        · exact c_spE hF n d 0 hh _ (dp - 1) hR' h3 ⟨u0, by omega⟩ (by omega) (by omega) (by omega) h0 hl q9
        · have := s3 y
          exact c_spE hF n d 0 hh _ (dp - 1) hR' h3 ⟨w0, by omega⟩ (by omega) (by omega) (by omega) h0 hl q9
    · rw [e1, e2, e3]; exact hQ
/-- an EXPRESSION's text -/
def TE (S : xH) (k : Int) : List Int := txE S 9 k
/-- the text of one that is MADE so -/
def FE (S : xH) (c1 c2 c3 : Int) : List Int := tx1 c1 c2 c3 (TE S)
theorem TE_eq {n0 : Int} {wt : Int → Int} {S : xH} (hF : FW n0 wt 9 S) {k : Int} (k0 : 0 ≤ k) (k1 : k < S 0 0) : TE S k = FE S (S 1 k) (S 2 k) (S 3 k) := by
  obtain ⟨c, -, c2, -⟩ := hF k k0 k1
  have ch := cw_ch hF (Int.le_of_lt k1) c
  show tx1 (S 1 k) (S 2 k) (S 3 k) (txE S 8) = tx1 (S 1 k) (S 2 k) (S 3 k) (txE S 9)
  rcases ch with ⟨a, -⟩ | ⟨a, -⟩ | ⟨a, a2, u0, u1, w0, w1, s1, s2, s3⟩
  · exact tx1_cg (by omega) (fun z => by omega) (fun z => by omega)
  · exact tx1_cg (by omega) (fun z => by omega) (fun z => by omega)
  · refine tx1_cg (by omega) (fun z => txE_st hF 8 9 _ u0 (by omega) (by omega) (by omega)) (fun z y => ?_)
    have := s3 y
    exact txE_st hF 8 9 _ w0 (by omega) (by omega) (by omega)
theorem TE_r {n0 : Int} {wt : Int → Int} {S : xH} (hF : FW n0 wt 9 S) {k : Int} (k0 : 0 ≤ k) (k1 : k < S 0 0) : ((TE S k).length : Int) + 3 ≤ 6 * S 4 k := txE_r hF 9 k k0 k1 (by have := (hF k k0 k1).2.2.1; omega)
theorem FE_r {n0 : Int} {wt : Int → Int} {S : xH} (hF : FW n0 wt 9 S) {z κ u w : Int} (c : cwf S (S 0 0) z κ u w) : ((FE S κ u w).length : Int) + 3 ≤ 6 * z := by
  have ch := cw_ch hF (Int.le_refl _) c
  refine tx1_r c (fun y => ?_) (fun y _ => ?_)
  · exact TE_r hF (by omega) (by omega)
  · exact TE_r hF (by omega) (by omega)
theorem c_spK0 {n0 : Int} {wt : Int → Int} (d b : Nat) (h S : xH) (k : Int) (hF : FW n0 wt 9 S) (hR : RC h S) (h3 : S 0 0 ≤ 300) (hk : 0 ≤ k ∧ k < S 0 0) (l0 : 0 ≤ h 64 1) (l1 : h 64 1 + ((TE S k).length : Nat) + 3 ≤ 1024) {Q : xO → xH → Prop} (hQ : Q (.inl none) (tadds h (TE S k))) : xRn2 G0 MT (d + 11) b 21 [.inr (.inr 9), .inr (.inr 64), .inr (.inr 10), .inl k, .inl 9] h Q :=
  c_spE hF 9 d b h k 9 hR h3 hk (by have := (hF k hk.1 hk.2).2.2.1; omega) (by omega) (by omega) l0 l1 hQ
theorem c_spM0 {n0 : Int} {wt : Int → Int} (d b : Nat) (h S : xH) (k : Int) (hF : FW n0 wt 9 S) (hR : RC h S) (h3 : S 0 0 ≤ 300) (hk : 0 ≤ k ∧ k < S 0 0) (h7 : S 7 k ≠ 0) (l0 : 0 ≤ h 64 1) (l1 : h 64 1 + ((FE S (S 8 k) (S 9 k) (S 10 k)).length : Nat) + 3 ≤ 1024) {Q : xO → xH → Prop} (hQ : Q (.inl none) (tadds h (FE S (S 8 k) (S 9 k) (S 10 k)))) : xRn2 G0 MT (d + 11) b 21 [.inr (.inr 9), .inr (.inr 64), .inr (.inr 14), .inl k, .inl 9] h Q := by
  obtain ⟨-, -, -, -, -, -, f7⟩ := hF k hk.1 hk.2
  obtain ⟨y, y9, c⟩ := f7 h7
  have ch := cw_ch hF (Int.le_refl _) c
  obtain ⟨-, -, -, -, -, -, -, r8⟩ := hR.2.2.2.2.2.1 k hk.1 hk.2
  obtain ⟨e1, e2, e3⟩ := r8 h7
  have eF : FE S (S 8 k) (S 9 k) (S 10 k) = tx1 (S 8 k) (S 9 k) (S 10 k) (txE S 8) := by
    show tx1 (S 8 k) (S 9 k) (S 10 k) (txE S 9) = tx1 (S 8 k) (S 9 k) (S 10 k) (txE S 8)
    rcases ch with ⟨a, -⟩ | ⟨a, -⟩ | ⟨a, a2, u0, u1, w0, w1, s1, s2, s3⟩
    · exact tx1_cg (by omega) (fun z => by omega) (fun z => by omega)
    · exact tx1_cg (by omega) (fun z => by omega) (fun z => by omega)
    · refine tx1_cg (by omega) (fun z => txE_st hF 9 8 _ u0 (by omega) (by omega) (by omega)) (fun z y => ?_)
      have := s3 y
      exact txE_st hF 9 8 _ w0 (by omega) (by omega) (by omega)
  rw [eF] at l1 hQ
  refine c_sp1_gem (d + 8) b h k 9 (txE S 8) ⟨hk.1, by omega⟩ ⟨by omega, by omega⟩ ?_ ?_ ?_ ?_ (fun hh j hj he hl h0 Q9 q9 => ?_) ?_
  · rw [e1]; omega
  · rw [e1, e2]; omega
  · rw [e1, e2]; omega
  · rw [e1, e2, e3]; exact ⟨l0, l1⟩
  · rw [e1, e2, e3] at hj
    have hR' : RC hh S := RC_fr (fun a z1 z2 => he a (by omega) (by omega)) (he 1 (by decide) (by decide)) hR
    rcases ch with ⟨a, -⟩ | ⟨a, -⟩ | ⟨a, a2, u0, u1, w0, w1, s1, s2, s3⟩
    · omega
    · omega
    · have hj2 := hj.2
      rcases hj2 with rfl | ⟨rfl, y⟩
      · exact c_spE hF 8 d 0 hh _ (9 - 1) hR' h3 ⟨u0, by omega⟩ (by omega) (by omega) (by omega) h0 hl q9
      · have := s3 y
        exact c_spE hF 8 d 0 hh _ (9 - 1) hR' h3 ⟨w0, by omega⟩ (by omega) (by omega) (by omega) h0 hl q9
  · rw [e1, e2, e3]; exact hQ
set_option maxHeartbeats 1000000 in
theorem c_spK0_ (d b : Nat) (h S : xH) (k n0 : Int) (wt : Int → Int) (hF : FW n0 wt 9 S) (hR : RC h S) (h3 : S 0 0 ≤ 300) (hk : 0 ≤ k ∧ k < S 0 0) (l0 : 0 ≤ h 64 1) (l1 : h 64 1 + ((TE S k).length : Nat) + 3 ≤ 1024) {Q : xO → xH → Prop} (hQ : Q (.inl none) (tadds h (TE S k))) : xRn2 G0 MT (d + 12) b 26 [.inr (.inr 9), .inr (.inr 64), .inl k] h Q := by
  refine R2_of (M := mX3_spellKept) rfl (Nat.le_of_ble_eq_true rfl) ?_
  show xEx2 RX3 G0 cdX3_spellKept none (xRn2 G0 MT (d + 11)) Q b 0 [some (.inr (.inr 9)), some (.inr (.inr 64)), some (.inl k)] [] h
  refine E2_s 6 (i' := 6) (ls' := [some (.inr (.inr 9)), some (.inr (.inr 64)), some (.inl k)]) (sk' := [.inl 9, .inl k, .inr (.inr 10), .inr (.inr 64), .inr (.inr 9)]) (h' := h) rfl ?_
  refine E2_cv (x := (.invokevirtual 51, 4, [(1, 21), (7, 92)], [1])) (q := fun h9 => h9 = (tadds h (TE S k))) rfl rfl (Nat.le_of_ble_eq_true rfl) (c_spK0 d 0 h S k hF hR h3 hk  l0 l1 ⟨rfl, rfl⟩) (fun h9 e9 => ?_)
  subst e9
  show xEx2 RX3 G0 cdX3_spellKept none (xRn2 G0 MT (d + 11)) Q b 7 [some (.inr (.inr 9)), some (.inr (.inr 64)), some (.inl k)] [] (tadds h (TE S k))
  exact E2_ret (x := (.return_, 0, [], [])) (v := none) rfl (trivial) (hQ)
set_option maxHeartbeats 1000000 in
theorem c_spM0_ (d b : Nat) (h S : xH) (k n0 : Int) (wt : Int → Int) (hF : FW n0 wt 9 S) (hR : RC h S) (h3 : S 0 0 ≤ 300) (hk : 0 ≤ k ∧ k < S 0 0) (h7 : S 7 k ≠ 0) (l0 : 0 ≤ h 64 1) (l1 : h 64 1 + ((FE S (S 8 k) (S 9 k) (S 10 k)).length : Nat) + 3 ≤ 1024) {Q : xO → xH → Prop} (hQ : Q (.inl none) (tadds h (FE S (S 8 k) (S 9 k) (S 10 k)))) : xRn2 G0 MT (d + 12) b 27 [.inr (.inr 9), .inr (.inr 64), .inl k] h Q := by
  refine R2_of (M := mX3_spellFirstMerged) rfl (Nat.le_of_ble_eq_true rfl) ?_
  show xEx2 RX3 G0 cdX3_spellFirstMerged none (xRn2 G0 MT (d + 11)) Q b 0 [some (.inr (.inr 9)), some (.inr (.inr 64)), some (.inl k)] [] h
  refine E2_s 6 (i' := 6) (ls' := [some (.inr (.inr 9)), some (.inr (.inr 64)), some (.inl k)]) (sk' := [.inl 9, .inl k, .inr (.inr 14), .inr (.inr 64), .inr (.inr 9)]) (h' := h) rfl ?_
  refine E2_cv (x := (.invokevirtual 51, 4, [(1, 21), (7, 92)], [1])) (q := fun h9 => h9 = (tadds h (FE S (S 8 k) (S 9 k) (S 10 k)))) rfl rfl (Nat.le_of_ble_eq_true rfl) (c_spM0 d 0 h S k hF hR h3 hk h7 l0 l1 ⟨rfl, rfl⟩) (fun h9 e9 => ?_)
  subst e9
  show xEx2 RX3 G0 cdX3_spellFirstMerged none (xRn2 G0 MT (d + 11)) Q b 7 [some (.inr (.inr 9)), some (.inr (.inr 64)), some (.inl k)] [] (tadds h (FE S (S 8 k) (S 9 k) (S 10 k)))
  exact E2_ret (x := (.return_, 0, [], [])) (v := none) rfl (trivial) (hQ)
