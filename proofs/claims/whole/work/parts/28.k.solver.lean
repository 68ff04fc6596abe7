def dpq (q : Int) : Int := if q < 2 then 0 else if q < 4 then 1 else if q < 8 then 2 else if q < 16 then 3 else 4
theorem dpq_r (q : Int) : 0 ≤ dpq q ∧ dpq q ≤ 4 := by
  unfold dpq
  split
  · omega
  · split
    · omega
    · split
      · omega
      · split <;> omega
theorem dpq_k {q : Int} (h0 : 1 ≤ q) (h1 : q < 16) : dpq (2 * q) = dpq q + 1 ∧ dpq (2 * q + 1) = dpq q + 1 := by
  unfold dpq
  by_cases a : q < 2
  · rw [if_pos a, if_neg (by omega), if_pos (by omega), if_neg (by omega), if_pos (by omega)]; exact ⟨rfl, rfl⟩
  · by_cases b : q < 4
    · rw [if_neg a, if_pos b, if_neg (by omega), if_neg (by omega), if_pos (by omega), if_neg (by omega), if_neg (by omega), if_pos (by omega)]; exact ⟨rfl, rfl⟩
    · by_cases c : q < 8
      · rw [if_neg a, if_neg b, if_pos c, if_neg (by omega), if_neg (by omega), if_neg (by omega), if_pos (by omega), if_neg (by omega), if_neg (by omega), if_neg (by omega), if_pos (by omega)]; exact ⟨rfl, rfl⟩
      · rw [if_neg a, if_neg b, if_neg c, if_pos h1, if_neg (by omega), if_neg (by omega), if_neg (by omega), if_neg (by omega), if_neg (by omega), if_neg (by omega), if_neg (by omega), if_neg (by omega)]; exact ⟨rfl, rfl⟩
theorem dpq_8 {q : Int} (h : dpq q ≤ 2) : q < 8 := by
  unfold dpq at h
  split at h
  · omega
  · split at h
    · omega
    · split at h
      · omega
      · split at h <;> omega
def LT (S T : xH) (KE KT p ifs : Int) (a b c : Int → Int) (q : Int) : Prop := (c q = 0 ∧ a q = -1 ∧ b q = -1 ∧ c (2 * q) = 0 ∧ c (2 * q + 1) = 0) ∨ (c q ≠ 0 ∧ bti S T KE KT p (ifs - dpq q).toNat (c q) = -1 ∧ a q = -1 ∧ b q = lf S KE p (c q) ∧ c (2 * q) = 0 ∧ c (2 * q + 1) = 0) ∨ (c q ≠ 0 ∧ bti S T KE KT p (ifs - dpq q).toNat (c q) ≠ -1 ∧ a q = bti S T KE KT p (ifs - dpq q).toNat (c q) ∧ b q = -1 ∧ c (2 * q) = xand (c q) (T 6 (bti S T KE KT p (ifs - dpq q).toNat (c q))) ∧ c (2 * q + 1) = xand (c q) (xxor (T 6 (bti S T KE KT p (ifs - dpq q).toNat (c q))) (-1)))
theorem LT_fr {S T : xH} {KE KT p ifs : Int} {a b c a' b' c' : Int → Int} {q : Int} (h1 : a' q = a q) (h2 : b' q = b q) (h3 : c' q = c q) (h4 : c' (2 * q) = c (2 * q)) (h5 : c' (2 * q + 1) = c (2 * q + 1)) (h : LT S T KE KT p ifs a b c q) : LT S T KE KT p ifs a' b' c' q := by
  unfold LT at *
  rw [h1, h2, h3, h4, h5]
  exact h
theorem LT_TV {S T : xH} {KE KT p ifs : Int} {m : Nat} {a b c : Int → Int} (o : OKS S T KE KT m) (hi : ifs ≤ 3) (hc : ∀ q, 1 ≤ q → q < 32 → c q ≠ 0 → ir m (c q) ∧ dpq q ≤ ifs) (hl : ∀ q, 1 ≤ q → q < 16 → LT S T KE KT p ifs a b c q) : ∀ (D : Nat) (q : Int), 1 ≤ q → q < 16 → dpq q = 3 - D → (c q = 0 → NO (fun j => a (j + 1)) (fun j => b (j + 1)) D (q - 1)) ∧ (c q ≠ 0 → TV S T KE KT p (fun j => a (j + 1)) (fun j => b (j + 1)) D (ifs - dpq q).toNat (q - 1) (c q))
  | 0, q, h0, h1, hd => by
    have e : q - 1 + 1 = q := by omega
    have l := hl q h0 h1
    refine ⟨fun z => ?_, fun z => ?_⟩
    · show a (q - 1 + 1) = -1 ∧ b (q - 1 + 1) = -1
      rw [e]
      rcases l with ⟨-, l1, l2, -⟩ | ⟨l1, -⟩ | ⟨l1, -⟩
      · exact ⟨l1, l2⟩
      · exact absurd z l1
      · exact absurd z l1
    · show a (q - 1 + 1) = -1 ∧ b (q - 1 + 1) = lf S KE p (c q)
      rw [e]
      rcases l with ⟨l1, -⟩ | ⟨-, -, l1, l2, -⟩ | ⟨-, l1, -⟩
      · exact absurd l1 z
      · exact ⟨l1, l2⟩
      · have := (hc q h0 (by omega) z).2
        rw [show (ifs - dpq q).toNat = 0 by omega] at l1
        exact absurd rfl l1
  | D + 1, q, h0, h1, hd => by
    have e : q - 1 + 1 = q := by omega
    have l := hl q h0 h1
    have q8 : q < 8 := dpq_8 (by omega)
    obtain ⟨k1, k2⟩ := dpq_k h0 h1
    obtain ⟨i1, i2⟩ := LT_TV o hi hc hl D (2 * q) (by omega) (by omega) (by omega)
    obtain ⟨i3, i4⟩ := LT_TV o hi hc hl D (2 * q + 1) (by omega) (by omega) (by omega)
    rw [show 2 * q - 1 = 2 * (q - 1) + 1 by omega] at i1 i2
    rw [show 2 * q + 1 - 1 = 2 * (q - 1) + 2 by omega] at i3 i4
    refine ⟨fun z => ?_, fun z => ?_⟩
    · rcases l with ⟨-, l1, l2, l3, l4⟩ | ⟨l1, -⟩ | ⟨l1, -⟩
      · refine ⟨?_, i1 l3, i3 l4⟩
        show a (q - 1 + 1) = -1 ∧ b (q - 1 + 1) = -1
        rw [e]; exact ⟨l1, l2⟩
      · exact absurd z l1
      · exact absurd z l1
    · rcases l with ⟨l1, -⟩ | ⟨-, l1, l2, l3, l4, l5⟩ | ⟨-, l1, l2, l3, l4, l5⟩
      · exact absurd l1 z
      · exact Or.inl ⟨l1, by show a (q - 1 + 1) = -1; rw [e]; exact l2, by show b (q - 1 + 1) = _; rw [e]; exact l3, i1 l4, i3 l5⟩
      · obtain ⟨r1, r2⟩ := hc q h0 (by omega) z
        rcases bti_spec (S := S) (T := T) (KE := KE) (p := p) o.2.2.1.1 (ifs - dpq q).toNat (c q) with ⟨-, b1⟩ | ⟨-, j, e9, b1, b2, b3, -⟩
        · exact absurd b1 l1
        · have t6 := (o.2.2.2.2 _ b1 b2).2.1
          have en := els_n o.1 r1 t6
          rw [← en] at l5
          have n1 : c (2 * q) ≠ 0 := by rw [l4]; exact b3.2.1
          have n2 : c (2 * q + 1) ≠ 0 := by rw [l5]; exact els_0 o.1 r1 t6 b3.2.2
          have f1 : (ifs - dpq (2 * q)).toNat = (ifs - dpq q).toNat - 1 := by omega
          have f2 : (ifs - dpq (2 * q + 1)).toNat = (ifs - dpq q).toNat - 1 := by omega
          have j1 := i2 n1
          have j2 := i4 n2
          rw [f1, l4] at j1
          rw [f2, l5] at j2
          exact Or.inr ⟨l1, by show a (q - 1 + 1) = _; rw [e]; exact l2, by show b (q - 1 + 1) = -1; rw [e]; exact l3, j1, j2⟩
set_option maxHeartbeats 1000000 in
theorem m_laysTree (d b : Nat) (h S T : xH) (p ifs whole : Int) (m : Nat) (o : OKS S T (S 0 0) (T 0 0) m) (hA : RA h S T) (hw : ir m whole) (hw1 : whole ≠ 0) (hi : 0 ≤ ifs ∧ ifs ≤ 3) (hlf : ∀ r : Int, ir m r → r ≠ 0 → sub r whole → h 100 r = lf S (S 0 0) p r) (hls : ∀ j : Int, 0 ≤ j → ∀ s : Int, ir m s → s ≠ 0 → sub s whole → (j ≤ ifs) → h 101 (4096 * j + s) = szf S T (S 0 0) (T 0 0) p j.toNat s ∧ h 102 (4096 * j + s) = bti S T (S 0 0) (T 0 0) p j.toNat s) {Q : xO → xH → Prop} (hQ : ∀ h', (∀ a, a ≠ 105 → a ≠ 106 → a ≠ 107 → h' a = h a) → TV S T (S 0 0) (T 0 0) p (fun j => h' 105 (j + 1)) (fun j => h' 106 (j + 1)) 3 ifs.toNat 0 whole → (∀ j, 0 ≤ j → j < 32 → (j = 0 ∨ 16 ≤ j) → h' 105 j = -1 ∧ h' 106 j = -1) → Q (.inl none) h') : xRn G0 MT (d + 1) b 230 [.inr (.inr 66), .inl ifs, .inl whole] h Q := by
  refine R_of (M := mX12_laysTree) rfl (Nat.le_of_ble_eq_true rfl) ?_
  show xEx G0 cdX12_laysTree none (xRn G0 MT d) Q b 0 [some (.inr (.inr 66)), some (.inl ifs), some (.inl whole), none, none, none] [] h
  refine E_s 2 (i' := 2) (ls' := [some (.inr (.inr 66)), some (.inl ifs), some (.inl whole), some (.inl 0), none, none]) (sk' := []) (h' := h) rfl ?_
  have key2 : ∀ (n : Nat) (hx : xH) (q9 : Int), (0 ≤ q9) → (q9 ≤ 32) → (∀ a, a ≠ 105 → a ≠ 106 → a ≠ 107 → hx a = h a) → (∀ j, 0 ≤ j → j < q9 → hx 105 j = -1 ∧ hx 106 j = -1 ∧ hx 107 j = 0) → ((32 - q9).toNat) < n → xEx G0 cdX12_laysTree none (xRn G0 MT d) Q b 2 [some (.inr (.inr 66)), some (.inl ifs), some (.inl whole), some (.inl q9), none, none] [] hx := by
    intro n
    induction n with
    | zero => intro hx q9 _ _ _ _ hm; exact absurd hm (Nat.not_lt_zero _)
    | succ n ih2 =>
      intro hx q9 hq0 hq9 hxf hxz hm2
      refine E_s 2 (i' := 4) (ls' := [some (.inr (.inr 66)), some (.inl ifs), some (.inl whole), some (.inl q9), none, none]) (sk' := [.inl 32, .inl q9]) (h' := hx) rfl ?_
      refine E_b (x := (.if_icmp .ge 30, 22, [], [])) rfl rfl (fun c4 => ?_) (fun c4 => ?_)
      · rw [c_ge (by first | assumption | (refine ⟨?_, ?_⟩ <;> omega) | (simp only [xr] at *; omega)) (by first | assumption | (refine ⟨?_, ?_⟩ <;> omega) | (simp only [xr] at *; omega))] at c4
        simp only [decide_eq_true_eq, decide_eq_false_iff_not, Decidable.not_not] at c4
        show xEx G0 cdX12_laysTree none (xRn G0 MT d) Q b 22 [some (.inr (.inr 66)), some (.inl ifs), some (.inl whole), some (.inl q9), none, none] [] hx
        refine E_s 4 (i' := 26) (ls' := [some (.inr (.inr 66)), some (.inl ifs), some (.inl whole), some (.inl q9), none, none]) (sk' := [.inl whole, .inl 1, .inr (.inr 107)]) (h' := hx) rfl ?_
        refine E_sd (x := (.iastore, 0, [], [])) (ty := .int) (n := 32) (y := whole) rfl rfl rfl (by omega) (by omega) (trivial) ?_
        show xEx G0 cdX12_laysTree none (xRn G0 MT d) Q b 27 [some (.inr (.inr 66)), some (.inl ifs), some (.inl whole), some (.inl q9), none, none] [] (xup hx 107 1 whole)
        refine E_s 2 (i' := 29) (ls' := [some (.inr (.inr 66)), some (.inl ifs), some (.inl whole), some (.inl 1), none, none]) (sk' := []) (h' := (xup hx 107 1 whole)) rfl ?_
        have key29 : ∀ (n : Nat) (hh : xH) (nn : Int) (v4 v5 : Option xV), (1 ≤ nn) → (nn ≤ 16) → (∀ a, a ≠ 105 → a ≠ 106 → a ≠ 107 → hh a = h a) → (∀ q, 1 ≤ q → q < nn → LT S T (S 0 0) (T 0 0) p ifs (hh 105) (hh 106) (hh 107) q) → (∀ q, 0 ≤ q → q < 32 → (q = 0 ∨ nn ≤ q) → hh 105 q = -1 ∧ hh 106 q = -1) → (∀ q, 0 ≤ q → q < 32 → 2 * nn ≤ q → hh 107 q = 0) → (∀ q, 1 ≤ q → q < 32 → hh 107 q ≠ 0 → ir m (hh 107 q) ∧ sub (hh 107 q) whole ∧ dpq q ≤ ifs) → (hh 107 1 = whole) → ((16 - nn).toNat) < n → xEx G0 cdX12_laysTree none (xRn G0 MT d) Q b 29 [some (.inr (.inr 66)), some (.inl ifs), some (.inl whole), some (.inl nn), v4, v5] [] hh := by
          intro n
          induction n with
          | zero => intro hh nn v4 v5 _ _ _ _ _ _ _ _ hm; exact absurd hm (Nat.not_lt_zero _)
          | succ n ih29 =>
            intro hh nn v4 v5 hn0 hn9 hf hi1 hi2 hi3 hi4 hi5 hm29
            refine E_s 2 (i' := 31) (ls' := [some (.inr (.inr 66)), some (.inl ifs), some (.inl whole), some (.inl nn), v4, v5]) (sk' := [.inl 16, .inl nn]) (h' := hh) rfl ?_
            refine E_b (x := (.if_icmp .ge 156, 125, [], [])) rfl rfl (fun c31 => ?_) (fun c31 => ?_)
            · rw [c_ge (by first | assumption | (refine ⟨?_, ?_⟩ <;> omega) | (simp only [xr] at *; omega)) (by first | assumption | (refine ⟨?_, ?_⟩ <;> omega) | (simp only [xr] at *; omega))] at c31
              simp only [decide_eq_true_eq, decide_eq_false_iff_not, Decidable.not_not] at c31
              show xEx G0 cdX12_laysTree none (xRn G0 MT d) Q b 125 [some (.inr (.inr 66)), some (.inl ifs), some (.inl whole), some (.inl nn), v4, v5] [] hh
              exact E_ret (x := (.return_, 0, [], [])) (v := none) rfl (trivial) (hQ _ hf (by
                have l9 := (LT_TV o hi.2 (fun q y1 y2 y3 => ⟨(hi4 q y1 y2 y3).1, (hi4 q y1 y2 y3).2.2⟩) (fun q y1 y2 => hi1 q y1 (by omega)) 3 1 (by decide) (by decide) (by decide)).2 (by rw [hi5]; exact hw1)
                rw [hi5] at l9
                have d0 : dpq 1 = 0 := by decide
                rw [show (ifs - dpq 1).toNat = ifs.toNat by omega] at l9
                exact l9) (fun j z1 z2 z3 => hi2 j z1 z2 (by omega)))
            · rw [c_ge (by first | assumption | (refine ⟨?_, ?_⟩ <;> omega) | (simp only [xr] at *; omega)) (by first | assumption | (refine ⟨?_, ?_⟩ <;> omega) | (simp only [xr] at *; omega))] at c31
              simp only [decide_eq_true_eq, decide_eq_false_iff_not, Decidable.not_not] at c31
              show xEx G0 cdX12_laysTree none (xRn G0 MT d) Q b 32 [some (.inr (.inr 66)), some (.inl ifs), some (.inl whole), some (.inl nn), v4, v5] [] hh
              have c4 : hh 107 nn = 0 ∨ ir m (hh 107 nn) := by
                by_cases z : hh 107 nn = 0
                · exact Or.inl z
                · exact Or.inr (hi4 nn hn0 (by omega) z).1
              have c5 : 0 ≤ hh 107 nn ∧ hh 107 nn < 4096 := by
                rcases c4 with z | z
                · omega
                · exact ir4 o.1 z
              refine E_s 3 (i' := 35) (ls' := [some (.inr (.inr 66)), some (.inl ifs), some (.inl whole), some (.inl nn), v4, v5]) (sk' := [.inl nn, .inr (.inr 107)]) (h' := hh) rfl ?_
              refine E_ld (x := (.iaload, 0, [], [])) (ty := .int) (n := 32) rfl rfl rfl (by omega) (by omega) ?_
              show xEx G0 cdX12_laysTree none (xRn G0 MT d) Q b 36 [some (.inr (.inr 66)), some (.inl ifs), some (.inl whole), some (.inl nn), v4, v5] [.inl (hh 107 nn)] hh
              refine E_b (x := (.ifCond .ne 6, 38, [], [])) rfl rfl (fun c36 => ?_) (fun c36 => ?_)
              · rw [c_ne (by first | assumption | (refine ⟨?_, ?_⟩ <;> omega) | (simp only [xr] at *; omega)) (by first | assumption | (refine ⟨?_, ?_⟩ <;> omega) | (simp only [xr] at *; omega))] at c36
                simp only [decide_eq_true_eq, decide_eq_false_iff_not, Decidable.not_not] at c36
                show xEx G0 cdX12_laysTree none (xRn G0 MT d) Q b 38 [some (.inr (.inr 66)), some (.inl ifs), some (.inl whole), some (.inl nn), v4, v5] [] hh
                refine E_s 2 (i' := 40) (ls' := [some (.inr (.inr 66)), some (.inl ifs), some (.inl whole), some (.inl nn), v4, v5]) (sk' := [.inl 2, .inl nn]) (h' := hh) rfl ?_
                refine E_b (x := (.if_icmp .ge 7, 43, [], [])) rfl rfl (fun c40 => ?_) (fun c40 => ?_)
                · rw [c_ge (by first | assumption | (refine ⟨?_, ?_⟩ <;> omega) | (simp only [xr] at *; omega)) (by first | assumption | (refine ⟨?_, ?_⟩ <;> omega) | (simp only [xr] at *; omega))] at c40
                  simp only [decide_eq_true_eq, decide_eq_false_iff_not, Decidable.not_not] at c40
                  show xEx G0 cdX12_laysTree none (xRn G0 MT d) Q b 43 [some (.inr (.inr 66)), some (.inl ifs), some (.inl whole), some (.inl nn), v4, v5] [] hh
                  refine E_s 2 (i' := 45) (ls' := [some (.inr (.inr 66)), some (.inl ifs), some (.inl whole), some (.inl nn), v4, v5]) (sk' := [.inl 4, .inl nn]) (h' := hh) rfl ?_
                  refine E_b (x := (.if_icmp .ge 7, 48, [], [])) rfl rfl (fun c45 => ?_) (fun c45 => ?_)
                  · rw [c_ge (by first | assumption | (refine ⟨?_, ?_⟩ <;> omega) | (simp only [xr] at *; omega)) (by first | assumption | (refine ⟨?_, ?_⟩ <;> omega) | (simp only [xr] at *; omega))] at c45
                    simp only [decide_eq_true_eq, decide_eq_false_iff_not, Decidable.not_not] at c45
                    show xEx G0 cdX12_laysTree none (xRn G0 MT d) Q b 48 [some (.inr (.inr 66)), some (.inl ifs), some (.inl whole), some (.inl nn), v4, v5] [] hh
                    refine E_s 2 (i' := 50) (ls' := [some (.inr (.inr 66)), some (.inl ifs), some (.inl whole), some (.inl nn), v4, v5]) (sk' := [.inl 8, .inl nn]) (h' := hh) rfl ?_
                    refine E_b (x := (.if_icmp .ge 7, 53, [], [])) rfl rfl (fun c50 => ?_) (fun c50 => ?_)
                    · rw [c_ge (by first | assumption | (refine ⟨?_, ?_⟩ <;> omega) | (simp only [xr] at *; omega)) (by first | assumption | (refine ⟨?_, ?_⟩ <;> omega) | (simp only [xr] at *; omega))] at c50
                      simp only [decide_eq_true_eq, decide_eq_false_iff_not, Decidable.not_not] at c50
                      show xEx G0 cdX12_laysTree none (xRn G0 MT d) Q b 53 [some (.inr (.inr 66)), some (.inl ifs), some (.inl whole), some (.inl nn), v4, v5] [] hh
                      refine E_s 2 (i' := 55) (ls' := [some (.inr (.inr 66)), some (.inl ifs), some (.inl whole), some (.inl nn), some (.inl 3), v5]) (sk' := []) (h' := hh) rfl ?_
                      have cn : hh 107 nn ≠ 0 := c36
                      obtain ⟨ic, sc, dc⟩ := hi4 nn hn0 (by omega) cn
                      have ed : dpq nn = 3 := by unfold dpq; rw [if_neg (by omega), if_neg (by omega), if_neg (by omega), if_pos (by omega)]
                      have r4 := ir4 o.1 ic
                      have et : hh 102 (4096 * (ifs - 3) + hh 107 nn) = bti S T (S 0 0) (T 0 0) p (ifs - dpq nn).toNat (hh 107 nn) := by
                        rw [hf _ (by decide) (by decide) (by decide), ed]
                        exact (hls (ifs - 3) (by omega) _ ic cn sc (by omega)).2
                      have bs := bti_spec (S := S) (T := T) (KE := S 0 0) (KT := T 0 0) (p := p) o.2.2.1.1 (ifs - dpq nn).toNat (hh 107 nn)
                      obtain ⟨br0, br1⟩ : -1 ≤ bti S T (S 0 0) (T 0 0) p (ifs - dpq nn).toNat (hh 107 nn) ∧ bti S T (S 0 0) (T 0 0) p (ifs - dpq nn).toNat (hh 107 nn) < T 0 0 := by
                        have := o.2.2.1
                        rcases bs with ⟨-, z9⟩ | ⟨-, j, -, b1, b2, -⟩
                        · rw [z9]; omega
                        · omega
                      have ot := o.2.2.1
                      refine E_s 10 (i' := 65) (ls' := [some (.inr (.inr 66)), some (.inl ifs), some (.inl whole), some (.inl nn), some (.inl 3), v5]) (sk' := [.inl nn, .inr (.inr 107), .inl (4096 * (ifs - 3)), .inr (.inr 102)]) (h' := hh) rfl ?_
                      refine E_ld (x := (.iaload, 0, [], [])) (ty := .int) (n := 32) rfl rfl rfl (by omega) (by omega) ?_
                      show xEx G0 cdX12_laysTree none (xRn G0 MT d) Q b 66 [some (.inr (.inr 66)), some (.inl ifs), some (.inl whole), some (.inl nn), some (.inl 3), v5] [.inl (hh 107 nn), .inl (4096 * (ifs - 3)), .inr (.inr 102)] hh
                      refine E_s 1 (i' := 67) (ls' := [some (.inr (.inr 66)), some (.inl ifs), some (.inl whole), some (.inl nn), some (.inl 3), v5]) (sk' := [.inl ((4096 * (ifs - 3)) + (hh 107 nn)), .inr (.inr 102)]) (h' := hh) rfl ?_
                      refine E_ld (x := (.iaload, 0, [], [])) (ty := .int) (n := 16384) rfl rfl rfl (by omega) (by omega) ?_
                      show xEx G0 cdX12_laysTree none (xRn G0 MT d) Q b 68 [some (.inr (.inr 66)), some (.inl ifs), some (.inl whole), some (.inl nn), some (.inl 3), v5] [.inl (hh 102 ((4096 * (ifs - 3)) + (hh 107 nn)))] hh
                      refine E_s 3 (i' := 71) (ls' := [some (.inr (.inr 66)), some (.inl ifs), some (.inl whole), some (.inl nn), some (.inl 3), some (.inl (hh 102 ((4096 * (ifs - 3)) + (hh 107 nn))))]) (sk' := [.inl (-1), .inl (hh 102 ((4096 * (ifs - 3)) + (hh 107 nn)))]) (h' := hh) rfl ?_
                      refine E_b (x := (.if_icmp .ne 23, 84, [], [])) rfl rfl (fun c71 => ?_) (fun c71 => ?_)
                      · rw [c_ne (by first | (rw [et]; exact ⟨by omega, by omega⟩) | exact ⟨by omega, by omega⟩) (by first | (rw [et]; exact ⟨by omega, by omega⟩) | exact ⟨by omega, by omega⟩)] at c71
                        simp only [decide_eq_true_eq, decide_eq_false_iff_not, Decidable.not_not] at c71
                        show xEx G0 cdX12_laysTree none (xRn G0 MT d) Q b 84 [some (.inr (.inr 66)), some (.inl ifs), some (.inl whole), some (.inl nn), some (.inl 3), some (.inl (hh 102 ((4096 * (ifs - 3)) + (hh 107 nn))))] [] hh
                        have tn : bti S T (S 0 0) (T 0 0) p (ifs - dpq nn).toNat (hh 107 nn) ≠ -1 := by rw [← et]; exact c71
                        obtain ⟨b0, b1, bi⟩ : 0 ≤ bti S T (S 0 0) (T 0 0) p (ifs - dpq nn).toNat (hh 107 nn) ∧ bti S T (S 0 0) (T 0 0) p (ifs - dpq nn).toNat (hh 107 nn) < T 0 0 ∧ 1 ≤ ifs - dpq nn := by
                          rcases bs with ⟨-, z9⟩ | ⟨-, j, e9, y1, y2, -⟩
                          · exact absurd z9 tn
                          · exact ⟨y1, y2, by omega⟩
                        clear bs
                        have o6 : hh 87 (hh 102 (4096 * (ifs - 3) + hh 107 nn)) = T 6 (bti S T (S 0 0) (T 0 0) p (ifs - dpq nn).toNat (hh 107 nn)) := by
                          rw [et, hf _ (by decide) (by decide) (by decide)]
                          exact (hA.2.2.2 _ b0 b1).2
                        have i6 := (o.2.2.2.2 _ b0 b1).2.1
                        have v1 : xand (hh 107 nn) (hh 87 (hh 102 (4096 * (ifs - 3) + hh 107 nn))) = xand (hh 107 nn) (T 6 (bti S T (S 0 0) (T 0 0) p (ifs - dpq nn).toNat (hh 107 nn))) := by rw [o6]
                        have v2 : xand ((xup (xup hh 105 nn (hh 102 (4096 * (ifs - 3) + hh 107 nn))) 107 (2 * nn) (xand (hh 107 nn) (hh 87 (hh 102 (4096 * (ifs - 3) + hh 107 nn))))) 107 nn) (xxor (hh 87 (hh 102 (4096 * (ifs - 3) + hh 107 nn))) (-1)) = xand (hh 107 nn) (xxor (T 6 (bti S T (S 0 0) (T 0 0) p (ifs - dpq nn).toNat (hh 107 nn))) (-1)) := by rw [o6, xup_j (by omega)]; rfl
                        have w1 := xa_r o.1 ic i6
                        have w2 := xn_r o.1 ic i6
                        have w3 : sub (xand (hh 107 nn) (T 6 (bti S T (S 0 0) (T 0 0) p (ifs - dpq nn).toNat (hh 107 nn)))) whole := sub_tr o.1 w1 ic hw (sub_an o.1 ic i6) sc
                        have w4 : sub (xand (hh 107 nn) (xxor (T 6 (bti S T (S 0 0) (T 0 0) p (ifs - dpq nn).toNat (hh 107 nn))) (-1))) whole := by
                          have e9 := els_n o.1 ic i6
                          have y9 := sub_tr o.1 (xx_r o.1 ic w1) ic hw (sub_el o.1 ic i6) sc
                          rw [e9] at y9
                          exact y9
                        have rt : 0 ≤ hh 102 (4096 * (ifs - 3) + hh 107 nn) ∧ hh 102 (4096 * (ifs - 3) + hh 107 nn) < 150 := by rw [et]; omega
                        refine E_s 4 (i' := 88) (ls' := [some (.inr (.inr 66)), some (.inl ifs), some (.inl whole), some (.inl nn), some (.inl 3), some (.inl (hh 102 ((4096 * (ifs - 3)) + (hh 107 nn))))]) (sk' := [.inl (hh 102 ((4096 * (ifs - 3)) + (hh 107 nn))), .inl nn, .inr (.inr 105)]) (h' := hh) rfl ?_
                        refine E_sd (x := (.iastore, 0, [], [])) (ty := .int) (n := 32) (y := (hh 102 ((4096 * (ifs - 3)) + (hh 107 nn)))) rfl rfl rfl (by omega) (by omega) (trivial) ?_
                        show xEx G0 cdX12_laysTree none (xRn G0 MT d) Q b 89 [some (.inr (.inr 66)), some (.inl ifs), some (.inl whole), some (.inl nn), some (.inl 3), some (.inl (hh 102 ((4096 * (ifs - 3)) + (hh 107 nn))))] [] (xup hh 105 nn (hh 102 ((4096 * (ifs - 3)) + (hh 107 nn))))
                        refine E_s 8 (i' := 97) (ls' := [some (.inr (.inr 66)), some (.inl ifs), some (.inl whole), some (.inl nn), some (.inl 3), some (.inl (hh 102 ((4096 * (ifs - 3)) + (hh 107 nn))))]) (sk' := [.inl nn, .inr (.inr 107), .inl (2 * nn), .inr (.inr 107)]) (h' := (xup hh 105 nn (hh 102 ((4096 * (ifs - 3)) + (hh 107 nn))))) rfl ?_
                        refine E_ld (x := (.iaload, 0, [], [])) (ty := .int) (n := 32) rfl rfl rfl (by omega) (by omega) ?_
                        show xEx G0 cdX12_laysTree none (xRn G0 MT d) Q b 98 [some (.inr (.inr 66)), some (.inl ifs), some (.inl whole), some (.inl nn), some (.inl 3), some (.inl (hh 102 ((4096 * (ifs - 3)) + (hh 107 nn))))] [.inl (hh 107 nn), .inl (2 * nn), .inr (.inr 107)] (xup hh 105 nn (hh 102 ((4096 * (ifs - 3)) + (hh 107 nn))))
                        refine E_s 3 (i' := 101) (ls' := [some (.inr (.inr 66)), some (.inl ifs), some (.inl whole), some (.inl nn), some (.inl 3), some (.inl (hh 102 ((4096 * (ifs - 3)) + (hh 107 nn))))]) (sk' := [.inl (hh 102 ((4096 * (ifs - 3)) + (hh 107 nn))), .inr (.inr 87), .inl (hh 107 nn), .inl (2 * nn), .inr (.inr 107)]) (h' := (xup hh 105 nn (hh 102 ((4096 * (ifs - 3)) + (hh 107 nn))))) rfl ?_
                        refine E_ld (x := (.iaload, 0, [], [])) (ty := .int) (n := 150) rfl rfl rfl (by omega) (by omega) ?_
                        show xEx G0 cdX12_laysTree none (xRn G0 MT d) Q b 102 [some (.inr (.inr 66)), some (.inl ifs), some (.inl whole), some (.inl nn), some (.inl 3), some (.inl (hh 102 ((4096 * (ifs - 3)) + (hh 107 nn))))] [.inl (hh 87 (hh 102 ((4096 * (ifs - 3)) + (hh 107 nn)))), .inl (hh 107 nn), .inl (2 * nn), .inr (.inr 107)] (xup hh 105 nn (hh 102 ((4096 * (ifs - 3)) + (hh 107 nn))))
                        refine E_s 1 (i' := 103) (ls' := [some (.inr (.inr 66)), some (.inl ifs), some (.inl whole), some (.inl nn), some (.inl 3), some (.inl (hh 102 ((4096 * (ifs - 3)) + (hh 107 nn))))]) (sk' := [.inl (xand (hh 107 nn) (hh 87 (hh 102 ((4096 * (ifs - 3)) + (hh 107 nn))))), .inl (2 * nn), .inr (.inr 107)]) (h' := (xup hh 105 nn (hh 102 ((4096 * (ifs - 3)) + (hh 107 nn))))) rfl ?_
                        refine E_sd (x := (.iastore, 0, [], [])) (ty := .int) (n := 32) (y := (xand (hh 107 nn) (hh 87 (hh 102 ((4096 * (ifs - 3)) + (hh 107 nn)))))) rfl rfl rfl (by omega) (by omega) (trivial) ?_
                        show xEx G0 cdX12_laysTree none (xRn G0 MT d) Q b 104 [some (.inr (.inr 66)), some (.inl ifs), some (.inl whole), some (.inl nn), some (.inl 3), some (.inl (hh 102 ((4096 * (ifs - 3)) + (hh 107 nn))))] [] (xup (xup hh 105 nn (hh 102 ((4096 * (ifs - 3)) + (hh 107 nn)))) 107 (2 * nn) (xand (hh 107 nn) (hh 87 (hh 102 ((4096 * (ifs - 3)) + (hh 107 nn))))))
                        refine E_s 10 (i' := 114) (ls' := [some (.inr (.inr 66)), some (.inl ifs), some (.inl whole), some (.inl nn), some (.inl 3), some (.inl (hh 102 ((4096 * (ifs - 3)) + (hh 107 nn))))]) (sk' := [.inl nn, .inr (.inr 107), .inl ((2 * nn) + 1), .inr (.inr 107)]) (h' := (xup (xup hh 105 nn (hh 102 ((4096 * (ifs - 3)) + (hh 107 nn)))) 107 (2 * nn) (xand (hh 107 nn) (hh 87 (hh 102 ((4096 * (ifs - 3)) + (hh 107 nn))))))) rfl ?_
                        refine E_ld (x := (.iaload, 0, [], [])) (ty := .int) (n := 32) rfl rfl rfl (by omega) (by omega) ?_
                        show xEx G0 cdX12_laysTree none (xRn G0 MT d) Q b 115 [some (.inr (.inr 66)), some (.inl ifs), some (.inl whole), some (.inl nn), some (.inl 3), some (.inl (hh 102 ((4096 * (ifs - 3)) + (hh 107 nn))))] [.inl ((xup (xup hh 105 nn (hh 102 ((4096 * (ifs - 3)) + (hh 107 nn)))) 107 (2 * nn) (xand (hh 107 nn) (hh 87 (hh 102 ((4096 * (ifs - 3)) + (hh 107 nn)))))) 107 nn), .inl ((2 * nn) + 1), .inr (.inr 107)] (xup (xup hh 105 nn (hh 102 ((4096 * (ifs - 3)) + (hh 107 nn)))) 107 (2 * nn) (xand (hh 107 nn) (hh 87 (hh 102 ((4096 * (ifs - 3)) + (hh 107 nn))))))
                        refine E_s 3 (i' := 118) (ls' := [some (.inr (.inr 66)), some (.inl ifs), some (.inl whole), some (.inl nn), some (.inl 3), some (.inl (hh 102 ((4096 * (ifs - 3)) + (hh 107 nn))))]) (sk' := [.inl (hh 102 ((4096 * (ifs - 3)) + (hh 107 nn))), .inr (.inr 87), .inl ((xup (xup hh 105 nn (hh 102 ((4096 * (ifs - 3)) + (hh 107 nn)))) 107 (2 * nn) (xand (hh 107 nn) (hh 87 (hh 102 ((4096 * (ifs - 3)) + (hh 107 nn)))))) 107 nn), .inl ((2 * nn) + 1), .inr (.inr 107)]) (h' := (xup (xup hh 105 nn (hh 102 ((4096 * (ifs - 3)) + (hh 107 nn)))) 107 (2 * nn) (xand (hh 107 nn) (hh 87 (hh 102 ((4096 * (ifs - 3)) + (hh 107 nn))))))) rfl ?_
                        refine E_ld (x := (.iaload, 0, [], [])) (ty := .int) (n := 150) rfl rfl rfl (by omega) (by omega) ?_
                        show xEx G0 cdX12_laysTree none (xRn G0 MT d) Q b 119 [some (.inr (.inr 66)), some (.inl ifs), some (.inl whole), some (.inl nn), some (.inl 3), some (.inl (hh 102 ((4096 * (ifs - 3)) + (hh 107 nn))))] [.inl (hh 87 (hh 102 ((4096 * (ifs - 3)) + (hh 107 nn)))), .inl ((xup (xup hh 105 nn (hh 102 ((4096 * (ifs - 3)) + (hh 107 nn)))) 107 (2 * nn) (xand (hh 107 nn) (hh 87 (hh 102 ((4096 * (ifs - 3)) + (hh 107 nn)))))) 107 nn), .inl ((2 * nn) + 1), .inr (.inr 107)] (xup (xup hh 105 nn (hh 102 ((4096 * (ifs - 3)) + (hh 107 nn)))) 107 (2 * nn) (xand (hh 107 nn) (hh 87 (hh 102 ((4096 * (ifs - 3)) + (hh 107 nn))))))
                        refine E_s 3 (i' := 122) (ls' := [some (.inr (.inr 66)), some (.inl ifs), some (.inl whole), some (.inl nn), some (.inl 3), some (.inl (hh 102 ((4096 * (ifs - 3)) + (hh 107 nn))))]) (sk' := [.inl (xand ((xup (xup hh 105 nn (hh 102 ((4096 * (ifs - 3)) + (hh 107 nn)))) 107 (2 * nn) (xand (hh 107 nn) (hh 87 (hh 102 ((4096 * (ifs - 3)) + (hh 107 nn)))))) 107 nn) (xxor (hh 87 (hh 102 ((4096 * (ifs - 3)) + (hh 107 nn)))) (-1))), .inl ((2 * nn) + 1), .inr (.inr 107)]) (h' := (xup (xup hh 105 nn (hh 102 ((4096 * (ifs - 3)) + (hh 107 nn)))) 107 (2 * nn) (xand (hh 107 nn) (hh 87 (hh 102 ((4096 * (ifs - 3)) + (hh 107 nn))))))) rfl ?_
                        refine E_sd (x := (.iastore, 0, [], [])) (ty := .int) (n := 32) (y := (xand ((xup (xup hh 105 nn (hh 102 ((4096 * (ifs - 3)) + (hh 107 nn)))) 107 (2 * nn) (xand (hh 107 nn) (hh 87 (hh 102 ((4096 * (ifs - 3)) + (hh 107 nn)))))) 107 nn) (xxor (hh 87 (hh 102 ((4096 * (ifs - 3)) + (hh 107 nn)))) (-1)))) rfl rfl rfl (by omega) (by omega) (trivial) ?_
                        show xEx G0 cdX12_laysTree none (xRn G0 MT d) Q b 123 [some (.inr (.inr 66)), some (.inl ifs), some (.inl whole), some (.inl nn), some (.inl 3), some (.inl (hh 102 ((4096 * (ifs - 3)) + (hh 107 nn))))] [] (xup (xup (xup hh 105 nn (hh 102 ((4096 * (ifs - 3)) + (hh 107 nn)))) 107 (2 * nn) (xand (hh 107 nn) (hh 87 (hh 102 ((4096 * (ifs - 3)) + (hh 107 nn)))))) 107 ((2 * nn) + 1) (xand ((xup (xup hh 105 nn (hh 102 ((4096 * (ifs - 3)) + (hh 107 nn)))) 107 (2 * nn) (xand (hh 107 nn) (hh 87 (hh 102 ((4096 * (ifs - 3)) + (hh 107 nn)))))) 107 nn) (xxor (hh 87 (hh 102 ((4096 * (ifs - 3)) + (hh 107 nn)))) (-1))))
                        refine E_s 2 (i' := 29) (ls' := [some (.inr (.inr 66)), some (.inl ifs), some (.inl whole), some (.inl (nn + 1)), some (.inl 3), some (.inl (hh 102 ((4096 * (ifs - 3)) + (hh 107 nn))))]) (sk' := []) (h' := (xup (xup (xup hh 105 nn (hh 102 ((4096 * (ifs - 3)) + (hh 107 nn)))) 107 (2 * nn) (xand (hh 107 nn) (hh 87 (hh 102 ((4096 * (ifs - 3)) + (hh 107 nn)))))) 107 ((2 * nn) + 1) (xand ((xup (xup hh 105 nn (hh 102 ((4096 * (ifs - 3)) + (hh 107 nn)))) 107 (2 * nn) (xand (hh 107 nn) (hh 87 (hh 102 ((4096 * (ifs - 3)) + (hh 107 nn)))))) 107 nn) (xxor (hh 87 (hh 102 ((4096 * (ifs - 3)) + (hh 107 nn)))) (-1))))) rfl ?_
                        exact ih29 _ (nn + 1) _ _ (by omega) (by omega) (fun a z1 z2 z3 => by rw [xup_o _ _ _ _ a z3, xup_o _ _ _ _ a z3, xup_o _ _ _ _ a z1]; exact hf a z1 z2 z3) (fun q y1 y2 => by
                          rcases Int.lt_or_eq_of_le (show q ≤ nn by omega) with y3 | y3
                          · refine LT_fr ?_ rfl ?_ ?_ ?_ (hi1 q y1 y3)
                            · rw [xup_o _ _ _ _ _ (by decide), xup_o _ _ _ _ _ (by decide), xup_j (by omega)]
                            · rw [xup_j (by omega), xup_j (by omega)]; rfl
                            · rw [xup_j (by omega), xup_j (by omega)]; rfl
                            · rw [xup_j (by omega), xup_j (by omega)]; rfl
                          · rw [y3]
                            have k0 : (xup (xup (xup hh 105 nn (hh 102 ((4096 * (ifs - 3)) + (hh 107 nn)))) 107 (2 * nn) (xand (hh 107 nn) (hh 87 (hh 102 ((4096 * (ifs - 3)) + (hh 107 nn)))))) 107 ((2 * nn) + 1) (xand ((xup (xup hh 105 nn (hh 102 ((4096 * (ifs - 3)) + (hh 107 nn)))) 107 (2 * nn) (xand (hh 107 nn) (hh 87 (hh 102 ((4096 * (ifs - 3)) + (hh 107 nn)))))) 107 nn) (xxor (hh 87 (hh 102 ((4096 * (ifs - 3)) + (hh 107 nn)))) (-1)))) 107 nn = hh 107 nn := by rw [xup_j (by omega), xup_j (by omega)]; rfl
                            unfold LT
                            rw [k0]
                            refine Or.inr (Or.inr ⟨cn, tn, ?_, ?_, ?_, ?_⟩)
                            · rw [xup_o _ _ _ _ _ (by decide), xup_o _ _ _ _ _ (by decide), xup_s]; exact et
                            · exact (hi2 nn (by omega) (by omega) (Or.inr (Int.le_refl _))).2
                            · rw [xup_j (by omega), xup_s]; exact v1
                            · rw [xup_s]; exact v2) (fun q y1 y2 y3 => by
                          obtain ⟨x1, x2⟩ := hi2 q y1 y2 (by omega)
                          refine ⟨?_, x2⟩
                          rw [xup_o _ _ _ _ _ (by decide), xup_o _ _ _ _ _ (by decide), xup_j (by omega)]
                          exact x1) (fun q y1 y2 y3 => by
                          rw [xup_j (by omega), xup_j (by omega)]
                          exact hi3 q y1 y2 (by omega)) (fun q y1 y2 y3 => by
                          by_cases e1 : q = 2 * nn + 1
                          · rw [e1, xup_s, v2]
                            rw [e1] at y2
                            refine ⟨w2, w4, ?_⟩
                            rw [(dpq_k hn0 (by omega)).2]; omega
                          · rw [xup_j e1] at y3 ⊢
                            by_cases e2 : q = 2 * nn
                            · rw [e2, xup_s, v1]
                              refine ⟨w1, w3, ?_⟩
                              rw [(dpq_k hn0 (by omega)).1]; omega
                            · rw [xup_j e2] at y3 ⊢
                              exact hi4 q y1 y2 y3) (by rw [xup_j (by omega), xup_j (by omega)]; exact hi5) (by omega)
                      · rw [c_ne (by first | (rw [et]; exact ⟨by omega, by omega⟩) | exact ⟨by omega, by omega⟩) (by first | (rw [et]; exact ⟨by omega, by omega⟩) | exact ⟨by omega, by omega⟩)] at c71
                        simp only [decide_eq_true_eq, decide_eq_false_iff_not, Decidable.not_not] at c71
                        show xEx G0 cdX12_laysTree none (xRn G0 MT d) Q b 72 [some (.inr (.inr 66)), some (.inl ifs), some (.inl whole), some (.inl nn), some (.inl 3), some (.inl (hh 102 ((4096 * (ifs - 3)) + (hh 107 nn))))] [] hh
                        have tm : bti S T (S 0 0) (T 0 0) p (ifs - dpq nn).toNat (hh 107 nn) = -1 := by rw [← et]; exact c71
                        have el : hh 100 (hh 107 nn) = lf S (S 0 0) p (hh 107 nn) := by
                          rw [hf _ (by decide) (by decide) (by decide)]
                          exact hlf _ ic cn sc
                        clear bs
                        refine E_s 8 (i' := 80) (ls' := [some (.inr (.inr 66)), some (.inl ifs), some (.inl whole), some (.inl nn), some (.inl 3), some (.inl (hh 102 ((4096 * (ifs - 3)) + (hh 107 nn))))]) (sk' := [.inl nn, .inr (.inr 107), .inr (.inr 100), .inl nn, .inr (.inr 106)]) (h' := hh) rfl ?_
                        refine E_ld (x := (.iaload, 0, [], [])) (ty := .int) (n := 32) rfl rfl rfl (by omega) (by omega) ?_
                        show xEx G0 cdX12_laysTree none (xRn G0 MT d) Q b 81 [some (.inr (.inr 66)), some (.inl ifs), some (.inl whole), some (.inl nn), some (.inl 3), some (.inl (hh 102 ((4096 * (ifs - 3)) + (hh 107 nn))))] [.inl (hh 107 nn), .inr (.inr 100), .inl nn, .inr (.inr 106)] hh
                        refine E_ld (x := (.iaload, 0, [], [])) (ty := .int) (n := 4096) rfl rfl rfl (by omega) (by omega) ?_
                        show xEx G0 cdX12_laysTree none (xRn G0 MT d) Q b 82 [some (.inr (.inr 66)), some (.inl ifs), some (.inl whole), some (.inl nn), some (.inl 3), some (.inl (hh 102 ((4096 * (ifs - 3)) + (hh 107 nn))))] [.inl (hh 100 (hh 107 nn)), .inl nn, .inr (.inr 106)] hh
                        refine E_sd (x := (.iastore, 0, [], [])) (ty := .int) (n := 32) (y := (hh 100 (hh 107 nn))) rfl rfl rfl (by omega) (by omega) (trivial) ?_
                        show xEx G0 cdX12_laysTree none (xRn G0 MT d) Q b 83 [some (.inr (.inr 66)), some (.inl ifs), some (.inl whole), some (.inl nn), some (.inl 3), some (.inl (hh 102 ((4096 * (ifs - 3)) + (hh 107 nn))))] [] (xup hh 106 nn (hh 100 (hh 107 nn)))
                        refine E_s 3 (i' := 29) (ls' := [some (.inr (.inr 66)), some (.inl ifs), some (.inl whole), some (.inl (nn + 1)), some (.inl 3), some (.inl (hh 102 ((4096 * (ifs - 3)) + (hh 107 nn))))]) (sk' := []) (h' := (xup hh 106 nn (hh 100 (hh 107 nn)))) rfl ?_
                        exact ih29 _ (nn + 1) _ _ (by omega) (by omega) (fun a z1 z2 z3 => by rw [xup_o _ _ _ _ a z2]; exact hf a z1 z2 z3) (fun q y1 y2 => by
                          rcases Int.lt_or_eq_of_le (show q ≤ nn by omega) with y3 | y3
                          · exact LT_fr rfl (xup_j (by omega)) rfl rfl rfl (hi1 q y1 y3)
                          · rw [y3]
                            refine Or.inr (Or.inl ⟨cn, tm, ?_, ?_, ?_, ?_⟩)
                            · exact (hi2 nn (by omega) (by omega) (Or.inr (Int.le_refl _))).1
                            · rw [xup_s]; exact el
                            · exact hi3 _ (by omega) (by omega) (Int.le_refl _)
                            · exact hi3 _ (by omega) (by omega) (by omega)) (fun q y1 y2 y3 => by
                          obtain ⟨x1, x2⟩ := hi2 q y1 y2 (by omega)
                          exact ⟨x1, by rw [xup_j (by omega)]; exact x2⟩) (fun q y1 y2 y3 => hi3 q y1 y2 (by omega)) hi4 hi5 (by omega)
                    · rw [c_ge (by first | assumption | (refine ⟨?_, ?_⟩ <;> omega) | (simp only [xr] at *; omega)) (by first | assumption | (refine ⟨?_, ?_⟩ <;> omega) | (simp only [xr] at *; omega))] at c50
                      simp only [decide_eq_true_eq, decide_eq_false_iff_not, Decidable.not_not] at c50
                      show xEx G0 cdX12_laysTree none (xRn G0 MT d) Q b 51 [some (.inr (.inr 66)), some (.inl ifs), some (.inl whole), some (.inl nn), v4, v5] [] hh
                      refine E_s 3 (i' := 55) (ls' := [some (.inr (.inr 66)), some (.inl ifs), some (.inl whole), some (.inl nn), some (.inl 2), v5]) (sk' := []) (h' := hh) rfl ?_
                      have cn : hh 107 nn ≠ 0 := c36
                      obtain ⟨ic, sc, dc⟩ := hi4 nn hn0 (by omega) cn
                      have ed : dpq nn = 2 := by unfold dpq; rw [if_neg (by omega), if_neg (by omega), if_pos (by omega)]
                      have r4 := ir4 o.1 ic
                      have et : hh 102 (4096 * (ifs - 2) + hh 107 nn) = bti S T (S 0 0) (T 0 0) p (ifs - dpq nn).toNat (hh 107 nn) := by
                        rw [hf _ (by decide) (by decide) (by decide), ed]
                        exact (hls (ifs - 2) (by omega) _ ic cn sc (by omega)).2
                      have bs := bti_spec (S := S) (T := T) (KE := S 0 0) (KT := T 0 0) (p := p) o.2.2.1.1 (ifs - dpq nn).toNat (hh 107 nn)
                      obtain ⟨br0, br1⟩ : -1 ≤ bti S T (S 0 0) (T 0 0) p (ifs - dpq nn).toNat (hh 107 nn) ∧ bti S T (S 0 0) (T 0 0) p (ifs - dpq nn).toNat (hh 107 nn) < T 0 0 := by
                        have := o.2.2.1
                        rcases bs with ⟨-, z9⟩ | ⟨-, j, -, b1, b2, -⟩
                        · rw [z9]; omega
                        · omega
                      have ot := o.2.2.1
                      refine E_s 10 (i' := 65) (ls' := [some (.inr (.inr 66)), some (.inl ifs), some (.inl whole), some (.inl nn), some (.inl 2), v5]) (sk' := [.inl nn, .inr (.inr 107), .inl (4096 * (ifs - 2)), .inr (.inr 102)]) (h' := hh) rfl ?_
                      refine E_ld (x := (.iaload, 0, [], [])) (ty := .int) (n := 32) rfl rfl rfl (by omega) (by omega) ?_
                      show xEx G0 cdX12_laysTree none (xRn G0 MT d) Q b 66 [some (.inr (.inr 66)), some (.inl ifs), some (.inl whole), some (.inl nn), some (.inl 2), v5] [.inl (hh 107 nn), .inl (4096 * (ifs - 2)), .inr (.inr 102)] hh
                      refine E_s 1 (i' := 67) (ls' := [some (.inr (.inr 66)), some (.inl ifs), some (.inl whole), some (.inl nn), some (.inl 2), v5]) (sk' := [.inl ((4096 * (ifs - 2)) + (hh 107 nn)), .inr (.inr 102)]) (h' := hh) rfl ?_
                      refine E_ld (x := (.iaload, 0, [], [])) (ty := .int) (n := 16384) rfl rfl rfl (by omega) (by omega) ?_
                      show xEx G0 cdX12_laysTree none (xRn G0 MT d) Q b 68 [some (.inr (.inr 66)), some (.inl ifs), some (.inl whole), some (.inl nn), some (.inl 2), v5] [.inl (hh 102 ((4096 * (ifs - 2)) + (hh 107 nn)))] hh
                      refine E_s 3 (i' := 71) (ls' := [some (.inr (.inr 66)), some (.inl ifs), some (.inl whole), some (.inl nn), some (.inl 2), some (.inl (hh 102 ((4096 * (ifs - 2)) + (hh 107 nn))))]) (sk' := [.inl (-1), .inl (hh 102 ((4096 * (ifs - 2)) + (hh 107 nn)))]) (h' := hh) rfl ?_
                      refine E_b (x := (.if_icmp .ne 23, 84, [], [])) rfl rfl (fun c71 => ?_) (fun c71 => ?_)
                      · rw [c_ne (by first | (rw [et]; exact ⟨by omega, by omega⟩) | exact ⟨by omega, by omega⟩) (by first | (rw [et]; exact ⟨by omega, by omega⟩) | exact ⟨by omega, by omega⟩)] at c71
                        simp only [decide_eq_true_eq, decide_eq_false_iff_not, Decidable.not_not] at c71
                        show xEx G0 cdX12_laysTree none (xRn G0 MT d) Q b 84 [some (.inr (.inr 66)), some (.inl ifs), some (.inl whole), some (.inl nn), some (.inl 2), some (.inl (hh 102 ((4096 * (ifs - 2)) + (hh 107 nn))))] [] hh
                        have tn : bti S T (S 0 0) (T 0 0) p (ifs - dpq nn).toNat (hh 107 nn) ≠ -1 := by rw [← et]; exact c71
                        obtain ⟨b0, b1, bi⟩ : 0 ≤ bti S T (S 0 0) (T 0 0) p (ifs - dpq nn).toNat (hh 107 nn) ∧ bti S T (S 0 0) (T 0 0) p (ifs - dpq nn).toNat (hh 107 nn) < T 0 0 ∧ 1 ≤ ifs - dpq nn := by
                          rcases bs with ⟨-, z9⟩ | ⟨-, j, e9, y1, y2, -⟩
                          · exact absurd z9 tn
                          · exact ⟨y1, y2, by omega⟩
                        clear bs
                        have o6 : hh 87 (hh 102 (4096 * (ifs - 2) + hh 107 nn)) = T 6 (bti S T (S 0 0) (T 0 0) p (ifs - dpq nn).toNat (hh 107 nn)) := by
                          rw [et, hf _ (by decide) (by decide) (by decide)]
                          exact (hA.2.2.2 _ b0 b1).2
                        have i6 := (o.2.2.2.2 _ b0 b1).2.1
                        have v1 : xand (hh 107 nn) (hh 87 (hh 102 (4096 * (ifs - 2) + hh 107 nn))) = xand (hh 107 nn) (T 6 (bti S T (S 0 0) (T 0 0) p (ifs - dpq nn).toNat (hh 107 nn))) := by rw [o6]
                        have v2 : xand ((xup (xup hh 105 nn (hh 102 (4096 * (ifs - 2) + hh 107 nn))) 107 (2 * nn) (xand (hh 107 nn) (hh 87 (hh 102 (4096 * (ifs - 2) + hh 107 nn))))) 107 nn) (xxor (hh 87 (hh 102 (4096 * (ifs - 2) + hh 107 nn))) (-1)) = xand (hh 107 nn) (xxor (T 6 (bti S T (S 0 0) (T 0 0) p (ifs - dpq nn).toNat (hh 107 nn))) (-1)) := by rw [o6, xup_j (by omega)]; rfl
                        have w1 := xa_r o.1 ic i6
                        have w2 := xn_r o.1 ic i6
                        have w3 : sub (xand (hh 107 nn) (T 6 (bti S T (S 0 0) (T 0 0) p (ifs - dpq nn).toNat (hh 107 nn)))) whole := sub_tr o.1 w1 ic hw (sub_an o.1 ic i6) sc
                        have w4 : sub (xand (hh 107 nn) (xxor (T 6 (bti S T (S 0 0) (T 0 0) p (ifs - dpq nn).toNat (hh 107 nn))) (-1))) whole := by
                          have e9 := els_n o.1 ic i6
                          have y9 := sub_tr o.1 (xx_r o.1 ic w1) ic hw (sub_el o.1 ic i6) sc
                          rw [e9] at y9
                          exact y9
                        have rt : 0 ≤ hh 102 (4096 * (ifs - 2) + hh 107 nn) ∧ hh 102 (4096 * (ifs - 2) + hh 107 nn) < 150 := by rw [et]; omega
                        refine E_s 4 (i' := 88) (ls' := [some (.inr (.inr 66)), some (.inl ifs), some (.inl whole), some (.inl nn), some (.inl 2), some (.inl (hh 102 ((4096 * (ifs - 2)) + (hh 107 nn))))]) (sk' := [.inl (hh 102 ((4096 * (ifs - 2)) + (hh 107 nn))), .inl nn, .inr (.inr 105)]) (h' := hh) rfl ?_
                        refine E_sd (x := (.iastore, 0, [], [])) (ty := .int) (n := 32) (y := (hh 102 ((4096 * (ifs - 2)) + (hh 107 nn)))) rfl rfl rfl (by omega) (by omega) (trivial) ?_
                        show xEx G0 cdX12_laysTree none (xRn G0 MT d) Q b 89 [some (.inr (.inr 66)), some (.inl ifs), some (.inl whole), some (.inl nn), some (.inl 2), some (.inl (hh 102 ((4096 * (ifs - 2)) + (hh 107 nn))))] [] (xup hh 105 nn (hh 102 ((4096 * (ifs - 2)) + (hh 107 nn))))
                        refine E_s 8 (i' := 97) (ls' := [some (.inr (.inr 66)), some (.inl ifs), some (.inl whole), some (.inl nn), some (.inl 2), some (.inl (hh 102 ((4096 * (ifs - 2)) + (hh 107 nn))))]) (sk' := [.inl nn, .inr (.inr 107), .inl (2 * nn), .inr (.inr 107)]) (h' := (xup hh 105 nn (hh 102 ((4096 * (ifs - 2)) + (hh 107 nn))))) rfl ?_
                        refine E_ld (x := (.iaload, 0, [], [])) (ty := .int) (n := 32) rfl rfl rfl (by omega) (by omega) ?_
                        show xEx G0 cdX12_laysTree none (xRn G0 MT d) Q b 98 [some (.inr (.inr 66)), some (.inl ifs), some (.inl whole), some (.inl nn), some (.inl 2), some (.inl (hh 102 ((4096 * (ifs - 2)) + (hh 107 nn))))] [.inl (hh 107 nn), .inl (2 * nn), .inr (.inr 107)] (xup hh 105 nn (hh 102 ((4096 * (ifs - 2)) + (hh 107 nn))))
                        refine E_s 3 (i' := 101) (ls' := [some (.inr (.inr 66)), some (.inl ifs), some (.inl whole), some (.inl nn), some (.inl 2), some (.inl (hh 102 ((4096 * (ifs - 2)) + (hh 107 nn))))]) (sk' := [.inl (hh 102 ((4096 * (ifs - 2)) + (hh 107 nn))), .inr (.inr 87), .inl (hh 107 nn), .inl (2 * nn), .inr (.inr 107)]) (h' := (xup hh 105 nn (hh 102 ((4096 * (ifs - 2)) + (hh 107 nn))))) rfl ?_
                        refine E_ld (x := (.iaload, 0, [], [])) (ty := .int) (n := 150) rfl rfl rfl (by omega) (by omega) ?_
                        show xEx G0 cdX12_laysTree none (xRn G0 MT d) Q b 102 [some (.inr (.inr 66)), some (.inl ifs), some (.inl whole), some (.inl nn), some (.inl 2), some (.inl (hh 102 ((4096 * (ifs - 2)) + (hh 107 nn))))] [.inl (hh 87 (hh 102 ((4096 * (ifs - 2)) + (hh 107 nn)))), .inl (hh 107 nn), .inl (2 * nn), .inr (.inr 107)] (xup hh 105 nn (hh 102 ((4096 * (ifs - 2)) + (hh 107 nn))))
                        refine E_s 1 (i' := 103) (ls' := [some (.inr (.inr 66)), some (.inl ifs), some (.inl whole), some (.inl nn), some (.inl 2), some (.inl (hh 102 ((4096 * (ifs - 2)) + (hh 107 nn))))]) (sk' := [.inl (xand (hh 107 nn) (hh 87 (hh 102 ((4096 * (ifs - 2)) + (hh 107 nn))))), .inl (2 * nn), .inr (.inr 107)]) (h' := (xup hh 105 nn (hh 102 ((4096 * (ifs - 2)) + (hh 107 nn))))) rfl ?_
                        refine E_sd (x := (.iastore, 0, [], [])) (ty := .int) (n := 32) (y := (xand (hh 107 nn) (hh 87 (hh 102 ((4096 * (ifs - 2)) + (hh 107 nn)))))) rfl rfl rfl (by omega) (by omega) (trivial) ?_
                        show xEx G0 cdX12_laysTree none (xRn G0 MT d) Q b 104 [some (.inr (.inr 66)), some (.inl ifs), some (.inl whole), some (.inl nn), some (.inl 2), some (.inl (hh 102 ((4096 * (ifs - 2)) + (hh 107 nn))))] [] (xup (xup hh 105 nn (hh 102 ((4096 * (ifs - 2)) + (hh 107 nn)))) 107 (2 * nn) (xand (hh 107 nn) (hh 87 (hh 102 ((4096 * (ifs - 2)) + (hh 107 nn))))))
                        refine E_s 10 (i' := 114) (ls' := [some (.inr (.inr 66)), some (.inl ifs), some (.inl whole), some (.inl nn), some (.inl 2), some (.inl (hh 102 ((4096 * (ifs - 2)) + (hh 107 nn))))]) (sk' := [.inl nn, .inr (.inr 107), .inl ((2 * nn) + 1), .inr (.inr 107)]) (h' := (xup (xup hh 105 nn (hh 102 ((4096 * (ifs - 2)) + (hh 107 nn)))) 107 (2 * nn) (xand (hh 107 nn) (hh 87 (hh 102 ((4096 * (ifs - 2)) + (hh 107 nn))))))) rfl ?_
                        refine E_ld (x := (.iaload, 0, [], [])) (ty := .int) (n := 32) rfl rfl rfl (by omega) (by omega) ?_
                        show xEx G0 cdX12_laysTree none (xRn G0 MT d) Q b 115 [some (.inr (.inr 66)), some (.inl ifs), some (.inl whole), some (.inl nn), some (.inl 2), some (.inl (hh 102 ((4096 * (ifs - 2)) + (hh 107 nn))))] [.inl ((xup (xup hh 105 nn (hh 102 ((4096 * (ifs - 2)) + (hh 107 nn)))) 107 (2 * nn) (xand (hh 107 nn) (hh 87 (hh 102 ((4096 * (ifs - 2)) + (hh 107 nn)))))) 107 nn), .inl ((2 * nn) + 1), .inr (.inr 107)] (xup (xup hh 105 nn (hh 102 ((4096 * (ifs - 2)) + (hh 107 nn)))) 107 (2 * nn) (xand (hh 107 nn) (hh 87 (hh 102 ((4096 * (ifs - 2)) + (hh 107 nn))))))
                        refine E_s 3 (i' := 118) (ls' := [some (.inr (.inr 66)), some (.inl ifs), some (.inl whole), some (.inl nn), some (.inl 2), some (.inl (hh 102 ((4096 * (ifs - 2)) + (hh 107 nn))))]) (sk' := [.inl (hh 102 ((4096 * (ifs - 2)) + (hh 107 nn))), .inr (.inr 87), .inl ((xup (xup hh 105 nn (hh 102 ((4096 * (ifs - 2)) + (hh 107 nn)))) 107 (2 * nn) (xand (hh 107 nn) (hh 87 (hh 102 ((4096 * (ifs - 2)) + (hh 107 nn)))))) 107 nn), .inl ((2 * nn) + 1), .inr (.inr 107)]) (h' := (xup (xup hh 105 nn (hh 102 ((4096 * (ifs - 2)) + (hh 107 nn)))) 107 (2 * nn) (xand (hh 107 nn) (hh 87 (hh 102 ((4096 * (ifs - 2)) + (hh 107 nn))))))) rfl ?_
                        refine E_ld (x := (.iaload, 0, [], [])) (ty := .int) (n := 150) rfl rfl rfl (by omega) (by omega) ?_
                        show xEx G0 cdX12_laysTree none (xRn G0 MT d) Q b 119 [some (.inr (.inr 66)), some (.inl ifs), some (.inl whole), some (.inl nn), some (.inl 2), some (.inl (hh 102 ((4096 * (ifs - 2)) + (hh 107 nn))))] [.inl (hh 87 (hh 102 ((4096 * (ifs - 2)) + (hh 107 nn)))), .inl ((xup (xup hh 105 nn (hh 102 ((4096 * (ifs - 2)) + (hh 107 nn)))) 107 (2 * nn) (xand (hh 107 nn) (hh 87 (hh 102 ((4096 * (ifs - 2)) + (hh 107 nn)))))) 107 nn), .inl ((2 * nn) + 1), .inr (.inr 107)] (xup (xup hh 105 nn (hh 102 ((4096 * (ifs - 2)) + (hh 107 nn)))) 107 (2 * nn) (xand (hh 107 nn) (hh 87 (hh 102 ((4096 * (ifs - 2)) + (hh 107 nn))))))
                        refine E_s 3 (i' := 122) (ls' := [some (.inr (.inr 66)), some (.inl ifs), some (.inl whole), some (.inl nn), some (.inl 2), some (.inl (hh 102 ((4096 * (ifs - 2)) + (hh 107 nn))))]) (sk' := [.inl (xand ((xup (xup hh 105 nn (hh 102 ((4096 * (ifs - 2)) + (hh 107 nn)))) 107 (2 * nn) (xand (hh 107 nn) (hh 87 (hh 102 ((4096 * (ifs - 2)) + (hh 107 nn)))))) 107 nn) (xxor (hh 87 (hh 102 ((4096 * (ifs - 2)) + (hh 107 nn)))) (-1))), .inl ((2 * nn) + 1), .inr (.inr 107)]) (h' := (xup (xup hh 105 nn (hh 102 ((4096 * (ifs - 2)) + (hh 107 nn)))) 107 (2 * nn) (xand (hh 107 nn) (hh 87 (hh 102 ((4096 * (ifs - 2)) + (hh 107 nn))))))) rfl ?_
                        refine E_sd (x := (.iastore, 0, [], [])) (ty := .int) (n := 32) (y := (xand ((xup (xup hh 105 nn (hh 102 ((4096 * (ifs - 2)) + (hh 107 nn)))) 107 (2 * nn) (xand (hh 107 nn) (hh 87 (hh 102 ((4096 * (ifs - 2)) + (hh 107 nn)))))) 107 nn) (xxor (hh 87 (hh 102 ((4096 * (ifs - 2)) + (hh 107 nn)))) (-1)))) rfl rfl rfl (by omega) (by omega) (trivial) ?_
                        show xEx G0 cdX12_laysTree none (xRn G0 MT d) Q b 123 [some (.inr (.inr 66)), some (.inl ifs), some (.inl whole), some (.inl nn), some (.inl 2), some (.inl (hh 102 ((4096 * (ifs - 2)) + (hh 107 nn))))] [] (xup (xup (xup hh 105 nn (hh 102 ((4096 * (ifs - 2)) + (hh 107 nn)))) 107 (2 * nn) (xand (hh 107 nn) (hh 87 (hh 102 ((4096 * (ifs - 2)) + (hh 107 nn)))))) 107 ((2 * nn) + 1) (xand ((xup (xup hh 105 nn (hh 102 ((4096 * (ifs - 2)) + (hh 107 nn)))) 107 (2 * nn) (xand (hh 107 nn) (hh 87 (hh 102 ((4096 * (ifs - 2)) + (hh 107 nn)))))) 107 nn) (xxor (hh 87 (hh 102 ((4096 * (ifs - 2)) + (hh 107 nn)))) (-1))))
                        refine E_s 2 (i' := 29) (ls' := [some (.inr (.inr 66)), some (.inl ifs), some (.inl whole), some (.inl (nn + 1)), some (.inl 2), some (.inl (hh 102 ((4096 * (ifs - 2)) + (hh 107 nn))))]) (sk' := []) (h' := (xup (xup (xup hh 105 nn (hh 102 ((4096 * (ifs - 2)) + (hh 107 nn)))) 107 (2 * nn) (xand (hh 107 nn) (hh 87 (hh 102 ((4096 * (ifs - 2)) + (hh 107 nn)))))) 107 ((2 * nn) + 1) (xand ((xup (xup hh 105 nn (hh 102 ((4096 * (ifs - 2)) + (hh 107 nn)))) 107 (2 * nn) (xand (hh 107 nn) (hh 87 (hh 102 ((4096 * (ifs - 2)) + (hh 107 nn)))))) 107 nn) (xxor (hh 87 (hh 102 ((4096 * (ifs - 2)) + (hh 107 nn)))) (-1))))) rfl ?_
                        exact ih29 _ (nn + 1) _ _ (by omega) (by omega) (fun a z1 z2 z3 => by rw [xup_o _ _ _ _ a z3, xup_o _ _ _ _ a z3, xup_o _ _ _ _ a z1]; exact hf a z1 z2 z3) (fun q y1 y2 => by
                          rcases Int.lt_or_eq_of_le (show q ≤ nn by omega) with y3 | y3
                          · refine LT_fr ?_ rfl ?_ ?_ ?_ (hi1 q y1 y3)
                            · rw [xup_o _ _ _ _ _ (by decide), xup_o _ _ _ _ _ (by decide), xup_j (by omega)]
                            · rw [xup_j (by omega), xup_j (by omega)]; rfl
                            · rw [xup_j (by omega), xup_j (by omega)]; rfl
                            · rw [xup_j (by omega), xup_j (by omega)]; rfl
                          · rw [y3]
                            have k0 : (xup (xup (xup hh 105 nn (hh 102 ((4096 * (ifs - 2)) + (hh 107 nn)))) 107 (2 * nn) (xand (hh 107 nn) (hh 87 (hh 102 ((4096 * (ifs - 2)) + (hh 107 nn)))))) 107 ((2 * nn) + 1) (xand ((xup (xup hh 105 nn (hh 102 ((4096 * (ifs - 2)) + (hh 107 nn)))) 107 (2 * nn) (xand (hh 107 nn) (hh 87 (hh 102 ((4096 * (ifs - 2)) + (hh 107 nn)))))) 107 nn) (xxor (hh 87 (hh 102 ((4096 * (ifs - 2)) + (hh 107 nn)))) (-1)))) 107 nn = hh 107 nn := by rw [xup_j (by omega), xup_j (by omega)]; rfl
                            unfold LT
                            rw [k0]
                            refine Or.inr (Or.inr ⟨cn, tn, ?_, ?_, ?_, ?_⟩)
                            · rw [xup_o _ _ _ _ _ (by decide), xup_o _ _ _ _ _ (by decide), xup_s]; exact et
                            · exact (hi2 nn (by omega) (by omega) (Or.inr (Int.le_refl _))).2
                            · rw [xup_j (by omega), xup_s]; exact v1
                            · rw [xup_s]; exact v2) (fun q y1 y2 y3 => by
                          obtain ⟨x1, x2⟩ := hi2 q y1 y2 (by omega)
                          refine ⟨?_, x2⟩
                          rw [xup_o _ _ _ _ _ (by decide), xup_o _ _ _ _ _ (by decide), xup_j (by omega)]
                          exact x1) (fun q y1 y2 y3 => by
                          rw [xup_j (by omega), xup_j (by omega)]
                          exact hi3 q y1 y2 (by omega)) (fun q y1 y2 y3 => by
                          by_cases e1 : q = 2 * nn + 1
                          · rw [e1, xup_s, v2]
                            rw [e1] at y2
                            refine ⟨w2, w4, ?_⟩
                            rw [(dpq_k hn0 (by omega)).2]; omega
                          · rw [xup_j e1] at y3 ⊢
                            by_cases e2 : q = 2 * nn
                            · rw [e2, xup_s, v1]
                              refine ⟨w1, w3, ?_⟩
                              rw [(dpq_k hn0 (by omega)).1]; omega
                            · rw [xup_j e2] at y3 ⊢
                              exact hi4 q y1 y2 y3) (by rw [xup_j (by omega), xup_j (by omega)]; exact hi5) (by omega)
                      · rw [c_ne (by first | (rw [et]; exact ⟨by omega, by omega⟩) | exact ⟨by omega, by omega⟩) (by first | (rw [et]; exact ⟨by omega, by omega⟩) | exact ⟨by omega, by omega⟩)] at c71
                        simp only [decide_eq_true_eq, decide_eq_false_iff_not, Decidable.not_not] at c71
                        show xEx G0 cdX12_laysTree none (xRn G0 MT d) Q b 72 [some (.inr (.inr 66)), some (.inl ifs), some (.inl whole), some (.inl nn), some (.inl 2), some (.inl (hh 102 ((4096 * (ifs - 2)) + (hh 107 nn))))] [] hh
                        have tm : bti S T (S 0 0) (T 0 0) p (ifs - dpq nn).toNat (hh 107 nn) = -1 := by rw [← et]; exact c71
                        have el : hh 100 (hh 107 nn) = lf S (S 0 0) p (hh 107 nn) := by
                          rw [hf _ (by decide) (by decide) (by decide)]
                          exact hlf _ ic cn sc
                        clear bs
                        refine E_s 8 (i' := 80) (ls' := [some (.inr (.inr 66)), some (.inl ifs), some (.inl whole), some (.inl nn), some (.inl 2), some (.inl (hh 102 ((4096 * (ifs - 2)) + (hh 107 nn))))]) (sk' := [.inl nn, .inr (.inr 107), .inr (.inr 100), .inl nn, .inr (.inr 106)]) (h' := hh) rfl ?_
                        refine E_ld (x := (.iaload, 0, [], [])) (ty := .int) (n := 32) rfl rfl rfl (by omega) (by omega) ?_
                        show xEx G0 cdX12_laysTree none (xRn G0 MT d) Q b 81 [some (.inr (.inr 66)), some (.inl ifs), some (.inl whole), some (.inl nn), some (.inl 2), some (.inl (hh 102 ((4096 * (ifs - 2)) + (hh 107 nn))))] [.inl (hh 107 nn), .inr (.inr 100), .inl nn, .inr (.inr 106)] hh
                        refine E_ld (x := (.iaload, 0, [], [])) (ty := .int) (n := 4096) rfl rfl rfl (by omega) (by omega) ?_
                        show xEx G0 cdX12_laysTree none (xRn G0 MT d) Q b 82 [some (.inr (.inr 66)), some (.inl ifs), some (.inl whole), some (.inl nn), some (.inl 2), some (.inl (hh 102 ((4096 * (ifs - 2)) + (hh 107 nn))))] [.inl (hh 100 (hh 107 nn)), .inl nn, .inr (.inr 106)] hh
                        refine E_sd (x := (.iastore, 0, [], [])) (ty := .int) (n := 32) (y := (hh 100 (hh 107 nn))) rfl rfl rfl (by omega) (by omega) (trivial) ?_
                        show xEx G0 cdX12_laysTree none (xRn G0 MT d) Q b 83 [some (.inr (.inr 66)), some (.inl ifs), some (.inl whole), some (.inl nn), some (.inl 2), some (.inl (hh 102 ((4096 * (ifs - 2)) + (hh 107 nn))))] [] (xup hh 106 nn (hh 100 (hh 107 nn)))
                        refine E_s 3 (i' := 29) (ls' := [some (.inr (.inr 66)), some (.inl ifs), some (.inl whole), some (.inl (nn + 1)), some (.inl 2), some (.inl (hh 102 ((4096 * (ifs - 2)) + (hh 107 nn))))]) (sk' := []) (h' := (xup hh 106 nn (hh 100 (hh 107 nn)))) rfl ?_
                        exact ih29 _ (nn + 1) _ _ (by omega) (by omega) (fun a z1 z2 z3 => by rw [xup_o _ _ _ _ a z2]; exact hf a z1 z2 z3) (fun q y1 y2 => by
                          rcases Int.lt_or_eq_of_le (show q ≤ nn by omega) with y3 | y3
                          · exact LT_fr rfl (xup_j (by omega)) rfl rfl rfl (hi1 q y1 y3)
                          · rw [y3]
                            refine Or.inr (Or.inl ⟨cn, tm, ?_, ?_, ?_, ?_⟩)
                            · exact (hi2 nn (by omega) (by omega) (Or.inr (Int.le_refl _))).1
                            · rw [xup_s]; exact el
                            · exact hi3 _ (by omega) (by omega) (Int.le_refl _)
                            · exact hi3 _ (by omega) (by omega) (by omega)) (fun q y1 y2 y3 => by
                          obtain ⟨x1, x2⟩ := hi2 q y1 y2 (by omega)
                          exact ⟨x1, by rw [xup_j (by omega)]; exact x2⟩) (fun q y1 y2 y3 => hi3 q y1 y2 (by omega)) hi4 hi5 (by omega)
                  · rw [c_ge (by first | assumption | (refine ⟨?_, ?_⟩ <;> omega) | (simp only [xr] at *; omega)) (by first | assumption | (refine ⟨?_, ?_⟩ <;> omega) | (simp only [xr] at *; omega))] at c45
                    simp only [decide_eq_true_eq, decide_eq_false_iff_not, Decidable.not_not] at c45
                    show xEx G0 cdX12_laysTree none (xRn G0 MT d) Q b 46 [some (.inr (.inr 66)), some (.inl ifs), some (.inl whole), some (.inl nn), v4, v5] [] hh
                    refine E_s 3 (i' := 55) (ls' := [some (.inr (.inr 66)), some (.inl ifs), some (.inl whole), some (.inl nn), some (.inl 1), v5]) (sk' := []) (h' := hh) rfl ?_
                    have cn : hh 107 nn ≠ 0 := c36
                    obtain ⟨ic, sc, dc⟩ := hi4 nn hn0 (by omega) cn
                    have ed : dpq nn = 1 := by unfold dpq; rw [if_neg (by omega), if_pos (by omega)]
                    have r4 := ir4 o.1 ic
                    have et : hh 102 (4096 * (ifs - 1) + hh 107 nn) = bti S T (S 0 0) (T 0 0) p (ifs - dpq nn).toNat (hh 107 nn) := by
                      rw [hf _ (by decide) (by decide) (by decide), ed]
                      exact (hls (ifs - 1) (by omega) _ ic cn sc (by omega)).2
                    have bs := bti_spec (S := S) (T := T) (KE := S 0 0) (KT := T 0 0) (p := p) o.2.2.1.1 (ifs - dpq nn).toNat (hh 107 nn)
                    obtain ⟨br0, br1⟩ : -1 ≤ bti S T (S 0 0) (T 0 0) p (ifs - dpq nn).toNat (hh 107 nn) ∧ bti S T (S 0 0) (T 0 0) p (ifs - dpq nn).toNat (hh 107 nn) < T 0 0 := by
                      have := o.2.2.1
                      rcases bs with ⟨-, z9⟩ | ⟨-, j, -, b1, b2, -⟩
                      · rw [z9]; omega
                      · omega
                    have ot := o.2.2.1
                    refine E_s 10 (i' := 65) (ls' := [some (.inr (.inr 66)), some (.inl ifs), some (.inl whole), some (.inl nn), some (.inl 1), v5]) (sk' := [.inl nn, .inr (.inr 107), .inl (4096 * (ifs - 1)), .inr (.inr 102)]) (h' := hh) rfl ?_
                    refine E_ld (x := (.iaload, 0, [], [])) (ty := .int) (n := 32) rfl rfl rfl (by omega) (by omega) ?_
                    show xEx G0 cdX12_laysTree none (xRn G0 MT d) Q b 66 [some (.inr (.inr 66)), some (.inl ifs), some (.inl whole), some (.inl nn), some (.inl 1), v5] [.inl (hh 107 nn), .inl (4096 * (ifs - 1)), .inr (.inr 102)] hh
                    refine E_s 1 (i' := 67) (ls' := [some (.inr (.inr 66)), some (.inl ifs), some (.inl whole), some (.inl nn), some (.inl 1), v5]) (sk' := [.inl ((4096 * (ifs - 1)) + (hh 107 nn)), .inr (.inr 102)]) (h' := hh) rfl ?_
                    refine E_ld (x := (.iaload, 0, [], [])) (ty := .int) (n := 16384) rfl rfl rfl (by omega) (by omega) ?_
                    show xEx G0 cdX12_laysTree none (xRn G0 MT d) Q b 68 [some (.inr (.inr 66)), some (.inl ifs), some (.inl whole), some (.inl nn), some (.inl 1), v5] [.inl (hh 102 ((4096 * (ifs - 1)) + (hh 107 nn)))] hh
                    refine E_s 3 (i' := 71) (ls' := [some (.inr (.inr 66)), some (.inl ifs), some (.inl whole), some (.inl nn), some (.inl 1), some (.inl (hh 102 ((4096 * (ifs - 1)) + (hh 107 nn))))]) (sk' := [.inl (-1), .inl (hh 102 ((4096 * (ifs - 1)) + (hh 107 nn)))]) (h' := hh) rfl ?_
                    refine E_b (x := (.if_icmp .ne 23, 84, [], [])) rfl rfl (fun c71 => ?_) (fun c71 => ?_)
                    · rw [c_ne (by first | (rw [et]; exact ⟨by omega, by omega⟩) | exact ⟨by omega, by omega⟩) (by first | (rw [et]; exact ⟨by omega, by omega⟩) | exact ⟨by omega, by omega⟩)] at c71
                      simp only [decide_eq_true_eq, decide_eq_false_iff_not, Decidable.not_not] at c71
                      show xEx G0 cdX12_laysTree none (xRn G0 MT d) Q b 84 [some (.inr (.inr 66)), some (.inl ifs), some (.inl whole), some (.inl nn), some (.inl 1), some (.inl (hh 102 ((4096 * (ifs - 1)) + (hh 107 nn))))] [] hh
                      have tn : bti S T (S 0 0) (T 0 0) p (ifs - dpq nn).toNat (hh 107 nn) ≠ -1 := by rw [← et]; exact c71
                      obtain ⟨b0, b1, bi⟩ : 0 ≤ bti S T (S 0 0) (T 0 0) p (ifs - dpq nn).toNat (hh 107 nn) ∧ bti S T (S 0 0) (T 0 0) p (ifs - dpq nn).toNat (hh 107 nn) < T 0 0 ∧ 1 ≤ ifs - dpq nn := by
                        rcases bs with ⟨-, z9⟩ | ⟨-, j, e9, y1, y2, -⟩
                        · exact absurd z9 tn
                        · exact ⟨y1, y2, by omega⟩
                      clear bs
                      have o6 : hh 87 (hh 102 (4096 * (ifs - 1) + hh 107 nn)) = T 6 (bti S T (S 0 0) (T 0 0) p (ifs - dpq nn).toNat (hh 107 nn)) := by
                        rw [et, hf _ (by decide) (by decide) (by decide)]
                        exact (hA.2.2.2 _ b0 b1).2
                      have i6 := (o.2.2.2.2 _ b0 b1).2.1
                      have v1 : xand (hh 107 nn) (hh 87 (hh 102 (4096 * (ifs - 1) + hh 107 nn))) = xand (hh 107 nn) (T 6 (bti S T (S 0 0) (T 0 0) p (ifs - dpq nn).toNat (hh 107 nn))) := by rw [o6]
                      have v2 : xand ((xup (xup hh 105 nn (hh 102 (4096 * (ifs - 1) + hh 107 nn))) 107 (2 * nn) (xand (hh 107 nn) (hh 87 (hh 102 (4096 * (ifs - 1) + hh 107 nn))))) 107 nn) (xxor (hh 87 (hh 102 (4096 * (ifs - 1) + hh 107 nn))) (-1)) = xand (hh 107 nn) (xxor (T 6 (bti S T (S 0 0) (T 0 0) p (ifs - dpq nn).toNat (hh 107 nn))) (-1)) := by rw [o6, xup_j (by omega)]; rfl
                      have w1 := xa_r o.1 ic i6
                      have w2 := xn_r o.1 ic i6
                      have w3 : sub (xand (hh 107 nn) (T 6 (bti S T (S 0 0) (T 0 0) p (ifs - dpq nn).toNat (hh 107 nn)))) whole := sub_tr o.1 w1 ic hw (sub_an o.1 ic i6) sc
                      have w4 : sub (xand (hh 107 nn) (xxor (T 6 (bti S T (S 0 0) (T 0 0) p (ifs - dpq nn).toNat (hh 107 nn))) (-1))) whole := by
                        have e9 := els_n o.1 ic i6
                        have y9 := sub_tr o.1 (xx_r o.1 ic w1) ic hw (sub_el o.1 ic i6) sc
                        rw [e9] at y9
                        exact y9
                      have rt : 0 ≤ hh 102 (4096 * (ifs - 1) + hh 107 nn) ∧ hh 102 (4096 * (ifs - 1) + hh 107 nn) < 150 := by rw [et]; omega
                      refine E_s 4 (i' := 88) (ls' := [some (.inr (.inr 66)), some (.inl ifs), some (.inl whole), some (.inl nn), some (.inl 1), some (.inl (hh 102 ((4096 * (ifs - 1)) + (hh 107 nn))))]) (sk' := [.inl (hh 102 ((4096 * (ifs - 1)) + (hh 107 nn))), .inl nn, .inr (.inr 105)]) (h' := hh) rfl ?_
                      refine E_sd (x := (.iastore, 0, [], [])) (ty := .int) (n := 32) (y := (hh 102 ((4096 * (ifs - 1)) + (hh 107 nn)))) rfl rfl rfl (by omega) (by omega) (trivial) ?_
                      show xEx G0 cdX12_laysTree none (xRn G0 MT d) Q b 89 [some (.inr (.inr 66)), some (.inl ifs), some (.inl whole), some (.inl nn), some (.inl 1), some (.inl (hh 102 ((4096 * (ifs - 1)) + (hh 107 nn))))] [] (xup hh 105 nn (hh 102 ((4096 * (ifs - 1)) + (hh 107 nn))))
                      refine E_s 8 (i' := 97) (ls' := [some (.inr (.inr 66)), some (.inl ifs), some (.inl whole), some (.inl nn), some (.inl 1), some (.inl (hh 102 ((4096 * (ifs - 1)) + (hh 107 nn))))]) (sk' := [.inl nn, .inr (.inr 107), .inl (2 * nn), .inr (.inr 107)]) (h' := (xup hh 105 nn (hh 102 ((4096 * (ifs - 1)) + (hh 107 nn))))) rfl ?_
                      refine E_ld (x := (.iaload, 0, [], [])) (ty := .int) (n := 32) rfl rfl rfl (by omega) (by omega) ?_
                      show xEx G0 cdX12_laysTree none (xRn G0 MT d) Q b 98 [some (.inr (.inr 66)), some (.inl ifs), some (.inl whole), some (.inl nn), some (.inl 1), some (.inl (hh 102 ((4096 * (ifs - 1)) + (hh 107 nn))))] [.inl (hh 107 nn), .inl (2 * nn), .inr (.inr 107)] (xup hh 105 nn (hh 102 ((4096 * (ifs - 1)) + (hh 107 nn))))
                      refine E_s 3 (i' := 101) (ls' := [some (.inr (.inr 66)), some (.inl ifs), some (.inl whole), some (.inl nn), some (.inl 1), some (.inl (hh 102 ((4096 * (ifs - 1)) + (hh 107 nn))))]) (sk' := [.inl (hh 102 ((4096 * (ifs - 1)) + (hh 107 nn))), .inr (.inr 87), .inl (hh 107 nn), .inl (2 * nn), .inr (.inr 107)]) (h' := (xup hh 105 nn (hh 102 ((4096 * (ifs - 1)) + (hh 107 nn))))) rfl ?_
                      refine E_ld (x := (.iaload, 0, [], [])) (ty := .int) (n := 150) rfl rfl rfl (by omega) (by omega) ?_
                      show xEx G0 cdX12_laysTree none (xRn G0 MT d) Q b 102 [some (.inr (.inr 66)), some (.inl ifs), some (.inl whole), some (.inl nn), some (.inl 1), some (.inl (hh 102 ((4096 * (ifs - 1)) + (hh 107 nn))))] [.inl (hh 87 (hh 102 ((4096 * (ifs - 1)) + (hh 107 nn)))), .inl (hh 107 nn), .inl (2 * nn), .inr (.inr 107)] (xup hh 105 nn (hh 102 ((4096 * (ifs - 1)) + (hh 107 nn))))
                      refine E_s 1 (i' := 103) (ls' := [some (.inr (.inr 66)), some (.inl ifs), some (.inl whole), some (.inl nn), some (.inl 1), some (.inl (hh 102 ((4096 * (ifs - 1)) + (hh 107 nn))))]) (sk' := [.inl (xand (hh 107 nn) (hh 87 (hh 102 ((4096 * (ifs - 1)) + (hh 107 nn))))), .inl (2 * nn), .inr (.inr 107)]) (h' := (xup hh 105 nn (hh 102 ((4096 * (ifs - 1)) + (hh 107 nn))))) rfl ?_
                      refine E_sd (x := (.iastore, 0, [], [])) (ty := .int) (n := 32) (y := (xand (hh 107 nn) (hh 87 (hh 102 ((4096 * (ifs - 1)) + (hh 107 nn)))))) rfl rfl rfl (by omega) (by omega) (trivial) ?_
                      show xEx G0 cdX12_laysTree none (xRn G0 MT d) Q b 104 [some (.inr (.inr 66)), some (.inl ifs), some (.inl whole), some (.inl nn), some (.inl 1), some (.inl (hh 102 ((4096 * (ifs - 1)) + (hh 107 nn))))] [] (xup (xup hh 105 nn (hh 102 ((4096 * (ifs - 1)) + (hh 107 nn)))) 107 (2 * nn) (xand (hh 107 nn) (hh 87 (hh 102 ((4096 * (ifs - 1)) + (hh 107 nn))))))
                      refine E_s 10 (i' := 114) (ls' := [some (.inr (.inr 66)), some (.inl ifs), some (.inl whole), some (.inl nn), some (.inl 1), some (.inl (hh 102 ((4096 * (ifs - 1)) + (hh 107 nn))))]) (sk' := [.inl nn, .inr (.inr 107), .inl ((2 * nn) + 1), .inr (.inr 107)]) (h' := (xup (xup hh 105 nn (hh 102 ((4096 * (ifs - 1)) + (hh 107 nn)))) 107 (2 * nn) (xand (hh 107 nn) (hh 87 (hh 102 ((4096 * (ifs - 1)) + (hh 107 nn))))))) rfl ?_
                      refine E_ld (x := (.iaload, 0, [], [])) (ty := .int) (n := 32) rfl rfl rfl (by omega) (by omega) ?_
                      show xEx G0 cdX12_laysTree none (xRn G0 MT d) Q b 115 [some (.inr (.inr 66)), some (.inl ifs), some (.inl whole), some (.inl nn), some (.inl 1), some (.inl (hh 102 ((4096 * (ifs - 1)) + (hh 107 nn))))] [.inl ((xup (xup hh 105 nn (hh 102 ((4096 * (ifs - 1)) + (hh 107 nn)))) 107 (2 * nn) (xand (hh 107 nn) (hh 87 (hh 102 ((4096 * (ifs - 1)) + (hh 107 nn)))))) 107 nn), .inl ((2 * nn) + 1), .inr (.inr 107)] (xup (xup hh 105 nn (hh 102 ((4096 * (ifs - 1)) + (hh 107 nn)))) 107 (2 * nn) (xand (hh 107 nn) (hh 87 (hh 102 ((4096 * (ifs - 1)) + (hh 107 nn))))))
                      refine E_s 3 (i' := 118) (ls' := [some (.inr (.inr 66)), some (.inl ifs), some (.inl whole), some (.inl nn), some (.inl 1), some (.inl (hh 102 ((4096 * (ifs - 1)) + (hh 107 nn))))]) (sk' := [.inl (hh 102 ((4096 * (ifs - 1)) + (hh 107 nn))), .inr (.inr 87), .inl ((xup (xup hh 105 nn (hh 102 ((4096 * (ifs - 1)) + (hh 107 nn)))) 107 (2 * nn) (xand (hh 107 nn) (hh 87 (hh 102 ((4096 * (ifs - 1)) + (hh 107 nn)))))) 107 nn), .inl ((2 * nn) + 1), .inr (.inr 107)]) (h' := (xup (xup hh 105 nn (hh 102 ((4096 * (ifs - 1)) + (hh 107 nn)))) 107 (2 * nn) (xand (hh 107 nn) (hh 87 (hh 102 ((4096 * (ifs - 1)) + (hh 107 nn))))))) rfl ?_
                      refine E_ld (x := (.iaload, 0, [], [])) (ty := .int) (n := 150) rfl rfl rfl (by omega) (by omega) ?_
                      show xEx G0 cdX12_laysTree none (xRn G0 MT d) Q b 119 [some (.inr (.inr 66)), some (.inl ifs), some (.inl whole), some (.inl nn), some (.inl 1), some (.inl (hh 102 ((4096 * (ifs - 1)) + (hh 107 nn))))] [.inl (hh 87 (hh 102 ((4096 * (ifs - 1)) + (hh 107 nn)))), .inl ((xup (xup hh 105 nn (hh 102 ((4096 * (ifs - 1)) + (hh 107 nn)))) 107 (2 * nn) (xand (hh 107 nn) (hh 87 (hh 102 ((4096 * (ifs - 1)) + (hh 107 nn)))))) 107 nn), .inl ((2 * nn) + 1), .inr (.inr 107)] (xup (xup hh 105 nn (hh 102 ((4096 * (ifs - 1)) + (hh 107 nn)))) 107 (2 * nn) (xand (hh 107 nn) (hh 87 (hh 102 ((4096 * (ifs - 1)) + (hh 107 nn))))))
                      refine E_s 3 (i' := 122) (ls' := [some (.inr (.inr 66)), some (.inl ifs), some (.inl whole), some (.inl nn), some (.inl 1), some (.inl (hh 102 ((4096 * (ifs - 1)) + (hh 107 nn))))]) (sk' := [.inl (xand ((xup (xup hh 105 nn (hh 102 ((4096 * (ifs - 1)) + (hh 107 nn)))) 107 (2 * nn) (xand (hh 107 nn) (hh 87 (hh 102 ((4096 * (ifs - 1)) + (hh 107 nn)))))) 107 nn) (xxor (hh 87 (hh 102 ((4096 * (ifs - 1)) + (hh 107 nn)))) (-1))), .inl ((2 * nn) + 1), .inr (.inr 107)]) (h' := (xup (xup hh 105 nn (hh 102 ((4096 * (ifs - 1)) + (hh 107 nn)))) 107 (2 * nn) (xand (hh 107 nn) (hh 87 (hh 102 ((4096 * (ifs - 1)) + (hh 107 nn))))))) rfl ?_
                      refine E_sd (x := (.iastore, 0, [], [])) (ty := .int) (n := 32) (y := (xand ((xup (xup hh 105 nn (hh 102 ((4096 * (ifs - 1)) + (hh 107 nn)))) 107 (2 * nn) (xand (hh 107 nn) (hh 87 (hh 102 ((4096 * (ifs - 1)) + (hh 107 nn)))))) 107 nn) (xxor (hh 87 (hh 102 ((4096 * (ifs - 1)) + (hh 107 nn)))) (-1)))) rfl rfl rfl (by omega) (by omega) (trivial) ?_
                      show xEx G0 cdX12_laysTree none (xRn G0 MT d) Q b 123 [some (.inr (.inr 66)), some (.inl ifs), some (.inl whole), some (.inl nn), some (.inl 1), some (.inl (hh 102 ((4096 * (ifs - 1)) + (hh 107 nn))))] [] (xup (xup (xup hh 105 nn (hh 102 ((4096 * (ifs - 1)) + (hh 107 nn)))) 107 (2 * nn) (xand (hh 107 nn) (hh 87 (hh 102 ((4096 * (ifs - 1)) + (hh 107 nn)))))) 107 ((2 * nn) + 1) (xand ((xup (xup hh 105 nn (hh 102 ((4096 * (ifs - 1)) + (hh 107 nn)))) 107 (2 * nn) (xand (hh 107 nn) (hh 87 (hh 102 ((4096 * (ifs - 1)) + (hh 107 nn)))))) 107 nn) (xxor (hh 87 (hh 102 ((4096 * (ifs - 1)) + (hh 107 nn)))) (-1))))
                      refine E_s 2 (i' := 29) (ls' := [some (.inr (.inr 66)), some (.inl ifs), some (.inl whole), some (.inl (nn + 1)), some (.inl 1), some (.inl (hh 102 ((4096 * (ifs - 1)) + (hh 107 nn))))]) (sk' := []) (h' := (xup (xup (xup hh 105 nn (hh 102 ((4096 * (ifs - 1)) + (hh 107 nn)))) 107 (2 * nn) (xand (hh 107 nn) (hh 87 (hh 102 ((4096 * (ifs - 1)) + (hh 107 nn)))))) 107 ((2 * nn) + 1) (xand ((xup (xup hh 105 nn (hh 102 ((4096 * (ifs - 1)) + (hh 107 nn)))) 107 (2 * nn) (xand (hh 107 nn) (hh 87 (hh 102 ((4096 * (ifs - 1)) + (hh 107 nn)))))) 107 nn) (xxor (hh 87 (hh 102 ((4096 * (ifs - 1)) + (hh 107 nn)))) (-1))))) rfl ?_
                      exact ih29 _ (nn + 1) _ _ (by omega) (by omega) (fun a z1 z2 z3 => by rw [xup_o _ _ _ _ a z3, xup_o _ _ _ _ a z3, xup_o _ _ _ _ a z1]; exact hf a z1 z2 z3) (fun q y1 y2 => by
                        rcases Int.lt_or_eq_of_le (show q ≤ nn by omega) with y3 | y3
                        · refine LT_fr ?_ rfl ?_ ?_ ?_ (hi1 q y1 y3)
                          · rw [xup_o _ _ _ _ _ (by decide), xup_o _ _ _ _ _ (by decide), xup_j (by omega)]
                          · rw [xup_j (by omega), xup_j (by omega)]; rfl
                          · rw [xup_j (by omega), xup_j (by omega)]; rfl
                          · rw [xup_j (by omega), xup_j (by omega)]; rfl
                        · rw [y3]
                          have k0 : (xup (xup (xup hh 105 nn (hh 102 ((4096 * (ifs - 1)) + (hh 107 nn)))) 107 (2 * nn) (xand (hh 107 nn) (hh 87 (hh 102 ((4096 * (ifs - 1)) + (hh 107 nn)))))) 107 ((2 * nn) + 1) (xand ((xup (xup hh 105 nn (hh 102 ((4096 * (ifs - 1)) + (hh 107 nn)))) 107 (2 * nn) (xand (hh 107 nn) (hh 87 (hh 102 ((4096 * (ifs - 1)) + (hh 107 nn)))))) 107 nn) (xxor (hh 87 (hh 102 ((4096 * (ifs - 1)) + (hh 107 nn)))) (-1)))) 107 nn = hh 107 nn := by rw [xup_j (by omega), xup_j (by omega)]; rfl
                          unfold LT
                          rw [k0]
                          refine Or.inr (Or.inr ⟨cn, tn, ?_, ?_, ?_, ?_⟩)
                          · rw [xup_o _ _ _ _ _ (by decide), xup_o _ _ _ _ _ (by decide), xup_s]; exact et
                          · exact (hi2 nn (by omega) (by omega) (Or.inr (Int.le_refl _))).2
                          · rw [xup_j (by omega), xup_s]; exact v1
                          · rw [xup_s]; exact v2) (fun q y1 y2 y3 => by
                        obtain ⟨x1, x2⟩ := hi2 q y1 y2 (by omega)
                        refine ⟨?_, x2⟩
                        rw [xup_o _ _ _ _ _ (by decide), xup_o _ _ _ _ _ (by decide), xup_j (by omega)]
                        exact x1) (fun q y1 y2 y3 => by
                        rw [xup_j (by omega), xup_j (by omega)]
                        exact hi3 q y1 y2 (by omega)) (fun q y1 y2 y3 => by
                        by_cases e1 : q = 2 * nn + 1
                        · rw [e1, xup_s, v2]
                          rw [e1] at y2
                          refine ⟨w2, w4, ?_⟩
                          rw [(dpq_k hn0 (by omega)).2]; omega
                        · rw [xup_j e1] at y3 ⊢
                          by_cases e2 : q = 2 * nn
                          · rw [e2, xup_s, v1]
                            refine ⟨w1, w3, ?_⟩
                            rw [(dpq_k hn0 (by omega)).1]; omega
                          · rw [xup_j e2] at y3 ⊢
                            exact hi4 q y1 y2 y3) (by rw [xup_j (by omega), xup_j (by omega)]; exact hi5) (by omega)
                    · rw [c_ne (by first | (rw [et]; exact ⟨by omega, by omega⟩) | exact ⟨by omega, by omega⟩) (by first | (rw [et]; exact ⟨by omega, by omega⟩) | exact ⟨by omega, by omega⟩)] at c71
                      simp only [decide_eq_true_eq, decide_eq_false_iff_not, Decidable.not_not] at c71
                      show xEx G0 cdX12_laysTree none (xRn G0 MT d) Q b 72 [some (.inr (.inr 66)), some (.inl ifs), some (.inl whole), some (.inl nn), some (.inl 1), some (.inl (hh 102 ((4096 * (ifs - 1)) + (hh 107 nn))))] [] hh
                      have tm : bti S T (S 0 0) (T 0 0) p (ifs - dpq nn).toNat (hh 107 nn) = -1 := by rw [← et]; exact c71
                      have el : hh 100 (hh 107 nn) = lf S (S 0 0) p (hh 107 nn) := by
                        rw [hf _ (by decide) (by decide) (by decide)]
                        exact hlf _ ic cn sc
                      clear bs
                      refine E_s 8 (i' := 80) (ls' := [some (.inr (.inr 66)), some (.inl ifs), some (.inl whole), some (.inl nn), some (.inl 1), some (.inl (hh 102 ((4096 * (ifs - 1)) + (hh 107 nn))))]) (sk' := [.inl nn, .inr (.inr 107), .inr (.inr 100), .inl nn, .inr (.inr 106)]) (h' := hh) rfl ?_
                      refine E_ld (x := (.iaload, 0, [], [])) (ty := .int) (n := 32) rfl rfl rfl (by omega) (by omega) ?_
                      show xEx G0 cdX12_laysTree none (xRn G0 MT d) Q b 81 [some (.inr (.inr 66)), some (.inl ifs), some (.inl whole), some (.inl nn), some (.inl 1), some (.inl (hh 102 ((4096 * (ifs - 1)) + (hh 107 nn))))] [.inl (hh 107 nn), .inr (.inr 100), .inl nn, .inr (.inr 106)] hh
                      refine E_ld (x := (.iaload, 0, [], [])) (ty := .int) (n := 4096) rfl rfl rfl (by omega) (by omega) ?_
                      show xEx G0 cdX12_laysTree none (xRn G0 MT d) Q b 82 [some (.inr (.inr 66)), some (.inl ifs), some (.inl whole), some (.inl nn), some (.inl 1), some (.inl (hh 102 ((4096 * (ifs - 1)) + (hh 107 nn))))] [.inl (hh 100 (hh 107 nn)), .inl nn, .inr (.inr 106)] hh
                      refine E_sd (x := (.iastore, 0, [], [])) (ty := .int) (n := 32) (y := (hh 100 (hh 107 nn))) rfl rfl rfl (by omega) (by omega) (trivial) ?_
                      show xEx G0 cdX12_laysTree none (xRn G0 MT d) Q b 83 [some (.inr (.inr 66)), some (.inl ifs), some (.inl whole), some (.inl nn), some (.inl 1), some (.inl (hh 102 ((4096 * (ifs - 1)) + (hh 107 nn))))] [] (xup hh 106 nn (hh 100 (hh 107 nn)))
                      refine E_s 3 (i' := 29) (ls' := [some (.inr (.inr 66)), some (.inl ifs), some (.inl whole), some (.inl (nn + 1)), some (.inl 1), some (.inl (hh 102 ((4096 * (ifs - 1)) + (hh 107 nn))))]) (sk' := []) (h' := (xup hh 106 nn (hh 100 (hh 107 nn)))) rfl ?_
                      exact ih29 _ (nn + 1) _ _ (by omega) (by omega) (fun a z1 z2 z3 => by rw [xup_o _ _ _ _ a z2]; exact hf a z1 z2 z3) (fun q y1 y2 => by
                        rcases Int.lt_or_eq_of_le (show q ≤ nn by omega) with y3 | y3
                        · exact LT_fr rfl (xup_j (by omega)) rfl rfl rfl (hi1 q y1 y3)
                        · rw [y3]
                          refine Or.inr (Or.inl ⟨cn, tm, ?_, ?_, ?_, ?_⟩)
                          · exact (hi2 nn (by omega) (by omega) (Or.inr (Int.le_refl _))).1
                          · rw [xup_s]; exact el
                          · exact hi3 _ (by omega) (by omega) (Int.le_refl _)
                          · exact hi3 _ (by omega) (by omega) (by omega)) (fun q y1 y2 y3 => by
                        obtain ⟨x1, x2⟩ := hi2 q y1 y2 (by omega)
                        exact ⟨x1, by rw [xup_j (by omega)]; exact x2⟩) (fun q y1 y2 y3 => hi3 q y1 y2 (by omega)) hi4 hi5 (by omega)
                · rw [c_ge (by first | assumption | (refine ⟨?_, ?_⟩ <;> omega) | (simp only [xr] at *; omega)) (by first | assumption | (refine ⟨?_, ?_⟩ <;> omega) | (simp only [xr] at *; omega))] at c40
                  simp only [decide_eq_true_eq, decide_eq_false_iff_not, Decidable.not_not] at c40
                  show xEx G0 cdX12_laysTree none (xRn G0 MT d) Q b 41 [some (.inr (.inr 66)), some (.inl ifs), some (.inl whole), some (.inl nn), v4, v5] [] hh
                  refine E_s 3 (i' := 55) (ls' := [some (.inr (.inr 66)), some (.inl ifs), some (.inl whole), some (.inl nn), some (.inl 0), v5]) (sk' := []) (h' := hh) rfl ?_
                  have cn : hh 107 nn ≠ 0 := c36
                  obtain ⟨ic, sc, dc⟩ := hi4 nn hn0 (by omega) cn
                  have ed : dpq nn = 0 := by unfold dpq; rw [if_pos (by omega)]
                  have r4 := ir4 o.1 ic
                  have et : hh 102 (4096 * (ifs - 0) + hh 107 nn) = bti S T (S 0 0) (T 0 0) p (ifs - dpq nn).toNat (hh 107 nn) := by
                    rw [hf _ (by decide) (by decide) (by decide), ed]
                    exact (hls (ifs - 0) (by omega) _ ic cn sc (by omega)).2
                  have bs := bti_spec (S := S) (T := T) (KE := S 0 0) (KT := T 0 0) (p := p) o.2.2.1.1 (ifs - dpq nn).toNat (hh 107 nn)
                  obtain ⟨br0, br1⟩ : -1 ≤ bti S T (S 0 0) (T 0 0) p (ifs - dpq nn).toNat (hh 107 nn) ∧ bti S T (S 0 0) (T 0 0) p (ifs - dpq nn).toNat (hh 107 nn) < T 0 0 := by
                    have := o.2.2.1
                    rcases bs with ⟨-, z9⟩ | ⟨-, j, -, b1, b2, -⟩
                    · rw [z9]; omega
                    · omega
                  have ot := o.2.2.1
                  refine E_s 10 (i' := 65) (ls' := [some (.inr (.inr 66)), some (.inl ifs), some (.inl whole), some (.inl nn), some (.inl 0), v5]) (sk' := [.inl nn, .inr (.inr 107), .inl (4096 * (ifs - 0)), .inr (.inr 102)]) (h' := hh) rfl ?_
                  refine E_ld (x := (.iaload, 0, [], [])) (ty := .int) (n := 32) rfl rfl rfl (by omega) (by omega) ?_
                  show xEx G0 cdX12_laysTree none (xRn G0 MT d) Q b 66 [some (.inr (.inr 66)), some (.inl ifs), some (.inl whole), some (.inl nn), some (.inl 0), v5] [.inl (hh 107 nn), .inl (4096 * (ifs - 0)), .inr (.inr 102)] hh
                  refine E_s 1 (i' := 67) (ls' := [some (.inr (.inr 66)), some (.inl ifs), some (.inl whole), some (.inl nn), some (.inl 0), v5]) (sk' := [.inl ((4096 * (ifs - 0)) + (hh 107 nn)), .inr (.inr 102)]) (h' := hh) rfl ?_
                  refine E_ld (x := (.iaload, 0, [], [])) (ty := .int) (n := 16384) rfl rfl rfl (by omega) (by omega) ?_
                  show xEx G0 cdX12_laysTree none (xRn G0 MT d) Q b 68 [some (.inr (.inr 66)), some (.inl ifs), some (.inl whole), some (.inl nn), some (.inl 0), v5] [.inl (hh 102 ((4096 * (ifs - 0)) + (hh 107 nn)))] hh
                  refine E_s 3 (i' := 71) (ls' := [some (.inr (.inr 66)), some (.inl ifs), some (.inl whole), some (.inl nn), some (.inl 0), some (.inl (hh 102 ((4096 * (ifs - 0)) + (hh 107 nn))))]) (sk' := [.inl (-1), .inl (hh 102 ((4096 * (ifs - 0)) + (hh 107 nn)))]) (h' := hh) rfl ?_
                  refine E_b (x := (.if_icmp .ne 23, 84, [], [])) rfl rfl (fun c71 => ?_) (fun c71 => ?_)
                  · rw [c_ne (by first | (rw [et]; exact ⟨by omega, by omega⟩) | exact ⟨by omega, by omega⟩) (by first | (rw [et]; exact ⟨by omega, by omega⟩) | exact ⟨by omega, by omega⟩)] at c71
                    simp only [decide_eq_true_eq, decide_eq_false_iff_not, Decidable.not_not] at c71
                    show xEx G0 cdX12_laysTree none (xRn G0 MT d) Q b 84 [some (.inr (.inr 66)), some (.inl ifs), some (.inl whole), some (.inl nn), some (.inl 0), some (.inl (hh 102 ((4096 * (ifs - 0)) + (hh 107 nn))))] [] hh
                    have tn : bti S T (S 0 0) (T 0 0) p (ifs - dpq nn).toNat (hh 107 nn) ≠ -1 := by rw [← et]; exact c71
                    obtain ⟨b0, b1, bi⟩ : 0 ≤ bti S T (S 0 0) (T 0 0) p (ifs - dpq nn).toNat (hh 107 nn) ∧ bti S T (S 0 0) (T 0 0) p (ifs - dpq nn).toNat (hh 107 nn) < T 0 0 ∧ 1 ≤ ifs - dpq nn := by
                      rcases bs with ⟨-, z9⟩ | ⟨-, j, e9, y1, y2, -⟩
                      · exact absurd z9 tn
                      · exact ⟨y1, y2, by omega⟩
                    clear bs
                    have o6 : hh 87 (hh 102 (4096 * (ifs - 0) + hh 107 nn)) = T 6 (bti S T (S 0 0) (T 0 0) p (ifs - dpq nn).toNat (hh 107 nn)) := by
                      rw [et, hf _ (by decide) (by decide) (by decide)]
                      exact (hA.2.2.2 _ b0 b1).2
                    have i6 := (o.2.2.2.2 _ b0 b1).2.1
                    have v1 : xand (hh 107 nn) (hh 87 (hh 102 (4096 * (ifs - 0) + hh 107 nn))) = xand (hh 107 nn) (T 6 (bti S T (S 0 0) (T 0 0) p (ifs - dpq nn).toNat (hh 107 nn))) := by rw [o6]
                    have v2 : xand ((xup (xup hh 105 nn (hh 102 (4096 * (ifs - 0) + hh 107 nn))) 107 (2 * nn) (xand (hh 107 nn) (hh 87 (hh 102 (4096 * (ifs - 0) + hh 107 nn))))) 107 nn) (xxor (hh 87 (hh 102 (4096 * (ifs - 0) + hh 107 nn))) (-1)) = xand (hh 107 nn) (xxor (T 6 (bti S T (S 0 0) (T 0 0) p (ifs - dpq nn).toNat (hh 107 nn))) (-1)) := by rw [o6, xup_j (by omega)]; rfl
                    have w1 := xa_r o.1 ic i6
                    have w2 := xn_r o.1 ic i6
                    have w3 : sub (xand (hh 107 nn) (T 6 (bti S T (S 0 0) (T 0 0) p (ifs - dpq nn).toNat (hh 107 nn)))) whole := sub_tr o.1 w1 ic hw (sub_an o.1 ic i6) sc
                    have w4 : sub (xand (hh 107 nn) (xxor (T 6 (bti S T (S 0 0) (T 0 0) p (ifs - dpq nn).toNat (hh 107 nn))) (-1))) whole := by
                      have e9 := els_n o.1 ic i6
                      have y9 := sub_tr o.1 (xx_r o.1 ic w1) ic hw (sub_el o.1 ic i6) sc
                      rw [e9] at y9
                      exact y9
                    have rt : 0 ≤ hh 102 (4096 * (ifs - 0) + hh 107 nn) ∧ hh 102 (4096 * (ifs - 0) + hh 107 nn) < 150 := by rw [et]; omega
                    refine E_s 4 (i' := 88) (ls' := [some (.inr (.inr 66)), some (.inl ifs), some (.inl whole), some (.inl nn), some (.inl 0), some (.inl (hh 102 ((4096 * (ifs - 0)) + (hh 107 nn))))]) (sk' := [.inl (hh 102 ((4096 * (ifs - 0)) + (hh 107 nn))), .inl nn, .inr (.inr 105)]) (h' := hh) rfl ?_
                    refine E_sd (x := (.iastore, 0, [], [])) (ty := .int) (n := 32) (y := (hh 102 ((4096 * (ifs - 0)) + (hh 107 nn)))) rfl rfl rfl (by omega) (by omega) (trivial) ?_
                    show xEx G0 cdX12_laysTree none (xRn G0 MT d) Q b 89 [some (.inr (.inr 66)), some (.inl ifs), some (.inl whole), some (.inl nn), some (.inl 0), some (.inl (hh 102 ((4096 * (ifs - 0)) + (hh 107 nn))))] [] (xup hh 105 nn (hh 102 ((4096 * (ifs - 0)) + (hh 107 nn))))
                    refine E_s 8 (i' := 97) (ls' := [some (.inr (.inr 66)), some (.inl ifs), some (.inl whole), some (.inl nn), some (.inl 0), some (.inl (hh 102 ((4096 * (ifs - 0)) + (hh 107 nn))))]) (sk' := [.inl nn, .inr (.inr 107), .inl (2 * nn), .inr (.inr 107)]) (h' := (xup hh 105 nn (hh 102 ((4096 * (ifs - 0)) + (hh 107 nn))))) rfl ?_
                    refine E_ld (x := (.iaload, 0, [], [])) (ty := .int) (n := 32) rfl rfl rfl (by omega) (by omega) ?_
                    show xEx G0 cdX12_laysTree none (xRn G0 MT d) Q b 98 [some (.inr (.inr 66)), some (.inl ifs), some (.inl whole), some (.inl nn), some (.inl 0), some (.inl (hh 102 ((4096 * (ifs - 0)) + (hh 107 nn))))] [.inl (hh 107 nn), .inl (2 * nn), .inr (.inr 107)] (xup hh 105 nn (hh 102 ((4096 * (ifs - 0)) + (hh 107 nn))))
                    refine E_s 3 (i' := 101) (ls' := [some (.inr (.inr 66)), some (.inl ifs), some (.inl whole), some (.inl nn), some (.inl 0), some (.inl (hh 102 ((4096 * (ifs - 0)) + (hh 107 nn))))]) (sk' := [.inl (hh 102 ((4096 * (ifs - 0)) + (hh 107 nn))), .inr (.inr 87), .inl (hh 107 nn), .inl (2 * nn), .inr (.inr 107)]) (h' := (xup hh 105 nn (hh 102 ((4096 * (ifs - 0)) + (hh 107 nn))))) rfl ?_
                    refine E_ld (x := (.iaload, 0, [], [])) (ty := .int) (n := 150) rfl rfl rfl (by omega) (by omega) ?_
                    show xEx G0 cdX12_laysTree none (xRn G0 MT d) Q b 102 [some (.inr (.inr 66)), some (.inl ifs), some (.inl whole), some (.inl nn), some (.inl 0), some (.inl (hh 102 ((4096 * (ifs - 0)) + (hh 107 nn))))] [.inl (hh 87 (hh 102 ((4096 * (ifs - 0)) + (hh 107 nn)))), .inl (hh 107 nn), .inl (2 * nn), .inr (.inr 107)] (xup hh 105 nn (hh 102 ((4096 * (ifs - 0)) + (hh 107 nn))))
                    refine E_s 1 (i' := 103) (ls' := [some (.inr (.inr 66)), some (.inl ifs), some (.inl whole), some (.inl nn), some (.inl 0), some (.inl (hh 102 ((4096 * (ifs - 0)) + (hh 107 nn))))]) (sk' := [.inl (xand (hh 107 nn) (hh 87 (hh 102 ((4096 * (ifs - 0)) + (hh 107 nn))))), .inl (2 * nn), .inr (.inr 107)]) (h' := (xup hh 105 nn (hh 102 ((4096 * (ifs - 0)) + (hh 107 nn))))) rfl ?_
                    refine E_sd (x := (.iastore, 0, [], [])) (ty := .int) (n := 32) (y := (xand (hh 107 nn) (hh 87 (hh 102 ((4096 * (ifs - 0)) + (hh 107 nn)))))) rfl rfl rfl (by omega) (by omega) (trivial) ?_
                    show xEx G0 cdX12_laysTree none (xRn G0 MT d) Q b 104 [some (.inr (.inr 66)), some (.inl ifs), some (.inl whole), some (.inl nn), some (.inl 0), some (.inl (hh 102 ((4096 * (ifs - 0)) + (hh 107 nn))))] [] (xup (xup hh 105 nn (hh 102 ((4096 * (ifs - 0)) + (hh 107 nn)))) 107 (2 * nn) (xand (hh 107 nn) (hh 87 (hh 102 ((4096 * (ifs - 0)) + (hh 107 nn))))))
                    refine E_s 10 (i' := 114) (ls' := [some (.inr (.inr 66)), some (.inl ifs), some (.inl whole), some (.inl nn), some (.inl 0), some (.inl (hh 102 ((4096 * (ifs - 0)) + (hh 107 nn))))]) (sk' := [.inl nn, .inr (.inr 107), .inl ((2 * nn) + 1), .inr (.inr 107)]) (h' := (xup (xup hh 105 nn (hh 102 ((4096 * (ifs - 0)) + (hh 107 nn)))) 107 (2 * nn) (xand (hh 107 nn) (hh 87 (hh 102 ((4096 * (ifs - 0)) + (hh 107 nn))))))) rfl ?_
                    refine E_ld (x := (.iaload, 0, [], [])) (ty := .int) (n := 32) rfl rfl rfl (by omega) (by omega) ?_
                    show xEx G0 cdX12_laysTree none (xRn G0 MT d) Q b 115 [some (.inr (.inr 66)), some (.inl ifs), some (.inl whole), some (.inl nn), some (.inl 0), some (.inl (hh 102 ((4096 * (ifs - 0)) + (hh 107 nn))))] [.inl ((xup (xup hh 105 nn (hh 102 ((4096 * (ifs - 0)) + (hh 107 nn)))) 107 (2 * nn) (xand (hh 107 nn) (hh 87 (hh 102 ((4096 * (ifs - 0)) + (hh 107 nn)))))) 107 nn), .inl ((2 * nn) + 1), .inr (.inr 107)] (xup (xup hh 105 nn (hh 102 ((4096 * (ifs - 0)) + (hh 107 nn)))) 107 (2 * nn) (xand (hh 107 nn) (hh 87 (hh 102 ((4096 * (ifs - 0)) + (hh 107 nn))))))
                    refine E_s 3 (i' := 118) (ls' := [some (.inr (.inr 66)), some (.inl ifs), some (.inl whole), some (.inl nn), some (.inl 0), some (.inl (hh 102 ((4096 * (ifs - 0)) + (hh 107 nn))))]) (sk' := [.inl (hh 102 ((4096 * (ifs - 0)) + (hh 107 nn))), .inr (.inr 87), .inl ((xup (xup hh 105 nn (hh 102 ((4096 * (ifs - 0)) + (hh 107 nn)))) 107 (2 * nn) (xand (hh 107 nn) (hh 87 (hh 102 ((4096 * (ifs - 0)) + (hh 107 nn)))))) 107 nn), .inl ((2 * nn) + 1), .inr (.inr 107)]) (h' := (xup (xup hh 105 nn (hh 102 ((4096 * (ifs - 0)) + (hh 107 nn)))) 107 (2 * nn) (xand (hh 107 nn) (hh 87 (hh 102 ((4096 * (ifs - 0)) + (hh 107 nn))))))) rfl ?_
                    refine E_ld (x := (.iaload, 0, [], [])) (ty := .int) (n := 150) rfl rfl rfl (by omega) (by omega) ?_
                    show xEx G0 cdX12_laysTree none (xRn G0 MT d) Q b 119 [some (.inr (.inr 66)), some (.inl ifs), some (.inl whole), some (.inl nn), some (.inl 0), some (.inl (hh 102 ((4096 * (ifs - 0)) + (hh 107 nn))))] [.inl (hh 87 (hh 102 ((4096 * (ifs - 0)) + (hh 107 nn)))), .inl ((xup (xup hh 105 nn (hh 102 ((4096 * (ifs - 0)) + (hh 107 nn)))) 107 (2 * nn) (xand (hh 107 nn) (hh 87 (hh 102 ((4096 * (ifs - 0)) + (hh 107 nn)))))) 107 nn), .inl ((2 * nn) + 1), .inr (.inr 107)] (xup (xup hh 105 nn (hh 102 ((4096 * (ifs - 0)) + (hh 107 nn)))) 107 (2 * nn) (xand (hh 107 nn) (hh 87 (hh 102 ((4096 * (ifs - 0)) + (hh 107 nn))))))
                    refine E_s 3 (i' := 122) (ls' := [some (.inr (.inr 66)), some (.inl ifs), some (.inl whole), some (.inl nn), some (.inl 0), some (.inl (hh 102 ((4096 * (ifs - 0)) + (hh 107 nn))))]) (sk' := [.inl (xand ((xup (xup hh 105 nn (hh 102 ((4096 * (ifs - 0)) + (hh 107 nn)))) 107 (2 * nn) (xand (hh 107 nn) (hh 87 (hh 102 ((4096 * (ifs - 0)) + (hh 107 nn)))))) 107 nn) (xxor (hh 87 (hh 102 ((4096 * (ifs - 0)) + (hh 107 nn)))) (-1))), .inl ((2 * nn) + 1), .inr (.inr 107)]) (h' := (xup (xup hh 105 nn (hh 102 ((4096 * (ifs - 0)) + (hh 107 nn)))) 107 (2 * nn) (xand (hh 107 nn) (hh 87 (hh 102 ((4096 * (ifs - 0)) + (hh 107 nn))))))) rfl ?_
                    refine E_sd (x := (.iastore, 0, [], [])) (ty := .int) (n := 32) (y := (xand ((xup (xup hh 105 nn (hh 102 ((4096 * (ifs - 0)) + (hh 107 nn)))) 107 (2 * nn) (xand (hh 107 nn) (hh 87 (hh 102 ((4096 * (ifs - 0)) + (hh 107 nn)))))) 107 nn) (xxor (hh 87 (hh 102 ((4096 * (ifs - 0)) + (hh 107 nn)))) (-1)))) rfl rfl rfl (by omega) (by omega) (trivial) ?_
                    show xEx G0 cdX12_laysTree none (xRn G0 MT d) Q b 123 [some (.inr (.inr 66)), some (.inl ifs), some (.inl whole), some (.inl nn), some (.inl 0), some (.inl (hh 102 ((4096 * (ifs - 0)) + (hh 107 nn))))] [] (xup (xup (xup hh 105 nn (hh 102 ((4096 * (ifs - 0)) + (hh 107 nn)))) 107 (2 * nn) (xand (hh 107 nn) (hh 87 (hh 102 ((4096 * (ifs - 0)) + (hh 107 nn)))))) 107 ((2 * nn) + 1) (xand ((xup (xup hh 105 nn (hh 102 ((4096 * (ifs - 0)) + (hh 107 nn)))) 107 (2 * nn) (xand (hh 107 nn) (hh 87 (hh 102 ((4096 * (ifs - 0)) + (hh 107 nn)))))) 107 nn) (xxor (hh 87 (hh 102 ((4096 * (ifs - 0)) + (hh 107 nn)))) (-1))))
                    refine E_s 2 (i' := 29) (ls' := [some (.inr (.inr 66)), some (.inl ifs), some (.inl whole), some (.inl (nn + 1)), some (.inl 0), some (.inl (hh 102 ((4096 * (ifs - 0)) + (hh 107 nn))))]) (sk' := []) (h' := (xup (xup (xup hh 105 nn (hh 102 ((4096 * (ifs - 0)) + (hh 107 nn)))) 107 (2 * nn) (xand (hh 107 nn) (hh 87 (hh 102 ((4096 * (ifs - 0)) + (hh 107 nn)))))) 107 ((2 * nn) + 1) (xand ((xup (xup hh 105 nn (hh 102 ((4096 * (ifs - 0)) + (hh 107 nn)))) 107 (2 * nn) (xand (hh 107 nn) (hh 87 (hh 102 ((4096 * (ifs - 0)) + (hh 107 nn)))))) 107 nn) (xxor (hh 87 (hh 102 ((4096 * (ifs - 0)) + (hh 107 nn)))) (-1))))) rfl ?_
                    exact ih29 _ (nn + 1) _ _ (by omega) (by omega) (fun a z1 z2 z3 => by rw [xup_o _ _ _ _ a z3, xup_o _ _ _ _ a z3, xup_o _ _ _ _ a z1]; exact hf a z1 z2 z3) (fun q y1 y2 => by
                      rcases Int.lt_or_eq_of_le (show q ≤ nn by omega) with y3 | y3
                      · refine LT_fr ?_ rfl ?_ ?_ ?_ (hi1 q y1 y3)
                        · rw [xup_o _ _ _ _ _ (by decide), xup_o _ _ _ _ _ (by decide), xup_j (by omega)]
                        · rw [xup_j (by omega), xup_j (by omega)]; rfl
                        · rw [xup_j (by omega), xup_j (by omega)]; rfl
                        · rw [xup_j (by omega), xup_j (by omega)]; rfl
                      · rw [y3]
                        have k0 : (xup (xup (xup hh 105 nn (hh 102 ((4096 * (ifs - 0)) + (hh 107 nn)))) 107 (2 * nn) (xand (hh 107 nn) (hh 87 (hh 102 ((4096 * (ifs - 0)) + (hh 107 nn)))))) 107 ((2 * nn) + 1) (xand ((xup (xup hh 105 nn (hh 102 ((4096 * (ifs - 0)) + (hh 107 nn)))) 107 (2 * nn) (xand (hh 107 nn) (hh 87 (hh 102 ((4096 * (ifs - 0)) + (hh 107 nn)))))) 107 nn) (xxor (hh 87 (hh 102 ((4096 * (ifs - 0)) + (hh 107 nn)))) (-1)))) 107 nn = hh 107 nn := by rw [xup_j (by omega), xup_j (by omega)]; rfl
                        unfold LT
                        rw [k0]
                        refine Or.inr (Or.inr ⟨cn, tn, ?_, ?_, ?_, ?_⟩)
                        · rw [xup_o _ _ _ _ _ (by decide), xup_o _ _ _ _ _ (by decide), xup_s]; exact et
                        · exact (hi2 nn (by omega) (by omega) (Or.inr (Int.le_refl _))).2
                        · rw [xup_j (by omega), xup_s]; exact v1
                        · rw [xup_s]; exact v2) (fun q y1 y2 y3 => by
                      obtain ⟨x1, x2⟩ := hi2 q y1 y2 (by omega)
                      refine ⟨?_, x2⟩
                      rw [xup_o _ _ _ _ _ (by decide), xup_o _ _ _ _ _ (by decide), xup_j (by omega)]
                      exact x1) (fun q y1 y2 y3 => by
                      rw [xup_j (by omega), xup_j (by omega)]
                      exact hi3 q y1 y2 (by omega)) (fun q y1 y2 y3 => by
                      by_cases e1 : q = 2 * nn + 1
                      · rw [e1, xup_s, v2]
                        rw [e1] at y2
                        refine ⟨w2, w4, ?_⟩
                        rw [(dpq_k hn0 (by omega)).2]; omega
                      · rw [xup_j e1] at y3 ⊢
                        by_cases e2 : q = 2 * nn
                        · rw [e2, xup_s, v1]
                          refine ⟨w1, w3, ?_⟩
                          rw [(dpq_k hn0 (by omega)).1]; omega
                        · rw [xup_j e2] at y3 ⊢
                          exact hi4 q y1 y2 y3) (by rw [xup_j (by omega), xup_j (by omega)]; exact hi5) (by omega)
                  · rw [c_ne (by first | (rw [et]; exact ⟨by omega, by omega⟩) | exact ⟨by omega, by omega⟩) (by first | (rw [et]; exact ⟨by omega, by omega⟩) | exact ⟨by omega, by omega⟩)] at c71
                    simp only [decide_eq_true_eq, decide_eq_false_iff_not, Decidable.not_not] at c71
                    show xEx G0 cdX12_laysTree none (xRn G0 MT d) Q b 72 [some (.inr (.inr 66)), some (.inl ifs), some (.inl whole), some (.inl nn), some (.inl 0), some (.inl (hh 102 ((4096 * (ifs - 0)) + (hh 107 nn))))] [] hh
                    have tm : bti S T (S 0 0) (T 0 0) p (ifs - dpq nn).toNat (hh 107 nn) = -1 := by rw [← et]; exact c71
                    have el : hh 100 (hh 107 nn) = lf S (S 0 0) p (hh 107 nn) := by
                      rw [hf _ (by decide) (by decide) (by decide)]
                      exact hlf _ ic cn sc
                    clear bs
                    refine E_s 8 (i' := 80) (ls' := [some (.inr (.inr 66)), some (.inl ifs), some (.inl whole), some (.inl nn), some (.inl 0), some (.inl (hh 102 ((4096 * (ifs - 0)) + (hh 107 nn))))]) (sk' := [.inl nn, .inr (.inr 107), .inr (.inr 100), .inl nn, .inr (.inr 106)]) (h' := hh) rfl ?_
                    refine E_ld (x := (.iaload, 0, [], [])) (ty := .int) (n := 32) rfl rfl rfl (by omega) (by omega) ?_
                    show xEx G0 cdX12_laysTree none (xRn G0 MT d) Q b 81 [some (.inr (.inr 66)), some (.inl ifs), some (.inl whole), some (.inl nn), some (.inl 0), some (.inl (hh 102 ((4096 * (ifs - 0)) + (hh 107 nn))))] [.inl (hh 107 nn), .inr (.inr 100), .inl nn, .inr (.inr 106)] hh
                    refine E_ld (x := (.iaload, 0, [], [])) (ty := .int) (n := 4096) rfl rfl rfl (by omega) (by omega) ?_
                    show xEx G0 cdX12_laysTree none (xRn G0 MT d) Q b 82 [some (.inr (.inr 66)), some (.inl ifs), some (.inl whole), some (.inl nn), some (.inl 0), some (.inl (hh 102 ((4096 * (ifs - 0)) + (hh 107 nn))))] [.inl (hh 100 (hh 107 nn)), .inl nn, .inr (.inr 106)] hh
                    refine E_sd (x := (.iastore, 0, [], [])) (ty := .int) (n := 32) (y := (hh 100 (hh 107 nn))) rfl rfl rfl (by omega) (by omega) (trivial) ?_
                    show xEx G0 cdX12_laysTree none (xRn G0 MT d) Q b 83 [some (.inr (.inr 66)), some (.inl ifs), some (.inl whole), some (.inl nn), some (.inl 0), some (.inl (hh 102 ((4096 * (ifs - 0)) + (hh 107 nn))))] [] (xup hh 106 nn (hh 100 (hh 107 nn)))
                    refine E_s 3 (i' := 29) (ls' := [some (.inr (.inr 66)), some (.inl ifs), some (.inl whole), some (.inl (nn + 1)), some (.inl 0), some (.inl (hh 102 ((4096 * (ifs - 0)) + (hh 107 nn))))]) (sk' := []) (h' := (xup hh 106 nn (hh 100 (hh 107 nn)))) rfl ?_
                    exact ih29 _ (nn + 1) _ _ (by omega) (by omega) (fun a z1 z2 z3 => by rw [xup_o _ _ _ _ a z2]; exact hf a z1 z2 z3) (fun q y1 y2 => by
                      rcases Int.lt_or_eq_of_le (show q ≤ nn by omega) with y3 | y3
                      · exact LT_fr rfl (xup_j (by omega)) rfl rfl rfl (hi1 q y1 y3)
                      · rw [y3]
                        refine Or.inr (Or.inl ⟨cn, tm, ?_, ?_, ?_, ?_⟩)
                        · exact (hi2 nn (by omega) (by omega) (Or.inr (Int.le_refl _))).1
                        · rw [xup_s]; exact el
                        · exact hi3 _ (by omega) (by omega) (Int.le_refl _)
                        · exact hi3 _ (by omega) (by omega) (by omega)) (fun q y1 y2 y3 => by
                      obtain ⟨x1, x2⟩ := hi2 q y1 y2 (by omega)
                      exact ⟨x1, by rw [xup_j (by omega)]; exact x2⟩) (fun q y1 y2 y3 => hi3 q y1 y2 (by omega)) hi4 hi5 (by omega)
              · rw [c_ne (by first | assumption | (refine ⟨?_, ?_⟩ <;> omega) | (simp only [xr] at *; omega)) (by first | assumption | (refine ⟨?_, ?_⟩ <;> omega) | (simp only [xr] at *; omega))] at c36
                simp only [decide_eq_true_eq, decide_eq_false_iff_not, Decidable.not_not] at c36
                show xEx G0 cdX12_laysTree none (xRn G0 MT d) Q b 37 [some (.inr (.inr 66)), some (.inl ifs), some (.inl whole), some (.inl nn), v4, v5] [] hh
                have cz : hh 107 nn = 0 := c36
                refine E_s 3 (i' := 29) (ls' := [some (.inr (.inr 66)), some (.inl ifs), some (.inl whole), some (.inl (nn + 1)), v4, v5]) (sk' := []) (h' := hh) rfl ?_
                exact ih29 _ (nn + 1) _ _ (by omega) (by omega) hf (fun q y1 y2 => by
                  rcases Int.lt_or_eq_of_le (show q ≤ nn by omega) with y3 | y3
                  · exact hi1 q y1 y3
                  · rw [y3]
                    obtain ⟨x1, x2⟩ := hi2 nn (by omega) (by omega) (Or.inr (Int.le_refl _))
                    exact Or.inl ⟨cz, x1, x2, hi3 _ (by omega) (by omega) (Int.le_refl _), hi3 _ (by omega) (by omega) (by omega)⟩) (fun q y1 y2 y3 => hi2 q y1 y2 (by omega)) (fun q y1 y2 y3 => hi3 q y1 y2 (by omega)) hi4 hi5 (by omega)
        exact key29 _ _ 1 none none (by omega) (by omega) (fun a z1 z2 z3 => by rw [xup_o _ _ _ _ a z3]; exact hxf a z1 z2 z3) (fun q z1 z2 => by omega) (fun q z1 z2 z3 => by obtain ⟨x1, x2, x3⟩ := hxz q z1 (by omega); exact ⟨x1, x2⟩) (fun q z1 z2 z3 => by rw [xup_j (by omega)]; exact (hxz q z1 (by omega)).2.2) (fun q z1 z2 z3 => by
          by_cases e : q = 1
          · rw [e, xup_s]
            refine ⟨hw, (sub_t o.1 hw hw).mpr (fun _ y => y), ?_⟩
            unfold dpq; rw [if_pos (by omega)]; exact hi.1
          · rw [xup_j e] at z3
            exact absurd (hxz q (by omega) (by omega)).2.2 z3) xup_s (Nat.lt_succ_self _)
      · rw [c_ge (by first | assumption | (refine ⟨?_, ?_⟩ <;> omega) | (simp only [xr] at *; omega)) (by first | assumption | (refine ⟨?_, ?_⟩ <;> omega) | (simp only [xr] at *; omega))] at c4
        simp only [decide_eq_true_eq, decide_eq_false_iff_not, Decidable.not_not] at c4
        show xEx G0 cdX12_laysTree none (xRn G0 MT d) Q b 5 [some (.inr (.inr 66)), some (.inl ifs), some (.inl whole), some (.inl q9), none, none] [] hx
        refine E_s 4 (i' := 9) (ls' := [some (.inr (.inr 66)), some (.inl ifs), some (.inl whole), some (.inl q9), none, none]) (sk' := [.inl (-1), .inl q9, .inr (.inr 105)]) (h' := hx) rfl ?_
        refine E_sd (x := (.iastore, 0, [], [])) (ty := .int) (n := 32) (y := (-1)) rfl rfl rfl (by omega) (by omega) (trivial) ?_
        show xEx G0 cdX12_laysTree none (xRn G0 MT d) Q b 10 [some (.inr (.inr 66)), some (.inl ifs), some (.inl whole), some (.inl q9), none, none] [] (xup hx 105 q9 (-1))
        refine E_s 4 (i' := 14) (ls' := [some (.inr (.inr 66)), some (.inl ifs), some (.inl whole), some (.inl q9), none, none]) (sk' := [.inl (-1), .inl q9, .inr (.inr 106)]) (h' := (xup hx 105 q9 (-1))) rfl ?_
        refine E_sd (x := (.iastore, 0, [], [])) (ty := .int) (n := 32) (y := (-1)) rfl rfl rfl (by omega) (by omega) (trivial) ?_
        show xEx G0 cdX12_laysTree none (xRn G0 MT d) Q b 15 [some (.inr (.inr 66)), some (.inl ifs), some (.inl whole), some (.inl q9), none, none] [] (xup (xup hx 105 q9 (-1)) 106 q9 (-1))
        refine E_s 4 (i' := 19) (ls' := [some (.inr (.inr 66)), some (.inl ifs), some (.inl whole), some (.inl q9), none, none]) (sk' := [.inl 0, .inl q9, .inr (.inr 107)]) (h' := (xup (xup hx 105 q9 (-1)) 106 q9 (-1))) rfl ?_
        refine E_sd (x := (.iastore, 0, [], [])) (ty := .int) (n := 32) (y := 0) rfl rfl rfl (by omega) (by omega) (trivial) ?_
        show xEx G0 cdX12_laysTree none (xRn G0 MT d) Q b 20 [some (.inr (.inr 66)), some (.inl ifs), some (.inl whole), some (.inl q9), none, none] [] (xup (xup (xup hx 105 q9 (-1)) 106 q9 (-1)) 107 q9 0)
        refine E_s 2 (i' := 2) (ls' := [some (.inr (.inr 66)), some (.inl ifs), some (.inl whole), some (.inl (q9 + 1)), none, none]) (sk' := []) (h' := (xup (xup (xup hx 105 q9 (-1)) 106 q9 (-1)) 107 q9 0)) rfl ?_
        exact ih2 _ (q9 + 1) (by omega) (by omega) (fun a z1 z2 z3 => by rw [xup_o _ _ _ _ a z3, xup_o _ _ _ _ a z2, xup_o _ _ _ _ a z1]; exact hxf a z1 z2 z3) (fun j z1 z2 => by
          by_cases e : j = q9
          · rw [e]
            exact ⟨by show xup hx 105 q9 (-1) 105 q9 = -1; exact xup_s, by show xup (xup hx 105 q9 (-1)) 106 q9 (-1) 106 q9 = -1; exact xup_s, xup_s⟩
          · obtain ⟨x1, x2, x3⟩ := hxz j z1 (by omega)
            exact ⟨by show xup hx 105 q9 (-1) 105 j = -1; rw [xup_j e]; exact x1, by show xup (xup hx 105 q9 (-1)) 106 q9 (-1) 106 j = -1; rw [xup_j e]; exact x2, by rw [xup_j e]; exact x3⟩) (by omega)
  exact key2 _ h 0 (by omega) (by omega) (fun _ _ _ _ => rfl) (fun j z1 z2 => by omega) (Nat.lt_succ_self _)
