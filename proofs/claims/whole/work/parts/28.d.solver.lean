theorem shl1 {b : Nat} (h : b < 12) : xshl ((2 ^ b : Nat) : Int) 1 = ((2 ^ (b + 1) : Nat) : Int) := by
  have key : ∀ b : Nat, b < 12 → xshl ((2 ^ b : Nat) : Int) 1 = ((2 ^ (b + 1) : Nat) : Int) := by decide +kernel
  exact key b h
theorem or_ge {m : Nat} {a b : Int} (hm : m ≤ 12) (ha : ir m a) (hb : ir m b) : a ≤ xor_ a b := by
  rw [xo_n hm ha hb]
  have := Nat.left_le_or (n := a.toNat) (m := b.toNat)
  have := ha.1
  omega
theorem pw_lt {b m : Nat} (h : ((2 ^ b : Nat) : Int) < ((2 ^ m : Nat) : Int)) : b < m := by
  have h : 2 ^ b < 2 ^ m := by exact_mod_cast h
  exact (Nat.pow_lt_pow_iff_right (by decide)).mp h
theorem pw_ge {b m : Nat} (hb : b ≤ m) (h : ((2 ^ m : Nat) : Int) ≤ ((2 ^ b : Nat) : Int)) : b = m := by
  have h : 2 ^ m ≤ 2 ^ b := by exact_mod_cast h
  have := (Nat.pow_le_pow_iff_right (by decide)).mp h
  omega
def SVW (h S T : xH) (p : Int) (m : Nat) : Prop := ∀ set, ir m set → (h 51 set = 0 ∨ (p = -1 ∧ h 51 set = wyf S T (S 0 0) (T 0 0) 0 set)) ∧ (h 52 set = 0 ∨ (p = -1 ∧ h 52 set = wyf S T (S 0 0) (T 0 0) 1 set)) ∧ (h 53 set = 0 ∨ (p = -1 ∧ h 53 set = wyf S T (S 0 0) (T 0 0) 2 set))
def SVN (h S : xH) (p : Int) (m : Nat) : Prop := ∀ set, ir m set → h 54 set = 0 ∨ (p = -1 ∧ h 54 set = fwf S (S 0 0) set.toNat set)
def SVC (h S : xH) (p : Int) : Prop := ∀ e : Nat, (h 44 9).toNat.testBit e = true → ∃ k, 0 ≤ k ∧ k < S 0 0 ∧ lk (S 11 k) p ∧ (S 6 k).toNat.testBit e = true
def SVA (h S T : xH) (p : Int) (m : Nat) : Prop := SVF h S T p m ∧ SVM h S T p m ∧ SVW h S T p m ∧ SVN h S p m ∧ SVC h S p
def SVR (h S T : xH) (p : Int) (m : Nat) : Prop := h 44 13 = 1 ∧ h 44 11 = S 0 0 ∧ h 44 12 = T 0 0 ∧ h 44 10 = p ∧ SVA h S T p m
def PRF (h h' : xH) : Prop := ∀ a, (a < 44 ∨ 55 < a ∨ a = 46 ∨ a = 47) → h' a = h a
theorem PRF.rf (h : xH) : PRF h h := fun _ _ => rfl
theorem PRF.tr {h1 h2 h3 : xH} (a : PRF h1 h2) (b : PRF h2 h3) : PRF h1 h3 := fun x z => (b x z).trans (a x z)
theorem SVA_of {h S T : xH} {p : Int} {m : Nat} (o : OKS S T (S 0 0) (T 0 0) m) (hm : m = (h 1 2).toNat) (hR : RC h S) (hRT : RCT h T) (c : CCH h S T (S 0 0) (T 0 0) p) : SVA h S T p m := by
  subst hm
  obtain ⟨c1, c2, c3, c4, c5⟩ := c
  refine ⟨⟨o, fun t z1 z2 => ?_, fun k z1 z2 => ?_, fun s hs => ?_, c2, fun s hs z => ?_, c5⟩, fun s hs => ?_, fun s hs => ?_, fun s hs => ?_, c4⟩
  · obtain ⟨-, -, -, a, b, -⟩ := hRT.2.2.2.2.2.2.1 t z1 z2
    exact ⟨a, b⟩
  · obtain ⟨-, -, -, a, b, -⟩ := hR.2.2.2.2.2.1 k z1 z2
    exact ⟨a, b⟩
  · have := c1 s hs.1 hs.2
    exact ⟨this.1, this.2.1⟩
  · obtain ⟨e, -, x2, x3⟩ := c3 s hs.1 hs.2 z
    exact ⟨e, x2, x3⟩
  · have := c1 s hs.1 hs.2
    exact ⟨this.2.2.1, this.2.2.2.1⟩
  · have := c1 s hs.1 hs.2
    exact ⟨this.2.2.2.2.1, this.2.2.2.2.2.1, this.2.2.2.2.2.2.1⟩
  · exact (c1 s hs.1 hs.2).2.2.2.2.2.2.2
theorem CCH_of {h S T : xH} {p : Int} {m : Nat} (h0 : 0 ≤ h 1 2) (hm : m = (h 1 2).toNat) (v : SVA h S T p m) : CCH h S T (S 0 0) (T 0 0) p := by
  subst hm
  obtain ⟨⟨o, -, -, f4, f5, f6, f7⟩, vm, vw, vn, vc⟩ := v
  refine ⟨fun s z1 z2 => ?_, f5, fun s z1 z2 z => ?_, vc, f7⟩
  · obtain ⟨a, b⟩ := f4 s ⟨z1, z2⟩
    obtain ⟨c, d⟩ := vm s ⟨z1, z2⟩
    obtain ⟨e, f, g⟩ := vw s ⟨z1, z2⟩
    exact ⟨a, b, c, d, e, f, g, vn s ⟨z1, z2⟩⟩
  · obtain ⟨e, x2, x3⟩ := f6 s ⟨z1, z2⟩ z
    refine ⟨e, ?_, x2, x3⟩
    rcases Nat.lt_or_ge e (h 1 2).toNat with y | y
    · omega
    · have := tb_hi (m := (h 1 2).toNat) (a := s) ⟨z1, z2⟩ y
      rw [this] at x2
      cases x2
theorem IS_of {h S T : xH} {p : Int} {m : Nat} (h0 : 0 ≤ h 1 2) (hm : m = (h 1 2).toNat) (hp9 : p = -1 ∨ (0 ≤ p ∧ p ≤ 9)) (v : SVR h S T p m) : IS h S T := by
  obtain ⟨r1, r2, r3, r4, va⟩ := v
  have o := va.1.1
  have oa := o.2.1
  have ob := o.2.2.1
  have c := CCH_of h0 hm va
  unfold IS
  rw [r2, r3, r4]
  exact ⟨Or.inr r1, ⟨⟨by omega, by omega⟩, ⟨by omega, by omega⟩, ⟨by omega, by omega⟩⟩, fun _ => ⟨oa.1, Int.le_refl _, ob.1, Int.le_refl _, hp9, c⟩⟩
theorem OKS_ci {h S T : xH} (c : CI h S T) : OKS S T (S 0 0) (T 0 0) (h 1 2).toNat := by
  obtain ⟨v1, v2, v3, v4, v5, v6⟩ := EV_ci c
  have n1 : 0 ≤ h 1 2 ∧ h 1 2 ≤ 12 := c.1.1
  refine ⟨by omega, v3, v6, fun k z1 z2 => ?_, fun t z1 z2 => ?_⟩
  · obtain ⟨-, a, b, e, f, -⟩ := v2 k z1 z2
    exact ⟨⟨a, b⟩, by rw [f]; exact cvb _ _, e⟩
  · obtain ⟨-, a, b, e, -⟩ := v5 t z1 z2
    exact ⟨⟨a, b⟩, c.2.2.1.2.1.2.2.1 t z1 z2, e⟩
set_option maxHeartbeats 1000000 in
theorem c_findLst (d b : Nat) (h S : xH) (p KE sets : Int) (m : Nat) (hp : h 44 10 = p) (hp9 : p = -1 ∨ (0 ≤ p ∧ p ≤ 9)) (hK : h 9 9 = KE) (hK9 : 0 ≤ KE ∧ KE ≤ 300) (h11 : ∀ k, 0 ≤ k → k < KE → h 19 k = S 11 k ∧ h 20 k = S 6 k ∧ ir m (S 6 k)) (hm : m ≤ 12) (hN : sets = (2 ^ m : Nat)) {Q : xO → xH → Prop} (hQ : ∀ h', (∀ a, a ≠ 44 → a ≠ 45 → h' a = h a) → (∀ j, j ≠ 9 → h' 44 j = h 44 j) → (∀ s, ir m s → h' 45 s = lv (lq S p m s) KE) → ir m (h' 44 9) → cvd S p KE (-1) (h' 44 9) → Q (.inl none) h') : xRn G0 MT (d + 3) b 61 [.inr (.inr 44), .inl sets] h Q := by
  refine R_of (M := mX7_findLeast) rfl (Nat.le_of_ble_eq_true rfl) ?_
  show xEx G0 cdX7_findLeast none (xRn G0 MT (d + 2)) Q b 0 [some (.inr (.inr 44)), some (.inl sets), none, none] [] h
  have n4 : ((2 ^ m : Nat) : Int) ≤ 4096 := by
    have := Nat.pow_le_pow_right (n := 2) (i := m) (j := 12) (by decide) hm
    omega
  have n0 : (1 : Int) ≤ ((2 ^ m : Nat) : Int) := by exact_mod_cast Nat.two_pow_pos m
  refine E_s 5 (i' := 5) (ls' := [some (.inr (.inr 44)), some (.inl sets), none, none]) (sk' := [.inl 300, .inl sets, .inl 0, .inr (.inr 45)]) (h' := h) rfl ?_
  refine E_cv (x := (.invokestatic 69, 4, [(0, 256)], [])) (q := fun h9 => h9 = (xfill h 45 0 sets 300)) rfl rfl (Nat.le_of_ble_eq_true rfl) (c_fill_s_least d 0 h 0 sets 300 (by omega) (by omega) (by omega) ⟨rfl, rfl⟩) (fun h9 e9 => ?_)
  subst e9
  show xEx G0 cdX7_findLeast none (xRn G0 MT (d + 2)) Q b 6 [some (.inr (.inr 44)), some (.inl sets), none, none] [] (xfill h 45 0 sets 300)
  refine E_s 9 (i' := 15) (ls' := [some (.inr (.inr 44)), some (.inl sets), some (.inl (((xfill h 45 0 sets 300) 9 9) - 1)), none]) (sk' := []) (h' := (xup (xfill h 45 0 sets 300) 44 9 0)) rfl ?_
  have key15 : ∀ (n : Nat) (hh : xH) (k : Int), (-1 ≤ k) → (k < KE) → (∀ a, a ≠ 44 → a ≠ 45 → hh a = h a) → (∀ j, j ≠ 9 → hh 44 j = h 44 j) → (∀ s, ir m s → ldn S p KE k s (hh 45 s)) → (ir m (hh 44 9)) → (cvd S p KE k (hh 44 9)) → ((k + 1).toNat) < n → xEx G0 cdX7_findLeast none (xRn G0 MT (d + 2)) Q b 15 [some (.inr (.inr 44)), some (.inl sets), some (.inl k), none] [] hh := by
    intro n
    induction n with
    | zero => intro hh k _ _ _ _ _ _ _ hm; exact absurd hm (Nat.not_lt_zero _)
    | succ n ih15 =>
      intro hh k hk0 hk9 hf hf2 hl hc hv hm15
      have ek : hh 9 9 = KE := by rw [hf _ (by decide) (by decide)]; exact hK
      have ep : hh 44 10 = p := by rw [hf2 _ (by decide)]; exact hp
      refine E_s 1 (i' := 16) (ls' := [some (.inr (.inr 44)), some (.inl sets), some (.inl k), none]) (sk' := [.inl k]) (h' := hh) rfl ?_
      refine E_b (x := (.ifCond .lt 57, 45, [], [])) rfl rfl (fun c16 => ?_) (fun c16 => ?_)
      · rw [c_lt (by first | assumption | (refine ⟨?_, ?_⟩ <;> omega) | (simp only [xr] at *; omega)) (by first | assumption | (refine ⟨?_, ?_⟩ <;> omega) | (simp only [xr] at *; omega))] at c16
        simp only [decide_eq_true_eq, decide_eq_false_iff_not, Decidable.not_not] at c16
        show xEx G0 cdX7_findLeast none (xRn G0 MT (d + 2)) Q b 45 [some (.inr (.inr 44)), some (.inl sets), some (.inl k), none] [] hh
        have ekm : k = -1 := by omega
        have ek1 : cvd S p KE (-1) (hh 44 9) := by rw [← ekm]; exact hv
        refine E_s 2 (i' := 47) (ls' := [some (.inr (.inr 44)), some (.inl sets), some (.inl 1), none]) (sk' := []) (h' := hh) rfl ?_
        have key47 : ∀ (n : Nat) (hh2 : xH) (b9 : Nat) (bit : Int) (v3 : Option xV), (b9 ≤ m) → (bit = (2 ^ b9 : Nat)) → (∀ a, a ≠ 44 → a ≠ 45 → hh2 a = h a) → (∀ j, j ≠ 9 → hh2 44 j = h 44 j) → (ir m (hh2 44 9)) → (cvd S p KE (-1) (hh2 44 9)) → (∀ s, ir m s → hh2 45 s = lv (lq S p b9 s) KE) → (m - b9) < n → xEx G0 cdX7_findLeast none (xRn G0 MT (d + 2)) Q b 47 [some (.inr (.inr 44)), some (.inl sets), some (.inl bit), v3] [] hh2 := by
          intro n
          induction n with
          | zero => intro hh2 b9 bit v3 _ _ _ _ _ _ _ hm; exact absurd hm (Nat.not_lt_zero _)
          | succ n ih47 =>
            intro hh2 b9 bit v3 hb9 hbit hf3 hf4 hc3 hv3 hl3 hm47
            have b4 : ((2 ^ b9 : Nat) : Int) ≤ 4096 := by
              have := Nat.pow_le_pow_right (n := 2) (i := b9) (j := 12) (by decide) (by omega)
              omega
            have b0 : (1 : Int) ≤ ((2 ^ b9 : Nat) : Int) := by exact_mod_cast Nat.two_pow_pos b9
            refine E_s 2 (i' := 49) (ls' := [some (.inr (.inr 44)), some (.inl sets), some (.inl bit), v3]) (sk' := [.inl sets, .inl bit]) (h' := hh2) rfl ?_
            refine E_b (x := (.if_icmp .ge 60, 87, [], [])) rfl rfl (fun c49 => ?_) (fun c49 => ?_)
            · rw [c_ge (by first | assumption | (refine ⟨?_, ?_⟩ <;> omega) | (simp only [xr] at *; omega)) (by first | assumption | (refine ⟨?_, ?_⟩ <;> omega) | (simp only [xr] at *; omega))] at c49
              simp only [decide_eq_true_eq, decide_eq_false_iff_not, Decidable.not_not] at c49
              show xEx G0 cdX7_findLeast none (xRn G0 MT (d + 2)) Q b 87 [some (.inr (.inr 44)), some (.inl sets), some (.inl bit), v3] [] hh2
              have em : b9 = m := pw_ge hb9 (by omega)
              exact E_ret (x := (.return_, 0, [], [])) (v := none) rfl (trivial) (hQ _ hf3 hf4 (fun s9 hs9 => by rw [hl3 s9 hs9, em]) hc3 hv3)
            · rw [c_ge (by first | assumption | (refine ⟨?_, ?_⟩ <;> omega) | (simp only [xr] at *; omega)) (by first | assumption | (refine ⟨?_, ?_⟩ <;> omega) | (simp only [xr] at *; omega))] at c49
              simp only [decide_eq_true_eq, decide_eq_false_iff_not, Decidable.not_not] at c49
              show xEx G0 cdX7_findLeast none (xRn G0 MT (d + 2)) Q b 50 [some (.inr (.inr 44)), some (.inl sets), some (.inl bit), v3] [] hh2
              have hbm : b9 < m := pw_lt (by omega)
              refine E_s 2 (i' := 52) (ls' := [some (.inr (.inr 44)), some (.inl sets), some (.inl bit), some (.inl 0)]) (sk' := []) (h' := hh2) rfl ?_
              have key52 : ∀ (n : Nat) (hg : xH) (s : Int), (0 ≤ s) → (s ≤ sets) → (∀ a, a ≠ 44 → a ≠ 45 → hg a = h a) → (∀ j, j ≠ 9 → hg 44 j = h 44 j) → (ir m (hg 44 9)) → (cvd S p KE (-1) (hg 44 9)) → (∀ r, ir m r → hg 45 r = if r < s then lv (lq S p (b9 + 1) r) KE else lv (lq S p b9 r) KE) → ((sets - s).toNat) < n → xEx G0 cdX7_findLeast none (xRn G0 MT (d + 2)) Q b 52 [some (.inr (.inr 44)), some (.inl sets), some (.inl bit), some (.inl s)] [] hg := by
                intro n
                induction n with
                | zero => intro hg s _ _ _ _ _ _ _ hm; exact absurd hm (Nat.not_lt_zero _)
                | succ n ih52 =>
                  intro hg s hs0 hs9 hgf hgf2 hgc hgv hgl hm52
                  refine E_s 2 (i' := 54) (ls' := [some (.inr (.inr 44)), some (.inl sets), some (.inl bit), some (.inl s)]) (sk' := [.inl sets, .inl s]) (h' := hg) rfl ?_
                  refine E_b (x := (.if_icmp .ge 46, 82, [], [])) rfl rfl (fun c54 => ?_) (fun c54 => ?_)
                  · rw [c_ge (by first | assumption | (refine ⟨?_, ?_⟩ <;> omega) | (simp only [xr] at *; omega)) (by first | assumption | (refine ⟨?_, ?_⟩ <;> omega) | (simp only [xr] at *; omega))] at c54
                    simp only [decide_eq_true_eq, decide_eq_false_iff_not, Decidable.not_not] at c54
                    show xEx G0 cdX7_findLeast none (xRn G0 MT (d + 2)) Q b 82 [some (.inr (.inr 44)), some (.inl sets), some (.inl bit), some (.inl s)] [] hg
                    refine E_s 5 (i' := 47) (ls' := [some (.inr (.inr 44)), some (.inl sets), some (.inl (xshl bit 1)), some (.inl s)]) (sk' := []) (h' := hg) rfl ?_
                    exact ih47 _ (b9 + 1) _ _ (by omega) (by rw [hbit]; exact shl1 (by omega)) hgf hgf2 hgc hgv (fun s9 hs9 => by rw [hgl s9 hs9, if_pos (by have := hs9.2; omega)]) (by omega)
                  · rw [c_ge (by first | assumption | (refine ⟨?_, ?_⟩ <;> omega) | (simp only [xr] at *; omega)) (by first | assumption | (refine ⟨?_, ?_⟩ <;> omega) | (simp only [xr] at *; omega))] at c54
                    simp only [decide_eq_true_eq, decide_eq_false_iff_not, Decidable.not_not] at c54
                    show xEx G0 cdX7_findLeast none (xRn G0 MT (d + 2)) Q b 55 [some (.inr (.inr 44)), some (.inl sets), some (.inl bit), some (.inl s)] [] hg
                    have is9 : ir m s := ⟨hs0, by omega⟩
                    have ib9 : ir m bit := by rw [hbit]; exact ir_2 hbm
                    have io9 : ir m (xor_ s bit) := xo_r hm is9 ib9
                    have io4 := ir4 hm io9
                    have og := or_ge hm is9 ib9
                    have e2 : hg 45 s = lv (lq S p b9 s) KE := by rw [hgl s is9, if_neg (by omega)]
                    have e1 : hg 45 (xor_ s bit) = lv (lq S p b9 (xor_ s ((2 ^ b9 : Nat) : Int))) KE := by rw [hgl _ io9, if_neg (by omega), hbit]
                    have l1 := lv_r (q := lq S p b9 (xor_ s ((2 ^ b9 : Nat) : Int))) hK9.2 hK9.1
                    have l2 := lv_r (q := lq S p b9 s) hK9.2 hK9.1
                    refine E_s 3 (i' := 58) (ls' := [some (.inr (.inr 44)), some (.inl sets), some (.inl bit), some (.inl s)]) (sk' := [.inl (xand s bit)]) (h' := hg) rfl ?_
                    refine E_b (x := (.ifCond .ne 34, 80, [], [])) rfl rfl (fun c58 => ?_) (fun c58 => ?_)
                    · rw [c_ne (by first | exact xand_r _ _ | exact ⟨by omega, by omega⟩) (by first | exact xand_r _ _ | exact ⟨by omega, by omega⟩)] at c58
                      simp only [decide_eq_true_eq, decide_eq_false_iff_not, Decidable.not_not] at c58
                      show xEx G0 cdX7_findLeast none (xRn G0 MT (d + 2)) Q b 80 [some (.inr (.inr 44)), some (.inl sets), some (.inl bit), some (.inl s)] [] hg
                      refine E_s 2 (i' := 52) (ls' := [some (.inr (.inr 44)), some (.inl sets), some (.inl bit), some (.inl (s + 1))]) (sk' := []) (h' := hg) rfl ?_
                      exact ih52 _ (s + 1) (by omega) (by omega) hgf hgf2 hgc hgv (fun r hr => by
                        by_cases y : r = s
                        · rw [y]
                          rw [show (if s < s + 1 then lv (lq S p (b9 + 1) s) KE else lv (lq S p b9 s) KE) = lv (lq S p (b9 + 1) s) KE from if_pos (by omega)]
                          first
                          | (rw [lq_1 hm hbm is9 (by rw [← hbit]; exact c58)]; exact e2)
                          | (rw [lq_2 hK9.2 hK9.1 hm hbm is9 z58, if_neg (by rw [← e1, ← e2]; omega)]; exact e2)
                        · rw [hgl r hr]
                          by_cases x : r < s
                          · rw [if_pos x, if_pos (by omega)]
                          · rw [if_neg x, if_neg (by omega)]) (by omega)
                    · rw [c_ne (by first | exact xand_r _ _ | exact ⟨by omega, by omega⟩) (by first | exact xand_r _ _ | exact ⟨by omega, by omega⟩)] at c58
                      simp only [decide_eq_true_eq, decide_eq_false_iff_not, Decidable.not_not] at c58
                      show xEx G0 cdX7_findLeast none (xRn G0 MT (d + 2)) Q b 59 [some (.inr (.inr 44)), some (.inl sets), some (.inl bit), some (.inl s)] [] hg
                      have z58 : xand s ((2 ^ b9 : Nat) : Int) = 0 := by rw [← hbit]; exact c58
                      refine E_s 5 (i' := 64) (ls' := [some (.inr (.inr 44)), some (.inl sets), some (.inl bit), some (.inl s)]) (sk' := [.inl (xor_ s bit), .inr (.inr 45)]) (h' := hg) rfl ?_
                      refine E_ld (x := (.iaload, 0, [], [])) (ty := .int) (n := 4096) rfl rfl rfl (by omega) (by omega) ?_
                      show xEx G0 cdX7_findLeast none (xRn G0 MT (d + 2)) Q b 65 [some (.inr (.inr 44)), some (.inl sets), some (.inl bit), some (.inl s)] [.inl (hg 45 (xor_ s bit))] hg
                      refine E_s 3 (i' := 68) (ls' := [some (.inr (.inr 44)), some (.inl sets), some (.inl bit), some (.inl s)]) (sk' := [.inl s, .inr (.inr 45), .inl (hg 45 (xor_ s bit))]) (h' := hg) rfl ?_
                      refine E_ld (x := (.iaload, 0, [], [])) (ty := .int) (n := 4096) rfl rfl rfl (by omega) (by omega) ?_
                      show xEx G0 cdX7_findLeast none (xRn G0 MT (d + 2)) Q b 69 [some (.inr (.inr 44)), some (.inl sets), some (.inl bit), some (.inl s)] [.inl (hg 45 s), .inl (hg 45 (xor_ s bit))] hg
                      refine E_b (x := (.if_icmp .ge 17, 80, [], [])) rfl rfl (fun c69 => ?_) (fun c69 => ?_)
                      · rw [c_ge (by first | assumption | (refine ⟨?_, ?_⟩ <;> omega) | (simp only [xr] at *; omega)) (by first | assumption | (refine ⟨?_, ?_⟩ <;> omega) | (simp only [xr] at *; omega))] at c69
                        simp only [decide_eq_true_eq, decide_eq_false_iff_not, Decidable.not_not] at c69
                        show xEx G0 cdX7_findLeast none (xRn G0 MT (d + 2)) Q b 80 [some (.inr (.inr 44)), some (.inl sets), some (.inl bit), some (.inl s)] [] hg
                        refine E_s 2 (i' := 52) (ls' := [some (.inr (.inr 44)), some (.inl sets), some (.inl bit), some (.inl (s + 1))]) (sk' := []) (h' := hg) rfl ?_
                        exact ih52 _ (s + 1) (by omega) (by omega) hgf hgf2 hgc hgv (fun r hr => by
                          by_cases y : r = s
                          · rw [y]
                            rw [show (if s < s + 1 then lv (lq S p (b9 + 1) s) KE else lv (lq S p b9 s) KE) = lv (lq S p (b9 + 1) s) KE from if_pos (by omega)]
                            first
                            | (rw [lq_1 hm hbm is9 (by rw [← hbit]; exact c58)]; exact e2)
                            | (rw [lq_2 hK9.2 hK9.1 hm hbm is9 z58, if_neg (by rw [← e1, ← e2]; omega)]; exact e2)
                          · rw [hgl r hr]
                            by_cases x : r < s
                            · rw [if_pos x, if_pos (by omega)]
                            · rw [if_neg x, if_neg (by omega)]) (by omega)
                      · rw [c_ge (by first | assumption | (refine ⟨?_, ?_⟩ <;> omega) | (simp only [xr] at *; omega)) (by first | assumption | (refine ⟨?_, ?_⟩ <;> omega) | (simp only [xr] at *; omega))] at c69
                        simp only [decide_eq_true_eq, decide_eq_false_iff_not, Decidable.not_not] at c69
                        show xEx G0 cdX7_findLeast none (xRn G0 MT (d + 2)) Q b 70 [some (.inr (.inr 44)), some (.inl sets), some (.inl bit), some (.inl s)] [] hg
                        refine E_s 8 (i' := 78) (ls' := [some (.inr (.inr 44)), some (.inl sets), some (.inl bit), some (.inl s)]) (sk' := [.inl (xor_ s bit), .inr (.inr 45), .inl s, .inr (.inr 45)]) (h' := hg) rfl ?_
                        refine E_ld (x := (.iaload, 0, [], [])) (ty := .int) (n := 4096) rfl rfl rfl (by omega) (by omega) ?_
                        show xEx G0 cdX7_findLeast none (xRn G0 MT (d + 2)) Q b 79 [some (.inr (.inr 44)), some (.inl sets), some (.inl bit), some (.inl s)] [.inl (hg 45 (xor_ s bit)), .inl s, .inr (.inr 45)] hg
                        refine E_sd (x := (.iastore, 0, [], [])) (ty := .int) (n := 4096) (y := (hg 45 (xor_ s bit))) rfl rfl rfl (by omega) (by omega) (trivial) ?_
                        show xEx G0 cdX7_findLeast none (xRn G0 MT (d + 2)) Q b 80 [some (.inr (.inr 44)), some (.inl sets), some (.inl bit), some (.inl s)] [] (xup hg 45 s (hg 45 (xor_ s bit)))
                        refine E_s 2 (i' := 52) (ls' := [some (.inr (.inr 44)), some (.inl sets), some (.inl bit), some (.inl (s + 1))]) (sk' := []) (h' := (xup hg 45 s (hg 45 (xor_ s bit)))) rfl ?_
                        exact ih52 _ (s + 1) (by omega) (by omega) (fun a z1 z2 => by rw [xup_o _ _ _ _ a z2]; exact hgf a z1 z2) (fun j z => by rw [xup_o _ _ _ _ _ (by decide)]; exact hgf2 j z) (by rw [xup_o _ _ _ _ _ (by decide)]; exact hgc) (by rw [xup_o _ _ _ _ _ (by decide)]; exact hgv) (fun r hr => by
                          by_cases y : r = s
                          · rw [y]
                            rw [show (if s < s + 1 then lv (lq S p (b9 + 1) s) KE else lv (lq S p b9 s) KE) = lv (lq S p (b9 + 1) s) KE from if_pos (by omega)]
                            rw [xup_s, lq_2 hK9.2 hK9.1 hm hbm is9 z58, if_pos (by rw [← e1, ← e2]; omega), e1]
                          · rw [xup_j y]
                            rw [hgl r hr]
                            by_cases x : r < s
                            · rw [if_pos x, if_pos (by omega)]
                            · rw [if_neg x, if_neg (by omega)]) (by omega)
              exact key52 _ hh2 0 (by omega) (by omega) hf3 hf4 hc3 hv3 (fun r hr => by rw [if_neg (by have := hr.1; omega)]; exact hl3 r hr) (Nat.lt_succ_self _)
        exact key47 _ hh 0 1 none (by omega) rfl hf hf2 hc ek1 (fun s hs => ldn_lv hs.1 (fun k z1 z2 => (h11 k z1 z2).2.2.1) (ekm ▸ hl s hs)) (Nat.lt_succ_self _)
      · rw [c_lt (by first | assumption | (refine ⟨?_, ?_⟩ <;> omega) | (simp only [xr] at *; omega)) (by first | assumption | (refine ⟨?_, ?_⟩ <;> omega) | (simp only [xr] at *; omega))] at c16
        simp only [decide_eq_true_eq, decide_eq_false_iff_not, Decidable.not_not] at c16
        show xEx G0 cdX7_findLeast none (xRn G0 MT (d + 2)) Q b 17 [some (.inr (.inr 44)), some (.inl sets), some (.inl k), none] [] hh
        have e6 : hh 20 k = S 6 k := by rw [hf _ (by decide) (by decide)]; exact (h11 k (by omega) (by omega)).2.1
        have i6 := (h11 k (by omega) (by omega)).2.2
        have i64 := ir4 hm i6
        refine E_s 5 (i' := 22) (ls' := [some (.inr (.inr 44)), some (.inl sets), some (.inl k), none]) (sk' := [.inl (hh 44 10), .inl k, .inr (.inr 9)]) (h' := hh) rfl ?_
        refine E_cp (x := (.invokevirtual 95, 2, [(1, 29)], [1])) (q := fun r1 h9 => ((r1 = 1 ∧ (lk (hh 19 k) (hh 44 10))) ∨ (r1 = 0 ∧ ¬ (lk (hh 19 k) (hh 44 10)))) ∧ hh = h9) rfl rfl (Nat.le_of_ble_eq_true rfl) (c_lacks0 d 0 hh k (hh 44 10) ⟨by omega, by omega⟩ (by rw [ep]; exact hp9) (fun z => ⟨_, rfl, Or.inl ⟨rfl, z⟩, rfl⟩) (fun z => ⟨_, rfl, Or.inr ⟨rfl, z⟩, rfl⟩)) (fun r1 h9 q1 => ?_)
        obtain ⟨q1, rfl⟩ := q1
        show xEx G0 cdX7_findLeast none (xRn G0 MT (d + 2)) Q b 23 [some (.inr (.inr 44)), some (.inl sets), some (.inl k), none] [.inl r1] hh
        refine E_b (x := (.ifCond .eq 36, 43, [], [])) rfl rfl (fun c23 => ?_) (fun c23 => ?_)
        · rw [c_eq (by first | assumption | (refine ⟨?_, ?_⟩ <;> omega) | (simp only [xr] at *; omega)) (by first | assumption | (refine ⟨?_, ?_⟩ <;> omega) | (simp only [xr] at *; omega))] at c23
          simp only [decide_eq_true_eq, decide_eq_false_iff_not, Decidable.not_not] at c23
          show xEx G0 cdX7_findLeast none (xRn G0 MT (d + 2)) Q b 43 [some (.inr (.inr 44)), some (.inl sets), some (.inl k), none] [] hh
          have nl : ¬ lk (S 11 k) p := by
            have y9 := o0 q1 c23
            rw [hf _ (by decide) (by decide), (h11 k (by omega) (by omega)).1, ep] at y9
            exact y9
          refine E_s 2 (i' := 15) (ls' := [some (.inr (.inr 44)), some (.inl sets), some (.inl (k + (-1))), none]) (sk' := []) (h' := hh) rfl ?_
          exact ih15 _ (k + -1) (by omega) (by omega) hf hf2 (fun s hs => (show k + -1 = k - 1 by omega) ▸ ldn_n (hl s hs) (fun y => nl y.1)) hc ((show k + -1 = k - 1 by omega) ▸ cvd_n hv nl) (by omega)
        · rw [c_eq (by first | assumption | (refine ⟨?_, ?_⟩ <;> omega) | (simp only [xr] at *; omega)) (by first | assumption | (refine ⟨?_, ?_⟩ <;> omega) | (simp only [xr] at *; omega))] at c23
          simp only [decide_eq_true_eq, decide_eq_false_iff_not, Decidable.not_not] at c23
          show xEx G0 cdX7_findLeast none (xRn G0 MT (d + 2)) Q b 24 [some (.inr (.inr 44)), some (.inl sets), some (.inl k), none] [] hh
          have yl : lk (S 11 k) p := by
            have y9 := o1 q1 c23
            rw [hf _ (by decide) (by decide), (h11 k (by omega) (by omega)).1, ep] at y9
            exact y9
          refine E_s 6 (i' := 30) (ls' := [some (.inr (.inr 44)), some (.inl sets), some (.inl k), none]) (sk' := [.inl k, .inr (.inr 20), .inr (.inr 45)]) (h' := hh) rfl ?_
          refine E_ld (x := (.iaload, 0, [], [])) (ty := .int) (n := 300) rfl rfl rfl (by omega) (by omega) ?_
          show xEx G0 cdX7_findLeast none (xRn G0 MT (d + 2)) Q b 31 [some (.inr (.inr 44)), some (.inl sets), some (.inl k), none] [.inl (hh 20 k), .inr (.inr 45)] hh
          refine E_s 1 (i' := 32) (ls' := [some (.inr (.inr 44)), some (.inl sets), some (.inl k), none]) (sk' := [.inl k, .inl (hh 20 k), .inr (.inr 45)]) (h' := hh) rfl ?_
          refine E_sd (x := (.iastore, 0, [], [])) (ty := .int) (n := 4096) (y := k) rfl rfl rfl (by omega) (by omega) (trivial) ?_
          show xEx G0 cdX7_findLeast none (xRn G0 MT (d + 2)) Q b 33 [some (.inr (.inr 44)), some (.inl sets), some (.inl k), none] [] (xup hh 45 (hh 20 k) k)
          refine E_s 7 (i' := 40) (ls' := [some (.inr (.inr 44)), some (.inl sets), some (.inl k), none]) (sk' := [.inl k, .inr (.inr 20), .inl (hh 44 9), .inr (.inr 44)]) (h' := (xup hh 45 (hh 20 k) k)) rfl ?_
          refine E_ld (x := (.iaload, 0, [], [])) (ty := .int) (n := 300) rfl rfl rfl (by omega) (by omega) ?_
          show xEx G0 cdX7_findLeast none (xRn G0 MT (d + 2)) Q b 41 [some (.inr (.inr 44)), some (.inl sets), some (.inl k), none] [.inl (hh 20 k), .inl (hh 44 9), .inr (.inr 44)] (xup hh 45 (hh 20 k) k)
          refine E_s 2 (i' := 43) (ls' := [some (.inr (.inr 44)), some (.inl sets), some (.inl k), none]) (sk' := []) (h' := (xup (xup hh 45 (hh 20 k) k) 44 9 (xor_ (hh 44 9) (hh 20 k)))) rfl ?_
          skip
          refine E_s 2 (i' := 15) (ls' := [some (.inr (.inr 44)), some (.inl sets), some (.inl (k + (-1))), none]) (sk' := []) (h' := (xup (xup hh 45 (hh 20 k) k) 44 9 (xor_ (hh 44 9) (hh 20 k)))) rfl ?_
          exact ih15 _ (k + -1) (by omega) (by omega) (fun a z1 z2 => by rw [xup_o _ _ _ _ a z1, xup_o _ _ _ _ a z2]; exact hf a z1 z2) (fun j z => by rw [xup_j z, xup_o _ _ _ _ _ (by decide)]; exact hf2 j z) (fun s hs => (show k + -1 = k - 1 by omega) ▸ (by
            rw [xup_o _ _ _ _ _ (by decide)]
            by_cases y : s = hh 20 k
            · rw [y, xup_s]
              exact ldn_y (by omega) ⟨yl, e6.symm⟩
            · rw [xup_j y]
              exact ldn_n (hl s hs) (fun x => y (by rw [e6]; exact x.2.symm)))) (by
            rw [xup_s, e6]
            exact xo_r hm hc i6) ((show k + -1 = k - 1 by omega) ▸ (by
            rw [xup_s, e6]
            exact cvd_y hm hc i6 (by omega) hv yl)) (by omega)
  exact key15 _ _ _ (by show -1 ≤ h 9 9 - 1; omega) (by show h 9 9 - 1 < KE; omega) (fun a z1 z2 => by rw [xup_o _ _ _ _ a z1]; exact xfill_a z2) (fun j z => by rw [xup_j z]; exact congrFun (xfill_a (by decide)) j) (fun s hs => Or.inl ⟨by rw [xup_o _ _ _ _ _ (by decide)]; exact xfill_i ⟨hs.1, by rw [hN]; exact hs.2⟩, fun j z1 z2 => by
    have z1 : h 9 9 - 1 < j := z1
    omega⟩) (by rw [xup_s]; exact ⟨Int.le_refl _, by exact_mod_cast Nat.two_pow_pos m⟩) (fun i => by
    rw [xup_s, tb_0]
    constructor
    · intro x; cases x
    · rintro ⟨j, z1, z2, -⟩
      have z1 : h 9 9 - 1 < j := z1
      omega) (Nat.lt_succ_self _)
