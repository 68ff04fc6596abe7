/-! the solver: bits of sets -/
abbrev tb (a : Int) (i : Nat) : Bool := a.toNat.testBit i
abbrev ir (m : Nat) (a : Int) : Prop := 0 ≤ a ∧ a < (2 ^ m : Nat)
theorem ir31 {m : Nat} {a : Int} (hm : m ≤ 12) (h : ir m a) : a.toNat < 2 ^ 31 ∧ a = (a.toNat : Int) := by
  have := Nat.pow_le_pow_right (n := 2) (i := m) (j := 12) (by decide) hm
  have := h.1
  have := h.2
  omega
theorem xa_n {m : Nat} {a b : Int} (hm : m ≤ 12) (ha : ir m a) (hb : ir m b) : xand a b = ((a.toNat &&& b.toNat : Nat) : Int) := by
  obtain ⟨h1, h2⟩ := ir31 hm ha
  obtain ⟨h3, h4⟩ := ir31 hm hb
  have := n_and h1 h3
  rw [← h2, ← h4] at this
  exact this
theorem xx_n {m : Nat} {a b : Int} (hm : m ≤ 12) (ha : ir m a) (hb : ir m b) : xxor a b = ((a.toNat ^^^ b.toNat : Nat) : Int) := by
  obtain ⟨h1, h2⟩ := ir31 hm ha
  obtain ⟨h3, h4⟩ := ir31 hm hb
  have := n_xor h1 h3
  rw [← h2, ← h4] at this
  exact this
theorem xo_n {m : Nat} {a b : Int} (hm : m ≤ 12) (ha : ir m a) (hb : ir m b) : xor_ a b = ((a.toNat ||| b.toNat : Nat) : Int) := by
  obtain ⟨h1, h2⟩ := ir31 hm ha
  obtain ⟨h3, h4⟩ := ir31 hm hb
  have := n_or h1 h3
  rw [← h2, ← h4] at this
  exact this
theorem xn_n {m : Nat} {a b : Int} (hm : m ≤ 12) (ha : ir m a) (hb : ir m b) : xand a (xxor b (-1)) = ((andn a.toNat b.toNat : Nat) : Int) := by
  obtain ⟨h1, h2⟩ := ir31 hm ha
  obtain ⟨h3, h4⟩ := ir31 hm hb
  have := n_andn h1 h3
  rw [← h2, ← h4] at this
  exact this
theorem irN {m : Nat} {a : Int} (h : ir m a) : a.toNat < 2 ^ m := by
  have := h.2
  have := h.1
  omega
theorem xa_r {m : Nat} {a b : Int} (hm : m ≤ 12) (ha : ir m a) (hb : ir m b) : ir m (xand a b) := and_r hm ha hb
theorem xn_r {m : Nat} {a b : Int} (hm : m ≤ 12) (ha : ir m a) (hb : ir m b) : ir m (xand a (xxor b (-1))) := andn_r hm ha hb
theorem xx_r {m : Nat} {a b : Int} (hm : m ≤ 12) (ha : ir m a) (hb : ir m b) : ir m (xxor a b) := by
  rw [xx_n hm ha hb]
  exact ⟨Int.natCast_nonneg _, by exact_mod_cast Nat.xor_lt_two_pow (irN ha) (irN hb)⟩
theorem xo_r {m : Nat} {a b : Int} (hm : m ≤ 12) (ha : ir m a) (hb : ir m b) : ir m (xor_ a b) := by
  rw [xo_n hm ha hb]
  exact ⟨Int.natCast_nonneg _, by exact_mod_cast Nat.or_lt_two_pow (irN ha) (irN hb)⟩
theorem tb_and {m : Nat} {a b : Int} (hm : m ≤ 12) (ha : ir m a) (hb : ir m b) (i : Nat) : tb (xand a b) i = (tb a i && tb b i) := by
  unfold tb
  rw [xa_n hm ha hb, Int.toNat_natCast, Nat.testBit_and]
theorem tb_xor {m : Nat} {a b : Int} (hm : m ≤ 12) (ha : ir m a) (hb : ir m b) (i : Nat) : tb (xxor a b) i = (tb a i ^^ tb b i) := by
  unfold tb
  rw [xx_n hm ha hb, Int.toNat_natCast, Nat.testBit_xor]
theorem tb_or {m : Nat} {a b : Int} (hm : m ≤ 12) (ha : ir m a) (hb : ir m b) (i : Nat) : tb (xor_ a b) i = (tb a i || tb b i) := by
  unfold tb
  rw [xo_n hm ha hb, Int.toNat_natCast, Nat.testBit_or]
theorem tb_andn {m : Nat} {a b : Int} (hm : m ≤ 12) (ha : ir m a) (hb : ir m b) (i : Nat) : tb (xand a (xxor b (-1))) i = (tb a i && !tb b i) := by
  unfold tb
  rw [xn_n hm ha hb, Int.toNat_natCast]
  unfold andn
  rw [Nat.testBit_and, Nat.testBit_xor]
  cases a.toNat.testBit i <;> cases b.toNat.testBit i <;> rfl
theorem tb_ext {a b : Int} (ha : 0 ≤ a) (hb : 0 ≤ b) (h : ∀ i, tb a i = tb b i) : a = b := by
  have := Nat.eq_of_testBit_eq h
  omega
theorem tb_0 (i : Nat) : tb 0 i = false := Nat.zero_testBit i
theorem tb_hi {m : Nat} {a : Int} (h : ir m a) {i : Nat} (hi : m ≤ i) : tb a i = false := Nat.testBit_lt_two_pow (Nat.lt_of_lt_of_le (irN h) (Nat.pow_le_pow_right (by decide) hi))
theorem tb_ne {a : Int} (ha : 0 ≤ a) (h : a ≠ 0) : ∃ i, tb a i = true := by
  obtain ⟨i, hi⟩ := Nat.exists_testBit_of_ne_zero (show a.toNat ≠ 0 by omega)
  exact ⟨i, hi⟩
theorem sub_t {m : Nat} {a b : Int} (hm : m ≤ 12) (ha : ir m a) (hb : ir m b) : sub a b ↔ ∀ i, tb a i = true → tb b i = true := by
  unfold sub
  constructor
  · intro h i hi
    have := tb_andn hm ha hb i
    rw [h, tb_0, hi] at this
    cases e : tb b i
    · rw [e] at this; cases this
    · rfl
  · intro h
    refine tb_ext (xn_r hm ha hb).1 (by decide) (fun i => ?_)
    rw [tb_andn hm ha hb, tb_0]
    cases e : tb a i
    · rfl
    · rw [h i e]; rfl
/-- as the reference asks it -/
theorem sub_a {m : Nat} {a b : Int} (hm : m ≤ 12) (ha : ir m a) (hb : ir m b) : xand b a = a ↔ sub a b := by
  rw [sub_t hm ha hb]
  constructor
  · intro h i hi
    have := tb_and hm hb ha i
    rw [h, hi] at this
    cases e : tb b i
    · rw [e] at this; cases this
    · rfl
  · intro h
    refine tb_ext (xa_r hm hb ha).1 ha.1 (fun i => ?_)
    rw [tb_and hm hb ha]
    cases e : tb a i
    · rw [Bool.and_false]
    · rw [h i e]; rfl
/-- both sides of an if -/
theorem els {m : Nat} {a b : Int} (hm : m ≤ 12) (ha : ir m a) (hb : ir m b) (i : Nat) : tb (xxor a (xand a b)) i = (tb a i && !tb b i) := by
  rw [tb_xor hm ha (xa_r hm ha hb), tb_and hm ha hb]
  cases tb a i <;> cases tb b i <;> rfl
theorem els_n {m : Nat} {a b : Int} (hm : m ≤ 12) (ha : ir m a) (hb : ir m b) : xxor a (xand a b) = xand a (xxor b (-1)) := tb_ext (xx_r hm ha (xa_r hm ha hb)).1 (xn_r hm ha hb).1 (fun i => by rw [els hm ha hb, tb_andn hm ha hb])
theorem els_0 {m : Nat} {a b : Int} (hm : m ≤ 12) (ha : ir m a) (hb : ir m b) (h : xand a b ≠ a) : xxor a (xand a b) ≠ 0 := fun z => h (tb_ext (xa_r hm ha hb).1 ha.1 (fun i => by
  have := els hm ha hb i
  rw [z, tb_0] at this
  rw [tb_and hm ha hb]
  revert this
  cases tb a i <;> cases tb b i <;> simp))
/-! what is found, as numbers -/
def OKS (S T : xH) (KE KT : Int) (m : Nat) : Prop := m ≤ 12 ∧ (0 ≤ KE ∧ KE ≤ 300) ∧ (0 ≤ KT ∧ KT ≤ 150) ∧ (∀ k, 0 ≤ k → k < KE → (1 ≤ S 4 k ∧ S 4 k ≤ 9) ∧ ir m (S 6 k) ∧ ∀ j, 0 ≤ j → j ≤ k → S 4 j ≤ S 4 k) ∧ ∀ t, 0 ≤ t → t < KT → (3 ≤ T 4 t ∧ T 4 t ≤ 7) ∧ ir m (T 6 t) ∧ ∀ j, 0 ≤ j → j ≤ t → T 4 j ≤ T 4 t
theorem stpf_1 {T : xH} {p : Int} {f : Int → Int} {b0 set t : Int} (h : 0 ≤ t) : stpf T p f b0 set (t + 1).toNat = @ite _ (prt T p set t ∧ szt T f set t < stpf T p f b0 set t.toNat) (Classical.propDecidable _) (szt T f set t) (stpf T p f b0 set t.toNat) := by
  have e : (t + 1).toNat = t.toNat + 1 := by omega
  rw [e, stpf, Int.toNat_of_nonneg h]
theorem stpf_y {T : xH} {p : Int} {f : Int → Int} {b0 set t : Int} (h : 0 ≤ t) (z : prt T p set t ∧ szt T f set t < stpf T p f b0 set t.toNat) : stpf T p f b0 set (t + 1).toNat = szt T f set t := by
  rw [stpf_1 h, if_pos z]
theorem stpf_n {T : xH} {p : Int} {f : Int → Int} {b0 set t : Int} (h : 0 ≤ t) (z : ¬ (prt T p set t ∧ szt T f set t < stpf T p f b0 set t.toNat)) : stpf T p f b0 set (t + 1).toNat = stpf T p f b0 set t.toNat := by
  rw [stpf_1 h, if_neg z]
/-- nothing better for a while -/
theorem stpf_skip {T : xH} {p : Int} {f : Int → Int} {b0 set a : Int} (ha : 0 ≤ a) : ∀ n : Nat, (∀ t, a ≤ t → t < a + n → ¬ (prt T p set t ∧ szt T f set t < stpf T p f b0 set a.toNat)) → stpf T p f b0 set (a + n).toNat = stpf T p f b0 set a.toNat
  | 0, _ => by rw [show a + ((0 : Nat) : Int) = a by omega]
  | n + 1, h => by
    have ih := stpf_skip ha n (fun t z1 z2 => h t z1 (by omega))
    rw [show a + ((n + 1 : Nat) : Int) = (a + n) + 1 by omega, stpf_n (by omega), ih]
    rw [ih]
    exact h (a + n) (by omega) (by omega)
theorem stpf_sk {T : xH} {p : Int} {f : Int → Int} {b0 set a b : Int} (ha : 0 ≤ a) (hb : a ≤ b) (h : ∀ t, a ≤ t → t < b → ¬ (prt T p set t ∧ szt T f set t < stpf T p f b0 set a.toNat)) : stpf T p f b0 set b.toNat = stpf T p f b0 set a.toNat := by
  have := stpf_skip (T := T) (p := p) (f := f) (b0 := b0) (set := set) ha (b - a).toNat (fun t z1 z2 => h t z1 (by omega))
  rw [show a + ((b - a).toNat : Int) = b by omega] at this
  exact this
theorem stpf_le {T : xH} {p : Int} {f : Int → Int} {b0 set : Int} : ∀ m : Nat, stpf T p f b0 set m ≤ b0
  | 0 => Int.le_refl _
  | m + 1 => by
    have ih := stpf_le (T := T) (p := p) (f := f) (b0 := b0) (set := set) m
    unfold stpf
    split
    · rename_i z
      omega
    · exact ih
theorem stpf_min {T : xH} {p : Int} {f : Int → Int} {b0 set : Int} : ∀ (m : Nat) (t : Int), 0 ≤ t → t < m → prt T p set t → stpf T p f b0 set m ≤ szt T f set t
  | 0, t, h0, h1, _ => by omega
  | m + 1, t, h0, h1, hp => by
    have ih := stpf_min (T := T) (p := p) (f := f) (b0 := b0) (set := set) m t h0
    have l := stpf_le (T := T) (p := p) (f := f) (b0 := b0) (set := set) m
    unfold stpf
    by_cases e : t = m
    · subst e
      split
      · exact Int.le_refl _
      · rename_i z
        exact Int.not_lt.mp (fun y => z ⟨hp, y⟩)
    · have := ih (by omega) hp
      split
      · rename_i z
        omega
      · exact this
theorem stpf_lo {T : xH} {p : Int} {f : Int → Int} {b0 set c : Int} (hb : c ≤ b0) : ∀ (m : Nat), (∀ t : Int, 0 ≤ t → t < m → prt T p set t → c ≤ szt T f set t) → c ≤ stpf T p f b0 set m
  | 0, _ => hb
  | m + 1, h => by
    have ih := stpf_lo (T := T) (p := p) (f := f) (set := set) hb m (fun t z1 z2 => h t z1 (by omega))
    unfold stpf
    split
    · rename_i z
      exact h m (by omega) (by omega) z.1
    · exact ih
theorem sz0_r {S T : xH} {KE KT p : Int} {m : Nat} (o : OKS S T KE KT m) (set : Int) : 1 ≤ sz0 S KE p set ∧ sz0 S KE p set ≤ 1000000 := by
  unfold sz0
  split
  · omega
  · rcases lf_spec S KE p set with q | q
    · exact absurd q.1 (by assumption)
    · have := (o.2.2.2.1 _ q.1 q.2.1).1
      omega
theorem szf_r {S T : xH} {KE KT p : Int} {m : Nat} (o : OKS S T KE KT m) : ∀ (i : Nat) (set : Int), 1 ≤ szf S T KE KT p i set ∧ szf S T KE KT p i set ≤ 1000000
  | 0, set => sz0_r o set
  | i + 1, set => by
    have z := sz0_r (p := p) o set
    unfold szf
    refine ⟨stpf_lo z.1 _ (fun t z1 z2 hp => ?_), ?_⟩
    · have h4 := (o.2.2.2.2 t z1 (by have := o.2.2.1; omega)).1
      have a := szf_r (p := p) o i (xand set (T 6 t))
      have b := szf_r (p := p) o i (xxor set (xand set (T 6 t)))
      unfold szt
      omega
    · have := stpf_le (T := T) (p := p) (f := szf S T KE KT p i) (b0 := sz0 S KE p set) (set := set) KT.toNat
      omega
/-- what none COVERs -/
theorem szf_un {S T : xH} {KE KT p : Int} {m : Nat} (o : OKS S T KE KT m) {e : Nat} (he : ∀ k, 0 ≤ k → k < KE → lk (S 11 k) p → tb (S 6 k) e = false) : ∀ (i : Nat) (set : Int), ir m set → tb set e = true → szf S T KE KT p i set = 1000000
  | 0, set, hs, ht => by
    show sz0 S KE p set = _
    unfold sz0
    rw [if_pos]
    rcases lf_spec S KE p set with q | q
    · exact q.1
    · have a := (sub_t o.1 hs (o.2.2.2.1 _ q.1 q.2.1).2.1).mp q.2.2.1.2 e ht
      rw [he _ q.1 q.2.1 q.2.2.1.1] at a
      cases a
  | i + 1, set, hs, ht => by
    have z := szf_un o he 0 set hs ht
    have z : sz0 S KE p set = 1000000 := z
    have l := (szf_r (p := p) o (i + 1) set).2
    have : 1000000 ≤ szf S T KE KT p (i + 1) set := by
      show 1000000 ≤ stpf T p (szf S T KE KT p i) (sz0 S KE p set) set KT.toNat
      refine stpf_lo (by omega) _ (fun t z1 z2 hp => ?_)
      have ot := o.2.2.2.2 t z1 (by have := o.2.2.1; omega)
      have a := szf_r (p := p) o i (xand set (T 6 t))
      have b := szf_r (p := p) o i (xxor set (xand set (T 6 t)))
      unfold szt
      by_cases y : tb (T 6 t) e = true
      · have := szf_un o he i (xand set (T 6 t)) (xa_r o.1 hs ot.2.1) (by rw [tb_and o.1 hs ot.2.1, ht, y]; rfl)
        omega
      · have := szf_un o he i (xxor set (xand set (T 6 t))) (xx_r o.1 hs (xa_r o.1 hs ot.2.1)) (by
          rw [els o.1 hs ot.2.1, ht]
          cases e9 : tb (T 6 t) e
          · rfl
          · exact absurd e9 y)
        omega
    omega
theorem stpf_mono {T : xH} {p : Int} {f g : Int → Int} {b0 b1 set : Int} (hb : b1 ≤ b0) (hf : ∀ s, g s ≤ f s) (m : Nat) : stpf T p g b1 set m ≤ stpf T p f b0 set m := by
  refine stpf_lo (Int.le_trans (stpf_le m) hb) m (fun t z1 z2 hp => ?_)
  have := stpf_min (T := T) (p := p) (f := g) (b0 := b1) (set := set) m t z1 z2 hp
  have a := hf (xand set (T 6 t))
  have b := hf (xxor set (xand set (T 6 t)))
  unfold szt at *
  omega
theorem szf_mono {S T : xH} {KE KT p : Int} : ∀ (i : Nat) (set : Int), szf S T KE KT p (i + 1) set ≤ szf S T KE KT p i set
  | 0, set => stpf_le _
  | i + 1, set => stpf_mono (Int.le_refl _) (szf_mono i) _
/-- the first TEST of those that make it least -/
noncomputable def btf (T : xH) (p : Int) (f : Int → Int) (b0 set : Int) : Nat → Int
  | 0 => -1
  | m + 1 => @ite _ (prt T p set m ∧ szt T f set m < stpf T p f b0 set m) (Classical.propDecidable _) (m : Int) (btf T p f b0 set m)
theorem btf_1 {T : xH} {p : Int} {f : Int → Int} {b0 set t : Int} (h : 0 ≤ t) : btf T p f b0 set (t + 1).toNat = @ite _ (prt T p set t ∧ szt T f set t < stpf T p f b0 set t.toNat) (Classical.propDecidable _) t (btf T p f b0 set t.toNat) := by
  have e : (t + 1).toNat = t.toNat + 1 := by omega
  rw [e, btf, Int.toNat_of_nonneg h]
theorem btf_spec {T : xH} {p : Int} {f : Int → Int} {b0 set : Int} : ∀ m : Nat, (stpf T p f b0 set m = b0 ∧ btf T p f b0 set m = -1) ∨ (stpf T p f b0 set m < b0 ∧ 0 ≤ btf T p f b0 set m ∧ btf T p f b0 set m < m ∧ prt T p set (btf T p f b0 set m) ∧ szt T f set (btf T p f b0 set m) = stpf T p f b0 set m ∧ ∀ t, 0 ≤ t → t < btf T p f b0 set m → prt T p set t → stpf T p f b0 set m < szt T f set t)
  | 0 => Or.inl ⟨rfl, rfl⟩
  | m + 1 => by
    have ih := btf_spec (T := T) (p := p) (f := f) (b0 := b0) (set := set) m
    have le := stpf_le (T := T) (p := p) (f := f) (b0 := b0) (set := set) m
    have mn := stpf_min (T := T) (p := p) (f := f) (b0 := b0) (set := set) m
    unfold stpf btf
    by_cases z : prt T p set m ∧ szt T f set m < stpf T p f b0 set m
    · rw [if_pos z, if_pos z]
      exact Or.inr ⟨by omega, by omega, by omega, z.1, rfl, fun t z1 z2 hp => by
        have := mn t z1 z2 hp
        omega⟩
    · rw [if_neg z, if_neg z]
      rcases ih with ih | ⟨a, b, c, d⟩
      · exact Or.inl ih
      · exact Or.inr ⟨a, b, by omega, d⟩
noncomputable def bti (S T : xH) (KE KT p : Int) : Nat → Int → Int
  | 0 => fun _ => -1
  | i + 1 => fun set => btf T p (szf S T KE KT p i) (sz0 S KE p set) set KT.toNat
/-- of an if: its SIZE as the class has it -/
noncomputable def swf (T : xH) (f : Int → Int) (set t : Int) : Int := @ite _ (xand set (T 6 t) = 0 ∨ xand set (T 6 t) = set ∨ f (xand set (T 6 t)) = 1000000 ∨ f (xxor set (xand set (T 6 t))) = 1000000) (Classical.propDecidable _) 1000000 (T 4 t + 1 + f (xand set (T 6 t)) + f (xxor set (xand set (T 6 t))))
theorem swf_lt {T : xH} {p : Int} {f : Int → Int} {set t b : Int} (hl : lk (T 11 t) p) (h4 : 0 ≤ T 4 t) (hf : ∀ s, 1 ≤ f s ∧ f s ≤ 1000000) (hb : b ≤ 1000000) : swf T f set t < b ↔ prt T p set t ∧ szt T f set t < b := by
  have a := hf (xand set (T 6 t))
  have c := hf (xxor set (xand set (T 6 t)))
  unfold swf prt szt
  constructor
  · intro h
    split at h
    · omega
    · rename_i z
      exact ⟨⟨hl, fun y => z (Or.inl y), fun y => z (Or.inr (Or.inl y))⟩, by omega⟩
  · rintro ⟨⟨-, h1, h2⟩, h3⟩
    rw [if_neg]
    · omega
    · rintro (y | y | y | y)
      · exact h1 y
      · exact h2 y
      · omega
      · omega
theorem swf_eq {T : xH} {p : Int} {f : Int → Int} {set t b : Int} (hl : lk (T 11 t) p) (h4 : 0 ≤ T 4 t) (hf : ∀ s, 1 ≤ f s ∧ f s ≤ 1000000) (hb : b < 1000000) : swf T f set t = b ↔ prt T p set t ∧ szt T f set t = b := by
  have a := hf (xand set (T 6 t))
  have c := hf (xxor set (xand set (T 6 t)))
  unfold swf prt szt
  constructor
  · intro h
    split at h
    · omega
    · rename_i z
      exact ⟨⟨hl, fun y => z (Or.inl y), fun y => z (Or.inr (Or.inl y))⟩, by omega⟩
  · rintro ⟨⟨-, h1, h2⟩, h3⟩
    rw [if_neg]
    · omega
    · rintro (y | y | y | y)
      · exact h1 y
      · exact h2 y
      · omega
      · omega
/-- TESTS that may be used, rising -/
def USB (T : xH) (KT p cnt : Int) (u : Int → Int) : Prop := 0 ≤ cnt ∧ cnt ≤ KT ∧ (∀ i, 0 ≤ i → i < cnt → 0 ≤ u i ∧ u i < KT ∧ lk (T 11 (u i)) p) ∧ (∀ i j, 0 ≤ i → i < j → j < cnt → u i < u j) ∧ ∀ t, 0 ≤ t → t < KT → lk (T 11 t) p → ∃ i, 0 ≤ i ∧ i < cnt ∧ u i = t
def unx (KT cnt : Int) (u : Int → Int) (i : Int) : Int := if i < cnt then u i else KT
theorem us_0 {T : xH} {KT p cnt : Int} {u : Int → Int} (h : USB T KT p cnt u) (f : Int → Int) (b0 set : Int) : stpf T p f b0 set (unx KT cnt u 0).toNat = b0 := by
  obtain ⟨c0, c1, h1, h2, h3⟩ := h
  have k0 : 0 ≤ unx KT cnt u 0 ∧ unx KT cnt u 0 ≤ KT := by
    unfold unx
    split
    · have := h1 0 (by omega) (by omega); omega
    · omega
  refine stpf_sk (a := 0) (by omega) k0.1 (fun t z1 z2 z3 => ?_)
  obtain ⟨i, i0, i1, i2⟩ := h3 t z1 (by omega) z3.1.1
  unfold unx at z2
  rw [if_pos (by omega)] at z2
  rcases Int.lt_or_eq_of_le i0 with y | y
  · have := h2 0 i (by omega) y i1
    omega
  · rw [← y] at i2
    omega
theorem us_s {T : xH} {KT p cnt i : Int} {u : Int → Int} (h : USB T KT p cnt u) (i0 : 0 ≤ i) (i1 : i < cnt) (f : Int → Int) (b0 set : Int) : stpf T p f b0 set (unx KT cnt u (i + 1)).toNat = stpf T p f b0 set (u i + 1).toNat := by
  obtain ⟨c0, c1, h1, h2, h3⟩ := h
  have a := h1 i i0 i1
  have k0 : u i + 1 ≤ unx KT cnt u (i + 1) ∧ unx KT cnt u (i + 1) ≤ KT := by
    unfold unx
    split
    · have := h1 (i + 1) (by omega) (by omega)
      have := h2 i (i + 1) i0 (by omega) (by omega)
      omega
    · omega
  refine stpf_sk (by omega) k0.1 (fun t z1 z2 z3 => ?_)
  obtain ⟨j, j0, j1, j2⟩ := h3 t (by omega) (by omega) z3.1.1
  rcases Int.lt_trichotomy j i with y | y | y
  · have := h2 j i j0 y i1
    omega
  · rw [y] at j2
    omega
  · unfold unx at z2
    rw [if_pos (by omega)] at z2
    rcases Int.lt_or_eq_of_le (show i + 1 ≤ j by omega) with x | x
    · have := h2 (i + 1) j (by omega) x j1
      omega
    · rw [x] at z2
      omega
/-- no later TEST does what one cannot -/
theorem us_x {S T : xH} {KE KT p cnt i : Int} {m : Nat} {u : Int → Int} (o : OKS S T KE KT m) (h : USB T KT p cnt u) (i0 : 0 ≤ i) (i1 : i < cnt) {f : Int → Int} (hf : ∀ s, 1 ≤ f s) {b0 set : Int} (z : stpf T p f b0 set (u i).toNat ≤ T 4 (u i) + 3) : stpf T p f b0 set KT.toNat = stpf T p f b0 set (u i).toNat := by
  obtain ⟨c0, c1, h1, h2, h3⟩ := h
  have a := h1 i i0 i1
  refine stpf_sk (by omega) (by omega) (fun t z1 z2 z3 => ?_)
  have q := (o.2.2.2.2 t (by omega) z2).2.2 (u i) (by omega) z1
  have x := hf (xand set (T 6 t))
  have y := hf (xxor set (xand set (T 6 t)))
  have z4 := z3.2
  unfold szt at z4
  omega
