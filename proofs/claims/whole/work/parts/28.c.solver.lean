theorem USB_0 (T : xH) (p : Int) (u : Int → Int) : USB T 0 p 0 u := ⟨Int.le_refl _, Int.le_refl _, fun i z1 z2 => by omega, fun i j z1 z2 z3 => by omega, fun t z1 z2 => by omega⟩
theorem USB_y {T : xH} {t p c : Int} {u u' : Int → Int} (h : USB T t p c u) (ht : 0 ≤ t) (hl : lk (T 11 t) p) (hu : ∀ j, j ≠ c → u' j = u j) (hc : u' c = t) : USB T (t + 1) p (c + 1) u' := by
  obtain ⟨c0, c1, h1, h2, h3⟩ := h
  refine ⟨by omega, by omega, fun i z1 z2 => ?_, fun i j z1 z2 z3 => ?_, fun s z1 z2 z3 => ?_⟩
  · by_cases e : i = c
    · rw [e, hc]; exact ⟨ht, by omega, hl⟩
    · rw [hu i e]
      obtain ⟨a, b, d⟩ := h1 i z1 (by omega)
      exact ⟨a, by omega, d⟩
  · rw [hu i (by omega)]
    by_cases e : j = c
    · rw [e, hc]
      exact (h1 i z1 (by omega)).2.1
    · rw [hu j e]
      exact h2 i j z1 z2 (by omega)
  · by_cases e : s = t
    · exact ⟨c, c0, by omega, by rw [hc, e]⟩
    · obtain ⟨i, a, b, d⟩ := h3 s z1 (by omega) z3
      exact ⟨i, a, by omega, by rw [hu i (by omega)]; exact d⟩
theorem USB_n {T : xH} {t p c : Int} {u : Int → Int} (h : USB T t p c u) (hl : ¬ lk (T 11 t) p) : USB T (t + 1) p c u := by
  obtain ⟨c0, c1, h1, h2, h3⟩ := h
  refine ⟨c0, by omega, fun i z1 z2 => ?_, h2, fun s z1 z2 z3 => ?_⟩
  · obtain ⟨a, b, d⟩ := h1 i z1 z2
    exact ⟨a, by omega, d⟩
  · by_cases e : s = t
    · rw [e] at z3; exact absurd z3 hl
    · exact h3 s z1 (by omega) z3
/-- the least, or 300 -/
noncomputable def lv (q : Int → Prop) (KE : Int) : Int := if fnd q KE.toNat = -1 then 300 else fnd q KE.toNat
theorem lv_spec {q : Int → Prop} {KE : Int} (h : KE ≤ 300) (h0 : 0 ≤ KE) : (lv q KE = 300 ∧ ∀ k, 0 ≤ k → k < KE → ¬ q k) ∨ (0 ≤ lv q KE ∧ lv q KE < KE ∧ q (lv q KE) ∧ ∀ k, 0 ≤ k → k < lv q KE → ¬ q k) := by
  unfold lv
  rcases fnd_spec q KE.toNat with ⟨a, b⟩ | ⟨a, b, c, d⟩
  · rw [if_pos a]
    exact Or.inl ⟨rfl, fun k z1 z2 => b k z1 (by omega)⟩
  · rw [if_neg (by omega)]
    exact Or.inr ⟨a, by omega, c, d⟩
theorem lv_is {q : Int → Prop} {KE v : Int} (h0 : 0 ≤ v) (h1 : v < KE) (h2 : q v) (h3 : ∀ k, 0 ≤ k → k < v → ¬ q k) : lv q KE = v := by
  unfold lv
  rw [fnd_is h0 h1 h2 h3, if_neg (by omega)]
theorem lv_no {q : Int → Prop} {KE : Int} (h : ∀ k, 0 ≤ k → k < KE → ¬ q k) : lv q KE = 300 := by
  unfold lv
  rw [fnd_no h, if_pos rfl]
theorem lv_congr {q r : Int → Prop} {KE : Int} (h : ∀ k, 0 ≤ k → k < KE → (q k ↔ r k)) : lv q KE = lv r KE := by
  unfold lv
  rw [fnd_congr KE.toNat (fun k z1 z2 => h k z1 (by omega))]
theorem lv_or {q r s : Int → Prop} {KE : Int} (h : KE ≤ 300) (h0 : 0 ≤ KE) (hs : ∀ k, 0 ≤ k → k < KE → (s k ↔ q k ∨ r k)) : lv s KE = if lv r KE < lv q KE then lv r KE else lv q KE := by
  rcases lv_spec (q := q) h h0 with ⟨a1, a2⟩ | ⟨a1, a2, a3, a4⟩
  · rcases lv_spec (q := r) h h0 with ⟨b1, b2⟩ | ⟨b1, b2, b3, b4⟩
    · rw [lv_no (fun k z1 z2 z => by
        rcases (hs k z1 z2).mp z with y | y
        · exact a2 k z1 z2 y
        · exact b2 k z1 z2 y), if_neg (by omega), a1]
    · rw [if_pos (by omega)]
      exact lv_is b1 b2 ((hs _ b1 b2).mpr (Or.inr b3)) (fun k z1 z2 z => by
        rcases (hs k z1 (by omega)).mp z with y | y
        · exact a2 k z1 (by omega) y
        · exact b4 k z1 z2 y)
  · rcases lv_spec (q := r) h h0 with ⟨b1, b2⟩ | ⟨b1, b2, b3, b4⟩
    · rw [if_neg (by omega)]
      exact lv_is a1 a2 ((hs _ a1 a2).mpr (Or.inl a3)) (fun k z1 z2 z => by
        rcases (hs k z1 (by omega)).mp z with y | y
        · exact a4 k z1 z2 y
        · exact b2 k z1 (by omega) y)
    · by_cases e : lv r KE < lv q KE
      · rw [if_pos e]
        exact lv_is b1 b2 ((hs _ b1 b2).mpr (Or.inr b3)) (fun k z1 z2 z => by
          rcases (hs k z1 (by omega)).mp z with y | y
          · exact a4 k z1 (by omega) y
          · exact b4 k z1 z2 y)
      · rw [if_neg e]
        exact lv_is a1 a2 ((hs _ a1 a2).mpr (Or.inl a3)) (fun k z1 z2 z => by
          rcases (hs k z1 (by omega)).mp z with y | y
          · exact a4 k z1 z2 y
          · exact b4 k z1 (by omega) y)
/-- up to bit b a set may have less -/
def sbt (b : Nat) (s c : Int) : Prop := ∀ i : Nat, (i < b → tb s i = true → tb c i = true) ∧ (b ≤ i → tb s i = tb c i)
def lq (S : xH) (p : Int) (b : Nat) (s : Int) : Int → Prop := fun k => lk (S 11 k) p ∧ sbt b s (S 6 k)
theorem sbt_0 {s c : Int} (hs : 0 ≤ s) (hc : 0 ≤ c) : sbt 0 s c ↔ c = s :=
  ⟨fun h => tb_ext hc hs (fun i => ((h i).2 (by omega)).symm), fun h => by rw [h]; exact fun i => ⟨fun z => by omega, fun _ => rfl⟩⟩
theorem sbt_m {m : Nat} {s c : Int} (hm : m ≤ 12) (hs : ir m s) (hc : ir m c) : sbt m s c ↔ sub s c := by
  rw [sub_t hm hs hc]
  constructor
  · intro h i hi
    by_cases z : i < m
    · exact (h i).1 z hi
    · rw [← (h i).2 (by omega)]; exact hi
  · intro h i
    exact ⟨fun _ => h i, fun z => by rw [tb_hi hs z, tb_hi hc z]⟩
theorem tb_2 (b i : Nat) : tb ((2 ^ b : Nat) : Int) i = decide (b = i) := by
  unfold tb
  rw [Int.toNat_natCast, Nat.testBit_two_pow]
theorem ir_2 {m b : Nat} (h : b < m) : ir m ((2 ^ b : Nat) : Int) := ⟨Int.natCast_nonneg _, by exact_mod_cast Nat.pow_lt_pow_right (by decide) h⟩
theorem sbt_1 {m b : Nat} {s c : Int} (hm : m ≤ 12) (hb : b < m) (hs : ir m s) (z : xand s ((2 ^ b : Nat) : Int) ≠ 0) : sbt (b + 1) s c ↔ sbt b s c := by
  have hz : tb s b = true := by
    obtain ⟨i, hi⟩ := tb_ne (xa_r hm hs (ir_2 hb)).1 z
    rw [tb_and hm hs (ir_2 hb), tb_2] at hi
    simp only [Bool.and_eq_true, decide_eq_true_eq] at hi
    rw [hi.2]; exact hi.1
  constructor
  · intro h i
    refine ⟨fun y => (h i).1 (by omega), fun y => ?_⟩
    by_cases e : i = b
    · rw [e, hz, (h b).1 (by omega) hz]
    · exact (h i).2 (by omega)
  · intro h i
    refine ⟨fun y => ?_, fun y => (h i).2 (by omega)⟩
    by_cases e : i = b
    · rw [e, (h b).2 (by omega)]; exact id
    · exact (h i).1 (by omega)
theorem sbt_2 {m b : Nat} {s c : Int} (hm : m ≤ 12) (hb : b < m) (hs : ir m s) (z : xand s ((2 ^ b : Nat) : Int) = 0) : sbt (b + 1) s c ↔ sbt b s c ∨ sbt b (xor_ s ((2 ^ b : Nat) : Int)) c := by
  have hz : tb s b = false := by
    have := tb_and hm hs (ir_2 hb) b
    rw [z, tb_0, tb_2] at this
    simpa using this.symm
  have ho : ∀ i, tb (xor_ s ((2 ^ b : Nat) : Int)) i = (tb s i || decide (b = i)) := fun i => by rw [tb_or hm hs (ir_2 hb), tb_2]
  constructor
  · intro h
    cases e9 : tb c b
    · refine Or.inl (fun i => ⟨fun y => (h i).1 (by omega), fun y => ?_⟩)
      by_cases e : i = b
      · rw [e, hz, e9]
      · exact (h i).2 (by omega)
    · refine Or.inr (fun i => ?_)
      rw [ho i]
      by_cases e : i = b
      · rw [e, e9]; exact ⟨fun _ _ => rfl, fun _ => by simp⟩
      · have : decide (b = i) = false := by simp; omega
        rw [this, Bool.or_false]
        exact ⟨fun y => (h i).1 (by omega), fun y => (h i).2 (by omega)⟩
  · rintro (h | h) i
    · refine ⟨fun y => ?_, fun y => (h i).2 (by omega)⟩
      by_cases e : i = b
      · rw [e, hz]; intro x; cases x
      · exact (h i).1 (by omega)
    · have hi := h i
      rw [ho i] at hi
      by_cases e : i = b
      · refine ⟨fun y => ?_, fun y => by omega⟩
        rw [e, hz]; intro x; cases x
      · have : decide (b = i) = false := by simp; omega
        rw [this, Bool.or_false] at hi
        exact ⟨fun y => hi.1 (by omega), fun y => hi.2 (by omega)⟩
theorem lq_1 {S : xH} {p KE s : Int} {m b : Nat} (hm : m ≤ 12) (hb : b < m) (hs : ir m s) (z : xand s ((2 ^ b : Nat) : Int) ≠ 0) : lv (lq S p (b + 1) s) KE = lv (lq S p b s) KE := lv_congr (fun k _ _ => by unfold lq; rw [sbt_1 hm hb hs z])
theorem lq_2 {S : xH} {p KE s : Int} {m b : Nat} (h : KE ≤ 300) (h0 : 0 ≤ KE) (hm : m ≤ 12) (hb : b < m) (hs : ir m s) (z : xand s ((2 ^ b : Nat) : Int) = 0) : lv (lq S p (b + 1) s) KE = if lv (lq S p b (xor_ s ((2 ^ b : Nat) : Int))) KE < lv (lq S p b s) KE then lv (lq S p b (xor_ s ((2 ^ b : Nat) : Int))) KE else lv (lq S p b s) KE := lv_or h h0 (fun k _ _ => by
  unfold lq
  rw [sbt_2 hm hb hs z]
  constructor
  · rintro ⟨a, y | y⟩
    · exact Or.inl ⟨a, y⟩
    · exact Or.inr ⟨a, y⟩
  · rintro (⟨a, y⟩ | ⟨a, y⟩)
    · exact ⟨a, Or.inl y⟩
    · exact ⟨a, Or.inr y⟩)
theorem lv_r {q : Int → Prop} {KE : Int} (h : KE ≤ 300) (h0 : 0 ≤ KE) : 0 ≤ lv q KE ∧ lv q KE ≤ 300 := by
  rcases lv_spec (q := q) h h0 with z | z <;> omega
/-- going down: the least one from k on that has just the set -/
def ldn (S : xH) (p KE k s v : Int) : Prop := (v = 300 ∧ ∀ j, k < j → j < KE → ¬ (lk (S 11 j) p ∧ S 6 j = s)) ∨ (k < v ∧ v < KE ∧ lk (S 11 v) p ∧ S 6 v = s ∧ ∀ j, k < j → j < v → ¬ (lk (S 11 j) p ∧ S 6 j = s))
theorem ldn_lv {S : xH} {p KE s v : Int} (hs : 0 ≤ s) (h6 : ∀ k, 0 ≤ k → k < KE → 0 ≤ S 6 k) (h : ldn S p KE (-1) s v) : v = lv (lq S p 0 s) KE := by
  have hq : ∀ k, 0 ≤ k → k < KE → (lq S p 0 s k ↔ lk (S 11 k) p ∧ S 6 k = s) := fun k z1 z2 => by unfold lq; rw [sbt_0 hs (h6 k z1 z2)]
  rcases h with ⟨a, b⟩ | ⟨a, b, c, d, e⟩
  · rw [lv_no (fun k z1 z2 z => b k (by omega) z2 ((hq k z1 z2).mp z)), a]
  · exact (lv_is (by omega) b ((hq v (by omega) b).mpr ⟨c, d⟩) (fun k z1 z2 z => e k (by omega) z2 ((hq k z1 (by omega)).mp z))).symm
theorem ldn_n {S : xH} {p KE k s v : Int} (h : ldn S p KE k s v) (z : ¬ (lk (S 11 k) p ∧ S 6 k = s)) : ldn S p KE (k - 1) s v := by
  rcases h with ⟨a, b⟩ | ⟨a, b, c, d, e⟩
  · exact Or.inl ⟨a, fun j z1 z2 => by
      by_cases y : j = k
      · rw [y]; exact z
      · exact b j (by omega) z2⟩
  · exact Or.inr ⟨by omega, b, c, d, fun j z1 z2 => by
      by_cases y : j = k
      · rw [y]; exact z
      · exact e j (by omega) z2⟩
theorem ldn_y {S : xH} {p KE k s : Int} (hk : k < KE) (z : lk (S 11 k) p ∧ S 6 k = s) : ldn S p KE (k - 1) s k := Or.inr ⟨by omega, hk, z.1, z.2, fun j z1 z2 => by omega⟩
/-- what the covers have together -/
def cvd (S : xH) (p KE k c : Int) : Prop := ∀ i : Nat, tb c i = true ↔ ∃ j, k < j ∧ j < KE ∧ lk (S 11 j) p ∧ tb (S 6 j) i = true
theorem cvd_n {S : xH} {p KE k c : Int} (h : cvd S p KE k c) (z : ¬ lk (S 11 k) p) : cvd S p KE (k - 1) c := fun i => by
  rw [h i]
  constructor
  · rintro ⟨j, a, b⟩; exact ⟨j, by omega, b⟩
  · rintro ⟨j, a, b, c, d⟩
    by_cases y : j = k
    · rw [y] at c; exact absurd c z
    · exact ⟨j, by omega, b, c, d⟩
theorem cvd_y {S : xH} {p KE k c : Int} {m : Nat} (hm : m ≤ 12) (hc : ir m c) (h6 : ir m (S 6 k)) (hk : k < KE) (h : cvd S p KE k c) (z : lk (S 11 k) p) : cvd S p KE (k - 1) (xor_ c (S 6 k)) := fun i => by
  rw [tb_or hm hc h6, Bool.or_eq_true, h i]
  constructor
  · rintro (⟨j, a, b⟩ | a)
    · exact ⟨j, by omega, b⟩
    · exact ⟨k, by omega, hk, z, a⟩
  · rintro ⟨j, a, b, c, d⟩
    by_cases y : j = k
    · rw [y] at d; exact Or.inr d
    · exact Or.inl ⟨j, by omega, b, c, d⟩
set_option maxHeartbeats 1000000 in
theorem c_findUs (d b : Nat) (h T : xH) (p KT : Int) (hp : h 44 10 = p) (hp9 : p = -1 ∨ (0 ≤ p ∧ p ≤ 9)) (hK : h 28 9 = KT) (hK9 : 0 ≤ KT ∧ KT ≤ 150) (h11 : ∀ t, 0 ≤ t → t < KT → h 38 t = T 11 t) {Q : xO → xH → Prop} (hQ : ∀ h', (∀ a, a ≠ 44 → a ≠ 55 → h' a = h a) → (∀ j, j ≠ 8 → h' 44 j = h 44 j) → USB T KT p (h' 44 8) (h' 55) → Q (.inl none) h') : xRn G0 MT (d + 3) b 60 [.inr (.inr 44)] h Q := by
  refine R_of (M := mX7_findUsable) rfl (Nat.le_of_ble_eq_true rfl) ?_
  show xEx G0 cdX7_findUsable none (xRn G0 MT (d + 2)) Q b 0 [some (.inr (.inr 44)), none] [] h
  refine E_s 5 (i' := 5) (ls' := [some (.inr (.inr 44)), some (.inl 0)]) (sk' := []) (h' := (xup h 44 8 0)) rfl ?_
  have key5 : ∀ (n : Nat) (hh : xH) (t : Int), (0 ≤ t) → (t ≤ KT) → (∀ a, a ≠ 44 → a ≠ 55 → hh a = h a) → (∀ j, j ≠ 8 → hh 44 j = h 44 j) → (USB T t p (hh 44 8) (hh 55)) → ((KT - t).toNat) < n → xEx G0 cdX7_findUsable none (xRn G0 MT (d + 2)) Q b 5 [some (.inr (.inr 44)), some (.inl t)] [] hh := by
    intro n
    induction n with
    | zero => intro hh t _ _ _ _ _ hm; exact absurd hm (Nat.not_lt_zero _)
    | succ n ih5 =>
      intro hh t ht0 ht9 hf hf2 hu hm5
      have ek : hh 28 9 = KT := by rw [hf _ (by decide) (by decide)]; exact hK
      have ep : hh 44 10 = p := by rw [hf2 _ (by decide)]; exact hp
      have cb : 0 ≤ hh 44 8 ∧ hh 44 8 ≤ t := ⟨hu.1, hu.2.1⟩
      refine E_s 4 (i' := 9) (ls' := [some (.inr (.inr 44)), some (.inl t)]) (sk' := [.inl (hh 28 9), .inl t]) (h' := hh) rfl ?_
      refine E_b (x := (.if_icmp .ge 44, 31, [], [])) rfl rfl (fun c9 => ?_) (fun c9 => ?_)
      · rw [c_ge (by first | assumption | (refine ⟨?_, ?_⟩ <;> omega) | (simp only [xr] at *; omega)) (by first | assumption | (refine ⟨?_, ?_⟩ <;> omega) | (simp only [xr] at *; omega))] at c9
        simp only [decide_eq_true_eq, decide_eq_false_iff_not, Decidable.not_not] at c9
        show xEx G0 cdX7_findUsable none (xRn G0 MT (d + 2)) Q b 31 [some (.inr (.inr 44)), some (.inl t)] [] hh
        exact E_ret (x := (.return_, 0, [], [])) (v := none) rfl (trivial) (hQ _ hf hf2 (by
          have e9 : t = KT := by omega
          rw [e9] at hu
          exact hu))
      · rw [c_ge (by first | assumption | (refine ⟨?_, ?_⟩ <;> omega) | (simp only [xr] at *; omega)) (by first | assumption | (refine ⟨?_, ?_⟩ <;> omega) | (simp only [xr] at *; omega))] at c9
        simp only [decide_eq_true_eq, decide_eq_false_iff_not, Decidable.not_not] at c9
        show xEx G0 cdX7_findUsable none (xRn G0 MT (d + 2)) Q b 10 [some (.inr (.inr 44)), some (.inl t)] [] hh
        refine E_s 5 (i' := 15) (ls' := [some (.inr (.inr 44)), some (.inl t)]) (sk' := [.inl (hh 44 10), .inl t, .inr (.inr 28)]) (h' := hh) rfl ?_
        refine E_cp (x := (.invokevirtual 88, 2, [(7, 29)], [1])) (q := fun r1 h9 => ((r1 = 1 ∧ (lk (hh 38 t) (hh 44 10))) ∨ (r1 = 0 ∧ ¬ (lk (hh 38 t) (hh 44 10)))) ∧ hh = h9) rfl rfl (Nat.le_of_ble_eq_true rfl) (c_lacks1 d 0 hh t (hh 44 10) ⟨by omega, by omega⟩ (by rw [ep]; exact hp9) (fun z => ⟨_, rfl, Or.inl ⟨rfl, z⟩, rfl⟩) (fun z => ⟨_, rfl, Or.inr ⟨rfl, z⟩, rfl⟩)) (fun r1 h9 q1 => ?_)
        obtain ⟨q1, rfl⟩ := q1
        show xEx G0 cdX7_findUsable none (xRn G0 MT (d + 2)) Q b 16 [some (.inr (.inr 44)), some (.inl t)] [.inl r1] hh
        refine E_b (x := (.ifCond .eq 23, 29, [], [])) rfl rfl (fun c16 => ?_) (fun c16 => ?_)
        · rw [c_eq (by first | assumption | (refine ⟨?_, ?_⟩ <;> omega) | (simp only [xr] at *; omega)) (by first | assumption | (refine ⟨?_, ?_⟩ <;> omega) | (simp only [xr] at *; omega))] at c16
          simp only [decide_eq_true_eq, decide_eq_false_iff_not, Decidable.not_not] at c16
          show xEx G0 cdX7_findUsable none (xRn G0 MT (d + 2)) Q b 29 [some (.inr (.inr 44)), some (.inl t)] [] hh
          have nl : ¬ lk (T 11 t) p := by
            have y9 := o0 q1 c16
            rw [hf _ (by decide) (by decide), h11 t ht0 (by omega), ep] at y9
            exact y9
          refine E_s 2 (i' := 5) (ls' := [some (.inr (.inr 44)), some (.inl (t + 1))]) (sk' := []) (h' := hh) rfl ?_
          exact ih5 _ (t + 1) (by omega) (by omega) hf hf2 (USB_n hu nl) (by omega)
        · rw [c_eq (by first | assumption | (refine ⟨?_, ?_⟩ <;> omega) | (simp only [xr] at *; omega)) (by first | assumption | (refine ⟨?_, ?_⟩ <;> omega) | (simp only [xr] at *; omega))] at c16
          simp only [decide_eq_true_eq, decide_eq_false_iff_not, Decidable.not_not] at c16
          show xEx G0 cdX7_findUsable none (xRn G0 MT (d + 2)) Q b 17 [some (.inr (.inr 44)), some (.inl t)] [] hh
          have yl : lk (T 11 t) p := by
            have y9 := o1 q1 c16
            rw [hf _ (by decide) (by decide), h11 t ht0 (by omega), ep] at y9
            exact y9
          refine E_s 5 (i' := 22) (ls' := [some (.inr (.inr 44)), some (.inl t)]) (sk' := [.inl t, .inl (hh 44 8), .inr (.inr 55)]) (h' := hh) rfl ?_
          refine E_sd (x := (.iastore, 0, [], [])) (ty := .int) (n := 150) (y := t) rfl rfl rfl (by omega) (by omega) (trivial) ?_
          show xEx G0 cdX7_findUsable none (xRn G0 MT (d + 2)) Q b 23 [some (.inr (.inr 44)), some (.inl t)] [] (xup hh 55 (hh 44 8) t)
          refine E_s 6 (i' := 29) (ls' := [some (.inr (.inr 44)), some (.inl t)]) (sk' := []) (h' := (xup (xup hh 55 (hh 44 8) t) 44 8 ((hh 44 8) + 1))) rfl ?_
          skip
          refine E_s 2 (i' := 5) (ls' := [some (.inr (.inr 44)), some (.inl (t + 1))]) (sk' := []) (h' := (xup (xup hh 55 (hh 44 8) t) 44 8 ((hh 44 8) + 1))) rfl ?_
          exact ih5 _ (t + 1) (by omega) (by omega) (fun a z1 z2 => by rw [xup_o _ _ _ _ a z1, xup_o _ _ _ _ a z2]; exact hf a z1 z2) (fun j z => by rw [xup_j z]; exact hf2 j z) (by
            have u9 := USB_y (u' := xup hh 55 (hh 44 8) t 55) hu ht0 yl (fun j z => xup_j z) xup_s
            exact u9) (by omega)
  exact key5 _ _ 0 (by omega) (by omega) (fun a z1 z2 => xup_o _ _ _ _ a z1) (fun j z => xup_j z) (USB_0 T p _) (Nat.lt_succ_self _)
