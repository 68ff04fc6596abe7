/-! the fewest that COVER -/
noncomputable def mc (S : xH) (KE set : Int) : Int := fwf S KE set.toNat set
abbrev rst (S : xH) (set k : Int) : Int := xand set (xxor (S 6 k) (-1))
def OKC (S : xH) (KE : Int) (m : Nat) : Prop := m ≤ 12 ∧ 0 ≤ KE ∧ ∀ k, 0 ≤ k → k < KE → ir m (S 6 k)
section FEW
variable {S : xH} {KE set : Int} {m : Nat}
theorem rst_b {k : Int} (o : OKC S KE m) (hs : ir m set) (k0 : 0 ≤ k) (k1 : k < KE) (i : Nat) : tb (rst S set k) i = (tb set i && !tb (S 6 k) i) := tb_andn o.1 hs (o.2.2 k k0 k1) i
theorem rst_r {k : Int} (o : OKC S KE m) (hs : ir m set) (k0 : 0 ≤ k) (k1 : k < KE) : ir m (rst S set k) := xn_r o.1 hs (o.2.2 k k0 k1)
theorem rst_l {k : Int} (o : OKC S KE m) (hs : ir m set) (k0 : 0 ≤ k) (k1 : k < KE) : rst S set k ≤ set := by
  have e : rst S set k = ((andn set.toNat (S 6 k).toNat : Nat) : Int) := xn_n o.1 hs (o.2.2 k k0 k1)
  rw [e]
  have : andn set.toNat (S 6 k).toNat ≤ set.toNat := Nat.and_le_left
  have := hs.1
  omega
theorem few1_c {f g : Int → Int} : ∀ n : Nat, (∀ k : Nat, k < n → rst S set k ≠ set → f (rst S set k) = g (rst S set k)) → few1 S f set n = few1 S g set n
  | 0, _ => rfl
  | n + 1, h => by
    have ih := few1_c n (fun k z => h k (by omega))
    unfold few1
    rw [ih]
    by_cases y : rst S set n ≠ set
    · rw [show f (xand set (xxor (S 6 n) (-1))) = g (xand set (xxor (S 6 n) (-1))) from h n (by omega) y]
    · rw [if_neg (fun z => y z.1), if_neg (fun z => y z.1)]
theorem few1_le {f : Int → Int} : ∀ (n k : Nat), k < n → rst S set k ≠ set → few1 S f set n ≤ f (rst S set k) + 1
  | 0, k, hk, _ => by omega
  | n + 1, k, hk, y => by
    unfold few1
    by_cases e : k = n
    · subst e
      split
      · exact Int.le_refl _
      · rename_i z
        exact Int.not_lt.mp (fun w => z ⟨y, w⟩)
    · have := few1_le (f := f) n k (by omega) y
      split
      · rename_i z
        exact Int.le_trans (Int.le_of_lt z.2) this
      · exact this
theorem few1_ex {f : Int → Int} : ∀ n : Nat, few1 S f set n = 1000000 ∨ ∃ k : Nat, k < n ∧ rst S set k ≠ set ∧ few1 S f set n = f (rst S set k) + 1
  | 0 => Or.inl rfl
  | n + 1 => by
    unfold few1
    split
    · rename_i z
      exact Or.inr ⟨n, by omega, z.1, rfl⟩
    · rcases few1_ex (f := f) n with y | ⟨k, a, b, c⟩
      · exact Or.inl y
      · exact Or.inr ⟨k, by omega, b, c⟩
theorem few1_6 {f : Int → Int} : ∀ n : Nat, few1 S f set n ≤ 1000000
  | 0 => Int.le_refl _
  | n + 1 => by
    have := few1_6 (f := f) n
    unfold few1
    split
    · rename_i z
      omega
    · exact this
theorem fwf_st (o : OKC S KE m) : ∀ (n : Nat) (set : Int), set.toNat = n → ir m set → ∀ q1 q2 : Nat, n ≤ q1 → n ≤ q2 → fwf S KE q1 set = fwf S KE q2 set := by
  intro n
  induction n using Nat.strongRecOn with
  | ind n ih =>
    intro set e hs q1 q2 a b
    by_cases z : set = 0
    · subst z
      have f0 : ∀ q, fwf S KE q 0 = 0 := fun q => by
        cases q with
        | zero => rfl
        | succ q => show (if (0 : Int) = 0 then 0 else few1 S (fwf S KE q) 0 KE.toNat) = 0; rw [if_pos rfl]
      rw [f0, f0]
    · have := hs.1
      obtain ⟨a1, rfl⟩ : ∃ a1, q1 = a1 + 1 := ⟨q1 - 1, by omega⟩
      obtain ⟨b1, rfl⟩ : ∃ b1, q2 = b1 + 1 := ⟨q2 - 1, by omega⟩
      show (if set = 0 then 0 else few1 S (fwf S KE a1) set KE.toNat) = (if set = 0 then 0 else few1 S (fwf S KE b1) set KE.toNat)
      rw [if_neg z, if_neg z]
      refine few1_c _ (fun k hk y => ?_)
      have k1 : (k : Int) < KE := by omega
      have r := rst_r (k := k) o hs (by omega) k1
      have l := rst_l (k := k) o hs (by omega) k1
      have lt : (rst S set k).toNat < n := by have := r.1; omega
      exact ih _ lt _ rfl r a1 b1 (by omega) (by omega)
theorem mc_z : mc S KE 0 = 0 := rfl
theorem mc_eq (o : OKC S KE m) (hs : ir m set) (z : set ≠ 0) : mc S KE set = few1 S (mc S KE) set KE.toNat := by
  have := hs.1
  obtain ⟨a, e⟩ : ∃ a, set.toNat = a + 1 := ⟨set.toNat - 1, by omega⟩
  show fwf S KE set.toNat set = _
  rw [e]
  show (if set = 0 then 0 else few1 S (fwf S KE a) set KE.toNat) = _
  rw [if_neg z]
  refine few1_c _ (fun k hk y => ?_)
  have k1 : (k : Int) < KE := by omega
  have r := rst_r (k := k) o hs (by omega) k1
  have l := rst_l (k := k) o hs (by omega) k1
  show fwf S KE a (rst S set k) = fwf S KE (rst S set k).toNat (rst S set k)
  exact fwf_st o _ _ rfl r a _ (by have := r.1; omega) (Nat.le_refl _)
theorem mc_le {k : Int} (o : OKC S KE m) (hs : ir m set) (k0 : 0 ≤ k) (k1 : k < KE) (y : rst S set k ≠ set) : mc S KE set ≤ mc S KE (rst S set k) + 1 := by
  have r := rst_r o hs k0 k1
  have l := rst_l o hs k0 k1
  have z : set ≠ 0 := fun z => by have := r.1; omega
  rw [mc_eq o hs z]
  have := few1_le (f := mc S KE) (S := S) (set := set) KE.toNat k.toNat (by omega) (by rw [Int.toNat_of_nonneg k0]; exact y)
  rw [Int.toNat_of_nonneg k0] at this
  exact this
theorem mc_ex (o : OKC S KE m) (hs : ir m set) (z : set ≠ 0) : mc S KE set = 1000000 ∨ ∃ k, 0 ≤ k ∧ k < KE ∧ rst S set k ≠ set ∧ mc S KE set = mc S KE (rst S set k) + 1 := by
  have e := mc_eq o hs z
  rcases few1_ex (f := mc S KE) (S := S) (set := set) KE.toNat with y | ⟨k, a, b, c⟩
  · exact Or.inl (e.trans y)
  · exact Or.inr ⟨k, by omega, by omega, b, e.trans c⟩
theorem mc_6 (o : OKC S KE m) (hs : ir m set) : mc S KE set ≤ 1000000 := by
  by_cases z : set = 0
  · rw [z, mc_z]; decide
  · rw [mc_eq o hs z]; exact few1_6 _
theorem mc_0 (o : OKC S KE m) : ∀ (n : Nat) (set : Int), set.toNat = n → ir m set → 0 ≤ mc S KE set ∧ (set ≠ 0 → 1 ≤ mc S KE set) := by
  intro n
  induction n using Nat.strongRecOn with
  | ind n ih =>
    intro set e hs
    by_cases z : set = 0
    · rw [z, mc_z]; exact ⟨Int.le_refl _, fun y => absurd rfl y⟩
    · rcases mc_ex o hs z with y | ⟨k, k0, k1, y, e1⟩
      · omega
      · have r := rst_r o hs k0 k1
        have l := rst_l o hs k0 k1
        have := (ih (rst S set k).toNat (by have := r.1; omega) _ rfl r).1
        omega
theorem mc_low (o : OKC S KE m) : ∀ (n : Nat) (set : Int), set.toNat = n → ir m set → ∀ l, tb set l = true → mc S KE set = 1000000 ∨ ∃ k, 0 ≤ k ∧ k < KE ∧ tb (S 6 k) l = true ∧ mc S KE set = mc S KE (rst S set k) + 1 := by
  intro n
  induction n using Nat.strongRecOn with
  | ind n ih =>
    intro set e hs l hl
    have z : set ≠ 0 := fun z => by rw [z, tb_0] at hl; cases hl
    rcases mc_ex o hs z with y | ⟨k0, a0, a1, y, e0⟩
    · exact Or.inl y
    · have r := rst_r o hs a0 a1
      have ll := rst_l o hs a0 a1
      cases c : tb (S 6 k0) l
      · have t : tb (rst S set k0) l = true := by rw [rst_b o hs a0 a1, hl, c]; rfl
        rcases ih (rst S set k0).toNat (by have := r.1; omega) _ rfl r l t with w | ⟨k1, b0, b1, c1, e1⟩
        · have := mc_6 o hs
          omega
        · refine Or.inr ⟨k1, b0, b1, c1, ?_⟩
          have r1 := rst_r o hs b0 b1
          have n1 : rst S set k1 ≠ set := fun q => by
            have := rst_b o hs b0 b1 l
            rw [q, hl, c1] at this
            cases this
          have u1 := mc_le o hs b0 b1 n1
          have sw : rst S (rst S set k1) k0 = rst S (rst S set k0) k1 := tb_ext (rst_r o r1 a0 a1).1 (rst_r o r b0 b1).1 (fun i => by
            rw [rst_b o r1 a0 a1, rst_b o hs b0 b1, rst_b o r b0 b1, rst_b o hs a0 a1]
            cases tb set i <;> cases tb (S 6 k0) i <;> cases tb (S 6 k1) i <;> rfl)
          have u2 : mc S KE (rst S set k1) ≤ mc S KE (rst S (rst S set k1) k0) + 1 := by
            by_cases q : rst S (rst S set k1) k0 = rst S set k1
            · rw [q]; omega
            · exact mc_le o r1 a0 a1 q
          rw [sw] at u2
          omega
      · exact Or.inr ⟨k0, a0, a1, c, e0⟩
theorem tb_no {a : Int} (ha : 0 ≤ a) (h : ∀ i, tb a i = true → False) : a = 0 := tb_ext ha (by decide) (fun i => by
  rw [tb_0]
  cases e : tb a i
  · rfl
  · exact (h i e).elim)
theorem mc_up (o : OKC S KE m) : ∀ (n : Nat) (set : Int), ir m set → (∀ i, tb set i = true → i < n) → (∀ i, tb set i = true → ∃ k, 0 ≤ k ∧ k < KE ∧ tb (S 6 k) i = true) → mc S KE set ≤ n
  | 0, set, hs, h1, _ => by
    rw [tb_no hs.1 (fun i hi => by have := h1 i hi; omega), mc_z]
    exact Int.le_refl _
  | n + 1, set, hs, h1, h2 => by
    cases c : tb set n
    · have := mc_up o n set hs (fun i hi => by
        have := h1 i hi
        by_cases y : i = n
        · rw [y, c] at hi; cases hi
        · omega) h2
      omega
    · obtain ⟨k, k0, k1, k2⟩ := h2 n c
      have r := rst_r o hs k0 k1
      have bb := rst_b o hs k0 k1
      have n1 : rst S set k ≠ set := fun q => by
        have := bb n
        rw [q, c, k2] at this
        cases this
      have u := mc_le o hs k0 k1 n1
      have s : ∀ i, tb (rst S set k) i = true → tb set i = true ∧ tb (S 6 k) i = false := fun i hi => by
        rw [bb i] at hi
        revert hi
        cases tb set i <;> cases tb (S 6 k) i <;> simp
      have := mc_up o n (rst S set k) r (fun i hi => by
        have := h1 i (s i hi).1
        by_cases y : i = n
        · have q := (s i hi).2
          rw [y, k2] at q
          cases q
        · omega) (fun i hi => h2 i (s i hi).1)
      omega
theorem mc_un (o : OKC S KE m) (hs : ir m set) {e : Nat} (he : tb set e = true) (h : ∀ k, 0 ≤ k → k < KE → tb (S 6 k) e = false) : mc S KE set = 1000000 := by
  rcases mc_low o _ _ rfl hs e he with w | ⟨k, a, b, c, -⟩
  · exact w
  · rw [h k a b] at c
    cases c
/-- as those that COVER the lowest are tried -/
def LB (S : xH) (KE set : Int) (l : Nat) (k best : Int) : Prop := mc S KE set ≤ best ∧ 1 ≤ best ∧ best ≤ 12 ∧ ((best = 1 ∧ mc S KE set = 1) ∨ (2 ≤ mc S KE set ∧ ∀ j, 0 ≤ j → j < k → tb (S 6 j) l = true → best ≤ mc S KE (rst S set j) + 1))
theorem LB_end (o : OKC S KE m) (hs : ir m set) {l : Nat} (hl : tb set l = true) {k best : Int} (b : LB S KE set l k best) (e : KE ≤ k ∨ best ≤ 2) : best = mc S KE set := by
  obtain ⟨b1, b2, b3, b4⟩ := b
  rcases b4 with ⟨x, y⟩ | ⟨x, y⟩
  · omega
  · rcases e with e | e
    · rcases mc_low o _ _ rfl hs l hl with w | ⟨j, j0, j1, c, e1⟩
      · omega
      · have := y j j0 (by omega) c
        omega
    · omega
theorem LB_skip {l : Nat} {k best : Int} (c : tb (S 6 k) l = false) (b : LB S KE set l k best) : LB S KE set l (k + 1) best := by
  obtain ⟨b1, b2, b3, b4⟩ := b
  refine ⟨b1, b2, b3, ?_⟩
  rcases b4 with x | ⟨x, y⟩
  · exact Or.inl x
  · refine Or.inr ⟨x, fun j z1 z2 z3 => ?_⟩
    by_cases w : j = k
    · rw [w, c] at z3; cases z3
    · exact y j z1 (by omega) z3
theorem LB_step (o : OKC S KE m) (hs : ir m set) {l : Nat} (hl : tb set l = true) {k best r : Int} (k0 : 0 ≤ k) (k1 : k < KE) (c : tb (S 6 k) l = true) (h2 : 2 < best) (er : r = mc S KE (rst S set k)) (b : LB S KE set l k best) : LB S KE set l (k + 1) (if 1 + r < best then 1 + r else best) := by
  obtain ⟨b1, b2, b3, b4⟩ := b
  have n1 : rst S set k ≠ set := fun q => by
    have := rst_b o hs k0 k1 l
    rw [q, hl, c] at this
    cases this
  have u := mc_le o hs k0 k1 n1
  rcases b4 with x | ⟨x, y⟩
  · omega
  · unfold LB
    split
    · rename_i w
      refine ⟨by omega, by omega, by omega, Or.inr ⟨x, fun j z1 z2 z3 => ?_⟩⟩
      by_cases v : j = k
      · rw [v]; omega
      · have := y j z1 (by omega) z3; omega
    · rename_i w
      refine ⟨b1, b2, b3, Or.inr ⟨x, fun j z1 z2 z3 => ?_⟩⟩
      by_cases v : j = k
      · rw [v]; omega
      · exact y j z1 (by omega) z3
/-- one COVERs all, or none does -/
theorem LB_1 (o : OKC S KE m) (hs : ir m set) (z : set ≠ 0) {l : Nat} {k : Int} (k0 : 0 ≤ k) (k1 : k < KE) (c : sub set (S 6 k)) : LB S KE set l 0 1 := by
  have c : rst S set k = 0 := c
  have u := mc_le o hs k0 k1 (by rw [c]; exact fun y => z y.symm)
  rw [c, mc_z] at u
  have p := (mc_0 o _ _ rfl hs).2 z
  exact ⟨by omega, by omega, by omega, Or.inl ⟨rfl, by omega⟩⟩
theorem LB_12 (o : OKC S KE m) (hs : ir m set) (z : set ≠ 0) {l : Nat} (c : ∀ k, 0 ≤ k → k < KE → ¬ sub set (S 6 k)) (h2 : ∀ i, tb set i = true → ∃ k, 0 ≤ k ∧ k < KE ∧ tb (S 6 k) i = true) : LB S KE set l 0 12 := by
  have u := mc_up o m set hs (fun i hi => by
    rcases Nat.lt_or_ge i m with y | y
    · exact y
    · rw [tb_hi hs y] at hi; cases hi) h2
  have m12 := o.1
  refine ⟨by omega, by omega, by omega, Or.inr ⟨?_, fun j z1 z2 => by omega⟩⟩
  rcases mc_ex o hs z with y | ⟨k, k0, k1, y, e⟩
  · omega
  · have := (mc_0 o _ _ rfl (rst_r o hs k0 k1)).2 (fun w => c k k0 k1 w)
    omega
end FEW
theorem lowb : ∀ a b : Fin 64, 64 * a.val + b.val ≠ 0 → ∃ l : Fin 12, xand ((64 * a.val + b.val : Nat) : Int) (-((64 * a.val + b.val : Nat) : Int)) = ((2 ^ l.val : Nat) : Int) ∧ (64 * a.val + b.val).testBit l.val = true ∧ ∀ i : Fin 12, i < l → (64 * a.val + b.val).testBit i.val = false := by decide +kernel
theorem low_b {m : Nat} {set : Int} (hm : m ≤ 12) (hs : ir m set) (z : set ≠ 0) : ∃ l : Nat, l < 12 ∧ xand set (-set) = ((2 ^ l : Nat) : Int) ∧ tb set l = true ∧ ∀ i, i < l → tb set i = false := by
  have r := ir4 hm hs
  have ed : 64 * (set.toNat / 64) + set.toNat % 64 = set.toNat := by omega
  obtain ⟨l, h1, h2, h3⟩ := lowb ⟨set.toNat / 64, by omega⟩ ⟨set.toNat % 64, by omega⟩ (by show 64 * (set.toNat / 64) + set.toNat % 64 ≠ 0; omega)
  have e : ((set.toNat : Nat) : Int) = set := by omega
  have h1 : xand ((64 * (set.toNat / 64) + set.toNat % 64 : Nat) : Int) (-((64 * (set.toNat / 64) + set.toNat % 64 : Nat) : Int)) = _ := h1
  have h2 : (64 * (set.toNat / 64) + set.toNat % 64).testBit l.val = true := h2
  have h3 : ∀ i : Fin 12, i < l → (64 * (set.toNat / 64) + set.toNat % 64).testBit i.val = false := h3
  rw [ed] at h1 h2 h3
  rw [e] at h1
  exact ⟨l.val, l.isLt, h1, h2, fun i hi => h3 ⟨i, by omega⟩ hi⟩
theorem and_p {m l : Nat} {a : Int} (hm : m ≤ 12) (ha : ir m a) (hl : l < 12) : xand a ((2 ^ l : Nat) : Int) = 0 ↔ tb a l = false := by
  have a12 : ir 12 a := by
    have := Nat.pow_le_pow_right (n := 2) (i := m) (j := 12) (by decide) hm
    have := ha.1
    have := ha.2
    exact ⟨by omega, by omega⟩
  have p12 : ir 12 ((2 ^ l : Nat) : Int) := by
    have := Nat.pow_lt_pow_right (a := 2) (m := l) (n := 12) (by decide) hl
    exact ⟨Int.natCast_nonneg _, by exact_mod_cast this⟩
  have t := tb_and (Nat.le_refl 12) a12 p12
  have tp : ∀ i, tb ((2 ^ l : Nat) : Int) i = decide (l = i) := fun i => by
    unfold tb
    rw [Int.toNat_natCast, Nat.testBit_two_pow]
  constructor
  · intro h
    have := t l
    rw [h, tb_0, tp, decide_eq_true rfl, Bool.and_true] at this
    exact this.symm
  · intro h
    refine tb_no (xa_r (Nat.le_refl 12) a12 p12).1 (fun i hi => ?_)
    rw [t i, tp i] at hi
    by_cases y : l = i
    · rw [← y, h] at hi; cases hi
    · rw [decide_eq_false y, Bool.and_false] at hi; cases hi
