theorem nI_of_nat (a : Nat) : Int32.ofInt (a : Int) = nI a := by rw [nI, Int32.ofInt_eq_ofNat]
theorem nI_bv {a : Nat} (h : a < 2 ^ 32) : (nI a).toBitVec.toNat = a := pk_tn h
theorem toInt_of_lt {z : Int32} (h : z.toBitVec.toNat < 2 ^ 31) : z.toInt = (z.toBitVec.toNat : Int) := by
  show z.toBitVec.toInt = _
  rw [BitVec.toInt_eq_toNat_cond, if_pos (by omega)]
theorem n_or {a b : Nat} (ha : a < 2 ^ 31) (hb : b < 2 ^ 31) : xor_ a b = ((a ||| b : Nat) : Int) := by
  unfold xor_
  rw [nI_of_nat, nI_of_nat]
  have e : (nI a ||| nI b).toBitVec.toNat = a ||| b := by
    rw [Int32.toBitVec_or, BitVec.toNat_or, nI_bv (by omega), nI_bv (by omega)]
  have hl : a ||| b < 2 ^ 31 := Nat.or_lt_two_pow ha hb
  rw [toInt_of_lt (by rw [e]; exact hl), e]
theorem n_and {a b : Nat} (ha : a < 2 ^ 31) (hb : b < 2 ^ 31) : xand a b = ((a &&& b : Nat) : Int) := by
  unfold xand
  rw [nI_of_nat, nI_of_nat]
  have e : (nI a &&& nI b).toBitVec.toNat = a &&& b := by
    rw [Int32.toBitVec_and, BitVec.toNat_and, nI_bv (by omega), nI_bv (by omega)]
  have hl : a &&& b < 2 ^ 31 := Nat.and_lt_two_pow _ hb
  rw [toInt_of_lt (by rw [e]; exact hl), e]
theorem n_xor {a b : Nat} (ha : a < 2 ^ 31) (hb : b < 2 ^ 31) : xxor a b = ((a ^^^ b : Nat) : Int) := by
  unfold xxor
  rw [nI_of_nat, nI_of_nat]
  have e : (nI a ^^^ nI b).toBitVec.toNat = a ^^^ b := by
    rw [Int32.toBitVec_xor, BitVec.toNat_xor, nI_bv (by omega), nI_bv (by omega)]
  have hl : a ^^^ b < 2 ^ 31 := Nat.xor_lt_two_pow ha hb
  rw [toInt_of_lt (by rw [e]; exact hl), e]
/-- without: the bits of a that b has not -/
def andn (a b : Nat) : Nat := a &&& (a ^^^ b)
theorem n_andn {a b : Nat} (ha : a < 2 ^ 31) (hb : b < 2 ^ 31) : xand a (xxor b (-1)) = ((andn a b : Nat) : Int) := by
  unfold xand xxor
  rw [Int32.ofInt_toInt, nI_of_nat, nI_of_nat]
  have e : (nI a &&& (nI b ^^^ Int32.ofInt (-1))).toBitVec.toNat = andn a b := by
    apply Nat.eq_of_testBit_eq
    intro i
    rw [Int32.toBitVec_and, Int32.toBitVec_xor]
    have h1 : (Int32.ofInt (-1)).toBitVec = BitVec.allOnes 32 := by decide
    rw [h1, BitVec.toNat_and, BitVec.toNat_xor, nI_bv (by omega), nI_bv (by omega), BitVec.toNat_allOnes]
    simp only [andn, Nat.testBit_and, Nat.testBit_xor, Nat.testBit_two_pow_sub_one]
    by_cases hi : i < 32
    · simp only [hi, decide_true]
      cases a.testBit i <;> cases b.testBit i <;> rfl
    · have h2 : a.testBit i = false := Nat.testBit_lt_two_pow (Nat.lt_of_lt_of_le ha (Nat.pow_le_pow_right (by decide) (by omega)))
      simp only [h2, Bool.false_and]
  have hl : andn a b < 2 ^ 31 := Nat.and_lt_two_pow _ (Nat.xor_lt_two_pow ha hb)
  rw [toInt_of_lt (by rw [e]; exact hl), e]
theorem n_shl {e : Int} (h0 : 0 ≤ e) (h1 : e < 31) : xshl 1 e = ((2 ^ e.toNat : Nat) : Int) := by
  obtain ⟨k, rfl⟩ : ∃ k : Nat, e = (k : Int) := ⟨e.toNat, by omega⟩
  have hk : k < 31 := by omega
  rw [Int.toNat_natCast]
  have key : ∀ k : Nat, k < 31 → xshl 1 (k : Int) = ((2 ^ k : Nat) : Int) := by decide +kernel
  exact key k hk
theorem n_shr1 {a : Nat} {e : Int} (ha : a < 2 ^ 31) (h0 : 0 ≤ e) (h1 : e < 31) : xand (xshr a e) 1 = if a.testBit e.toNat then 1 else 0 := by
  obtain ⟨k, rfl⟩ : ∃ k : Nat, e = (k : Int) := ⟨e.toNat, by omega⟩
  have hk : k < 31 := by omega
  rw [Int.toNat_natCast]
  have e1 : xshr (a : Int) (k : Int) = ((a >>> k : Nat) : Int) := by
    unfold xshr
    rw [nI_of_nat, nI_of_nat]
    have hs : (nI k &&& 31).toBitVec.smod 32 = BitVec.ofNat 32 k := by
      have key : ∀ k : Nat, k < 31 → (nI k &&& 31).toBitVec.smod 32 = BitVec.ofNat 32 k := by decide +kernel
      exact key k hk
    have h2 := pk_shr (nI a) (nI k &&& 31) k (by rw [hs]; simp; omega)
    rw [h2, nI_toInt (by omega)]
    rfl
  rw [e1]
  have hl : a >>> k < 2 ^ 31 := Nat.lt_of_le_of_lt (Nat.shiftRight_le a k) ha
  have h3 := n_and (a := a >>> k) (b := 1) hl (by decide)
  rw [show ((1 : Nat) : Int) = 1 from rfl] at h3
  rw [h3, Nat.testBit, Nat.and_comm]
  have h4 : 1 &&& a >>> k = 0 ∨ 1 &&& a >>> k = 1 := by
    have := Nat.and_one_is_mod (a >>> k)
    rw [Nat.and_comm] at this
    omega
  rcases h4 with h4 | h4 <;> rw [h4] <;> rfl
/-- 1 where it holds -/
noncomputable def bt (p : Prop) : Nat := @ite _ p (Classical.propDecidable p) 1 0
theorem bt_1 {p : Prop} (h : p) : bt p = 1 := if_pos h
theorem bt_0 {p : Prop} (h : ¬ p) : bt p = 0 := if_neg h
/-- the EXAMPLES below e with p, as bits -/
noncomputable def cv (p : Int → Prop) : Nat → Nat
  | 0 => 0
  | e + 1 => cv p e + bt (p e) * 2 ^ e
theorem bt_le (p : Prop) : bt p ≤ 1 := by
  by_cases h : p
  · rw [bt_1 h]; exact Nat.le_refl _
  · rw [bt_0 h]; exact Nat.zero_le _
theorem cv_lt (p : Int → Prop) : ∀ e : Nat, cv p e < 2 ^ e
  | 0 => by simp [cv]
  | e + 1 => by
    have h1 := cv_lt p e
    have h2 := bt_le (p e)
    have h3 : bt (p e) * 2 ^ e ≤ 1 * 2 ^ e := Nat.mul_le_mul_right _ h2
    simp only [cv, Nat.pow_succ]
    omega
theorem cv_congr {p q : Int → Prop} : ∀ e : Nat, (∀ i : Nat, i < e → (p i ↔ q i)) → cv p e = cv q e
  | 0, _ => rfl
  | e + 1, h => by
    have h1 : p e = q e := propext (h e (by omega))
    simp only [cv, cv_congr e (fun i hi => h i (by omega)), h1]
theorem or_pow {a e : Nat} (h : a < 2 ^ e) : a ||| 2 ^ e = a + 2 ^ e := by
  have := Nat.two_pow_add_eq_or_of_lt h 1
  rw [Nat.mul_one] at this
  rw [Nat.or_comm, ← this, Nat.add_comm]
theorem cv_s1 {p : Int → Prop} {e : Int} (h0 : 0 ≤ e) (h1 : e < 31) (h : p e) : xor_ (cv p e.toNat) (xshl 1 e) = (cv p (e + 1).toNat : Int) := by
  have e1 : (e + 1).toNat = e.toNat + 1 := by omega
  have e2 : ((e.toNat : Nat) : Int) = e := Int.toNat_of_nonneg h0
  have h2 := cv_lt p e.toNat
  have h3 : 2 ^ e.toNat < 2 ^ 31 := Nat.pow_lt_pow_right (by decide) (by omega)
  rw [n_shl h0 h1, n_or (by omega) h3, or_pow h2, e1]
  simp only [cv, e2, bt_1 h, Nat.one_mul]
theorem cv_s0 {p : Int → Prop} {e : Int} (h0 : 0 ≤ e) (h : ¬ p e) : (cv p e.toNat : Int) = (cv p (e + 1).toNat : Int) := by
  have e1 : (e + 1).toNat = e.toNat + 1 := by omega
  have e2 : ((e.toNat : Nat) : Int) = e := Int.toNat_of_nonneg h0
  rw [e1]
  simp only [cv, e2, bt_0 h, Nat.zero_mul, Nat.add_zero]
theorem n_all {n : Int} (h0 : 0 ≤ n) (h1 : n ≤ 12) : xshl 1 n - 1 = ((2 ^ n.toNat - 1 : Nat) : Int) := by
  rw [n_shl h0 (by omega)]
  have : 0 < 2 ^ n.toNat := Nat.two_pow_pos _
  omega
