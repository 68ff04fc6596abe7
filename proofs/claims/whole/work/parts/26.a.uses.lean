/-! how often PARTS stand in one: four bits for each of them -/
def dN (u q : Nat) : Nat := u / 16 ^ q % 16
theorem dN_div {u v : Nat} (h : ∀ q, dN u q + dN v q ≤ 15) : ∀ q : Nat, (u + v) / 16 ^ q = u / 16 ^ q + v / 16 ^ q
  | 0 => by simp
  | q + 1 => by
    have ih := dN_div h q
    have hq := h q
    unfold dN at hq
    rw [Nat.pow_succ, ← Nat.div_div_eq_div_mul, ← Nat.div_div_eq_div_mul, ← Nat.div_div_eq_div_mul, ih]
    generalize u / 16 ^ q = a at *
    generalize v / 16 ^ q = b at *
    omega
theorem dN_add {u v : Nat} (h : ∀ q, dN u q + dN v q ≤ 15) (q : Nat) : dN (u + v) q = dN u q + dN v q := by
  have e := dN_div h q
  have hq := h q
  unfold dN at hq ⊢
  rw [e]
  generalize u / 16 ^ q = a at *
  generalize v / 16 ^ q = b at *
  omega
theorem dN_pow (c q : Nat) : dN (16 ^ c) q = if q = c then 1 else 0 := by
  unfold dN
  rcases Nat.lt_trichotomy q c with z | z | z
  · rw [if_neg (by omega), Nat.pow_div (by omega) (by decide)]
    obtain ⟨k, hk⟩ : ∃ k, c - q = k + 1 := ⟨c - q - 1, by omega⟩
    rw [hk, Nat.pow_succ, Nat.mul_mod_left]
  · subst z
    rw [if_pos rfl, Nat.div_self (Nat.pow_pos (by decide))]
  · rw [if_neg (by omega), Nat.div_eq_of_lt (Nat.pow_lt_pow_right (by decide) z)]
theorem dN_0 (q : Nat) : dN 0 q = 0 := by unfold dN; rw [Nat.zero_div]
theorem xlushr_n {n s : Nat} (hn : n < 2 ^ 63) (hs : s < 64) : xlushr (n : Int) (s : Int) = ((n / 2 ^ s : Nat) : Int) := by
  unfold xlushr
  have e2 : ((Int32.ofInt (s : Int)).toInt64.toUInt64 &&& Int64.toUInt64 63) = UInt64.ofNat s := by
    have key : ∀ s : Nat, s < 64 → ((Int32.ofInt (s : Int)).toInt64.toUInt64 &&& Int64.toUInt64 63) = UInt64.ofNat s := by decide +kernel
    exact key s hs
  rw [e2]
  have e1 : (Int64.ofInt (n : Int)).toUInt64.toNat = n := by
    show (BitVec.ofInt 64 (n : Int)).toNat = n
    rw [BitVec.toNat_ofInt]
    omega
  have e3 : ((Int64.ofInt (n : Int)).toUInt64 >>> UInt64.ofNat s).toNat = n / 2 ^ s := by
    rw [UInt64.toNat_shiftRight, e1, UInt64.toNat_ofNat', Nat.mod_eq_of_lt (show s < 2 ^ 64 by omega), Nat.mod_eq_of_lt hs, Nat.shiftRight_eq_div_pow]
  have e4 : ((Int64.ofInt (n : Int)).toUInt64 >>> UInt64.ofNat s).toBitVec.toNat = n / 2 ^ s := e3
  show ((Int64.ofInt (n : Int)).toUInt64 >>> UInt64.ofNat s).toBitVec.toInt = _
  have hl : n / 2 ^ s ≤ n := Nat.div_le_self _ _
  rw [BitVec.toInt_eq_toNat_cond, e4, if_pos (by omega)]
theorem xand_15 (r : Nat) : xand (r : Int) 15 = ((r % 16 : Nat) : Int) := by
  unfold xand
  rw [nI_of_nat]
  have e : (nI r &&& Int32.ofInt 15).toBitVec.toNat = r % 16 := by
    rw [Int32.toBitVec_and, BitVec.toNat_and]
    have h1 : (Int32.ofInt 15).toBitVec.toNat = 2 ^ 4 - 1 := by decide
    rw [h1, Nat.and_two_pow_sub_one_eq_mod]
    show (BitVec.ofNat 32 r).toNat % 2 ^ 4 = r % 16
    rw [BitVec.toNat_ofNat]
    omega
  rw [toInt_of_lt (by rw [e]; omega), e]
theorem pin_n {n : Nat} (hn : n < 2 ^ 63) {p : Int} (h0 : 0 ≤ p) (h1 : p ≤ 9) : pin n p = (dN n p.toNat : Int) := by
  obtain ⟨q, rfl⟩ : ∃ q : Nat, p = (q : Int) := ⟨p.toNat, by omega⟩
  unfold pin dN
  have e : (4 * (q : Int)) = ((4 * q : Nat) : Int) := by omega
  rw [e, xlushr_n hn (by omega), xand_15, Int.toNat_natCast]
  have e2 : (2 : Nat) ^ (4 * q) = 16 ^ q := by rw [Nat.pow_mul]
  rw [e2]
/-- what the uses of one of a SIZE are: not so many that they carry -/
def UB (u z : Int) : Prop := ∃ n : Nat, u = (n : Int) ∧ n ≤ 68719476736 * (z - 1).toNat ∧ ∀ q, dN n q ≤ (z - 1).toNat
theorem UB_p {u z p : Int} (h : UB u z) (hz : z ≤ 9) (h0 : 0 ≤ p) (h1 : p ≤ 9) : 0 ≤ pin u p ∧ pin u p ≤ 8 := by
  obtain ⟨n, rfl, h2, h3⟩ := h
  rw [pin_n (by omega) h0 h1]
  have := h3 p.toNat
  omega
theorem UB_0 {z : Int} : UB 0 z := ⟨0, rfl, by omega, fun q => by rw [dN_0]; omega⟩
theorem UB_mono {u z z' : Int} (h : UB u z) (hz : z ≤ z') : UB u z' := by
  obtain ⟨n, h1, h2, h3⟩ := h
  refine ⟨n, h1, ?_, fun q => ?_⟩
  · omega
  · have := h3 q
    omega
/-- two together -/
theorem UB_add {u v y z : Int} (hu : UB u y) (hv : UB v z) (h : 1 ≤ y) (h' : 1 ≤ z) (h9 : y + z ≤ 16) : UB (u + v) (y + z - 1) ∧ ∀ p, 0 ≤ p → p ≤ 9 → pin (u + v) p = pin u p + pin v p := by
  obtain ⟨n, rfl, a2, a3⟩ := hu
  obtain ⟨m, rfl, b2, b3⟩ := hv
  have k : ∀ q, dN n q + dN m q ≤ 15 := fun q => by
    have := a3 q
    have := b3 q
    omega
  have e : ((n : Int) + (m : Int)) = ((n + m : Nat) : Int) := by omega
  rw [e]
  refine ⟨⟨n + m, rfl, by omega, fun q => ?_⟩, fun p h0 h1 => ?_⟩
  · rw [dN_add k]
    have := a3 q
    have := b3 q
    omega
  · rw [pin_n (by omega) h0 h1, pin_n (by omega) h0 h1, pin_n (by omega) h0 h1, dN_add k]
    omega
theorem UB_pow {c : Int} (h0 : 0 ≤ c) (h1 : c ≤ 9) : UB (16 ^ c.toNat) 2 ∧ ∀ p, 0 ≤ p → p ≤ 9 → pin (16 ^ c.toNat) p = if c = p then 1 else 0 := by
  have e : ((16 : Int) ^ c.toNat) = ((16 ^ c.toNat : Nat) : Int) := (Int.natCast_pow 16 c.toNat).symm
  have hl : 16 ^ c.toNat ≤ 68719476736 := Nat.pow_le_pow_right (n := 16) (j := 9) (by decide) (by omega)
  rw [e]
  refine ⟨⟨_, rfl, by omega, fun q => ?_⟩, fun p h2 h3 => ?_⟩
  · rw [dN_pow]
    split <;> omega
  · rw [pin_n (by omega) h2 h3, dN_pow]
    by_cases z : c = p
    · rw [if_pos z, if_pos (by omega)]; rfl
    · rw [if_neg z, if_neg (by omega)]; rfl
theorem pin_0 {p : Int} (h0 : 0 ≤ p) (h1 : p ≤ 9) : pin 0 p = 0 := by
  have := pin_n (n := 0) (by decide) h0 h1
  rw [show ((0 : Nat) : Int) = 0 from rfl, dN_0] at this
  exact this
/-- of EXPRESSIONS -/
theorem UE {n0 : Int} {wt : Int → Int} {S : xH} (hF : FW n0 wt 9 S) : ∀ (m : Nat) (k : Int), 0 ≤ k → k < S 0 0 → k < m → UB (S 11 k) (S 4 k) ∧ ∀ p, 0 ≤ p → p ≤ 9 → pin (S 11 k) p = (if S 1 k = p then 1 else 0) + (if S 1 k < 10 then pin (S 11 (S 2 k)) p + (if one (S 1 k) then 0 else pin (S 11 (S 3 k)) p) else 0)
  | 0, k, h0, _, h1 => by omega
  | m + 1, k, h0, hK, h1 => by
    obtain ⟨cw, z1, z9, -, -, us, -⟩ := hF k h0 hK
    rw [us]
    unfold usE
    rcases cw with ⟨a, -⟩ | ⟨a, -⟩ | ⟨a, b, c, e, f, g, r⟩
    · rw [if_pos (by omega)]
      exact ⟨UB_0, fun p q1 q2 => by rw [if_neg (by omega), if_neg (by omega), pin_0 q1 q2]; rfl⟩
    · rw [if_pos (by omega)]
      exact ⟨UB_0, fun p q1 q2 => by rw [if_neg (by omega), if_neg (by omega), pin_0 q1 q2]; rfl⟩
    · rw [if_neg (by omega)]
      obtain ⟨u1, u2⟩ := UB_pow a b
      obtain ⟨v1, -⟩ := UE hF m (S 2 k) c (by omega) (by omega)
      have s2 := (hF _ c (by omega : S 2 k < S 0 0)).2.1
      rcases r with ⟨o, r1, r2⟩ | ⟨o, r2⟩
      · rw [if_pos o]
        obtain ⟨w1, w2⟩ := UB_add u1 v1 (by omega) s2 (by omega)
        refine ⟨UB_mono w1 (by omega), fun p q1 q2 => ?_⟩
        rw [w2 p q1 q2, u2 p q1 q2, if_pos (by omega : S 1 k < 10), if_pos o]
        omega
      · rw [if_neg o]
        obtain ⟨x1, -⟩ := UE hF m (S 3 k) f (by omega) (by omega)
        have s3 := (hF _ f (by omega : S 3 k < S 0 0)).2.1
        obtain ⟨w1, w2⟩ := UB_add u1 v1 (by omega) s2 (by omega)
        obtain ⟨y1, y2⟩ := UB_add w1 x1 (by omega) s3 (by omega)
        refine ⟨UB_mono y1 (by omega), fun p q1 q2 => ?_⟩
        rw [y2 p q1 q2, w2 p q1 q2, u2 p q1 q2, if_pos (by omega : S 1 k < 10), if_neg o]
        omega
theorem UE_k {n0 : Int} {wt : Int → Int} {S : xH} (hF : FW n0 wt 9 S) {k : Int} (h0 : 0 ≤ k) (hK : k < S 0 0) : UB (S 11 k) (S 4 k) := (UE hF (k.toNat + 1) k h0 hK (by omega)).1
theorem pE_r {n0 : Int} {wt : Int → Int} {S : xH} (hF : FW n0 wt 9 S) {k p : Int} (h0 : 0 ≤ k) (hK : k < S 0 0) (p0 : 0 ≤ p) (p9 : p ≤ 9) : 0 ≤ pin (S 11 k) p ∧ pin (S 11 k) p ≤ 8 := UB_p (UE_k hF h0 hK) (hF k h0 hK).2.2.1 p0 p9
theorem pE_s {n0 : Int} {wt : Int → Int} {S : xH} (hF : FW n0 wt 9 S) {k p : Int} (h0 : 0 ≤ k) (hK : k < S 0 0) (p0 : 0 ≤ p) (p9 : p ≤ 9) : pin (S 11 k) p = (if S 1 k = p then 1 else 0) + (if S 1 k < 10 then pin (S 11 (S 2 k)) p + (if one (S 1 k) then 0 else pin (S 11 (S 3 k)) p) else 0) := (UE hF (k.toNat + 1) k h0 hK (by omega)).2 p p0 p9
/-- of TESTS -/
theorem UT {n0 : Int} {wt : Int → Int} {S T : xH} (hS : FW n0 wt 9 S) (hF : FWT S 7 T) : ∀ (m : Nat) (k : Int), 0 ≤ k → k < T 0 0 → k < m → UB (T 11 k) (T 4 k - 2) ∧ ∀ p, 0 ≤ p → p ≤ 9 → pin (T 11 k) p = if T 1 k < 2 then pin (S 11 (T 2 k)) p + pin (S 11 (T 3 k)) p else pin (T 11 (T 2 k)) p + (if T 1 k = 2 then 0 else pin (T 11 (T 3 k)) p)
  | 0, k, h0, _, h1 => by omega
  | m + 1, k, h0, hK, h1 => by
    obtain ⟨cw, z1, z9, -, us, -⟩ := hF k h0 hK
    rw [us]
    unfold usS
    rcases cw with ⟨a, b, c, e, f, g, r1, r2, r3⟩ | ⟨a, b, c, e, r⟩ | ⟨a, b, c, e, f, r⟩
    · have n2 : ¬ T 1 k = 2 := by omega
      have n3 : ¬ T 1 k = 3 := by omega
      rw [if_neg n2, if_neg n3]
      have s2 := (hS _ c e).2.1
      have s3 := (hS _ f g).2.1
      obtain ⟨w1, w2⟩ := UB_add (UE_k hS c e) (UE_k hS f g) s2 s3 (by omega)
      exact ⟨UB_mono w1 (by omega), fun p q1 q2 => by rw [w2 p q1 q2, if_pos (by omega)]⟩
    · rw [if_pos a]
      obtain ⟨v1, -⟩ := UT hS hF m (T 2 k) b (by omega) (by omega)
      exact ⟨UB_mono v1 (by omega), fun p q1 q2 => by rw [if_neg (by omega), if_pos a]; omega⟩
    · have n2 : ¬ T 1 k = 2 := by omega
      rw [if_neg n2, if_pos a]
      obtain ⟨v1, -⟩ := UT hS hF m (T 2 k) b (by omega) (by omega)
      obtain ⟨x1, -⟩ := UT hS hF m (T 3 k) e (by omega) (by omega)
      have s2 := (hF _ b (by omega : T 2 k < T 0 0)).2.1
      have s3 := (hF _ e (by omega : T 3 k < T 0 0)).2.1
      obtain ⟨w1, w2⟩ := UB_add v1 x1 (by omega) (by omega) (by omega)
      exact ⟨UB_mono w1 (by omega), fun p q1 q2 => by rw [w2 p q1 q2, if_neg (by omega), if_neg n2]⟩
theorem UT_k {n0 : Int} {wt : Int → Int} {S T : xH} (hS : FW n0 wt 9 S) (hF : FWT S 7 T) {k : Int} (h0 : 0 ≤ k) (hK : k < T 0 0) : UB (T 11 k) (T 4 k - 2) := (UT hS hF (k.toNat + 1) k h0 hK (by omega)).1
theorem pT_r {n0 : Int} {wt : Int → Int} {S T : xH} (hS : FW n0 wt 9 S) (hF : FWT S 7 T) {k p : Int} (h0 : 0 ≤ k) (hK : k < T 0 0) (p0 : 0 ≤ p) (p9 : p ≤ 9) : 0 ≤ pin (T 11 k) p ∧ pin (T 11 k) p ≤ 8 := UB_p (UT_k hS hF h0 hK) (by have := (hF k h0 hK).2.2.1; omega) p0 p9
theorem pT_s {n0 : Int} {wt : Int → Int} {S T : xH} (hS : FW n0 wt 9 S) (hF : FWT S 7 T) {k p : Int} (h0 : 0 ≤ k) (hK : k < T 0 0) (p0 : 0 ≤ p) (p9 : p ≤ 9) : pin (T 11 k) p = if T 1 k < 2 then pin (S 11 (T 2 k)) p + pin (S 11 (T 3 k)) p else pin (T 11 (T 2 k)) p + (if T 1 k = 2 then 0 else pin (T 11 (T 3 k)) p) := (UT hS hF (k.toNat + 1) k h0 hK (by omega)).2 p p0 p9
