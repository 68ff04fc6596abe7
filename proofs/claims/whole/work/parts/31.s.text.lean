theorem it_0 (d b : Nat) {Q : xO → xH → Prop} (f0 : Int) (y : Option xV) (h : xH) (hp : h 66 47 = 0) (hQ : Q (.inl (some (.inl (h 66 45)))) h) : Lp d b Q f0 y h := by
  show xEx2 RX12 G0 cdX12_writes (some .int) (xRn2 G0 MT (d + 3)) Q b 9 [some (.inr (.inr 66)), some (.inl f0), y] [] h
  refine E2_s 2 (i' := 11) (ls' := [some (.inr (.inr 66)), some (.inl f0), y]) (sk' := [.inl (h 66 47)]) (h' := h) rfl ?_
  refine E2_b (x := (.ifCond .le 88, 55, [], [])) rfl rfl (fun c11 => ?_) (fun c11 => ?_)
  · rw [c_le (by first | assumption | (refine ⟨?_, ?_⟩ <;> omega) | (simp only [xr] at *; omega)) (by first | assumption | (refine ⟨?_, ?_⟩ <;> omega) | (simp only [xr] at *; omega))] at c11
    simp only [decide_eq_true_eq, decide_eq_false_iff_not, Decidable.not_not] at c11
    show xEx2 RX12 G0 cdX12_writes (some .int) (xRn2 G0 MT (d + 3)) Q b 55 [some (.inr (.inr 66)), some (.inl f0), y] [] h
    refine E2_s 2 (i' := 57) (ls' := [some (.inr (.inr 66)), some (.inl f0), y]) (sk' := [.inl (h 66 45)]) (h' := h) rfl ?_
    exact E2_ret (x := (.ireturn, 0, [], [])) (v := some (.inl (h 66 45))) rfl (Or.inl rfl) (hQ)
  · rw [c_le (by first | assumption | (refine ⟨?_, ?_⟩ <;> omega) | (simp only [xr] at *; omega)) (by first | assumption | (refine ⟨?_, ?_⟩ <;> omega) | (simp only [xr] at *; omega))] at c11
    simp only [decide_eq_true_eq, decide_eq_false_iff_not, Decidable.not_not] at c11
    show xEx2 RX12 G0 cdX12_writes (some .int) (xRn2 G0 MT (d + 3)) Q b 12 [some (.inr (.inr 66)), some (.inl f0), y] [] h
    exfalso; omega
def WD (h h' : xH) (t : List Int) : Prop := (∀ a, a ≠ 66 → a ≠ 96 → a ≠ 97 → h' a = h a) ∧ (∀ j, j ≠ 45 → j ≠ 47 → h' 66 j = h 66 j) ∧ h' 66 45 = (t.length : Nat) ∧ h' 96 = wr (h 96) 0 t
theorem WD_i {f0 : Int} {h h' : xH} {t : List Int} (pw : PW (ppsh (xup (xup h 66 45 0) 66 47 0) f0) h' 0 t) : WD h h' t ∧ h' 66 47 = 0 := by
  obtain ⟨a1, a2, a3, a4, a5, a6⟩ := pw
  have e45 : ppsh (xup (xup h 66 45 0) 66 47 0) f0 66 45 = 0 := by rw [ppsh_j (by decide)]; rfl
  refine ⟨⟨fun a q1 q2 q3 => ?_, fun j q1 q2 => ?_, ?_, ?_⟩, a4⟩
  · rw [a1 a q1 q2 q3, ppsh_o q1 q3, xup_o _ _ _ _ a q1, xup_o _ _ _ _ a q1]
  · rw [a2 j q1 q2, ppsh_j q2]
    unfold xup
    rw [if_pos rfl, if_neg q2, if_pos rfl, if_neg q1]
  · rw [a5, e45]
    omega
  · rw [a6, e45, ppsh_o (by decide) (by decide), xup_o _ _ _ _ 96 (by decide), xup_o _ _ _ _ 96 (by decide)]
set_option maxHeartbeats 1000000 in
theorem m_writes (d b : Nat) (h : xH) (f0 m : Int) (t : List Int) (hm : m ≤ 400) (ht : (t.length : Int) + 3 ≤ 1024) {Q : xO → xH → Prop} (D : DZ h d b Q f0 m f0 t) (hQ : ∀ h9, WD h h9 t → Q (.inl (some (.inl ((t.length : Nat) : Int)))) h9) : xRn2 G0 MT (d + 4) b 212 [.inr (.inr 66), .inl f0] h Q := by
  refine R2_of (M := mX12_writes) rfl (Nat.le_of_ble_eq_true rfl) ?_
  show xEx2 RX12 G0 cdX12_writes (some .int) (xRn2 G0 MT (d + 3)) Q b 0 [some (.inr (.inr 66)), some (.inl f0), none] [] h
  refine E2_s 8 (i' := 8) (ls' := [some (.inr (.inr 66)), some (.inl f0), none]) (sk' := [.inl f0, .inr (.inr 66)]) (h' := (xup (xup h 66 45 0) 66 47 0)) rfl ?_
  refine E2_cv (x := (.invokevirtual 325, 1, [(10, 203)], [0])) (q := fun h9 => h9 = (ppsh (xup (xup h 66 45 0) 66 47 0) f0)) rfl rfl (Nat.le_of_ble_eq_true rfl) (xRn_2 _ _ _ _ _ _ (m_push (d + 2) 0 (xup (xup h 66 45 0) 66 47 0) f0 (by show (0 : Int) ≤ 0 ∧ (0 : Int) < 400; omega) ⟨rfl, rfl⟩)) (fun h9 e9 => ?_)
  subst e9
  show xEx2 RX12 G0 cdX12_writes (some .int) (xRn2 G0 MT (d + 3)) Q b 9 [some (.inr (.inr 66)), some (.inl f0), none] [] (ppsh (xup (xup h 66 45 0) 66 47 0) f0)
  have e47 : ppsh (xup (xup h 66 45 0) 66 47 0) f0 66 47 = 1 := by rw [ppsh_l]; rfl
  have e45 : ppsh (xup (xup h 66 45 0) 66 47 0) f0 66 45 = 0 := by rw [ppsh_j (by decide)]; rfl
  refine D _ none (fun a q1 q2 q3 => ?_) (by omega) (by omega) ?_ (by omega) (by omega) (fun h9 y9 pw => ?_)
  · rw [ppsh_o q1 q3, xup_o _ _ _ _ a q1, xup_o _ _ _ _ a q1]
  · rw [e47, ppsh_p]; rfl
  · rw [e47] at pw
    obtain ⟨w, w0⟩ := WD_i pw
    refine it_0 d b f0 y9 h9 w0 ?_
    rw [w.2.2.1]
    exact hQ h9 w
section
variable {h0 : xH} {d b : Nat} {Q : xO → xH → Prop} {f0 : Int} {n0 : Int} {wt : Int → Int} {S T : xH}
/-- the rows of the reference, as far as what is written needs them -/
def RW0 (h S : xH) : Prop := ∀ k, 0 ≤ k → k < S 0 0 → h 69 k = S 1 k ∧ h 70 k = S 2 k ∧ h 71 k = oth (S 1 k) (S 3 k)
def RW1 (h T : xH) : Prop := ∀ k, 0 ≤ k → k < T 0 0 → h 79 k = T 1 k ∧ h 80 k = T 2 k ∧ h 81 k = otT (T 1 k) (T 3 k)
theorem oth_n {c1 c3 : Int} (h1 : ¬ (c1 = 5 ∨ c1 = 8 ∨ c1 = 9)) (h2 : c1 ≤ 9) : oth c1 c3 = c3 := by unfold oth; rw [if_neg (by omega)]
theorem otT_n {c1 c3 : Int} (h1 : c1 ≠ 2) : otT c1 c3 = c3 := by unfold otT; rw [if_neg h1]
theorem DZ_Em (hF : FW n0 wt 9 S) {m y k c1 c2 c3 : Int} (hm : 1 ≤ m) (hk : 0 ≤ k ∧ k < 301) (e1 : h0 69 k = c1) (e2 : h0 70 k = c2) (e3 : h0 71 k = oth c1 c3) (c : cwf S (S 0 0) y c1 c2 c3) (IH : ∀ j, 0 ≤ j → j < S 0 0 → S 4 j + 1 ≤ y → DZ h0 d b Q f0 m j (TE S j)) : DZ h0 d b Q f0 (m + 8) k (FE S c1 c2 c3) := by
  have ch := cw_ch hF (Int.le_refl _) c
  refine DZ_E1 hm hk e1 e2 (fun a b => by rw [e3, oth_n a b]) (by omega) (by omega) (by omega) (fun z => ?_) (fun z y => ?_)
  · rcases ch with ⟨a, -⟩ | ⟨a, -⟩ | ⟨a, a2, u0, u1, w0, w1, s1, s2, s3⟩
    · omega
    · omega
    · exact IH _ u0 u1 s1
  · rcases ch with ⟨a, -⟩ | ⟨a, -⟩ | ⟨a, a2, u0, u1, w0, w1, s1, s2, s3⟩
    · omega
    · omega
    · exact IH _ w0 w1 (s3 y)
theorem cwf_K {K K' y c1 c2 c3 : Int} (hK : K ≤ K') (c : cwf S K y c1 c2 c3) : cwf S K' y c1 c2 c3 := by
  rcases c with a | a | ⟨a, a2, u0, u1, w0, w1, s⟩
  · exact Or.inl a
  · exact Or.inr (Or.inl a)
  · exact Or.inr (Or.inr ⟨a, a2, u0, by omega, w0, by omega, s⟩)
theorem DZ_E (hF : FW n0 wt 9 S) (hR : RW0 h0 S) (h3 : S 0 0 ≤ 300) : ∀ (n : Nat) (k : Int), 0 ≤ k → k < S 0 0 → S 4 k ≤ (n : Int) → DZ h0 d b Q f0 (8 * n + 1) k (TE S k)
  | 0, k, k0, k1, kn => by have := (hF k k0 k1).2.1; omega
  | n + 1, k, k0, k1, kn => by
    obtain ⟨c, -⟩ := hF k k0 k1
    obtain ⟨e1, e2, e3⟩ := hR k k0 k1
    rw [TE_eq hF k0 k1, show (8 * ((n + 1 : Nat) : Int) + 1) = (8 * (n : Int) + 1) + 8 by omega]
    exact DZ_Em hF (by omega) ⟨k0, by omega⟩ e1 e2 e3 (cwf_K (Int.le_of_lt k1) c) (fun j j0 j1 j2 => DZ_E hF hR h3 n j j0 j1 (by omega))
theorem DZ_E9 (hF : FW n0 wt 9 S) (hR : RW0 h0 S) (h3 : S 0 0 ≤ 300) {k : Int} (k0 : 0 ≤ k) (k1 : k < S 0 0) : DZ h0 d b Q f0 73 k (TE S k) := DZ_E hF hR h3 9 k k0 k1 (hF k k0 k1).2.2.1
theorem DZ_Tm (hF : FW n0 wt 9 S) (hR : RW0 h0 S) (h3 : S 0 0 ≤ 300) (hT : FWT S 7 T) {m y k c1 c2 c3 : Int} (hm : 73 ≤ m) (hk : 0 ≤ k ∧ k < 151) (e1 : h0 79 k = c1) (e2 : h0 80 k = c2) (e3 : h0 81 k = otT c1 c3) (c : twf S T (T 0 0) y c1 c2 c3) (IH : ∀ j, 0 ≤ j → j < T 0 0 → T 4 j + 1 ≤ y → DZ h0 d b Q f0 m (1000 + j) (TT S T j)) : DZ h0 d b Q f0 (m + 8) (1000 + k) (GT S T c1 c2 c3) := by
  have ch := tw_ch hT (Int.le_refl _) c
  refine DZ_T1 (by omega) hk e1 e2 (fun a => by rw [e3, otT_n a]) (by omega) (fun z => ?_) (fun z => ?_) (fun z => ?_)
  · rcases ch with ⟨a, a1, a2, a3, a4, a5⟩ | ⟨a, a1, a2, a3, -⟩ | ⟨a, a1, a2, a3, a4, a5, a6, -⟩
    · exact ⟨(DZ_E9 hF hR h3 a2 a3).up hm, (DZ_E9 hF hR h3 a4 a5).up hm⟩
    · omega
    · omega
  · rcases ch with ⟨-, a, -⟩ | ⟨a, a1, a2, a3, -⟩ | ⟨a, a1, a2, a3, a4, a5, a6, -⟩
    · omega
    · exact IH _ a1 a2 a3
    · exact IH _ a1 a2 a5
  · rcases ch with ⟨-, a, -⟩ | ⟨a, a1, a2, a3, -⟩ | ⟨a, a1, a2, a3, a4, a5, a6, -⟩
    · omega
    · omega
    · exact IH _ a3 a4 a6
theorem DZ_T (hF : FW n0 wt 9 S) (hR : RW0 h0 S) (h3 : S 0 0 ≤ 300) (hT : FWT S 7 T) (hRT : RW1 h0 T) (h4 : T 0 0 ≤ 150) : ∀ (n : Nat) (k : Int), 0 ≤ k → k < T 0 0 → T 4 k ≤ (n : Int) → DZ h0 d b Q f0 (8 * n + 73) (1000 + k) (TT S T k)
  | 0, k, k0, k1, kn => by have := (hT k k0 k1).2.1; omega
  | n + 1, k, k0, k1, kn => by
    obtain ⟨c, -⟩ := hT k k0 k1
    obtain ⟨e1, e2, e3⟩ := hRT k k0 k1
    rw [TT_eq hT k0 k1, show (8 * ((n + 1 : Nat) : Int) + 73) = (8 * (n : Int) + 73) + 8 by omega]
    exact DZ_Tm hF hR h3 hT (by omega) ⟨k0, by omega⟩ e1 e2 e3 (twf_K (Int.le_of_lt k1) c) (fun j j0 j1 j2 => DZ_T hF hR h3 hT hRT h4 n j j0 j1 (by omega))
theorem DZ_T9 (hF : FW n0 wt 9 S) (hR : RW0 h0 S) (h3 : S 0 0 ≤ 300) (hT : FWT S 7 T) (hRT : RW1 h0 T) (h4 : T 0 0 ≤ 150) {k : Int} (k0 : 0 ≤ k) (k1 : k < T 0 0) : DZ h0 d b Q f0 129 (1000 + k) (TT S T k) := DZ_T hF hR h3 hT hRT h4 7 k k0 k1 (hT k k0 k1).2.2.1
theorem DZ_N {as le : Int → Int} (hF : FW n0 wt 9 S) (hR : RW0 h0 S) (h3 : S 0 0 ≤ 300) (hT : FWT S 7 T) (hRT : RW1 h0 T) (h4 : T 0 0 ≤ 150) (hp : ∀ j, 0 ≤ j → j ≤ 14 → h0 105 (j + 1) = as j ∧ h0 106 (j + 1) = le j) : ∀ (n : Nat) (nd : Int), 0 ≤ nd → (nd + 2) * (2 ^ n : Nat) ≤ 16 → TRp as le S T n nd → DZ h0 d b Q f0 (8 * n + 137) (2000 + (nd + 1)) (txN S T as le n nd)
  | 0, nd, z0, z1, ht => by
    have hn' : nd + 2 ≤ 16 := by omega
    obtain ⟨e1, e2⟩ := hp nd z0 (by omega)
    obtain ⟨a, b1, c⟩ := ht
    have et : txN S T as le 0 nd = tn1 S T (fun _ => []) (as nd) (le nd) nd := by rw [tn_p a]; rfl
    rw [et]
    exact DZ_N1 (m := 129) (by omega) ⟨z0, by omega⟩ e1 e2 (by rw [a]; exact ⟨by omega, by omega⟩) (fun _ => (DZ_E9 hF hR h3 b1 c).up (by omega)) (fun z => absurd a z)
  | n + 1, nd, z0, z1, ht => by
    have p9 : (2 ^ (n + 1) : Nat) = 2 * 2 ^ n := by rw [Nat.pow_succ, Nat.mul_comm]
    have p1 : 1 ≤ 2 ^ n := Nat.one_le_two_pow
    rw [p9] at z1
    have hn2 : (nd + 2) * 2 * ((2 ^ n : Nat) : Int) ≤ 16 := by
      have e : (nd + 2) * ((2 * 2 ^ n : Nat) : Int) = (nd + 2) * 2 * ((2 ^ n : Nat) : Int) := by rw [Int.natCast_mul, Int.mul_assoc]; rfl
      omega
    have hn3 : (nd + 2) * 2 ≤ 16 := by
      have : (nd + 2) * 2 * 1 ≤ (nd + 2) * 2 * ((2 ^ n : Nat) : Int) := Int.mul_le_mul_of_nonneg_left (by omega) (by omega)
      omega
    have m1 : ∀ q : Int, q ≤ (nd + 2) * 2 → 0 ≤ q → q * ((2 ^ n : Nat) : Int) ≤ 16 := fun q q1 q0 => Int.le_trans (Int.mul_le_mul_of_nonneg_right q1 (by omega)) hn2
    obtain ⟨e1, e2⟩ := hp nd z0 (by omega)
    rw [txN_s, show (8 * ((n + 1 : Nat) : Int) + 137) = (8 * (n : Int) + 137) + 8 by omega]
    refine DZ_N1 (by omega) ⟨z0, by omega⟩ e1 e2 ?_ (fun z => ?_) (fun z => ?_)
    · rcases ht with ⟨a, -⟩ | ⟨a, a2, -⟩
      · exact ⟨by omega, by omega⟩
      · exact ⟨by omega, by omega⟩
    · rcases ht with ⟨a, b1, c⟩ | ⟨a, a2, -⟩
      · exact (DZ_E9 hF hR h3 b1 c).up (by omega)
      · omega
    · rcases ht with ⟨a, b1, c⟩ | ⟨a, a2, -, t1, t2⟩
      · omega
      · exact ⟨(DZ_T9 hF hR h3 hT hRT h4 a a2).up (by omega), DZ_N hF hR h3 hT hRT h4 hp n _ (by omega) (m1 _ (by omega) (by omega)) t1, DZ_N hF hR h3 hT hRT h4 hp n _ (by omega) (m1 _ (by omega) (by omega)) t2⟩
end
