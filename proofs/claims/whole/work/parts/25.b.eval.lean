def vU (S T : xH) (x : Int → Int) : Nat → Int → Int
  | 0, _ => 0
  | n + 1, k => if T 1 k = 0 then (if VE S x (T 2 k) < VE S x (T 3 k) then 1 else 0) else if T 1 k = 1 then (if VE S x (T 2 k) = VE S x (T 3 k) then 1 else 0) else if T 1 k = 2 then 1 - vU S T x n (T 2 k) else if vU S T x n (T 2 k) = 0 then 0 else vU S T x n (T 3 k)
def VU (S T : xH) (x : Int → Int) (k : Int) : Int := vU S T x 150 k
def fU (S T : xH) (x : Int → Int) (c1 c2 c3 : Int) : Int := if c1 = 0 then (if VE S x c2 < VE S x c3 then 1 else 0) else if c1 = 1 then (if VE S x c2 = VE S x c3 then 1 else 0) else if c1 = 2 then 1 - VU S T x c2 else if VU S T x c2 = 0 then 0 else VU S T x c3
theorem vU_01 (S T : xH) (x : Int → Int) : ∀ (n : Nat) (k : Int), vU S T x n k = 0 ∨ vU S T x n k = 1
  | 0, _ => Or.inl rfl
  | n + 1, k => by
    have a := vU_01 S T x n (T 2 k)
    have b := vU_01 S T x n (T 3 k)
    unfold vU
    split
    · split
      · exact Or.inr rfl
      · exact Or.inl rfl
    · split
      · split
        · exact Or.inr rfl
        · exact Or.inl rfl
      · split
        · omega
        · split
          · exact Or.inl rfl
          · exact b
theorem fU_01 (S T : xH) (x : Int → Int) (c1 c2 c3 : Int) : fU S T x c1 c2 c3 = 0 ∨ fU S T x c1 c2 c3 = 1 := by
  have a := vU_01 S T x 150 c2
  have b := vU_01 S T x 150 c3
  unfold fU VU
  split
  · split
    · exact Or.inr rfl
    · exact Or.inl rfl
  · split
    · split
      · exact Or.inr rfl
      · exact Or.inl rfl
    · split
      · omega
      · split
        · exact Or.inl rfl
        · exact b
theorem tw_ch {S : xH} {z : Int} {T : xH} (hF : FWT S z T) {K y c1 c2 c3 : Int} (hK : K ≤ T 0 0) (tw : twf S T K y c1 c2 c3) : (0 ≤ c1 ∧ c1 ≤ 1 ∧ 0 ≤ c2 ∧ c2 < S 0 0 ∧ 0 ≤ c3 ∧ c3 < S 0 0) ∨ (c1 = 2 ∧ 0 ≤ c2 ∧ c2 < K ∧ T 4 c2 + 1 ≤ y ∧ 4 ≤ y) ∨ (c1 = 3 ∧ 0 ≤ c2 ∧ c2 < K ∧ 0 ≤ c3 ∧ c3 < K ∧ T 4 c2 + 1 ≤ y ∧ T 4 c3 + 1 ≤ y ∧ 4 ≤ y) := by
  rcases tw with ⟨a, b, c, e, f, g, -⟩ | ⟨a, b, c, -, e⟩ | ⟨a, b, c, e, f, g⟩
  · exact Or.inl ⟨a, b, c, e, f, g⟩
  · have h2 := (hF c2 b (by omega)).2.1
    exact Or.inr (Or.inl ⟨a, b, c, by omega, by omega⟩)
  · have h2 := (hF c2 b (by omega)).2.1
    have h3 := (hF c3 e (by omega)).2.1
    exact Or.inr (Or.inr ⟨a, b, c, e, f, by omega, by omega, by omega⟩)
theorem vU_st {S : xH} {z : Int} {T : xH} (x : Int → Int) (hF : FWT S z T) : ∀ (a b : Nat) (k : Int), 0 ≤ k → k < T 0 0 → k < a → k < b → vU S T x a k = vU S T x b k
  | 0, _, k, h0, _, h1, _ => by omega
  | _ + 1, 0, k, h0, _, _, h1 => by omega
  | a + 1, b + 1, k, h0, h1, h2, h3 => by
    have c := tw_ch hF (Int.le_of_lt h1) (hF k h0 h1).1
    unfold vU
    rcases c with ⟨c1, c2, -⟩ | ⟨c1, c2, c3, -⟩ | ⟨c1, c2, c3, c4, c5, -⟩
    · by_cases q : T 1 k = 0
      · rw [if_pos q, if_pos q]
      · have q1 : T 1 k = 1 := by omega
        rw [if_neg q, if_pos q1, if_neg q, if_pos q1]
    · have n0 : ¬ T 1 k = 0 := by omega
      have n1 : ¬ T 1 k = 1 := by omega
      rw [if_neg n0, if_neg n1, if_pos c1, if_neg n0, if_neg n1, if_pos c1, vU_st x hF a b _ c2 (by omega) (by omega) (by omega)]
    · have n0 : ¬ T 1 k = 0 := by omega
      have n1 : ¬ T 1 k = 1 := by omega
      have n2 : ¬ T 1 k = 2 := by omega
      rw [if_neg n0, if_neg n1, if_neg n2, if_neg n0, if_neg n1, if_neg n2, vU_st x hF a b _ c2 (by omega) (by omega) (by omega), vU_st x hF a b _ c4 (by omega) (by omega) (by omega)]
theorem VU_eq {S : xH} {z : Int} {T : xH} (x : Int → Int) (hF : FWT S z T) (h3 : T 0 0 ≤ 150) {k : Int} (h0 : 0 ≤ k) (h1 : k < T 0 0) : VU S T x k = fU S T x (T 1 k) (T 2 k) (T 3 k) := by
  have e : VU S T x k = vU S T x 151 k := vU_st x hF 150 151 k h0 h1 (by omega) (by omega)
  rw [e]
  unfold vU fU VU
  rfl
theorem vU_x {n : Int} {wt : Int → Int} {z z2 : Int} {S T : xH} {x y : Int → Int} (hS : FW n wt z2 S) (hF : FWT S z T) (hx : ∀ i, 0 ≤ i → i ≤ 2 → x i = y i) : ∀ (m : Nat) (k : Int), 0 ≤ k → k < T 0 0 → vU S T x m k = vU S T y m k
  | 0, _, _, _ => rfl
  | m + 1, k, h0, h1 => by
    have c := tw_ch hF (Int.le_of_lt h1) (hF k h0 h1).1
    unfold vU
    rcases c with ⟨c1, c2, c3, c4, c5, c6⟩ | ⟨c1, c2, c3, -⟩ | ⟨c1, c2, c3, c4, c5, -⟩
    · have e1 : VE S x (T 2 k) = VE S y (T 2 k) := vE_x hS hx 300 _ c3 c4
      have e2 : VE S x (T 3 k) = VE S y (T 3 k) := vE_x hS hx 300 _ c5 c6
      by_cases q : T 1 k = 0
      · rw [if_pos q, if_pos q, e1, e2]
      · have q1 : T 1 k = 1 := by omega
        rw [if_neg q, if_pos q1, if_neg q, if_pos q1, e1, e2]
    · have n0 : ¬ T 1 k = 0 := by omega
      have n1 : ¬ T 1 k = 1 := by omega
      rw [if_neg n0, if_neg n1, if_pos c1, if_neg n0, if_neg n1, if_pos c1, vU_x hS hF hx m _ c2 (by omega)]
    · have n0 : ¬ T 1 k = 0 := by omega
      have n1 : ¬ T 1 k = 1 := by omega
      have n2 : ¬ T 1 k = 2 := by omega
      rw [if_neg n0, if_neg n1, if_neg n2, if_neg n0, if_neg n1, if_neg n2, vU_x hS hF hx m _ c2 (by omega), vU_x hS hF hx m _ c4 (by omega)]
set_option maxHeartbeats 1000000 in
theorem c_comeT1_f (d b : Nat) (h S T : xH) (k dp : Int) (hRE : RC h S) (hFE : FW (h 1 2) (h 6) 9 S) (h3 : S 0 0 ≤ 300) (hR : RCT h T) (hF : FWT S 7 T) (h4 : T 0 0 ≤ 150) (hk : 0 ≤ k ∧ k < T 0 0) (hd : 0 ≤ dp ∧ dp ≤ 9) (hz : T 4 k ≤ dp + 3) (hx : ∀ i, 0 ≤ i → i ≤ 2 → xr (h 63 i)) (IH : ∀ j, 0 ≤ j → j < T 0 0 → T 4 j ≤ dp + 2 → ∀ Q9 : xO → xH → Prop, (∀ v, w32 v = VU S T (h 63) j → Q9 (.inl (some (.inl v))) h) → xRn G0 MT (d + 12) 0 91 [.inr (.inr 28), .inr (.inr 29), .inl j, .inr (.inr 63), .inl (dp - 1)] h Q9) {Q : xO → xH → Prop} (hQ : ∀ v, w32 v = fU S T (h 63) (T 1 k) (T 2 k) (T 3 k) → Q (.inl (some (.inl v))) h) : xRn G0 MT (d + 13) b 91 [.inr (.inr 28), .inr (.inr 29), .inl k, .inr (.inr 63), .inl dp] h Q := by
  refine R_of (M := mX9_come) rfl (Nat.le_of_ble_eq_true rfl) ?_
  show xEx G0 cdX9_come (some .int) (xRn G0 MT (d + 12)) Q b 0 [some (.inr (.inr 28)), some (.inr (.inr 29)), some (.inl k), some (.inr (.inr 63)), some (.inl dp), none, none, none, none] [] h
  obtain ⟨-, -, -, -, -, -, r6, -⟩ := hR
  obtain ⟨x1, x2, x3, -, -, -, -, x8⟩ := r6 k hk.1 hk.2
  have a1 : h 30 k = T 1 k := x1
  have a2 : h 31 k = T 2 k := x2
  have a3 : h 32 k = T 3 k := x3
  have ch := tw_ch hF (Int.le_of_lt hk.2) (hF k hk.1 hk.2).1
  have y9 := hz
  refine E_s 3 (i' := 3) (ls' := [some (.inr (.inr 28)), some (.inr (.inr 29)), some (.inl k), some (.inr (.inr 63)), some (.inl dp), none, none, none, none]) (sk' := [.inl k, .inr (.inr 30)]) (h' := h) rfl ?_
  refine E_ld (x := (.iaload, 0, [], [])) (ty := .int) (n := 150) rfl rfl rfl (by omega) (by omega) ?_
  show xEx G0 cdX9_come (some .int) (xRn G0 MT (d + 12)) Q b 4 [some (.inr (.inr 28)), some (.inr (.inr 29)), some (.inl k), some (.inr (.inr 63)), some (.inl dp), none, none, none, none] [.inl (h 30 k)] h
  refine E_s 4 (i' := 8) (ls' := [some (.inr (.inr 28)), some (.inr (.inr 29)), some (.inl k), some (.inr (.inr 63)), some (.inl dp), some (.inl (h 30 k)), none, none, none]) (sk' := [.inl k, .inr (.inr 31)]) (h' := h) rfl ?_
  refine E_ld (x := (.iaload, 0, [], [])) (ty := .int) (n := 150) rfl rfl rfl (by omega) (by omega) ?_
  show xEx G0 cdX9_come (some .int) (xRn G0 MT (d + 12)) Q b 9 [some (.inr (.inr 28)), some (.inr (.inr 29)), some (.inl k), some (.inr (.inr 63)), some (.inl dp), some (.inl (h 30 k)), none, none, none] [.inl (h 31 k)] h
  refine E_s 4 (i' := 13) (ls' := [some (.inr (.inr 28)), some (.inr (.inr 29)), some (.inl k), some (.inr (.inr 63)), some (.inl dp), some (.inl (h 30 k)), some (.inl (h 31 k)), none, none]) (sk' := [.inl k, .inr (.inr 32)]) (h' := h) rfl ?_
  refine E_ld (x := (.iaload, 0, [], [])) (ty := .int) (n := 150) rfl rfl rfl (by omega) (by omega) ?_
  show xEx G0 cdX9_come (some .int) (xRn G0 MT (d + 12)) Q b 14 [some (.inr (.inr 28)), some (.inr (.inr 29)), some (.inl k), some (.inr (.inr 63)), some (.inl dp), some (.inl (h 30 k)), some (.inl (h 31 k)), none, none] [.inl (h 32 k)] h
  refine E_s 2 (i' := 16) (ls' := [some (.inr (.inr 28)), some (.inr (.inr 29)), some (.inl k), some (.inr (.inr 63)), some (.inl dp), some (.inl (h 30 k)), some (.inl (h 31 k)), some (.inl (h 32 k)), none]) (sk' := [.inl (h 30 k)]) (h' := h) rfl ?_
  refine E_b (x := (.ifCond .ne 32, 32, [], [])) rfl rfl (fun c16 => ?_) (fun c16 => ?_)
  · rw [c_ne (by first | assumption | (refine ⟨?_, ?_⟩ <;> omega) | (simp only [xr] at *; omega)) (by first | assumption | (refine ⟨?_, ?_⟩ <;> omega) | (simp only [xr] at *; omega))] at c16
    simp only [decide_eq_true_eq, decide_eq_false_iff_not, Decidable.not_not] at c16
    show xEx G0 cdX9_come (some .int) (xRn G0 MT (d + 12)) Q b 32 [some (.inr (.inr 28)), some (.inr (.inr 29)), some (.inl k), some (.inr (.inr 63)), some (.inl dp), some (.inl (h 30 k)), some (.inl (h 31 k)), some (.inl (h 32 k)), none] [] h
    refine E_s 2 (i' := 34) (ls' := [some (.inr (.inr 28)), some (.inr (.inr 29)), some (.inl k), some (.inr (.inr 63)), some (.inl dp), some (.inl (h 30 k)), some (.inl (h 31 k)), some (.inl (h 32 k)), none]) (sk' := [.inl 1, .inl (h 30 k)]) (h' := h) rfl ?_
    refine E_b (x := (.if_icmp .ne 32, 50, [], [])) rfl rfl (fun c34 => ?_) (fun c34 => ?_)
    · rw [c_ne (by first | assumption | (refine ⟨?_, ?_⟩ <;> omega) | (simp only [xr] at *; omega)) (by first | assumption | (refine ⟨?_, ?_⟩ <;> omega) | (simp only [xr] at *; omega))] at c34
      simp only [decide_eq_true_eq, decide_eq_false_iff_not, Decidable.not_not] at c34
      show xEx G0 cdX9_come (some .int) (xRn G0 MT (d + 12)) Q b 50 [some (.inr (.inr 28)), some (.inr (.inr 29)), some (.inl k), some (.inr (.inr 63)), some (.inl dp), some (.inl (h 30 k)), some (.inl (h 31 k)), some (.inl (h 32 k)), none] [] h
      refine E_s 1 (i' := 51) (ls' := [some (.inr (.inr 28)), some (.inr (.inr 29)), some (.inl k), some (.inr (.inr 63)), some (.inl dp), some (.inl (h 30 k)), some (.inl (h 31 k)), some (.inl (h 32 k)), none]) (sk' := [.inl dp]) (h' := h) rfl ?_
      refine E_b (x := (.ifCond .ne 7, 54, [], [])) rfl rfl (fun c51 => ?_) (fun c51 => ?_)
      · rw [c_ne (by first | assumption | (refine ⟨?_, ?_⟩ <;> omega) | (simp only [xr] at *; omega)) (by first | assumption | (refine ⟨?_, ?_⟩ <;> omega) | (simp only [xr] at *; omega))] at c51
        simp only [decide_eq_true_eq, decide_eq_false_iff_not, Decidable.not_not] at c51
        show xEx G0 cdX9_come (some .int) (xRn G0 MT (d + 12)) Q b 54 [some (.inr (.inr 28)), some (.inr (.inr 29)), some (.inl k), some (.inr (.inr 63)), some (.inl dp), some (.inl (h 30 k)), some (.inl (h 31 k)), some (.inl (h 32 k)), none] [] h
        refine E_s 8 (i' := 62) (ls' := [some (.inr (.inr 28)), some (.inr (.inr 29)), some (.inl k), some (.inr (.inr 63)), some (.inl dp), some (.inl (h 30 k)), some (.inl (h 31 k)), some (.inl (h 32 k)), none]) (sk' := [.inl (dp - 1), .inr (.inr 63), .inl (h 31 k), .inr (.inr 29), .inr (.inr 28)]) (h' := h) rfl ?_
        have j1 : 0 ≤ h 31 k ∧ h 31 k < T 0 0 ∧ T 4 (h 31 k) ≤ dp + 2 := by
          rw [a2]
          omega
        refine E_cp (x := (.invokevirtual 107, 4, [(7, 91)], [0])) (q := fun r h9 => w32 r = VU S T (h 63) (h 31 k) ∧ h = h9) rfl rfl (Nat.le_of_ble_eq_true rfl) (IH (h 31 k) j1.1 j1.2.1 j1.2.2 _ (fun v hv => ⟨v, rfl, hv, rfl⟩)) (fun r1 h9 hv1 => ?_)
        obtain ⟨hv1, rfl⟩ := hv1
        show xEx G0 cdX9_come (some .int) (xRn G0 MT (d + 12)) Q b 63 [some (.inr (.inr 28)), some (.inr (.inr 29)), some (.inl k), some (.inr (.inr 63)), some (.inl dp), some (.inl (h 30 k)), some (.inl (h 31 k)), some (.inl (h 32 k)), none] [.inl r1] h
        have z1 : VU S T (h 63) (h 31 k) = 0 ∨ VU S T (h 63) (h 31 k) = 1 := vU_01 S T _ 150 _
        refine E_ti (y := (VU S T (h 63) (h 31 k))) (by rw [hv1, w32_id ⟨by omega, by omega⟩]) ?_
        refine E_s 3 (i' := 66) (ls' := [some (.inr (.inr 28)), some (.inr (.inr 29)), some (.inl k), some (.inr (.inr 63)), some (.inl dp), some (.inl (h 30 k)), some (.inl (h 31 k)), some (.inl (h 32 k)), some (.inl (VU S T (h 63) (h 31 k)))]) (sk' := [.inl 2, .inl (h 30 k)]) (h' := h) rfl ?_
        refine E_b (x := (.if_icmp .ne 8, 71, [], [])) rfl rfl (fun c66 => ?_) (fun c66 => ?_)
        · rw [c_ne (by first | assumption | (refine ⟨?_, ?_⟩ <;> omega) | (simp only [xr] at *; omega)) (by first | assumption | (refine ⟨?_, ?_⟩ <;> omega) | (simp only [xr] at *; omega))] at c66
          simp only [decide_eq_true_eq, decide_eq_false_iff_not, Decidable.not_not] at c66
          show xEx G0 cdX9_come (some .int) (xRn G0 MT (d + 12)) Q b 71 [some (.inr (.inr 28)), some (.inr (.inr 29)), some (.inl k), some (.inr (.inr 63)), some (.inl dp), some (.inl (h 30 k)), some (.inl (h 31 k)), some (.inl (h 32 k)), some (.inl (VU S T (h 63) (h 31 k)))] [] h
          refine E_s 1 (i' := 72) (ls' := [some (.inr (.inr 28)), some (.inr (.inr 29)), some (.inl k), some (.inr (.inr 63)), some (.inl dp), some (.inl (h 30 k)), some (.inl (h 31 k)), some (.inl (h 32 k)), some (.inl (VU S T (h 63) (h 31 k)))]) (sk' := [.inl (VU S T (h 63) (h 31 k))]) (h' := h) rfl ?_
          refine E_b (x := (.ifCond .ne 7, 75, [], [])) rfl rfl (fun c72 => ?_) (fun c72 => ?_)
          · rw [c_ne (by first | assumption | (refine ⟨?_, ?_⟩ <;> omega) | (simp only [xr] at *; omega)) (by first | assumption | (refine ⟨?_, ?_⟩ <;> omega) | (simp only [xr] at *; omega))] at c72
            simp only [decide_eq_true_eq, decide_eq_false_iff_not, Decidable.not_not] at c72
            show xEx G0 cdX9_come (some .int) (xRn G0 MT (d + 12)) Q b 75 [some (.inr (.inr 28)), some (.inr (.inr 29)), some (.inl k), some (.inr (.inr 63)), some (.inl dp), some (.inl (h 30 k)), some (.inl (h 31 k)), some (.inl (h 32 k)), some (.inl (VU S T (h 63) (h 31 k)))] [] h
            refine E_s 8 (i' := 83) (ls' := [some (.inr (.inr 28)), some (.inr (.inr 29)), some (.inl k), some (.inr (.inr 63)), some (.inl dp), some (.inl (h 30 k)), some (.inl (h 31 k)), some (.inl (h 32 k)), some (.inl (VU S T (h 63) (h 31 k)))]) (sk' := [.inl (dp - 1), .inr (.inr 63), .inl (h 32 k), .inr (.inr 29), .inr (.inr 28)]) (h' := h) rfl ?_
            have j2 : 0 ≤ h 32 k ∧ h 32 k < T 0 0 ∧ T 4 (h 32 k) ≤ dp + 2 := by
              rw [a3]
              omega
            refine E_cp (x := (.invokevirtual 107, 4, [(7, 91)], [0])) (q := fun r h9 => w32 r = VU S T (h 63) (h 32 k) ∧ h = h9) rfl rfl (Nat.le_of_ble_eq_true rfl) (IH (h 32 k) j2.1 j2.2.1 j2.2.2 _ (fun v hv => ⟨v, rfl, hv, rfl⟩)) (fun r2 h9 hv2 => ?_)
            obtain ⟨hv2, rfl⟩ := hv2
            show xEx G0 cdX9_come (some .int) (xRn G0 MT (d + 12)) Q b 84 [some (.inr (.inr 28)), some (.inr (.inr 29)), some (.inl k), some (.inr (.inr 63)), some (.inl dp), some (.inl (h 30 k)), some (.inl (h 31 k)), some (.inl (h 32 k)), some (.inl (VU S T (h 63) (h 31 k)))] [.inl r2] h
            have z2 : VU S T (h 63) (h 32 k) = 0 ∨ VU S T (h 63) (h 32 k) = 1 := vU_01 S T _ 150 _
            refine E_ti (y := (VU S T (h 63) (h 32 k))) (by rw [hv2, w32_id ⟨by omega, by omega⟩]) ?_
            exact E_ret (x := (.ireturn, 0, [], [])) (v := some (.inl (VU S T (h 63) (h 32 k)))) rfl (Or.inl rfl) (hQ _ (by unfold fU; rw [if_neg (by omega), if_neg (by omega), if_neg (by omega), ← a2, ← a3, if_neg (by omega)]; exact w32_id ⟨by omega, by omega⟩))
          · rw [c_ne (by first | assumption | (refine ⟨?_, ?_⟩ <;> omega) | (simp only [xr] at *; omega)) (by first | assumption | (refine ⟨?_, ?_⟩ <;> omega) | (simp only [xr] at *; omega))] at c72
            simp only [decide_eq_true_eq, decide_eq_false_iff_not, Decidable.not_not] at c72
            show xEx G0 cdX9_come (some .int) (xRn G0 MT (d + 12)) Q b 73 [some (.inr (.inr 28)), some (.inr (.inr 29)), some (.inl k), some (.inr (.inr 63)), some (.inl dp), some (.inl (h 30 k)), some (.inl (h 31 k)), some (.inl (h 32 k)), some (.inl (VU S T (h 63) (h 31 k)))] [] h
            refine E_s 2 (i' := 84) (ls' := [some (.inr (.inr 28)), some (.inr (.inr 29)), some (.inl k), some (.inr (.inr 63)), some (.inl dp), some (.inl (h 30 k)), some (.inl (h 31 k)), some (.inl (h 32 k)), some (.inl (VU S T (h 63) (h 31 k)))]) (sk' := [.inl 0]) (h' := h) rfl ?_
            exact E_ret (x := (.ireturn, 0, [], [])) (v := some (.inl 0)) rfl (Or.inl rfl) (hQ _ (by unfold fU; rw [if_neg (by omega), if_neg (by omega), if_neg (by omega), ← a2, if_pos (by omega)]; rfl))
        · rw [c_ne (by first | assumption | (refine ⟨?_, ?_⟩ <;> omega) | (simp only [xr] at *; omega)) (by first | assumption | (refine ⟨?_, ?_⟩ <;> omega) | (simp only [xr] at *; omega))] at c66
          simp only [decide_eq_true_eq, decide_eq_false_iff_not, Decidable.not_not] at c66
          show xEx G0 cdX9_come (some .int) (xRn G0 MT (d + 12)) Q b 67 [some (.inr (.inr 28)), some (.inr (.inr 29)), some (.inl k), some (.inr (.inr 63)), some (.inl dp), some (.inl (h 30 k)), some (.inl (h 31 k)), some (.inl (h 32 k)), some (.inl (VU S T (h 63) (h 31 k)))] [] h
          refine E_s 3 (i' := 70) (ls' := [some (.inr (.inr 28)), some (.inr (.inr 29)), some (.inl k), some (.inr (.inr 63)), some (.inl dp), some (.inl (h 30 k)), some (.inl (h 31 k)), some (.inl (h 32 k)), some (.inl (VU S T (h 63) (h 31 k)))]) (sk' := [.inl (1 - (VU S T (h 63) (h 31 k)))]) (h' := h) rfl ?_
          exact E_ret (x := (.ireturn, 0, [], [])) (v := some (.inl (1 - (VU S T (h 63) (h 31 k))))) rfl (Or.inl rfl) (hQ _ (by unfold fU; rw [if_neg (by omega), if_neg (by omega), if_pos (by omega), ← a2]; exact w32_id ⟨by omega, by omega⟩))
      · rw [c_ne (by first | assumption | (refine ⟨?_, ?_⟩ <;> omega) | (simp only [xr] at *; omega)) (by first | assumption | (refine ⟨?_, ?_⟩ <;> omega) | (simp only [xr] at *; omega))] at c51
        simp only [decide_eq_true_eq, decide_eq_false_iff_not, Decidable.not_not] at c51
        show xEx G0 cdX9_come (some .int) (xRn G0 MT (d + 12)) Q b 52 [some (.inr (.inr 28)), some (.inr (.inr 29)), some (.inl k), some (.inr (.inr 63)), some (.inl dp), some (.inl (h 30 k)), some (.inl (h 31 k)), some (.inl (h 32 k)), none] [] h
        omega
    · rw [c_ne (by first | assumption | (refine ⟨?_, ?_⟩ <;> omega) | (simp only [xr] at *; omega)) (by first | assumption | (refine ⟨?_, ?_⟩ <;> omega) | (simp only [xr] at *; omega))] at c34
      simp only [decide_eq_true_eq, decide_eq_false_iff_not, Decidable.not_not] at c34
      show xEx G0 cdX9_come (some .int) (xRn G0 MT (d + 12)) Q b 35 [some (.inr (.inr 28)), some (.inr (.inr 29)), some (.inl k), some (.inr (.inr 63)), some (.inl dp), some (.inl (h 30 k)), some (.inl (h 31 k)), some (.inl (h 32 k)), none] [] h
      refine E_s 4 (i' := 39) (ls' := [some (.inr (.inr 28)), some (.inr (.inr 29)), some (.inl k), some (.inr (.inr 63)), some (.inl dp), some (.inl (h 30 k)), some (.inl (h 31 k)), some (.inl (h 32 k)), none]) (sk' := [.inr (.inr 63), .inl (h 31 k), .inr (.inr 9)]) (h' := h) rfl ?_
      have ja : 0 ≤ h 31 k ∧ h 31 k < S 0 0 := by omega
      refine E_cp (x := (.invokevirtual 99, 2, [(1, 24)], [1])) (q := fun r h9 => w32 r = VE S (h 63) (h 31 k) ∧ h = h9) rfl rfl (Nat.le_of_ble_eq_true rfl) (c_comesTo d 0 h S (h 31 k) hRE hFE h3 ja hx (fun v hv => ⟨v, rfl, hv, rfl⟩)) (fun ra h9 hva => ?_)
      obtain ⟨hva, rfl⟩ := hva
      show xEx G0 cdX9_come (some .int) (xRn G0 MT (d + 12)) Q b 40 [some (.inr (.inr 28)), some (.inr (.inr 29)), some (.inl k), some (.inr (.inr 63)), some (.inl dp), some (.inl (h 30 k)), some (.inl (h 31 k)), some (.inl (h 32 k)), none] [.inl ra] h
      have xva : xr (VE S (h 63) (h 31 k)) := VE_r hFE hx 300 _ ja.1 ja.2
      refine E_ti (y := (VE S (h 63) (h 31 k))) (by rw [hva, w32_id xva]) ?_
      refine E_s 4 (i' := 44) (ls' := [some (.inr (.inr 28)), some (.inr (.inr 29)), some (.inl k), some (.inr (.inr 63)), some (.inl dp), some (.inl (h 30 k)), some (.inl (h 31 k)), some (.inl (h 32 k)), none]) (sk' := [.inr (.inr 63), .inl (h 32 k), .inr (.inr 9), .inl (VE S (h 63) (h 31 k))]) (h' := h) rfl ?_
      have jb : 0 ≤ h 32 k ∧ h 32 k < S 0 0 := by omega
      refine E_cp (x := (.invokevirtual 99, 2, [(1, 24)], [1])) (q := fun r h9 => w32 r = VE S (h 63) (h 32 k) ∧ h = h9) rfl rfl (Nat.le_of_ble_eq_true rfl) (c_comesTo d 0 h S (h 32 k) hRE hFE h3 jb hx (fun v hv => ⟨v, rfl, hv, rfl⟩)) (fun rb h9 hvb => ?_)
      obtain ⟨hvb, rfl⟩ := hvb
      show xEx G0 cdX9_come (some .int) (xRn G0 MT (d + 12)) Q b 45 [some (.inr (.inr 28)), some (.inr (.inr 29)), some (.inl k), some (.inr (.inr 63)), some (.inl dp), some (.inl (h 30 k)), some (.inl (h 31 k)), some (.inl (h 32 k)), none] [.inl rb, .inl (VE S (h 63) (h 31 k))] h
      have xvb : xr (VE S (h 63) (h 32 k)) := VE_r hFE hx 300 _ jb.1 jb.2
      refine E_ti (y := (VE S (h 63) (h 32 k))) (by rw [hvb, w32_id xvb]) ?_
      refine E_b (x := (.if_icmp .ne 7, 48, [], [])) rfl rfl (fun c45 => ?_) (fun c45 => ?_)
      · rw [c_ne (by first | assumption | (refine ⟨?_, ?_⟩ <;> omega) | (simp only [xr] at *; omega)) (by first | assumption | (refine ⟨?_, ?_⟩ <;> omega) | (simp only [xr] at *; omega))] at c45
        simp only [decide_eq_true_eq, decide_eq_false_iff_not, Decidable.not_not] at c45
        show xEx G0 cdX9_come (some .int) (xRn G0 MT (d + 12)) Q b 48 [some (.inr (.inr 28)), some (.inr (.inr 29)), some (.inl k), some (.inr (.inr 63)), some (.inl dp), some (.inl (h 30 k)), some (.inl (h 31 k)), some (.inl (h 32 k)), none] [] h
        refine E_s 1 (i' := 49) (ls' := [some (.inr (.inr 28)), some (.inr (.inr 29)), some (.inl k), some (.inr (.inr 63)), some (.inl dp), some (.inl (h 30 k)), some (.inl (h 31 k)), some (.inl (h 32 k)), none]) (sk' := [.inl 0]) (h' := h) rfl ?_
        exact E_ret (x := (.ireturn, 0, [], [])) (v := some (.inl 0)) rfl (Or.inl rfl) (hQ _ (by unfold fU; rw [if_neg (by omega), if_pos (by omega), ← a2, ← a3, if_neg (by omega)]; rfl))
      · rw [c_ne (by first | assumption | (refine ⟨?_, ?_⟩ <;> omega) | (simp only [xr] at *; omega)) (by first | assumption | (refine ⟨?_, ?_⟩ <;> omega) | (simp only [xr] at *; omega))] at c45
        simp only [decide_eq_true_eq, decide_eq_false_iff_not, Decidable.not_not] at c45
        show xEx G0 cdX9_come (some .int) (xRn G0 MT (d + 12)) Q b 46 [some (.inr (.inr 28)), some (.inr (.inr 29)), some (.inl k), some (.inr (.inr 63)), some (.inl dp), some (.inl (h 30 k)), some (.inl (h 31 k)), some (.inl (h 32 k)), none] [] h
        refine E_s 2 (i' := 49) (ls' := [some (.inr (.inr 28)), some (.inr (.inr 29)), some (.inl k), some (.inr (.inr 63)), some (.inl dp), some (.inl (h 30 k)), some (.inl (h 31 k)), some (.inl (h 32 k)), none]) (sk' := [.inl 1]) (h' := h) rfl ?_
        exact E_ret (x := (.ireturn, 0, [], [])) (v := some (.inl 1)) rfl (Or.inl rfl) (hQ _ (by unfold fU; rw [if_neg (by omega), if_pos (by omega), ← a2, ← a3, if_pos (by omega)]; rfl))
  · rw [c_ne (by first | assumption | (refine ⟨?_, ?_⟩ <;> omega) | (simp only [xr] at *; omega)) (by first | assumption | (refine ⟨?_, ?_⟩ <;> omega) | (simp only [xr] at *; omega))] at c16
    simp only [decide_eq_true_eq, decide_eq_false_iff_not, Decidable.not_not] at c16
    show xEx G0 cdX9_come (some .int) (xRn G0 MT (d + 12)) Q b 17 [some (.inr (.inr 28)), some (.inr (.inr 29)), some (.inl k), some (.inr (.inr 63)), some (.inl dp), some (.inl (h 30 k)), some (.inl (h 31 k)), some (.inl (h 32 k)), none] [] h
    refine E_s 4 (i' := 21) (ls' := [some (.inr (.inr 28)), some (.inr (.inr 29)), some (.inl k), some (.inr (.inr 63)), some (.inl dp), some (.inl (h 30 k)), some (.inl (h 31 k)), some (.inl (h 32 k)), none]) (sk' := [.inr (.inr 63), .inl (h 31 k), .inr (.inr 9)]) (h' := h) rfl ?_
    have ja : 0 ≤ h 31 k ∧ h 31 k < S 0 0 := by omega
    refine E_cp (x := (.invokevirtual 99, 2, [(1, 24)], [1])) (q := fun r h9 => w32 r = VE S (h 63) (h 31 k) ∧ h = h9) rfl rfl (Nat.le_of_ble_eq_true rfl) (c_comesTo d 0 h S (h 31 k) hRE hFE h3 ja hx (fun v hv => ⟨v, rfl, hv, rfl⟩)) (fun ra h9 hva => ?_)
    obtain ⟨hva, rfl⟩ := hva
    show xEx G0 cdX9_come (some .int) (xRn G0 MT (d + 12)) Q b 22 [some (.inr (.inr 28)), some (.inr (.inr 29)), some (.inl k), some (.inr (.inr 63)), some (.inl dp), some (.inl (h 30 k)), some (.inl (h 31 k)), some (.inl (h 32 k)), none] [.inl ra] h
    have xva : xr (VE S (h 63) (h 31 k)) := VE_r hFE hx 300 _ ja.1 ja.2
    refine E_ti (y := (VE S (h 63) (h 31 k))) (by rw [hva, w32_id xva]) ?_
    refine E_s 4 (i' := 26) (ls' := [some (.inr (.inr 28)), some (.inr (.inr 29)), some (.inl k), some (.inr (.inr 63)), some (.inl dp), some (.inl (h 30 k)), some (.inl (h 31 k)), some (.inl (h 32 k)), none]) (sk' := [.inr (.inr 63), .inl (h 32 k), .inr (.inr 9), .inl (VE S (h 63) (h 31 k))]) (h' := h) rfl ?_
    have jb : 0 ≤ h 32 k ∧ h 32 k < S 0 0 := by omega
    refine E_cp (x := (.invokevirtual 99, 2, [(1, 24)], [1])) (q := fun r h9 => w32 r = VE S (h 63) (h 32 k) ∧ h = h9) rfl rfl (Nat.le_of_ble_eq_true rfl) (c_comesTo d 0 h S (h 32 k) hRE hFE h3 jb hx (fun v hv => ⟨v, rfl, hv, rfl⟩)) (fun rb h9 hvb => ?_)
    obtain ⟨hvb, rfl⟩ := hvb
    show xEx G0 cdX9_come (some .int) (xRn G0 MT (d + 12)) Q b 27 [some (.inr (.inr 28)), some (.inr (.inr 29)), some (.inl k), some (.inr (.inr 63)), some (.inl dp), some (.inl (h 30 k)), some (.inl (h 31 k)), some (.inl (h 32 k)), none] [.inl rb, .inl (VE S (h 63) (h 31 k))] h
    have xvb : xr (VE S (h 63) (h 32 k)) := VE_r hFE hx 300 _ jb.1 jb.2
    refine E_ti (y := (VE S (h 63) (h 32 k))) (by rw [hvb, w32_id xvb]) ?_
    refine E_b (x := (.if_icmp .ge 7, 30, [], [])) rfl rfl (fun c27 => ?_) (fun c27 => ?_)
    · rw [c_ge (by first | assumption | (refine ⟨?_, ?_⟩ <;> omega) | (simp only [xr] at *; omega)) (by first | assumption | (refine ⟨?_, ?_⟩ <;> omega) | (simp only [xr] at *; omega))] at c27
      simp only [decide_eq_true_eq, decide_eq_false_iff_not, Decidable.not_not] at c27
      show xEx G0 cdX9_come (some .int) (xRn G0 MT (d + 12)) Q b 30 [some (.inr (.inr 28)), some (.inr (.inr 29)), some (.inl k), some (.inr (.inr 63)), some (.inl dp), some (.inl (h 30 k)), some (.inl (h 31 k)), some (.inl (h 32 k)), none] [] h
      refine E_s 1 (i' := 31) (ls' := [some (.inr (.inr 28)), some (.inr (.inr 29)), some (.inl k), some (.inr (.inr 63)), some (.inl dp), some (.inl (h 30 k)), some (.inl (h 31 k)), some (.inl (h 32 k)), none]) (sk' := [.inl 0]) (h' := h) rfl ?_
      exact E_ret (x := (.ireturn, 0, [], [])) (v := some (.inl 0)) rfl (Or.inl rfl) (hQ _ (by unfold fU; rw [if_pos (by omega), ← a2, ← a3, if_neg (by omega)]; rfl))
    · rw [c_ge (by first | assumption | (refine ⟨?_, ?_⟩ <;> omega) | (simp only [xr] at *; omega)) (by first | assumption | (refine ⟨?_, ?_⟩ <;> omega) | (simp only [xr] at *; omega))] at c27
      simp only [decide_eq_true_eq, decide_eq_false_iff_not, Decidable.not_not] at c27
      show xEx G0 cdX9_come (some .int) (xRn G0 MT (d + 12)) Q b 28 [some (.inr (.inr 28)), some (.inr (.inr 29)), some (.inl k), some (.inr (.inr 63)), some (.inl dp), some (.inl (h 30 k)), some (.inl (h 31 k)), some (.inl (h 32 k)), none] [] h
      refine E_s 2 (i' := 31) (ls' := [some (.inr (.inr 28)), some (.inr (.inr 29)), some (.inl k), some (.inr (.inr 63)), some (.inl dp), some (.inl (h 30 k)), some (.inl (h 31 k)), some (.inl (h 32 k)), none]) (sk' := [.inl 1]) (h' := h) rfl ?_
      exact E_ret (x := (.ireturn, 0, [], [])) (v := some (.inl 1)) rfl (Or.inl rfl) (hQ _ (by unfold fU; rw [if_pos (by omega), ← a2, ← a3, if_pos (by omega)]; rfl))
set_option maxHeartbeats 1000000 in
theorem c_comeT1_m (d b : Nat) (h S T : xH) (k dp : Int) (hRE : RC h S) (hFE : FW (h 1 2) (h 6) 9 S) (h3 : S 0 0 ≤ 300) (hR : RCT h T) (hF : FWT S 7 T) (h4 : T 0 0 ≤ 150) (hk : 0 ≤ k ∧ k < T 0 0) (h7 : T 7 k ≠ 0) (hd : 0 ≤ dp ∧ dp ≤ 9) (hd9 : dp = 9) (hx : ∀ i, 0 ≤ i → i ≤ 2 → xr (h 63 i)) (IH : ∀ j, 0 ≤ j → j < T 0 0 → T 4 j ≤ dp + 2 → ∀ Q9 : xO → xH → Prop, (∀ v, w32 v = VU S T (h 63) j → Q9 (.inl (some (.inl v))) h) → xRn G0 MT (d + 12) 0 91 [.inr (.inr 28), .inr (.inr 29), .inl j, .inr (.inr 63), .inl (dp - 1)] h Q9) {Q : xO → xH → Prop} (hQ : ∀ v, w32 v = fU S T (h 63) (T 8 k) (T 9 k) (T 10 k) → Q (.inl (some (.inl v))) h) : xRn G0 MT (d + 13) b 91 [.inr (.inr 28), .inr (.inr 33), .inl k, .inr (.inr 63), .inl dp] h Q := by
  refine R_of (M := mX9_come) rfl (Nat.le_of_ble_eq_true rfl) ?_
  show xEx G0 cdX9_come (some .int) (xRn G0 MT (d + 12)) Q b 0 [some (.inr (.inr 28)), some (.inr (.inr 33)), some (.inl k), some (.inr (.inr 63)), some (.inl dp), none, none, none, none] [] h
  obtain ⟨-, -, -, -, -, -, r6, -⟩ := hR
  obtain ⟨x1, x2, x3, -, -, -, -, x8⟩ := r6 k hk.1 hk.2
  obtain ⟨a1, a2, a3⟩ := x8 h7
  obtain ⟨y, y9, tw⟩ := (hF k hk.1 hk.2).2.2.2.2.2 h7
  have ch := tw_ch hF (Int.le_refl _) tw
  refine E_s 3 (i' := 3) (ls' := [some (.inr (.inr 28)), some (.inr (.inr 33)), some (.inl k), some (.inr (.inr 63)), some (.inl dp), none, none, none, none]) (sk' := [.inl k, .inr (.inr 34)]) (h' := h) rfl ?_
  refine E_ld (x := (.iaload, 0, [], [])) (ty := .int) (n := 150) rfl rfl rfl (by omega) (by omega) ?_
  show xEx G0 cdX9_come (some .int) (xRn G0 MT (d + 12)) Q b 4 [some (.inr (.inr 28)), some (.inr (.inr 33)), some (.inl k), some (.inr (.inr 63)), some (.inl dp), none, none, none, none] [.inl (h 34 k)] h
  refine E_s 4 (i' := 8) (ls' := [some (.inr (.inr 28)), some (.inr (.inr 33)), some (.inl k), some (.inr (.inr 63)), some (.inl dp), some (.inl (h 34 k)), none, none, none]) (sk' := [.inl k, .inr (.inr 35)]) (h' := h) rfl ?_
  refine E_ld (x := (.iaload, 0, [], [])) (ty := .int) (n := 150) rfl rfl rfl (by omega) (by omega) ?_
  show xEx G0 cdX9_come (some .int) (xRn G0 MT (d + 12)) Q b 9 [some (.inr (.inr 28)), some (.inr (.inr 33)), some (.inl k), some (.inr (.inr 63)), some (.inl dp), some (.inl (h 34 k)), none, none, none] [.inl (h 35 k)] h
  refine E_s 4 (i' := 13) (ls' := [some (.inr (.inr 28)), some (.inr (.inr 33)), some (.inl k), some (.inr (.inr 63)), some (.inl dp), some (.inl (h 34 k)), some (.inl (h 35 k)), none, none]) (sk' := [.inl k, .inr (.inr 36)]) (h' := h) rfl ?_
  refine E_ld (x := (.iaload, 0, [], [])) (ty := .int) (n := 150) rfl rfl rfl (by omega) (by omega) ?_
  show xEx G0 cdX9_come (some .int) (xRn G0 MT (d + 12)) Q b 14 [some (.inr (.inr 28)), some (.inr (.inr 33)), some (.inl k), some (.inr (.inr 63)), some (.inl dp), some (.inl (h 34 k)), some (.inl (h 35 k)), none, none] [.inl (h 36 k)] h
  refine E_s 2 (i' := 16) (ls' := [some (.inr (.inr 28)), some (.inr (.inr 33)), some (.inl k), some (.inr (.inr 63)), some (.inl dp), some (.inl (h 34 k)), some (.inl (h 35 k)), some (.inl (h 36 k)), none]) (sk' := [.inl (h 34 k)]) (h' := h) rfl ?_
  refine E_b (x := (.ifCond .ne 32, 32, [], [])) rfl rfl (fun c16 => ?_) (fun c16 => ?_)
  · rw [c_ne (by first | assumption | (refine ⟨?_, ?_⟩ <;> omega) | (simp only [xr] at *; omega)) (by first | assumption | (refine ⟨?_, ?_⟩ <;> omega) | (simp only [xr] at *; omega))] at c16
    simp only [decide_eq_true_eq, decide_eq_false_iff_not, Decidable.not_not] at c16
    show xEx G0 cdX9_come (some .int) (xRn G0 MT (d + 12)) Q b 32 [some (.inr (.inr 28)), some (.inr (.inr 33)), some (.inl k), some (.inr (.inr 63)), some (.inl dp), some (.inl (h 34 k)), some (.inl (h 35 k)), some (.inl (h 36 k)), none] [] h
    refine E_s 2 (i' := 34) (ls' := [some (.inr (.inr 28)), some (.inr (.inr 33)), some (.inl k), some (.inr (.inr 63)), some (.inl dp), some (.inl (h 34 k)), some (.inl (h 35 k)), some (.inl (h 36 k)), none]) (sk' := [.inl 1, .inl (h 34 k)]) (h' := h) rfl ?_
    refine E_b (x := (.if_icmp .ne 32, 50, [], [])) rfl rfl (fun c34 => ?_) (fun c34 => ?_)
    · rw [c_ne (by first | assumption | (refine ⟨?_, ?_⟩ <;> omega) | (simp only [xr] at *; omega)) (by first | assumption | (refine ⟨?_, ?_⟩ <;> omega) | (simp only [xr] at *; omega))] at c34
      simp only [decide_eq_true_eq, decide_eq_false_iff_not, Decidable.not_not] at c34
      show xEx G0 cdX9_come (some .int) (xRn G0 MT (d + 12)) Q b 50 [some (.inr (.inr 28)), some (.inr (.inr 33)), some (.inl k), some (.inr (.inr 63)), some (.inl dp), some (.inl (h 34 k)), some (.inl (h 35 k)), some (.inl (h 36 k)), none] [] h
      refine E_s 1 (i' := 51) (ls' := [some (.inr (.inr 28)), some (.inr (.inr 33)), some (.inl k), some (.inr (.inr 63)), some (.inl dp), some (.inl (h 34 k)), some (.inl (h 35 k)), some (.inl (h 36 k)), none]) (sk' := [.inl dp]) (h' := h) rfl ?_
      refine E_b (x := (.ifCond .ne 7, 54, [], [])) rfl rfl (fun c51 => ?_) (fun c51 => ?_)
      · rw [c_ne (by first | assumption | (refine ⟨?_, ?_⟩ <;> omega) | (simp only [xr] at *; omega)) (by first | assumption | (refine ⟨?_, ?_⟩ <;> omega) | (simp only [xr] at *; omega))] at c51
        simp only [decide_eq_true_eq, decide_eq_false_iff_not, Decidable.not_not] at c51
        show xEx G0 cdX9_come (some .int) (xRn G0 MT (d + 12)) Q b 54 [some (.inr (.inr 28)), some (.inr (.inr 33)), some (.inl k), some (.inr (.inr 63)), some (.inl dp), some (.inl (h 34 k)), some (.inl (h 35 k)), some (.inl (h 36 k)), none] [] h
        refine E_s 8 (i' := 62) (ls' := [some (.inr (.inr 28)), some (.inr (.inr 33)), some (.inl k), some (.inr (.inr 63)), some (.inl dp), some (.inl (h 34 k)), some (.inl (h 35 k)), some (.inl (h 36 k)), none]) (sk' := [.inl (dp - 1), .inr (.inr 63), .inl (h 35 k), .inr (.inr 29), .inr (.inr 28)]) (h' := h) rfl ?_
        have j1 : 0 ≤ h 35 k ∧ h 35 k < T 0 0 ∧ T 4 (h 35 k) ≤ dp + 2 := by
          rw [a2]
          omega
        refine E_cp (x := (.invokevirtual 107, 4, [(7, 91)], [0])) (q := fun r h9 => w32 r = VU S T (h 63) (h 35 k) ∧ h = h9) rfl rfl (Nat.le_of_ble_eq_true rfl) (IH (h 35 k) j1.1 j1.2.1 j1.2.2 _ (fun v hv => ⟨v, rfl, hv, rfl⟩)) (fun r1 h9 hv1 => ?_)
        obtain ⟨hv1, rfl⟩ := hv1
        show xEx G0 cdX9_come (some .int) (xRn G0 MT (d + 12)) Q b 63 [some (.inr (.inr 28)), some (.inr (.inr 33)), some (.inl k), some (.inr (.inr 63)), some (.inl dp), some (.inl (h 34 k)), some (.inl (h 35 k)), some (.inl (h 36 k)), none] [.inl r1] h
        have z1 : VU S T (h 63) (h 35 k) = 0 ∨ VU S T (h 63) (h 35 k) = 1 := vU_01 S T _ 150 _
        refine E_ti (y := (VU S T (h 63) (h 35 k))) (by rw [hv1, w32_id ⟨by omega, by omega⟩]) ?_
        refine E_s 3 (i' := 66) (ls' := [some (.inr (.inr 28)), some (.inr (.inr 33)), some (.inl k), some (.inr (.inr 63)), some (.inl dp), some (.inl (h 34 k)), some (.inl (h 35 k)), some (.inl (h 36 k)), some (.inl (VU S T (h 63) (h 35 k)))]) (sk' := [.inl 2, .inl (h 34 k)]) (h' := h) rfl ?_
        refine E_b (x := (.if_icmp .ne 8, 71, [], [])) rfl rfl (fun c66 => ?_) (fun c66 => ?_)
        · rw [c_ne (by first | assumption | (refine ⟨?_, ?_⟩ <;> omega) | (simp only [xr] at *; omega)) (by first | assumption | (refine ⟨?_, ?_⟩ <;> omega) | (simp only [xr] at *; omega))] at c66
          simp only [decide_eq_true_eq, decide_eq_false_iff_not, Decidable.not_not] at c66
          show xEx G0 cdX9_come (some .int) (xRn G0 MT (d + 12)) Q b 71 [some (.inr (.inr 28)), some (.inr (.inr 33)), some (.inl k), some (.inr (.inr 63)), some (.inl dp), some (.inl (h 34 k)), some (.inl (h 35 k)), some (.inl (h 36 k)), some (.inl (VU S T (h 63) (h 35 k)))] [] h
          refine E_s 1 (i' := 72) (ls' := [some (.inr (.inr 28)), some (.inr (.inr 33)), some (.inl k), some (.inr (.inr 63)), some (.inl dp), some (.inl (h 34 k)), some (.inl (h 35 k)), some (.inl (h 36 k)), some (.inl (VU S T (h 63) (h 35 k)))]) (sk' := [.inl (VU S T (h 63) (h 35 k))]) (h' := h) rfl ?_
          refine E_b (x := (.ifCond .ne 7, 75, [], [])) rfl rfl (fun c72 => ?_) (fun c72 => ?_)
          · rw [c_ne (by first | assumption | (refine ⟨?_, ?_⟩ <;> omega) | (simp only [xr] at *; omega)) (by first | assumption | (refine ⟨?_, ?_⟩ <;> omega) | (simp only [xr] at *; omega))] at c72
            simp only [decide_eq_true_eq, decide_eq_false_iff_not, Decidable.not_not] at c72
            show xEx G0 cdX9_come (some .int) (xRn G0 MT (d + 12)) Q b 75 [some (.inr (.inr 28)), some (.inr (.inr 33)), some (.inl k), some (.inr (.inr 63)), some (.inl dp), some (.inl (h 34 k)), some (.inl (h 35 k)), some (.inl (h 36 k)), some (.inl (VU S T (h 63) (h 35 k)))] [] h
            refine E_s 8 (i' := 83) (ls' := [some (.inr (.inr 28)), some (.inr (.inr 33)), some (.inl k), some (.inr (.inr 63)), some (.inl dp), some (.inl (h 34 k)), some (.inl (h 35 k)), some (.inl (h 36 k)), some (.inl (VU S T (h 63) (h 35 k)))]) (sk' := [.inl (dp - 1), .inr (.inr 63), .inl (h 36 k), .inr (.inr 29), .inr (.inr 28)]) (h' := h) rfl ?_
            have j2 : 0 ≤ h 36 k ∧ h 36 k < T 0 0 ∧ T 4 (h 36 k) ≤ dp + 2 := by
              rw [a3]
              omega
            refine E_cp (x := (.invokevirtual 107, 4, [(7, 91)], [0])) (q := fun r h9 => w32 r = VU S T (h 63) (h 36 k) ∧ h = h9) rfl rfl (Nat.le_of_ble_eq_true rfl) (IH (h 36 k) j2.1 j2.2.1 j2.2.2 _ (fun v hv => ⟨v, rfl, hv, rfl⟩)) (fun r2 h9 hv2 => ?_)
            obtain ⟨hv2, rfl⟩ := hv2
            show xEx G0 cdX9_come (some .int) (xRn G0 MT (d + 12)) Q b 84 [some (.inr (.inr 28)), some (.inr (.inr 33)), some (.inl k), some (.inr (.inr 63)), some (.inl dp), some (.inl (h 34 k)), some (.inl (h 35 k)), some (.inl (h 36 k)), some (.inl (VU S T (h 63) (h 35 k)))] [.inl r2] h
            have z2 : VU S T (h 63) (h 36 k) = 0 ∨ VU S T (h 63) (h 36 k) = 1 := vU_01 S T _ 150 _
            refine E_ti (y := (VU S T (h 63) (h 36 k))) (by rw [hv2, w32_id ⟨by omega, by omega⟩]) ?_
            exact E_ret (x := (.ireturn, 0, [], [])) (v := some (.inl (VU S T (h 63) (h 36 k)))) rfl (Or.inl rfl) (hQ _ (by unfold fU; rw [if_neg (by omega), if_neg (by omega), if_neg (by omega), ← a2, ← a3, if_neg (by omega)]; exact w32_id ⟨by omega, by omega⟩))
          · rw [c_ne (by first | assumption | (refine ⟨?_, ?_⟩ <;> omega) | (simp only [xr] at *; omega)) (by first | assumption | (refine ⟨?_, ?_⟩ <;> omega) | (simp only [xr] at *; omega))] at c72
            simp only [decide_eq_true_eq, decide_eq_false_iff_not, Decidable.not_not] at c72
            show xEx G0 cdX9_come (some .int) (xRn G0 MT (d + 12)) Q b 73 [some (.inr (.inr 28)), some (.inr (.inr 33)), some (.inl k), some (.inr (.inr 63)), some (.inl dp), some (.inl (h 34 k)), some (.inl (h 35 k)), some (.inl (h 36 k)), some (.inl (VU S T (h 63) (h 35 k)))] [] h
            refine E_s 2 (i' := 84) (ls' := [some (.inr (.inr 28)), some (.inr (.inr 33)), some (.inl k), some (.inr (.inr 63)), some (.inl dp), some (.inl (h 34 k)), some (.inl (h 35 k)), some (.inl (h 36 k)), some (.inl (VU S T (h 63) (h 35 k)))]) (sk' := [.inl 0]) (h' := h) rfl ?_
            exact E_ret (x := (.ireturn, 0, [], [])) (v := some (.inl 0)) rfl (Or.inl rfl) (hQ _ (by unfold fU; rw [if_neg (by omega), if_neg (by omega), if_neg (by omega), ← a2, if_pos (by omega)]; rfl))
        · rw [c_ne (by first | assumption | (refine ⟨?_, ?_⟩ <;> omega) | (simp only [xr] at *; omega)) (by first | assumption | (refine ⟨?_, ?_⟩ <;> omega) | (simp only [xr] at *; omega))] at c66
          simp only [decide_eq_true_eq, decide_eq_false_iff_not, Decidable.not_not] at c66
          show xEx G0 cdX9_come (some .int) (xRn G0 MT (d + 12)) Q b 67 [some (.inr (.inr 28)), some (.inr (.inr 33)), some (.inl k), some (.inr (.inr 63)), some (.inl dp), some (.inl (h 34 k)), some (.inl (h 35 k)), some (.inl (h 36 k)), some (.inl (VU S T (h 63) (h 35 k)))] [] h
          refine E_s 3 (i' := 70) (ls' := [some (.inr (.inr 28)), some (.inr (.inr 33)), some (.inl k), some (.inr (.inr 63)), some (.inl dp), some (.inl (h 34 k)), some (.inl (h 35 k)), some (.inl (h 36 k)), some (.inl (VU S T (h 63) (h 35 k)))]) (sk' := [.inl (1 - (VU S T (h 63) (h 35 k)))]) (h' := h) rfl ?_
          exact E_ret (x := (.ireturn, 0, [], [])) (v := some (.inl (1 - (VU S T (h 63) (h 35 k))))) rfl (Or.inl rfl) (hQ _ (by unfold fU; rw [if_neg (by omega), if_neg (by omega), if_pos (by omega), ← a2]; exact w32_id ⟨by omega, by omega⟩))
      · rw [c_ne (by first | assumption | (refine ⟨?_, ?_⟩ <;> omega) | (simp only [xr] at *; omega)) (by first | assumption | (refine ⟨?_, ?_⟩ <;> omega) | (simp only [xr] at *; omega))] at c51
        simp only [decide_eq_true_eq, decide_eq_false_iff_not, Decidable.not_not] at c51
        show xEx G0 cdX9_come (some .int) (xRn G0 MT (d + 12)) Q b 52 [some (.inr (.inr 28)), some (.inr (.inr 33)), some (.inl k), some (.inr (.inr 63)), some (.inl dp), some (.inl (h 34 k)), some (.inl (h 35 k)), some (.inl (h 36 k)), none] [] h
        omega
    · rw [c_ne (by first | assumption | (refine ⟨?_, ?_⟩ <;> omega) | (simp only [xr] at *; omega)) (by first | assumption | (refine ⟨?_, ?_⟩ <;> omega) | (simp only [xr] at *; omega))] at c34
      simp only [decide_eq_true_eq, decide_eq_false_iff_not, Decidable.not_not] at c34
      show xEx G0 cdX9_come (some .int) (xRn G0 MT (d + 12)) Q b 35 [some (.inr (.inr 28)), some (.inr (.inr 33)), some (.inl k), some (.inr (.inr 63)), some (.inl dp), some (.inl (h 34 k)), some (.inl (h 35 k)), some (.inl (h 36 k)), none] [] h
      refine E_s 4 (i' := 39) (ls' := [some (.inr (.inr 28)), some (.inr (.inr 33)), some (.inl k), some (.inr (.inr 63)), some (.inl dp), some (.inl (h 34 k)), some (.inl (h 35 k)), some (.inl (h 36 k)), none]) (sk' := [.inr (.inr 63), .inl (h 35 k), .inr (.inr 9)]) (h' := h) rfl ?_
      have ja : 0 ≤ h 35 k ∧ h 35 k < S 0 0 := by omega
      refine E_cp (x := (.invokevirtual 99, 2, [(1, 24)], [1])) (q := fun r h9 => w32 r = VE S (h 63) (h 35 k) ∧ h = h9) rfl rfl (Nat.le_of_ble_eq_true rfl) (c_comesTo d 0 h S (h 35 k) hRE hFE h3 ja hx (fun v hv => ⟨v, rfl, hv, rfl⟩)) (fun ra h9 hva => ?_)
      obtain ⟨hva, rfl⟩ := hva
      show xEx G0 cdX9_come (some .int) (xRn G0 MT (d + 12)) Q b 40 [some (.inr (.inr 28)), some (.inr (.inr 33)), some (.inl k), some (.inr (.inr 63)), some (.inl dp), some (.inl (h 34 k)), some (.inl (h 35 k)), some (.inl (h 36 k)), none] [.inl ra] h
      have xva : xr (VE S (h 63) (h 35 k)) := VE_r hFE hx 300 _ ja.1 ja.2
      refine E_ti (y := (VE S (h 63) (h 35 k))) (by rw [hva, w32_id xva]) ?_
      refine E_s 4 (i' := 44) (ls' := [some (.inr (.inr 28)), some (.inr (.inr 33)), some (.inl k), some (.inr (.inr 63)), some (.inl dp), some (.inl (h 34 k)), some (.inl (h 35 k)), some (.inl (h 36 k)), none]) (sk' := [.inr (.inr 63), .inl (h 36 k), .inr (.inr 9), .inl (VE S (h 63) (h 35 k))]) (h' := h) rfl ?_
      have jb : 0 ≤ h 36 k ∧ h 36 k < S 0 0 := by omega
      refine E_cp (x := (.invokevirtual 99, 2, [(1, 24)], [1])) (q := fun r h9 => w32 r = VE S (h 63) (h 36 k) ∧ h = h9) rfl rfl (Nat.le_of_ble_eq_true rfl) (c_comesTo d 0 h S (h 36 k) hRE hFE h3 jb hx (fun v hv => ⟨v, rfl, hv, rfl⟩)) (fun rb h9 hvb => ?_)
      obtain ⟨hvb, rfl⟩ := hvb
      show xEx G0 cdX9_come (some .int) (xRn G0 MT (d + 12)) Q b 45 [some (.inr (.inr 28)), some (.inr (.inr 33)), some (.inl k), some (.inr (.inr 63)), some (.inl dp), some (.inl (h 34 k)), some (.inl (h 35 k)), some (.inl (h 36 k)), none] [.inl rb, .inl (VE S (h 63) (h 35 k))] h
      have xvb : xr (VE S (h 63) (h 36 k)) := VE_r hFE hx 300 _ jb.1 jb.2
      refine E_ti (y := (VE S (h 63) (h 36 k))) (by rw [hvb, w32_id xvb]) ?_
      refine E_b (x := (.if_icmp .ne 7, 48, [], [])) rfl rfl (fun c45 => ?_) (fun c45 => ?_)
      · rw [c_ne (by first | assumption | (refine ⟨?_, ?_⟩ <;> omega) | (simp only [xr] at *; omega)) (by first | assumption | (refine ⟨?_, ?_⟩ <;> omega) | (simp only [xr] at *; omega))] at c45
        simp only [decide_eq_true_eq, decide_eq_false_iff_not, Decidable.not_not] at c45
        show xEx G0 cdX9_come (some .int) (xRn G0 MT (d + 12)) Q b 48 [some (.inr (.inr 28)), some (.inr (.inr 33)), some (.inl k), some (.inr (.inr 63)), some (.inl dp), some (.inl (h 34 k)), some (.inl (h 35 k)), some (.inl (h 36 k)), none] [] h
        refine E_s 1 (i' := 49) (ls' := [some (.inr (.inr 28)), some (.inr (.inr 33)), some (.inl k), some (.inr (.inr 63)), some (.inl dp), some (.inl (h 34 k)), some (.inl (h 35 k)), some (.inl (h 36 k)), none]) (sk' := [.inl 0]) (h' := h) rfl ?_
        exact E_ret (x := (.ireturn, 0, [], [])) (v := some (.inl 0)) rfl (Or.inl rfl) (hQ _ (by unfold fU; rw [if_neg (by omega), if_pos (by omega), ← a2, ← a3, if_neg (by omega)]; rfl))
      · rw [c_ne (by first | assumption | (refine ⟨?_, ?_⟩ <;> omega) | (simp only [xr] at *; omega)) (by first | assumption | (refine ⟨?_, ?_⟩ <;> omega) | (simp only [xr] at *; omega))] at c45
        simp only [decide_eq_true_eq, decide_eq_false_iff_not, Decidable.not_not] at c45
        show xEx G0 cdX9_come (some .int) (xRn G0 MT (d + 12)) Q b 46 [some (.inr (.inr 28)), some (.inr (.inr 33)), some (.inl k), some (.inr (.inr 63)), some (.inl dp), some (.inl (h 34 k)), some (.inl (h 35 k)), some (.inl (h 36 k)), none] [] h
        refine E_s 2 (i' := 49) (ls' := [some (.inr (.inr 28)), some (.inr (.inr 33)), some (.inl k), some (.inr (.inr 63)), some (.inl dp), some (.inl (h 34 k)), some (.inl (h 35 k)), some (.inl (h 36 k)), none]) (sk' := [.inl 1]) (h' := h) rfl ?_
        exact E_ret (x := (.ireturn, 0, [], [])) (v := some (.inl 1)) rfl (Or.inl rfl) (hQ _ (by unfold fU; rw [if_neg (by omega), if_pos (by omega), ← a2, ← a3, if_pos (by omega)]; rfl))
  · rw [c_ne (by first | assumption | (refine ⟨?_, ?_⟩ <;> omega) | (simp only [xr] at *; omega)) (by first | assumption | (refine ⟨?_, ?_⟩ <;> omega) | (simp only [xr] at *; omega))] at c16
    simp only [decide_eq_true_eq, decide_eq_false_iff_not, Decidable.not_not] at c16
    show xEx G0 cdX9_come (some .int) (xRn G0 MT (d + 12)) Q b 17 [some (.inr (.inr 28)), some (.inr (.inr 33)), some (.inl k), some (.inr (.inr 63)), some (.inl dp), some (.inl (h 34 k)), some (.inl (h 35 k)), some (.inl (h 36 k)), none] [] h
    refine E_s 4 (i' := 21) (ls' := [some (.inr (.inr 28)), some (.inr (.inr 33)), some (.inl k), some (.inr (.inr 63)), some (.inl dp), some (.inl (h 34 k)), some (.inl (h 35 k)), some (.inl (h 36 k)), none]) (sk' := [.inr (.inr 63), .inl (h 35 k), .inr (.inr 9)]) (h' := h) rfl ?_
    have ja : 0 ≤ h 35 k ∧ h 35 k < S 0 0 := by omega
    refine E_cp (x := (.invokevirtual 99, 2, [(1, 24)], [1])) (q := fun r h9 => w32 r = VE S (h 63) (h 35 k) ∧ h = h9) rfl rfl (Nat.le_of_ble_eq_true rfl) (c_comesTo d 0 h S (h 35 k) hRE hFE h3 ja hx (fun v hv => ⟨v, rfl, hv, rfl⟩)) (fun ra h9 hva => ?_)
    obtain ⟨hva, rfl⟩ := hva
    show xEx G0 cdX9_come (some .int) (xRn G0 MT (d + 12)) Q b 22 [some (.inr (.inr 28)), some (.inr (.inr 33)), some (.inl k), some (.inr (.inr 63)), some (.inl dp), some (.inl (h 34 k)), some (.inl (h 35 k)), some (.inl (h 36 k)), none] [.inl ra] h
    have xva : xr (VE S (h 63) (h 35 k)) := VE_r hFE hx 300 _ ja.1 ja.2
    refine E_ti (y := (VE S (h 63) (h 35 k))) (by rw [hva, w32_id xva]) ?_
    refine E_s 4 (i' := 26) (ls' := [some (.inr (.inr 28)), some (.inr (.inr 33)), some (.inl k), some (.inr (.inr 63)), some (.inl dp), some (.inl (h 34 k)), some (.inl (h 35 k)), some (.inl (h 36 k)), none]) (sk' := [.inr (.inr 63), .inl (h 36 k), .inr (.inr 9), .inl (VE S (h 63) (h 35 k))]) (h' := h) rfl ?_
    have jb : 0 ≤ h 36 k ∧ h 36 k < S 0 0 := by omega
    refine E_cp (x := (.invokevirtual 99, 2, [(1, 24)], [1])) (q := fun r h9 => w32 r = VE S (h 63) (h 36 k) ∧ h = h9) rfl rfl (Nat.le_of_ble_eq_true rfl) (c_comesTo d 0 h S (h 36 k) hRE hFE h3 jb hx (fun v hv => ⟨v, rfl, hv, rfl⟩)) (fun rb h9 hvb => ?_)
    obtain ⟨hvb, rfl⟩ := hvb
    show xEx G0 cdX9_come (some .int) (xRn G0 MT (d + 12)) Q b 27 [some (.inr (.inr 28)), some (.inr (.inr 33)), some (.inl k), some (.inr (.inr 63)), some (.inl dp), some (.inl (h 34 k)), some (.inl (h 35 k)), some (.inl (h 36 k)), none] [.inl rb, .inl (VE S (h 63) (h 35 k))] h
    have xvb : xr (VE S (h 63) (h 36 k)) := VE_r hFE hx 300 _ jb.1 jb.2
    refine E_ti (y := (VE S (h 63) (h 36 k))) (by rw [hvb, w32_id xvb]) ?_
    refine E_b (x := (.if_icmp .ge 7, 30, [], [])) rfl rfl (fun c27 => ?_) (fun c27 => ?_)
    · rw [c_ge (by first | assumption | (refine ⟨?_, ?_⟩ <;> omega) | (simp only [xr] at *; omega)) (by first | assumption | (refine ⟨?_, ?_⟩ <;> omega) | (simp only [xr] at *; omega))] at c27
      simp only [decide_eq_true_eq, decide_eq_false_iff_not, Decidable.not_not] at c27
      show xEx G0 cdX9_come (some .int) (xRn G0 MT (d + 12)) Q b 30 [some (.inr (.inr 28)), some (.inr (.inr 33)), some (.inl k), some (.inr (.inr 63)), some (.inl dp), some (.inl (h 34 k)), some (.inl (h 35 k)), some (.inl (h 36 k)), none] [] h
      refine E_s 1 (i' := 31) (ls' := [some (.inr (.inr 28)), some (.inr (.inr 33)), some (.inl k), some (.inr (.inr 63)), some (.inl dp), some (.inl (h 34 k)), some (.inl (h 35 k)), some (.inl (h 36 k)), none]) (sk' := [.inl 0]) (h' := h) rfl ?_
      exact E_ret (x := (.ireturn, 0, [], [])) (v := some (.inl 0)) rfl (Or.inl rfl) (hQ _ (by unfold fU; rw [if_pos (by omega), ← a2, ← a3, if_neg (by omega)]; rfl))
    · rw [c_ge (by first | assumption | (refine ⟨?_, ?_⟩ <;> omega) | (simp only [xr] at *; omega)) (by first | assumption | (refine ⟨?_, ?_⟩ <;> omega) | (simp only [xr] at *; omega))] at c27
      simp only [decide_eq_true_eq, decide_eq_false_iff_not, Decidable.not_not] at c27
      show xEx G0 cdX9_come (some .int) (xRn G0 MT (d + 12)) Q b 28 [some (.inr (.inr 28)), some (.inr (.inr 33)), some (.inl k), some (.inr (.inr 63)), some (.inl dp), some (.inl (h 34 k)), some (.inl (h 35 k)), some (.inl (h 36 k)), none] [] h
      refine E_s 2 (i' := 31) (ls' := [some (.inr (.inr 28)), some (.inr (.inr 33)), some (.inl k), some (.inr (.inr 63)), some (.inl dp), some (.inl (h 34 k)), some (.inl (h 35 k)), some (.inl (h 36 k)), none]) (sk' := [.inl 1]) (h' := h) rfl ?_
      exact E_ret (x := (.ireturn, 0, [], [])) (v := some (.inl 1)) rfl (Or.inl rfl) (hQ _ (by unfold fU; rw [if_pos (by omega), ← a2, ← a3, if_pos (by omega)]; rfl))
theorem c_comeT : ∀ (n d b : Nat) (h S T : xH) (k dp : Int), dp = (n : Int) → RC h S → FW (h 1 2) (h 6) 9 S → S 0 0 ≤ 300 → RCT h T → FWT S 7 T → T 0 0 ≤ 150 → (0 ≤ k ∧ k < T 0 0) → dp ≤ 9 → T 4 k ≤ dp + 3 → (∀ i, 0 ≤ i → i ≤ 2 → xr (h 63 i)) → ∀ {Q : xO → xH → Prop}, (∀ v, w32 v = VU S T (h 63) k → Q (.inl (some (.inl v))) h) → xRn G0 MT (d + n + 13) b 91 [.inr (.inr 28), .inr (.inr 29), .inl k, .inr (.inr 63), .inl dp] h Q
  | 0, d, b, h, S, T, k, dp, hn, hRE, hFE, h3, hR, hF, h4, hk, hd, hz, hx, Q, hQ => by
    refine c_comeT1_f d b h S T k dp hRE hFE h3 hR hF h4 hk (by omega) hz hx (fun j j1 j2 j3 Q9 hQ9 => ?_) (fun v hv => hQ v (by rw [hv]; exact (VU_eq _ hF h4 hk.1 hk.2).symm))
    have := (hF j j1 j2).2.1
    omega
  | n + 1, d, b, h, S, T, k, dp, hn, hRE, hFE, h3, hR, hF, h4, hk, hd, hz, hx, Q, hQ => by
    have e : d + (n + 1) + 13 = (d + n + 1) + 13 := by omega
    rw [e]
    refine c_comeT1_f (d + n + 1) b h S T k dp hRE hFE h3 hR hF h4 hk (by omega) hz hx (fun j j1 j2 j3 Q9 hQ9 => ?_) (fun v hv => hQ v (by rw [hv]; exact (VU_eq _ hF h4 hk.1 hk.2).symm))
    exact c_comeT n d 0 h S T j (dp - 1) (by omega) hRE hFE h3 hR hF h4 ⟨j1, j2⟩ (by omega) (by omega) hx hQ9
theorem c_comeT_m (d b : Nat) (h S T : xH) (k : Int) (hRE : RC h S) (hFE : FW (h 1 2) (h 6) 9 S) (h3 : S 0 0 ≤ 300) (hR : RCT h T) (hF : FWT S 7 T) (h4 : T 0 0 ≤ 150) (hk : 0 ≤ k ∧ k < T 0 0) (h7 : T 7 k ≠ 0) (hx : ∀ i, 0 ≤ i → i ≤ 2 → xr (h 63 i)) {Q : xO → xH → Prop} (hQ : ∀ v, w32 v = fU S T (h 63) (T 8 k) (T 9 k) (T 10 k) → Q (.inl (some (.inl v))) h) : xRn G0 MT (d + 22) b 91 [.inr (.inr 28), .inr (.inr 33), .inl k, .inr (.inr 63), .inl 9] h Q :=
  c_comeT1_m (d + 9) b h S T k 9 hRE hFE h3 hR hF h4 hk h7 (by omega) rfl hx (fun j j1 j2 j3 Q9 hQ9 => c_comeT 8 d 0 h S T j (9 - 1) rfl hRE hFE h3 hR hF h4 ⟨j1, j2⟩ (by omega) (by omega) hx hQ9) hQ
set_option maxHeartbeats 1000000 in
theorem c_comesToT (d b : Nat) (h S T : xH) (k : Int) (hRE : RC h S) (hFE : FW (h 1 2) (h 6) 9 S) (h3 : S 0 0 ≤ 300) (hR : RCT h T) (hF : FWT S 7 T) (h4 : T 0 0 ≤ 150) (hk : 0 ≤ k ∧ k < T 0 0) (hx : ∀ i, 0 ≤ i → i ≤ 2 → xr (h 63 i)) {Q : xO → xH → Prop} (hQ : ∀ v, w32 v = VU S T (h 63) k → Q (.inl (some (.inl v))) h) : xRn G0 MT (d + 23) b 24 [.inr (.inr 28), .inl k, .inr (.inr 63)] h Q := by
  refine R_of (M := mX3_comesTo) rfl (Nat.le_of_ble_eq_true rfl) ?_
  show xEx G0 cdX3_comesTo (some .int) (xRn G0 MT (d + 22)) Q b 0 [some (.inr (.inr 28)), some (.inl k), some (.inr (.inr 63))] [] h
  refine E_s 6 (i' := 6) (ls' := [some (.inr (.inr 28)), some (.inl k), some (.inr (.inr 63))]) (sk' := [.inl 9, .inr (.inr 63), .inl k, .inr (.inr 29), .inr (.inr 28)]) (h' := h) rfl ?_
  refine E_cp (x := (.invokevirtual 47, 4, [(1, 20), (7, 91)], [1])) (q := fun r h9 => w32 r = VU S T (h 63) k ∧ h = h9) rfl rfl (Nat.le_of_ble_eq_true rfl) (c_comeT 9 d 0 h S T k 9 rfl hRE hFE h3 hR hF h4 hk (by omega) (by have := (hF k hk.1 hk.2).2.2.1; omega) hx (fun v hv => ⟨v, rfl, hv, rfl⟩)) (fun r h9 hv => ?_)
  obtain ⟨hv, rfl⟩ := hv
  show xEx G0 cdX3_comesTo (some .int) (xRn G0 MT (d + 22)) Q b 7 [some (.inr (.inr 28)), some (.inl k), some (.inr (.inr 63))] [.inl r] h
  exact E_ret (x := (.ireturn, 0, [], [])) (v := some (.inl r)) rfl (Or.inl rfl) (hQ _ hv)
set_option maxHeartbeats 1000000 in
theorem c_firstMT (d b : Nat) (h S T : xH) (k : Int) (hRE : RC h S) (hFE : FW (h 1 2) (h 6) 9 S) (h3 : S 0 0 ≤ 300) (hR : RCT h T) (hF : FWT S 7 T) (h4 : T 0 0 ≤ 150) (hk : 0 ≤ k ∧ k < T 0 0) (h7 : T 7 k ≠ 0) (hx : ∀ i, 0 ≤ i → i ≤ 2 → xr (h 63 i)) {Q : xO → xH → Prop} (hQ : ∀ v, w32 v = fU S T (h 63) (T 8 k) (T 9 k) (T 10 k) → Q (.inl (some (.inl v))) h) : xRn G0 MT (d + 23) b 25 [.inr (.inr 28), .inl k, .inr (.inr 63)] h Q := by
  refine R_of (M := mX3_firstMergedComesTo) rfl (Nat.le_of_ble_eq_true rfl) ?_
  show xEx G0 cdX3_firstMergedComesTo (some .int) (xRn G0 MT (d + 22)) Q b 0 [some (.inr (.inr 28)), some (.inl k), some (.inr (.inr 63))] [] h
  refine E_s 6 (i' := 6) (ls' := [some (.inr (.inr 28)), some (.inl k), some (.inr (.inr 63))]) (sk' := [.inl 9, .inr (.inr 63), .inl k, .inr (.inr 33), .inr (.inr 28)]) (h' := h) rfl ?_
  refine E_cp (x := (.invokevirtual 47, 4, [(1, 20), (7, 91)], [1])) (q := fun r h9 => w32 r = fU S T (h 63) (T 8 k) (T 9 k) (T 10 k) ∧ h = h9) rfl rfl (Nat.le_of_ble_eq_true rfl) (c_comeT_m d 0 h S T k hRE hFE h3 hR hF h4 hk h7 hx (fun v hv => ⟨v, rfl, hv, rfl⟩)) (fun r h9 hv => ?_)
  obtain ⟨hv, rfl⟩ := hv
  show xEx G0 cdX3_firstMergedComesTo (some .int) (xRn G0 MT (d + 22)) Q b 7 [some (.inr (.inr 28)), some (.inl k), some (.inr (.inr 63))] [.inl r] h
  exact E_ret (x := (.ireturn, 0, [], [])) (v := some (.inl r)) rfl (Or.inl rfl) (hQ _ hv)
