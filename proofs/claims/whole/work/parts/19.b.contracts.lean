theorem E_sw {G : List xS} {cd : List xI} {rt : Option FieldType} {call : xCal} {Q : xO → xH → Prop} {b i : Nat} {ls : xL} {sk : List xV} {h : xH} {x : xI} {z : Int} {t : Nat} {d lo hi : Int} {offs : Array Int} (hx : cd[i]? = some x) (hi : x.1 = .tableswitch d lo hi offs) (ht : xsw x.2.2.1 x.2.1.toNat (w32 z) = t) (hk : xEx G cd rt call Q b t ls sk h) : xEx G cd rt call Q b i ls (.inl z :: sk) h := by
  subst ht
  refine E_s 1 (i' := xsw x.2.2.1 x.2.1.toNat (w32 z)) (ls' := ls) (sk' := sk) (h' := h) ?_ hk
  obtain ⟨ins, a, l1, l2⟩ := x
  simp only at hi
  subst hi
  show (match cd[i]? with | some x => (match sx G x i ls (.inl z :: sk) h with | some s' => xsn G cd 0 s' | none => none) | none => none) = _
  rw [hx]
  rfl
/-- what a PART comes to -/
def ap (p a b : Int) : Int := if p = 0 then w32 (a + b) else if p = 1 then w32 (a - b) else if p = 2 then w32 (a * b) else if p = 3 then (if a < b then a else b) else if p = 4 then (if b < a then a else b) else if p = 5 then w32 (-a) else if p = 6 then (if b = 0 then 0 else xdiv a b) else if p = 7 then (if b = 0 then 0 else xrem a b) else if p = 8 then w32 (if a < 0 then -a else a) else if a < 0 then -1 else if 0 < a then 1 else 0
theorem xdiv_r (a b : Int) : xr (xdiv a b) := by
  have h1 := Int32.le_toInt (Int32.ofInt a / Int32.ofInt b)
  have h2 := Int32.toInt_lt (Int32.ofInt a / Int32.ofInt b)
  unfold xr xdiv
  omega
theorem xrem_r (a b : Int) : xr (xrem a b) := by
  have h1 := Int32.le_toInt (Int32.ofInt a - Int32.ofInt a / Int32.ofInt b * Int32.ofInt b)
  have h2 := Int32.toInt_lt (Int32.ofInt a - Int32.ofInt a / Int32.ofInt b * Int32.ofInt b)
  unfold xr xrem
  omega
theorem ap_r {p a b : Int} (ha : xr a) (hb : xr b) : xr (ap p a b) := by
  unfold ap
  split
  · exact w32_r _
  split
  · exact w32_r _
  split
  · exact w32_r _
  split
  · split
    · exact ha
    · exact hb
  split
  · split
    · exact ha
    · exact hb
  split
  · exact w32_r _
  split
  · split
    · exact ⟨by omega, by omega⟩
    · exact xdiv_r _ _
  split
  · split
    · exact ⟨by omega, by omega⟩
    · exact xrem_r _ _
  split
  · exact w32_r _
  split
  · exact ⟨by omega, by omega⟩
  split
  · exact ⟨by omega, by omega⟩
  · exact ⟨by omega, by omega⟩
theorem p10 {p : Int} (h : 0 ≤ p ∧ p ≤ 9) : p = 0 ∨ p = 1 ∨ p = 2 ∨ p = 3 ∨ p = 4 ∨ p = 5 ∨ p = 6 ∨ p = 7 ∨ p = 8 ∨ p = 9 := by
  obtain ⟨a, b⟩ := h
  rcases Int.lt_or_eq_of_le a with a | a
  case inr => exact Or.inl a.symm
  have a : 1 ≤ p := a
  rcases Int.lt_or_eq_of_le a with a | a
  case inr => exact Or.inr (Or.inl a.symm)
  have a : 2 ≤ p := a
  rcases Int.lt_or_eq_of_le a with a | a
  case inr => exact Or.inr (Or.inr (Or.inl a.symm))
  have a : 3 ≤ p := a
  rcases Int.lt_or_eq_of_le a with a | a
  case inr => exact Or.inr (Or.inr (Or.inr (Or.inl a.symm)))
  have a : 4 ≤ p := a
  rcases Int.lt_or_eq_of_le a with a | a
  case inr => exact Or.inr (Or.inr (Or.inr (Or.inr (Or.inl a.symm))))
  have a : 5 ≤ p := a
  rcases Int.lt_or_eq_of_le a with a | a
  case inr => exact Or.inr (Or.inr (Or.inr (Or.inr (Or.inr (Or.inl a.symm)))))
  have a : 6 ≤ p := a
  rcases Int.lt_or_eq_of_le a with a | a
  case inr => exact Or.inr (Or.inr (Or.inr (Or.inr (Or.inr (Or.inr (Or.inl a.symm))))))
  have a : 7 ≤ p := a
  rcases Int.lt_or_eq_of_le a with a | a
  case inr => exact Or.inr (Or.inr (Or.inr (Or.inr (Or.inr (Or.inr (Or.inr (Or.inl a.symm)))))))
  have a : 8 ≤ p := a
  rcases Int.lt_or_eq_of_le a with a | a
  case inr => exact Or.inr (Or.inr (Or.inr (Or.inr (Or.inr (Or.inr (Or.inr (Or.inr (Or.inl a.symm))))))))
  have a : 9 ≤ p := a
  exact Or.inr (Or.inr (Or.inr (Or.inr (Or.inr (Or.inr (Or.inr (Or.inr (Or.inr ((by omega : p = 9))))))))))
theorem ap_3 (a b : Int) : ap 3 a b = if a < b then a else b := rfl
theorem ap_4 (a b : Int) : ap 4 a b = if b < a then a else b := rfl
theorem ap_6 (a b : Int) : ap 6 a b = if b = 0 then 0 else xdiv a b := rfl
theorem ap_7 (a b : Int) : ap 7 a b = if b = 0 then 0 else xrem a b := rfl
theorem ap_8 (a b : Int) : ap 8 a b = w32 (if a < 0 then -a else a) := rfl
theorem ap_9 (a b : Int) : ap 9 a b = if a < 0 then -1 else if 0 < a then 1 else 0 := rfl
theorem w32_0 : w32 0 = 0 := by decide
theorem w32_1 : w32 1 = 1 := by decide
theorem w32_m1 : w32 (-1) = -1 := by decide
set_option maxHeartbeats 1000000 in
theorem c_apply_0 (d b : Nat) (h : xH) (x y : Int) (ha : xr x) (hb : xr y) {Q : xO → xH → Prop} (hQ : ∀ v : Int, w32 v = ap 0 x y → Q (.inl (some (.inl v))) h) : xRn G0 MT (d + 1) b 40 [.inl 0, .inl x, .inl y] h Q := by
  refine R_of (M := mX4_apply) rfl (Nat.le_of_ble_eq_true rfl) ?_
  show xEx G0 cdX4_apply (some .int) (xRn G0 MT d) Q b 0 [some (.inl 0), some (.inl x), some (.inl y)] [] h
  refine E_s 1 (i' := 1) (ls' := [some (.inl 0), some (.inl x), some (.inl y)]) (sk' := [.inl 0]) (h' := h) rfl ?_
  refine E_sw (x := (.tableswitch 123 0 8 #[51, 55, 59, 63, 74, 85, 88, 100, 112], 54, [(0, 2), (1, 6), (2, 10), (3, 14), (4, 21), (5, 28), (6, 31), (7, 39), (8, 47)], [])) (t := 2) rfl rfl (by decide +kernel) ?_
  show xEx G0 cdX4_apply (some .int) (xRn G0 MT d) Q b 2 [some (.inl 0), some (.inl x), some (.inl y)] [] h
  refine E_s 3 (i' := 5) (ls' := [some (.inl 0), some (.inl x), some (.inl y)]) (sk' := [.inl (x + y)]) (h' := h) rfl ?_
  exact E_ret (x := (.ireturn, 0, [], [])) (v := some (.inl (x + y))) rfl (Or.inl rfl) (hQ _ (rfl))
set_option maxHeartbeats 1000000 in
theorem c_apply_1 (d b : Nat) (h : xH) (x y : Int) (ha : xr x) (hb : xr y) {Q : xO → xH → Prop} (hQ : ∀ v : Int, w32 v = ap 1 x y → Q (.inl (some (.inl v))) h) : xRn G0 MT (d + 1) b 40 [.inl 1, .inl x, .inl y] h Q := by
  refine R_of (M := mX4_apply) rfl (Nat.le_of_ble_eq_true rfl) ?_
  show xEx G0 cdX4_apply (some .int) (xRn G0 MT d) Q b 0 [some (.inl 1), some (.inl x), some (.inl y)] [] h
  refine E_s 1 (i' := 1) (ls' := [some (.inl 1), some (.inl x), some (.inl y)]) (sk' := [.inl 1]) (h' := h) rfl ?_
  refine E_sw (x := (.tableswitch 123 0 8 #[51, 55, 59, 63, 74, 85, 88, 100, 112], 54, [(0, 2), (1, 6), (2, 10), (3, 14), (4, 21), (5, 28), (6, 31), (7, 39), (8, 47)], [])) (t := 6) rfl rfl (by decide +kernel) ?_
  show xEx G0 cdX4_apply (some .int) (xRn G0 MT d) Q b 6 [some (.inl 1), some (.inl x), some (.inl y)] [] h
  refine E_s 3 (i' := 9) (ls' := [some (.inl 1), some (.inl x), some (.inl y)]) (sk' := [.inl (x - y)]) (h' := h) rfl ?_
  exact E_ret (x := (.ireturn, 0, [], [])) (v := some (.inl (x - y))) rfl (Or.inl rfl) (hQ _ (rfl))
set_option maxHeartbeats 1000000 in
theorem c_apply_2 (d b : Nat) (h : xH) (x y : Int) (ha : xr x) (hb : xr y) {Q : xO → xH → Prop} (hQ : ∀ v : Int, w32 v = ap 2 x y → Q (.inl (some (.inl v))) h) : xRn G0 MT (d + 1) b 40 [.inl 2, .inl x, .inl y] h Q := by
  refine R_of (M := mX4_apply) rfl (Nat.le_of_ble_eq_true rfl) ?_
  show xEx G0 cdX4_apply (some .int) (xRn G0 MT d) Q b 0 [some (.inl 2), some (.inl x), some (.inl y)] [] h
  refine E_s 1 (i' := 1) (ls' := [some (.inl 2), some (.inl x), some (.inl y)]) (sk' := [.inl 2]) (h' := h) rfl ?_
  refine E_sw (x := (.tableswitch 123 0 8 #[51, 55, 59, 63, 74, 85, 88, 100, 112], 54, [(0, 2), (1, 6), (2, 10), (3, 14), (4, 21), (5, 28), (6, 31), (7, 39), (8, 47)], [])) (t := 10) rfl rfl (by decide +kernel) ?_
  show xEx G0 cdX4_apply (some .int) (xRn G0 MT d) Q b 10 [some (.inl 2), some (.inl x), some (.inl y)] [] h
  refine E_s 3 (i' := 13) (ls' := [some (.inl 2), some (.inl x), some (.inl y)]) (sk' := [.inl (x * y)]) (h' := h) rfl ?_
  exact E_ret (x := (.ireturn, 0, [], [])) (v := some (.inl (x * y))) rfl (Or.inl rfl) (hQ _ (rfl))
set_option maxHeartbeats 1000000 in
theorem c_apply_3 (d b : Nat) (h : xH) (x y : Int) (ha : xr x) (hb : xr y) {Q : xO → xH → Prop} (hQ : ∀ v : Int, w32 v = ap 3 x y → Q (.inl (some (.inl v))) h) : xRn G0 MT (d + 1) b 40 [.inl 3, .inl x, .inl y] h Q := by
  refine R_of (M := mX4_apply) rfl (Nat.le_of_ble_eq_true rfl) ?_
  show xEx G0 cdX4_apply (some .int) (xRn G0 MT d) Q b 0 [some (.inl 3), some (.inl x), some (.inl y)] [] h
  refine E_s 1 (i' := 1) (ls' := [some (.inl 3), some (.inl x), some (.inl y)]) (sk' := [.inl 3]) (h' := h) rfl ?_
  refine E_sw (x := (.tableswitch 123 0 8 #[51, 55, 59, 63, 74, 85, 88, 100, 112], 54, [(0, 2), (1, 6), (2, 10), (3, 14), (4, 21), (5, 28), (6, 31), (7, 39), (8, 47)], [])) (t := 14) rfl rfl (by decide +kernel) ?_
  show xEx G0 cdX4_apply (some .int) (xRn G0 MT d) Q b 14 [some (.inl 3), some (.inl x), some (.inl y)] [] h
  refine E_s 2 (i' := 16) (ls' := [some (.inl 3), some (.inl x), some (.inl y)]) (sk' := [.inl y, .inl x]) (h' := h) rfl ?_
  refine E_b (x := (.if_icmp .ge 7, 19, [], [])) rfl rfl (fun c16 => ?_) (fun c16 => ?_)
  · rw [c_ge (by first | assumption | (refine ⟨?_, ?_⟩ <;> omega) | (simp only [xr] at *; omega)) (by first | assumption | (refine ⟨?_, ?_⟩ <;> omega) | (simp only [xr] at *; omega))] at c16
    simp only [decide_eq_true_eq, decide_eq_false_iff_not, Decidable.not_not] at c16
    show xEx G0 cdX4_apply (some .int) (xRn G0 MT d) Q b 19 [some (.inl 3), some (.inl x), some (.inl y)] [] h
    refine E_s 1 (i' := 20) (ls' := [some (.inl 3), some (.inl x), some (.inl y)]) (sk' := [.inl y]) (h' := h) rfl ?_
    exact E_ret (x := (.ireturn, 0, [], [])) (v := some (.inl y)) rfl (Or.inl rfl) (hQ _ (by rw [ap_3]; split <;> first | (rw [w32_id ha]; done) | (rw [w32_id hb]; done) | omega))
  · rw [c_ge (by first | assumption | (refine ⟨?_, ?_⟩ <;> omega) | (simp only [xr] at *; omega)) (by first | assumption | (refine ⟨?_, ?_⟩ <;> omega) | (simp only [xr] at *; omega))] at c16
    simp only [decide_eq_true_eq, decide_eq_false_iff_not, Decidable.not_not] at c16
    show xEx G0 cdX4_apply (some .int) (xRn G0 MT d) Q b 17 [some (.inl 3), some (.inl x), some (.inl y)] [] h
    refine E_s 2 (i' := 20) (ls' := [some (.inl 3), some (.inl x), some (.inl y)]) (sk' := [.inl x]) (h' := h) rfl ?_
    exact E_ret (x := (.ireturn, 0, [], [])) (v := some (.inl x)) rfl (Or.inl rfl) (hQ _ (by rw [ap_3]; split <;> first | (rw [w32_id ha]; done) | (rw [w32_id hb]; done) | omega))
set_option maxHeartbeats 1000000 in
theorem c_apply_4 (d b : Nat) (h : xH) (x y : Int) (ha : xr x) (hb : xr y) {Q : xO → xH → Prop} (hQ : ∀ v : Int, w32 v = ap 4 x y → Q (.inl (some (.inl v))) h) : xRn G0 MT (d + 1) b 40 [.inl 4, .inl x, .inl y] h Q := by
  refine R_of (M := mX4_apply) rfl (Nat.le_of_ble_eq_true rfl) ?_
  show xEx G0 cdX4_apply (some .int) (xRn G0 MT d) Q b 0 [some (.inl 4), some (.inl x), some (.inl y)] [] h
  refine E_s 1 (i' := 1) (ls' := [some (.inl 4), some (.inl x), some (.inl y)]) (sk' := [.inl 4]) (h' := h) rfl ?_
  refine E_sw (x := (.tableswitch 123 0 8 #[51, 55, 59, 63, 74, 85, 88, 100, 112], 54, [(0, 2), (1, 6), (2, 10), (3, 14), (4, 21), (5, 28), (6, 31), (7, 39), (8, 47)], [])) (t := 21) rfl rfl (by decide +kernel) ?_
  show xEx G0 cdX4_apply (some .int) (xRn G0 MT d) Q b 21 [some (.inl 4), some (.inl x), some (.inl y)] [] h
  refine E_s 2 (i' := 23) (ls' := [some (.inl 4), some (.inl x), some (.inl y)]) (sk' := [.inl y, .inl x]) (h' := h) rfl ?_
  refine E_b (x := (.if_icmp .le 7, 26, [], [])) rfl rfl (fun c23 => ?_) (fun c23 => ?_)
  · rw [c_le (by first | assumption | (refine ⟨?_, ?_⟩ <;> omega) | (simp only [xr] at *; omega)) (by first | assumption | (refine ⟨?_, ?_⟩ <;> omega) | (simp only [xr] at *; omega))] at c23
    simp only [decide_eq_true_eq, decide_eq_false_iff_not, Decidable.not_not] at c23
    show xEx G0 cdX4_apply (some .int) (xRn G0 MT d) Q b 26 [some (.inl 4), some (.inl x), some (.inl y)] [] h
    refine E_s 1 (i' := 27) (ls' := [some (.inl 4), some (.inl x), some (.inl y)]) (sk' := [.inl y]) (h' := h) rfl ?_
    exact E_ret (x := (.ireturn, 0, [], [])) (v := some (.inl y)) rfl (Or.inl rfl) (hQ _ (by rw [ap_4]; split <;> first | (rw [w32_id ha]; done) | (rw [w32_id hb]; done) | omega))
  · rw [c_le (by first | assumption | (refine ⟨?_, ?_⟩ <;> omega) | (simp only [xr] at *; omega)) (by first | assumption | (refine ⟨?_, ?_⟩ <;> omega) | (simp only [xr] at *; omega))] at c23
    simp only [decide_eq_true_eq, decide_eq_false_iff_not, Decidable.not_not] at c23
    show xEx G0 cdX4_apply (some .int) (xRn G0 MT d) Q b 24 [some (.inl 4), some (.inl x), some (.inl y)] [] h
    refine E_s 2 (i' := 27) (ls' := [some (.inl 4), some (.inl x), some (.inl y)]) (sk' := [.inl x]) (h' := h) rfl ?_
    exact E_ret (x := (.ireturn, 0, [], [])) (v := some (.inl x)) rfl (Or.inl rfl) (hQ _ (by rw [ap_4]; split <;> first | (rw [w32_id ha]; done) | (rw [w32_id hb]; done) | omega))
set_option maxHeartbeats 1000000 in
theorem c_apply_5 (d b : Nat) (h : xH) (x y : Int) (ha : xr x) (hb : xr y) {Q : xO → xH → Prop} (hQ : ∀ v : Int, w32 v = ap 5 x y → Q (.inl (some (.inl v))) h) : xRn G0 MT (d + 1) b 40 [.inl 5, .inl x, .inl y] h Q := by
  refine R_of (M := mX4_apply) rfl (Nat.le_of_ble_eq_true rfl) ?_
  show xEx G0 cdX4_apply (some .int) (xRn G0 MT d) Q b 0 [some (.inl 5), some (.inl x), some (.inl y)] [] h
  refine E_s 1 (i' := 1) (ls' := [some (.inl 5), some (.inl x), some (.inl y)]) (sk' := [.inl 5]) (h' := h) rfl ?_
  refine E_sw (x := (.tableswitch 123 0 8 #[51, 55, 59, 63, 74, 85, 88, 100, 112], 54, [(0, 2), (1, 6), (2, 10), (3, 14), (4, 21), (5, 28), (6, 31), (7, 39), (8, 47)], [])) (t := 28) rfl rfl (by decide +kernel) ?_
  show xEx G0 cdX4_apply (some .int) (xRn G0 MT d) Q b 28 [some (.inl 5), some (.inl x), some (.inl y)] [] h
  refine E_s 2 (i' := 30) (ls' := [some (.inl 5), some (.inl x), some (.inl y)]) (sk' := [.inl (-x)]) (h' := h) rfl ?_
  exact E_ret (x := (.ireturn, 0, [], [])) (v := some (.inl (-x))) rfl (Or.inl rfl) (hQ _ (rfl))
set_option maxHeartbeats 1000000 in
theorem c_apply_6 (d b : Nat) (h : xH) (x y : Int) (ha : xr x) (hb : xr y) {Q : xO → xH → Prop} (hQ : ∀ v : Int, w32 v = ap 6 x y → Q (.inl (some (.inl v))) h) : xRn G0 MT (d + 1) b 40 [.inl 6, .inl x, .inl y] h Q := by
  refine R_of (M := mX4_apply) rfl (Nat.le_of_ble_eq_true rfl) ?_
  show xEx G0 cdX4_apply (some .int) (xRn G0 MT d) Q b 0 [some (.inl 6), some (.inl x), some (.inl y)] [] h
  refine E_s 1 (i' := 1) (ls' := [some (.inl 6), some (.inl x), some (.inl y)]) (sk' := [.inl 6]) (h' := h) rfl ?_
  refine E_sw (x := (.tableswitch 123 0 8 #[51, 55, 59, 63, 74, 85, 88, 100, 112], 54, [(0, 2), (1, 6), (2, 10), (3, 14), (4, 21), (5, 28), (6, 31), (7, 39), (8, 47)], [])) (t := 31) rfl rfl (by decide +kernel) ?_
  show xEx G0 cdX4_apply (some .int) (xRn G0 MT d) Q b 31 [some (.inl 6), some (.inl x), some (.inl y)] [] h
  refine E_s 1 (i' := 32) (ls' := [some (.inl 6), some (.inl x), some (.inl y)]) (sk' := [.inl y]) (h' := h) rfl ?_
  refine E_b (x := (.ifCond .ne 7, 35, [], [])) rfl rfl (fun c32 => ?_) (fun c32 => ?_)
  · rw [c_ne (by first | assumption | (refine ⟨?_, ?_⟩ <;> omega) | (simp only [xr] at *; omega)) (by first | assumption | (refine ⟨?_, ?_⟩ <;> omega) | (simp only [xr] at *; omega))] at c32
    simp only [decide_eq_true_eq, decide_eq_false_iff_not, Decidable.not_not] at c32
    show xEx G0 cdX4_apply (some .int) (xRn G0 MT d) Q b 35 [some (.inl 6), some (.inl x), some (.inl y)] [] h
    refine E_s 2 (i' := 37) (ls' := [some (.inl 6), some (.inl x), some (.inl y)]) (sk' := [.inl y, .inl x]) (h' := h) rfl ?_
    refine E_div (x := (.idiv, 0, [], [])) rfl rfl (by rw [w32_id hb]; first | exact c32 | exact c40) ?_
    show xEx G0 cdX4_apply (some .int) (xRn G0 MT d) Q b 38 [some (.inl 6), some (.inl x), some (.inl y)] [.inl (xdiv x y)] h
    exact E_ret (x := (.ireturn, 0, [], [])) (v := some (.inl (xdiv x y))) rfl (Or.inl rfl) (hQ _ (by rw [ap_6]; split <;> first | exact w32_0 | exact w32_id (xdiv_r _ _) | contradiction))
  · rw [c_ne (by first | assumption | (refine ⟨?_, ?_⟩ <;> omega) | (simp only [xr] at *; omega)) (by first | assumption | (refine ⟨?_, ?_⟩ <;> omega) | (simp only [xr] at *; omega))] at c32
    simp only [decide_eq_true_eq, decide_eq_false_iff_not, Decidable.not_not] at c32
    show xEx G0 cdX4_apply (some .int) (xRn G0 MT d) Q b 33 [some (.inl 6), some (.inl x), some (.inl y)] [] h
    refine E_s 2 (i' := 38) (ls' := [some (.inl 6), some (.inl x), some (.inl y)]) (sk' := [.inl 0]) (h' := h) rfl ?_
    exact E_ret (x := (.ireturn, 0, [], [])) (v := some (.inl 0)) rfl (Or.inl rfl) (hQ _ (by rw [ap_6]; split <;> first | exact w32_0 | exact w32_id (xdiv_r _ _) | contradiction))
set_option maxHeartbeats 1000000 in
theorem c_apply_7 (d b : Nat) (h : xH) (x y : Int) (ha : xr x) (hb : xr y) {Q : xO → xH → Prop} (hQ : ∀ v : Int, w32 v = ap 7 x y → Q (.inl (some (.inl v))) h) : xRn G0 MT (d + 1) b 40 [.inl 7, .inl x, .inl y] h Q := by
  refine R_of (M := mX4_apply) rfl (Nat.le_of_ble_eq_true rfl) ?_
  show xEx G0 cdX4_apply (some .int) (xRn G0 MT d) Q b 0 [some (.inl 7), some (.inl x), some (.inl y)] [] h
  refine E_s 1 (i' := 1) (ls' := [some (.inl 7), some (.inl x), some (.inl y)]) (sk' := [.inl 7]) (h' := h) rfl ?_
  refine E_sw (x := (.tableswitch 123 0 8 #[51, 55, 59, 63, 74, 85, 88, 100, 112], 54, [(0, 2), (1, 6), (2, 10), (3, 14), (4, 21), (5, 28), (6, 31), (7, 39), (8, 47)], [])) (t := 39) rfl rfl (by decide +kernel) ?_
  show xEx G0 cdX4_apply (some .int) (xRn G0 MT d) Q b 39 [some (.inl 7), some (.inl x), some (.inl y)] [] h
  refine E_s 1 (i' := 40) (ls' := [some (.inl 7), some (.inl x), some (.inl y)]) (sk' := [.inl y]) (h' := h) rfl ?_
  refine E_b (x := (.ifCond .ne 7, 43, [], [])) rfl rfl (fun c40 => ?_) (fun c40 => ?_)
  · rw [c_ne (by first | assumption | (refine ⟨?_, ?_⟩ <;> omega) | (simp only [xr] at *; omega)) (by first | assumption | (refine ⟨?_, ?_⟩ <;> omega) | (simp only [xr] at *; omega))] at c40
    simp only [decide_eq_true_eq, decide_eq_false_iff_not, Decidable.not_not] at c40
    show xEx G0 cdX4_apply (some .int) (xRn G0 MT d) Q b 43 [some (.inl 7), some (.inl x), some (.inl y)] [] h
    refine E_s 2 (i' := 45) (ls' := [some (.inl 7), some (.inl x), some (.inl y)]) (sk' := [.inl y, .inl x]) (h' := h) rfl ?_
    refine E_rem (x := (.irem, 0, [], [])) rfl rfl (by rw [w32_id hb]; first | exact c32 | exact c40) ?_
    show xEx G0 cdX4_apply (some .int) (xRn G0 MT d) Q b 46 [some (.inl 7), some (.inl x), some (.inl y)] [.inl (xrem x y)] h
    exact E_ret (x := (.ireturn, 0, [], [])) (v := some (.inl (xrem x y))) rfl (Or.inl rfl) (hQ _ (by rw [ap_7]; split <;> first | exact w32_0 | exact w32_id (xrem_r _ _) | contradiction))
  · rw [c_ne (by first | assumption | (refine ⟨?_, ?_⟩ <;> omega) | (simp only [xr] at *; omega)) (by first | assumption | (refine ⟨?_, ?_⟩ <;> omega) | (simp only [xr] at *; omega))] at c40
    simp only [decide_eq_true_eq, decide_eq_false_iff_not, Decidable.not_not] at c40
    show xEx G0 cdX4_apply (some .int) (xRn G0 MT d) Q b 41 [some (.inl 7), some (.inl x), some (.inl y)] [] h
    refine E_s 2 (i' := 46) (ls' := [some (.inl 7), some (.inl x), some (.inl y)]) (sk' := [.inl 0]) (h' := h) rfl ?_
    exact E_ret (x := (.ireturn, 0, [], [])) (v := some (.inl 0)) rfl (Or.inl rfl) (hQ _ (by rw [ap_7]; split <;> first | exact w32_0 | exact w32_id (xrem_r _ _) | contradiction))
set_option maxHeartbeats 1000000 in
theorem c_apply_8 (d b : Nat) (h : xH) (x y : Int) (ha : xr x) (hb : xr y) {Q : xO → xH → Prop} (hQ : ∀ v : Int, w32 v = ap 8 x y → Q (.inl (some (.inl v))) h) : xRn G0 MT (d + 1) b 40 [.inl 8, .inl x, .inl y] h Q := by
  refine R_of (M := mX4_apply) rfl (Nat.le_of_ble_eq_true rfl) ?_
  show xEx G0 cdX4_apply (some .int) (xRn G0 MT d) Q b 0 [some (.inl 8), some (.inl x), some (.inl y)] [] h
  refine E_s 1 (i' := 1) (ls' := [some (.inl 8), some (.inl x), some (.inl y)]) (sk' := [.inl 8]) (h' := h) rfl ?_
  refine E_sw (x := (.tableswitch 123 0 8 #[51, 55, 59, 63, 74, 85, 88, 100, 112], 54, [(0, 2), (1, 6), (2, 10), (3, 14), (4, 21), (5, 28), (6, 31), (7, 39), (8, 47)], [])) (t := 47) rfl rfl (by decide +kernel) ?_
  show xEx G0 cdX4_apply (some .int) (xRn G0 MT d) Q b 47 [some (.inl 8), some (.inl x), some (.inl y)] [] h
  refine E_s 1 (i' := 48) (ls' := [some (.inl 8), some (.inl x), some (.inl y)]) (sk' := [.inl x]) (h' := h) rfl ?_
  refine E_b (x := (.ifCond .ge 8, 52, [], [])) rfl rfl (fun c48 => ?_) (fun c48 => ?_)
  · rw [c_ge (by first | assumption | (refine ⟨?_, ?_⟩ <;> omega) | (simp only [xr] at *; omega)) (by first | assumption | (refine ⟨?_, ?_⟩ <;> omega) | (simp only [xr] at *; omega))] at c48
    simp only [decide_eq_true_eq, decide_eq_false_iff_not, Decidable.not_not] at c48
    show xEx G0 cdX4_apply (some .int) (xRn G0 MT d) Q b 52 [some (.inl 8), some (.inl x), some (.inl y)] [] h
    refine E_s 1 (i' := 53) (ls' := [some (.inl 8), some (.inl x), some (.inl y)]) (sk' := [.inl x]) (h' := h) rfl ?_
    exact E_ret (x := (.ireturn, 0, [], [])) (v := some (.inl x)) rfl (Or.inl rfl) (hQ _ (by first | rfl | (rw [ap_8]; congr 1; split <;> first | rfl | omega)))
  · rw [c_ge (by first | assumption | (refine ⟨?_, ?_⟩ <;> omega) | (simp only [xr] at *; omega)) (by first | assumption | (refine ⟨?_, ?_⟩ <;> omega) | (simp only [xr] at *; omega))] at c48
    simp only [decide_eq_true_eq, decide_eq_false_iff_not, Decidable.not_not] at c48
    show xEx G0 cdX4_apply (some .int) (xRn G0 MT d) Q b 49 [some (.inl 8), some (.inl x), some (.inl y)] [] h
    refine E_s 3 (i' := 53) (ls' := [some (.inl 8), some (.inl x), some (.inl y)]) (sk' := [.inl (-x)]) (h' := h) rfl ?_
    exact E_ret (x := (.ireturn, 0, [], [])) (v := some (.inl (-x))) rfl (Or.inl rfl) (hQ _ (by first | rfl | (rw [ap_8]; congr 1; split <;> first | rfl | omega)))
set_option maxHeartbeats 1000000 in
theorem c_apply_9 (d b : Nat) (h : xH) (x y : Int) (ha : xr x) (hb : xr y) {Q : xO → xH → Prop} (hQ : ∀ v : Int, w32 v = ap 9 x y → Q (.inl (some (.inl v))) h) : xRn G0 MT (d + 1) b 40 [.inl 9, .inl x, .inl y] h Q := by
  refine R_of (M := mX4_apply) rfl (Nat.le_of_ble_eq_true rfl) ?_
  show xEx G0 cdX4_apply (some .int) (xRn G0 MT d) Q b 0 [some (.inl 9), some (.inl x), some (.inl y)] [] h
  refine E_s 1 (i' := 1) (ls' := [some (.inl 9), some (.inl x), some (.inl y)]) (sk' := [.inl 9]) (h' := h) rfl ?_
  refine E_sw (x := (.tableswitch 123 0 8 #[51, 55, 59, 63, 74, 85, 88, 100, 112], 54, [(0, 2), (1, 6), (2, 10), (3, 14), (4, 21), (5, 28), (6, 31), (7, 39), (8, 47)], [])) (t := 54) rfl rfl (by decide +kernel) ?_
  show xEx G0 cdX4_apply (some .int) (xRn G0 MT d) Q b 54 [some (.inl 9), some (.inl x), some (.inl y)] [] h
  refine E_s 1 (i' := 55) (ls' := [some (.inl 9), some (.inl x), some (.inl y)]) (sk' := [.inl x]) (h' := h) rfl ?_
  refine E_b (x := (.ifCond .ge 7, 58, [], [])) rfl rfl (fun c55 => ?_) (fun c55 => ?_)
  · rw [c_ge (by first | assumption | (refine ⟨?_, ?_⟩ <;> omega) | (simp only [xr] at *; omega)) (by first | assumption | (refine ⟨?_, ?_⟩ <;> omega) | (simp only [xr] at *; omega))] at c55
    simp only [decide_eq_true_eq, decide_eq_false_iff_not, Decidable.not_not] at c55
    show xEx G0 cdX4_apply (some .int) (xRn G0 MT d) Q b 58 [some (.inl 9), some (.inl x), some (.inl y)] [] h
    refine E_s 1 (i' := 59) (ls' := [some (.inl 9), some (.inl x), some (.inl y)]) (sk' := [.inl x]) (h' := h) rfl ?_
    refine E_b (x := (.ifCond .le 7, 62, [], [])) rfl rfl (fun c59 => ?_) (fun c59 => ?_)
    · rw [c_le (by first | assumption | (refine ⟨?_, ?_⟩ <;> omega) | (simp only [xr] at *; omega)) (by first | assumption | (refine ⟨?_, ?_⟩ <;> omega) | (simp only [xr] at *; omega))] at c59
      simp only [decide_eq_true_eq, decide_eq_false_iff_not, Decidable.not_not] at c59
      show xEx G0 cdX4_apply (some .int) (xRn G0 MT d) Q b 62 [some (.inl 9), some (.inl x), some (.inl y)] [] h
      refine E_s 1 (i' := 63) (ls' := [some (.inl 9), some (.inl x), some (.inl y)]) (sk' := [.inl 0]) (h' := h) rfl ?_
      exact E_ret (x := (.ireturn, 0, [], [])) (v := some (.inl 0)) rfl (Or.inl rfl) (hQ _ (by rw [ap_9]; (repeat' split) <;> first | exact w32_0 | exact w32_1 | exact w32_m1 | omega))
    · rw [c_le (by first | assumption | (refine ⟨?_, ?_⟩ <;> omega) | (simp only [xr] at *; omega)) (by first | assumption | (refine ⟨?_, ?_⟩ <;> omega) | (simp only [xr] at *; omega))] at c59
      simp only [decide_eq_true_eq, decide_eq_false_iff_not, Decidable.not_not] at c59
      show xEx G0 cdX4_apply (some .int) (xRn G0 MT d) Q b 60 [some (.inl 9), some (.inl x), some (.inl y)] [] h
      refine E_s 2 (i' := 63) (ls' := [some (.inl 9), some (.inl x), some (.inl y)]) (sk' := [.inl 1]) (h' := h) rfl ?_
      exact E_ret (x := (.ireturn, 0, [], [])) (v := some (.inl 1)) rfl (Or.inl rfl) (hQ _ (by rw [ap_9]; (repeat' split) <;> first | exact w32_0 | exact w32_1 | exact w32_m1 | omega))
  · rw [c_ge (by first | assumption | (refine ⟨?_, ?_⟩ <;> omega) | (simp only [xr] at *; omega)) (by first | assumption | (refine ⟨?_, ?_⟩ <;> omega) | (simp only [xr] at *; omega))] at c55
    simp only [decide_eq_true_eq, decide_eq_false_iff_not, Decidable.not_not] at c55
    show xEx G0 cdX4_apply (some .int) (xRn G0 MT d) Q b 56 [some (.inl 9), some (.inl x), some (.inl y)] [] h
    refine E_s 2 (i' := 63) (ls' := [some (.inl 9), some (.inl x), some (.inl y)]) (sk' := [.inl (-1)]) (h' := h) rfl ?_
    exact E_ret (x := (.ireturn, 0, [], [])) (v := some (.inl (-1))) rfl (Or.inl rfl) (hQ _ (by rw [ap_9]; (repeat' split) <;> first | exact w32_0 | exact w32_1 | exact w32_m1 | omega))
theorem c_apply (d b : Nat) (h : xH) (p x y : Int) (hp : 0 ≤ p ∧ p ≤ 9) (ha : xr x) (hb : xr y) {Q : xO → xH → Prop} (hQ : ∀ v : Int, w32 v = ap p x y → Q (.inl (some (.inl v))) h) : xRn G0 MT (d + 1) b 40 [.inl p, .inl x, .inl y] h Q := by
  obtain rfl | rfl | rfl | rfl | rfl | rfl | rfl | rfl | rfl | rfl := p10 hp
  · exact c_apply_0 d b h x y ha hb hQ
  · exact c_apply_1 d b h x y ha hb hQ
  · exact c_apply_2 d b h x y ha hb hQ
  · exact c_apply_3 d b h x y ha hb hQ
  · exact c_apply_4 d b h x y ha hb hQ
  · exact c_apply_5 d b h x y ha hb hQ
  · exact c_apply_6 d b h x y ha hb hQ
  · exact c_apply_7 d b h x y ha hb hQ
  · exact c_apply_8 d b h x y ha hb hQ
  · exact c_apply_9 d b h x y ha hb hQ
set_option maxHeartbeats 1000000 in
theorem c_absolute (d b : Nat) (h : xH) (x : Int) (ha : xr x) {Q : xO → xH → Prop} (hQ : Q (.inl (some (.inl (if x < 0 then -x else x)))) h) : xRn G0 MT (d + 1) b 172 [.inl x] h Q := by
  refine R_of (M := mX12_absolute) rfl (Nat.le_of_ble_eq_true rfl) ?_
  show xEx G0 cdX12_absolute (some .int) (xRn G0 MT d) Q b 0 [some (.inl x)] [] h
  refine E_s 1 (i' := 1) (ls' := [some (.inl x)]) (sk' := [.inl x]) (h' := h) rfl ?_
  refine E_b (x := (.ifCond .ge 8, 5, [], [])) rfl rfl (fun c1 => ?_) (fun c1 => ?_)
  · rw [c_ge (by first | assumption | (refine ⟨?_, ?_⟩ <;> omega) | (simp only [xr] at *; omega)) (by first | assumption | (refine ⟨?_, ?_⟩ <;> omega) | (simp only [xr] at *; omega))] at c1
    simp only [decide_eq_true_eq, decide_eq_false_iff_not, Decidable.not_not] at c1
    show xEx G0 cdX12_absolute (some .int) (xRn G0 MT d) Q b 5 [some (.inl x)] [] h
    refine E_s 1 (i' := 6) (ls' := [some (.inl x)]) (sk' := [.inl x]) (h' := h) rfl ?_
    exact E_ret (x := (.ireturn, 0, [], [])) (v := some (.inl x)) rfl (Or.inl rfl) (by first | (rw [if_pos (by omega)] at hQ; exact hQ) | (rw [if_neg (by omega)] at hQ; exact hQ))
  · rw [c_ge (by first | assumption | (refine ⟨?_, ?_⟩ <;> omega) | (simp only [xr] at *; omega)) (by first | assumption | (refine ⟨?_, ?_⟩ <;> omega) | (simp only [xr] at *; omega))] at c1
    simp only [decide_eq_true_eq, decide_eq_false_iff_not, Decidable.not_not] at c1
    show xEx G0 cdX12_absolute (some .int) (xRn G0 MT d) Q b 2 [some (.inl x)] [] h
    refine E_s 3 (i' := 6) (ls' := [some (.inl x)]) (sk' := [.inl (-x)]) (h' := h) rfl ?_
    exact E_ret (x := (.ireturn, 0, [], [])) (v := some (.inl (-x))) rfl (Or.inl rfl) (by first | (rw [if_pos (by omega)] at hQ; exact hQ) | (rw [if_neg (by omega)] at hQ; exact hQ))
set_option maxHeartbeats 1000000 in
theorem c_does_0 (d b : Nat) (h : xH) (x y : Int) (ha : xr x) (hb : xr y) {Q : xO → xH → Prop} (hQ : ∀ v : Int, w32 v = ap 0 x y → Q (.inl (some (.inl v))) h) : xRn G0 MT (d + 2) b 173 [.inl 0, .inl x, .inl y] h Q := by
  refine R_of (M := mX12_does) rfl (Nat.le_of_ble_eq_true rfl) ?_
  show xEx G0 cdX12_does (some .int) (xRn G0 MT (d + 1)) Q b 0 [some (.inl 0), some (.inl x), some (.inl y)] [] h
  refine E_s 1 (i' := 1) (ls' := [some (.inl 0), some (.inl x), some (.inl y)]) (sk' := [.inl 0]) (h' := h) rfl ?_
  refine E_sw (x := (.tableswitch 117 0 8 #[51, 55, 59, 63, 74, 85, 88, 100, 112], 50, [(0, 2), (1, 6), (2, 10), (3, 14), (4, 21), (5, 28), (6, 31), (7, 39), (8, 47)], [])) (t := 2) rfl rfl (by decide +kernel) ?_
  show xEx G0 cdX12_does (some .int) (xRn G0 MT (d + 1)) Q b 2 [some (.inl 0), some (.inl x), some (.inl y)] [] h
  refine E_s 3 (i' := 5) (ls' := [some (.inl 0), some (.inl x), some (.inl y)]) (sk' := [.inl (x + y)]) (h' := h) rfl ?_
  exact E_ret (x := (.ireturn, 0, [], [])) (v := some (.inl (x + y))) rfl (Or.inl rfl) (hQ _ (rfl))
set_option maxHeartbeats 1000000 in
theorem c_does_1 (d b : Nat) (h : xH) (x y : Int) (ha : xr x) (hb : xr y) {Q : xO → xH → Prop} (hQ : ∀ v : Int, w32 v = ap 1 x y → Q (.inl (some (.inl v))) h) : xRn G0 MT (d + 2) b 173 [.inl 1, .inl x, .inl y] h Q := by
  refine R_of (M := mX12_does) rfl (Nat.le_of_ble_eq_true rfl) ?_
  show xEx G0 cdX12_does (some .int) (xRn G0 MT (d + 1)) Q b 0 [some (.inl 1), some (.inl x), some (.inl y)] [] h
  refine E_s 1 (i' := 1) (ls' := [some (.inl 1), some (.inl x), some (.inl y)]) (sk' := [.inl 1]) (h' := h) rfl ?_
  refine E_sw (x := (.tableswitch 117 0 8 #[51, 55, 59, 63, 74, 85, 88, 100, 112], 50, [(0, 2), (1, 6), (2, 10), (3, 14), (4, 21), (5, 28), (6, 31), (7, 39), (8, 47)], [])) (t := 6) rfl rfl (by decide +kernel) ?_
  show xEx G0 cdX12_does (some .int) (xRn G0 MT (d + 1)) Q b 6 [some (.inl 1), some (.inl x), some (.inl y)] [] h
  refine E_s 3 (i' := 9) (ls' := [some (.inl 1), some (.inl x), some (.inl y)]) (sk' := [.inl (x - y)]) (h' := h) rfl ?_
  exact E_ret (x := (.ireturn, 0, [], [])) (v := some (.inl (x - y))) rfl (Or.inl rfl) (hQ _ (rfl))
set_option maxHeartbeats 1000000 in
theorem c_does_2 (d b : Nat) (h : xH) (x y : Int) (ha : xr x) (hb : xr y) {Q : xO → xH → Prop} (hQ : ∀ v : Int, w32 v = ap 2 x y → Q (.inl (some (.inl v))) h) : xRn G0 MT (d + 2) b 173 [.inl 2, .inl x, .inl y] h Q := by
  refine R_of (M := mX12_does) rfl (Nat.le_of_ble_eq_true rfl) ?_
  show xEx G0 cdX12_does (some .int) (xRn G0 MT (d + 1)) Q b 0 [some (.inl 2), some (.inl x), some (.inl y)] [] h
  refine E_s 1 (i' := 1) (ls' := [some (.inl 2), some (.inl x), some (.inl y)]) (sk' := [.inl 2]) (h' := h) rfl ?_
  refine E_sw (x := (.tableswitch 117 0 8 #[51, 55, 59, 63, 74, 85, 88, 100, 112], 50, [(0, 2), (1, 6), (2, 10), (3, 14), (4, 21), (5, 28), (6, 31), (7, 39), (8, 47)], [])) (t := 10) rfl rfl (by decide +kernel) ?_
  show xEx G0 cdX12_does (some .int) (xRn G0 MT (d + 1)) Q b 10 [some (.inl 2), some (.inl x), some (.inl y)] [] h
  refine E_s 3 (i' := 13) (ls' := [some (.inl 2), some (.inl x), some (.inl y)]) (sk' := [.inl (x * y)]) (h' := h) rfl ?_
  exact E_ret (x := (.ireturn, 0, [], [])) (v := some (.inl (x * y))) rfl (Or.inl rfl) (hQ _ (rfl))
set_option maxHeartbeats 1000000 in
theorem c_does_3 (d b : Nat) (h : xH) (x y : Int) (ha : xr x) (hb : xr y) {Q : xO → xH → Prop} (hQ : ∀ v : Int, w32 v = ap 3 x y → Q (.inl (some (.inl v))) h) : xRn G0 MT (d + 2) b 173 [.inl 3, .inl x, .inl y] h Q := by
  refine R_of (M := mX12_does) rfl (Nat.le_of_ble_eq_true rfl) ?_
  show xEx G0 cdX12_does (some .int) (xRn G0 MT (d + 1)) Q b 0 [some (.inl 3), some (.inl x), some (.inl y)] [] h
  refine E_s 1 (i' := 1) (ls' := [some (.inl 3), some (.inl x), some (.inl y)]) (sk' := [.inl 3]) (h' := h) rfl ?_
  refine E_sw (x := (.tableswitch 117 0 8 #[51, 55, 59, 63, 74, 85, 88, 100, 112], 50, [(0, 2), (1, 6), (2, 10), (3, 14), (4, 21), (5, 28), (6, 31), (7, 39), (8, 47)], [])) (t := 14) rfl rfl (by decide +kernel) ?_
  show xEx G0 cdX12_does (some .int) (xRn G0 MT (d + 1)) Q b 14 [some (.inl 3), some (.inl x), some (.inl y)] [] h
  refine E_s 2 (i' := 16) (ls' := [some (.inl 3), some (.inl x), some (.inl y)]) (sk' := [.inl y, .inl x]) (h' := h) rfl ?_
  refine E_b (x := (.if_icmp .ge 7, 19, [], [])) rfl rfl (fun c16 => ?_) (fun c16 => ?_)
  · rw [c_ge (by first | assumption | (refine ⟨?_, ?_⟩ <;> omega) | (simp only [xr] at *; omega)) (by first | assumption | (refine ⟨?_, ?_⟩ <;> omega) | (simp only [xr] at *; omega))] at c16
    simp only [decide_eq_true_eq, decide_eq_false_iff_not, Decidable.not_not] at c16
    show xEx G0 cdX12_does (some .int) (xRn G0 MT (d + 1)) Q b 19 [some (.inl 3), some (.inl x), some (.inl y)] [] h
    refine E_s 1 (i' := 20) (ls' := [some (.inl 3), some (.inl x), some (.inl y)]) (sk' := [.inl y]) (h' := h) rfl ?_
    exact E_ret (x := (.ireturn, 0, [], [])) (v := some (.inl y)) rfl (Or.inl rfl) (hQ _ (by rw [ap_3]; split <;> first | (rw [w32_id ha]; done) | (rw [w32_id hb]; done) | omega))
  · rw [c_ge (by first | assumption | (refine ⟨?_, ?_⟩ <;> omega) | (simp only [xr] at *; omega)) (by first | assumption | (refine ⟨?_, ?_⟩ <;> omega) | (simp only [xr] at *; omega))] at c16
    simp only [decide_eq_true_eq, decide_eq_false_iff_not, Decidable.not_not] at c16
    show xEx G0 cdX12_does (some .int) (xRn G0 MT (d + 1)) Q b 17 [some (.inl 3), some (.inl x), some (.inl y)] [] h
    refine E_s 2 (i' := 20) (ls' := [some (.inl 3), some (.inl x), some (.inl y)]) (sk' := [.inl x]) (h' := h) rfl ?_
    exact E_ret (x := (.ireturn, 0, [], [])) (v := some (.inl x)) rfl (Or.inl rfl) (hQ _ (by rw [ap_3]; split <;> first | (rw [w32_id ha]; done) | (rw [w32_id hb]; done) | omega))
set_option maxHeartbeats 1000000 in
theorem c_does_4 (d b : Nat) (h : xH) (x y : Int) (ha : xr x) (hb : xr y) {Q : xO → xH → Prop} (hQ : ∀ v : Int, w32 v = ap 4 x y → Q (.inl (some (.inl v))) h) : xRn G0 MT (d + 2) b 173 [.inl 4, .inl x, .inl y] h Q := by
  refine R_of (M := mX12_does) rfl (Nat.le_of_ble_eq_true rfl) ?_
  show xEx G0 cdX12_does (some .int) (xRn G0 MT (d + 1)) Q b 0 [some (.inl 4), some (.inl x), some (.inl y)] [] h
  refine E_s 1 (i' := 1) (ls' := [some (.inl 4), some (.inl x), some (.inl y)]) (sk' := [.inl 4]) (h' := h) rfl ?_
  refine E_sw (x := (.tableswitch 117 0 8 #[51, 55, 59, 63, 74, 85, 88, 100, 112], 50, [(0, 2), (1, 6), (2, 10), (3, 14), (4, 21), (5, 28), (6, 31), (7, 39), (8, 47)], [])) (t := 21) rfl rfl (by decide +kernel) ?_
  show xEx G0 cdX12_does (some .int) (xRn G0 MT (d + 1)) Q b 21 [some (.inl 4), some (.inl x), some (.inl y)] [] h
  refine E_s 2 (i' := 23) (ls' := [some (.inl 4), some (.inl x), some (.inl y)]) (sk' := [.inl y, .inl x]) (h' := h) rfl ?_
  refine E_b (x := (.if_icmp .le 7, 26, [], [])) rfl rfl (fun c23 => ?_) (fun c23 => ?_)
  · rw [c_le (by first | assumption | (refine ⟨?_, ?_⟩ <;> omega) | (simp only [xr] at *; omega)) (by first | assumption | (refine ⟨?_, ?_⟩ <;> omega) | (simp only [xr] at *; omega))] at c23
    simp only [decide_eq_true_eq, decide_eq_false_iff_not, Decidable.not_not] at c23
    show xEx G0 cdX12_does (some .int) (xRn G0 MT (d + 1)) Q b 26 [some (.inl 4), some (.inl x), some (.inl y)] [] h
    refine E_s 1 (i' := 27) (ls' := [some (.inl 4), some (.inl x), some (.inl y)]) (sk' := [.inl y]) (h' := h) rfl ?_
    exact E_ret (x := (.ireturn, 0, [], [])) (v := some (.inl y)) rfl (Or.inl rfl) (hQ _ (by rw [ap_4]; split <;> first | (rw [w32_id ha]; done) | (rw [w32_id hb]; done) | omega))
  · rw [c_le (by first | assumption | (refine ⟨?_, ?_⟩ <;> omega) | (simp only [xr] at *; omega)) (by first | assumption | (refine ⟨?_, ?_⟩ <;> omega) | (simp only [xr] at *; omega))] at c23
    simp only [decide_eq_true_eq, decide_eq_false_iff_not, Decidable.not_not] at c23
    show xEx G0 cdX12_does (some .int) (xRn G0 MT (d + 1)) Q b 24 [some (.inl 4), some (.inl x), some (.inl y)] [] h
    refine E_s 2 (i' := 27) (ls' := [some (.inl 4), some (.inl x), some (.inl y)]) (sk' := [.inl x]) (h' := h) rfl ?_
    exact E_ret (x := (.ireturn, 0, [], [])) (v := some (.inl x)) rfl (Or.inl rfl) (hQ _ (by rw [ap_4]; split <;> first | (rw [w32_id ha]; done) | (rw [w32_id hb]; done) | omega))
set_option maxHeartbeats 1000000 in
theorem c_does_5 (d b : Nat) (h : xH) (x y : Int) (ha : xr x) (hb : xr y) {Q : xO → xH → Prop} (hQ : ∀ v : Int, w32 v = ap 5 x y → Q (.inl (some (.inl v))) h) : xRn G0 MT (d + 2) b 173 [.inl 5, .inl x, .inl y] h Q := by
  refine R_of (M := mX12_does) rfl (Nat.le_of_ble_eq_true rfl) ?_
  show xEx G0 cdX12_does (some .int) (xRn G0 MT (d + 1)) Q b 0 [some (.inl 5), some (.inl x), some (.inl y)] [] h
  refine E_s 1 (i' := 1) (ls' := [some (.inl 5), some (.inl x), some (.inl y)]) (sk' := [.inl 5]) (h' := h) rfl ?_
  refine E_sw (x := (.tableswitch 117 0 8 #[51, 55, 59, 63, 74, 85, 88, 100, 112], 50, [(0, 2), (1, 6), (2, 10), (3, 14), (4, 21), (5, 28), (6, 31), (7, 39), (8, 47)], [])) (t := 28) rfl rfl (by decide +kernel) ?_
  show xEx G0 cdX12_does (some .int) (xRn G0 MT (d + 1)) Q b 28 [some (.inl 5), some (.inl x), some (.inl y)] [] h
  refine E_s 2 (i' := 30) (ls' := [some (.inl 5), some (.inl x), some (.inl y)]) (sk' := [.inl (-x)]) (h' := h) rfl ?_
  exact E_ret (x := (.ireturn, 0, [], [])) (v := some (.inl (-x))) rfl (Or.inl rfl) (hQ _ (rfl))
set_option maxHeartbeats 1000000 in
theorem c_does_6 (d b : Nat) (h : xH) (x y : Int) (ha : xr x) (hb : xr y) {Q : xO → xH → Prop} (hQ : ∀ v : Int, w32 v = ap 6 x y → Q (.inl (some (.inl v))) h) : xRn G0 MT (d + 2) b 173 [.inl 6, .inl x, .inl y] h Q := by
  refine R_of (M := mX12_does) rfl (Nat.le_of_ble_eq_true rfl) ?_
  show xEx G0 cdX12_does (some .int) (xRn G0 MT (d + 1)) Q b 0 [some (.inl 6), some (.inl x), some (.inl y)] [] h
  refine E_s 1 (i' := 1) (ls' := [some (.inl 6), some (.inl x), some (.inl y)]) (sk' := [.inl 6]) (h' := h) rfl ?_
  refine E_sw (x := (.tableswitch 117 0 8 #[51, 55, 59, 63, 74, 85, 88, 100, 112], 50, [(0, 2), (1, 6), (2, 10), (3, 14), (4, 21), (5, 28), (6, 31), (7, 39), (8, 47)], [])) (t := 31) rfl rfl (by decide +kernel) ?_
  show xEx G0 cdX12_does (some .int) (xRn G0 MT (d + 1)) Q b 31 [some (.inl 6), some (.inl x), some (.inl y)] [] h
  refine E_s 1 (i' := 32) (ls' := [some (.inl 6), some (.inl x), some (.inl y)]) (sk' := [.inl y]) (h' := h) rfl ?_
  refine E_b (x := (.ifCond .ne 7, 35, [], [])) rfl rfl (fun c32 => ?_) (fun c32 => ?_)
  · rw [c_ne (by first | assumption | (refine ⟨?_, ?_⟩ <;> omega) | (simp only [xr] at *; omega)) (by first | assumption | (refine ⟨?_, ?_⟩ <;> omega) | (simp only [xr] at *; omega))] at c32
    simp only [decide_eq_true_eq, decide_eq_false_iff_not, Decidable.not_not] at c32
    show xEx G0 cdX12_does (some .int) (xRn G0 MT (d + 1)) Q b 35 [some (.inl 6), some (.inl x), some (.inl y)] [] h
    refine E_s 2 (i' := 37) (ls' := [some (.inl 6), some (.inl x), some (.inl y)]) (sk' := [.inl y, .inl x]) (h' := h) rfl ?_
    refine E_div (x := (.idiv, 0, [], [])) rfl rfl (by rw [w32_id hb]; first | exact c32 | exact c40) ?_
    show xEx G0 cdX12_does (some .int) (xRn G0 MT (d + 1)) Q b 38 [some (.inl 6), some (.inl x), some (.inl y)] [.inl (xdiv x y)] h
    exact E_ret (x := (.ireturn, 0, [], [])) (v := some (.inl (xdiv x y))) rfl (Or.inl rfl) (hQ _ (by rw [ap_6]; split <;> first | exact w32_0 | exact w32_id (xdiv_r _ _) | contradiction))
  · rw [c_ne (by first | assumption | (refine ⟨?_, ?_⟩ <;> omega) | (simp only [xr] at *; omega)) (by first | assumption | (refine ⟨?_, ?_⟩ <;> omega) | (simp only [xr] at *; omega))] at c32
    simp only [decide_eq_true_eq, decide_eq_false_iff_not, Decidable.not_not] at c32
    show xEx G0 cdX12_does (some .int) (xRn G0 MT (d + 1)) Q b 33 [some (.inl 6), some (.inl x), some (.inl y)] [] h
    refine E_s 2 (i' := 38) (ls' := [some (.inl 6), some (.inl x), some (.inl y)]) (sk' := [.inl 0]) (h' := h) rfl ?_
    exact E_ret (x := (.ireturn, 0, [], [])) (v := some (.inl 0)) rfl (Or.inl rfl) (hQ _ (by rw [ap_6]; split <;> first | exact w32_0 | exact w32_id (xdiv_r _ _) | contradiction))
set_option maxHeartbeats 1000000 in
theorem c_does_7 (d b : Nat) (h : xH) (x y : Int) (ha : xr x) (hb : xr y) {Q : xO → xH → Prop} (hQ : ∀ v : Int, w32 v = ap 7 x y → Q (.inl (some (.inl v))) h) : xRn G0 MT (d + 2) b 173 [.inl 7, .inl x, .inl y] h Q := by
  refine R_of (M := mX12_does) rfl (Nat.le_of_ble_eq_true rfl) ?_
  show xEx G0 cdX12_does (some .int) (xRn G0 MT (d + 1)) Q b 0 [some (.inl 7), some (.inl x), some (.inl y)] [] h
  refine E_s 1 (i' := 1) (ls' := [some (.inl 7), some (.inl x), some (.inl y)]) (sk' := [.inl 7]) (h' := h) rfl ?_
  refine E_sw (x := (.tableswitch 117 0 8 #[51, 55, 59, 63, 74, 85, 88, 100, 112], 50, [(0, 2), (1, 6), (2, 10), (3, 14), (4, 21), (5, 28), (6, 31), (7, 39), (8, 47)], [])) (t := 39) rfl rfl (by decide +kernel) ?_
  show xEx G0 cdX12_does (some .int) (xRn G0 MT (d + 1)) Q b 39 [some (.inl 7), some (.inl x), some (.inl y)] [] h
  refine E_s 1 (i' := 40) (ls' := [some (.inl 7), some (.inl x), some (.inl y)]) (sk' := [.inl y]) (h' := h) rfl ?_
  refine E_b (x := (.ifCond .ne 7, 43, [], [])) rfl rfl (fun c40 => ?_) (fun c40 => ?_)
  · rw [c_ne (by first | assumption | (refine ⟨?_, ?_⟩ <;> omega) | (simp only [xr] at *; omega)) (by first | assumption | (refine ⟨?_, ?_⟩ <;> omega) | (simp only [xr] at *; omega))] at c40
    simp only [decide_eq_true_eq, decide_eq_false_iff_not, Decidable.not_not] at c40
    show xEx G0 cdX12_does (some .int) (xRn G0 MT (d + 1)) Q b 43 [some (.inl 7), some (.inl x), some (.inl y)] [] h
    refine E_s 2 (i' := 45) (ls' := [some (.inl 7), some (.inl x), some (.inl y)]) (sk' := [.inl y, .inl x]) (h' := h) rfl ?_
    refine E_rem (x := (.irem, 0, [], [])) rfl rfl (by rw [w32_id hb]; first | exact c32 | exact c40) ?_
    show xEx G0 cdX12_does (some .int) (xRn G0 MT (d + 1)) Q b 46 [some (.inl 7), some (.inl x), some (.inl y)] [.inl (xrem x y)] h
    exact E_ret (x := (.ireturn, 0, [], [])) (v := some (.inl (xrem x y))) rfl (Or.inl rfl) (hQ _ (by rw [ap_7]; split <;> first | exact w32_0 | exact w32_id (xrem_r _ _) | contradiction))
  · rw [c_ne (by first | assumption | (refine ⟨?_, ?_⟩ <;> omega) | (simp only [xr] at *; omega)) (by first | assumption | (refine ⟨?_, ?_⟩ <;> omega) | (simp only [xr] at *; omega))] at c40
    simp only [decide_eq_true_eq, decide_eq_false_iff_not, Decidable.not_not] at c40
    show xEx G0 cdX12_does (some .int) (xRn G0 MT (d + 1)) Q b 41 [some (.inl 7), some (.inl x), some (.inl y)] [] h
    refine E_s 2 (i' := 46) (ls' := [some (.inl 7), some (.inl x), some (.inl y)]) (sk' := [.inl 0]) (h' := h) rfl ?_
    exact E_ret (x := (.ireturn, 0, [], [])) (v := some (.inl 0)) rfl (Or.inl rfl) (hQ _ (by rw [ap_7]; split <;> first | exact w32_0 | exact w32_id (xrem_r _ _) | contradiction))
set_option maxHeartbeats 1000000 in
theorem c_does_8 (d b : Nat) (h : xH) (x y : Int) (ha : xr x) (hb : xr y) {Q : xO → xH → Prop} (hQ : ∀ v : Int, w32 v = ap 8 x y → Q (.inl (some (.inl v))) h) : xRn G0 MT (d + 2) b 173 [.inl 8, .inl x, .inl y] h Q := by
  refine R_of (M := mX12_does) rfl (Nat.le_of_ble_eq_true rfl) ?_
  show xEx G0 cdX12_does (some .int) (xRn G0 MT (d + 1)) Q b 0 [some (.inl 8), some (.inl x), some (.inl y)] [] h
  refine E_s 1 (i' := 1) (ls' := [some (.inl 8), some (.inl x), some (.inl y)]) (sk' := [.inl 8]) (h' := h) rfl ?_
  refine E_sw (x := (.tableswitch 117 0 8 #[51, 55, 59, 63, 74, 85, 88, 100, 112], 50, [(0, 2), (1, 6), (2, 10), (3, 14), (4, 21), (5, 28), (6, 31), (7, 39), (8, 47)], [])) (t := 47) rfl rfl (by decide +kernel) ?_
  show xEx G0 cdX12_does (some .int) (xRn G0 MT (d + 1)) Q b 47 [some (.inl 8), some (.inl x), some (.inl y)] [] h
  refine E_s 1 (i' := 48) (ls' := [some (.inl 8), some (.inl x), some (.inl y)]) (sk' := [.inl x]) (h' := h) rfl ?_
  refine E_ci (x := (.invokestatic 211, 1, [(0, 172)], [])) (r := (if x < 0 then -x else x)) (h' := h) rfl rfl (Nat.le_of_ble_eq_true rfl) (c_absolute d 0 h x ha ⟨rfl, rfl⟩) ?_
  show xEx G0 cdX12_does (some .int) (xRn G0 MT (d + 1)) Q b 49 [some (.inl 8), some (.inl x), some (.inl y)] [.inl (if x < 0 then -x else x)] h
  exact E_ret (x := (.ireturn, 0, [], [])) (v := some (.inl (if x < 0 then -x else x))) rfl (Or.inl rfl) (hQ _ (by first | rfl | (rw [ap_8]; congr 1; split <;> first | rfl | omega)))
set_option maxHeartbeats 1000000 in
theorem c_does_9 (d b : Nat) (h : xH) (x y : Int) (ha : xr x) (hb : xr y) {Q : xO → xH → Prop} (hQ : ∀ v : Int, w32 v = ap 9 x y → Q (.inl (some (.inl v))) h) : xRn G0 MT (d + 2) b 173 [.inl 9, .inl x, .inl y] h Q := by
  refine R_of (M := mX12_does) rfl (Nat.le_of_ble_eq_true rfl) ?_
  show xEx G0 cdX12_does (some .int) (xRn G0 MT (d + 1)) Q b 0 [some (.inl 9), some (.inl x), some (.inl y)] [] h
  refine E_s 1 (i' := 1) (ls' := [some (.inl 9), some (.inl x), some (.inl y)]) (sk' := [.inl 9]) (h' := h) rfl ?_
  refine E_sw (x := (.tableswitch 117 0 8 #[51, 55, 59, 63, 74, 85, 88, 100, 112], 50, [(0, 2), (1, 6), (2, 10), (3, 14), (4, 21), (5, 28), (6, 31), (7, 39), (8, 47)], [])) (t := 50) rfl rfl (by decide +kernel) ?_
  show xEx G0 cdX12_does (some .int) (xRn G0 MT (d + 1)) Q b 50 [some (.inl 9), some (.inl x), some (.inl y)] [] h
  refine E_s 1 (i' := 51) (ls' := [some (.inl 9), some (.inl x), some (.inl y)]) (sk' := [.inl x]) (h' := h) rfl ?_
  refine E_b (x := (.ifCond .le 7, 54, [], [])) rfl rfl (fun c51 => ?_) (fun c51 => ?_)
  · rw [c_le (by first | assumption | (refine ⟨?_, ?_⟩ <;> omega) | (simp only [xr] at *; omega)) (by first | assumption | (refine ⟨?_, ?_⟩ <;> omega) | (simp only [xr] at *; omega))] at c51
    simp only [decide_eq_true_eq, decide_eq_false_iff_not, Decidable.not_not] at c51
    show xEx G0 cdX12_does (some .int) (xRn G0 MT (d + 1)) Q b 54 [some (.inl 9), some (.inl x), some (.inl y)] [] h
    refine E_s 1 (i' := 55) (ls' := [some (.inl 9), some (.inl x), some (.inl y)]) (sk' := [.inl x]) (h' := h) rfl ?_
    refine E_b (x := (.ifCond .ge 7, 58, [], [])) rfl rfl (fun c55 => ?_) (fun c55 => ?_)
    · rw [c_ge (by first | assumption | (refine ⟨?_, ?_⟩ <;> omega) | (simp only [xr] at *; omega)) (by first | assumption | (refine ⟨?_, ?_⟩ <;> omega) | (simp only [xr] at *; omega))] at c55
      simp only [decide_eq_true_eq, decide_eq_false_iff_not, Decidable.not_not] at c55
      show xEx G0 cdX12_does (some .int) (xRn G0 MT (d + 1)) Q b 58 [some (.inl 9), some (.inl x), some (.inl y)] [] h
      refine E_s 1 (i' := 59) (ls' := [some (.inl 9), some (.inl x), some (.inl y)]) (sk' := [.inl 0]) (h' := h) rfl ?_
      exact E_ret (x := (.ireturn, 0, [], [])) (v := some (.inl 0)) rfl (Or.inl rfl) (hQ _ (by rw [ap_9]; (repeat' split) <;> first | exact w32_0 | exact w32_1 | exact w32_m1 | omega))
    · rw [c_ge (by first | assumption | (refine ⟨?_, ?_⟩ <;> omega) | (simp only [xr] at *; omega)) (by first | assumption | (refine ⟨?_, ?_⟩ <;> omega) | (simp only [xr] at *; omega))] at c55
      simp only [decide_eq_true_eq, decide_eq_false_iff_not, Decidable.not_not] at c55
      show xEx G0 cdX12_does (some .int) (xRn G0 MT (d + 1)) Q b 56 [some (.inl 9), some (.inl x), some (.inl y)] [] h
      refine E_s 2 (i' := 59) (ls' := [some (.inl 9), some (.inl x), some (.inl y)]) (sk' := [.inl (-1)]) (h' := h) rfl ?_
      exact E_ret (x := (.ireturn, 0, [], [])) (v := some (.inl (-1))) rfl (Or.inl rfl) (hQ _ (by rw [ap_9]; (repeat' split) <;> first | exact w32_0 | exact w32_1 | exact w32_m1 | omega))
  · rw [c_le (by first | assumption | (refine ⟨?_, ?_⟩ <;> omega) | (simp only [xr] at *; omega)) (by first | assumption | (refine ⟨?_, ?_⟩ <;> omega) | (simp only [xr] at *; omega))] at c51
    simp only [decide_eq_true_eq, decide_eq_false_iff_not, Decidable.not_not] at c51
    show xEx G0 cdX12_does (some .int) (xRn G0 MT (d + 1)) Q b 52 [some (.inl 9), some (.inl x), some (.inl y)] [] h
    refine E_s 2 (i' := 59) (ls' := [some (.inl 9), some (.inl x), some (.inl y)]) (sk' := [.inl 1]) (h' := h) rfl ?_
    exact E_ret (x := (.ireturn, 0, [], [])) (v := some (.inl 1)) rfl (Or.inl rfl) (hQ _ (by rw [ap_9]; (repeat' split) <;> first | exact w32_0 | exact w32_1 | exact w32_m1 | omega))
theorem c_does (d b : Nat) (h : xH) (p x y : Int) (hp : 0 ≤ p ∧ p ≤ 9) (ha : xr x) (hb : xr y) {Q : xO → xH → Prop} (hQ : ∀ v : Int, w32 v = ap p x y → Q (.inl (some (.inl v))) h) : xRn G0 MT (d + 2) b 173 [.inl p, .inl x, .inl y] h Q := by
  obtain rfl | rfl | rfl | rfl | rfl | rfl | rfl | rfl | rfl | rfl := p10 hp
  · exact c_does_0 d b h x y ha hb hQ
  · exact c_does_1 d b h x y ha hb hQ
  · exact c_does_2 d b h x y ha hb hQ
  · exact c_does_3 d b h x y ha hb hQ
  · exact c_does_4 d b h x y ha hb hQ
  · exact c_does_5 d b h x y ha hb hQ
  · exact c_does_6 d b h x y ha hb hQ
  · exact c_does_7 d b h x y ha hb hQ
  · exact c_does_8 d b h x y ha hb hQ
  · exact c_does_9 d b h x y ha hb hQ
set_option maxHeartbeats 1000000 in
theorem c_isOfOne (d b : Nat) (h : xH) (p : Int) (hp : xr p) {Q : xO → xH → Prop} (h1 : (p = 5 ∨ p = 8 ∨ p = 9) → Q (.inl (some (.inl 1))) h) (h0 : ¬ (p = 5 ∨ p = 8 ∨ p = 9) → Q (.inl (some (.inl 0))) h) : xRn G0 MT (d + 1) b 38 [.inl p] h Q := by
  refine R_of (M := mX4_isOfOne) rfl (Nat.le_of_ble_eq_true rfl) ?_
  show xEx G0 cdX4_isOfOne (some .boolean) (xRn G0 MT d) Q b 0 [some (.inl p)] [] h
  refine E_s 2 (i' := 2) (ls' := [some (.inl p)]) (sk' := [.inl 5, .inl p]) (h' := h) rfl ?_
  refine E_b (x := (.if_icmp .eq 15, 9, [], [])) rfl rfl (fun c2 => ?_) (fun c2 => ?_)
  · rw [c_eq (by first | assumption | (refine ⟨?_, ?_⟩ <;> omega) | (simp only [xr] at *; omega)) (by first | assumption | (refine ⟨?_, ?_⟩ <;> omega) | (simp only [xr] at *; omega))] at c2
    simp only [decide_eq_true_eq, decide_eq_false_iff_not, Decidable.not_not] at c2
    show xEx G0 cdX4_isOfOne (some .boolean) (xRn G0 MT d) Q b 9 [some (.inl p)] [] h
    refine E_s 2 (i' := 12) (ls' := [some (.inl p)]) (sk' := [.inl 1]) (h' := h) rfl ?_
    exact E_ret (x := (.ireturn, 0, [], [])) (v := some (.inl 1)) rfl (Or.inr ⟨rfl, by omega⟩) (h1 (by omega))
  · rw [c_eq (by first | assumption | (refine ⟨?_, ?_⟩ <;> omega) | (simp only [xr] at *; omega)) (by first | assumption | (refine ⟨?_, ?_⟩ <;> omega) | (simp only [xr] at *; omega))] at c2
    simp only [decide_eq_true_eq, decide_eq_false_iff_not, Decidable.not_not] at c2
    show xEx G0 cdX4_isOfOne (some .boolean) (xRn G0 MT d) Q b 3 [some (.inl p)] [] h
    refine E_s 2 (i' := 5) (ls' := [some (.inl p)]) (sk' := [.inl 8, .inl p]) (h' := h) rfl ?_
    refine E_b (x := (.if_icmp .eq 9, 9, [], [])) rfl rfl (fun c5 => ?_) (fun c5 => ?_)
    · rw [c_eq (by first | assumption | (refine ⟨?_, ?_⟩ <;> omega) | (simp only [xr] at *; omega)) (by first | assumption | (refine ⟨?_, ?_⟩ <;> omega) | (simp only [xr] at *; omega))] at c5
      simp only [decide_eq_true_eq, decide_eq_false_iff_not, Decidable.not_not] at c5
      show xEx G0 cdX4_isOfOne (some .boolean) (xRn G0 MT d) Q b 9 [some (.inl p)] [] h
      refine E_s 2 (i' := 12) (ls' := [some (.inl p)]) (sk' := [.inl 1]) (h' := h) rfl ?_
      exact E_ret (x := (.ireturn, 0, [], [])) (v := some (.inl 1)) rfl (Or.inr ⟨rfl, by omega⟩) (h1 (by omega))
    · rw [c_eq (by first | assumption | (refine ⟨?_, ?_⟩ <;> omega) | (simp only [xr] at *; omega)) (by first | assumption | (refine ⟨?_, ?_⟩ <;> omega) | (simp only [xr] at *; omega))] at c5
      simp only [decide_eq_true_eq, decide_eq_false_iff_not, Decidable.not_not] at c5
      show xEx G0 cdX4_isOfOne (some .boolean) (xRn G0 MT d) Q b 6 [some (.inl p)] [] h
      refine E_s 2 (i' := 8) (ls' := [some (.inl p)]) (sk' := [.inl 9, .inl p]) (h' := h) rfl ?_
      refine E_b (x := (.if_icmp .ne 7, 11, [], [])) rfl rfl (fun c8 => ?_) (fun c8 => ?_)
      · rw [c_ne (by first | assumption | (refine ⟨?_, ?_⟩ <;> omega) | (simp only [xr] at *; omega)) (by first | assumption | (refine ⟨?_, ?_⟩ <;> omega) | (simp only [xr] at *; omega))] at c8
        simp only [decide_eq_true_eq, decide_eq_false_iff_not, Decidable.not_not] at c8
        show xEx G0 cdX4_isOfOne (some .boolean) (xRn G0 MT d) Q b 11 [some (.inl p)] [] h
        refine E_s 1 (i' := 12) (ls' := [some (.inl p)]) (sk' := [.inl 0]) (h' := h) rfl ?_
        exact E_ret (x := (.ireturn, 0, [], [])) (v := some (.inl 0)) rfl (Or.inr ⟨rfl, by omega⟩) (h0 (by omega))
      · rw [c_ne (by first | assumption | (refine ⟨?_, ?_⟩ <;> omega) | (simp only [xr] at *; omega)) (by first | assumption | (refine ⟨?_, ?_⟩ <;> omega) | (simp only [xr] at *; omega))] at c8
        simp only [decide_eq_true_eq, decide_eq_false_iff_not, Decidable.not_not] at c8
        show xEx G0 cdX4_isOfOne (some .boolean) (xRn G0 MT d) Q b 9 [some (.inl p)] [] h
        refine E_s 2 (i' := 12) (ls' := [some (.inl p)]) (sk' := [.inl 1]) (h' := h) rfl ?_
        exact E_ret (x := (.ireturn, 0, [], [])) (v := some (.inl 1)) rfl (Or.inr ⟨rfl, by omega⟩) (h1 (by omega))
set_option maxHeartbeats 1000000 in
theorem m_isOfOne (d b : Nat) (h : xH) (p : Int) (hp : xr p) {Q : xO → xH → Prop} (h1 : (p = 5 ∨ p = 8 ∨ p = 9) → Q (.inl (some (.inl 1))) h) (h0 : ¬ (p = 5 ∨ p = 8 ∨ p = 9) → Q (.inl (some (.inl 0))) h) : xRn G0 MT (d + 1) b 174 [.inl p] h Q := by
  refine R_of (M := mX12_isOfOne) rfl (Nat.le_of_ble_eq_true rfl) ?_
  show xEx G0 cdX12_isOfOne (some .boolean) (xRn G0 MT d) Q b 0 [some (.inl p)] [] h
  refine E_s 2 (i' := 2) (ls' := [some (.inl p)]) (sk' := [.inl 5, .inl p]) (h' := h) rfl ?_
  refine E_b (x := (.if_icmp .eq 15, 9, [], [])) rfl rfl (fun c2 => ?_) (fun c2 => ?_)
  · rw [c_eq (by first | assumption | (refine ⟨?_, ?_⟩ <;> omega) | (simp only [xr] at *; omega)) (by first | assumption | (refine ⟨?_, ?_⟩ <;> omega) | (simp only [xr] at *; omega))] at c2
    simp only [decide_eq_true_eq, decide_eq_false_iff_not, Decidable.not_not] at c2
    show xEx G0 cdX12_isOfOne (some .boolean) (xRn G0 MT d) Q b 9 [some (.inl p)] [] h
    refine E_s 2 (i' := 12) (ls' := [some (.inl p)]) (sk' := [.inl 1]) (h' := h) rfl ?_
    exact E_ret (x := (.ireturn, 0, [], [])) (v := some (.inl 1)) rfl (Or.inr ⟨rfl, by omega⟩) (h1 (by omega))
  · rw [c_eq (by first | assumption | (refine ⟨?_, ?_⟩ <;> omega) | (simp only [xr] at *; omega)) (by first | assumption | (refine ⟨?_, ?_⟩ <;> omega) | (simp only [xr] at *; omega))] at c2
    simp only [decide_eq_true_eq, decide_eq_false_iff_not, Decidable.not_not] at c2
    show xEx G0 cdX12_isOfOne (some .boolean) (xRn G0 MT d) Q b 3 [some (.inl p)] [] h
    refine E_s 2 (i' := 5) (ls' := [some (.inl p)]) (sk' := [.inl 8, .inl p]) (h' := h) rfl ?_
    refine E_b (x := (.if_icmp .eq 9, 9, [], [])) rfl rfl (fun c5 => ?_) (fun c5 => ?_)
    · rw [c_eq (by first | assumption | (refine ⟨?_, ?_⟩ <;> omega) | (simp only [xr] at *; omega)) (by first | assumption | (refine ⟨?_, ?_⟩ <;> omega) | (simp only [xr] at *; omega))] at c5
      simp only [decide_eq_true_eq, decide_eq_false_iff_not, Decidable.not_not] at c5
      show xEx G0 cdX12_isOfOne (some .boolean) (xRn G0 MT d) Q b 9 [some (.inl p)] [] h
      refine E_s 2 (i' := 12) (ls' := [some (.inl p)]) (sk' := [.inl 1]) (h' := h) rfl ?_
      exact E_ret (x := (.ireturn, 0, [], [])) (v := some (.inl 1)) rfl (Or.inr ⟨rfl, by omega⟩) (h1 (by omega))
    · rw [c_eq (by first | assumption | (refine ⟨?_, ?_⟩ <;> omega) | (simp only [xr] at *; omega)) (by first | assumption | (refine ⟨?_, ?_⟩ <;> omega) | (simp only [xr] at *; omega))] at c5
      simp only [decide_eq_true_eq, decide_eq_false_iff_not, Decidable.not_not] at c5
      show xEx G0 cdX12_isOfOne (some .boolean) (xRn G0 MT d) Q b 6 [some (.inl p)] [] h
      refine E_s 2 (i' := 8) (ls' := [some (.inl p)]) (sk' := [.inl 9, .inl p]) (h' := h) rfl ?_
      refine E_b (x := (.if_icmp .ne 7, 11, [], [])) rfl rfl (fun c8 => ?_) (fun c8 => ?_)
      · rw [c_ne (by first | assumption | (refine ⟨?_, ?_⟩ <;> omega) | (simp only [xr] at *; omega)) (by first | assumption | (refine ⟨?_, ?_⟩ <;> omega) | (simp only [xr] at *; omega))] at c8
        simp only [decide_eq_true_eq, decide_eq_false_iff_not, Decidable.not_not] at c8
        show xEx G0 cdX12_isOfOne (some .boolean) (xRn G0 MT d) Q b 11 [some (.inl p)] [] h
        refine E_s 1 (i' := 12) (ls' := [some (.inl p)]) (sk' := [.inl 0]) (h' := h) rfl ?_
        exact E_ret (x := (.ireturn, 0, [], [])) (v := some (.inl 0)) rfl (Or.inr ⟨rfl, by omega⟩) (h0 (by omega))
      · rw [c_ne (by first | assumption | (refine ⟨?_, ?_⟩ <;> omega) | (simp only [xr] at *; omega)) (by first | assumption | (refine ⟨?_, ?_⟩ <;> omega) | (simp only [xr] at *; omega))] at c8
        simp only [decide_eq_true_eq, decide_eq_false_iff_not, Decidable.not_not] at c8
        show xEx G0 cdX12_isOfOne (some .boolean) (xRn G0 MT d) Q b 9 [some (.inl p)] [] h
        refine E_s 2 (i' := 12) (ls' := [some (.inl p)]) (sk' := [.inl 1]) (h' := h) rfl ?_
        exact E_ret (x := (.ireturn, 0, [], [])) (v := some (.inl 1)) rfl (Or.inr ⟨rfl, by omega⟩) (h1 (by omega))
set_option maxHeartbeats 1000000 in
theorem c_isEvenHanded (d b : Nat) (h : xH) (p : Int) (hp : 0 ≤ p ∧ p ≤ 9) {Q : xO → xH → Prop} (h1 : (p = 0 ∨ p = 2 ∨ p = 3 ∨ p = 4) → Q (.inl (some (.inl 1))) h) (h0 : ¬ (p = 0 ∨ p = 2 ∨ p = 3 ∨ p = 4) → Q (.inl (some (.inl 0))) h) : xRn G0 MT (d + 1) b 39 [.inl p] h Q := by
  refine R_of (M := mX4_isEvenHanded) rfl (Nat.le_of_ble_eq_true rfl) ?_
  show xEx G0 cdX4_isEvenHanded (some .boolean) (xRn G0 MT d) Q b 0 [some (.inl p)] [] h
  refine E_s 1 (i' := 1) (ls' := [some (.inl p)]) (sk' := [.inl p]) (h' := h) rfl ?_
  refine E_b (x := (.ifCond .eq 18, 11, [], [])) rfl rfl (fun c1 => ?_) (fun c1 => ?_)
  · rw [c_eq (by first | assumption | (refine ⟨?_, ?_⟩ <;> omega) | (simp only [xr] at *; omega)) (by first | assumption | (refine ⟨?_, ?_⟩ <;> omega) | (simp only [xr] at *; omega))] at c1
    simp only [decide_eq_true_eq, decide_eq_false_iff_not, Decidable.not_not] at c1
    show xEx G0 cdX4_isEvenHanded (some .boolean) (xRn G0 MT d) Q b 11 [some (.inl p)] [] h
    refine E_s 2 (i' := 14) (ls' := [some (.inl p)]) (sk' := [.inl 1]) (h' := h) rfl ?_
    exact E_ret (x := (.ireturn, 0, [], [])) (v := some (.inl 1)) rfl (Or.inr ⟨rfl, by omega⟩) (h1 (by omega))
  · rw [c_eq (by first | assumption | (refine ⟨?_, ?_⟩ <;> omega) | (simp only [xr] at *; omega)) (by first | assumption | (refine ⟨?_, ?_⟩ <;> omega) | (simp only [xr] at *; omega))] at c1
    simp only [decide_eq_true_eq, decide_eq_false_iff_not, Decidable.not_not] at c1
    show xEx G0 cdX4_isEvenHanded (some .boolean) (xRn G0 MT d) Q b 2 [some (.inl p)] [] h
    refine E_s 2 (i' := 4) (ls' := [some (.inl p)]) (sk' := [.inl 2, .inl p]) (h' := h) rfl ?_
    refine E_b (x := (.if_icmp .eq 13, 11, [], [])) rfl rfl (fun c4 => ?_) (fun c4 => ?_)
    · rw [c_eq (by first | assumption | (refine ⟨?_, ?_⟩ <;> omega) | (simp only [xr] at *; omega)) (by first | assumption | (refine ⟨?_, ?_⟩ <;> omega) | (simp only [xr] at *; omega))] at c4
      simp only [decide_eq_true_eq, decide_eq_false_iff_not, Decidable.not_not] at c4
      show xEx G0 cdX4_isEvenHanded (some .boolean) (xRn G0 MT d) Q b 11 [some (.inl p)] [] h
      refine E_s 2 (i' := 14) (ls' := [some (.inl p)]) (sk' := [.inl 1]) (h' := h) rfl ?_
      exact E_ret (x := (.ireturn, 0, [], [])) (v := some (.inl 1)) rfl (Or.inr ⟨rfl, by omega⟩) (h1 (by omega))
    · rw [c_eq (by first | assumption | (refine ⟨?_, ?_⟩ <;> omega) | (simp only [xr] at *; omega)) (by first | assumption | (refine ⟨?_, ?_⟩ <;> omega) | (simp only [xr] at *; omega))] at c4
      simp only [decide_eq_true_eq, decide_eq_false_iff_not, Decidable.not_not] at c4
      show xEx G0 cdX4_isEvenHanded (some .boolean) (xRn G0 MT d) Q b 5 [some (.inl p)] [] h
      refine E_s 2 (i' := 7) (ls' := [some (.inl p)]) (sk' := [.inl 3, .inl p]) (h' := h) rfl ?_
      refine E_b (x := (.if_icmp .eq 8, 11, [], [])) rfl rfl (fun c7 => ?_) (fun c7 => ?_)
      · rw [c_eq (by first | assumption | (refine ⟨?_, ?_⟩ <;> omega) | (simp only [xr] at *; omega)) (by first | assumption | (refine ⟨?_, ?_⟩ <;> omega) | (simp only [xr] at *; omega))] at c7
        simp only [decide_eq_true_eq, decide_eq_false_iff_not, Decidable.not_not] at c7
        show xEx G0 cdX4_isEvenHanded (some .boolean) (xRn G0 MT d) Q b 11 [some (.inl p)] [] h
        refine E_s 2 (i' := 14) (ls' := [some (.inl p)]) (sk' := [.inl 1]) (h' := h) rfl ?_
        exact E_ret (x := (.ireturn, 0, [], [])) (v := some (.inl 1)) rfl (Or.inr ⟨rfl, by omega⟩) (h1 (by omega))
      · rw [c_eq (by first | assumption | (refine ⟨?_, ?_⟩ <;> omega) | (simp only [xr] at *; omega)) (by first | assumption | (refine ⟨?_, ?_⟩ <;> omega) | (simp only [xr] at *; omega))] at c7
        simp only [decide_eq_true_eq, decide_eq_false_iff_not, Decidable.not_not] at c7
        show xEx G0 cdX4_isEvenHanded (some .boolean) (xRn G0 MT d) Q b 8 [some (.inl p)] [] h
        refine E_s 2 (i' := 10) (ls' := [some (.inl p)]) (sk' := [.inl 4, .inl p]) (h' := h) rfl ?_
        refine E_b (x := (.if_icmp .ne 7, 13, [], [])) rfl rfl (fun c10 => ?_) (fun c10 => ?_)
        · rw [c_ne (by first | assumption | (refine ⟨?_, ?_⟩ <;> omega) | (simp only [xr] at *; omega)) (by first | assumption | (refine ⟨?_, ?_⟩ <;> omega) | (simp only [xr] at *; omega))] at c10
          simp only [decide_eq_true_eq, decide_eq_false_iff_not, Decidable.not_not] at c10
          show xEx G0 cdX4_isEvenHanded (some .boolean) (xRn G0 MT d) Q b 13 [some (.inl p)] [] h
          refine E_s 1 (i' := 14) (ls' := [some (.inl p)]) (sk' := [.inl 0]) (h' := h) rfl ?_
          exact E_ret (x := (.ireturn, 0, [], [])) (v := some (.inl 0)) rfl (Or.inr ⟨rfl, by omega⟩) (h0 (by omega))
        · rw [c_ne (by first | assumption | (refine ⟨?_, ?_⟩ <;> omega) | (simp only [xr] at *; omega)) (by first | assumption | (refine ⟨?_, ?_⟩ <;> omega) | (simp only [xr] at *; omega))] at c10
          simp only [decide_eq_true_eq, decide_eq_false_iff_not, Decidable.not_not] at c10
          show xEx G0 cdX4_isEvenHanded (some .boolean) (xRn G0 MT d) Q b 11 [some (.inl p)] [] h
          refine E_s 2 (i' := 14) (ls' := [some (.inl p)]) (sk' := [.inl 1]) (h' := h) rfl ?_
          exact E_ret (x := (.ireturn, 0, [], [])) (v := some (.inl 1)) rfl (Or.inr ⟨rfl, by omega⟩) (h1 (by omega))
set_option maxHeartbeats 1000000 in
theorem m_isAlikeRound (d b : Nat) (h : xH) (p : Int) (hp : 0 ≤ p ∧ p ≤ 9) {Q : xO → xH → Prop} (h1 : (p = 0 ∨ p = 2 ∨ p = 3 ∨ p = 4) → Q (.inl (some (.inl 1))) h) (h0 : ¬ (p = 0 ∨ p = 2 ∨ p = 3 ∨ p = 4) → Q (.inl (some (.inl 0))) h) : xRn G0 MT (d + 1) b 175 [.inl p] h Q := by
  refine R_of (M := mX12_isAlikeRound) rfl (Nat.le_of_ble_eq_true rfl) ?_
  show xEx G0 cdX12_isAlikeRound (some .boolean) (xRn G0 MT d) Q b 0 [some (.inl p)] [] h
  refine E_s 1 (i' := 1) (ls' := [some (.inl p)]) (sk' := [.inl p]) (h' := h) rfl ?_
  refine E_b (x := (.ifCond .eq 13, 8, [], [])) rfl rfl (fun c1 => ?_) (fun c1 => ?_)
  · rw [c_eq (by first | assumption | (refine ⟨?_, ?_⟩ <;> omega) | (simp only [xr] at *; omega)) (by first | assumption | (refine ⟨?_, ?_⟩ <;> omega) | (simp only [xr] at *; omega))] at c1
    simp only [decide_eq_true_eq, decide_eq_false_iff_not, Decidable.not_not] at c1
    show xEx G0 cdX12_isAlikeRound (some .boolean) (xRn G0 MT d) Q b 8 [some (.inl p)] [] h
    refine E_s 2 (i' := 11) (ls' := [some (.inl p)]) (sk' := [.inl 1]) (h' := h) rfl ?_
    exact E_ret (x := (.ireturn, 0, [], [])) (v := some (.inl 1)) rfl (Or.inr ⟨rfl, by omega⟩) (h1 (by omega))
  · rw [c_eq (by first | assumption | (refine ⟨?_, ?_⟩ <;> omega) | (simp only [xr] at *; omega)) (by first | assumption | (refine ⟨?_, ?_⟩ <;> omega) | (simp only [xr] at *; omega))] at c1
    simp only [decide_eq_true_eq, decide_eq_false_iff_not, Decidable.not_not] at c1
    show xEx G0 cdX12_isAlikeRound (some .boolean) (xRn G0 MT d) Q b 2 [some (.inl p)] [] h
    refine E_s 2 (i' := 4) (ls' := [some (.inl p)]) (sk' := [.inl 2, .inl p]) (h' := h) rfl ?_
    refine E_b (x := (.if_icmp .lt 12, 10, [], [])) rfl rfl (fun c4 => ?_) (fun c4 => ?_)
    · rw [c_lt (by first | assumption | (refine ⟨?_, ?_⟩ <;> omega) | (simp only [xr] at *; omega)) (by first | assumption | (refine ⟨?_, ?_⟩ <;> omega) | (simp only [xr] at *; omega))] at c4
      simp only [decide_eq_true_eq, decide_eq_false_iff_not, Decidable.not_not] at c4
      show xEx G0 cdX12_isAlikeRound (some .boolean) (xRn G0 MT d) Q b 10 [some (.inl p)] [] h
      refine E_s 1 (i' := 11) (ls' := [some (.inl p)]) (sk' := [.inl 0]) (h' := h) rfl ?_
      exact E_ret (x := (.ireturn, 0, [], [])) (v := some (.inl 0)) rfl (Or.inr ⟨rfl, by omega⟩) (h0 (by omega))
    · rw [c_lt (by first | assumption | (refine ⟨?_, ?_⟩ <;> omega) | (simp only [xr] at *; omega)) (by first | assumption | (refine ⟨?_, ?_⟩ <;> omega) | (simp only [xr] at *; omega))] at c4
      simp only [decide_eq_true_eq, decide_eq_false_iff_not, Decidable.not_not] at c4
      show xEx G0 cdX12_isAlikeRound (some .boolean) (xRn G0 MT d) Q b 5 [some (.inl p)] [] h
      refine E_s 2 (i' := 7) (ls' := [some (.inl p)]) (sk' := [.inl 4, .inl p]) (h' := h) rfl ?_
      refine E_b (x := (.if_icmp .gt 7, 10, [], [])) rfl rfl (fun c7 => ?_) (fun c7 => ?_)
      · rw [c_gt (by first | assumption | (refine ⟨?_, ?_⟩ <;> omega) | (simp only [xr] at *; omega)) (by first | assumption | (refine ⟨?_, ?_⟩ <;> omega) | (simp only [xr] at *; omega))] at c7
        simp only [decide_eq_true_eq, decide_eq_false_iff_not, Decidable.not_not] at c7
        show xEx G0 cdX12_isAlikeRound (some .boolean) (xRn G0 MT d) Q b 10 [some (.inl p)] [] h
        refine E_s 1 (i' := 11) (ls' := [some (.inl p)]) (sk' := [.inl 0]) (h' := h) rfl ?_
        exact E_ret (x := (.ireturn, 0, [], [])) (v := some (.inl 0)) rfl (Or.inr ⟨rfl, by omega⟩) (h0 (by omega))
      · rw [c_gt (by first | assumption | (refine ⟨?_, ?_⟩ <;> omega) | (simp only [xr] at *; omega)) (by first | assumption | (refine ⟨?_, ?_⟩ <;> omega) | (simp only [xr] at *; omega))] at c7
        simp only [decide_eq_true_eq, decide_eq_false_iff_not, Decidable.not_not] at c7
        show xEx G0 cdX12_isAlikeRound (some .boolean) (xRn G0 MT d) Q b 8 [some (.inl p)] [] h
        refine E_s 2 (i' := 11) (ls' := [some (.inl p)]) (sk' := [.inl 1]) (h' := h) rfl ?_
        exact E_ret (x := (.ireturn, 0, [], [])) (v := some (.inl 1)) rfl (Or.inr ⟨rfl, by omega⟩) (h1 (by omega))
set_option maxHeartbeats 1000000 in
theorem m_isIn (d b : Nat) (h : xH) (v lo hi : Int) (hv : xr v) (hl : xr lo) (hh : xr hi) {Q : xO → xH → Prop} (h1 : (lo ≤ v ∧ v ≤ hi) → Q (.inl (some (.inl 1))) h) (h0 : ¬ (lo ≤ v ∧ v ≤ hi) → Q (.inl (some (.inl 0))) h) : xRn G0 MT (d + 1) b 155 [.inl v, .inl lo, .inl hi] h Q := by
  refine R_of (M := mX12_isIn) rfl (Nat.le_of_ble_eq_true rfl) ?_
  show xEx G0 cdX12_isIn (some .boolean) (xRn G0 MT d) Q b 0 [some (.inl v), some (.inl lo), some (.inl hi)] [] h
  refine E_s 2 (i' := 2) (ls' := [some (.inl v), some (.inl lo), some (.inl hi)]) (sk' := [.inl lo, .inl v]) (h' := h) rfl ?_
  refine E_b (x := (.if_icmp .lt 12, 8, [], [])) rfl rfl (fun c2 => ?_) (fun c2 => ?_)
  · rw [c_lt (by first | assumption | (refine ⟨?_, ?_⟩ <;> omega) | (simp only [xr] at *; omega)) (by first | assumption | (refine ⟨?_, ?_⟩ <;> omega) | (simp only [xr] at *; omega))] at c2
    simp only [decide_eq_true_eq, decide_eq_false_iff_not, Decidable.not_not] at c2
    show xEx G0 cdX12_isIn (some .boolean) (xRn G0 MT d) Q b 8 [some (.inl v), some (.inl lo), some (.inl hi)] [] h
    refine E_s 1 (i' := 9) (ls' := [some (.inl v), some (.inl lo), some (.inl hi)]) (sk' := [.inl 0]) (h' := h) rfl ?_
    exact E_ret (x := (.ireturn, 0, [], [])) (v := some (.inl 0)) rfl (Or.inr ⟨rfl, by omega⟩) (h0 (by omega))
  · rw [c_lt (by first | assumption | (refine ⟨?_, ?_⟩ <;> omega) | (simp only [xr] at *; omega)) (by first | assumption | (refine ⟨?_, ?_⟩ <;> omega) | (simp only [xr] at *; omega))] at c2
    simp only [decide_eq_true_eq, decide_eq_false_iff_not, Decidable.not_not] at c2
    show xEx G0 cdX12_isIn (some .boolean) (xRn G0 MT d) Q b 3 [some (.inl v), some (.inl lo), some (.inl hi)] [] h
    refine E_s 2 (i' := 5) (ls' := [some (.inl v), some (.inl lo), some (.inl hi)]) (sk' := [.inl hi, .inl v]) (h' := h) rfl ?_
    refine E_b (x := (.if_icmp .gt 7, 8, [], [])) rfl rfl (fun c5 => ?_) (fun c5 => ?_)
    · rw [c_gt (by first | assumption | (refine ⟨?_, ?_⟩ <;> omega) | (simp only [xr] at *; omega)) (by first | assumption | (refine ⟨?_, ?_⟩ <;> omega) | (simp only [xr] at *; omega))] at c5
      simp only [decide_eq_true_eq, decide_eq_false_iff_not, Decidable.not_not] at c5
      show xEx G0 cdX12_isIn (some .boolean) (xRn G0 MT d) Q b 8 [some (.inl v), some (.inl lo), some (.inl hi)] [] h
      refine E_s 1 (i' := 9) (ls' := [some (.inl v), some (.inl lo), some (.inl hi)]) (sk' := [.inl 0]) (h' := h) rfl ?_
      exact E_ret (x := (.ireturn, 0, [], [])) (v := some (.inl 0)) rfl (Or.inr ⟨rfl, by omega⟩) (h0 (by omega))
    · rw [c_gt (by first | assumption | (refine ⟨?_, ?_⟩ <;> omega) | (simp only [xr] at *; omega)) (by first | assumption | (refine ⟨?_, ?_⟩ <;> omega) | (simp only [xr] at *; omega))] at c5
      simp only [decide_eq_true_eq, decide_eq_false_iff_not, Decidable.not_not] at c5
      show xEx G0 cdX12_isIn (some .boolean) (xRn G0 MT d) Q b 6 [some (.inl v), some (.inl lo), some (.inl hi)] [] h
      refine E_s 2 (i' := 9) (ls' := [some (.inl v), some (.inl lo), some (.inl hi)]) (sk' := [.inl 1]) (h' := h) rfl ?_
      exact E_ret (x := (.ireturn, 0, [], [])) (v := some (.inl 1)) rfl (Or.inr ⟨rfl, by omega⟩) (h1 (by omega))
