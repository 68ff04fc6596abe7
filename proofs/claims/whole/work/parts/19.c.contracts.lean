def xfill (h : xH) (a : Nat) (fr to v : Int) : xH := fun a' j' => if a' = a then (if fr ≤ j' ∧ j' < to then v else h a' j') else h a' j'
theorem xfill_0 (h : xH) (a : Nat) (fr v : Int) : xfill h a fr fr v = h := by
  funext a' j'
  unfold xfill
  split
  · rw [if_neg (by omega)]
  · rfl
theorem xfill_s (h : xH) (a : Nat) {fr i : Int} (v : Int) (hi : fr ≤ i) : xup (xfill h a fr i v) a i v = xfill h a fr (i + 1) v := by
  funext a' j'
  unfold xup xfill
  by_cases ha : a' = a
  · simp only [ha, if_true]
    by_cases hj : j' = i
    · rw [if_pos hj, if_pos (by omega)]
    · rw [if_neg hj]
      by_cases h2 : fr ≤ j' ∧ j' < i
      · rw [if_pos h2, if_pos (by omega)]
      · rw [if_neg h2, if_neg (by omega)]
  · simp only [ha, if_false]
theorem xfill_a {h : xH} {a a' : Nat} {fr to v : Int} (e : a' ≠ a) : xfill h a fr to v a' = h a' := by funext j; simp [xfill, e]
theorem xfill_i {h : xH} {a : Nat} {fr to v j : Int} (e : fr ≤ j ∧ j < to) : xfill h a fr to v a j = v := by simp [xfill, e]
theorem xfill_o {h : xH} {a : Nat} {fr to v j : Int} (e : ¬ (fr ≤ j ∧ j < to)) : xfill h a fr to v a j = h a j := by simp only [xfill, if_true, if_neg e]
set_option maxHeartbeats 1000000 in
theorem c_rangeCheck (d b : Nat) (h : xH) (n fr to : Int) (h1 : 0 ≤ fr) (h2 : fr ≤ to) (h3 : to ≤ n) (hn : n ≤ 100000) {Q : xO → xH → Prop} (hQ : Q (.inl none) h) : xRn G0 MT (d + 1) b 254 [.inl n, .inl fr, .inl to] h Q := by
  refine R_of (M := mJ7_rangeCheck_23922) rfl (Nat.le_of_ble_eq_true rfl) ?_
  show xEx G0 cdJ7_rangeCheck_23922 none (xRn G0 MT d) Q b 0 [some (.inl n), some (.inl fr), some (.inl to)] [] h
  refine E_s 2 (i' := 2) (ls' := [some (.inl n), some (.inl fr), some (.inl to)]) (sk' := [.inl to, .inl fr]) (h' := h) rfl ?_
  refine E_b (x := (.if_icmp .le 44, 21, [], [])) rfl rfl (fun c2 => ?_) (fun c2 => ?_)
  · rw [c_le (by first | assumption | (refine ⟨?_, ?_⟩ <;> omega) | (simp only [xr] at *; omega)) (by first | assumption | (refine ⟨?_, ?_⟩ <;> omega) | (simp only [xr] at *; omega))] at c2
    simp only [decide_eq_true_eq, decide_eq_false_iff_not, Decidable.not_not] at c2
    show xEx G0 cdJ7_rangeCheck_23922 none (xRn G0 MT d) Q b 21 [some (.inl n), some (.inl fr), some (.inl to)] [] h
    refine E_s 1 (i' := 22) (ls' := [some (.inl n), some (.inl fr), some (.inl to)]) (sk' := [.inl fr]) (h' := h) rfl ?_
    refine E_b (x := (.ifCond .ge 12, 28, [], [])) rfl rfl (fun c22 => ?_) (fun c22 => ?_)
    · rw [c_ge (by first | assumption | (refine ⟨?_, ?_⟩ <;> omega) | (simp only [xr] at *; omega)) (by first | assumption | (refine ⟨?_, ?_⟩ <;> omega) | (simp only [xr] at *; omega))] at c22
      simp only [decide_eq_true_eq, decide_eq_false_iff_not, Decidable.not_not] at c22
      show xEx G0 cdJ7_rangeCheck_23922 none (xRn G0 MT d) Q b 28 [some (.inl n), some (.inl fr), some (.inl to)] [] h
      refine E_s 2 (i' := 30) (ls' := [some (.inl n), some (.inl fr), some (.inl to)]) (sk' := [.inl n, .inl to]) (h' := h) rfl ?_
      refine E_b (x := (.if_icmp .le 12, 36, [], [])) rfl rfl (fun c30 => ?_) (fun c30 => ?_)
      · rw [c_le (by first | assumption | (refine ⟨?_, ?_⟩ <;> omega) | (simp only [xr] at *; omega)) (by first | assumption | (refine ⟨?_, ?_⟩ <;> omega) | (simp only [xr] at *; omega))] at c30
        simp only [decide_eq_true_eq, decide_eq_false_iff_not, Decidable.not_not] at c30
        show xEx G0 cdJ7_rangeCheck_23922 none (xRn G0 MT d) Q b 36 [some (.inl n), some (.inl fr), some (.inl to)] [] h
        exact E_ret (x := (.return_, 0, [], [])) (v := none) rfl (trivial) (hQ)
      · rw [c_le (by first | assumption | (refine ⟨?_, ?_⟩ <;> omega) | (simp only [xr] at *; omega)) (by first | assumption | (refine ⟨?_, ?_⟩ <;> omega) | (simp only [xr] at *; omega))] at c30
        simp only [decide_eq_true_eq, decide_eq_false_iff_not, Decidable.not_not] at c30
        show xEx G0 cdJ7_rangeCheck_23922 none (xRn G0 MT d) Q b 31 [some (.inl n), some (.inl fr), some (.inl to)] [] h
        exact absurd c30 (by omega)
    · rw [c_ge (by first | assumption | (refine ⟨?_, ?_⟩ <;> omega) | (simp only [xr] at *; omega)) (by first | assumption | (refine ⟨?_, ?_⟩ <;> omega) | (simp only [xr] at *; omega))] at c22
      simp only [decide_eq_true_eq, decide_eq_false_iff_not, Decidable.not_not] at c22
      show xEx G0 cdJ7_rangeCheck_23922 none (xRn G0 MT d) Q b 23 [some (.inl n), some (.inl fr), some (.inl to)] [] h
      exact absurd c22 (by omega)
  · rw [c_le (by first | assumption | (refine ⟨?_, ?_⟩ <;> omega) | (simp only [xr] at *; omega)) (by first | assumption | (refine ⟨?_, ?_⟩ <;> omega) | (simp only [xr] at *; omega))] at c2
    simp only [decide_eq_true_eq, decide_eq_false_iff_not, Decidable.not_not] at c2
    show xEx G0 cdJ7_rangeCheck_23922 none (xRn G0 MT d) Q b 3 [some (.inl n), some (.inl fr), some (.inl to)] [] h
    exact absurd c2 (by omega)
set_option maxHeartbeats 1000000 in
theorem c_fill_outs (d b : Nat) (h : xH) (fr to v : Int) (h1 : 0 ≤ fr) (h2 : fr ≤ to) (h3 : to ≤ 3612) {Q : xO → xH → Prop} (hQ : Q (.inl none) (xfill h 24 fr to v)) : xRn G0 MT (d + 2) b 256 [.inr (.inr 24), .inl fr, .inl to, .inl v] h Q := by
  refine R_of (M := mJ7_fill_fda19) rfl (Nat.le_of_ble_eq_true rfl) ?_
  show xEx G0 cdJ7_fill_fda19 none (xRn G0 MT (d + 1)) Q b 0 [some (.inr (.inr 24)), some (.inl fr), some (.inl to), some (.inl v), none] [] h
  refine E_s 4 (i' := 4) (ls' := [some (.inr (.inr 24)), some (.inl fr), some (.inl to), some (.inl v), none]) (sk' := [.inl to, .inl fr, .inl 3612]) (h' := h) rfl ?_
  refine E_cv (x := (.invokestatic 13, 3, [(0, 254)], [])) (q := fun h9 => h9 = h) rfl rfl (Nat.le_of_ble_eq_true rfl) (c_rangeCheck d 0 h 3612 fr to h1 h2 h3 (by omega) ⟨rfl, rfl⟩) (fun h9 e9 => ?_)
  subst e9
  show xEx G0 cdJ7_fill_fda19 none (xRn G0 MT (d + 1)) Q b 5 [some (.inr (.inr 24)), some (.inl fr), some (.inl to), some (.inl v), none] [] h9
  refine E_s 2 (i' := 7) (ls' := [some (.inr (.inr 24)), some (.inl fr), some (.inl to), some (.inl v), some (.inl fr)]) (sk' := []) (h' := h9) rfl ?_
  have key7 : ∀ (n : Nat) (i : Int), (fr ≤ i) → (i ≤ to) → ((to - i).toNat) < n → xEx G0 cdJ7_fill_fda19 none (xRn G0 MT (d + 1)) Q b 7 [some (.inr (.inr 24)), some (.inl fr), some (.inl to), some (.inl v), some (.inl i)] [] (xfill h9 24 fr i v) := by
    intro n
    induction n with
    | zero => intro i _ _ hm; exact absurd hm (Nat.not_lt_zero _)
    | succ n ih7 =>
      intro i hi0 hi1 hm7
      refine E_s 2 (i' := 9) (ls' := [some (.inr (.inr 24)), some (.inl fr), some (.inl to), some (.inl v), some (.inl i)]) (sk' := [.inl to, .inl i]) (h' := (xfill h9 24 fr i v)) rfl ?_
      refine E_b (x := (.if_icmp .ge 14, 16, [], [])) rfl rfl (fun c9 => ?_) (fun c9 => ?_)
      · rw [c_ge (by first | assumption | (refine ⟨?_, ?_⟩ <;> omega) | (simp only [xr] at *; omega)) (by first | assumption | (refine ⟨?_, ?_⟩ <;> omega) | (simp only [xr] at *; omega))] at c9
        simp only [decide_eq_true_eq, decide_eq_false_iff_not, Decidable.not_not] at c9
        show xEx G0 cdJ7_fill_fda19 none (xRn G0 MT (d + 1)) Q b 16 [some (.inr (.inr 24)), some (.inl fr), some (.inl to), some (.inl v), some (.inl i)] [] (xfill h9 24 fr i v)
        exact E_ret (x := (.return_, 0, [], [])) (v := none) rfl (trivial) (by obtain rfl : i = to := (by omega); exact hQ)
      · rw [c_ge (by first | assumption | (refine ⟨?_, ?_⟩ <;> omega) | (simp only [xr] at *; omega)) (by first | assumption | (refine ⟨?_, ?_⟩ <;> omega) | (simp only [xr] at *; omega))] at c9
        simp only [decide_eq_true_eq, decide_eq_false_iff_not, Decidable.not_not] at c9
        show xEx G0 cdJ7_fill_fda19 none (xRn G0 MT (d + 1)) Q b 10 [some (.inr (.inr 24)), some (.inl fr), some (.inl to), some (.inl v), some (.inl i)] [] (xfill h9 24 fr i v)
        refine E_s 3 (i' := 13) (ls' := [some (.inr (.inr 24)), some (.inl fr), some (.inl to), some (.inl v), some (.inl i)]) (sk' := [.inl v, .inl i, .inr (.inr 24)]) (h' := (xfill h9 24 fr i v)) rfl ?_
        refine E_sd (x := (.iastore, 0, [], [])) (ty := .int) (n := 3612) (y := v) rfl rfl rfl (by omega) (by omega) (trivial) ?_
        show xEx G0 cdJ7_fill_fda19 none (xRn G0 MT (d + 1)) Q b 14 [some (.inr (.inr 24)), some (.inl fr), some (.inl to), some (.inl v), some (.inl i)] [] (xup (xfill h9 24 fr i v) 24 i v)
        rw [xfill_s _ _ _ hi0]
        refine E_s 2 (i' := 7) (ls' := [some (.inr (.inr 24)), some (.inl fr), some (.inl to), some (.inl v), some (.inl (i + 1))]) (sk' := []) (h' := (xfill h9 24 fr (i + 1) v)) rfl ?_
        exact ih7 (i + 1) (by omega) (by omega) (by omega)
  have e0 := key7 _ fr (by omega) (by omega) (Nat.lt_succ_self _)
  rw [xfill_0] at e0
  exact e0
set_option maxHeartbeats 1000000 in
theorem c_fill_ge_ends (d b : Nat) (h : xH) (fr to v : Int) (h1 : 0 ≤ fr) (h2 : fr ≤ to) (h3 : to ≤ 10) {Q : xO → xH → Prop} (hQ : Q (.inl none) (xfill h 23 fr to v)) : xRn G0 MT (d + 2) b 256 [.inr (.inr 23), .inl fr, .inl to, .inl v] h Q := by
  refine R_of (M := mJ7_fill_fda19) rfl (Nat.le_of_ble_eq_true rfl) ?_
  show xEx G0 cdJ7_fill_fda19 none (xRn G0 MT (d + 1)) Q b 0 [some (.inr (.inr 23)), some (.inl fr), some (.inl to), some (.inl v), none] [] h
  refine E_s 4 (i' := 4) (ls' := [some (.inr (.inr 23)), some (.inl fr), some (.inl to), some (.inl v), none]) (sk' := [.inl to, .inl fr, .inl 10]) (h' := h) rfl ?_
  refine E_cv (x := (.invokestatic 13, 3, [(0, 254)], [])) (q := fun h9 => h9 = h) rfl rfl (Nat.le_of_ble_eq_true rfl) (c_rangeCheck d 0 h 10 fr to h1 h2 h3 (by omega) ⟨rfl, rfl⟩) (fun h9 e9 => ?_)
  subst e9
  show xEx G0 cdJ7_fill_fda19 none (xRn G0 MT (d + 1)) Q b 5 [some (.inr (.inr 23)), some (.inl fr), some (.inl to), some (.inl v), none] [] h9
  refine E_s 2 (i' := 7) (ls' := [some (.inr (.inr 23)), some (.inl fr), some (.inl to), some (.inl v), some (.inl fr)]) (sk' := []) (h' := h9) rfl ?_
  have key7 : ∀ (n : Nat) (i : Int), (fr ≤ i) → (i ≤ to) → ((to - i).toNat) < n → xEx G0 cdJ7_fill_fda19 none (xRn G0 MT (d + 1)) Q b 7 [some (.inr (.inr 23)), some (.inl fr), some (.inl to), some (.inl v), some (.inl i)] [] (xfill h9 23 fr i v) := by
    intro n
    induction n with
    | zero => intro i _ _ hm; exact absurd hm (Nat.not_lt_zero _)
    | succ n ih7 =>
      intro i hi0 hi1 hm7
      refine E_s 2 (i' := 9) (ls' := [some (.inr (.inr 23)), some (.inl fr), some (.inl to), some (.inl v), some (.inl i)]) (sk' := [.inl to, .inl i]) (h' := (xfill h9 23 fr i v)) rfl ?_
      refine E_b (x := (.if_icmp .ge 14, 16, [], [])) rfl rfl (fun c9 => ?_) (fun c9 => ?_)
      · rw [c_ge (by first | assumption | (refine ⟨?_, ?_⟩ <;> omega) | (simp only [xr] at *; omega)) (by first | assumption | (refine ⟨?_, ?_⟩ <;> omega) | (simp only [xr] at *; omega))] at c9
        simp only [decide_eq_true_eq, decide_eq_false_iff_not, Decidable.not_not] at c9
        show xEx G0 cdJ7_fill_fda19 none (xRn G0 MT (d + 1)) Q b 16 [some (.inr (.inr 23)), some (.inl fr), some (.inl to), some (.inl v), some (.inl i)] [] (xfill h9 23 fr i v)
        exact E_ret (x := (.return_, 0, [], [])) (v := none) rfl (trivial) (by obtain rfl : i = to := (by omega); exact hQ)
      · rw [c_ge (by first | assumption | (refine ⟨?_, ?_⟩ <;> omega) | (simp only [xr] at *; omega)) (by first | assumption | (refine ⟨?_, ?_⟩ <;> omega) | (simp only [xr] at *; omega))] at c9
        simp only [decide_eq_true_eq, decide_eq_false_iff_not, Decidable.not_not] at c9
        show xEx G0 cdJ7_fill_fda19 none (xRn G0 MT (d + 1)) Q b 10 [some (.inr (.inr 23)), some (.inl fr), some (.inl to), some (.inl v), some (.inl i)] [] (xfill h9 23 fr i v)
        refine E_s 3 (i' := 13) (ls' := [some (.inr (.inr 23)), some (.inl fr), some (.inl to), some (.inl v), some (.inl i)]) (sk' := [.inl v, .inl i, .inr (.inr 23)]) (h' := (xfill h9 23 fr i v)) rfl ?_
        refine E_sd (x := (.iastore, 0, [], [])) (ty := .int) (n := 10) (y := v) rfl rfl rfl (by omega) (by omega) (trivial) ?_
        show xEx G0 cdJ7_fill_fda19 none (xRn G0 MT (d + 1)) Q b 14 [some (.inr (.inr 23)), some (.inl fr), some (.inl to), some (.inl v), some (.inl i)] [] (xup (xfill h9 23 fr i v) 23 i v)
        rw [xfill_s _ _ _ hi0]
        refine E_s 2 (i' := 7) (ls' := [some (.inr (.inr 23)), some (.inl fr), some (.inl to), some (.inl v), some (.inl (i + 1))]) (sk' := []) (h' := (xfill h9 23 fr (i + 1) v)) rfl ?_
        exact ih7 (i + 1) (by omega) (by omega) (by omega)
  have e0 := key7 _ fr (by omega) (by omega) (Nat.lt_succ_self _)
  rw [xfill_0] at e0
  exact e0
set_option maxHeartbeats 1000000 in
theorem c_fill_gt_ends (d b : Nat) (h : xH) (fr to v : Int) (h1 : 0 ≤ fr) (h2 : fr ≤ to) (h3 : to ≤ 8) {Q : xO → xH → Prop} (hQ : Q (.inl none) (xfill h 42 fr to v)) : xRn G0 MT (d + 2) b 256 [.inr (.inr 42), .inl fr, .inl to, .inl v] h Q := by
  refine R_of (M := mJ7_fill_fda19) rfl (Nat.le_of_ble_eq_true rfl) ?_
  show xEx G0 cdJ7_fill_fda19 none (xRn G0 MT (d + 1)) Q b 0 [some (.inr (.inr 42)), some (.inl fr), some (.inl to), some (.inl v), none] [] h
  refine E_s 4 (i' := 4) (ls' := [some (.inr (.inr 42)), some (.inl fr), some (.inl to), some (.inl v), none]) (sk' := [.inl to, .inl fr, .inl 8]) (h' := h) rfl ?_
  refine E_cv (x := (.invokestatic 13, 3, [(0, 254)], [])) (q := fun h9 => h9 = h) rfl rfl (Nat.le_of_ble_eq_true rfl) (c_rangeCheck d 0 h 8 fr to h1 h2 h3 (by omega) ⟨rfl, rfl⟩) (fun h9 e9 => ?_)
  subst e9
  show xEx G0 cdJ7_fill_fda19 none (xRn G0 MT (d + 1)) Q b 5 [some (.inr (.inr 42)), some (.inl fr), some (.inl to), some (.inl v), none] [] h9
  refine E_s 2 (i' := 7) (ls' := [some (.inr (.inr 42)), some (.inl fr), some (.inl to), some (.inl v), some (.inl fr)]) (sk' := []) (h' := h9) rfl ?_
  have key7 : ∀ (n : Nat) (i : Int), (fr ≤ i) → (i ≤ to) → ((to - i).toNat) < n → xEx G0 cdJ7_fill_fda19 none (xRn G0 MT (d + 1)) Q b 7 [some (.inr (.inr 42)), some (.inl fr), some (.inl to), some (.inl v), some (.inl i)] [] (xfill h9 42 fr i v) := by
    intro n
    induction n with
    | zero => intro i _ _ hm; exact absurd hm (Nat.not_lt_zero _)
    | succ n ih7 =>
      intro i hi0 hi1 hm7
      refine E_s 2 (i' := 9) (ls' := [some (.inr (.inr 42)), some (.inl fr), some (.inl to), some (.inl v), some (.inl i)]) (sk' := [.inl to, .inl i]) (h' := (xfill h9 42 fr i v)) rfl ?_
      refine E_b (x := (.if_icmp .ge 14, 16, [], [])) rfl rfl (fun c9 => ?_) (fun c9 => ?_)
      · rw [c_ge (by first | assumption | (refine ⟨?_, ?_⟩ <;> omega) | (simp only [xr] at *; omega)) (by first | assumption | (refine ⟨?_, ?_⟩ <;> omega) | (simp only [xr] at *; omega))] at c9
        simp only [decide_eq_true_eq, decide_eq_false_iff_not, Decidable.not_not] at c9
        show xEx G0 cdJ7_fill_fda19 none (xRn G0 MT (d + 1)) Q b 16 [some (.inr (.inr 42)), some (.inl fr), some (.inl to), some (.inl v), some (.inl i)] [] (xfill h9 42 fr i v)
        exact E_ret (x := (.return_, 0, [], [])) (v := none) rfl (trivial) (by obtain rfl : i = to := (by omega); exact hQ)
      · rw [c_ge (by first | assumption | (refine ⟨?_, ?_⟩ <;> omega) | (simp only [xr] at *; omega)) (by first | assumption | (refine ⟨?_, ?_⟩ <;> omega) | (simp only [xr] at *; omega))] at c9
        simp only [decide_eq_true_eq, decide_eq_false_iff_not, Decidable.not_not] at c9
        show xEx G0 cdJ7_fill_fda19 none (xRn G0 MT (d + 1)) Q b 10 [some (.inr (.inr 42)), some (.inl fr), some (.inl to), some (.inl v), some (.inl i)] [] (xfill h9 42 fr i v)
        refine E_s 3 (i' := 13) (ls' := [some (.inr (.inr 42)), some (.inl fr), some (.inl to), some (.inl v), some (.inl i)]) (sk' := [.inl v, .inl i, .inr (.inr 42)]) (h' := (xfill h9 42 fr i v)) rfl ?_
        refine E_sd (x := (.iastore, 0, [], [])) (ty := .int) (n := 8) (y := v) rfl rfl rfl (by omega) (by omega) (trivial) ?_
        show xEx G0 cdJ7_fill_fda19 none (xRn G0 MT (d + 1)) Q b 14 [some (.inr (.inr 42)), some (.inl fr), some (.inl to), some (.inl v), some (.inl i)] [] (xup (xfill h9 42 fr i v) 42 i v)
        rw [xfill_s _ _ _ hi0]
        refine E_s 2 (i' := 7) (ls' := [some (.inr (.inr 42)), some (.inl fr), some (.inl to), some (.inl v), some (.inl (i + 1))]) (sk' := []) (h' := (xfill h9 42 fr (i + 1) v)) rfl ?_
        exact ih7 (i + 1) (by omega) (by omega) (by omega)
  have e0 := key7 _ fr (by omega) (by omega) (Nat.lt_succ_self _)
  rw [xfill_0] at e0
  exact e0
set_option maxHeartbeats 1000000 in
theorem c_fill_s_z0 (d b : Nat) (h : xH) (fr to v : Int) (h1 : 0 ≤ fr) (h2 : fr ≤ to) (h3 : to ≤ 4096) {Q : xO → xH → Prop} (hQ : Q (.inl none) (xfill h 48 fr to v)) : xRn G0 MT (d + 2) b 256 [.inr (.inr 48), .inl fr, .inl to, .inl v] h Q := by
  refine R_of (M := mJ7_fill_fda19) rfl (Nat.le_of_ble_eq_true rfl) ?_
  show xEx G0 cdJ7_fill_fda19 none (xRn G0 MT (d + 1)) Q b 0 [some (.inr (.inr 48)), some (.inl fr), some (.inl to), some (.inl v), none] [] h
  refine E_s 4 (i' := 4) (ls' := [some (.inr (.inr 48)), some (.inl fr), some (.inl to), some (.inl v), none]) (sk' := [.inl to, .inl fr, .inl 4096]) (h' := h) rfl ?_
  refine E_cv (x := (.invokestatic 13, 3, [(0, 254)], [])) (q := fun h9 => h9 = h) rfl rfl (Nat.le_of_ble_eq_true rfl) (c_rangeCheck d 0 h 4096 fr to h1 h2 h3 (by omega) ⟨rfl, rfl⟩) (fun h9 e9 => ?_)
  subst e9
  show xEx G0 cdJ7_fill_fda19 none (xRn G0 MT (d + 1)) Q b 5 [some (.inr (.inr 48)), some (.inl fr), some (.inl to), some (.inl v), none] [] h9
  refine E_s 2 (i' := 7) (ls' := [some (.inr (.inr 48)), some (.inl fr), some (.inl to), some (.inl v), some (.inl fr)]) (sk' := []) (h' := h9) rfl ?_
  have key7 : ∀ (n : Nat) (i : Int), (fr ≤ i) → (i ≤ to) → ((to - i).toNat) < n → xEx G0 cdJ7_fill_fda19 none (xRn G0 MT (d + 1)) Q b 7 [some (.inr (.inr 48)), some (.inl fr), some (.inl to), some (.inl v), some (.inl i)] [] (xfill h9 48 fr i v) := by
    intro n
    induction n with
    | zero => intro i _ _ hm; exact absurd hm (Nat.not_lt_zero _)
    | succ n ih7 =>
      intro i hi0 hi1 hm7
      refine E_s 2 (i' := 9) (ls' := [some (.inr (.inr 48)), some (.inl fr), some (.inl to), some (.inl v), some (.inl i)]) (sk' := [.inl to, .inl i]) (h' := (xfill h9 48 fr i v)) rfl ?_
      refine E_b (x := (.if_icmp .ge 14, 16, [], [])) rfl rfl (fun c9 => ?_) (fun c9 => ?_)
      · rw [c_ge (by first | assumption | (refine ⟨?_, ?_⟩ <;> omega) | (simp only [xr] at *; omega)) (by first | assumption | (refine ⟨?_, ?_⟩ <;> omega) | (simp only [xr] at *; omega))] at c9
        simp only [decide_eq_true_eq, decide_eq_false_iff_not, Decidable.not_not] at c9
        show xEx G0 cdJ7_fill_fda19 none (xRn G0 MT (d + 1)) Q b 16 [some (.inr (.inr 48)), some (.inl fr), some (.inl to), some (.inl v), some (.inl i)] [] (xfill h9 48 fr i v)
        exact E_ret (x := (.return_, 0, [], [])) (v := none) rfl (trivial) (by obtain rfl : i = to := (by omega); exact hQ)
      · rw [c_ge (by first | assumption | (refine ⟨?_, ?_⟩ <;> omega) | (simp only [xr] at *; omega)) (by first | assumption | (refine ⟨?_, ?_⟩ <;> omega) | (simp only [xr] at *; omega))] at c9
        simp only [decide_eq_true_eq, decide_eq_false_iff_not, Decidable.not_not] at c9
        show xEx G0 cdJ7_fill_fda19 none (xRn G0 MT (d + 1)) Q b 10 [some (.inr (.inr 48)), some (.inl fr), some (.inl to), some (.inl v), some (.inl i)] [] (xfill h9 48 fr i v)
        refine E_s 3 (i' := 13) (ls' := [some (.inr (.inr 48)), some (.inl fr), some (.inl to), some (.inl v), some (.inl i)]) (sk' := [.inl v, .inl i, .inr (.inr 48)]) (h' := (xfill h9 48 fr i v)) rfl ?_
        refine E_sd (x := (.iastore, 0, [], [])) (ty := .int) (n := 4096) (y := v) rfl rfl rfl (by omega) (by omega) (trivial) ?_
        show xEx G0 cdJ7_fill_fda19 none (xRn G0 MT (d + 1)) Q b 14 [some (.inr (.inr 48)), some (.inl fr), some (.inl to), some (.inl v), some (.inl i)] [] (xup (xfill h9 48 fr i v) 48 i v)
        rw [xfill_s _ _ _ hi0]
        refine E_s 2 (i' := 7) (ls' := [some (.inr (.inr 48)), some (.inl fr), some (.inl to), some (.inl v), some (.inl (i + 1))]) (sk' := []) (h' := (xfill h9 48 fr (i + 1) v)) rfl ?_
        exact ih7 (i + 1) (by omega) (by omega) (by omega)
  have e0 := key7 _ fr (by omega) (by omega) (Nat.lt_succ_self _)
  rw [xfill_0] at e0
  exact e0
set_option maxHeartbeats 1000000 in
theorem c_fill_s_z1 (d b : Nat) (h : xH) (fr to v : Int) (h1 : 0 ≤ fr) (h2 : fr ≤ to) (h3 : to ≤ 4096) {Q : xO → xH → Prop} (hQ : Q (.inl none) (xfill h 49 fr to v)) : xRn G0 MT (d + 2) b 256 [.inr (.inr 49), .inl fr, .inl to, .inl v] h Q := by
  refine R_of (M := mJ7_fill_fda19) rfl (Nat.le_of_ble_eq_true rfl) ?_
  show xEx G0 cdJ7_fill_fda19 none (xRn G0 MT (d + 1)) Q b 0 [some (.inr (.inr 49)), some (.inl fr), some (.inl to), some (.inl v), none] [] h
  refine E_s 4 (i' := 4) (ls' := [some (.inr (.inr 49)), some (.inl fr), some (.inl to), some (.inl v), none]) (sk' := [.inl to, .inl fr, .inl 4096]) (h' := h) rfl ?_
  refine E_cv (x := (.invokestatic 13, 3, [(0, 254)], [])) (q := fun h9 => h9 = h) rfl rfl (Nat.le_of_ble_eq_true rfl) (c_rangeCheck d 0 h 4096 fr to h1 h2 h3 (by omega) ⟨rfl, rfl⟩) (fun h9 e9 => ?_)
  subst e9
  show xEx G0 cdJ7_fill_fda19 none (xRn G0 MT (d + 1)) Q b 5 [some (.inr (.inr 49)), some (.inl fr), some (.inl to), some (.inl v), none] [] h9
  refine E_s 2 (i' := 7) (ls' := [some (.inr (.inr 49)), some (.inl fr), some (.inl to), some (.inl v), some (.inl fr)]) (sk' := []) (h' := h9) rfl ?_
  have key7 : ∀ (n : Nat) (i : Int), (fr ≤ i) → (i ≤ to) → ((to - i).toNat) < n → xEx G0 cdJ7_fill_fda19 none (xRn G0 MT (d + 1)) Q b 7 [some (.inr (.inr 49)), some (.inl fr), some (.inl to), some (.inl v), some (.inl i)] [] (xfill h9 49 fr i v) := by
    intro n
    induction n with
    | zero => intro i _ _ hm; exact absurd hm (Nat.not_lt_zero _)
    | succ n ih7 =>
      intro i hi0 hi1 hm7
      refine E_s 2 (i' := 9) (ls' := [some (.inr (.inr 49)), some (.inl fr), some (.inl to), some (.inl v), some (.inl i)]) (sk' := [.inl to, .inl i]) (h' := (xfill h9 49 fr i v)) rfl ?_
      refine E_b (x := (.if_icmp .ge 14, 16, [], [])) rfl rfl (fun c9 => ?_) (fun c9 => ?_)
      · rw [c_ge (by first | assumption | (refine ⟨?_, ?_⟩ <;> omega) | (simp only [xr] at *; omega)) (by first | assumption | (refine ⟨?_, ?_⟩ <;> omega) | (simp only [xr] at *; omega))] at c9
        simp only [decide_eq_true_eq, decide_eq_false_iff_not, Decidable.not_not] at c9
        show xEx G0 cdJ7_fill_fda19 none (xRn G0 MT (d + 1)) Q b 16 [some (.inr (.inr 49)), some (.inl fr), some (.inl to), some (.inl v), some (.inl i)] [] (xfill h9 49 fr i v)
        exact E_ret (x := (.return_, 0, [], [])) (v := none) rfl (trivial) (by obtain rfl : i = to := (by omega); exact hQ)
      · rw [c_ge (by first | assumption | (refine ⟨?_, ?_⟩ <;> omega) | (simp only [xr] at *; omega)) (by first | assumption | (refine ⟨?_, ?_⟩ <;> omega) | (simp only [xr] at *; omega))] at c9
        simp only [decide_eq_true_eq, decide_eq_false_iff_not, Decidable.not_not] at c9
        show xEx G0 cdJ7_fill_fda19 none (xRn G0 MT (d + 1)) Q b 10 [some (.inr (.inr 49)), some (.inl fr), some (.inl to), some (.inl v), some (.inl i)] [] (xfill h9 49 fr i v)
        refine E_s 3 (i' := 13) (ls' := [some (.inr (.inr 49)), some (.inl fr), some (.inl to), some (.inl v), some (.inl i)]) (sk' := [.inl v, .inl i, .inr (.inr 49)]) (h' := (xfill h9 49 fr i v)) rfl ?_
        refine E_sd (x := (.iastore, 0, [], [])) (ty := .int) (n := 4096) (y := v) rfl rfl rfl (by omega) (by omega) (trivial) ?_
        show xEx G0 cdJ7_fill_fda19 none (xRn G0 MT (d + 1)) Q b 14 [some (.inr (.inr 49)), some (.inl fr), some (.inl to), some (.inl v), some (.inl i)] [] (xup (xfill h9 49 fr i v) 49 i v)
        rw [xfill_s _ _ _ hi0]
        refine E_s 2 (i' := 7) (ls' := [some (.inr (.inr 49)), some (.inl fr), some (.inl to), some (.inl v), some (.inl (i + 1))]) (sk' := []) (h' := (xfill h9 49 fr (i + 1) v)) rfl ?_
        exact ih7 (i + 1) (by omega) (by omega) (by omega)
  have e0 := key7 _ fr (by omega) (by omega) (Nat.lt_succ_self _)
  rw [xfill_0] at e0
  exact e0
set_option maxHeartbeats 1000000 in
theorem c_fill_s_z2 (d b : Nat) (h : xH) (fr to v : Int) (h1 : 0 ≤ fr) (h2 : fr ≤ to) (h3 : to ≤ 4096) {Q : xO → xH → Prop} (hQ : Q (.inl none) (xfill h 50 fr to v)) : xRn G0 MT (d + 2) b 256 [.inr (.inr 50), .inl fr, .inl to, .inl v] h Q := by
  refine R_of (M := mJ7_fill_fda19) rfl (Nat.le_of_ble_eq_true rfl) ?_
  show xEx G0 cdJ7_fill_fda19 none (xRn G0 MT (d + 1)) Q b 0 [some (.inr (.inr 50)), some (.inl fr), some (.inl to), some (.inl v), none] [] h
  refine E_s 4 (i' := 4) (ls' := [some (.inr (.inr 50)), some (.inl fr), some (.inl to), some (.inl v), none]) (sk' := [.inl to, .inl fr, .inl 4096]) (h' := h) rfl ?_
  refine E_cv (x := (.invokestatic 13, 3, [(0, 254)], [])) (q := fun h9 => h9 = h) rfl rfl (Nat.le_of_ble_eq_true rfl) (c_rangeCheck d 0 h 4096 fr to h1 h2 h3 (by omega) ⟨rfl, rfl⟩) (fun h9 e9 => ?_)
  subst e9
  show xEx G0 cdJ7_fill_fda19 none (xRn G0 MT (d + 1)) Q b 5 [some (.inr (.inr 50)), some (.inl fr), some (.inl to), some (.inl v), none] [] h9
  refine E_s 2 (i' := 7) (ls' := [some (.inr (.inr 50)), some (.inl fr), some (.inl to), some (.inl v), some (.inl fr)]) (sk' := []) (h' := h9) rfl ?_
  have key7 : ∀ (n : Nat) (i : Int), (fr ≤ i) → (i ≤ to) → ((to - i).toNat) < n → xEx G0 cdJ7_fill_fda19 none (xRn G0 MT (d + 1)) Q b 7 [some (.inr (.inr 50)), some (.inl fr), some (.inl to), some (.inl v), some (.inl i)] [] (xfill h9 50 fr i v) := by
    intro n
    induction n with
    | zero => intro i _ _ hm; exact absurd hm (Nat.not_lt_zero _)
    | succ n ih7 =>
      intro i hi0 hi1 hm7
      refine E_s 2 (i' := 9) (ls' := [some (.inr (.inr 50)), some (.inl fr), some (.inl to), some (.inl v), some (.inl i)]) (sk' := [.inl to, .inl i]) (h' := (xfill h9 50 fr i v)) rfl ?_
      refine E_b (x := (.if_icmp .ge 14, 16, [], [])) rfl rfl (fun c9 => ?_) (fun c9 => ?_)
      · rw [c_ge (by first | assumption | (refine ⟨?_, ?_⟩ <;> omega) | (simp only [xr] at *; omega)) (by first | assumption | (refine ⟨?_, ?_⟩ <;> omega) | (simp only [xr] at *; omega))] at c9
        simp only [decide_eq_true_eq, decide_eq_false_iff_not, Decidable.not_not] at c9
        show xEx G0 cdJ7_fill_fda19 none (xRn G0 MT (d + 1)) Q b 16 [some (.inr (.inr 50)), some (.inl fr), some (.inl to), some (.inl v), some (.inl i)] [] (xfill h9 50 fr i v)
        exact E_ret (x := (.return_, 0, [], [])) (v := none) rfl (trivial) (by obtain rfl : i = to := (by omega); exact hQ)
      · rw [c_ge (by first | assumption | (refine ⟨?_, ?_⟩ <;> omega) | (simp only [xr] at *; omega)) (by first | assumption | (refine ⟨?_, ?_⟩ <;> omega) | (simp only [xr] at *; omega))] at c9
        simp only [decide_eq_true_eq, decide_eq_false_iff_not, Decidable.not_not] at c9
        show xEx G0 cdJ7_fill_fda19 none (xRn G0 MT (d + 1)) Q b 10 [some (.inr (.inr 50)), some (.inl fr), some (.inl to), some (.inl v), some (.inl i)] [] (xfill h9 50 fr i v)
        refine E_s 3 (i' := 13) (ls' := [some (.inr (.inr 50)), some (.inl fr), some (.inl to), some (.inl v), some (.inl i)]) (sk' := [.inl v, .inl i, .inr (.inr 50)]) (h' := (xfill h9 50 fr i v)) rfl ?_
        refine E_sd (x := (.iastore, 0, [], [])) (ty := .int) (n := 4096) (y := v) rfl rfl rfl (by omega) (by omega) (trivial) ?_
        show xEx G0 cdJ7_fill_fda19 none (xRn G0 MT (d + 1)) Q b 14 [some (.inr (.inr 50)), some (.inl fr), some (.inl to), some (.inl v), some (.inl i)] [] (xup (xfill h9 50 fr i v) 50 i v)
        rw [xfill_s _ _ _ hi0]
        refine E_s 2 (i' := 7) (ls' := [some (.inr (.inr 50)), some (.inl fr), some (.inl to), some (.inl v), some (.inl (i + 1))]) (sk' := []) (h' := (xfill h9 50 fr (i + 1) v)) rfl ?_
        exact ih7 (i + 1) (by omega) (by omega) (by omega)
  have e0 := key7 _ fr (by omega) (by omega) (Nat.lt_succ_self _)
  rw [xfill_0] at e0
  exact e0
set_option maxHeartbeats 1000000 in
theorem c_fill_s_w0 (d b : Nat) (h : xH) (fr to v : Int) (h1 : 0 ≤ fr) (h2 : fr ≤ to) (h3 : to ≤ 4096) {Q : xO → xH → Prop} (hQ : Q (.inl none) (xfill h 51 fr to v)) : xRn G0 MT (d + 2) b 256 [.inr (.inr 51), .inl fr, .inl to, .inl v] h Q := by
  refine R_of (M := mJ7_fill_fda19) rfl (Nat.le_of_ble_eq_true rfl) ?_
  show xEx G0 cdJ7_fill_fda19 none (xRn G0 MT (d + 1)) Q b 0 [some (.inr (.inr 51)), some (.inl fr), some (.inl to), some (.inl v), none] [] h
  refine E_s 4 (i' := 4) (ls' := [some (.inr (.inr 51)), some (.inl fr), some (.inl to), some (.inl v), none]) (sk' := [.inl to, .inl fr, .inl 4096]) (h' := h) rfl ?_
  refine E_cv (x := (.invokestatic 13, 3, [(0, 254)], [])) (q := fun h9 => h9 = h) rfl rfl (Nat.le_of_ble_eq_true rfl) (c_rangeCheck d 0 h 4096 fr to h1 h2 h3 (by omega) ⟨rfl, rfl⟩) (fun h9 e9 => ?_)
  subst e9
  show xEx G0 cdJ7_fill_fda19 none (xRn G0 MT (d + 1)) Q b 5 [some (.inr (.inr 51)), some (.inl fr), some (.inl to), some (.inl v), none] [] h9
  refine E_s 2 (i' := 7) (ls' := [some (.inr (.inr 51)), some (.inl fr), some (.inl to), some (.inl v), some (.inl fr)]) (sk' := []) (h' := h9) rfl ?_
  have key7 : ∀ (n : Nat) (i : Int), (fr ≤ i) → (i ≤ to) → ((to - i).toNat) < n → xEx G0 cdJ7_fill_fda19 none (xRn G0 MT (d + 1)) Q b 7 [some (.inr (.inr 51)), some (.inl fr), some (.inl to), some (.inl v), some (.inl i)] [] (xfill h9 51 fr i v) := by
    intro n
    induction n with
    | zero => intro i _ _ hm; exact absurd hm (Nat.not_lt_zero _)
    | succ n ih7 =>
      intro i hi0 hi1 hm7
      refine E_s 2 (i' := 9) (ls' := [some (.inr (.inr 51)), some (.inl fr), some (.inl to), some (.inl v), some (.inl i)]) (sk' := [.inl to, .inl i]) (h' := (xfill h9 51 fr i v)) rfl ?_
      refine E_b (x := (.if_icmp .ge 14, 16, [], [])) rfl rfl (fun c9 => ?_) (fun c9 => ?_)
      · rw [c_ge (by first | assumption | (refine ⟨?_, ?_⟩ <;> omega) | (simp only [xr] at *; omega)) (by first | assumption | (refine ⟨?_, ?_⟩ <;> omega) | (simp only [xr] at *; omega))] at c9
        simp only [decide_eq_true_eq, decide_eq_false_iff_not, Decidable.not_not] at c9
        show xEx G0 cdJ7_fill_fda19 none (xRn G0 MT (d + 1)) Q b 16 [some (.inr (.inr 51)), some (.inl fr), some (.inl to), some (.inl v), some (.inl i)] [] (xfill h9 51 fr i v)
        exact E_ret (x := (.return_, 0, [], [])) (v := none) rfl (trivial) (by obtain rfl : i = to := (by omega); exact hQ)
      · rw [c_ge (by first | assumption | (refine ⟨?_, ?_⟩ <;> omega) | (simp only [xr] at *; omega)) (by first | assumption | (refine ⟨?_, ?_⟩ <;> omega) | (simp only [xr] at *; omega))] at c9
        simp only [decide_eq_true_eq, decide_eq_false_iff_not, Decidable.not_not] at c9
        show xEx G0 cdJ7_fill_fda19 none (xRn G0 MT (d + 1)) Q b 10 [some (.inr (.inr 51)), some (.inl fr), some (.inl to), some (.inl v), some (.inl i)] [] (xfill h9 51 fr i v)
        refine E_s 3 (i' := 13) (ls' := [some (.inr (.inr 51)), some (.inl fr), some (.inl to), some (.inl v), some (.inl i)]) (sk' := [.inl v, .inl i, .inr (.inr 51)]) (h' := (xfill h9 51 fr i v)) rfl ?_
        refine E_sd (x := (.iastore, 0, [], [])) (ty := .int) (n := 4096) (y := v) rfl rfl rfl (by omega) (by omega) (trivial) ?_
        show xEx G0 cdJ7_fill_fda19 none (xRn G0 MT (d + 1)) Q b 14 [some (.inr (.inr 51)), some (.inl fr), some (.inl to), some (.inl v), some (.inl i)] [] (xup (xfill h9 51 fr i v) 51 i v)
        rw [xfill_s _ _ _ hi0]
        refine E_s 2 (i' := 7) (ls' := [some (.inr (.inr 51)), some (.inl fr), some (.inl to), some (.inl v), some (.inl (i + 1))]) (sk' := []) (h' := (xfill h9 51 fr (i + 1) v)) rfl ?_
        exact ih7 (i + 1) (by omega) (by omega) (by omega)
  have e0 := key7 _ fr (by omega) (by omega) (Nat.lt_succ_self _)
  rw [xfill_0] at e0
  exact e0
set_option maxHeartbeats 1000000 in
theorem c_fill_s_w1 (d b : Nat) (h : xH) (fr to v : Int) (h1 : 0 ≤ fr) (h2 : fr ≤ to) (h3 : to ≤ 4096) {Q : xO → xH → Prop} (hQ : Q (.inl none) (xfill h 52 fr to v)) : xRn G0 MT (d + 2) b 256 [.inr (.inr 52), .inl fr, .inl to, .inl v] h Q := by
  refine R_of (M := mJ7_fill_fda19) rfl (Nat.le_of_ble_eq_true rfl) ?_
  show xEx G0 cdJ7_fill_fda19 none (xRn G0 MT (d + 1)) Q b 0 [some (.inr (.inr 52)), some (.inl fr), some (.inl to), some (.inl v), none] [] h
  refine E_s 4 (i' := 4) (ls' := [some (.inr (.inr 52)), some (.inl fr), some (.inl to), some (.inl v), none]) (sk' := [.inl to, .inl fr, .inl 4096]) (h' := h) rfl ?_
  refine E_cv (x := (.invokestatic 13, 3, [(0, 254)], [])) (q := fun h9 => h9 = h) rfl rfl (Nat.le_of_ble_eq_true rfl) (c_rangeCheck d 0 h 4096 fr to h1 h2 h3 (by omega) ⟨rfl, rfl⟩) (fun h9 e9 => ?_)
  subst e9
  show xEx G0 cdJ7_fill_fda19 none (xRn G0 MT (d + 1)) Q b 5 [some (.inr (.inr 52)), some (.inl fr), some (.inl to), some (.inl v), none] [] h9
  refine E_s 2 (i' := 7) (ls' := [some (.inr (.inr 52)), some (.inl fr), some (.inl to), some (.inl v), some (.inl fr)]) (sk' := []) (h' := h9) rfl ?_
  have key7 : ∀ (n : Nat) (i : Int), (fr ≤ i) → (i ≤ to) → ((to - i).toNat) < n → xEx G0 cdJ7_fill_fda19 none (xRn G0 MT (d + 1)) Q b 7 [some (.inr (.inr 52)), some (.inl fr), some (.inl to), some (.inl v), some (.inl i)] [] (xfill h9 52 fr i v) := by
    intro n
    induction n with
    | zero => intro i _ _ hm; exact absurd hm (Nat.not_lt_zero _)
    | succ n ih7 =>
      intro i hi0 hi1 hm7
      refine E_s 2 (i' := 9) (ls' := [some (.inr (.inr 52)), some (.inl fr), some (.inl to), some (.inl v), some (.inl i)]) (sk' := [.inl to, .inl i]) (h' := (xfill h9 52 fr i v)) rfl ?_
      refine E_b (x := (.if_icmp .ge 14, 16, [], [])) rfl rfl (fun c9 => ?_) (fun c9 => ?_)
      · rw [c_ge (by first | assumption | (refine ⟨?_, ?_⟩ <;> omega) | (simp only [xr] at *; omega)) (by first | assumption | (refine ⟨?_, ?_⟩ <;> omega) | (simp only [xr] at *; omega))] at c9
        simp only [decide_eq_true_eq, decide_eq_false_iff_not, Decidable.not_not] at c9
        show xEx G0 cdJ7_fill_fda19 none (xRn G0 MT (d + 1)) Q b 16 [some (.inr (.inr 52)), some (.inl fr), some (.inl to), some (.inl v), some (.inl i)] [] (xfill h9 52 fr i v)
        exact E_ret (x := (.return_, 0, [], [])) (v := none) rfl (trivial) (by obtain rfl : i = to := (by omega); exact hQ)
      · rw [c_ge (by first | assumption | (refine ⟨?_, ?_⟩ <;> omega) | (simp only [xr] at *; omega)) (by first | assumption | (refine ⟨?_, ?_⟩ <;> omega) | (simp only [xr] at *; omega))] at c9
        simp only [decide_eq_true_eq, decide_eq_false_iff_not, Decidable.not_not] at c9
        show xEx G0 cdJ7_fill_fda19 none (xRn G0 MT (d + 1)) Q b 10 [some (.inr (.inr 52)), some (.inl fr), some (.inl to), some (.inl v), some (.inl i)] [] (xfill h9 52 fr i v)
        refine E_s 3 (i' := 13) (ls' := [some (.inr (.inr 52)), some (.inl fr), some (.inl to), some (.inl v), some (.inl i)]) (sk' := [.inl v, .inl i, .inr (.inr 52)]) (h' := (xfill h9 52 fr i v)) rfl ?_
        refine E_sd (x := (.iastore, 0, [], [])) (ty := .int) (n := 4096) (y := v) rfl rfl rfl (by omega) (by omega) (trivial) ?_
        show xEx G0 cdJ7_fill_fda19 none (xRn G0 MT (d + 1)) Q b 14 [some (.inr (.inr 52)), some (.inl fr), some (.inl to), some (.inl v), some (.inl i)] [] (xup (xfill h9 52 fr i v) 52 i v)
        rw [xfill_s _ _ _ hi0]
        refine E_s 2 (i' := 7) (ls' := [some (.inr (.inr 52)), some (.inl fr), some (.inl to), some (.inl v), some (.inl (i + 1))]) (sk' := []) (h' := (xfill h9 52 fr (i + 1) v)) rfl ?_
        exact ih7 (i + 1) (by omega) (by omega) (by omega)
  have e0 := key7 _ fr (by omega) (by omega) (Nat.lt_succ_self _)
  rw [xfill_0] at e0
  exact e0
set_option maxHeartbeats 1000000 in
theorem c_fill_s_w2 (d b : Nat) (h : xH) (fr to v : Int) (h1 : 0 ≤ fr) (h2 : fr ≤ to) (h3 : to ≤ 4096) {Q : xO → xH → Prop} (hQ : Q (.inl none) (xfill h 53 fr to v)) : xRn G0 MT (d + 2) b 256 [.inr (.inr 53), .inl fr, .inl to, .inl v] h Q := by
  refine R_of (M := mJ7_fill_fda19) rfl (Nat.le_of_ble_eq_true rfl) ?_
  show xEx G0 cdJ7_fill_fda19 none (xRn G0 MT (d + 1)) Q b 0 [some (.inr (.inr 53)), some (.inl fr), some (.inl to), some (.inl v), none] [] h
  refine E_s 4 (i' := 4) (ls' := [some (.inr (.inr 53)), some (.inl fr), some (.inl to), some (.inl v), none]) (sk' := [.inl to, .inl fr, .inl 4096]) (h' := h) rfl ?_
  refine E_cv (x := (.invokestatic 13, 3, [(0, 254)], [])) (q := fun h9 => h9 = h) rfl rfl (Nat.le_of_ble_eq_true rfl) (c_rangeCheck d 0 h 4096 fr to h1 h2 h3 (by omega) ⟨rfl, rfl⟩) (fun h9 e9 => ?_)
  subst e9
  show xEx G0 cdJ7_fill_fda19 none (xRn G0 MT (d + 1)) Q b 5 [some (.inr (.inr 53)), some (.inl fr), some (.inl to), some (.inl v), none] [] h9
  refine E_s 2 (i' := 7) (ls' := [some (.inr (.inr 53)), some (.inl fr), some (.inl to), some (.inl v), some (.inl fr)]) (sk' := []) (h' := h9) rfl ?_
  have key7 : ∀ (n : Nat) (i : Int), (fr ≤ i) → (i ≤ to) → ((to - i).toNat) < n → xEx G0 cdJ7_fill_fda19 none (xRn G0 MT (d + 1)) Q b 7 [some (.inr (.inr 53)), some (.inl fr), some (.inl to), some (.inl v), some (.inl i)] [] (xfill h9 53 fr i v) := by
    intro n
    induction n with
    | zero => intro i _ _ hm; exact absurd hm (Nat.not_lt_zero _)
    | succ n ih7 =>
      intro i hi0 hi1 hm7
      refine E_s 2 (i' := 9) (ls' := [some (.inr (.inr 53)), some (.inl fr), some (.inl to), some (.inl v), some (.inl i)]) (sk' := [.inl to, .inl i]) (h' := (xfill h9 53 fr i v)) rfl ?_
      refine E_b (x := (.if_icmp .ge 14, 16, [], [])) rfl rfl (fun c9 => ?_) (fun c9 => ?_)
      · rw [c_ge (by first | assumption | (refine ⟨?_, ?_⟩ <;> omega) | (simp only [xr] at *; omega)) (by first | assumption | (refine ⟨?_, ?_⟩ <;> omega) | (simp only [xr] at *; omega))] at c9
        simp only [decide_eq_true_eq, decide_eq_false_iff_not, Decidable.not_not] at c9
        show xEx G0 cdJ7_fill_fda19 none (xRn G0 MT (d + 1)) Q b 16 [some (.inr (.inr 53)), some (.inl fr), some (.inl to), some (.inl v), some (.inl i)] [] (xfill h9 53 fr i v)
        exact E_ret (x := (.return_, 0, [], [])) (v := none) rfl (trivial) (by obtain rfl : i = to := (by omega); exact hQ)
      · rw [c_ge (by first | assumption | (refine ⟨?_, ?_⟩ <;> omega) | (simp only [xr] at *; omega)) (by first | assumption | (refine ⟨?_, ?_⟩ <;> omega) | (simp only [xr] at *; omega))] at c9
        simp only [decide_eq_true_eq, decide_eq_false_iff_not, Decidable.not_not] at c9
        show xEx G0 cdJ7_fill_fda19 none (xRn G0 MT (d + 1)) Q b 10 [some (.inr (.inr 53)), some (.inl fr), some (.inl to), some (.inl v), some (.inl i)] [] (xfill h9 53 fr i v)
        refine E_s 3 (i' := 13) (ls' := [some (.inr (.inr 53)), some (.inl fr), some (.inl to), some (.inl v), some (.inl i)]) (sk' := [.inl v, .inl i, .inr (.inr 53)]) (h' := (xfill h9 53 fr i v)) rfl ?_
        refine E_sd (x := (.iastore, 0, [], [])) (ty := .int) (n := 4096) (y := v) rfl rfl rfl (by omega) (by omega) (trivial) ?_
        show xEx G0 cdJ7_fill_fda19 none (xRn G0 MT (d + 1)) Q b 14 [some (.inr (.inr 53)), some (.inl fr), some (.inl to), some (.inl v), some (.inl i)] [] (xup (xfill h9 53 fr i v) 53 i v)
        rw [xfill_s _ _ _ hi0]
        refine E_s 2 (i' := 7) (ls' := [some (.inr (.inr 53)), some (.inl fr), some (.inl to), some (.inl v), some (.inl (i + 1))]) (sk' := []) (h' := (xfill h9 53 fr (i + 1) v)) rfl ?_
        exact ih7 (i + 1) (by omega) (by omega) (by omega)
  have e0 := key7 _ fr (by omega) (by omega) (Nat.lt_succ_self _)
  rw [xfill_0] at e0
  exact e0
set_option maxHeartbeats 1000000 in
theorem c_fill_s_few (d b : Nat) (h : xH) (fr to v : Int) (h1 : 0 ≤ fr) (h2 : fr ≤ to) (h3 : to ≤ 4096) {Q : xO → xH → Prop} (hQ : Q (.inl none) (xfill h 54 fr to v)) : xRn G0 MT (d + 2) b 256 [.inr (.inr 54), .inl fr, .inl to, .inl v] h Q := by
  refine R_of (M := mJ7_fill_fda19) rfl (Nat.le_of_ble_eq_true rfl) ?_
  show xEx G0 cdJ7_fill_fda19 none (xRn G0 MT (d + 1)) Q b 0 [some (.inr (.inr 54)), some (.inl fr), some (.inl to), some (.inl v), none] [] h
  refine E_s 4 (i' := 4) (ls' := [some (.inr (.inr 54)), some (.inl fr), some (.inl to), some (.inl v), none]) (sk' := [.inl to, .inl fr, .inl 4096]) (h' := h) rfl ?_
  refine E_cv (x := (.invokestatic 13, 3, [(0, 254)], [])) (q := fun h9 => h9 = h) rfl rfl (Nat.le_of_ble_eq_true rfl) (c_rangeCheck d 0 h 4096 fr to h1 h2 h3 (by omega) ⟨rfl, rfl⟩) (fun h9 e9 => ?_)
  subst e9
  show xEx G0 cdJ7_fill_fda19 none (xRn G0 MT (d + 1)) Q b 5 [some (.inr (.inr 54)), some (.inl fr), some (.inl to), some (.inl v), none] [] h9
  refine E_s 2 (i' := 7) (ls' := [some (.inr (.inr 54)), some (.inl fr), some (.inl to), some (.inl v), some (.inl fr)]) (sk' := []) (h' := h9) rfl ?_
  have key7 : ∀ (n : Nat) (i : Int), (fr ≤ i) → (i ≤ to) → ((to - i).toNat) < n → xEx G0 cdJ7_fill_fda19 none (xRn G0 MT (d + 1)) Q b 7 [some (.inr (.inr 54)), some (.inl fr), some (.inl to), some (.inl v), some (.inl i)] [] (xfill h9 54 fr i v) := by
    intro n
    induction n with
    | zero => intro i _ _ hm; exact absurd hm (Nat.not_lt_zero _)
    | succ n ih7 =>
      intro i hi0 hi1 hm7
      refine E_s 2 (i' := 9) (ls' := [some (.inr (.inr 54)), some (.inl fr), some (.inl to), some (.inl v), some (.inl i)]) (sk' := [.inl to, .inl i]) (h' := (xfill h9 54 fr i v)) rfl ?_
      refine E_b (x := (.if_icmp .ge 14, 16, [], [])) rfl rfl (fun c9 => ?_) (fun c9 => ?_)
      · rw [c_ge (by first | assumption | (refine ⟨?_, ?_⟩ <;> omega) | (simp only [xr] at *; omega)) (by first | assumption | (refine ⟨?_, ?_⟩ <;> omega) | (simp only [xr] at *; omega))] at c9
        simp only [decide_eq_true_eq, decide_eq_false_iff_not, Decidable.not_not] at c9
        show xEx G0 cdJ7_fill_fda19 none (xRn G0 MT (d + 1)) Q b 16 [some (.inr (.inr 54)), some (.inl fr), some (.inl to), some (.inl v), some (.inl i)] [] (xfill h9 54 fr i v)
        exact E_ret (x := (.return_, 0, [], [])) (v := none) rfl (trivial) (by obtain rfl : i = to := (by omega); exact hQ)
      · rw [c_ge (by first | assumption | (refine ⟨?_, ?_⟩ <;> omega) | (simp only [xr] at *; omega)) (by first | assumption | (refine ⟨?_, ?_⟩ <;> omega) | (simp only [xr] at *; omega))] at c9
        simp only [decide_eq_true_eq, decide_eq_false_iff_not, Decidable.not_not] at c9
        show xEx G0 cdJ7_fill_fda19 none (xRn G0 MT (d + 1)) Q b 10 [some (.inr (.inr 54)), some (.inl fr), some (.inl to), some (.inl v), some (.inl i)] [] (xfill h9 54 fr i v)
        refine E_s 3 (i' := 13) (ls' := [some (.inr (.inr 54)), some (.inl fr), some (.inl to), some (.inl v), some (.inl i)]) (sk' := [.inl v, .inl i, .inr (.inr 54)]) (h' := (xfill h9 54 fr i v)) rfl ?_
        refine E_sd (x := (.iastore, 0, [], [])) (ty := .int) (n := 4096) (y := v) rfl rfl rfl (by omega) (by omega) (trivial) ?_
        show xEx G0 cdJ7_fill_fda19 none (xRn G0 MT (d + 1)) Q b 14 [some (.inr (.inr 54)), some (.inl fr), some (.inl to), some (.inl v), some (.inl i)] [] (xup (xfill h9 54 fr i v) 54 i v)
        rw [xfill_s _ _ _ hi0]
        refine E_s 2 (i' := 7) (ls' := [some (.inr (.inr 54)), some (.inl fr), some (.inl to), some (.inl v), some (.inl (i + 1))]) (sk' := []) (h' := (xfill h9 54 fr (i + 1) v)) rfl ?_
        exact ih7 (i + 1) (by omega) (by omega) (by omega)
  have e0 := key7 _ fr (by omega) (by omega) (Nat.lt_succ_self _)
  rw [xfill_0] at e0
  exact e0
set_option maxHeartbeats 1000000 in
theorem c_fill_s_least (d b : Nat) (h : xH) (fr to v : Int) (h1 : 0 ≤ fr) (h2 : fr ≤ to) (h3 : to ≤ 4096) {Q : xO → xH → Prop} (hQ : Q (.inl none) (xfill h 45 fr to v)) : xRn G0 MT (d + 2) b 256 [.inr (.inr 45), .inl fr, .inl to, .inl v] h Q := by
  refine R_of (M := mJ7_fill_fda19) rfl (Nat.le_of_ble_eq_true rfl) ?_
  show xEx G0 cdJ7_fill_fda19 none (xRn G0 MT (d + 1)) Q b 0 [some (.inr (.inr 45)), some (.inl fr), some (.inl to), some (.inl v), none] [] h
  refine E_s 4 (i' := 4) (ls' := [some (.inr (.inr 45)), some (.inl fr), some (.inl to), some (.inl v), none]) (sk' := [.inl to, .inl fr, .inl 4096]) (h' := h) rfl ?_
  refine E_cv (x := (.invokestatic 13, 3, [(0, 254)], [])) (q := fun h9 => h9 = h) rfl rfl (Nat.le_of_ble_eq_true rfl) (c_rangeCheck d 0 h 4096 fr to h1 h2 h3 (by omega) ⟨rfl, rfl⟩) (fun h9 e9 => ?_)
  subst e9
  show xEx G0 cdJ7_fill_fda19 none (xRn G0 MT (d + 1)) Q b 5 [some (.inr (.inr 45)), some (.inl fr), some (.inl to), some (.inl v), none] [] h9
  refine E_s 2 (i' := 7) (ls' := [some (.inr (.inr 45)), some (.inl fr), some (.inl to), some (.inl v), some (.inl fr)]) (sk' := []) (h' := h9) rfl ?_
  have key7 : ∀ (n : Nat) (i : Int), (fr ≤ i) → (i ≤ to) → ((to - i).toNat) < n → xEx G0 cdJ7_fill_fda19 none (xRn G0 MT (d + 1)) Q b 7 [some (.inr (.inr 45)), some (.inl fr), some (.inl to), some (.inl v), some (.inl i)] [] (xfill h9 45 fr i v) := by
    intro n
    induction n with
    | zero => intro i _ _ hm; exact absurd hm (Nat.not_lt_zero _)
    | succ n ih7 =>
      intro i hi0 hi1 hm7
      refine E_s 2 (i' := 9) (ls' := [some (.inr (.inr 45)), some (.inl fr), some (.inl to), some (.inl v), some (.inl i)]) (sk' := [.inl to, .inl i]) (h' := (xfill h9 45 fr i v)) rfl ?_
      refine E_b (x := (.if_icmp .ge 14, 16, [], [])) rfl rfl (fun c9 => ?_) (fun c9 => ?_)
      · rw [c_ge (by first | assumption | (refine ⟨?_, ?_⟩ <;> omega) | (simp only [xr] at *; omega)) (by first | assumption | (refine ⟨?_, ?_⟩ <;> omega) | (simp only [xr] at *; omega))] at c9
        simp only [decide_eq_true_eq, decide_eq_false_iff_not, Decidable.not_not] at c9
        show xEx G0 cdJ7_fill_fda19 none (xRn G0 MT (d + 1)) Q b 16 [some (.inr (.inr 45)), some (.inl fr), some (.inl to), some (.inl v), some (.inl i)] [] (xfill h9 45 fr i v)
        exact E_ret (x := (.return_, 0, [], [])) (v := none) rfl (trivial) (by obtain rfl : i = to := (by omega); exact hQ)
      · rw [c_ge (by first | assumption | (refine ⟨?_, ?_⟩ <;> omega) | (simp only [xr] at *; omega)) (by first | assumption | (refine ⟨?_, ?_⟩ <;> omega) | (simp only [xr] at *; omega))] at c9
        simp only [decide_eq_true_eq, decide_eq_false_iff_not, Decidable.not_not] at c9
        show xEx G0 cdJ7_fill_fda19 none (xRn G0 MT (d + 1)) Q b 10 [some (.inr (.inr 45)), some (.inl fr), some (.inl to), some (.inl v), some (.inl i)] [] (xfill h9 45 fr i v)
        refine E_s 3 (i' := 13) (ls' := [some (.inr (.inr 45)), some (.inl fr), some (.inl to), some (.inl v), some (.inl i)]) (sk' := [.inl v, .inl i, .inr (.inr 45)]) (h' := (xfill h9 45 fr i v)) rfl ?_
        refine E_sd (x := (.iastore, 0, [], [])) (ty := .int) (n := 4096) (y := v) rfl rfl rfl (by omega) (by omega) (trivial) ?_
        show xEx G0 cdJ7_fill_fda19 none (xRn G0 MT (d + 1)) Q b 14 [some (.inr (.inr 45)), some (.inl fr), some (.inl to), some (.inl v), some (.inl i)] [] (xup (xfill h9 45 fr i v) 45 i v)
        rw [xfill_s _ _ _ hi0]
        refine E_s 2 (i' := 7) (ls' := [some (.inr (.inr 45)), some (.inl fr), some (.inl to), some (.inl v), some (.inl (i + 1))]) (sk' := []) (h' := (xfill h9 45 fr (i + 1) v)) rfl ?_
        exact ih7 (i + 1) (by omega) (by omega) (by omega)
  have e0 := key7 _ fr (by omega) (by omega) (Nat.lt_succ_self _)
  rw [xfill_0] at e0
  exact e0
set_option maxHeartbeats 1000000 in
theorem c_fill0_ge_ends (d b : Nat) (h : xH) (v : Int) {Q : xO → xH → Prop} (hQ : Q (.inl none) (xfill h 23 0 10 v)) : xRn G0 MT (d + 1) b 255 [.inr (.inr 23), .inl v] h Q := by
  refine R_of (M := mJ7_fill_53178) rfl (Nat.le_of_ble_eq_true rfl) ?_
  show xEx G0 cdJ7_fill_53178 none (xRn G0 MT d) Q b 0 [some (.inr (.inr 23)), some (.inl v), none, none] [] h
  refine E_s 5 (i' := 5) (ls' := [some (.inr (.inr 23)), some (.inl v), some (.inl 0), some (.inl 10)]) (sk' := []) (h' := h) rfl ?_
  have key5 : ∀ (n : Nat) (i : Int), (0 ≤ i) → (i ≤ 10) → ((10 - i).toNat) < n → xEx G0 cdJ7_fill_53178 none (xRn G0 MT d) Q b 5 [some (.inr (.inr 23)), some (.inl v), some (.inl i), some (.inl 10)] [] (xfill h 23 0 i v) := by
    intro n
    induction n with
    | zero => intro i _ _ hm; exact absurd hm (Nat.not_lt_zero _)
    | succ n ih5 =>
      intro i hi0 hi1 hm5
      refine E_s 2 (i' := 7) (ls' := [some (.inr (.inr 23)), some (.inl v), some (.inl i), some (.inl 10)]) (sk' := [.inl 10, .inl i]) (h' := (xfill h 23 0 i v)) rfl ?_
      refine E_b (x := (.if_icmp .ge 13, 14, [], [])) rfl rfl (fun c7 => ?_) (fun c7 => ?_)
      · rw [c_ge (by first | assumption | (refine ⟨?_, ?_⟩ <;> omega) | (simp only [xr] at *; omega)) (by first | assumption | (refine ⟨?_, ?_⟩ <;> omega) | (simp only [xr] at *; omega))] at c7
        simp only [decide_eq_true_eq, decide_eq_false_iff_not, Decidable.not_not] at c7
        show xEx G0 cdJ7_fill_53178 none (xRn G0 MT d) Q b 14 [some (.inr (.inr 23)), some (.inl v), some (.inl i), some (.inl 10)] [] (xfill h 23 0 i v)
        exact E_ret (x := (.return_, 0, [], [])) (v := none) rfl (trivial) (by obtain rfl : i = 10 := (by omega); exact hQ)
      · rw [c_ge (by first | assumption | (refine ⟨?_, ?_⟩ <;> omega) | (simp only [xr] at *; omega)) (by first | assumption | (refine ⟨?_, ?_⟩ <;> omega) | (simp only [xr] at *; omega))] at c7
        simp only [decide_eq_true_eq, decide_eq_false_iff_not, Decidable.not_not] at c7
        show xEx G0 cdJ7_fill_53178 none (xRn G0 MT d) Q b 8 [some (.inr (.inr 23)), some (.inl v), some (.inl i), some (.inl 10)] [] (xfill h 23 0 i v)
        refine E_s 3 (i' := 11) (ls' := [some (.inr (.inr 23)), some (.inl v), some (.inl i), some (.inl 10)]) (sk' := [.inl v, .inl i, .inr (.inr 23)]) (h' := (xfill h 23 0 i v)) rfl ?_
        refine E_sd (x := (.iastore, 0, [], [])) (ty := .int) (n := 10) (y := v) rfl rfl rfl (by omega) (by omega) (trivial) ?_
        show xEx G0 cdJ7_fill_53178 none (xRn G0 MT d) Q b 12 [some (.inr (.inr 23)), some (.inl v), some (.inl i), some (.inl 10)] [] (xup (xfill h 23 0 i v) 23 i v)
        rw [xfill_s _ _ _ hi0]
        refine E_s 2 (i' := 5) (ls' := [some (.inr (.inr 23)), some (.inl v), some (.inl (i + 1)), some (.inl 10)]) (sk' := []) (h' := (xfill h 23 0 (i + 1) v)) rfl ?_
        exact ih5 (i + 1) (by omega) (by omega) (by omega)
  have e0 := key5 _ 0 (by omega) (by omega) (Nat.lt_succ_self _)
  rw [xfill_0] at e0
  exact e0
set_option maxHeartbeats 1000000 in
theorem c_fill0_gt_ends (d b : Nat) (h : xH) (v : Int) {Q : xO → xH → Prop} (hQ : Q (.inl none) (xfill h 42 0 8 v)) : xRn G0 MT (d + 1) b 255 [.inr (.inr 42), .inl v] h Q := by
  refine R_of (M := mJ7_fill_53178) rfl (Nat.le_of_ble_eq_true rfl) ?_
  show xEx G0 cdJ7_fill_53178 none (xRn G0 MT d) Q b 0 [some (.inr (.inr 42)), some (.inl v), none, none] [] h
  refine E_s 5 (i' := 5) (ls' := [some (.inr (.inr 42)), some (.inl v), some (.inl 0), some (.inl 8)]) (sk' := []) (h' := h) rfl ?_
  have key5 : ∀ (n : Nat) (i : Int), (0 ≤ i) → (i ≤ 8) → ((8 - i).toNat) < n → xEx G0 cdJ7_fill_53178 none (xRn G0 MT d) Q b 5 [some (.inr (.inr 42)), some (.inl v), some (.inl i), some (.inl 8)] [] (xfill h 42 0 i v) := by
    intro n
    induction n with
    | zero => intro i _ _ hm; exact absurd hm (Nat.not_lt_zero _)
    | succ n ih5 =>
      intro i hi0 hi1 hm5
      refine E_s 2 (i' := 7) (ls' := [some (.inr (.inr 42)), some (.inl v), some (.inl i), some (.inl 8)]) (sk' := [.inl 8, .inl i]) (h' := (xfill h 42 0 i v)) rfl ?_
      refine E_b (x := (.if_icmp .ge 13, 14, [], [])) rfl rfl (fun c7 => ?_) (fun c7 => ?_)
      · rw [c_ge (by first | assumption | (refine ⟨?_, ?_⟩ <;> omega) | (simp only [xr] at *; omega)) (by first | assumption | (refine ⟨?_, ?_⟩ <;> omega) | (simp only [xr] at *; omega))] at c7
        simp only [decide_eq_true_eq, decide_eq_false_iff_not, Decidable.not_not] at c7
        show xEx G0 cdJ7_fill_53178 none (xRn G0 MT d) Q b 14 [some (.inr (.inr 42)), some (.inl v), some (.inl i), some (.inl 8)] [] (xfill h 42 0 i v)
        exact E_ret (x := (.return_, 0, [], [])) (v := none) rfl (trivial) (by obtain rfl : i = 8 := (by omega); exact hQ)
      · rw [c_ge (by first | assumption | (refine ⟨?_, ?_⟩ <;> omega) | (simp only [xr] at *; omega)) (by first | assumption | (refine ⟨?_, ?_⟩ <;> omega) | (simp only [xr] at *; omega))] at c7
        simp only [decide_eq_true_eq, decide_eq_false_iff_not, Decidable.not_not] at c7
        show xEx G0 cdJ7_fill_53178 none (xRn G0 MT d) Q b 8 [some (.inr (.inr 42)), some (.inl v), some (.inl i), some (.inl 8)] [] (xfill h 42 0 i v)
        refine E_s 3 (i' := 11) (ls' := [some (.inr (.inr 42)), some (.inl v), some (.inl i), some (.inl 8)]) (sk' := [.inl v, .inl i, .inr (.inr 42)]) (h' := (xfill h 42 0 i v)) rfl ?_
        refine E_sd (x := (.iastore, 0, [], [])) (ty := .int) (n := 8) (y := v) rfl rfl rfl (by omega) (by omega) (trivial) ?_
        show xEx G0 cdJ7_fill_53178 none (xRn G0 MT d) Q b 12 [some (.inr (.inr 42)), some (.inl v), some (.inl i), some (.inl 8)] [] (xup (xfill h 42 0 i v) 42 i v)
        rw [xfill_s _ _ _ hi0]
        refine E_s 2 (i' := 5) (ls' := [some (.inr (.inr 42)), some (.inl v), some (.inl (i + 1)), some (.inl 8)]) (sk' := []) (h' := (xfill h 42 0 (i + 1) v)) rfl ?_
        exact ih5 (i + 1) (by omega) (by omega) (by omega)
  have e0 := key5 _ 0 (by omega) (by omega) (Nat.lt_succ_self _)
  rw [xfill_0] at e0
  exact e0
set_option maxHeartbeats 1000000 in
theorem c_fill0_pr_as (d b : Nat) (h : xH) (v : Int) {Q : xO → xH → Prop} (hQ : Q (.inl none) (xfill h 57 0 15 v)) : xRn G0 MT (d + 1) b 255 [.inr (.inr 57), .inl v] h Q := by
  refine R_of (M := mJ7_fill_53178) rfl (Nat.le_of_ble_eq_true rfl) ?_
  show xEx G0 cdJ7_fill_53178 none (xRn G0 MT d) Q b 0 [some (.inr (.inr 57)), some (.inl v), none, none] [] h
  refine E_s 5 (i' := 5) (ls' := [some (.inr (.inr 57)), some (.inl v), some (.inl 0), some (.inl 15)]) (sk' := []) (h' := h) rfl ?_
  have key5 : ∀ (n : Nat) (i : Int), (0 ≤ i) → (i ≤ 15) → ((15 - i).toNat) < n → xEx G0 cdJ7_fill_53178 none (xRn G0 MT d) Q b 5 [some (.inr (.inr 57)), some (.inl v), some (.inl i), some (.inl 15)] [] (xfill h 57 0 i v) := by
    intro n
    induction n with
    | zero => intro i _ _ hm; exact absurd hm (Nat.not_lt_zero _)
    | succ n ih5 =>
      intro i hi0 hi1 hm5
      refine E_s 2 (i' := 7) (ls' := [some (.inr (.inr 57)), some (.inl v), some (.inl i), some (.inl 15)]) (sk' := [.inl 15, .inl i]) (h' := (xfill h 57 0 i v)) rfl ?_
      refine E_b (x := (.if_icmp .ge 13, 14, [], [])) rfl rfl (fun c7 => ?_) (fun c7 => ?_)
      · rw [c_ge (by first | assumption | (refine ⟨?_, ?_⟩ <;> omega) | (simp only [xr] at *; omega)) (by first | assumption | (refine ⟨?_, ?_⟩ <;> omega) | (simp only [xr] at *; omega))] at c7
        simp only [decide_eq_true_eq, decide_eq_false_iff_not, Decidable.not_not] at c7
        show xEx G0 cdJ7_fill_53178 none (xRn G0 MT d) Q b 14 [some (.inr (.inr 57)), some (.inl v), some (.inl i), some (.inl 15)] [] (xfill h 57 0 i v)
        exact E_ret (x := (.return_, 0, [], [])) (v := none) rfl (trivial) (by obtain rfl : i = 15 := (by omega); exact hQ)
      · rw [c_ge (by first | assumption | (refine ⟨?_, ?_⟩ <;> omega) | (simp only [xr] at *; omega)) (by first | assumption | (refine ⟨?_, ?_⟩ <;> omega) | (simp only [xr] at *; omega))] at c7
        simp only [decide_eq_true_eq, decide_eq_false_iff_not, Decidable.not_not] at c7
        show xEx G0 cdJ7_fill_53178 none (xRn G0 MT d) Q b 8 [some (.inr (.inr 57)), some (.inl v), some (.inl i), some (.inl 15)] [] (xfill h 57 0 i v)
        refine E_s 3 (i' := 11) (ls' := [some (.inr (.inr 57)), some (.inl v), some (.inl i), some (.inl 15)]) (sk' := [.inl v, .inl i, .inr (.inr 57)]) (h' := (xfill h 57 0 i v)) rfl ?_
        refine E_sd (x := (.iastore, 0, [], [])) (ty := .int) (n := 15) (y := v) rfl rfl rfl (by omega) (by omega) (trivial) ?_
        show xEx G0 cdJ7_fill_53178 none (xRn G0 MT d) Q b 12 [some (.inr (.inr 57)), some (.inl v), some (.inl i), some (.inl 15)] [] (xup (xfill h 57 0 i v) 57 i v)
        rw [xfill_s _ _ _ hi0]
        refine E_s 2 (i' := 5) (ls' := [some (.inr (.inr 57)), some (.inl v), some (.inl (i + 1)), some (.inl 15)]) (sk' := []) (h' := (xfill h 57 0 (i + 1) v)) rfl ?_
        exact ih5 (i + 1) (by omega) (by omega) (by omega)
  have e0 := key5 _ 0 (by omega) (by omega) (Nat.lt_succ_self _)
  rw [xfill_0] at e0
  exact e0
set_option maxHeartbeats 1000000 in
theorem c_fill0_pr_le (d b : Nat) (h : xH) (v : Int) {Q : xO → xH → Prop} (hQ : Q (.inl none) (xfill h 58 0 15 v)) : xRn G0 MT (d + 1) b 255 [.inr (.inr 58), .inl v] h Q := by
  refine R_of (M := mJ7_fill_53178) rfl (Nat.le_of_ble_eq_true rfl) ?_
  show xEx G0 cdJ7_fill_53178 none (xRn G0 MT d) Q b 0 [some (.inr (.inr 58)), some (.inl v), none, none] [] h
  refine E_s 5 (i' := 5) (ls' := [some (.inr (.inr 58)), some (.inl v), some (.inl 0), some (.inl 15)]) (sk' := []) (h' := h) rfl ?_
  have key5 : ∀ (n : Nat) (i : Int), (0 ≤ i) → (i ≤ 15) → ((15 - i).toNat) < n → xEx G0 cdJ7_fill_53178 none (xRn G0 MT d) Q b 5 [some (.inr (.inr 58)), some (.inl v), some (.inl i), some (.inl 15)] [] (xfill h 58 0 i v) := by
    intro n
    induction n with
    | zero => intro i _ _ hm; exact absurd hm (Nat.not_lt_zero _)
    | succ n ih5 =>
      intro i hi0 hi1 hm5
      refine E_s 2 (i' := 7) (ls' := [some (.inr (.inr 58)), some (.inl v), some (.inl i), some (.inl 15)]) (sk' := [.inl 15, .inl i]) (h' := (xfill h 58 0 i v)) rfl ?_
      refine E_b (x := (.if_icmp .ge 13, 14, [], [])) rfl rfl (fun c7 => ?_) (fun c7 => ?_)
      · rw [c_ge (by first | assumption | (refine ⟨?_, ?_⟩ <;> omega) | (simp only [xr] at *; omega)) (by first | assumption | (refine ⟨?_, ?_⟩ <;> omega) | (simp only [xr] at *; omega))] at c7
        simp only [decide_eq_true_eq, decide_eq_false_iff_not, Decidable.not_not] at c7
        show xEx G0 cdJ7_fill_53178 none (xRn G0 MT d) Q b 14 [some (.inr (.inr 58)), some (.inl v), some (.inl i), some (.inl 15)] [] (xfill h 58 0 i v)
        exact E_ret (x := (.return_, 0, [], [])) (v := none) rfl (trivial) (by obtain rfl : i = 15 := (by omega); exact hQ)
      · rw [c_ge (by first | assumption | (refine ⟨?_, ?_⟩ <;> omega) | (simp only [xr] at *; omega)) (by first | assumption | (refine ⟨?_, ?_⟩ <;> omega) | (simp only [xr] at *; omega))] at c7
        simp only [decide_eq_true_eq, decide_eq_false_iff_not, Decidable.not_not] at c7
        show xEx G0 cdJ7_fill_53178 none (xRn G0 MT d) Q b 8 [some (.inr (.inr 58)), some (.inl v), some (.inl i), some (.inl 15)] [] (xfill h 58 0 i v)
        refine E_s 3 (i' := 11) (ls' := [some (.inr (.inr 58)), some (.inl v), some (.inl i), some (.inl 15)]) (sk' := [.inl v, .inl i, .inr (.inr 58)]) (h' := (xfill h 58 0 i v)) rfl ?_
        refine E_sd (x := (.iastore, 0, [], [])) (ty := .int) (n := 15) (y := v) rfl rfl rfl (by omega) (by omega) (trivial) ?_
        show xEx G0 cdJ7_fill_53178 none (xRn G0 MT d) Q b 12 [some (.inr (.inr 58)), some (.inl v), some (.inl i), some (.inl 15)] [] (xup (xfill h 58 0 i v) 58 i v)
        rw [xfill_s _ _ _ hi0]
        refine E_s 2 (i' := 5) (ls' := [some (.inr (.inr 58)), some (.inl v), some (.inl (i + 1)), some (.inl 15)]) (sk' := []) (h' := (xfill h 58 0 (i + 1) v)) rfl ?_
        exact ih5 (i + 1) (by omega) (by omega) (by omega)
  have e0 := key5 _ 0 (by omega) (by omega) (Nat.lt_succ_self _)
  rw [xfill_0] at e0
  exact e0
set_option maxHeartbeats 1000000 in
theorem c_fill0_ri_as (d b : Nat) (h : xH) (v : Int) {Q : xO → xH → Prop} (hQ : Q (.inl none) (xfill h 60 0 15 v)) : xRn G0 MT (d + 1) b 255 [.inr (.inr 60), .inl v] h Q := by
  refine R_of (M := mJ7_fill_53178) rfl (Nat.le_of_ble_eq_true rfl) ?_
  show xEx G0 cdJ7_fill_53178 none (xRn G0 MT d) Q b 0 [some (.inr (.inr 60)), some (.inl v), none, none] [] h
  refine E_s 5 (i' := 5) (ls' := [some (.inr (.inr 60)), some (.inl v), some (.inl 0), some (.inl 15)]) (sk' := []) (h' := h) rfl ?_
  have key5 : ∀ (n : Nat) (i : Int), (0 ≤ i) → (i ≤ 15) → ((15 - i).toNat) < n → xEx G0 cdJ7_fill_53178 none (xRn G0 MT d) Q b 5 [some (.inr (.inr 60)), some (.inl v), some (.inl i), some (.inl 15)] [] (xfill h 60 0 i v) := by
    intro n
    induction n with
    | zero => intro i _ _ hm; exact absurd hm (Nat.not_lt_zero _)
    | succ n ih5 =>
      intro i hi0 hi1 hm5
      refine E_s 2 (i' := 7) (ls' := [some (.inr (.inr 60)), some (.inl v), some (.inl i), some (.inl 15)]) (sk' := [.inl 15, .inl i]) (h' := (xfill h 60 0 i v)) rfl ?_
      refine E_b (x := (.if_icmp .ge 13, 14, [], [])) rfl rfl (fun c7 => ?_) (fun c7 => ?_)
      · rw [c_ge (by first | assumption | (refine ⟨?_, ?_⟩ <;> omega) | (simp only [xr] at *; omega)) (by first | assumption | (refine ⟨?_, ?_⟩ <;> omega) | (simp only [xr] at *; omega))] at c7
        simp only [decide_eq_true_eq, decide_eq_false_iff_not, Decidable.not_not] at c7
        show xEx G0 cdJ7_fill_53178 none (xRn G0 MT d) Q b 14 [some (.inr (.inr 60)), some (.inl v), some (.inl i), some (.inl 15)] [] (xfill h 60 0 i v)
        exact E_ret (x := (.return_, 0, [], [])) (v := none) rfl (trivial) (by obtain rfl : i = 15 := (by omega); exact hQ)
      · rw [c_ge (by first | assumption | (refine ⟨?_, ?_⟩ <;> omega) | (simp only [xr] at *; omega)) (by first | assumption | (refine ⟨?_, ?_⟩ <;> omega) | (simp only [xr] at *; omega))] at c7
        simp only [decide_eq_true_eq, decide_eq_false_iff_not, Decidable.not_not] at c7
        show xEx G0 cdJ7_fill_53178 none (xRn G0 MT d) Q b 8 [some (.inr (.inr 60)), some (.inl v), some (.inl i), some (.inl 15)] [] (xfill h 60 0 i v)
        refine E_s 3 (i' := 11) (ls' := [some (.inr (.inr 60)), some (.inl v), some (.inl i), some (.inl 15)]) (sk' := [.inl v, .inl i, .inr (.inr 60)]) (h' := (xfill h 60 0 i v)) rfl ?_
        refine E_sd (x := (.iastore, 0, [], [])) (ty := .int) (n := 15) (y := v) rfl rfl rfl (by omega) (by omega) (trivial) ?_
        show xEx G0 cdJ7_fill_53178 none (xRn G0 MT d) Q b 12 [some (.inr (.inr 60)), some (.inl v), some (.inl i), some (.inl 15)] [] (xup (xfill h 60 0 i v) 60 i v)
        rw [xfill_s _ _ _ hi0]
        refine E_s 2 (i' := 5) (ls' := [some (.inr (.inr 60)), some (.inl v), some (.inl (i + 1)), some (.inl 15)]) (sk' := []) (h' := (xfill h 60 0 (i + 1) v)) rfl ?_
        exact ih5 (i + 1) (by omega) (by omega) (by omega)
  have e0 := key5 _ 0 (by omega) (by omega) (Nat.lt_succ_self _)
  rw [xfill_0] at e0
  exact e0
set_option maxHeartbeats 1000000 in
theorem c_fill0_ri_le (d b : Nat) (h : xH) (v : Int) {Q : xO → xH → Prop} (hQ : Q (.inl none) (xfill h 61 0 15 v)) : xRn G0 MT (d + 1) b 255 [.inr (.inr 61), .inl v] h Q := by
  refine R_of (M := mJ7_fill_53178) rfl (Nat.le_of_ble_eq_true rfl) ?_
  show xEx G0 cdJ7_fill_53178 none (xRn G0 MT d) Q b 0 [some (.inr (.inr 61)), some (.inl v), none, none] [] h
  refine E_s 5 (i' := 5) (ls' := [some (.inr (.inr 61)), some (.inl v), some (.inl 0), some (.inl 15)]) (sk' := []) (h' := h) rfl ?_
  have key5 : ∀ (n : Nat) (i : Int), (0 ≤ i) → (i ≤ 15) → ((15 - i).toNat) < n → xEx G0 cdJ7_fill_53178 none (xRn G0 MT d) Q b 5 [some (.inr (.inr 61)), some (.inl v), some (.inl i), some (.inl 15)] [] (xfill h 61 0 i v) := by
    intro n
    induction n with
    | zero => intro i _ _ hm; exact absurd hm (Nat.not_lt_zero _)
    | succ n ih5 =>
      intro i hi0 hi1 hm5
      refine E_s 2 (i' := 7) (ls' := [some (.inr (.inr 61)), some (.inl v), some (.inl i), some (.inl 15)]) (sk' := [.inl 15, .inl i]) (h' := (xfill h 61 0 i v)) rfl ?_
      refine E_b (x := (.if_icmp .ge 13, 14, [], [])) rfl rfl (fun c7 => ?_) (fun c7 => ?_)
      · rw [c_ge (by first | assumption | (refine ⟨?_, ?_⟩ <;> omega) | (simp only [xr] at *; omega)) (by first | assumption | (refine ⟨?_, ?_⟩ <;> omega) | (simp only [xr] at *; omega))] at c7
        simp only [decide_eq_true_eq, decide_eq_false_iff_not, Decidable.not_not] at c7
        show xEx G0 cdJ7_fill_53178 none (xRn G0 MT d) Q b 14 [some (.inr (.inr 61)), some (.inl v), some (.inl i), some (.inl 15)] [] (xfill h 61 0 i v)
        exact E_ret (x := (.return_, 0, [], [])) (v := none) rfl (trivial) (by obtain rfl : i = 15 := (by omega); exact hQ)
      · rw [c_ge (by first | assumption | (refine ⟨?_, ?_⟩ <;> omega) | (simp only [xr] at *; omega)) (by first | assumption | (refine ⟨?_, ?_⟩ <;> omega) | (simp only [xr] at *; omega))] at c7
        simp only [decide_eq_true_eq, decide_eq_false_iff_not, Decidable.not_not] at c7
        show xEx G0 cdJ7_fill_53178 none (xRn G0 MT d) Q b 8 [some (.inr (.inr 61)), some (.inl v), some (.inl i), some (.inl 15)] [] (xfill h 61 0 i v)
        refine E_s 3 (i' := 11) (ls' := [some (.inr (.inr 61)), some (.inl v), some (.inl i), some (.inl 15)]) (sk' := [.inl v, .inl i, .inr (.inr 61)]) (h' := (xfill h 61 0 i v)) rfl ?_
        refine E_sd (x := (.iastore, 0, [], [])) (ty := .int) (n := 15) (y := v) rfl rfl rfl (by omega) (by omega) (trivial) ?_
        show xEx G0 cdJ7_fill_53178 none (xRn G0 MT d) Q b 12 [some (.inr (.inr 61)), some (.inl v), some (.inl i), some (.inl 15)] [] (xup (xfill h 61 0 i v) 61 i v)
        rw [xfill_s _ _ _ hi0]
        refine E_s 2 (i' := 5) (ls' := [some (.inr (.inr 61)), some (.inl v), some (.inl (i + 1)), some (.inl 15)]) (sk' := []) (h' := (xfill h 61 0 (i + 1) v)) rfl ?_
        exact ih5 (i + 1) (by omega) (by omega) (by omega)
  have e0 := key5 _ 0 (by omega) (by omega) (Nat.lt_succ_self _)
  rw [xfill_0] at e0
  exact e0
