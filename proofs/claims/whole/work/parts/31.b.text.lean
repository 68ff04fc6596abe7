theorem xi2b_id {v : Int} (h0 : 0 ≤ v) (h1 : v ≤ 127) : xi2b v = v := by
  have key : ∀ n : Fin 128, xi2b ((n.val : Nat) : Int) = ((n.val : Nat) : Int) := by decide +kernel
  have := key ⟨v.toNat, by omega⟩
  rw [show v = ((v.toNat : Nat) : Int) by omega]
  exact this
theorem xi2c_id {v : Int} (h0 : 0 ≤ v) (h1 : v ≤ 127) : xi2c v = v := by
  have key : ∀ n : Fin 128, xi2c ((n.val : Nat) : Int) = ((n.val : Nat) : Int) := by decide +kernel
  have := key ⟨v.toNat, by omega⟩
  rw [show v = ((v.toNat : Nat) : Int) by omega]
  exact this
/-- one more byte of TEXT -/
def tadd (h : xH) (v : Int) : xH := xup (xup h 65 (h 64 1) v) 64 1 (h 64 1 + 1)
def padd (h : xH) (v : Int) : xH := xup (xup h 96 (h 66 45) v) 66 45 (h 66 45 + 1)
set_option maxHeartbeats 1000000 in
theorem c_tadd (d b : Nat) (h : xH) (v : Int) (hv : 0 ≤ v ∧ v ≤ 127) (hl : 0 ≤ h 64 1 ∧ h 64 1 < 1024) {Q : xO → xH → Prop} (hQ : Q (.inl none) (tadd h v)) : xRn G0 MT (d + 1) b 94 [.inr (.inr 64), .inl v] h Q := by
  refine R_of (M := mX10_add) rfl (Nat.le_of_ble_eq_true rfl) ?_
  show xEx G0 cdX10_add none (xRn G0 MT d) Q b 0 [some (.inr (.inr 64)), some (.inl v)] [] h
  refine E_s 3 (i' := 3) (ls' := [some (.inr (.inr 64)), some (.inl v)]) (sk' := [.inl 1024, .inl (h 64 1)]) (h' := h) rfl ?_
  refine E_b (x := (.if_icmp .ge 24, 17, [], [])) rfl rfl (fun c3 => ?_) (fun c3 => ?_)
  · rw [c_ge (by first | assumption | (refine ⟨?_, ?_⟩ <;> omega) | (simp only [xr] at *; omega)) (by first | assumption | (refine ⟨?_, ?_⟩ <;> omega) | (simp only [xr] at *; omega))] at c3
    simp only [decide_eq_true_eq, decide_eq_false_iff_not, Decidable.not_not] at c3
    show xEx G0 cdX10_add none (xRn G0 MT d) Q b 17 [some (.inr (.inr 64)), some (.inl v)] [] h
    exact E_ret (x := (.return_, 0, [], [])) (v := none) rfl (trivial) (by omega)
  · rw [c_ge (by first | assumption | (refine ⟨?_, ?_⟩ <;> omega) | (simp only [xr] at *; omega)) (by first | assumption | (refine ⟨?_, ?_⟩ <;> omega) | (simp only [xr] at *; omega))] at c3
    simp only [decide_eq_true_eq, decide_eq_false_iff_not, Decidable.not_not] at c3
    show xEx G0 cdX10_add none (xRn G0 MT d) Q b 4 [some (.inr (.inr 64)), some (.inl v)] [] h
    refine E_s 5 (i' := 9) (ls' := [some (.inr (.inr 64)), some (.inl v)]) (sk' := [.inl v, .inl (h 64 1), .inr (.inr 65)]) (h' := h) rfl ?_
    have ev := xi2b_id hv.1 hv.2
    refine E_s 1 (i' := 10) (ls' := [some (.inr (.inr 64)), some (.inl v)]) (sk' := [.inl (xi2b v), .inl (h 64 1), .inr (.inr 65)]) (h' := h) rfl ?_
    refine E_sd (x := (.bastore, 0, [], [])) (ty := .byte) (n := 1024) (y := (xi2b v)) rfl rfl rfl (by omega) (by omega) (by rw [ev]; exact ⟨by omega, by omega⟩) ?_
    show xEx G0 cdX10_add none (xRn G0 MT d) Q b 11 [some (.inr (.inr 64)), some (.inl v)] [] (xup h 65 (h 64 1) (xi2b v))
    refine E_s 6 (i' := 17) (ls' := [some (.inr (.inr 64)), some (.inl v)]) (sk' := []) (h' := (xup (xup h 65 (h 64 1) (xi2b v)) 64 1 ((h 64 1) + 1))) rfl ?_
    exact E_ret (x := (.return_, 0, [], [])) (v := none) rfl (trivial) (by
      have r9 := hQ
      unfold tadd at r9
      rw [← ev] at r9
      exact r9)
set_option maxHeartbeats 1000000 in
theorem m_puts (d b : Nat) (h : xH) (v : Int) (hv : 0 ≤ v ∧ v ≤ 127) (hl : 0 ≤ h 66 45 ∧ h 66 45 < 1024) {Q : xO → xH → Prop} (hQ : Q (.inl none) (padd h v)) : xRn G0 MT (d + 1) b 205 [.inr (.inr 66), .inl v] h Q := by
  refine R_of (M := mX12_puts) rfl (Nat.le_of_ble_eq_true rfl) ?_
  show xEx G0 cdX12_puts none (xRn G0 MT d) Q b 0 [some (.inr (.inr 66)), some (.inl v)] [] h
  refine E_s 5 (i' := 5) (ls' := [some (.inr (.inr 66)), some (.inl v)]) (sk' := [.inl v, .inl (h 66 45), .inr (.inr 96)]) (h' := h) rfl ?_
  have ev := xi2b_id hv.1 hv.2
  refine E_s 1 (i' := 6) (ls' := [some (.inr (.inr 66)), some (.inl v)]) (sk' := [.inl (xi2b v), .inl (h 66 45), .inr (.inr 96)]) (h' := h) rfl ?_
  refine E_sd (x := (.bastore, 0, [], [])) (ty := .byte) (n := 4000) (y := (xi2b v)) rfl rfl rfl (by omega) (by omega) (by rw [ev]; exact ⟨by omega, by omega⟩) ?_
  show xEx G0 cdX12_puts none (xRn G0 MT d) Q b 7 [some (.inr (.inr 66)), some (.inl v)] [] (xup h 96 (h 66 45) (xi2b v))
  refine E_s 6 (i' := 13) (ls' := [some (.inr (.inr 66)), some (.inl v)]) (sk' := []) (h' := (xup (xup h 96 (h 66 45) (xi2b v)) 66 45 ((h 66 45) + 1))) rfl ?_
  exact E_ret (x := (.return_, 0, [], [])) (v := none) rfl (trivial) (by
    have r9 := hQ
    unfold padd at r9
    rw [← ev] at r9
    exact r9)
/-- bytes, one after another -/
def tadds (h : xH) : List Int → xH
  | [] => h
  | v :: t => tadds (tadd h v) t
def padds (h : xH) : List Int → xH
  | [] => h
  | v :: t => padds (padd h v) t
theorem tadds_a (h : xH) : ∀ s t : List Int, tadds h (s ++ t) = tadds (tadds h s) t := by
  intro s
  induction s generalizing h with
  | nil => intro t; rfl
  | cons v s ih => intro t; exact ih (tadd h v) t
theorem padds_a (h : xH) : ∀ s t : List Int, padds h (s ++ t) = padds (padds h s) t := by
  intro s
  induction s generalizing h with
  | nil => intro t; rfl
  | cons v s ih => intro t; exact ih (padd h v) t
theorem tadd_l {h : xH} {v : Int} : tadd h v 64 1 = h 64 1 + 1 := xup_s
theorem padd_l {h : xH} {v : Int} : padd h v 66 45 = h 66 45 + 1 := xup_s
/-- a number of at most two digits -/
def dgt (z : Int) : List Int := (if z < 0 then [45] else []) ++ (if 9 < (if z < 0 then -z else z) then [48 + (if z < 0 then -z else z) / 10] else []) ++ [48 + (if z < 0 then -z else z) % 10]
theorem xdiv10 : ∀ t : Fin 100, xdiv ((t.val : Nat) : Int) 10 = ((t.val / 10 : Nat) : Int) ∧ xrem ((t.val : Nat) : Int) 10 = ((t.val % 10 : Nat) : Int) := by decide +kernel
theorem xdiv_10 {t : Int} (h0 : 0 ≤ t) (h1 : t ≤ 99) : xdiv t 10 = t / 10 ∧ xrem t 10 = t % 10 := by
  have this : xdiv ((t.toNat : Nat) : Int) 10 = ((t.toNat / 10 : Nat) : Int) ∧ xrem ((t.toNat : Nat) : Int) 10 = ((t.toNat % 10 : Nat) : Int) := xdiv10 ⟨t.toNat, by omega⟩
  have e : t = ((t.toNat : Nat) : Int) := by omega
  rw [e]
  exact ⟨by rw [this.1]; omega, by rw [this.2]; omega⟩
set_option maxHeartbeats 1000000 in
theorem c_tnum (d b : Nat) (h : xH) (z : Int) (hz : -99 ≤ z ∧ z ≤ 99) (hl : 0 ≤ h 64 1 ∧ h 64 1 + 3 ≤ 1024) {Q : xO → xH → Prop} (hQ : Q (.inl none) (tadds h (dgt z))) : xRn G0 MT (d + 2) b 96 [.inr (.inr 64), .inl z] h Q := by
  refine R_of (M := mX10_addNumber) rfl (Nat.le_of_ble_eq_true rfl) ?_
  show xEx G0 cdX10_addNumber none (xRn G0 MT (d + 1)) Q b 0 [some (.inr (.inr 64)), some (.inl z), none] [] h
  refine E_s 1 (i' := 1) (ls' := [some (.inr (.inr 64)), some (.inl z), none]) (sk' := [.inl z]) (h' := h) rfl ?_
  refine E_b (x := (.ifCond .ge 8, 5, [], [])) rfl rfl (fun c1 => ?_) (fun c1 => ?_)
  · rw [c_ge (by first | assumption | (refine ⟨?_, ?_⟩ <;> omega) | (simp only [xr] at *; omega)) (by first | assumption | (refine ⟨?_, ?_⟩ <;> omega) | (simp only [xr] at *; omega))] at c1
    simp only [decide_eq_true_eq, decide_eq_false_iff_not, Decidable.not_not] at c1
    show xEx G0 cdX10_addNumber none (xRn G0 MT (d + 1)) Q b 5 [some (.inr (.inr 64)), some (.inl z), none] [] h
    refine E_s 3 (i' := 8) (ls' := [some (.inr (.inr 64)), some (.inl z), some (.inl z)]) (sk' := [.inl z]) (h' := h) rfl ?_
    refine E_b (x := (.ifCond .ge 9, 12, [], [])) rfl rfl (fun c8 => ?_) (fun c8 => ?_)
    · rw [c_ge (by first | assumption | (refine ⟨?_, ?_⟩ <;> omega) | (simp only [xr] at *; omega)) (by first | assumption | (refine ⟨?_, ?_⟩ <;> omega) | (simp only [xr] at *; omega))] at c8
      simp only [decide_eq_true_eq, decide_eq_false_iff_not, Decidable.not_not] at c8
      show xEx G0 cdX10_addNumber none (xRn G0 MT (d + 1)) Q b 12 [some (.inr (.inr 64)), some (.inl z), some (.inl z)] [] h
      refine E_s 2 (i' := 14) (ls' := [some (.inr (.inr 64)), some (.inl z), some (.inl z)]) (sk' := [.inl 9, .inl z]) (h' := h) rfl ?_
      refine E_b (x := (.if_icmp .le 15, 23, [], [])) rfl rfl (fun c14 => ?_) (fun c14 => ?_)
      · rw [c_le (by first | assumption | (refine ⟨?_, ?_⟩ <;> omega) | (simp only [xr] at *; omega)) (by first | assumption | (refine ⟨?_, ?_⟩ <;> omega) | (simp only [xr] at *; omega))] at c14
        simp only [decide_eq_true_eq, decide_eq_false_iff_not, Decidable.not_not] at c14
        show xEx G0 cdX10_addNumber none (xRn G0 MT (d + 1)) Q b 23 [some (.inr (.inr 64)), some (.inl z), some (.inl z)] [] h
        refine E_s 4 (i' := 27) (ls' := [some (.inr (.inr 64)), some (.inl z), some (.inl z)]) (sk' := [.inl 10, .inl z, .inl 48, .inr (.inr 64)]) (h' := h) rfl ?_
        refine E_rem (x := (.irem, 0, [], [])) rfl rfl (by decide) ?_
        show xEx G0 cdX10_addNumber none (xRn G0 MT (d + 1)) Q b 28 [some (.inr (.inr 64)), some (.inl z), some (.inl z)] [.inl (xrem z 10), .inl 48, .inr (.inr 64)] h
        refine E_s 2 (i' := 30) (ls' := [some (.inr (.inr 64)), some (.inl z), some (.inl z)]) (sk' := [.inl (xi2c (48 + (xrem z 10))), .inr (.inr 64)]) (h' := h) rfl ?_
        refine E_ti (y := (48 + z % 10)) (by rw [(xdiv_10 (t := z) (by omega) (by omega)).2, xi2c_id (by omega) (by omega)]) ?_
        skip
        refine E_cv (x := (.invokevirtual 26, 1, [(8, 94)], [0])) (q := fun h9 => h9 = (tadd h (48 + z % 10))) rfl rfl (Nat.le_of_ble_eq_true rfl) (c_tadd d 0 h (48 + z % 10) ⟨by omega, by omega⟩ (by omega) ⟨rfl, rfl⟩) (fun h9 e9 => ?_)
        subst e9
        show xEx G0 cdX10_addNumber none (xRn G0 MT (d + 1)) Q b 31 [some (.inr (.inr 64)), some (.inl z), some (.inl z)] [] (tadd h (48 + z % 10))
        exact E_ret (x := (.return_, 0, [], [])) (v := none) rfl (trivial) (by
          have r9 := hQ
          unfold dgt at r9
          first
          | (exfalso; omega)
          | (rw [if_pos (show z < 0 by omega), if_pos (show z < 0 by omega), if_pos (by omega)] at r9; exact r9)
          | (rw [if_pos (show z < 0 by omega), if_pos (show z < 0 by omega), if_neg (by omega)] at r9; exact r9)
          | (rw [if_neg (show ¬ z < 0 by omega), if_neg (show ¬ z < 0 by omega), if_pos (by omega)] at r9; exact r9)
          | (rw [if_neg (show ¬ z < 0 by omega), if_neg (show ¬ z < 0 by omega), if_neg (by omega)] at r9; exact r9))
      · rw [c_le (by first | assumption | (refine ⟨?_, ?_⟩ <;> omega) | (simp only [xr] at *; omega)) (by first | assumption | (refine ⟨?_, ?_⟩ <;> omega) | (simp only [xr] at *; omega))] at c14
        simp only [decide_eq_true_eq, decide_eq_false_iff_not, Decidable.not_not] at c14
        show xEx G0 cdX10_addNumber none (xRn G0 MT (d + 1)) Q b 15 [some (.inr (.inr 64)), some (.inl z), some (.inl z)] [] h
        refine E_s 4 (i' := 19) (ls' := [some (.inr (.inr 64)), some (.inl z), some (.inl z)]) (sk' := [.inl 10, .inl z, .inl 48, .inr (.inr 64)]) (h' := h) rfl ?_
        refine E_div (x := (.idiv, 0, [], [])) rfl rfl (by decide) ?_
        show xEx G0 cdX10_addNumber none (xRn G0 MT (d + 1)) Q b 20 [some (.inr (.inr 64)), some (.inl z), some (.inl z)] [.inl (xdiv z 10), .inl 48, .inr (.inr 64)] h
        refine E_s 2 (i' := 22) (ls' := [some (.inr (.inr 64)), some (.inl z), some (.inl z)]) (sk' := [.inl (xi2c (48 + (xdiv z 10))), .inr (.inr 64)]) (h' := h) rfl ?_
        refine E_ti (y := (48 + z / 10)) (by rw [(xdiv_10 (t := z) (by omega) (by omega)).1, xi2c_id (by omega) (by omega)]) ?_
        skip
        refine E_cv (x := (.invokevirtual 26, 1, [(8, 94)], [0])) (q := fun h9 => h9 = (tadd h (48 + z / 10))) rfl rfl (Nat.le_of_ble_eq_true rfl) (c_tadd d 0 h (48 + z / 10) ⟨by omega, by omega⟩ (by omega) ⟨rfl, rfl⟩) (fun h9 e9 => ?_)
        subst e9
        show xEx G0 cdX10_addNumber none (xRn G0 MT (d + 1)) Q b 23 [some (.inr (.inr 64)), some (.inl z), some (.inl z)] [] (tadd h (48 + z / 10))
        refine E_s 4 (i' := 27) (ls' := [some (.inr (.inr 64)), some (.inl z), some (.inl z)]) (sk' := [.inl 10, .inl z, .inl 48, .inr (.inr 64)]) (h' := (tadd h (48 + z / 10))) rfl ?_
        refine E_rem (x := (.irem, 0, [], [])) rfl rfl (by decide) ?_
        show xEx G0 cdX10_addNumber none (xRn G0 MT (d + 1)) Q b 28 [some (.inr (.inr 64)), some (.inl z), some (.inl z)] [.inl (xrem z 10), .inl 48, .inr (.inr 64)] (tadd h (48 + z / 10))
        refine E_s 2 (i' := 30) (ls' := [some (.inr (.inr 64)), some (.inl z), some (.inl z)]) (sk' := [.inl (xi2c (48 + (xrem z 10))), .inr (.inr 64)]) (h' := (tadd h (48 + z / 10))) rfl ?_
        refine E_ti (y := (48 + z % 10)) (by rw [(xdiv_10 (t := z) (by omega) (by omega)).2, xi2c_id (by omega) (by omega)]) ?_
        skip
        refine E_cv (x := (.invokevirtual 26, 1, [(8, 94)], [0])) (q := fun h9 => h9 = (tadd (tadd h (48 + z / 10)) (48 + z % 10))) rfl rfl (Nat.le_of_ble_eq_true rfl) (c_tadd d 0 (tadd h (48 + z / 10)) (48 + z % 10) ⟨by omega, by omega⟩ (by simp only [tadd_l]; omega) ⟨rfl, rfl⟩) (fun h9 e9 => ?_)
        subst e9
        show xEx G0 cdX10_addNumber none (xRn G0 MT (d + 1)) Q b 31 [some (.inr (.inr 64)), some (.inl z), some (.inl z)] [] (tadd (tadd h (48 + z / 10)) (48 + z % 10))
        exact E_ret (x := (.return_, 0, [], [])) (v := none) rfl (trivial) (by
          have r9 := hQ
          unfold dgt at r9
          first
          | (exfalso; omega)
          | (rw [if_pos (show z < 0 by omega), if_pos (show z < 0 by omega), if_pos (by omega)] at r9; exact r9)
          | (rw [if_pos (show z < 0 by omega), if_pos (show z < 0 by omega), if_neg (by omega)] at r9; exact r9)
          | (rw [if_neg (show ¬ z < 0 by omega), if_neg (show ¬ z < 0 by omega), if_pos (by omega)] at r9; exact r9)
          | (rw [if_neg (show ¬ z < 0 by omega), if_neg (show ¬ z < 0 by omega), if_neg (by omega)] at r9; exact r9))
    · rw [c_ge (by first | assumption | (refine ⟨?_, ?_⟩ <;> omega) | (simp only [xr] at *; omega)) (by first | assumption | (refine ⟨?_, ?_⟩ <;> omega) | (simp only [xr] at *; omega))] at c8
      simp only [decide_eq_true_eq, decide_eq_false_iff_not, Decidable.not_not] at c8
      show xEx G0 cdX10_addNumber none (xRn G0 MT (d + 1)) Q b 9 [some (.inr (.inr 64)), some (.inl z), some (.inl z)] [] h
      refine E_s 2 (i' := 11) (ls' := [some (.inr (.inr 64)), some (.inl z), some (.inl z)]) (sk' := [.inl 45, .inr (.inr 64)]) (h' := h) rfl ?_
      refine E_cv (x := (.invokevirtual 26, 1, [(8, 94)], [0])) (q := fun h9 => h9 = (tadd h 45)) rfl rfl (Nat.le_of_ble_eq_true rfl) (c_tadd d 0 h 45 ⟨by omega, by omega⟩ (by omega) ⟨rfl, rfl⟩) (fun h9 e9 => ?_)
      subst e9
      show xEx G0 cdX10_addNumber none (xRn G0 MT (d + 1)) Q b 12 [some (.inr (.inr 64)), some (.inl z), some (.inl z)] [] (tadd h 45)
      refine E_s 2 (i' := 14) (ls' := [some (.inr (.inr 64)), some (.inl z), some (.inl z)]) (sk' := [.inl 9, .inl z]) (h' := (tadd h 45)) rfl ?_
      refine E_b (x := (.if_icmp .le 15, 23, [], [])) rfl rfl (fun c14 => ?_) (fun c14 => ?_)
      · rw [c_le (by first | assumption | (refine ⟨?_, ?_⟩ <;> omega) | (simp only [xr] at *; omega)) (by first | assumption | (refine ⟨?_, ?_⟩ <;> omega) | (simp only [xr] at *; omega))] at c14
        simp only [decide_eq_true_eq, decide_eq_false_iff_not, Decidable.not_not] at c14
        show xEx G0 cdX10_addNumber none (xRn G0 MT (d + 1)) Q b 23 [some (.inr (.inr 64)), some (.inl z), some (.inl z)] [] (tadd h 45)
        refine E_s 4 (i' := 27) (ls' := [some (.inr (.inr 64)), some (.inl z), some (.inl z)]) (sk' := [.inl 10, .inl z, .inl 48, .inr (.inr 64)]) (h' := (tadd h 45)) rfl ?_
        refine E_rem (x := (.irem, 0, [], [])) rfl rfl (by decide) ?_
        show xEx G0 cdX10_addNumber none (xRn G0 MT (d + 1)) Q b 28 [some (.inr (.inr 64)), some (.inl z), some (.inl z)] [.inl (xrem z 10), .inl 48, .inr (.inr 64)] (tadd h 45)
        refine E_s 2 (i' := 30) (ls' := [some (.inr (.inr 64)), some (.inl z), some (.inl z)]) (sk' := [.inl (xi2c (48 + (xrem z 10))), .inr (.inr 64)]) (h' := (tadd h 45)) rfl ?_
        refine E_ti (y := (48 + z % 10)) (by rw [(xdiv_10 (t := z) (by omega) (by omega)).2, xi2c_id (by omega) (by omega)]) ?_
        skip
        refine E_cv (x := (.invokevirtual 26, 1, [(8, 94)], [0])) (q := fun h9 => h9 = (tadd (tadd h 45) (48 + z % 10))) rfl rfl (Nat.le_of_ble_eq_true rfl) (c_tadd d 0 (tadd h 45) (48 + z % 10) ⟨by omega, by omega⟩ (by simp only [tadd_l]; omega) ⟨rfl, rfl⟩) (fun h9 e9 => ?_)
        subst e9
        show xEx G0 cdX10_addNumber none (xRn G0 MT (d + 1)) Q b 31 [some (.inr (.inr 64)), some (.inl z), some (.inl z)] [] (tadd (tadd h 45) (48 + z % 10))
        exact E_ret (x := (.return_, 0, [], [])) (v := none) rfl (trivial) (by
          have r9 := hQ
          unfold dgt at r9
          first
          | (exfalso; omega)
          | (rw [if_pos (show z < 0 by omega), if_pos (show z < 0 by omega), if_pos (by omega)] at r9; exact r9)
          | (rw [if_pos (show z < 0 by omega), if_pos (show z < 0 by omega), if_neg (by omega)] at r9; exact r9)
          | (rw [if_neg (show ¬ z < 0 by omega), if_neg (show ¬ z < 0 by omega), if_pos (by omega)] at r9; exact r9)
          | (rw [if_neg (show ¬ z < 0 by omega), if_neg (show ¬ z < 0 by omega), if_neg (by omega)] at r9; exact r9))
      · rw [c_le (by first | assumption | (refine ⟨?_, ?_⟩ <;> omega) | (simp only [xr] at *; omega)) (by first | assumption | (refine ⟨?_, ?_⟩ <;> omega) | (simp only [xr] at *; omega))] at c14
        simp only [decide_eq_true_eq, decide_eq_false_iff_not, Decidable.not_not] at c14
        show xEx G0 cdX10_addNumber none (xRn G0 MT (d + 1)) Q b 15 [some (.inr (.inr 64)), some (.inl z), some (.inl z)] [] (tadd h 45)
        refine E_s 4 (i' := 19) (ls' := [some (.inr (.inr 64)), some (.inl z), some (.inl z)]) (sk' := [.inl 10, .inl z, .inl 48, .inr (.inr 64)]) (h' := (tadd h 45)) rfl ?_
        refine E_div (x := (.idiv, 0, [], [])) rfl rfl (by decide) ?_
        show xEx G0 cdX10_addNumber none (xRn G0 MT (d + 1)) Q b 20 [some (.inr (.inr 64)), some (.inl z), some (.inl z)] [.inl (xdiv z 10), .inl 48, .inr (.inr 64)] (tadd h 45)
        refine E_s 2 (i' := 22) (ls' := [some (.inr (.inr 64)), some (.inl z), some (.inl z)]) (sk' := [.inl (xi2c (48 + (xdiv z 10))), .inr (.inr 64)]) (h' := (tadd h 45)) rfl ?_
        refine E_ti (y := (48 + z / 10)) (by rw [(xdiv_10 (t := z) (by omega) (by omega)).1, xi2c_id (by omega) (by omega)]) ?_
        skip
        refine E_cv (x := (.invokevirtual 26, 1, [(8, 94)], [0])) (q := fun h9 => h9 = (tadd (tadd h 45) (48 + z / 10))) rfl rfl (Nat.le_of_ble_eq_true rfl) (c_tadd d 0 (tadd h 45) (48 + z / 10) ⟨by omega, by omega⟩ (by simp only [tadd_l]; omega) ⟨rfl, rfl⟩) (fun h9 e9 => ?_)
        subst e9
        show xEx G0 cdX10_addNumber none (xRn G0 MT (d + 1)) Q b 23 [some (.inr (.inr 64)), some (.inl z), some (.inl z)] [] (tadd (tadd h 45) (48 + z / 10))
        refine E_s 4 (i' := 27) (ls' := [some (.inr (.inr 64)), some (.inl z), some (.inl z)]) (sk' := [.inl 10, .inl z, .inl 48, .inr (.inr 64)]) (h' := (tadd (tadd h 45) (48 + z / 10))) rfl ?_
        refine E_rem (x := (.irem, 0, [], [])) rfl rfl (by decide) ?_
        show xEx G0 cdX10_addNumber none (xRn G0 MT (d + 1)) Q b 28 [some (.inr (.inr 64)), some (.inl z), some (.inl z)] [.inl (xrem z 10), .inl 48, .inr (.inr 64)] (tadd (tadd h 45) (48 + z / 10))
        refine E_s 2 (i' := 30) (ls' := [some (.inr (.inr 64)), some (.inl z), some (.inl z)]) (sk' := [.inl (xi2c (48 + (xrem z 10))), .inr (.inr 64)]) (h' := (tadd (tadd h 45) (48 + z / 10))) rfl ?_
        refine E_ti (y := (48 + z % 10)) (by rw [(xdiv_10 (t := z) (by omega) (by omega)).2, xi2c_id (by omega) (by omega)]) ?_
        skip
        refine E_cv (x := (.invokevirtual 26, 1, [(8, 94)], [0])) (q := fun h9 => h9 = (tadd (tadd (tadd h 45) (48 + z / 10)) (48 + z % 10))) rfl rfl (Nat.le_of_ble_eq_true rfl) (c_tadd d 0 (tadd (tadd h 45) (48 + z / 10)) (48 + z % 10) ⟨by omega, by omega⟩ (by simp only [tadd_l]; omega) ⟨rfl, rfl⟩) (fun h9 e9 => ?_)
        subst e9
        show xEx G0 cdX10_addNumber none (xRn G0 MT (d + 1)) Q b 31 [some (.inr (.inr 64)), some (.inl z), some (.inl z)] [] (tadd (tadd (tadd h 45) (48 + z / 10)) (48 + z % 10))
        exact E_ret (x := (.return_, 0, [], [])) (v := none) rfl (trivial) (by
          have r9 := hQ
          unfold dgt at r9
          first
          | (exfalso; omega)
          | (rw [if_pos (show z < 0 by omega), if_pos (show z < 0 by omega), if_pos (by omega)] at r9; exact r9)
          | (rw [if_pos (show z < 0 by omega), if_pos (show z < 0 by omega), if_neg (by omega)] at r9; exact r9)
          | (rw [if_neg (show ¬ z < 0 by omega), if_neg (show ¬ z < 0 by omega), if_pos (by omega)] at r9; exact r9)
          | (rw [if_neg (show ¬ z < 0 by omega), if_neg (show ¬ z < 0 by omega), if_neg (by omega)] at r9; exact r9))
  · rw [c_ge (by first | assumption | (refine ⟨?_, ?_⟩ <;> omega) | (simp only [xr] at *; omega)) (by first | assumption | (refine ⟨?_, ?_⟩ <;> omega) | (simp only [xr] at *; omega))] at c1
    simp only [decide_eq_true_eq, decide_eq_false_iff_not, Decidable.not_not] at c1
    show xEx G0 cdX10_addNumber none (xRn G0 MT (d + 1)) Q b 2 [some (.inr (.inr 64)), some (.inl z), none] [] h
    refine E_s 5 (i' := 8) (ls' := [some (.inr (.inr 64)), some (.inl z), some (.inl (-z))]) (sk' := [.inl z]) (h' := h) rfl ?_
    refine E_b (x := (.ifCond .ge 9, 12, [], [])) rfl rfl (fun c8 => ?_) (fun c8 => ?_)
    · rw [c_ge (by first | assumption | (refine ⟨?_, ?_⟩ <;> omega) | (simp only [xr] at *; omega)) (by first | assumption | (refine ⟨?_, ?_⟩ <;> omega) | (simp only [xr] at *; omega))] at c8
      simp only [decide_eq_true_eq, decide_eq_false_iff_not, Decidable.not_not] at c8
      show xEx G0 cdX10_addNumber none (xRn G0 MT (d + 1)) Q b 12 [some (.inr (.inr 64)), some (.inl z), some (.inl (-z))] [] h
      refine E_s 2 (i' := 14) (ls' := [some (.inr (.inr 64)), some (.inl z), some (.inl (-z))]) (sk' := [.inl 9, .inl (-z)]) (h' := h) rfl ?_
      refine E_b (x := (.if_icmp .le 15, 23, [], [])) rfl rfl (fun c14 => ?_) (fun c14 => ?_)
      · rw [c_le (by first | assumption | (refine ⟨?_, ?_⟩ <;> omega) | (simp only [xr] at *; omega)) (by first | assumption | (refine ⟨?_, ?_⟩ <;> omega) | (simp only [xr] at *; omega))] at c14
        simp only [decide_eq_true_eq, decide_eq_false_iff_not, Decidable.not_not] at c14
        show xEx G0 cdX10_addNumber none (xRn G0 MT (d + 1)) Q b 23 [some (.inr (.inr 64)), some (.inl z), some (.inl (-z))] [] h
        refine E_s 4 (i' := 27) (ls' := [some (.inr (.inr 64)), some (.inl z), some (.inl (-z))]) (sk' := [.inl 10, .inl (-z), .inl 48, .inr (.inr 64)]) (h' := h) rfl ?_
        refine E_rem (x := (.irem, 0, [], [])) rfl rfl (by decide) ?_
        show xEx G0 cdX10_addNumber none (xRn G0 MT (d + 1)) Q b 28 [some (.inr (.inr 64)), some (.inl z), some (.inl (-z))] [.inl (xrem (-z) 10), .inl 48, .inr (.inr 64)] h
        refine E_s 2 (i' := 30) (ls' := [some (.inr (.inr 64)), some (.inl z), some (.inl (-z))]) (sk' := [.inl (xi2c (48 + (xrem (-z) 10))), .inr (.inr 64)]) (h' := h) rfl ?_
        refine E_ti (y := (48 + (-z) % 10)) (by rw [(xdiv_10 (t := (-z)) (by omega) (by omega)).2, xi2c_id (by omega) (by omega)]) ?_
        skip
        refine E_cv (x := (.invokevirtual 26, 1, [(8, 94)], [0])) (q := fun h9 => h9 = (tadd h (48 + (-z) % 10))) rfl rfl (Nat.le_of_ble_eq_true rfl) (c_tadd d 0 h (48 + (-z) % 10) ⟨by omega, by omega⟩ (by omega) ⟨rfl, rfl⟩) (fun h9 e9 => ?_)
        subst e9
        show xEx G0 cdX10_addNumber none (xRn G0 MT (d + 1)) Q b 31 [some (.inr (.inr 64)), some (.inl z), some (.inl (-z))] [] (tadd h (48 + (-z) % 10))
        exact E_ret (x := (.return_, 0, [], [])) (v := none) rfl (trivial) (by
          have r9 := hQ
          unfold dgt at r9
          first
          | (exfalso; omega)
          | (rw [if_pos (show z < 0 by omega), if_pos (show z < 0 by omega), if_pos (by omega)] at r9; exact r9)
          | (rw [if_pos (show z < 0 by omega), if_pos (show z < 0 by omega), if_neg (by omega)] at r9; exact r9)
          | (rw [if_neg (show ¬ z < 0 by omega), if_neg (show ¬ z < 0 by omega), if_pos (by omega)] at r9; exact r9)
          | (rw [if_neg (show ¬ z < 0 by omega), if_neg (show ¬ z < 0 by omega), if_neg (by omega)] at r9; exact r9))
      · rw [c_le (by first | assumption | (refine ⟨?_, ?_⟩ <;> omega) | (simp only [xr] at *; omega)) (by first | assumption | (refine ⟨?_, ?_⟩ <;> omega) | (simp only [xr] at *; omega))] at c14
        simp only [decide_eq_true_eq, decide_eq_false_iff_not, Decidable.not_not] at c14
        show xEx G0 cdX10_addNumber none (xRn G0 MT (d + 1)) Q b 15 [some (.inr (.inr 64)), some (.inl z), some (.inl (-z))] [] h
        refine E_s 4 (i' := 19) (ls' := [some (.inr (.inr 64)), some (.inl z), some (.inl (-z))]) (sk' := [.inl 10, .inl (-z), .inl 48, .inr (.inr 64)]) (h' := h) rfl ?_
        refine E_div (x := (.idiv, 0, [], [])) rfl rfl (by decide) ?_
        show xEx G0 cdX10_addNumber none (xRn G0 MT (d + 1)) Q b 20 [some (.inr (.inr 64)), some (.inl z), some (.inl (-z))] [.inl (xdiv (-z) 10), .inl 48, .inr (.inr 64)] h
        refine E_s 2 (i' := 22) (ls' := [some (.inr (.inr 64)), some (.inl z), some (.inl (-z))]) (sk' := [.inl (xi2c (48 + (xdiv (-z) 10))), .inr (.inr 64)]) (h' := h) rfl ?_
        refine E_ti (y := (48 + (-z) / 10)) (by rw [(xdiv_10 (t := (-z)) (by omega) (by omega)).1, xi2c_id (by omega) (by omega)]) ?_
        skip
        refine E_cv (x := (.invokevirtual 26, 1, [(8, 94)], [0])) (q := fun h9 => h9 = (tadd h (48 + (-z) / 10))) rfl rfl (Nat.le_of_ble_eq_true rfl) (c_tadd d 0 h (48 + (-z) / 10) ⟨by omega, by omega⟩ (by omega) ⟨rfl, rfl⟩) (fun h9 e9 => ?_)
        subst e9
        show xEx G0 cdX10_addNumber none (xRn G0 MT (d + 1)) Q b 23 [some (.inr (.inr 64)), some (.inl z), some (.inl (-z))] [] (tadd h (48 + (-z) / 10))
        refine E_s 4 (i' := 27) (ls' := [some (.inr (.inr 64)), some (.inl z), some (.inl (-z))]) (sk' := [.inl 10, .inl (-z), .inl 48, .inr (.inr 64)]) (h' := (tadd h (48 + (-z) / 10))) rfl ?_
        refine E_rem (x := (.irem, 0, [], [])) rfl rfl (by decide) ?_
        show xEx G0 cdX10_addNumber none (xRn G0 MT (d + 1)) Q b 28 [some (.inr (.inr 64)), some (.inl z), some (.inl (-z))] [.inl (xrem (-z) 10), .inl 48, .inr (.inr 64)] (tadd h (48 + (-z) / 10))
        refine E_s 2 (i' := 30) (ls' := [some (.inr (.inr 64)), some (.inl z), some (.inl (-z))]) (sk' := [.inl (xi2c (48 + (xrem (-z) 10))), .inr (.inr 64)]) (h' := (tadd h (48 + (-z) / 10))) rfl ?_
        refine E_ti (y := (48 + (-z) % 10)) (by rw [(xdiv_10 (t := (-z)) (by omega) (by omega)).2, xi2c_id (by omega) (by omega)]) ?_
        skip
        refine E_cv (x := (.invokevirtual 26, 1, [(8, 94)], [0])) (q := fun h9 => h9 = (tadd (tadd h (48 + (-z) / 10)) (48 + (-z) % 10))) rfl rfl (Nat.le_of_ble_eq_true rfl) (c_tadd d 0 (tadd h (48 + (-z) / 10)) (48 + (-z) % 10) ⟨by omega, by omega⟩ (by simp only [tadd_l]; omega) ⟨rfl, rfl⟩) (fun h9 e9 => ?_)
        subst e9
        show xEx G0 cdX10_addNumber none (xRn G0 MT (d + 1)) Q b 31 [some (.inr (.inr 64)), some (.inl z), some (.inl (-z))] [] (tadd (tadd h (48 + (-z) / 10)) (48 + (-z) % 10))
        exact E_ret (x := (.return_, 0, [], [])) (v := none) rfl (trivial) (by
          have r9 := hQ
          unfold dgt at r9
          first
          | (exfalso; omega)
          | (rw [if_pos (show z < 0 by omega), if_pos (show z < 0 by omega), if_pos (by omega)] at r9; exact r9)
          | (rw [if_pos (show z < 0 by omega), if_pos (show z < 0 by omega), if_neg (by omega)] at r9; exact r9)
          | (rw [if_neg (show ¬ z < 0 by omega), if_neg (show ¬ z < 0 by omega), if_pos (by omega)] at r9; exact r9)
          | (rw [if_neg (show ¬ z < 0 by omega), if_neg (show ¬ z < 0 by omega), if_neg (by omega)] at r9; exact r9))
    · rw [c_ge (by first | assumption | (refine ⟨?_, ?_⟩ <;> omega) | (simp only [xr] at *; omega)) (by first | assumption | (refine ⟨?_, ?_⟩ <;> omega) | (simp only [xr] at *; omega))] at c8
      simp only [decide_eq_true_eq, decide_eq_false_iff_not, Decidable.not_not] at c8
      show xEx G0 cdX10_addNumber none (xRn G0 MT (d + 1)) Q b 9 [some (.inr (.inr 64)), some (.inl z), some (.inl (-z))] [] h
      refine E_s 2 (i' := 11) (ls' := [some (.inr (.inr 64)), some (.inl z), some (.inl (-z))]) (sk' := [.inl 45, .inr (.inr 64)]) (h' := h) rfl ?_
      refine E_cv (x := (.invokevirtual 26, 1, [(8, 94)], [0])) (q := fun h9 => h9 = (tadd h 45)) rfl rfl (Nat.le_of_ble_eq_true rfl) (c_tadd d 0 h 45 ⟨by omega, by omega⟩ (by omega) ⟨rfl, rfl⟩) (fun h9 e9 => ?_)
      subst e9
      show xEx G0 cdX10_addNumber none (xRn G0 MT (d + 1)) Q b 12 [some (.inr (.inr 64)), some (.inl z), some (.inl (-z))] [] (tadd h 45)
      refine E_s 2 (i' := 14) (ls' := [some (.inr (.inr 64)), some (.inl z), some (.inl (-z))]) (sk' := [.inl 9, .inl (-z)]) (h' := (tadd h 45)) rfl ?_
      refine E_b (x := (.if_icmp .le 15, 23, [], [])) rfl rfl (fun c14 => ?_) (fun c14 => ?_)
      · rw [c_le (by first | assumption | (refine ⟨?_, ?_⟩ <;> omega) | (simp only [xr] at *; omega)) (by first | assumption | (refine ⟨?_, ?_⟩ <;> omega) | (simp only [xr] at *; omega))] at c14
        simp only [decide_eq_true_eq, decide_eq_false_iff_not, Decidable.not_not] at c14
        show xEx G0 cdX10_addNumber none (xRn G0 MT (d + 1)) Q b 23 [some (.inr (.inr 64)), some (.inl z), some (.inl (-z))] [] (tadd h 45)
        refine E_s 4 (i' := 27) (ls' := [some (.inr (.inr 64)), some (.inl z), some (.inl (-z))]) (sk' := [.inl 10, .inl (-z), .inl 48, .inr (.inr 64)]) (h' := (tadd h 45)) rfl ?_
        refine E_rem (x := (.irem, 0, [], [])) rfl rfl (by decide) ?_
        show xEx G0 cdX10_addNumber none (xRn G0 MT (d + 1)) Q b 28 [some (.inr (.inr 64)), some (.inl z), some (.inl (-z))] [.inl (xrem (-z) 10), .inl 48, .inr (.inr 64)] (tadd h 45)
        refine E_s 2 (i' := 30) (ls' := [some (.inr (.inr 64)), some (.inl z), some (.inl (-z))]) (sk' := [.inl (xi2c (48 + (xrem (-z) 10))), .inr (.inr 64)]) (h' := (tadd h 45)) rfl ?_
        refine E_ti (y := (48 + (-z) % 10)) (by rw [(xdiv_10 (t := (-z)) (by omega) (by omega)).2, xi2c_id (by omega) (by omega)]) ?_
        skip
        refine E_cv (x := (.invokevirtual 26, 1, [(8, 94)], [0])) (q := fun h9 => h9 = (tadd (tadd h 45) (48 + (-z) % 10))) rfl rfl (Nat.le_of_ble_eq_true rfl) (c_tadd d 0 (tadd h 45) (48 + (-z) % 10) ⟨by omega, by omega⟩ (by simp only [tadd_l]; omega) ⟨rfl, rfl⟩) (fun h9 e9 => ?_)
        subst e9
        show xEx G0 cdX10_addNumber none (xRn G0 MT (d + 1)) Q b 31 [some (.inr (.inr 64)), some (.inl z), some (.inl (-z))] [] (tadd (tadd h 45) (48 + (-z) % 10))
        exact E_ret (x := (.return_, 0, [], [])) (v := none) rfl (trivial) (by
          have r9 := hQ
          unfold dgt at r9
          first
          | (exfalso; omega)
          | (rw [if_pos (show z < 0 by omega), if_pos (show z < 0 by omega), if_pos (by omega)] at r9; exact r9)
          | (rw [if_pos (show z < 0 by omega), if_pos (show z < 0 by omega), if_neg (by omega)] at r9; exact r9)
          | (rw [if_neg (show ¬ z < 0 by omega), if_neg (show ¬ z < 0 by omega), if_pos (by omega)] at r9; exact r9)
          | (rw [if_neg (show ¬ z < 0 by omega), if_neg (show ¬ z < 0 by omega), if_neg (by omega)] at r9; exact r9))
      · rw [c_le (by first | assumption | (refine ⟨?_, ?_⟩ <;> omega) | (simp only [xr] at *; omega)) (by first | assumption | (refine ⟨?_, ?_⟩ <;> omega) | (simp only [xr] at *; omega))] at c14
        simp only [decide_eq_true_eq, decide_eq_false_iff_not, Decidable.not_not] at c14
        show xEx G0 cdX10_addNumber none (xRn G0 MT (d + 1)) Q b 15 [some (.inr (.inr 64)), some (.inl z), some (.inl (-z))] [] (tadd h 45)
        refine E_s 4 (i' := 19) (ls' := [some (.inr (.inr 64)), some (.inl z), some (.inl (-z))]) (sk' := [.inl 10, .inl (-z), .inl 48, .inr (.inr 64)]) (h' := (tadd h 45)) rfl ?_
        refine E_div (x := (.idiv, 0, [], [])) rfl rfl (by decide) ?_
        show xEx G0 cdX10_addNumber none (xRn G0 MT (d + 1)) Q b 20 [some (.inr (.inr 64)), some (.inl z), some (.inl (-z))] [.inl (xdiv (-z) 10), .inl 48, .inr (.inr 64)] (tadd h 45)
        refine E_s 2 (i' := 22) (ls' := [some (.inr (.inr 64)), some (.inl z), some (.inl (-z))]) (sk' := [.inl (xi2c (48 + (xdiv (-z) 10))), .inr (.inr 64)]) (h' := (tadd h 45)) rfl ?_
        refine E_ti (y := (48 + (-z) / 10)) (by rw [(xdiv_10 (t := (-z)) (by omega) (by omega)).1, xi2c_id (by omega) (by omega)]) ?_
        skip
        refine E_cv (x := (.invokevirtual 26, 1, [(8, 94)], [0])) (q := fun h9 => h9 = (tadd (tadd h 45) (48 + (-z) / 10))) rfl rfl (Nat.le_of_ble_eq_true rfl) (c_tadd d 0 (tadd h 45) (48 + (-z) / 10) ⟨by omega, by omega⟩ (by simp only [tadd_l]; omega) ⟨rfl, rfl⟩) (fun h9 e9 => ?_)
        subst e9
        show xEx G0 cdX10_addNumber none (xRn G0 MT (d + 1)) Q b 23 [some (.inr (.inr 64)), some (.inl z), some (.inl (-z))] [] (tadd (tadd h 45) (48 + (-z) / 10))
        refine E_s 4 (i' := 27) (ls' := [some (.inr (.inr 64)), some (.inl z), some (.inl (-z))]) (sk' := [.inl 10, .inl (-z), .inl 48, .inr (.inr 64)]) (h' := (tadd (tadd h 45) (48 + (-z) / 10))) rfl ?_
        refine E_rem (x := (.irem, 0, [], [])) rfl rfl (by decide) ?_
        show xEx G0 cdX10_addNumber none (xRn G0 MT (d + 1)) Q b 28 [some (.inr (.inr 64)), some (.inl z), some (.inl (-z))] [.inl (xrem (-z) 10), .inl 48, .inr (.inr 64)] (tadd (tadd h 45) (48 + (-z) / 10))
        refine E_s 2 (i' := 30) (ls' := [some (.inr (.inr 64)), some (.inl z), some (.inl (-z))]) (sk' := [.inl (xi2c (48 + (xrem (-z) 10))), .inr (.inr 64)]) (h' := (tadd (tadd h 45) (48 + (-z) / 10))) rfl ?_
        refine E_ti (y := (48 + (-z) % 10)) (by rw [(xdiv_10 (t := (-z)) (by omega) (by omega)).2, xi2c_id (by omega) (by omega)]) ?_
        skip
        refine E_cv (x := (.invokevirtual 26, 1, [(8, 94)], [0])) (q := fun h9 => h9 = (tadd (tadd (tadd h 45) (48 + (-z) / 10)) (48 + (-z) % 10))) rfl rfl (Nat.le_of_ble_eq_true rfl) (c_tadd d 0 (tadd (tadd h 45) (48 + (-z) / 10)) (48 + (-z) % 10) ⟨by omega, by omega⟩ (by simp only [tadd_l]; omega) ⟨rfl, rfl⟩) (fun h9 e9 => ?_)
        subst e9
        show xEx G0 cdX10_addNumber none (xRn G0 MT (d + 1)) Q b 31 [some (.inr (.inr 64)), some (.inl z), some (.inl (-z))] [] (tadd (tadd (tadd h 45) (48 + (-z) / 10)) (48 + (-z) % 10))
        exact E_ret (x := (.return_, 0, [], [])) (v := none) rfl (trivial) (by
          have r9 := hQ
          unfold dgt at r9
          first
          | (exfalso; omega)
          | (rw [if_pos (show z < 0 by omega), if_pos (show z < 0 by omega), if_pos (by omega)] at r9; exact r9)
          | (rw [if_pos (show z < 0 by omega), if_pos (show z < 0 by omega), if_neg (by omega)] at r9; exact r9)
          | (rw [if_neg (show ¬ z < 0 by omega), if_neg (show ¬ z < 0 by omega), if_pos (by omega)] at r9; exact r9)
          | (rw [if_neg (show ¬ z < 0 by omega), if_neg (show ¬ z < 0 by omega), if_neg (by omega)] at r9; exact r9))
set_option maxHeartbeats 1000000 in
theorem m_pnum (d b : Nat) (h : xH) (z : Int) (hz : -99 ≤ z ∧ z ≤ 99) (hl : 0 ≤ h 66 45 ∧ h 66 45 + 3 ≤ 1024) {Q : xO → xH → Prop} (hQ : Q (.inl none) (padds h (dgt z))) : xRn G0 MT (d + 2) b 206 [.inr (.inr 66), .inl z] h Q := by
  refine R_of (M := mX12_putsNumber) rfl (Nat.le_of_ble_eq_true rfl) ?_
  show xEx G0 cdX12_putsNumber none (xRn G0 MT (d + 1)) Q b 0 [some (.inr (.inr 66)), some (.inl z), none] [] h
  refine E_s 1 (i' := 1) (ls' := [some (.inr (.inr 66)), some (.inl z), none]) (sk' := [.inl z]) (h' := h) rfl ?_
  refine E_b (x := (.ifCond .ge 9, 5, [], [])) rfl rfl (fun c1 => ?_) (fun c1 => ?_)
  · rw [c_ge (by first | assumption | (refine ⟨?_, ?_⟩ <;> omega) | (simp only [xr] at *; omega)) (by first | assumption | (refine ⟨?_, ?_⟩ <;> omega) | (simp only [xr] at *; omega))] at c1
    simp only [decide_eq_true_eq, decide_eq_false_iff_not, Decidable.not_not] at c1
    show xEx G0 cdX12_putsNumber none (xRn G0 MT (d + 1)) Q b 5 [some (.inr (.inr 66)), some (.inl z), none] [] h
    refine E_s 1 (i' := 6) (ls' := [some (.inr (.inr 66)), some (.inl z), none]) (sk' := [.inl z]) (h' := h) rfl ?_
    refine E_ci (x := (.invokestatic 211, 1, [(0, 172)], [])) (r := (if z < 0 then -z else z)) (h' := h) rfl rfl (Nat.le_of_ble_eq_true rfl) (c_absolute d 0 h z ⟨by omega, by omega⟩ ⟨rfl, rfl⟩) ?_
    show xEx G0 cdX12_putsNumber none (xRn G0 MT (d + 1)) Q b 7 [some (.inr (.inr 66)), some (.inl z), none] [.inl (if z < 0 then -z else z)] h
    refine E_ti (y := z) (by rw [if_neg (by omega)]) ?_
    refine E_s 3 (i' := 10) (ls' := [some (.inr (.inr 66)), some (.inl z), some (.inl z)]) (sk' := [.inl 9, .inl z]) (h' := h) rfl ?_
    refine E_b (x := (.if_icmp .le 14, 18, [], [])) rfl rfl (fun c10 => ?_) (fun c10 => ?_)
    · rw [c_le (by first | assumption | (refine ⟨?_, ?_⟩ <;> omega) | (simp only [xr] at *; omega)) (by first | assumption | (refine ⟨?_, ?_⟩ <;> omega) | (simp only [xr] at *; omega))] at c10
      simp only [decide_eq_true_eq, decide_eq_false_iff_not, Decidable.not_not] at c10
      show xEx G0 cdX12_putsNumber none (xRn G0 MT (d + 1)) Q b 18 [some (.inr (.inr 66)), some (.inl z), some (.inl z)] [] h
      refine E_s 4 (i' := 22) (ls' := [some (.inr (.inr 66)), some (.inl z), some (.inl z)]) (sk' := [.inl 10, .inl z, .inl 48, .inr (.inr 66)]) (h' := h) rfl ?_
      refine E_rem (x := (.irem, 0, [], [])) rfl rfl (by decide) ?_
      show xEx G0 cdX12_putsNumber none (xRn G0 MT (d + 1)) Q b 23 [some (.inr (.inr 66)), some (.inl z), some (.inl z)] [.inl (xrem z 10), .inl 48, .inr (.inr 66)] h
      refine E_s 1 (i' := 24) (ls' := [some (.inr (.inr 66)), some (.inl z), some (.inl z)]) (sk' := [.inl (48 + (xrem z 10)), .inr (.inr 66)]) (h' := h) rfl ?_
      refine E_ti (y := (48 + z % 10)) (by rw [(xdiv_10 (t := z) (by omega) (by omega)).2]) ?_
      skip
      refine E_cv (x := (.invokevirtual 331, 1, [(10, 205)], [0])) (q := fun h9 => h9 = (padd h (48 + z % 10))) rfl rfl (Nat.le_of_ble_eq_true rfl) (m_puts d 0 h (48 + z % 10) ⟨by omega, by omega⟩ (by omega) ⟨rfl, rfl⟩) (fun h9 e9 => ?_)
      subst e9
      show xEx G0 cdX12_putsNumber none (xRn G0 MT (d + 1)) Q b 25 [some (.inr (.inr 66)), some (.inl z), some (.inl z)] [] (padd h (48 + z % 10))
      exact E_ret (x := (.return_, 0, [], [])) (v := none) rfl (trivial) (by
        have r9 := hQ
        unfold dgt at r9
        first
        | (exfalso; omega)
        | (rw [if_pos (show z < 0 by omega), if_pos (show z < 0 by omega), if_pos (by omega)] at r9; exact r9)
        | (rw [if_pos (show z < 0 by omega), if_pos (show z < 0 by omega), if_neg (by omega)] at r9; exact r9)
        | (rw [if_neg (show ¬ z < 0 by omega), if_neg (show ¬ z < 0 by omega), if_pos (by omega)] at r9; exact r9)
        | (rw [if_neg (show ¬ z < 0 by omega), if_neg (show ¬ z < 0 by omega), if_neg (by omega)] at r9; exact r9))
    · rw [c_le (by first | assumption | (refine ⟨?_, ?_⟩ <;> omega) | (simp only [xr] at *; omega)) (by first | assumption | (refine ⟨?_, ?_⟩ <;> omega) | (simp only [xr] at *; omega))] at c10
      simp only [decide_eq_true_eq, decide_eq_false_iff_not, Decidable.not_not] at c10
      show xEx G0 cdX12_putsNumber none (xRn G0 MT (d + 1)) Q b 11 [some (.inr (.inr 66)), some (.inl z), some (.inl z)] [] h
      refine E_s 4 (i' := 15) (ls' := [some (.inr (.inr 66)), some (.inl z), some (.inl z)]) (sk' := [.inl 10, .inl z, .inl 48, .inr (.inr 66)]) (h' := h) rfl ?_
      refine E_div (x := (.idiv, 0, [], [])) rfl rfl (by decide) ?_
      show xEx G0 cdX12_putsNumber none (xRn G0 MT (d + 1)) Q b 16 [some (.inr (.inr 66)), some (.inl z), some (.inl z)] [.inl (xdiv z 10), .inl 48, .inr (.inr 66)] h
      refine E_s 1 (i' := 17) (ls' := [some (.inr (.inr 66)), some (.inl z), some (.inl z)]) (sk' := [.inl (48 + (xdiv z 10)), .inr (.inr 66)]) (h' := h) rfl ?_
      refine E_ti (y := (48 + z / 10)) (by rw [(xdiv_10 (t := z) (by omega) (by omega)).1]) ?_
      skip
      refine E_cv (x := (.invokevirtual 331, 1, [(10, 205)], [0])) (q := fun h9 => h9 = (padd h (48 + z / 10))) rfl rfl (Nat.le_of_ble_eq_true rfl) (m_puts d 0 h (48 + z / 10) ⟨by omega, by omega⟩ (by omega) ⟨rfl, rfl⟩) (fun h9 e9 => ?_)
      subst e9
      show xEx G0 cdX12_putsNumber none (xRn G0 MT (d + 1)) Q b 18 [some (.inr (.inr 66)), some (.inl z), some (.inl z)] [] (padd h (48 + z / 10))
      refine E_s 4 (i' := 22) (ls' := [some (.inr (.inr 66)), some (.inl z), some (.inl z)]) (sk' := [.inl 10, .inl z, .inl 48, .inr (.inr 66)]) (h' := (padd h (48 + z / 10))) rfl ?_
      refine E_rem (x := (.irem, 0, [], [])) rfl rfl (by decide) ?_
      show xEx G0 cdX12_putsNumber none (xRn G0 MT (d + 1)) Q b 23 [some (.inr (.inr 66)), some (.inl z), some (.inl z)] [.inl (xrem z 10), .inl 48, .inr (.inr 66)] (padd h (48 + z / 10))
      refine E_s 1 (i' := 24) (ls' := [some (.inr (.inr 66)), some (.inl z), some (.inl z)]) (sk' := [.inl (48 + (xrem z 10)), .inr (.inr 66)]) (h' := (padd h (48 + z / 10))) rfl ?_
      refine E_ti (y := (48 + z % 10)) (by rw [(xdiv_10 (t := z) (by omega) (by omega)).2]) ?_
      skip
      refine E_cv (x := (.invokevirtual 331, 1, [(10, 205)], [0])) (q := fun h9 => h9 = (padd (padd h (48 + z / 10)) (48 + z % 10))) rfl rfl (Nat.le_of_ble_eq_true rfl) (m_puts d 0 (padd h (48 + z / 10)) (48 + z % 10) ⟨by omega, by omega⟩ (by simp only [padd_l]; omega) ⟨rfl, rfl⟩) (fun h9 e9 => ?_)
      subst e9
      show xEx G0 cdX12_putsNumber none (xRn G0 MT (d + 1)) Q b 25 [some (.inr (.inr 66)), some (.inl z), some (.inl z)] [] (padd (padd h (48 + z / 10)) (48 + z % 10))
      exact E_ret (x := (.return_, 0, [], [])) (v := none) rfl (trivial) (by
        have r9 := hQ
        unfold dgt at r9
        first
        | (exfalso; omega)
        | (rw [if_pos (show z < 0 by omega), if_pos (show z < 0 by omega), if_pos (by omega)] at r9; exact r9)
        | (rw [if_pos (show z < 0 by omega), if_pos (show z < 0 by omega), if_neg (by omega)] at r9; exact r9)
        | (rw [if_neg (show ¬ z < 0 by omega), if_neg (show ¬ z < 0 by omega), if_pos (by omega)] at r9; exact r9)
        | (rw [if_neg (show ¬ z < 0 by omega), if_neg (show ¬ z < 0 by omega), if_neg (by omega)] at r9; exact r9))
  · rw [c_ge (by first | assumption | (refine ⟨?_, ?_⟩ <;> omega) | (simp only [xr] at *; omega)) (by first | assumption | (refine ⟨?_, ?_⟩ <;> omega) | (simp only [xr] at *; omega))] at c1
    simp only [decide_eq_true_eq, decide_eq_false_iff_not, Decidable.not_not] at c1
    show xEx G0 cdX12_putsNumber none (xRn G0 MT (d + 1)) Q b 2 [some (.inr (.inr 66)), some (.inl z), none] [] h
    refine E_s 2 (i' := 4) (ls' := [some (.inr (.inr 66)), some (.inl z), none]) (sk' := [.inl 45, .inr (.inr 66)]) (h' := h) rfl ?_
    refine E_cv (x := (.invokevirtual 331, 1, [(10, 205)], [0])) (q := fun h9 => h9 = (padd h 45)) rfl rfl (Nat.le_of_ble_eq_true rfl) (m_puts d 0 h 45 ⟨by omega, by omega⟩ (by omega) ⟨rfl, rfl⟩) (fun h9 e9 => ?_)
    subst e9
    show xEx G0 cdX12_putsNumber none (xRn G0 MT (d + 1)) Q b 5 [some (.inr (.inr 66)), some (.inl z), none] [] (padd h 45)
    refine E_s 1 (i' := 6) (ls' := [some (.inr (.inr 66)), some (.inl z), none]) (sk' := [.inl z]) (h' := (padd h 45)) rfl ?_
    refine E_ci (x := (.invokestatic 211, 1, [(0, 172)], [])) (r := (if z < 0 then -z else z)) (h' := (padd h 45)) rfl rfl (Nat.le_of_ble_eq_true rfl) (c_absolute d 0 (padd h 45) z ⟨by omega, by omega⟩ ⟨rfl, rfl⟩) ?_
    show xEx G0 cdX12_putsNumber none (xRn G0 MT (d + 1)) Q b 7 [some (.inr (.inr 66)), some (.inl z), none] [.inl (if z < 0 then -z else z)] (padd h 45)
    refine E_ti (y := (-z)) (by rw [if_pos (by omega)]) ?_
    refine E_s 3 (i' := 10) (ls' := [some (.inr (.inr 66)), some (.inl z), some (.inl (-z))]) (sk' := [.inl 9, .inl (-z)]) (h' := (padd h 45)) rfl ?_
    refine E_b (x := (.if_icmp .le 14, 18, [], [])) rfl rfl (fun c10 => ?_) (fun c10 => ?_)
    · rw [c_le (by first | assumption | (refine ⟨?_, ?_⟩ <;> omega) | (simp only [xr] at *; omega)) (by first | assumption | (refine ⟨?_, ?_⟩ <;> omega) | (simp only [xr] at *; omega))] at c10
      simp only [decide_eq_true_eq, decide_eq_false_iff_not, Decidable.not_not] at c10
      show xEx G0 cdX12_putsNumber none (xRn G0 MT (d + 1)) Q b 18 [some (.inr (.inr 66)), some (.inl z), some (.inl (-z))] [] (padd h 45)
      refine E_s 4 (i' := 22) (ls' := [some (.inr (.inr 66)), some (.inl z), some (.inl (-z))]) (sk' := [.inl 10, .inl (-z), .inl 48, .inr (.inr 66)]) (h' := (padd h 45)) rfl ?_
      refine E_rem (x := (.irem, 0, [], [])) rfl rfl (by decide) ?_
      show xEx G0 cdX12_putsNumber none (xRn G0 MT (d + 1)) Q b 23 [some (.inr (.inr 66)), some (.inl z), some (.inl (-z))] [.inl (xrem (-z) 10), .inl 48, .inr (.inr 66)] (padd h 45)
      refine E_s 1 (i' := 24) (ls' := [some (.inr (.inr 66)), some (.inl z), some (.inl (-z))]) (sk' := [.inl (48 + (xrem (-z) 10)), .inr (.inr 66)]) (h' := (padd h 45)) rfl ?_
      refine E_ti (y := (48 + (-z) % 10)) (by rw [(xdiv_10 (t := (-z)) (by omega) (by omega)).2]) ?_
      skip
      refine E_cv (x := (.invokevirtual 331, 1, [(10, 205)], [0])) (q := fun h9 => h9 = (padd (padd h 45) (48 + (-z) % 10))) rfl rfl (Nat.le_of_ble_eq_true rfl) (m_puts d 0 (padd h 45) (48 + (-z) % 10) ⟨by omega, by omega⟩ (by simp only [padd_l]; omega) ⟨rfl, rfl⟩) (fun h9 e9 => ?_)
      subst e9
      show xEx G0 cdX12_putsNumber none (xRn G0 MT (d + 1)) Q b 25 [some (.inr (.inr 66)), some (.inl z), some (.inl (-z))] [] (padd (padd h 45) (48 + (-z) % 10))
      exact E_ret (x := (.return_, 0, [], [])) (v := none) rfl (trivial) (by
        have r9 := hQ
        unfold dgt at r9
        first
        | (exfalso; omega)
        | (rw [if_pos (show z < 0 by omega), if_pos (show z < 0 by omega), if_pos (by omega)] at r9; exact r9)
        | (rw [if_pos (show z < 0 by omega), if_pos (show z < 0 by omega), if_neg (by omega)] at r9; exact r9)
        | (rw [if_neg (show ¬ z < 0 by omega), if_neg (show ¬ z < 0 by omega), if_pos (by omega)] at r9; exact r9)
        | (rw [if_neg (show ¬ z < 0 by omega), if_neg (show ¬ z < 0 by omega), if_neg (by omega)] at r9; exact r9))
    · rw [c_le (by first | assumption | (refine ⟨?_, ?_⟩ <;> omega) | (simp only [xr] at *; omega)) (by first | assumption | (refine ⟨?_, ?_⟩ <;> omega) | (simp only [xr] at *; omega))] at c10
      simp only [decide_eq_true_eq, decide_eq_false_iff_not, Decidable.not_not] at c10
      show xEx G0 cdX12_putsNumber none (xRn G0 MT (d + 1)) Q b 11 [some (.inr (.inr 66)), some (.inl z), some (.inl (-z))] [] (padd h 45)
      refine E_s 4 (i' := 15) (ls' := [some (.inr (.inr 66)), some (.inl z), some (.inl (-z))]) (sk' := [.inl 10, .inl (-z), .inl 48, .inr (.inr 66)]) (h' := (padd h 45)) rfl ?_
      refine E_div (x := (.idiv, 0, [], [])) rfl rfl (by decide) ?_
      show xEx G0 cdX12_putsNumber none (xRn G0 MT (d + 1)) Q b 16 [some (.inr (.inr 66)), some (.inl z), some (.inl (-z))] [.inl (xdiv (-z) 10), .inl 48, .inr (.inr 66)] (padd h 45)
      refine E_s 1 (i' := 17) (ls' := [some (.inr (.inr 66)), some (.inl z), some (.inl (-z))]) (sk' := [.inl (48 + (xdiv (-z) 10)), .inr (.inr 66)]) (h' := (padd h 45)) rfl ?_
      refine E_ti (y := (48 + (-z) / 10)) (by rw [(xdiv_10 (t := (-z)) (by omega) (by omega)).1]) ?_
      skip
      refine E_cv (x := (.invokevirtual 331, 1, [(10, 205)], [0])) (q := fun h9 => h9 = (padd (padd h 45) (48 + (-z) / 10))) rfl rfl (Nat.le_of_ble_eq_true rfl) (m_puts d 0 (padd h 45) (48 + (-z) / 10) ⟨by omega, by omega⟩ (by simp only [padd_l]; omega) ⟨rfl, rfl⟩) (fun h9 e9 => ?_)
      subst e9
      show xEx G0 cdX12_putsNumber none (xRn G0 MT (d + 1)) Q b 18 [some (.inr (.inr 66)), some (.inl z), some (.inl (-z))] [] (padd (padd h 45) (48 + (-z) / 10))
      refine E_s 4 (i' := 22) (ls' := [some (.inr (.inr 66)), some (.inl z), some (.inl (-z))]) (sk' := [.inl 10, .inl (-z), .inl 48, .inr (.inr 66)]) (h' := (padd (padd h 45) (48 + (-z) / 10))) rfl ?_
      refine E_rem (x := (.irem, 0, [], [])) rfl rfl (by decide) ?_
      show xEx G0 cdX12_putsNumber none (xRn G0 MT (d + 1)) Q b 23 [some (.inr (.inr 66)), some (.inl z), some (.inl (-z))] [.inl (xrem (-z) 10), .inl 48, .inr (.inr 66)] (padd (padd h 45) (48 + (-z) / 10))
      refine E_s 1 (i' := 24) (ls' := [some (.inr (.inr 66)), some (.inl z), some (.inl (-z))]) (sk' := [.inl (48 + (xrem (-z) 10)), .inr (.inr 66)]) (h' := (padd (padd h 45) (48 + (-z) / 10))) rfl ?_
      refine E_ti (y := (48 + (-z) % 10)) (by rw [(xdiv_10 (t := (-z)) (by omega) (by omega)).2]) ?_
      skip
      refine E_cv (x := (.invokevirtual 331, 1, [(10, 205)], [0])) (q := fun h9 => h9 = (padd (padd (padd h 45) (48 + (-z) / 10)) (48 + (-z) % 10))) rfl rfl (Nat.le_of_ble_eq_true rfl) (m_puts d 0 (padd (padd h 45) (48 + (-z) / 10)) (48 + (-z) % 10) ⟨by omega, by omega⟩ (by simp only [padd_l]; omega) ⟨rfl, rfl⟩) (fun h9 e9 => ?_)
      subst e9
      show xEx G0 cdX12_putsNumber none (xRn G0 MT (d + 1)) Q b 25 [some (.inr (.inr 66)), some (.inl z), some (.inl (-z))] [] (padd (padd (padd h 45) (48 + (-z) / 10)) (48 + (-z) % 10))
      exact E_ret (x := (.return_, 0, [], [])) (v := none) rfl (trivial) (by
        have r9 := hQ
        unfold dgt at r9
        first
        | (exfalso; omega)
        | (rw [if_pos (show z < 0 by omega), if_pos (show z < 0 by omega), if_pos (by omega)] at r9; exact r9)
        | (rw [if_pos (show z < 0 by omega), if_pos (show z < 0 by omega), if_neg (by omega)] at r9; exact r9)
        | (rw [if_neg (show ¬ z < 0 by omega), if_neg (show ¬ z < 0 by omega), if_pos (by omega)] at r9; exact r9)
        | (rw [if_neg (show ¬ z < 0 by omega), if_neg (show ¬ z < 0 by omega), if_neg (by omega)] at r9; exact r9))
