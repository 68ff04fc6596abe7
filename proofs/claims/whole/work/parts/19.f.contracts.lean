set_option maxHeartbeats 1000000 in
theorem c_outputOn (d b : Nat) (h : xH) (k e : Int) (hk : 0 ≤ k ∧ k ≤ 300) (he : 0 ≤ e ∧ e < 12) {Q : xO → xH → Prop} (hQ : Q (.inl (some (.inl (h 24 (k * 12 + e))))) h) : xRn G0 MT (d + 1) b 19 [.inr (.inr 9), .inl k, .inl e] h Q := by
  refine R_of (M := mX1_outputOn) rfl (Nat.le_of_ble_eq_true rfl) ?_
  show xEx G0 cdX1_outputOn (some .int) (xRn G0 MT d) Q b 0 [some (.inr (.inr 9)), some (.inl k), some (.inl e)] [] h
  refine E_s 7 (i' := 7) (ls' := [some (.inr (.inr 9)), some (.inl k), some (.inl e)]) (sk' := [.inl ((k * 12) + e), .inr (.inr 24)]) (h' := h) rfl ?_
  refine E_ld (x := (.iaload, 0, [], [])) (ty := .int) (n := 3612) rfl rfl rfl (by omega) (by omega) ?_
  show xEx G0 cdX1_outputOn (some .int) (xRn G0 MT d) Q b 8 [some (.inr (.inr 9)), some (.inl k), some (.inl e)] [.inl (h 24 ((k * 12) + e))] h
  exact E_ret (x := (.ireturn, 0, [], [])) (v := some (.inl (h 24 ((k * 12) + e)))) rfl (Or.inl rfl) (hQ)
set_option maxHeartbeats 1000000 in
theorem c_outputOnT (d b : Nat) (h : xH) (k e : Int) (hk : 0 ≤ k ∧ k < 150) {Q : xO → xH → Prop} (hQ : Q (.inl (some (.inl (xand (xshr (h 39 k) e) 1)))) h) : xRn G0 MT (d + 1) b 90 [.inr (.inr 28), .inl k, .inl e] h Q := by
  refine R_of (M := mX9_outputOn) rfl (Nat.le_of_ble_eq_true rfl) ?_
  show xEx G0 cdX9_outputOn (some .int) (xRn G0 MT d) Q b 0 [some (.inr (.inr 28)), some (.inl k), some (.inl e)] [] h
  refine E_s 3 (i' := 3) (ls' := [some (.inr (.inr 28)), some (.inl k), some (.inl e)]) (sk' := [.inl k, .inr (.inr 39)]) (h' := h) rfl ?_
  refine E_ld (x := (.iaload, 0, [], [])) (ty := .int) (n := 150) rfl rfl rfl (by omega) (by omega) ?_
  show xEx G0 cdX9_outputOn (some .int) (xRn G0 MT d) Q b 4 [some (.inr (.inr 28)), some (.inl k), some (.inl e)] [.inl (h 39 k)] h
  refine E_s 4 (i' := 8) (ls' := [some (.inr (.inr 28)), some (.inl k), some (.inl e)]) (sk' := [.inl (xand (xshr (h 39 k) e) 1)]) (h' := h) rfl ?_
  exact E_ret (x := (.ireturn, 0, [], [])) (v := some (.inl (xand (xshr (h 39 k) e) 1))) rfl (Or.inl rfl) (hQ)
set_option maxHeartbeats 1000000 in
theorem c_put_gef (d b : Nat) (h : xH) (k kd x y : Int) (hk : 0 ≤ k ∧ k < 300) {Q : xO → xH → Prop} (hQ : Q (.inl none) (xup (xup (xup h 11 k kd) 12 k x) 13 k y)) : xRn G0 MT (d + 1) b 23 [.inr (.inr 10), .inl k, .inl kd, .inl x, .inl y] h Q := by
  refine R_of (M := mX2_put) rfl (Nat.le_of_ble_eq_true rfl) ?_
  show xEx G0 cdX2_put none (xRn G0 MT d) Q b 0 [some (.inr (.inr 10)), some (.inl k), some (.inl kd), some (.inl x), some (.inl y)] [] h
  refine E_s 4 (i' := 4) (ls' := [some (.inr (.inr 10)), some (.inl k), some (.inl kd), some (.inl x), some (.inl y)]) (sk' := [.inl kd, .inl k, .inr (.inr 11)]) (h' := h) rfl ?_
  refine E_sd (x := (.iastore, 0, [], [])) (ty := .int) (n := 300) (y := kd) rfl rfl rfl (by omega) (by omega) (trivial) ?_
  show xEx G0 cdX2_put none (xRn G0 MT d) Q b 5 [some (.inr (.inr 10)), some (.inl k), some (.inl kd), some (.inl x), some (.inl y)] [] (xup h 11 k kd)
  refine E_s 4 (i' := 9) (ls' := [some (.inr (.inr 10)), some (.inl k), some (.inl kd), some (.inl x), some (.inl y)]) (sk' := [.inl x, .inl k, .inr (.inr 12)]) (h' := (xup h 11 k kd)) rfl ?_
  refine E_sd (x := (.iastore, 0, [], [])) (ty := .int) (n := 300) (y := x) rfl rfl rfl (by omega) (by omega) (trivial) ?_
  show xEx G0 cdX2_put none (xRn G0 MT d) Q b 10 [some (.inr (.inr 10)), some (.inl k), some (.inl kd), some (.inl x), some (.inl y)] [] (xup (xup h 11 k kd) 12 k x)
  refine E_s 4 (i' := 14) (ls' := [some (.inr (.inr 10)), some (.inl k), some (.inl kd), some (.inl x), some (.inl y)]) (sk' := [.inl y, .inl k, .inr (.inr 13)]) (h' := (xup (xup h 11 k kd) 12 k x)) rfl ?_
  refine E_sd (x := (.iastore, 0, [], [])) (ty := .int) (n := 300) (y := y) rfl rfl rfl (by omega) (by omega) (trivial) ?_
  show xEx G0 cdX2_put none (xRn G0 MT d) Q b 15 [some (.inr (.inr 10)), some (.inl k), some (.inl kd), some (.inl x), some (.inl y)] [] (xup (xup (xup h 11 k kd) 12 k x) 13 k y)
  exact E_ret (x := (.return_, 0, [], [])) (v := none) rfl (trivial) (hQ)
set_option maxHeartbeats 1000000 in
theorem c_put_gem (d b : Nat) (h : xH) (k kd x y : Int) (hk : 0 ≤ k ∧ k < 300) {Q : xO → xH → Prop} (hQ : Q (.inl none) (xup (xup (xup h 15 k kd) 16 k x) 17 k y)) : xRn G0 MT (d + 1) b 23 [.inr (.inr 14), .inl k, .inl kd, .inl x, .inl y] h Q := by
  refine R_of (M := mX2_put) rfl (Nat.le_of_ble_eq_true rfl) ?_
  show xEx G0 cdX2_put none (xRn G0 MT d) Q b 0 [some (.inr (.inr 14)), some (.inl k), some (.inl kd), some (.inl x), some (.inl y)] [] h
  refine E_s 4 (i' := 4) (ls' := [some (.inr (.inr 14)), some (.inl k), some (.inl kd), some (.inl x), some (.inl y)]) (sk' := [.inl kd, .inl k, .inr (.inr 15)]) (h' := h) rfl ?_
  refine E_sd (x := (.iastore, 0, [], [])) (ty := .int) (n := 300) (y := kd) rfl rfl rfl (by omega) (by omega) (trivial) ?_
  show xEx G0 cdX2_put none (xRn G0 MT d) Q b 5 [some (.inr (.inr 14)), some (.inl k), some (.inl kd), some (.inl x), some (.inl y)] [] (xup h 15 k kd)
  refine E_s 4 (i' := 9) (ls' := [some (.inr (.inr 14)), some (.inl k), some (.inl kd), some (.inl x), some (.inl y)]) (sk' := [.inl x, .inl k, .inr (.inr 16)]) (h' := (xup h 15 k kd)) rfl ?_
  refine E_sd (x := (.iastore, 0, [], [])) (ty := .int) (n := 300) (y := x) rfl rfl rfl (by omega) (by omega) (trivial) ?_
  show xEx G0 cdX2_put none (xRn G0 MT d) Q b 10 [some (.inr (.inr 14)), some (.inl k), some (.inl kd), some (.inl x), some (.inl y)] [] (xup (xup h 15 k kd) 16 k x)
  refine E_s 4 (i' := 14) (ls' := [some (.inr (.inr 14)), some (.inl k), some (.inl kd), some (.inl x), some (.inl y)]) (sk' := [.inl y, .inl k, .inr (.inr 17)]) (h' := (xup (xup h 15 k kd) 16 k x)) rfl ?_
  refine E_sd (x := (.iastore, 0, [], [])) (ty := .int) (n := 300) (y := y) rfl rfl rfl (by omega) (by omega) (trivial) ?_
  show xEx G0 cdX2_put none (xRn G0 MT d) Q b 15 [some (.inr (.inr 14)), some (.inl k), some (.inl kd), some (.inl x), some (.inl y)] [] (xup (xup (xup h 15 k kd) 16 k x) 17 k y)
  exact E_ret (x := (.return_, 0, [], [])) (v := none) rfl (trivial) (hQ)
set_option maxHeartbeats 1000000 in
theorem c_put_gtf (d b : Nat) (h : xH) (k kd x y : Int) (hk : 0 ≤ k ∧ k < 150) {Q : xO → xH → Prop} (hQ : Q (.inl none) (xup (xup (xup h 30 k kd) 31 k x) 32 k y)) : xRn G0 MT (d + 1) b 23 [.inr (.inr 29), .inl k, .inl kd, .inl x, .inl y] h Q := by
  refine R_of (M := mX2_put) rfl (Nat.le_of_ble_eq_true rfl) ?_
  show xEx G0 cdX2_put none (xRn G0 MT d) Q b 0 [some (.inr (.inr 29)), some (.inl k), some (.inl kd), some (.inl x), some (.inl y)] [] h
  refine E_s 4 (i' := 4) (ls' := [some (.inr (.inr 29)), some (.inl k), some (.inl kd), some (.inl x), some (.inl y)]) (sk' := [.inl kd, .inl k, .inr (.inr 30)]) (h' := h) rfl ?_
  refine E_sd (x := (.iastore, 0, [], [])) (ty := .int) (n := 150) (y := kd) rfl rfl rfl (by omega) (by omega) (trivial) ?_
  show xEx G0 cdX2_put none (xRn G0 MT d) Q b 5 [some (.inr (.inr 29)), some (.inl k), some (.inl kd), some (.inl x), some (.inl y)] [] (xup h 30 k kd)
  refine E_s 4 (i' := 9) (ls' := [some (.inr (.inr 29)), some (.inl k), some (.inl kd), some (.inl x), some (.inl y)]) (sk' := [.inl x, .inl k, .inr (.inr 31)]) (h' := (xup h 30 k kd)) rfl ?_
  refine E_sd (x := (.iastore, 0, [], [])) (ty := .int) (n := 150) (y := x) rfl rfl rfl (by omega) (by omega) (trivial) ?_
  show xEx G0 cdX2_put none (xRn G0 MT d) Q b 10 [some (.inr (.inr 29)), some (.inl k), some (.inl kd), some (.inl x), some (.inl y)] [] (xup (xup h 30 k kd) 31 k x)
  refine E_s 4 (i' := 14) (ls' := [some (.inr (.inr 29)), some (.inl k), some (.inl kd), some (.inl x), some (.inl y)]) (sk' := [.inl y, .inl k, .inr (.inr 32)]) (h' := (xup (xup h 30 k kd) 31 k x)) rfl ?_
  refine E_sd (x := (.iastore, 0, [], [])) (ty := .int) (n := 150) (y := y) rfl rfl rfl (by omega) (by omega) (trivial) ?_
  show xEx G0 cdX2_put none (xRn G0 MT d) Q b 15 [some (.inr (.inr 29)), some (.inl k), some (.inl kd), some (.inl x), some (.inl y)] [] (xup (xup (xup h 30 k kd) 31 k x) 32 k y)
  exact E_ret (x := (.return_, 0, [], [])) (v := none) rfl (trivial) (hQ)
set_option maxHeartbeats 1000000 in
theorem c_put_gtm (d b : Nat) (h : xH) (k kd x y : Int) (hk : 0 ≤ k ∧ k < 150) {Q : xO → xH → Prop} (hQ : Q (.inl none) (xup (xup (xup h 34 k kd) 35 k x) 36 k y)) : xRn G0 MT (d + 1) b 23 [.inr (.inr 33), .inl k, .inl kd, .inl x, .inl y] h Q := by
  refine R_of (M := mX2_put) rfl (Nat.le_of_ble_eq_true rfl) ?_
  show xEx G0 cdX2_put none (xRn G0 MT d) Q b 0 [some (.inr (.inr 33)), some (.inl k), some (.inl kd), some (.inl x), some (.inl y)] [] h
  refine E_s 4 (i' := 4) (ls' := [some (.inr (.inr 33)), some (.inl k), some (.inl kd), some (.inl x), some (.inl y)]) (sk' := [.inl kd, .inl k, .inr (.inr 34)]) (h' := h) rfl ?_
  refine E_sd (x := (.iastore, 0, [], [])) (ty := .int) (n := 150) (y := kd) rfl rfl rfl (by omega) (by omega) (trivial) ?_
  show xEx G0 cdX2_put none (xRn G0 MT d) Q b 5 [some (.inr (.inr 33)), some (.inl k), some (.inl kd), some (.inl x), some (.inl y)] [] (xup h 34 k kd)
  refine E_s 4 (i' := 9) (ls' := [some (.inr (.inr 33)), some (.inl k), some (.inl kd), some (.inl x), some (.inl y)]) (sk' := [.inl x, .inl k, .inr (.inr 35)]) (h' := (xup h 34 k kd)) rfl ?_
  refine E_sd (x := (.iastore, 0, [], [])) (ty := .int) (n := 150) (y := x) rfl rfl rfl (by omega) (by omega) (trivial) ?_
  show xEx G0 cdX2_put none (xRn G0 MT d) Q b 10 [some (.inr (.inr 33)), some (.inl k), some (.inl kd), some (.inl x), some (.inl y)] [] (xup (xup h 34 k kd) 35 k x)
  refine E_s 4 (i' := 14) (ls' := [some (.inr (.inr 33)), some (.inl k), some (.inl kd), some (.inl x), some (.inl y)]) (sk' := [.inl y, .inl k, .inr (.inr 36)]) (h' := (xup (xup h 34 k kd) 35 k x)) rfl ?_
  refine E_sd (x := (.iastore, 0, [], [])) (ty := .int) (n := 150) (y := y) rfl rfl rfl (by omega) (by omega) (trivial) ?_
  show xEx G0 cdX2_put none (xRn G0 MT d) Q b 15 [some (.inr (.inr 33)), some (.inl k), some (.inl kd), some (.inl x), some (.inl y)] [] (xup (xup (xup h 34 k kd) 35 k x) 36 k y)
  exact E_ret (x := (.return_, 0, [], [])) (v := none) rfl (trivial) (hQ)
set_option maxHeartbeats 1000000 in
theorem c_begin_ge (d b : Nat) (h : xH) (s : Int) (hs : xr s) {Q : xO → xH → Prop} (hQ : Q (.inl (some (.inl (if 1 ≤ s ∧ s < 10 then h 23 (s - 1) else 0)))) h) : xRn G0 MT (d + 1) b 30 [.inr (.inr 9), .inl s] h Q := by
  refine R_of (M := mX3_begin) rfl (Nat.le_of_ble_eq_true rfl) ?_
  show xEx G0 cdX3_begin (some .int) (xRn G0 MT d) Q b 0 [some (.inr (.inr 9)), some (.inl s)] [] h
  refine E_s 2 (i' := 2) (ls' := [some (.inr (.inr 9)), some (.inl s)]) (sk' := [.inl 1, .inl s]) (h' := h) rfl ?_
  refine E_b (x := (.if_icmp .lt 12, 8, [], [])) rfl rfl (fun c2 => ?_) (fun c2 => ?_)
  · rw [c_lt (by first | assumption | (refine ⟨?_, ?_⟩ <;> omega) | (simp only [xr] at *; omega)) (by first | assumption | (refine ⟨?_, ?_⟩ <;> omega) | (simp only [xr] at *; omega))] at c2
    simp only [decide_eq_true_eq, decide_eq_false_iff_not, Decidable.not_not] at c2
    show xEx G0 cdX3_begin (some .int) (xRn G0 MT d) Q b 8 [some (.inr (.inr 9)), some (.inl s)] [] h
    refine E_s 2 (i' := 16) (ls' := [some (.inr (.inr 9)), some (.inl s)]) (sk' := [.inl 0]) (h' := h) rfl ?_
    exact E_ret (x := (.ireturn, 0, [], [])) (v := some (.inl 0)) rfl (Or.inl rfl) (by first | (rw [if_pos (by omega)] at hQ; exact hQ) | (rw [if_neg (by omega)] at hQ; exact hQ))
  · rw [c_lt (by first | assumption | (refine ⟨?_, ?_⟩ <;> omega) | (simp only [xr] at *; omega)) (by first | assumption | (refine ⟨?_, ?_⟩ <;> omega) | (simp only [xr] at *; omega))] at c2
    simp only [decide_eq_true_eq, decide_eq_false_iff_not, Decidable.not_not] at c2
    show xEx G0 cdX3_begin (some .int) (xRn G0 MT d) Q b 3 [some (.inr (.inr 9)), some (.inl s)] [] h
    refine E_s 4 (i' := 7) (ls' := [some (.inr (.inr 9)), some (.inl s)]) (sk' := [.inl 10, .inl s]) (h' := h) rfl ?_
    refine E_b (x := (.if_icmp .lt 7, 10, [], [])) rfl rfl (fun c7 => ?_) (fun c7 => ?_)
    · rw [c_lt (by first | assumption | (refine ⟨?_, ?_⟩ <;> omega) | (simp only [xr] at *; omega)) (by first | assumption | (refine ⟨?_, ?_⟩ <;> omega) | (simp only [xr] at *; omega))] at c7
      simp only [decide_eq_true_eq, decide_eq_false_iff_not, Decidable.not_not] at c7
      show xEx G0 cdX3_begin (some .int) (xRn G0 MT d) Q b 10 [some (.inr (.inr 9)), some (.inl s)] [] h
      refine E_s 5 (i' := 15) (ls' := [some (.inr (.inr 9)), some (.inl s)]) (sk' := [.inl (s - 1), .inr (.inr 23)]) (h' := h) rfl ?_
      refine E_ld (x := (.iaload, 0, [], [])) (ty := .int) (n := 10) rfl rfl rfl (by omega) (by omega) ?_
      show xEx G0 cdX3_begin (some .int) (xRn G0 MT d) Q b 16 [some (.inr (.inr 9)), some (.inl s)] [.inl (h 23 (s - 1))] h
      exact E_ret (x := (.ireturn, 0, [], [])) (v := some (.inl (h 23 (s - 1)))) rfl (Or.inl rfl) (by first | (rw [if_pos (by omega)] at hQ; exact hQ) | (rw [if_neg (by omega)] at hQ; exact hQ))
    · rw [c_lt (by first | assumption | (refine ⟨?_, ?_⟩ <;> omega) | (simp only [xr] at *; omega)) (by first | assumption | (refine ⟨?_, ?_⟩ <;> omega) | (simp only [xr] at *; omega))] at c7
      simp only [decide_eq_true_eq, decide_eq_false_iff_not, Decidable.not_not] at c7
      show xEx G0 cdX3_begin (some .int) (xRn G0 MT d) Q b 8 [some (.inr (.inr 9)), some (.inl s)] [] h
      refine E_s 2 (i' := 16) (ls' := [some (.inr (.inr 9)), some (.inl s)]) (sk' := [.inl 0]) (h' := h) rfl ?_
      exact E_ret (x := (.ireturn, 0, [], [])) (v := some (.inl 0)) rfl (Or.inl rfl) (by first | (rw [if_pos (by omega)] at hQ; exact hQ) | (rw [if_neg (by omega)] at hQ; exact hQ))
set_option maxHeartbeats 1000000 in
theorem c_end_ge (d b : Nat) (h : xH) (s : Int) (hs : xr s) {Q : xO → xH → Prop} (hQ : Q (.inl (some (.inl (if 1 ≤ s ∧ s < 10 then h 23 s else 0)))) h) : xRn G0 MT (d + 1) b 31 [.inr (.inr 9), .inl s] h Q := by
  refine R_of (M := mX3_end) rfl (Nat.le_of_ble_eq_true rfl) ?_
  show xEx G0 cdX3_end (some .int) (xRn G0 MT d) Q b 0 [some (.inr (.inr 9)), some (.inl s)] [] h
  refine E_s 2 (i' := 2) (ls' := [some (.inr (.inr 9)), some (.inl s)]) (sk' := [.inl 1, .inl s]) (h' := h) rfl ?_
  refine E_b (x := (.if_icmp .lt 12, 8, [], [])) rfl rfl (fun c2 => ?_) (fun c2 => ?_)
  · rw [c_lt (by first | assumption | (refine ⟨?_, ?_⟩ <;> omega) | (simp only [xr] at *; omega)) (by first | assumption | (refine ⟨?_, ?_⟩ <;> omega) | (simp only [xr] at *; omega))] at c2
    simp only [decide_eq_true_eq, decide_eq_false_iff_not, Decidable.not_not] at c2
    show xEx G0 cdX3_end (some .int) (xRn G0 MT d) Q b 8 [some (.inr (.inr 9)), some (.inl s)] [] h
    refine E_s 2 (i' := 14) (ls' := [some (.inr (.inr 9)), some (.inl s)]) (sk' := [.inl 0]) (h' := h) rfl ?_
    exact E_ret (x := (.ireturn, 0, [], [])) (v := some (.inl 0)) rfl (Or.inl rfl) (by first | (rw [if_pos (by omega)] at hQ; exact hQ) | (rw [if_neg (by omega)] at hQ; exact hQ))
  · rw [c_lt (by first | assumption | (refine ⟨?_, ?_⟩ <;> omega) | (simp only [xr] at *; omega)) (by first | assumption | (refine ⟨?_, ?_⟩ <;> omega) | (simp only [xr] at *; omega))] at c2
    simp only [decide_eq_true_eq, decide_eq_false_iff_not, Decidable.not_not] at c2
    show xEx G0 cdX3_end (some .int) (xRn G0 MT d) Q b 3 [some (.inr (.inr 9)), some (.inl s)] [] h
    refine E_s 4 (i' := 7) (ls' := [some (.inr (.inr 9)), some (.inl s)]) (sk' := [.inl 10, .inl s]) (h' := h) rfl ?_
    refine E_b (x := (.if_icmp .lt 7, 10, [], [])) rfl rfl (fun c7 => ?_) (fun c7 => ?_)
    · rw [c_lt (by first | assumption | (refine ⟨?_, ?_⟩ <;> omega) | (simp only [xr] at *; omega)) (by first | assumption | (refine ⟨?_, ?_⟩ <;> omega) | (simp only [xr] at *; omega))] at c7
      simp only [decide_eq_true_eq, decide_eq_false_iff_not, Decidable.not_not] at c7
      show xEx G0 cdX3_end (some .int) (xRn G0 MT d) Q b 10 [some (.inr (.inr 9)), some (.inl s)] [] h
      refine E_s 3 (i' := 13) (ls' := [some (.inr (.inr 9)), some (.inl s)]) (sk' := [.inl s, .inr (.inr 23)]) (h' := h) rfl ?_
      refine E_ld (x := (.iaload, 0, [], [])) (ty := .int) (n := 10) rfl rfl rfl (by omega) (by omega) ?_
      show xEx G0 cdX3_end (some .int) (xRn G0 MT d) Q b 14 [some (.inr (.inr 9)), some (.inl s)] [.inl (h 23 s)] h
      exact E_ret (x := (.ireturn, 0, [], [])) (v := some (.inl (h 23 s))) rfl (Or.inl rfl) (by first | (rw [if_pos (by omega)] at hQ; exact hQ) | (rw [if_neg (by omega)] at hQ; exact hQ))
    · rw [c_lt (by first | assumption | (refine ⟨?_, ?_⟩ <;> omega) | (simp only [xr] at *; omega)) (by first | assumption | (refine ⟨?_, ?_⟩ <;> omega) | (simp only [xr] at *; omega))] at c7
      simp only [decide_eq_true_eq, decide_eq_false_iff_not, Decidable.not_not] at c7
      show xEx G0 cdX3_end (some .int) (xRn G0 MT d) Q b 8 [some (.inr (.inr 9)), some (.inl s)] [] h
      refine E_s 2 (i' := 14) (ls' := [some (.inr (.inr 9)), some (.inl s)]) (sk' := [.inl 0]) (h' := h) rfl ?_
      exact E_ret (x := (.ireturn, 0, [], [])) (v := some (.inl 0)) rfl (Or.inl rfl) (by first | (rw [if_pos (by omega)] at hQ; exact hQ) | (rw [if_neg (by omega)] at hQ; exact hQ))
set_option maxHeartbeats 1000000 in
theorem c_begin_gt (d b : Nat) (h : xH) (s : Int) (hs : xr s) {Q : xO → xH → Prop} (hQ : Q (.inl (some (.inl (if 1 ≤ s ∧ s < 8 then h 42 (s - 1) else 0)))) h) : xRn G0 MT (d + 1) b 30 [.inr (.inr 28), .inl s] h Q := by
  refine R_of (M := mX3_begin) rfl (Nat.le_of_ble_eq_true rfl) ?_
  show xEx G0 cdX3_begin (some .int) (xRn G0 MT d) Q b 0 [some (.inr (.inr 28)), some (.inl s)] [] h
  refine E_s 2 (i' := 2) (ls' := [some (.inr (.inr 28)), some (.inl s)]) (sk' := [.inl 1, .inl s]) (h' := h) rfl ?_
  refine E_b (x := (.if_icmp .lt 12, 8, [], [])) rfl rfl (fun c2 => ?_) (fun c2 => ?_)
  · rw [c_lt (by first | assumption | (refine ⟨?_, ?_⟩ <;> omega) | (simp only [xr] at *; omega)) (by first | assumption | (refine ⟨?_, ?_⟩ <;> omega) | (simp only [xr] at *; omega))] at c2
    simp only [decide_eq_true_eq, decide_eq_false_iff_not, Decidable.not_not] at c2
    show xEx G0 cdX3_begin (some .int) (xRn G0 MT d) Q b 8 [some (.inr (.inr 28)), some (.inl s)] [] h
    refine E_s 2 (i' := 16) (ls' := [some (.inr (.inr 28)), some (.inl s)]) (sk' := [.inl 0]) (h' := h) rfl ?_
    exact E_ret (x := (.ireturn, 0, [], [])) (v := some (.inl 0)) rfl (Or.inl rfl) (by first | (rw [if_pos (by omega)] at hQ; exact hQ) | (rw [if_neg (by omega)] at hQ; exact hQ))
  · rw [c_lt (by first | assumption | (refine ⟨?_, ?_⟩ <;> omega) | (simp only [xr] at *; omega)) (by first | assumption | (refine ⟨?_, ?_⟩ <;> omega) | (simp only [xr] at *; omega))] at c2
    simp only [decide_eq_true_eq, decide_eq_false_iff_not, Decidable.not_not] at c2
    show xEx G0 cdX3_begin (some .int) (xRn G0 MT d) Q b 3 [some (.inr (.inr 28)), some (.inl s)] [] h
    refine E_s 4 (i' := 7) (ls' := [some (.inr (.inr 28)), some (.inl s)]) (sk' := [.inl 8, .inl s]) (h' := h) rfl ?_
    refine E_b (x := (.if_icmp .lt 7, 10, [], [])) rfl rfl (fun c7 => ?_) (fun c7 => ?_)
    · rw [c_lt (by first | assumption | (refine ⟨?_, ?_⟩ <;> omega) | (simp only [xr] at *; omega)) (by first | assumption | (refine ⟨?_, ?_⟩ <;> omega) | (simp only [xr] at *; omega))] at c7
      simp only [decide_eq_true_eq, decide_eq_false_iff_not, Decidable.not_not] at c7
      show xEx G0 cdX3_begin (some .int) (xRn G0 MT d) Q b 10 [some (.inr (.inr 28)), some (.inl s)] [] h
      refine E_s 5 (i' := 15) (ls' := [some (.inr (.inr 28)), some (.inl s)]) (sk' := [.inl (s - 1), .inr (.inr 42)]) (h' := h) rfl ?_
      refine E_ld (x := (.iaload, 0, [], [])) (ty := .int) (n := 8) rfl rfl rfl (by omega) (by omega) ?_
      show xEx G0 cdX3_begin (some .int) (xRn G0 MT d) Q b 16 [some (.inr (.inr 28)), some (.inl s)] [.inl (h 42 (s - 1))] h
      exact E_ret (x := (.ireturn, 0, [], [])) (v := some (.inl (h 42 (s - 1)))) rfl (Or.inl rfl) (by first | (rw [if_pos (by omega)] at hQ; exact hQ) | (rw [if_neg (by omega)] at hQ; exact hQ))
    · rw [c_lt (by first | assumption | (refine ⟨?_, ?_⟩ <;> omega) | (simp only [xr] at *; omega)) (by first | assumption | (refine ⟨?_, ?_⟩ <;> omega) | (simp only [xr] at *; omega))] at c7
      simp only [decide_eq_true_eq, decide_eq_false_iff_not, Decidable.not_not] at c7
      show xEx G0 cdX3_begin (some .int) (xRn G0 MT d) Q b 8 [some (.inr (.inr 28)), some (.inl s)] [] h
      refine E_s 2 (i' := 16) (ls' := [some (.inr (.inr 28)), some (.inl s)]) (sk' := [.inl 0]) (h' := h) rfl ?_
      exact E_ret (x := (.ireturn, 0, [], [])) (v := some (.inl 0)) rfl (Or.inl rfl) (by first | (rw [if_pos (by omega)] at hQ; exact hQ) | (rw [if_neg (by omega)] at hQ; exact hQ))
set_option maxHeartbeats 1000000 in
theorem c_end_gt (d b : Nat) (h : xH) (s : Int) (hs : xr s) {Q : xO → xH → Prop} (hQ : Q (.inl (some (.inl (if 1 ≤ s ∧ s < 8 then h 42 s else 0)))) h) : xRn G0 MT (d + 1) b 31 [.inr (.inr 28), .inl s] h Q := by
  refine R_of (M := mX3_end) rfl (Nat.le_of_ble_eq_true rfl) ?_
  show xEx G0 cdX3_end (some .int) (xRn G0 MT d) Q b 0 [some (.inr (.inr 28)), some (.inl s)] [] h
  refine E_s 2 (i' := 2) (ls' := [some (.inr (.inr 28)), some (.inl s)]) (sk' := [.inl 1, .inl s]) (h' := h) rfl ?_
  refine E_b (x := (.if_icmp .lt 12, 8, [], [])) rfl rfl (fun c2 => ?_) (fun c2 => ?_)
  · rw [c_lt (by first | assumption | (refine ⟨?_, ?_⟩ <;> omega) | (simp only [xr] at *; omega)) (by first | assumption | (refine ⟨?_, ?_⟩ <;> omega) | (simp only [xr] at *; omega))] at c2
    simp only [decide_eq_true_eq, decide_eq_false_iff_not, Decidable.not_not] at c2
    show xEx G0 cdX3_end (some .int) (xRn G0 MT d) Q b 8 [some (.inr (.inr 28)), some (.inl s)] [] h
    refine E_s 2 (i' := 14) (ls' := [some (.inr (.inr 28)), some (.inl s)]) (sk' := [.inl 0]) (h' := h) rfl ?_
    exact E_ret (x := (.ireturn, 0, [], [])) (v := some (.inl 0)) rfl (Or.inl rfl) (by first | (rw [if_pos (by omega)] at hQ; exact hQ) | (rw [if_neg (by omega)] at hQ; exact hQ))
  · rw [c_lt (by first | assumption | (refine ⟨?_, ?_⟩ <;> omega) | (simp only [xr] at *; omega)) (by first | assumption | (refine ⟨?_, ?_⟩ <;> omega) | (simp only [xr] at *; omega))] at c2
    simp only [decide_eq_true_eq, decide_eq_false_iff_not, Decidable.not_not] at c2
    show xEx G0 cdX3_end (some .int) (xRn G0 MT d) Q b 3 [some (.inr (.inr 28)), some (.inl s)] [] h
    refine E_s 4 (i' := 7) (ls' := [some (.inr (.inr 28)), some (.inl s)]) (sk' := [.inl 8, .inl s]) (h' := h) rfl ?_
    refine E_b (x := (.if_icmp .lt 7, 10, [], [])) rfl rfl (fun c7 => ?_) (fun c7 => ?_)
    · rw [c_lt (by first | assumption | (refine ⟨?_, ?_⟩ <;> omega) | (simp only [xr] at *; omega)) (by first | assumption | (refine ⟨?_, ?_⟩ <;> omega) | (simp only [xr] at *; omega))] at c7
      simp only [decide_eq_true_eq, decide_eq_false_iff_not, Decidable.not_not] at c7
      show xEx G0 cdX3_end (some .int) (xRn G0 MT d) Q b 10 [some (.inr (.inr 28)), some (.inl s)] [] h
      refine E_s 3 (i' := 13) (ls' := [some (.inr (.inr 28)), some (.inl s)]) (sk' := [.inl s, .inr (.inr 42)]) (h' := h) rfl ?_
      refine E_ld (x := (.iaload, 0, [], [])) (ty := .int) (n := 8) rfl rfl rfl (by omega) (by omega) ?_
      show xEx G0 cdX3_end (some .int) (xRn G0 MT d) Q b 14 [some (.inr (.inr 28)), some (.inl s)] [.inl (h 42 s)] h
      exact E_ret (x := (.ireturn, 0, [], [])) (v := some (.inl (h 42 s))) rfl (Or.inl rfl) (by first | (rw [if_pos (by omega)] at hQ; exact hQ) | (rw [if_neg (by omega)] at hQ; exact hQ))
    · rw [c_lt (by first | assumption | (refine ⟨?_, ?_⟩ <;> omega) | (simp only [xr] at *; omega)) (by first | assumption | (refine ⟨?_, ?_⟩ <;> omega) | (simp only [xr] at *; omega))] at c7
      simp only [decide_eq_true_eq, decide_eq_false_iff_not, Decidable.not_not] at c7
      show xEx G0 cdX3_end (some .int) (xRn G0 MT d) Q b 8 [some (.inr (.inr 28)), some (.inl s)] [] h
      refine E_s 2 (i' := 14) (ls' := [some (.inr (.inr 28)), some (.inl s)]) (sk' := [.inl 0]) (h' := h) rfl ?_
      exact E_ret (x := (.ireturn, 0, [], [])) (v := some (.inl 0)) rfl (Or.inl rfl) (by first | (rw [if_pos (by omega)] at hQ; exact hQ) | (rw [if_neg (by omega)] at hQ; exact hQ))
set_option maxHeartbeats 1000000 in
theorem c_settle (d b : Nat) (h : xH) (k : Int) (hn : 0 ≤ h 1 2 ∧ h 1 2 ≤ 12) (hk : 0 ≤ k ∧ k < 300) (hs : 0 ≤ h 9 23 ∧ h 9 23 ≤ 511) (hr : ∀ e, 0 ≤ e → e < h 1 2 → xr (h 24 (k * 12 + e)) ∧ xr (h 6 e)) {Q : xO → xH → Prop} (hQ : Q (.inl none) (xup (xup (xup (xup h 27 k (h 9 23)) 26 k (h 25 (h 9 23))) 25 (h 9 23) k) 20 k (cv (fun e => h 24 (k * 12 + e) = h 6 e) (h 1 2).toNat))) : xRn G0 MT (d + 2) b 16 [.inr (.inr 9), .inl k] h Q := by
  refine R_of (M := mX1_settleOutputs) rfl (Nat.le_of_ble_eq_true rfl) ?_
  show xEx G0 cdX1_settleOutputs none (xRn G0 MT (d + 1)) Q b 0 [some (.inr (.inr 9)), some (.inl k), none, none] [] h
  refine E_s 5 (i' := 5) (ls' := [some (.inr (.inr 9)), some (.inl k), none, none]) (sk' := [.inl (h 9 23), .inl k, .inr (.inr 27)]) (h' := h) rfl ?_
  refine E_sd (x := (.iastore, 0, [], [])) (ty := .int) (n := 300) (y := (h 9 23)) rfl rfl rfl (by omega) (by omega) (trivial) ?_
  show xEx G0 cdX1_settleOutputs none (xRn G0 MT (d + 1)) Q b 6 [some (.inr (.inr 9)), some (.inl k), none, none] [] (xup h 27 k (h 9 23))
  refine E_s 7 (i' := 13) (ls' := [some (.inr (.inr 9)), some (.inl k), none, none]) (sk' := [.inl (h 9 23), .inr (.inr 25), .inl k, .inr (.inr 26)]) (h' := (xup h 27 k (h 9 23))) rfl ?_
  refine E_ld (x := (.iaload, 0, [], [])) (ty := .int) (n := 512) rfl rfl rfl (by omega) (by omega) ?_
  show xEx G0 cdX1_settleOutputs none (xRn G0 MT (d + 1)) Q b 14 [some (.inr (.inr 9)), some (.inl k), none, none] [.inl (h 25 (h 9 23)), .inl k, .inr (.inr 26)] (xup h 27 k (h 9 23))
  refine E_sd (x := (.iastore, 0, [], [])) (ty := .int) (n := 300) (y := (h 25 (h 9 23))) rfl rfl rfl (by omega) (by omega) (trivial) ?_
  show xEx G0 cdX1_settleOutputs none (xRn G0 MT (d + 1)) Q b 15 [some (.inr (.inr 9)), some (.inl k), none, none] [] (xup (xup h 27 k (h 9 23)) 26 k (h 25 (h 9 23)))
  refine E_s 5 (i' := 20) (ls' := [some (.inr (.inr 9)), some (.inl k), none, none]) (sk' := [.inl k, .inl (h 9 23), .inr (.inr 25)]) (h' := (xup (xup h 27 k (h 9 23)) 26 k (h 25 (h 9 23)))) rfl ?_
  refine E_sd (x := (.iastore, 0, [], [])) (ty := .int) (n := 512) (y := k) rfl rfl rfl (by omega) (by omega) (trivial) ?_
  show xEx G0 cdX1_settleOutputs none (xRn G0 MT (d + 1)) Q b 21 [some (.inr (.inr 9)), some (.inl k), none, none] [] (xup (xup (xup h 27 k (h 9 23)) 26 k (h 25 (h 9 23))) 25 (h 9 23) k)
  refine E_s 3 (i' := 24) (ls' := [some (.inr (.inr 9)), some (.inl k), some (.inl 0), none]) (sk' := [.inl 0]) (h' := (xup (xup (xup h 27 k (h 9 23)) 26 k (h 25 (h 9 23))) 25 (h 9 23) k)) rfl ?_
  
  refine E_s 1 (i' := 25) (ls' := [some (.inr (.inr 9)), some (.inl k), some (.inl 0), some (.inl 0)]) (sk' := []) (h' := (xup (xup (xup h 27 k (h 9 23)) 26 k (h 25 (h 9 23))) 25 (h 9 23) k)) rfl ?_
  have key25 : ∀ (n : Nat) (e : Int), (0 ≤ e) → (e ≤ h 1 2) → ((h 1 2 - e).toNat) < n → xEx G0 cdX1_settleOutputs none (xRn G0 MT (d + 1)) Q b 25 [some (.inr (.inr 9)), some (.inl k), some (.inl (cv (fun e => h 24 (k * 12 + e) = h 6 e) e.toNat : Int)), some (.inl e)] [] (xup (xup (xup h 27 k (h 9 23)) 26 k (h 25 (h 9 23))) 25 (h 9 23) k) := by
    intro n
    induction n with
    | zero => intro e _ _ hm; exact absurd hm (Nat.not_lt_zero _)
    | succ n ih25 =>
      intro e he0 he1 hm25
      refine E_s 4 (i' := 29) (ls' := [some (.inr (.inr 9)), some (.inl k), some (.inl (cv (fun e => h 24 (k * 12 + e) = h 6 e) e.toNat : Int)), some (.inl e)]) (sk' := [.inl (h 1 2), .inl e]) (h' := (xup (xup (xup h 27 k (h 9 23)) 26 k (h 25 (h 9 23))) 25 (h 9 23) k)) rfl ?_
      refine E_b (x := (.if_icmp .ge 35, 50, [], [])) rfl rfl (fun c29 => ?_) (fun c29 => ?_)
      · rw [c_ge (by first | assumption | (refine ⟨?_, ?_⟩ <;> omega) | (simp only [xr] at *; omega)) (by first | assumption | (refine ⟨?_, ?_⟩ <;> omega) | (simp only [xr] at *; omega))] at c29
        simp only [decide_eq_true_eq, decide_eq_false_iff_not, Decidable.not_not] at c29
        show xEx G0 cdX1_settleOutputs none (xRn G0 MT (d + 1)) Q b 50 [some (.inr (.inr 9)), some (.inl k), some (.inl (cv (fun e => h 24 (k * 12 + e) = h 6 e) e.toNat : Int)), some (.inl e)] [] (xup (xup (xup h 27 k (h 9 23)) 26 k (h 25 (h 9 23))) 25 (h 9 23) k)
        refine E_s 4 (i' := 54) (ls' := [some (.inr (.inr 9)), some (.inl k), some (.inl (cv (fun e => h 24 (k * 12 + e) = h 6 e) e.toNat : Int)), some (.inl e)]) (sk' := [.inl (cv (fun e => h 24 (k * 12 + e) = h 6 e) e.toNat : Int), .inl k, .inr (.inr 20)]) (h' := (xup (xup (xup h 27 k (h 9 23)) 26 k (h 25 (h 9 23))) 25 (h 9 23) k)) rfl ?_
        refine E_sd (x := (.iastore, 0, [], [])) (ty := .int) (n := 300) (y := (cv (fun e => h 24 (k * 12 + e) = h 6 e) e.toNat : Int)) rfl rfl rfl (by omega) (by omega) (trivial) ?_
        show xEx G0 cdX1_settleOutputs none (xRn G0 MT (d + 1)) Q b 55 [some (.inr (.inr 9)), some (.inl k), some (.inl (cv (fun e => h 24 (k * 12 + e) = h 6 e) e.toNat : Int)), some (.inl e)] [] (xup (xup (xup (xup h 27 k (h 9 23)) 26 k (h 25 (h 9 23))) 25 (h 9 23) k) 20 k (cv (fun e => h 24 (k * 12 + e) = h 6 e) e.toNat : Int))
        exact E_ret (x := (.return_, 0, [], [])) (v := none) rfl (trivial) (by obtain e9 : e = h 1 2 := (by omega); rw [e9]; exact hQ)
      · rw [c_ge (by first | assumption | (refine ⟨?_, ?_⟩ <;> omega) | (simp only [xr] at *; omega)) (by first | assumption | (refine ⟨?_, ?_⟩ <;> omega) | (simp only [xr] at *; omega))] at c29
        simp only [decide_eq_true_eq, decide_eq_false_iff_not, Decidable.not_not] at c29
        show xEx G0 cdX1_settleOutputs none (xRn G0 MT (d + 1)) Q b 30 [some (.inr (.inr 9)), some (.inl k), some (.inl (cv (fun e => h 24 (k * 12 + e) = h 6 e) e.toNat : Int)), some (.inl e)] [] (xup (xup (xup h 27 k (h 9 23)) 26 k (h 25 (h 9 23))) 25 (h 9 23) k)
        obtain ⟨r1, r2⟩ := hr e he0 (by omega)
        refine E_s 3 (i' := 33) (ls' := [some (.inr (.inr 9)), some (.inl k), some (.inl (cv (fun e => h 24 (k * 12 + e) = h 6 e) e.toNat : Int)), some (.inl e)]) (sk' := [.inl e, .inl k, .inr (.inr 9)]) (h' := (xup (xup (xup h 27 k (h 9 23)) 26 k (h 25 (h 9 23))) 25 (h 9 23) k)) rfl ?_
        refine E_ci (x := (.invokevirtual 126, 2, [(1, 19)], [0])) (r := (h 24 (k * 12 + e))) (h' := (xup (xup (xup h 27 k (h 9 23)) 26 k (h 25 (h 9 23))) 25 (h 9 23) k)) rfl rfl (Nat.le_of_ble_eq_true rfl) (c_outputOn d 0 (xup (xup (xup h 27 k (h 9 23)) 26 k (h 25 (h 9 23))) 25 (h 9 23) k) k e (by omega) (by omega) ⟨rfl, rfl⟩) ?_
        show xEx G0 cdX1_settleOutputs none (xRn G0 MT (d + 1)) Q b 34 [some (.inr (.inr 9)), some (.inl k), some (.inl (cv (fun e => h 24 (k * 12 + e) = h 6 e) e.toNat : Int)), some (.inl e)] [.inl (h 24 (k * 12 + e))] (xup (xup (xup h 27 k (h 9 23)) 26 k (h 25 (h 9 23))) 25 (h 9 23) k)
        refine E_s 4 (i' := 38) (ls' := [some (.inr (.inr 9)), some (.inl k), some (.inl (cv (fun e => h 24 (k * 12 + e) = h 6 e) e.toNat : Int)), some (.inl e)]) (sk' := [.inl 3, .inr (.inr 2), .inl (h 24 (k * 12 + e))]) (h' := (xup (xup (xup h 27 k (h 9 23)) 26 k (h 25 (h 9 23))) 25 (h 9 23) k)) rfl ?_
        refine E_ald (x := (.aaload, 0, [], [])) 3 rfl rfl rfl (rfl) rfl ?_
        show xEx G0 cdX1_settleOutputs none (xRn G0 MT (d + 1)) Q b 39 [some (.inr (.inr 9)), some (.inl k), some (.inl (cv (fun e => h 24 (k * 12 + e) = h 6 e) e.toNat : Int)), some (.inl e)] [.inr (.inr 6), .inl (h 24 (k * 12 + e))] (xup (xup (xup h 27 k (h 9 23)) 26 k (h 25 (h 9 23))) 25 (h 9 23) k)
        refine E_s 1 (i' := 40) (ls' := [some (.inr (.inr 9)), some (.inl k), some (.inl (cv (fun e => h 24 (k * 12 + e) = h 6 e) e.toNat : Int)), some (.inl e)]) (sk' := [.inl e, .inr (.inr 6), .inl (h 24 (k * 12 + e))]) (h' := (xup (xup (xup h 27 k (h 9 23)) 26 k (h 25 (h 9 23))) 25 (h 9 23) k)) rfl ?_
        refine E_ld (x := (.iaload, 0, [], [])) (ty := .int) (n := 12) rfl rfl rfl (by omega) (by omega) ?_
        show xEx G0 cdX1_settleOutputs none (xRn G0 MT (d + 1)) Q b 41 [some (.inr (.inr 9)), some (.inl k), some (.inl (cv (fun e => h 24 (k * 12 + e) = h 6 e) e.toNat : Int)), some (.inl e)] [.inl (h 6 e), .inl (h 24 (k * 12 + e))] (xup (xup (xup h 27 k (h 9 23)) 26 k (h 25 (h 9 23))) 25 (h 9 23) k)
        refine E_b (x := (.if_icmp .ne 9, 48, [], [])) rfl rfl (fun c41 => ?_) (fun c41 => ?_)
        · rw [c_ne (by first | assumption | (refine ⟨?_, ?_⟩ <;> omega) | (simp only [xr] at *; omega)) (by first | assumption | (refine ⟨?_, ?_⟩ <;> omega) | (simp only [xr] at *; omega))] at c41
          simp only [decide_eq_true_eq, decide_eq_false_iff_not, Decidable.not_not] at c41
          show xEx G0 cdX1_settleOutputs none (xRn G0 MT (d + 1)) Q b 48 [some (.inr (.inr 9)), some (.inl k), some (.inl (cv (fun e => h 24 (k * 12 + e) = h 6 e) e.toNat : Int)), some (.inl e)] [] (xup (xup (xup h 27 k (h 9 23)) 26 k (h 25 (h 9 23))) 25 (h 9 23) k)
          rw [cv_s0 (p := fun e => h 24 (k * 12 + e) = h 6 e) he0 c41]
          refine E_s 2 (i' := 25) (ls' := [some (.inr (.inr 9)), some (.inl k), some (.inl (cv (fun e => h 24 (k * 12 + e) = h 6 e) (e + 1).toNat : Int)), some (.inl (e + 1))]) (sk' := []) (h' := (xup (xup (xup h 27 k (h 9 23)) 26 k (h 25 (h 9 23))) 25 (h 9 23) k)) rfl ?_
          exact ih25 (e + 1) (by omega) (by omega) (by omega)
        · rw [c_ne (by first | assumption | (refine ⟨?_, ?_⟩ <;> omega) | (simp only [xr] at *; omega)) (by first | assumption | (refine ⟨?_, ?_⟩ <;> omega) | (simp only [xr] at *; omega))] at c41
          simp only [decide_eq_true_eq, decide_eq_false_iff_not, Decidable.not_not] at c41
          show xEx G0 cdX1_settleOutputs none (xRn G0 MT (d + 1)) Q b 42 [some (.inr (.inr 9)), some (.inl k), some (.inl (cv (fun e => h 24 (k * 12 + e) = h 6 e) e.toNat : Int)), some (.inl e)] [] (xup (xup (xup h 27 k (h 9 23)) 26 k (h 25 (h 9 23))) 25 (h 9 23) k)
          refine E_s 6 (i' := 48) (ls' := [some (.inr (.inr 9)), some (.inl k), some (.inl (xor_ (cv (fun e => h 24 (k * 12 + e) = h 6 e) e.toNat : Int) (xshl 1 e))), some (.inl e)]) (sk' := []) (h' := (xup (xup (xup h 27 k (h 9 23)) 26 k (h 25 (h 9 23))) 25 (h 9 23) k)) rfl ?_
          rw [cv_s1 (p := fun e => h 24 (k * 12 + e) = h 6 e) he0 (by omega) c41]
          refine E_s 2 (i' := 25) (ls' := [some (.inr (.inr 9)), some (.inl k), some (.inl (cv (fun e => h 24 (k * 12 + e) = h 6 e) (e + 1).toNat : Int)), some (.inl (e + 1))]) (sk' := []) (h' := (xup (xup (xup h 27 k (h 9 23)) 26 k (h 25 (h 9 23))) 25 (h 9 23) k)) rfl ?_
          exact ih25 (e + 1) (by omega) (by omega) (by omega)
  have e0 := key25 _ 0 (by omega) (by omega) (Nat.lt_succ_self _)
  skip
  exact e0
set_option maxHeartbeats 1000000 in
theorem c_unsettle (d b : Nat) (h : xH) (k : Int) (hk : 0 ≤ k ∧ k < 300) (hs : 0 ≤ h 27 k ∧ h 27 k ≤ 511) {Q : xO → xH → Prop} (hQ : Q (.inl none) (xup h 25 (h 27 k) (h 26 k))) : xRn G0 MT (d + 1) b 17 [.inr (.inr 9), .inl k] h Q := by
  refine R_of (M := mX1_unsettleOutputs) rfl (Nat.le_of_ble_eq_true rfl) ?_
  show xEx G0 cdX1_unsettleOutputs none (xRn G0 MT d) Q b 0 [some (.inr (.inr 9)), some (.inl k)] [] h
  refine E_s 5 (i' := 5) (ls' := [some (.inr (.inr 9)), some (.inl k)]) (sk' := [.inl k, .inr (.inr 27), .inr (.inr 25)]) (h' := h) rfl ?_
  refine E_ld (x := (.iaload, 0, [], [])) (ty := .int) (n := 300) rfl rfl rfl (by omega) (by omega) ?_
  show xEx G0 cdX1_unsettleOutputs none (xRn G0 MT d) Q b 6 [some (.inr (.inr 9)), some (.inl k)] [.inl (h 27 k), .inr (.inr 25)] h
  refine E_s 3 (i' := 9) (ls' := [some (.inr (.inr 9)), some (.inl k)]) (sk' := [.inl k, .inr (.inr 26), .inl (h 27 k), .inr (.inr 25)]) (h' := h) rfl ?_
  refine E_ld (x := (.iaload, 0, [], [])) (ty := .int) (n := 300) rfl rfl rfl (by omega) (by omega) ?_
  show xEx G0 cdX1_unsettleOutputs none (xRn G0 MT d) Q b 10 [some (.inr (.inr 9)), some (.inl k)] [.inl (h 26 k), .inl (h 27 k), .inr (.inr 25)] h
  refine E_sd (x := (.iastore, 0, [], [])) (ty := .int) (n := 512) (y := (h 26 k)) rfl rfl rfl (by omega) (by omega) (trivial) ?_
  show xEx G0 cdX1_unsettleOutputs none (xRn G0 MT d) Q b 11 [some (.inr (.inr 9)), some (.inl k)] [] (xup h 25 (h 27 k) (h 26 k))
  exact E_ret (x := (.return_, 0, [], [])) (v := none) rfl (trivial) (hQ)
set_option maxHeartbeats 1000000 in
theorem c_unsettleT (d b : Nat) (h : xH) (k : Int) (hk : 0 ≤ k ∧ k < 150) (hs : 0 ≤ h 39 k ∧ h 39 k < 4096) {Q : xO → xH → Prop} (hQ : Q (.inl none) (xup h 43 (h 39 k) (-1))) : xRn G0 MT (d + 1) b 88 [.inr (.inr 28), .inl k] h Q := by
  refine R_of (M := mX9_unsettleOutputs) rfl (Nat.le_of_ble_eq_true rfl) ?_
  show xEx G0 cdX9_unsettleOutputs none (xRn G0 MT d) Q b 0 [some (.inr (.inr 28)), some (.inl k)] [] h
  refine E_s 5 (i' := 5) (ls' := [some (.inr (.inr 28)), some (.inl k)]) (sk' := [.inl k, .inr (.inr 39), .inr (.inr 43)]) (h' := h) rfl ?_
  refine E_ld (x := (.iaload, 0, [], [])) (ty := .int) (n := 150) rfl rfl rfl (by omega) (by omega) ?_
  show xEx G0 cdX9_unsettleOutputs none (xRn G0 MT d) Q b 6 [some (.inr (.inr 28)), some (.inl k)] [.inl (h 39 k), .inr (.inr 43)] h
  refine E_s 1 (i' := 7) (ls' := [some (.inr (.inr 28)), some (.inl k)]) (sk' := [.inl (-1), .inl (h 39 k), .inr (.inr 43)]) (h' := h) rfl ?_
  refine E_sd (x := (.iastore, 0, [], [])) (ty := .int) (n := 4096) (y := (-1)) rfl rfl rfl (by omega) (by omega) (trivial) ?_
  show xEx G0 cdX9_unsettleOutputs none (xRn G0 MT d) Q b 8 [some (.inr (.inr 28)), some (.inl k)] [] (xup h 43 (h 39 k) (-1))
  exact E_ret (x := (.return_, 0, [], [])) (v := none) rfl (trivial) (hQ)
set_option maxHeartbeats 1000000 in
theorem c_settleT (d b : Nat) (h : xH) (k : Int) (hk : 0 ≤ k ∧ k < 150) (hs : 0 ≤ h 28 20 ∧ h 28 20 < 4096) {Q : xO → xH → Prop} (hQ : Q (.inl none) (xup (xup h 39 k (h 28 20)) 43 (h 28 20) k)) : xRn G0 MT (d + 1) b 87 [.inr (.inr 28), .inl k] h Q := by
  refine R_of (M := mX9_settleOutputs) rfl (Nat.le_of_ble_eq_true rfl) ?_
  show xEx G0 cdX9_settleOutputs none (xRn G0 MT d) Q b 0 [some (.inr (.inr 28)), some (.inl k)] [] h
  refine E_s 5 (i' := 5) (ls' := [some (.inr (.inr 28)), some (.inl k)]) (sk' := [.inl (h 28 20), .inl k, .inr (.inr 39)]) (h' := h) rfl ?_
  refine E_sd (x := (.iastore, 0, [], [])) (ty := .int) (n := 150) (y := (h 28 20)) rfl rfl rfl (by omega) (by omega) (trivial) ?_
  show xEx G0 cdX9_settleOutputs none (xRn G0 MT d) Q b 6 [some (.inr (.inr 28)), some (.inl k)] [] (xup h 39 k (h 28 20))
  refine E_s 5 (i' := 11) (ls' := [some (.inr (.inr 28)), some (.inl k)]) (sk' := [.inl k, .inl (h 28 20), .inr (.inr 43)]) (h' := (xup h 39 k (h 28 20))) rfl ?_
  refine E_sd (x := (.iastore, 0, [], [])) (ty := .int) (n := 4096) (y := k) rfl rfl rfl (by omega) (by omega) (trivial) ?_
  show xEx G0 cdX9_settleOutputs none (xRn G0 MT d) Q b 12 [some (.inr (.inr 28)), some (.inl k)] [] (xup (xup h 39 k (h 28 20)) 43 (h 28 20) k)
  exact E_ret (x := (.return_, 0, [], [])) (v := none) rfl (trivial) (hQ)
