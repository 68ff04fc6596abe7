theorem xand_r (a b : Int) : xr (xand a b) := by
  have h1 := Int32.le_toInt (Int32.ofInt a &&& Int32.ofInt b)
  have h2 := Int32.toInt_lt (Int32.ofInt a &&& Int32.ofInt b)
  unfold xr xand
  omega
set_option maxHeartbeats 1000000 in
theorem c_all (d b : Nat) (h : xH) {Q : xO → xH → Prop} (hQ : Q (.inl (some (.inl (xshl 1 (h 1 2) - 1)))) h) : xRn G0 MT (d + 1) b 0 [.inr (.inr 1)] h Q := by
  refine R_of (M := mX0_all) rfl (Nat.le_of_ble_eq_true rfl) ?_
  show xEx G0 cdX0_all (some .int) (xRn G0 MT d) Q b 0 [some (.inr (.inr 1))] [] h
  refine E_s 6 (i' := 6) (ls' := [some (.inr (.inr 1))]) (sk' := [.inl ((xshl 1 (h 1 2)) - 1)]) (h' := h) rfl ?_
  exact E_ret (x := (.ireturn, 0, [], [])) (v := some (.inl ((xshl 1 (h 1 2)) - 1))) rfl (Or.inl rfl) (hQ)
set_option maxHeartbeats 1000000 in
theorem c_mayBe (d b : Nat) (h : xH) (j v : Int) (hm : 1 ≤ h 1 1 ∧ h 1 1 ≤ 3) (hj : xr j) (hv : xr v) {Q : xO → xH → Prop} (h1 : (if j < h 1 1 then -99 ≤ v ∧ v ≤ 99 else v = 0) → Q (.inl (some (.inl 1))) h) (h0 : ¬ (if j < h 1 1 then -99 ≤ v ∧ v ≤ 99 else v = 0) → Q (.inl (some (.inl 0))) h) : xRn G0 MT (d + 1) b 1 [.inr (.inr 1), .inl j, .inl v] h Q := by
  refine R_of (M := mX0_mayBe) rfl (Nat.le_of_ble_eq_true rfl) ?_
  show xEx G0 cdX0_mayBe (some .boolean) (xRn G0 MT d) Q b 0 [some (.inr (.inr 1)), some (.inl j), some (.inl v)] [] h
  refine E_s 3 (i' := 3) (ls' := [some (.inr (.inr 1)), some (.inl j), some (.inl v)]) (sk' := [.inl (h 1 1), .inl j]) (h' := h) rfl ?_
  refine E_b (x := (.if_icmp .ge 23, 14, [], [])) rfl rfl (fun c3 => ?_) (fun c3 => ?_)
  · rw [c_ge (by first | assumption | (refine ⟨?_, ?_⟩ <;> omega) | (simp only [xr] at *; omega)) (by first | assumption | (refine ⟨?_, ?_⟩ <;> omega) | (simp only [xr] at *; omega))] at c3
    simp only [decide_eq_true_eq, decide_eq_false_iff_not, Decidable.not_not] at c3
    show xEx G0 cdX0_mayBe (some .boolean) (xRn G0 MT d) Q b 14 [some (.inr (.inr 1)), some (.inl j), some (.inl v)] [] h
    refine E_s 1 (i' := 15) (ls' := [some (.inr (.inr 1)), some (.inl j), some (.inl v)]) (sk' := [.inl v]) (h' := h) rfl ?_
    refine E_b (x := (.ifCond .ne 7, 18, [], [])) rfl rfl (fun c15 => ?_) (fun c15 => ?_)
    · rw [c_ne (by first | assumption | (refine ⟨?_, ?_⟩ <;> omega) | (simp only [xr] at *; omega)) (by first | assumption | (refine ⟨?_, ?_⟩ <;> omega) | (simp only [xr] at *; omega))] at c15
      simp only [decide_eq_true_eq, decide_eq_false_iff_not, Decidable.not_not] at c15
      show xEx G0 cdX0_mayBe (some .boolean) (xRn G0 MT d) Q b 18 [some (.inr (.inr 1)), some (.inl j), some (.inl v)] [] h
      refine E_s 1 (i' := 19) (ls' := [some (.inr (.inr 1)), some (.inl j), some (.inl v)]) (sk' := [.inl 0]) (h' := h) rfl ?_
      exact E_ret (x := (.ireturn, 0, [], [])) (v := some (.inl 0)) rfl (Or.inr ⟨rfl, by omega⟩) (h0 (by split <;> omega))
    · rw [c_ne (by first | assumption | (refine ⟨?_, ?_⟩ <;> omega) | (simp only [xr] at *; omega)) (by first | assumption | (refine ⟨?_, ?_⟩ <;> omega) | (simp only [xr] at *; omega))] at c15
      simp only [decide_eq_true_eq, decide_eq_false_iff_not, Decidable.not_not] at c15
      show xEx G0 cdX0_mayBe (some .boolean) (xRn G0 MT d) Q b 16 [some (.inr (.inr 1)), some (.inl j), some (.inl v)] [] h
      refine E_s 2 (i' := 19) (ls' := [some (.inr (.inr 1)), some (.inl j), some (.inl v)]) (sk' := [.inl 1]) (h' := h) rfl ?_
      exact E_ret (x := (.ireturn, 0, [], [])) (v := some (.inl 1)) rfl (Or.inr ⟨rfl, by omega⟩) (h1 (by split <;> omega))
  · rw [c_ge (by first | assumption | (refine ⟨?_, ?_⟩ <;> omega) | (simp only [xr] at *; omega)) (by first | assumption | (refine ⟨?_, ?_⟩ <;> omega) | (simp only [xr] at *; omega))] at c3
    simp only [decide_eq_true_eq, decide_eq_false_iff_not, Decidable.not_not] at c3
    show xEx G0 cdX0_mayBe (some .boolean) (xRn G0 MT d) Q b 4 [some (.inr (.inr 1)), some (.inl j), some (.inl v)] [] h
    refine E_s 2 (i' := 6) (ls' := [some (.inr (.inr 1)), some (.inl j), some (.inl v)]) (sk' := [.inl (-99), .inl v]) (h' := h) rfl ?_
    refine E_b (x := (.if_icmp .lt 13, 12, [], [])) rfl rfl (fun c6 => ?_) (fun c6 => ?_)
    · rw [c_lt (by first | assumption | (refine ⟨?_, ?_⟩ <;> omega) | (simp only [xr] at *; omega)) (by first | assumption | (refine ⟨?_, ?_⟩ <;> omega) | (simp only [xr] at *; omega))] at c6
      simp only [decide_eq_true_eq, decide_eq_false_iff_not, Decidable.not_not] at c6
      show xEx G0 cdX0_mayBe (some .boolean) (xRn G0 MT d) Q b 12 [some (.inr (.inr 1)), some (.inl j), some (.inl v)] [] h
      refine E_s 2 (i' := 19) (ls' := [some (.inr (.inr 1)), some (.inl j), some (.inl v)]) (sk' := [.inl 0]) (h' := h) rfl ?_
      exact E_ret (x := (.ireturn, 0, [], [])) (v := some (.inl 0)) rfl (Or.inr ⟨rfl, by omega⟩) (h0 (by split <;> omega))
    · rw [c_lt (by first | assumption | (refine ⟨?_, ?_⟩ <;> omega) | (simp only [xr] at *; omega)) (by first | assumption | (refine ⟨?_, ?_⟩ <;> omega) | (simp only [xr] at *; omega))] at c6
      simp only [decide_eq_true_eq, decide_eq_false_iff_not, Decidable.not_not] at c6
      show xEx G0 cdX0_mayBe (some .boolean) (xRn G0 MT d) Q b 7 [some (.inr (.inr 1)), some (.inl j), some (.inl v)] [] h
      refine E_s 2 (i' := 9) (ls' := [some (.inr (.inr 1)), some (.inl j), some (.inl v)]) (sk' := [.inl 99, .inl v]) (h' := h) rfl ?_
      refine E_b (x := (.if_icmp .gt 7, 12, [], [])) rfl rfl (fun c9 => ?_) (fun c9 => ?_)
      · rw [c_gt (by first | assumption | (refine ⟨?_, ?_⟩ <;> omega) | (simp only [xr] at *; omega)) (by first | assumption | (refine ⟨?_, ?_⟩ <;> omega) | (simp only [xr] at *; omega))] at c9
        simp only [decide_eq_true_eq, decide_eq_false_iff_not, Decidable.not_not] at c9
        show xEx G0 cdX0_mayBe (some .boolean) (xRn G0 MT d) Q b 12 [some (.inr (.inr 1)), some (.inl j), some (.inl v)] [] h
        refine E_s 2 (i' := 19) (ls' := [some (.inr (.inr 1)), some (.inl j), some (.inl v)]) (sk' := [.inl 0]) (h' := h) rfl ?_
        exact E_ret (x := (.ireturn, 0, [], [])) (v := some (.inl 0)) rfl (Or.inr ⟨rfl, by omega⟩) (h0 (by split <;> omega))
      · rw [c_gt (by first | assumption | (refine ⟨?_, ?_⟩ <;> omega) | (simp only [xr] at *; omega)) (by first | assumption | (refine ⟨?_, ?_⟩ <;> omega) | (simp only [xr] at *; omega))] at c9
        simp only [decide_eq_true_eq, decide_eq_false_iff_not, Decidable.not_not] at c9
        show xEx G0 cdX0_mayBe (some .boolean) (xRn G0 MT d) Q b 10 [some (.inr (.inr 1)), some (.inl j), some (.inl v)] [] h
        refine E_s 2 (i' := 19) (ls' := [some (.inr (.inr 1)), some (.inl j), some (.inl v)]) (sk' := [.inl 1]) (h' := h) rfl ?_
        exact E_ret (x := (.ireturn, 0, [], [])) (v := some (.inl 1)) rfl (Or.inr ⟨rfl, by omega⟩) (h1 (by split <;> omega))
set_option maxHeartbeats 1000000 in
theorem c_areThere (d b : Nat) (h : xH) (x y z : Int) (hn : 0 ≤ h 1 2 ∧ h 1 2 ≤ 12) (hx : xr x) (hy : xr y) (hz : xr z) (hr : ∀ e : Int, 0 ≤ e → e < h 1 2 → xr (h 3 e) ∧ xr (h 4 e) ∧ xr (h 5 e)) {Q : xO → xH → Prop} (h1 : ∀ q : Int, 0 ≤ q → q < h 1 2 → h 3 q = x ∧ h 4 q = y ∧ h 5 q = z → Q (.inl (some (.inl 1))) h) (h0 : (∀ q : Int, 0 ≤ q → q < h 1 2 → ¬ (h 3 q = x ∧ h 4 q = y ∧ h 5 q = z)) → Q (.inl (some (.inl 0))) h) : xRn G0 MT (d + 1) b 2 [.inr (.inr 1), .inl x, .inl y, .inl z] h Q := by
  refine R_of (M := mX0_areThere) rfl (Nat.le_of_ble_eq_true rfl) ?_
  show xEx G0 cdX0_areThere (some .boolean) (xRn G0 MT d) Q b 0 [some (.inr (.inr 1)), some (.inl x), some (.inl y), some (.inl z), none] [] h
  refine E_s 2 (i' := 2) (ls' := [some (.inr (.inr 1)), some (.inl x), some (.inl y), some (.inl z), some (.inl 0)]) (sk' := []) (h' := h) rfl ?_
  have key2 : ∀ (n : Nat) (e : Int), (0 ≤ e) → (e ≤ h 1 2) → (∀ q : Int, 0 ≤ q → q < e → ¬ (h 3 q = x ∧ h 4 q = y ∧ h 5 q = z)) → ((h 1 2 - e).toNat) < n → xEx G0 cdX0_areThere (some .boolean) (xRn G0 MT d) Q b 2 [some (.inr (.inr 1)), some (.inl x), some (.inl y), some (.inl z), some (.inl e)] [] h := by
    intro n
    induction n with
    | zero => intro e _ _ _ hm; exact absurd hm (Nat.not_lt_zero _)
    | succ n ih2 =>
      intro e he0 he1 hno hm2
      refine E_s 3 (i' := 5) (ls' := [some (.inr (.inr 1)), some (.inl x), some (.inl y), some (.inl z), some (.inl e)]) (sk' := [.inl (h 1 2), .inl e]) (h' := h) rfl ?_
      refine E_b (x := (.if_icmp .ge 50, 34, [], [])) rfl rfl (fun c5 => ?_) (fun c5 => ?_)
      · rw [c_ge (by first | assumption | (refine ⟨?_, ?_⟩ <;> omega) | (simp only [xr] at *; omega)) (by first | assumption | (refine ⟨?_, ?_⟩ <;> omega) | (simp only [xr] at *; omega))] at c5
        simp only [decide_eq_true_eq, decide_eq_false_iff_not, Decidable.not_not] at c5
        show xEx G0 cdX0_areThere (some .boolean) (xRn G0 MT d) Q b 34 [some (.inr (.inr 1)), some (.inl x), some (.inl y), some (.inl z), some (.inl e)] [] h
        refine E_s 1 (i' := 35) (ls' := [some (.inr (.inr 1)), some (.inl x), some (.inl y), some (.inl z), some (.inl e)]) (sk' := [.inl 0]) (h' := h) rfl ?_
        exact E_ret (x := (.ireturn, 0, [], [])) (v := some (.inl 0)) rfl (Or.inr ⟨rfl, by omega⟩) (h0 (fun q hq0 hq1 => hno q hq0 (by omega)))
      · rw [c_ge (by first | assumption | (refine ⟨?_, ?_⟩ <;> omega) | (simp only [xr] at *; omega)) (by first | assumption | (refine ⟨?_, ?_⟩ <;> omega) | (simp only [xr] at *; omega))] at c5
        simp only [decide_eq_true_eq, decide_eq_false_iff_not, Decidable.not_not] at c5
        show xEx G0 cdX0_areThere (some .boolean) (xRn G0 MT d) Q b 6 [some (.inr (.inr 1)), some (.inl x), some (.inl y), some (.inl z), some (.inl e)] [] h
        obtain ⟨r0, r1, r2⟩ := hr e he0 (by omega)
        refine E_s 3 (i' := 9) (ls' := [some (.inr (.inr 1)), some (.inl x), some (.inl y), some (.inl z), some (.inl e)]) (sk' := [.inl 0, .inr (.inr 2)]) (h' := h) rfl ?_
        refine E_ald (x := (.aaload, 0, [], [])) 0 rfl rfl rfl (rfl) rfl ?_
        show xEx G0 cdX0_areThere (some .boolean) (xRn G0 MT d) Q b 10 [some (.inr (.inr 1)), some (.inl x), some (.inl y), some (.inl z), some (.inl e)] [.inr (.inr 3)] h
        refine E_s 1 (i' := 11) (ls' := [some (.inr (.inr 1)), some (.inl x), some (.inl y), some (.inl z), some (.inl e)]) (sk' := [.inl e, .inr (.inr 3)]) (h' := h) rfl ?_
        refine E_ld (x := (.iaload, 0, [], [])) (ty := .int) (n := 12) rfl rfl rfl (by omega) (by omega) ?_
        show xEx G0 cdX0_areThere (some .boolean) (xRn G0 MT d) Q b 12 [some (.inr (.inr 1)), some (.inl x), some (.inl y), some (.inl z), some (.inl e)] [.inl (h 3 e)] h
        refine E_s 1 (i' := 13) (ls' := [some (.inr (.inr 1)), some (.inl x), some (.inl y), some (.inl z), some (.inl e)]) (sk' := [.inl x, .inl (h 3 e)]) (h' := h) rfl ?_
        refine E_b (x := (.if_icmp .ne 31, 32, [], [])) rfl rfl (fun c13 => ?_) (fun c13 => ?_)
        · rw [c_ne (by first | assumption | (refine ⟨?_, ?_⟩ <;> omega) | (simp only [xr] at *; omega)) (by first | assumption | (refine ⟨?_, ?_⟩ <;> omega) | (simp only [xr] at *; omega))] at c13
          simp only [decide_eq_true_eq, decide_eq_false_iff_not, Decidable.not_not] at c13
          show xEx G0 cdX0_areThere (some .boolean) (xRn G0 MT d) Q b 32 [some (.inr (.inr 1)), some (.inl x), some (.inl y), some (.inl z), some (.inl e)] [] h
          refine E_s 2 (i' := 2) (ls' := [some (.inr (.inr 1)), some (.inl x), some (.inl y), some (.inl z), some (.inl (e + 1))]) (sk' := []) (h' := h) rfl ?_
          exact ih2 (e + 1) (by omega) (by omega) (fun q hq0 hq1 => by
            rcases Int.lt_or_eq_of_le (show q ≤ e by omega) with z9 | z9
            · exact hno q hq0 z9
            · subst z9
              intro hh
              first | exact c13 hh.1 | exact c21 hh.2.1 | exact c29 hh.2.2) (by omega)
        · rw [c_ne (by first | assumption | (refine ⟨?_, ?_⟩ <;> omega) | (simp only [xr] at *; omega)) (by first | assumption | (refine ⟨?_, ?_⟩ <;> omega) | (simp only [xr] at *; omega))] at c13
          simp only [decide_eq_true_eq, decide_eq_false_iff_not, Decidable.not_not] at c13
          show xEx G0 cdX0_areThere (some .boolean) (xRn G0 MT d) Q b 14 [some (.inr (.inr 1)), some (.inl x), some (.inl y), some (.inl z), some (.inl e)] [] h
          refine E_s 3 (i' := 17) (ls' := [some (.inr (.inr 1)), some (.inl x), some (.inl y), some (.inl z), some (.inl e)]) (sk' := [.inl 1, .inr (.inr 2)]) (h' := h) rfl ?_
          refine E_ald (x := (.aaload, 0, [], [])) 1 rfl rfl rfl (rfl) rfl ?_
          show xEx G0 cdX0_areThere (some .boolean) (xRn G0 MT d) Q b 18 [some (.inr (.inr 1)), some (.inl x), some (.inl y), some (.inl z), some (.inl e)] [.inr (.inr 4)] h
          refine E_s 1 (i' := 19) (ls' := [some (.inr (.inr 1)), some (.inl x), some (.inl y), some (.inl z), some (.inl e)]) (sk' := [.inl e, .inr (.inr 4)]) (h' := h) rfl ?_
          refine E_ld (x := (.iaload, 0, [], [])) (ty := .int) (n := 12) rfl rfl rfl (by omega) (by omega) ?_
          show xEx G0 cdX0_areThere (some .boolean) (xRn G0 MT d) Q b 20 [some (.inr (.inr 1)), some (.inl x), some (.inl y), some (.inl z), some (.inl e)] [.inl (h 4 e)] h
          refine E_s 1 (i' := 21) (ls' := [some (.inr (.inr 1)), some (.inl x), some (.inl y), some (.inl z), some (.inl e)]) (sk' := [.inl y, .inl (h 4 e)]) (h' := h) rfl ?_
          refine E_b (x := (.if_icmp .ne 18, 32, [], [])) rfl rfl (fun c21 => ?_) (fun c21 => ?_)
          · rw [c_ne (by first | assumption | (refine ⟨?_, ?_⟩ <;> omega) | (simp only [xr] at *; omega)) (by first | assumption | (refine ⟨?_, ?_⟩ <;> omega) | (simp only [xr] at *; omega))] at c21
            simp only [decide_eq_true_eq, decide_eq_false_iff_not, Decidable.not_not] at c21
            show xEx G0 cdX0_areThere (some .boolean) (xRn G0 MT d) Q b 32 [some (.inr (.inr 1)), some (.inl x), some (.inl y), some (.inl z), some (.inl e)] [] h
            refine E_s 2 (i' := 2) (ls' := [some (.inr (.inr 1)), some (.inl x), some (.inl y), some (.inl z), some (.inl (e + 1))]) (sk' := []) (h' := h) rfl ?_
            exact ih2 (e + 1) (by omega) (by omega) (fun q hq0 hq1 => by
              rcases Int.lt_or_eq_of_le (show q ≤ e by omega) with z9 | z9
              · exact hno q hq0 z9
              · subst z9
                intro hh
                first | exact c13 hh.1 | exact c21 hh.2.1 | exact c29 hh.2.2) (by omega)
          · rw [c_ne (by first | assumption | (refine ⟨?_, ?_⟩ <;> omega) | (simp only [xr] at *; omega)) (by first | assumption | (refine ⟨?_, ?_⟩ <;> omega) | (simp only [xr] at *; omega))] at c21
            simp only [decide_eq_true_eq, decide_eq_false_iff_not, Decidable.not_not] at c21
            show xEx G0 cdX0_areThere (some .boolean) (xRn G0 MT d) Q b 22 [some (.inr (.inr 1)), some (.inl x), some (.inl y), some (.inl z), some (.inl e)] [] h
            refine E_s 3 (i' := 25) (ls' := [some (.inr (.inr 1)), some (.inl x), some (.inl y), some (.inl z), some (.inl e)]) (sk' := [.inl 2, .inr (.inr 2)]) (h' := h) rfl ?_
            refine E_ald (x := (.aaload, 0, [], [])) 2 rfl rfl rfl (rfl) rfl ?_
            show xEx G0 cdX0_areThere (some .boolean) (xRn G0 MT d) Q b 26 [some (.inr (.inr 1)), some (.inl x), some (.inl y), some (.inl z), some (.inl e)] [.inr (.inr 5)] h
            refine E_s 1 (i' := 27) (ls' := [some (.inr (.inr 1)), some (.inl x), some (.inl y), some (.inl z), some (.inl e)]) (sk' := [.inl e, .inr (.inr 5)]) (h' := h) rfl ?_
            refine E_ld (x := (.iaload, 0, [], [])) (ty := .int) (n := 12) rfl rfl rfl (by omega) (by omega) ?_
            show xEx G0 cdX0_areThere (some .boolean) (xRn G0 MT d) Q b 28 [some (.inr (.inr 1)), some (.inl x), some (.inl y), some (.inl z), some (.inl e)] [.inl (h 5 e)] h
            refine E_s 1 (i' := 29) (ls' := [some (.inr (.inr 1)), some (.inl x), some (.inl y), some (.inl z), some (.inl e)]) (sk' := [.inl z, .inl (h 5 e)]) (h' := h) rfl ?_
            refine E_b (x := (.if_icmp .ne 5, 32, [], [])) rfl rfl (fun c29 => ?_) (fun c29 => ?_)
            · rw [c_ne (by first | assumption | (refine ⟨?_, ?_⟩ <;> omega) | (simp only [xr] at *; omega)) (by first | assumption | (refine ⟨?_, ?_⟩ <;> omega) | (simp only [xr] at *; omega))] at c29
              simp only [decide_eq_true_eq, decide_eq_false_iff_not, Decidable.not_not] at c29
              show xEx G0 cdX0_areThere (some .boolean) (xRn G0 MT d) Q b 32 [some (.inr (.inr 1)), some (.inl x), some (.inl y), some (.inl z), some (.inl e)] [] h
              refine E_s 2 (i' := 2) (ls' := [some (.inr (.inr 1)), some (.inl x), some (.inl y), some (.inl z), some (.inl (e + 1))]) (sk' := []) (h' := h) rfl ?_
              exact ih2 (e + 1) (by omega) (by omega) (fun q hq0 hq1 => by
                rcases Int.lt_or_eq_of_le (show q ≤ e by omega) with z9 | z9
                · exact hno q hq0 z9
                · subst z9
                  intro hh
                  first | exact c13 hh.1 | exact c21 hh.2.1 | exact c29 hh.2.2) (by omega)
            · rw [c_ne (by first | assumption | (refine ⟨?_, ?_⟩ <;> omega) | (simp only [xr] at *; omega)) (by first | assumption | (refine ⟨?_, ?_⟩ <;> omega) | (simp only [xr] at *; omega))] at c29
              simp only [decide_eq_true_eq, decide_eq_false_iff_not, Decidable.not_not] at c29
              show xEx G0 cdX0_areThere (some .boolean) (xRn G0 MT d) Q b 30 [some (.inr (.inr 1)), some (.inl x), some (.inl y), some (.inl z), some (.inl e)] [] h
              refine E_s 1 (i' := 31) (ls' := [some (.inr (.inr 1)), some (.inl x), some (.inl y), some (.inl z), some (.inl e)]) (sk' := [.inl 1]) (h' := h) rfl ?_
              exact E_ret (x := (.ireturn, 0, [], [])) (v := some (.inl 1)) rfl (Or.inr ⟨rfl, by omega⟩) (h1 e he0 (by omega) ⟨c13, c21, c29⟩)
  exact key2 _ 0 (by omega) (by omega) (fun q hq0 hq1 => by omega) (Nat.lt_succ_self _)
set_option maxHeartbeats 1000000 in
theorem c_add (d b : Nat) (h : xH) (x y z w : Int) (hn : 0 ≤ h 1 2 ∧ h 1 2 < 12) {Q : xO → xH → Prop} (hQ : Q (.inl (some (.inl (h 1 2 + 1 - 1)))) (xup (xup (xup (xup (xup h 3 (h 1 2) x) 4 (h 1 2) y) 5 (h 1 2) z) 6 (h 1 2) w) 1 2 (h 1 2 + 1))) : xRn G0 MT (d + 1) b 3 [.inr (.inr 1), .inl x, .inl y, .inl z, .inl w] h Q := by
  refine R_of (M := mX0_add) rfl (Nat.le_of_ble_eq_true rfl) ?_
  show xEx G0 cdX0_add (some .int) (xRn G0 MT d) Q b 0 [some (.inr (.inr 1)), some (.inl x), some (.inl y), some (.inl z), some (.inl w)] [] h
  refine E_s 3 (i' := 3) (ls' := [some (.inr (.inr 1)), some (.inl x), some (.inl y), some (.inl z), some (.inl w)]) (sk' := [.inl 0, .inr (.inr 2)]) (h' := h) rfl ?_
  refine E_ald (x := (.aaload, 0, [], [])) 0 rfl rfl rfl (rfl) rfl ?_
  show xEx G0 cdX0_add (some .int) (xRn G0 MT d) Q b 4 [some (.inr (.inr 1)), some (.inl x), some (.inl y), some (.inl z), some (.inl w)] [.inr (.inr 3)] h
  refine E_s 3 (i' := 7) (ls' := [some (.inr (.inr 1)), some (.inl x), some (.inl y), some (.inl z), some (.inl w)]) (sk' := [.inl x, .inl (h 1 2), .inr (.inr 3)]) (h' := h) rfl ?_
  refine E_sd (x := (.iastore, 0, [], [])) (ty := .int) (n := 12) (y := x) rfl rfl rfl (by omega) (by omega) (trivial) ?_
  show xEx G0 cdX0_add (some .int) (xRn G0 MT d) Q b 8 [some (.inr (.inr 1)), some (.inl x), some (.inl y), some (.inl z), some (.inl w)] [] (xup h 3 (h 1 2) x)
  refine E_s 3 (i' := 11) (ls' := [some (.inr (.inr 1)), some (.inl x), some (.inl y), some (.inl z), some (.inl w)]) (sk' := [.inl 1, .inr (.inr 2)]) (h' := (xup h 3 (h 1 2) x)) rfl ?_
  refine E_ald (x := (.aaload, 0, [], [])) 1 rfl rfl rfl (rfl) rfl ?_
  show xEx G0 cdX0_add (some .int) (xRn G0 MT d) Q b 12 [some (.inr (.inr 1)), some (.inl x), some (.inl y), some (.inl z), some (.inl w)] [.inr (.inr 4)] (xup h 3 (h 1 2) x)
  refine E_s 3 (i' := 15) (ls' := [some (.inr (.inr 1)), some (.inl x), some (.inl y), some (.inl z), some (.inl w)]) (sk' := [.inl y, .inl (h 1 2), .inr (.inr 4)]) (h' := (xup h 3 (h 1 2) x)) rfl ?_
  refine E_sd (x := (.iastore, 0, [], [])) (ty := .int) (n := 12) (y := y) rfl rfl rfl (by omega) (by omega) (trivial) ?_
  show xEx G0 cdX0_add (some .int) (xRn G0 MT d) Q b 16 [some (.inr (.inr 1)), some (.inl x), some (.inl y), some (.inl z), some (.inl w)] [] (xup (xup h 3 (h 1 2) x) 4 (h 1 2) y)
  refine E_s 3 (i' := 19) (ls' := [some (.inr (.inr 1)), some (.inl x), some (.inl y), some (.inl z), some (.inl w)]) (sk' := [.inl 2, .inr (.inr 2)]) (h' := (xup (xup h 3 (h 1 2) x) 4 (h 1 2) y)) rfl ?_
  refine E_ald (x := (.aaload, 0, [], [])) 2 rfl rfl rfl (rfl) rfl ?_
  show xEx G0 cdX0_add (some .int) (xRn G0 MT d) Q b 20 [some (.inr (.inr 1)), some (.inl x), some (.inl y), some (.inl z), some (.inl w)] [.inr (.inr 5)] (xup (xup h 3 (h 1 2) x) 4 (h 1 2) y)
  refine E_s 3 (i' := 23) (ls' := [some (.inr (.inr 1)), some (.inl x), some (.inl y), some (.inl z), some (.inl w)]) (sk' := [.inl z, .inl (h 1 2), .inr (.inr 5)]) (h' := (xup (xup h 3 (h 1 2) x) 4 (h 1 2) y)) rfl ?_
  refine E_sd (x := (.iastore, 0, [], [])) (ty := .int) (n := 12) (y := z) rfl rfl rfl (by omega) (by omega) (trivial) ?_
  show xEx G0 cdX0_add (some .int) (xRn G0 MT d) Q b 24 [some (.inr (.inr 1)), some (.inl x), some (.inl y), some (.inl z), some (.inl w)] [] (xup (xup (xup h 3 (h 1 2) x) 4 (h 1 2) y) 5 (h 1 2) z)
  refine E_s 3 (i' := 27) (ls' := [some (.inr (.inr 1)), some (.inl x), some (.inl y), some (.inl z), some (.inl w)]) (sk' := [.inl 3, .inr (.inr 2)]) (h' := (xup (xup (xup h 3 (h 1 2) x) 4 (h 1 2) y) 5 (h 1 2) z)) rfl ?_
  refine E_ald (x := (.aaload, 0, [], [])) 3 rfl rfl rfl (rfl) rfl ?_
  show xEx G0 cdX0_add (some .int) (xRn G0 MT d) Q b 28 [some (.inr (.inr 1)), some (.inl x), some (.inl y), some (.inl z), some (.inl w)] [.inr (.inr 6)] (xup (xup (xup h 3 (h 1 2) x) 4 (h 1 2) y) 5 (h 1 2) z)
  refine E_s 3 (i' := 31) (ls' := [some (.inr (.inr 1)), some (.inl x), some (.inl y), some (.inl z), some (.inl w)]) (sk' := [.inl w, .inl (h 1 2), .inr (.inr 6)]) (h' := (xup (xup (xup h 3 (h 1 2) x) 4 (h 1 2) y) 5 (h 1 2) z)) rfl ?_
  refine E_sd (x := (.iastore, 0, [], [])) (ty := .int) (n := 12) (y := w) rfl rfl rfl (by omega) (by omega) (trivial) ?_
  show xEx G0 cdX0_add (some .int) (xRn G0 MT d) Q b 32 [some (.inr (.inr 1)), some (.inl x), some (.inl y), some (.inl z), some (.inl w)] [] (xup (xup (xup (xup h 3 (h 1 2) x) 4 (h 1 2) y) 5 (h 1 2) z) 6 (h 1 2) w)
  refine E_s 10 (i' := 42) (ls' := [some (.inr (.inr 1)), some (.inl x), some (.inl y), some (.inl z), some (.inl w)]) (sk' := [.inl (((h 1 2) + 1) - 1)]) (h' := (xup (xup (xup (xup (xup h 3 (h 1 2) x) 4 (h 1 2) y) 5 (h 1 2) z) 6 (h 1 2) w) 1 2 ((h 1 2) + 1))) rfl ?_
  exact E_ret (x := (.ireturn, 0, [], [])) (v := some (.inl (((h 1 2) + 1) - 1))) rfl (Or.inl rfl) (hQ)
set_option maxHeartbeats 1000000 in
theorem c_isNoConstant (d b : Nat) (h : xH) (v : Int) (hv : xr v) {Q : xO → xH → Prop} (h1 : (v < -99 ∨ 99 < v) → Q (.inl (some (.inl 1))) h) (h0 : ¬ (v < -99 ∨ 99 < v) → Q (.inl (some (.inl 0))) h) : xRn G0 MT (d + 1) b 72 [.inl v] h Q := by
  refine R_of (M := mX8_isNoConstant) rfl (Nat.le_of_ble_eq_true rfl) ?_
  show xEx G0 cdX8_isNoConstant (some .boolean) (xRn G0 MT d) Q b 0 [some (.inl v)] [] h
  refine E_s 2 (i' := 2) (ls' := [some (.inl v)]) (sk' := [.inl (-99), .inl v]) (h' := h) rfl ?_
  refine E_b (x := (.if_icmp .lt 9, 6, [], [])) rfl rfl (fun c2 => ?_) (fun c2 => ?_)
  · rw [c_lt (by first | assumption | (refine ⟨?_, ?_⟩ <;> omega) | (simp only [xr] at *; omega)) (by first | assumption | (refine ⟨?_, ?_⟩ <;> omega) | (simp only [xr] at *; omega))] at c2
    simp only [decide_eq_true_eq, decide_eq_false_iff_not, Decidable.not_not] at c2
    show xEx G0 cdX8_isNoConstant (some .boolean) (xRn G0 MT d) Q b 6 [some (.inl v)] [] h
    refine E_s 2 (i' := 9) (ls' := [some (.inl v)]) (sk' := [.inl 1]) (h' := h) rfl ?_
    exact E_ret (x := (.ireturn, 0, [], [])) (v := some (.inl 1)) rfl (Or.inr ⟨rfl, by omega⟩) (h1 (by omega))
  · rw [c_lt (by first | assumption | (refine ⟨?_, ?_⟩ <;> omega) | (simp only [xr] at *; omega)) (by first | assumption | (refine ⟨?_, ?_⟩ <;> omega) | (simp only [xr] at *; omega))] at c2
    simp only [decide_eq_true_eq, decide_eq_false_iff_not, Decidable.not_not] at c2
    show xEx G0 cdX8_isNoConstant (some .boolean) (xRn G0 MT d) Q b 3 [some (.inl v)] [] h
    refine E_s 2 (i' := 5) (ls' := [some (.inl v)]) (sk' := [.inl 99, .inl v]) (h' := h) rfl ?_
    refine E_b (x := (.if_icmp .le 7, 8, [], [])) rfl rfl (fun c5 => ?_) (fun c5 => ?_)
    · rw [c_le (by first | assumption | (refine ⟨?_, ?_⟩ <;> omega) | (simp only [xr] at *; omega)) (by first | assumption | (refine ⟨?_, ?_⟩ <;> omega) | (simp only [xr] at *; omega))] at c5
      simp only [decide_eq_true_eq, decide_eq_false_iff_not, Decidable.not_not] at c5
      show xEx G0 cdX8_isNoConstant (some .boolean) (xRn G0 MT d) Q b 8 [some (.inl v)] [] h
      refine E_s 1 (i' := 9) (ls' := [some (.inl v)]) (sk' := [.inl 0]) (h' := h) rfl ?_
      exact E_ret (x := (.ireturn, 0, [], [])) (v := some (.inl 0)) rfl (Or.inr ⟨rfl, by omega⟩) (h0 (by omega))
    · rw [c_le (by first | assumption | (refine ⟨?_, ?_⟩ <;> omega) | (simp only [xr] at *; omega)) (by first | assumption | (refine ⟨?_, ?_⟩ <;> omega) | (simp only [xr] at *; omega))] at c5
      simp only [decide_eq_true_eq, decide_eq_false_iff_not, Decidable.not_not] at c5
      show xEx G0 cdX8_isNoConstant (some .boolean) (xRn G0 MT d) Q b 6 [some (.inl v)] [] h
      refine E_s 2 (i' := 9) (ls' := [some (.inl v)]) (sk' := [.inl 1]) (h' := h) rfl ?_
      exact E_ret (x := (.ireturn, 0, [], [])) (v := some (.inl 1)) rfl (Or.inr ⟨rfl, by omega⟩) (h1 (by omega))
set_option maxHeartbeats 1000000 in
theorem c_isFull (d b : Nat) (h : xH) (hc : 0 ≤ h 7 1 ∧ h 7 1 ≤ 10) {Q : xO → xH → Prop} (h1 : h 7 1 = 10 → Q (.inl (some (.inl 1))) h) (h0 : h 7 1 < 10 → Q (.inl (some (.inl 0))) h) : xRn G0 MT (d + 1) b 74 [.inr (.inr 7)] h Q := by
  refine R_of (M := mX8_isFull) rfl (Nat.le_of_ble_eq_true rfl) ?_
  show xEx G0 cdX8_isFull (some .boolean) (xRn G0 MT d) Q b 0 [some (.inr (.inr 7))] [] h
  refine E_s 3 (i' := 3) (ls' := [some (.inr (.inr 7))]) (sk' := [.inl 10, .inl (h 7 1)]) (h' := h) rfl ?_
  refine E_b (x := (.if_icmp .lt 7, 6, [], [])) rfl rfl (fun c3 => ?_) (fun c3 => ?_)
  · rw [c_lt (by first | assumption | (refine ⟨?_, ?_⟩ <;> omega) | (simp only [xr] at *; omega)) (by first | assumption | (refine ⟨?_, ?_⟩ <;> omega) | (simp only [xr] at *; omega))] at c3
    simp only [decide_eq_true_eq, decide_eq_false_iff_not, Decidable.not_not] at c3
    show xEx G0 cdX8_isFull (some .boolean) (xRn G0 MT d) Q b 6 [some (.inr (.inr 7))] [] h
    refine E_s 1 (i' := 7) (ls' := [some (.inr (.inr 7))]) (sk' := [.inl 0]) (h' := h) rfl ?_
    exact E_ret (x := (.ireturn, 0, [], [])) (v := some (.inl 0)) rfl (Or.inr ⟨rfl, by omega⟩) (h0 (by omega))
  · rw [c_lt (by first | assumption | (refine ⟨?_, ?_⟩ <;> omega) | (simp only [xr] at *; omega)) (by first | assumption | (refine ⟨?_, ?_⟩ <;> omega) | (simp only [xr] at *; omega))] at c3
    simp only [decide_eq_true_eq, decide_eq_false_iff_not, Decidable.not_not] at c3
    show xEx G0 cdX8_isFull (some .boolean) (xRn G0 MT d) Q b 4 [some (.inr (.inr 7))] [] h
    refine E_s 2 (i' := 7) (ls' := [some (.inr (.inr 7))]) (sk' := [.inl 1]) (h' := h) rfl ?_
    exact E_ret (x := (.ireturn, 0, [], [])) (v := some (.inl 1)) rfl (Or.inr ⟨rfl, by omega⟩) (h1 (by omega))
set_option maxHeartbeats 1000000 in
theorem c_mayUse (d b : Nat) (h : xH) (p : Int) {Q : xO → xH → Prop} (hQ : Q (.inl (some (.inl (if xand (xshr (h 7 2) p) 1 = 1 then 1 else 0)))) h) : xRn G0 MT (d + 1) b 73 [.inr (.inr 7), .inl p] h Q := by
  refine R_of (M := mX8_mayUse) rfl (Nat.le_of_ble_eq_true rfl) ?_
  show xEx G0 cdX8_mayUse (some .boolean) (xRn G0 MT d) Q b 0 [some (.inr (.inr 7)), some (.inl p)] [] h
  refine E_s 7 (i' := 7) (ls' := [some (.inr (.inr 7)), some (.inl p)]) (sk' := [.inl 1, .inl (xand (xshr (h 7 2) p) 1)]) (h' := h) rfl ?_
  refine E_b (x := (.if_icmp .ne 7, 10, [], [])) rfl rfl (fun c7 => ?_) (fun c7 => ?_)
  · rw [c_ne (by first | exact ⟨by omega, by omega⟩ | exact xand_r _ _) (by first | exact ⟨by omega, by omega⟩ | exact xand_r _ _)] at c7
    simp only [decide_eq_true_eq, decide_eq_false_iff_not, Decidable.not_not] at c7
    show xEx G0 cdX8_mayUse (some .boolean) (xRn G0 MT d) Q b 10 [some (.inr (.inr 7)), some (.inl p)] [] h
    refine E_s 1 (i' := 11) (ls' := [some (.inr (.inr 7)), some (.inl p)]) (sk' := [.inl 0]) (h' := h) rfl ?_
    exact E_ret (x := (.ireturn, 0, [], [])) (v := some (.inl 0)) rfl (Or.inr ⟨rfl, by omega⟩) (by first | (rw [if_pos (by assumption)] at hQ; exact hQ) | (rw [if_neg (by assumption)] at hQ; exact hQ))
  · rw [c_ne (by first | exact ⟨by omega, by omega⟩ | exact xand_r _ _) (by first | exact ⟨by omega, by omega⟩ | exact xand_r _ _)] at c7
    simp only [decide_eq_true_eq, decide_eq_false_iff_not, Decidable.not_not] at c7
    show xEx G0 cdX8_mayUse (some .boolean) (xRn G0 MT d) Q b 8 [some (.inr (.inr 7)), some (.inl p)] [] h
    refine E_s 2 (i' := 11) (ls' := [some (.inr (.inr 7)), some (.inl p)]) (sk' := [.inl 1]) (h' := h) rfl ?_
    exact E_ret (x := (.ireturn, 0, [], [])) (v := some (.inl 1)) rfl (Or.inr ⟨rfl, by omega⟩) (by first | (rw [if_pos (by assumption)] at hQ; exact hQ) | (rw [if_neg (by assumption)] at hQ; exact hQ))
set_option maxHeartbeats 1000000 in
theorem c_hasConstant (d b : Nat) (h : xH) (v : Int) (hc : 0 ≤ h 7 1 ∧ h 7 1 ≤ 10) (hv : xr v) (hr : ∀ q : Int, 0 ≤ q → q < h 7 1 → xr (h 8 q)) {Q : xO → xH → Prop} (h1 : ∀ q : Int, 0 ≤ q → q < h 7 1 → h 8 q = v → Q (.inl (some (.inl 1))) h) (h0 : (∀ q : Int, 0 ≤ q → q < h 7 1 → ¬ h 8 q = v) → Q (.inl (some (.inl 0))) h) : xRn G0 MT (d + 1) b 75 [.inr (.inr 7), .inl v] h Q := by
  refine R_of (M := mX8_hasConstant) rfl (Nat.le_of_ble_eq_true rfl) ?_
  show xEx G0 cdX8_hasConstant (some .boolean) (xRn G0 MT d) Q b 0 [some (.inr (.inr 7)), some (.inl v), none] [] h
  refine E_s 2 (i' := 2) (ls' := [some (.inr (.inr 7)), some (.inl v), some (.inl 0)]) (sk' := []) (h' := h) rfl ?_
  have key2 : ∀ (n : Nat) (e : Int), (0 ≤ e) → (e ≤ h 7 1) → (∀ q : Int, 0 ≤ q → q < e → ¬ h 8 q = v) → ((h 7 1 - e).toNat) < n → xEx G0 cdX8_hasConstant (some .boolean) (xRn G0 MT d) Q b 2 [some (.inr (.inr 7)), some (.inl v), some (.inl e)] [] h := by
    intro n
    induction n with
    | zero => intro e _ _ _ hm; exact absurd hm (Nat.not_lt_zero _)
    | succ n ih2 =>
      intro e he0 he1 hno hm2
      refine E_s 3 (i' := 5) (ls' := [some (.inr (.inr 7)), some (.inl v), some (.inl e)]) (sk' := [.inl (h 7 1), .inl e]) (h' := h) rfl ?_
      refine E_b (x := (.if_icmp .ge 21, 16, [], [])) rfl rfl (fun c5 => ?_) (fun c5 => ?_)
      · rw [c_ge (by first | assumption | (refine ⟨?_, ?_⟩ <;> omega) | (simp only [xr] at *; omega)) (by first | assumption | (refine ⟨?_, ?_⟩ <;> omega) | (simp only [xr] at *; omega))] at c5
        simp only [decide_eq_true_eq, decide_eq_false_iff_not, Decidable.not_not] at c5
        show xEx G0 cdX8_hasConstant (some .boolean) (xRn G0 MT d) Q b 16 [some (.inr (.inr 7)), some (.inl v), some (.inl e)] [] h
        refine E_s 1 (i' := 17) (ls' := [some (.inr (.inr 7)), some (.inl v), some (.inl e)]) (sk' := [.inl 0]) (h' := h) rfl ?_
        exact E_ret (x := (.ireturn, 0, [], [])) (v := some (.inl 0)) rfl (Or.inr ⟨rfl, by omega⟩) (h0 (fun q hq0 hq1 => hno q hq0 (by omega)))
      · rw [c_ge (by first | assumption | (refine ⟨?_, ?_⟩ <;> omega) | (simp only [xr] at *; omega)) (by first | assumption | (refine ⟨?_, ?_⟩ <;> omega) | (simp only [xr] at *; omega))] at c5
        simp only [decide_eq_true_eq, decide_eq_false_iff_not, Decidable.not_not] at c5
        show xEx G0 cdX8_hasConstant (some .boolean) (xRn G0 MT d) Q b 6 [some (.inr (.inr 7)), some (.inl v), some (.inl e)] [] h
        have hr9 := hr e he0 (by omega)
        refine E_s 3 (i' := 9) (ls' := [some (.inr (.inr 7)), some (.inl v), some (.inl e)]) (sk' := [.inl e, .inr (.inr 8)]) (h' := h) rfl ?_
        refine E_ld (x := (.iaload, 0, [], [])) (ty := .int) (n := 10) rfl rfl rfl (by omega) (by omega) ?_
        show xEx G0 cdX8_hasConstant (some .boolean) (xRn G0 MT d) Q b 10 [some (.inr (.inr 7)), some (.inl v), some (.inl e)] [.inl (h 8 e)] h
        refine E_s 1 (i' := 11) (ls' := [some (.inr (.inr 7)), some (.inl v), some (.inl e)]) (sk' := [.inl v, .inl (h 8 e)]) (h' := h) rfl ?_
        refine E_b (x := (.if_icmp .ne 5, 14, [], [])) rfl rfl (fun c11 => ?_) (fun c11 => ?_)
        · rw [c_ne (by first | assumption | (refine ⟨?_, ?_⟩ <;> omega) | (simp only [xr] at *; omega)) (by first | assumption | (refine ⟨?_, ?_⟩ <;> omega) | (simp only [xr] at *; omega))] at c11
          simp only [decide_eq_true_eq, decide_eq_false_iff_not, Decidable.not_not] at c11
          show xEx G0 cdX8_hasConstant (some .boolean) (xRn G0 MT d) Q b 14 [some (.inr (.inr 7)), some (.inl v), some (.inl e)] [] h
          refine E_s 2 (i' := 2) (ls' := [some (.inr (.inr 7)), some (.inl v), some (.inl (e + 1))]) (sk' := []) (h' := h) rfl ?_
          exact ih2 (e + 1) (by omega) (by omega) (fun q hq0 hq1 => by
            rcases Int.lt_or_eq_of_le (show q ≤ e by omega) with z9 | z9
            · exact hno q hq0 z9
            · subst z9; exact c11) (by omega)
        · rw [c_ne (by first | assumption | (refine ⟨?_, ?_⟩ <;> omega) | (simp only [xr] at *; omega)) (by first | assumption | (refine ⟨?_, ?_⟩ <;> omega) | (simp only [xr] at *; omega))] at c11
          simp only [decide_eq_true_eq, decide_eq_false_iff_not, Decidable.not_not] at c11
          show xEx G0 cdX8_hasConstant (some .boolean) (xRn G0 MT d) Q b 12 [some (.inr (.inr 7)), some (.inl v), some (.inl e)] [] h
          refine E_s 1 (i' := 13) (ls' := [some (.inr (.inr 7)), some (.inl v), some (.inl e)]) (sk' := [.inl 1]) (h' := h) rfl ?_
          exact E_ret (x := (.ireturn, 0, [], [])) (v := some (.inl 1)) rfl (Or.inr ⟨rfl, by omega⟩) (h1 e he0 (by omega) c11)
  exact key2 _ 0 (by omega) (by omega) (fun q hq0 hq1 => by omega) (Nat.lt_succ_self _)
