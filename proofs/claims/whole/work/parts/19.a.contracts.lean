set_option maxHeartbeats 1000000 in
theorem c_all (d b : Nat) (h : xH) {Q : xO → xH → Prop} (hQ : Q (.inl (some (.inl (xshl 1 (h 1 2) - 1)))) h) : xRn G0 MT (d + 1) b 0 [.inr (.inr 1)] h Q := by
  refine R_of (M := mX0_all) rfl (Nat.le_of_ble_eq_true rfl) ?_
  show xEx G0 cdX0_all (some .int) (xRn G0 MT d) Q b 0 [some (.inr (.inr 1))] [] h
  refine E_s 6 (i' := 6) (ls' := [some (.inr (.inr 1))]) (sk' := [.inl ((xshl 1 (h 1 2)) - 1)]) (h' := h) rfl ?_
  exact E_ret (x := (.ireturn, 0, [], [])) (v := some (.inl ((xshl 1 (h 1 2)) - 1))) rfl (Or.inl rfl) (hQ)
set_option maxHeartbeats 1000000 in
theorem c_areThere (d b : Nat) (h : xH) (x y z : Int) (hn : 0 ≤ h 1 2 ∧ h 1 2 ≤ 12) (hx : xr x) (hy : xr y) (hz : xr z) (hr : ∀ e : Int, 0 ≤ e → e < h 1 2 → xr (h 3 e) ∧ xr (h 4 e) ∧ xr (h 5 e)) {Q : xO → xH → Prop} (h1 : ∀ e : Int, 0 ≤ e → e < h 1 2 → h 3 e = x → h 4 e = y → h 5 e = z → Q (.inl (some (.inl 1))) h) (h0 : (∀ e : Int, 0 ≤ e → e < h 1 2 → ¬ (h 3 e = x ∧ h 4 e = y ∧ h 5 e = z)) → Q (.inl (some (.inl 0))) h) : xRn G0 MT (d + 1) b 2 [.inr (.inr 1), .inl x, .inl y, .inl z] h Q := by
  refine R_of (M := mX0_areThere) rfl (Nat.le_of_ble_eq_true rfl) ?_
  show xEx G0 cdX0_areThere (some .boolean) (xRn G0 MT d) Q b 0 [some (.inr (.inr 1)), some (.inl x), some (.inl y), some (.inl z), none] [] h
  refine E_s 2 (i' := 2) (ls' := [some (.inr (.inr 1)), some (.inl x), some (.inl y), some (.inl z), some (.inl 0)]) (sk' := []) (h' := h) rfl ?_
  have key : ∀ (n : Nat) (e : Int), 0 ≤ e → e ≤ h 1 2 → (∀ q : Int, 0 ≤ q → q < e → ¬ (h 3 q = x ∧ h 4 q = y ∧ h 5 q = z)) → (h 1 2 - e).toNat < n → xEx G0 cdX0_areThere (some .boolean) (xRn G0 MT d) Q b 2 [some (.inr (.inr 1)), some (.inl x), some (.inl y), some (.inl z), some (.inl e)] [] h := by
    intro n
    induction n with
    | zero => intro e _ _ _ hm; exact absurd hm (Nat.not_lt_zero _)
    | succ n ih =>
      intro e he0 he1 hno hm
      refine E_s 3 (i' := 5) (ls' := [some (.inr (.inr 1)), some (.inl x), some (.inl y), some (.inl z), some (.inl e)]) (sk' := [.inl (h 1 2), .inl e]) (h' := h) rfl ?_
      refine E_b (x := (.if_icmp .ge 50, 34, [], [])) rfl rfl (fun c1 => ?_) (fun c1 => ?_)
      · rw [c_ge (by first | assumption | (refine ⟨?_, ?_⟩ <;> omega) | (simp only [xr] at *; omega)) (by first | assumption | (refine ⟨?_, ?_⟩ <;> omega) | (simp only [xr] at *; omega))] at c1
        simp only [decide_eq_true_eq, decide_eq_false_iff_not, Decidable.not_not] at c1
        show xEx G0 cdX0_areThere (some .boolean) (xRn G0 MT d) Q b 34 [some (.inr (.inr 1)), some (.inl x), some (.inl y), some (.inl z), some (.inl e)] [] h
        refine E_s 1 (i' := 35) (ls' := [some (.inr (.inr 1)), some (.inl x), some (.inl y), some (.inl z), some (.inl e)]) (sk' := [.inl 0]) (h' := h) rfl ?_
        exact E_ret (x := (.ireturn, 0, [], [])) (v := some (.inl 0)) rfl (Or.inr ⟨rfl, by omega⟩) (h0 (fun q hq0 hq1 => hno q hq0 (by omega)))
      · rw [c_ge (by first | assumption | (refine ⟨?_, ?_⟩ <;> omega) | (simp only [xr] at *; omega)) (by first | assumption | (refine ⟨?_, ?_⟩ <;> omega) | (simp only [xr] at *; omega))] at c1
        simp only [decide_eq_true_eq, decide_eq_false_iff_not, Decidable.not_not] at c1
        show xEx G0 cdX0_areThere (some .boolean) (xRn G0 MT d) Q b 6 [some (.inr (.inr 1)), some (.inl x), some (.inl y), some (.inl z), some (.inl e)] [] h
        obtain ⟨r0, r1, r2⟩ := hr e he0 (by omega)
        refine E_s 3 (i' := 9) (ls' := [some (.inr (.inr 1)), some (.inl x), some (.inl y), some (.inl z), some (.inl e)]) (sk' := [.inl 0, .inr (.inr 2)]) (h' := h) rfl ?_
        refine E_ald (x := (.aaload, 0, [], [])) 0 rfl rfl rfl (rfl) rfl ?_
        show xEx G0 cdX0_areThere (some .boolean) (xRn G0 MT d) Q b 10 [some (.inr (.inr 1)), some (.inl x), some (.inl y), some (.inl z), some (.inl e)] [.inr (.inr 3)] h
        refine E_s 1 (i' := 11) (ls' := [some (.inr (.inr 1)), some (.inl x), some (.inl y), some (.inl z), some (.inl e)]) (sk' := [.inl e, .inr (.inr 3)]) (h' := h) rfl ?_
        refine E_ld (x := (.iaload, 0, [], [])) (ty := .int) (n := 12) rfl rfl rfl (by omega) (by omega) ?_
        show xEx G0 cdX0_areThere (some .boolean) (xRn G0 MT d) Q b 12 [some (.inr (.inr 1)), some (.inl x), some (.inl y), some (.inl z), some (.inl e)] [.inl (h 3 e)] h
        refine E_s 1 (i' := 13) (ls' := [some (.inr (.inr 1)), some (.inl x), some (.inl y), some (.inl z), some (.inl e)]) (sk' := [.inl x, .inl (h 3 e)]) (h' := h) rfl ?_
        refine E_b (x := (.if_icmp .ne 31, 32, [], [])) rfl rfl (fun c2 => ?_) (fun c2 => ?_)
        · rw [c_ne (by first | assumption | (refine ⟨?_, ?_⟩ <;> omega) | (simp only [xr] at *; omega)) (by first | assumption | (refine ⟨?_, ?_⟩ <;> omega) | (simp only [xr] at *; omega))] at c2
          simp only [decide_eq_true_eq, decide_eq_false_iff_not, Decidable.not_not] at c2
          show xEx G0 cdX0_areThere (some .boolean) (xRn G0 MT d) Q b 32 [some (.inr (.inr 1)), some (.inl x), some (.inl y), some (.inl z), some (.inl e)] [] h
          refine E_s 2 (i' := 2) (ls' := [some (.inr (.inr 1)), some (.inl x), some (.inl y), some (.inl z), some (.inl (e + 1))]) (sk' := []) (h' := h) rfl ?_
          exact ih (e + 1) (by omega) (by omega) (fun q hq0 hq1 => by
            rcases Int.lt_or_eq_of_le (show q ≤ e by omega) with z9 | z9
            · exact hno q hq0 z9
            · subst z9
              intro hh
              exact c2 hh.1) (by omega)
        · rw [c_ne (by first | assumption | (refine ⟨?_, ?_⟩ <;> omega) | (simp only [xr] at *; omega)) (by first | assumption | (refine ⟨?_, ?_⟩ <;> omega) | (simp only [xr] at *; omega))] at c2
          simp only [decide_eq_true_eq, decide_eq_false_iff_not, Decidable.not_not] at c2
          show xEx G0 cdX0_areThere (some .boolean) (xRn G0 MT d) Q b 14 [some (.inr (.inr 1)), some (.inl x), some (.inl y), some (.inl z), some (.inl e)] [] h
          refine E_s 3 (i' := 17) (ls' := [some (.inr (.inr 1)), some (.inl x), some (.inl y), some (.inl z), some (.inl e)]) (sk' := [.inl 1, .inr (.inr 2)]) (h' := h) rfl ?_
          refine E_ald (x := (.aaload, 0, [], [])) 1 rfl rfl rfl (rfl) rfl ?_
          show xEx G0 cdX0_areThere (some .boolean) (xRn G0 MT d) Q b 18 [some (.inr (.inr 1)), some (.inl x), some (.inl y), some (.inl z), some (.inl e)] [.inr (.inr 4)] h
          refine E_s 1 (i' := 19) (ls' := [some (.inr (.inr 1)), some (.inl x), some (.inl y), some (.inl z), some (.inl e)]) (sk' := [.inl e, .inr (.inr 4)]) (h' := h) rfl ?_
          refine E_ld (x := (.iaload, 0, [], [])) (ty := .int) (n := 12) rfl rfl rfl (by omega) (by omega) ?_
          show xEx G0 cdX0_areThere (some .boolean) (xRn G0 MT d) Q b 20 [some (.inr (.inr 1)), some (.inl x), some (.inl y), some (.inl z), some (.inl e)] [.inl (h 4 e)] h
          refine E_s 1 (i' := 21) (ls' := [some (.inr (.inr 1)), some (.inl x), some (.inl y), some (.inl z), some (.inl e)]) (sk' := [.inl y, .inl (h 4 e)]) (h' := h) rfl ?_
          refine E_b (x := (.if_icmp .ne 18, 32, [], [])) rfl rfl (fun c3 => ?_) (fun c3 => ?_)
          · rw [c_ne (by first | assumption | (refine ⟨?_, ?_⟩ <;> omega) | (simp only [xr] at *; omega)) (by first | assumption | (refine ⟨?_, ?_⟩ <;> omega) | (simp only [xr] at *; omega))] at c3
            simp only [decide_eq_true_eq, decide_eq_false_iff_not, Decidable.not_not] at c3
            show xEx G0 cdX0_areThere (some .boolean) (xRn G0 MT d) Q b 32 [some (.inr (.inr 1)), some (.inl x), some (.inl y), some (.inl z), some (.inl e)] [] h
            refine E_s 2 (i' := 2) (ls' := [some (.inr (.inr 1)), some (.inl x), some (.inl y), some (.inl z), some (.inl (e + 1))]) (sk' := []) (h' := h) rfl ?_
            exact ih (e + 1) (by omega) (by omega) (fun q hq0 hq1 => by
              rcases Int.lt_or_eq_of_le (show q ≤ e by omega) with z9 | z9
              · exact hno q hq0 z9
              · subst z9
                intro hh
                exact c3 hh.2.1) (by omega)
          · rw [c_ne (by first | assumption | (refine ⟨?_, ?_⟩ <;> omega) | (simp only [xr] at *; omega)) (by first | assumption | (refine ⟨?_, ?_⟩ <;> omega) | (simp only [xr] at *; omega))] at c3
            simp only [decide_eq_true_eq, decide_eq_false_iff_not, Decidable.not_not] at c3
            show xEx G0 cdX0_areThere (some .boolean) (xRn G0 MT d) Q b 22 [some (.inr (.inr 1)), some (.inl x), some (.inl y), some (.inl z), some (.inl e)] [] h
            refine E_s 3 (i' := 25) (ls' := [some (.inr (.inr 1)), some (.inl x), some (.inl y), some (.inl z), some (.inl e)]) (sk' := [.inl 2, .inr (.inr 2)]) (h' := h) rfl ?_
            refine E_ald (x := (.aaload, 0, [], [])) 2 rfl rfl rfl (rfl) rfl ?_
            show xEx G0 cdX0_areThere (some .boolean) (xRn G0 MT d) Q b 26 [some (.inr (.inr 1)), some (.inl x), some (.inl y), some (.inl z), some (.inl e)] [.inr (.inr 5)] h
            refine E_s 1 (i' := 27) (ls' := [some (.inr (.inr 1)), some (.inl x), some (.inl y), some (.inl z), some (.inl e)]) (sk' := [.inl e, .inr (.inr 5)]) (h' := h) rfl ?_
            refine E_ld (x := (.iaload, 0, [], [])) (ty := .int) (n := 12) rfl rfl rfl (by omega) (by omega) ?_
            show xEx G0 cdX0_areThere (some .boolean) (xRn G0 MT d) Q b 28 [some (.inr (.inr 1)), some (.inl x), some (.inl y), some (.inl z), some (.inl e)] [.inl (h 5 e)] h
            refine E_s 1 (i' := 29) (ls' := [some (.inr (.inr 1)), some (.inl x), some (.inl y), some (.inl z), some (.inl e)]) (sk' := [.inl z, .inl (h 5 e)]) (h' := h) rfl ?_
            refine E_b (x := (.if_icmp .ne 5, 32, [], [])) rfl rfl (fun c4 => ?_) (fun c4 => ?_)
            · rw [c_ne (by first | assumption | (refine ⟨?_, ?_⟩ <;> omega) | (simp only [xr] at *; omega)) (by first | assumption | (refine ⟨?_, ?_⟩ <;> omega) | (simp only [xr] at *; omega))] at c4
              simp only [decide_eq_true_eq, decide_eq_false_iff_not, Decidable.not_not] at c4
              show xEx G0 cdX0_areThere (some .boolean) (xRn G0 MT d) Q b 32 [some (.inr (.inr 1)), some (.inl x), some (.inl y), some (.inl z), some (.inl e)] [] h
              refine E_s 2 (i' := 2) (ls' := [some (.inr (.inr 1)), some (.inl x), some (.inl y), some (.inl z), some (.inl (e + 1))]) (sk' := []) (h' := h) rfl ?_
              exact ih (e + 1) (by omega) (by omega) (fun q hq0 hq1 => by
                rcases Int.lt_or_eq_of_le (show q ≤ e by omega) with z9 | z9
                · exact hno q hq0 z9
                · subst z9
                  intro hh
                  exact c4 hh.2.2) (by omega)
            · rw [c_ne (by first | assumption | (refine ⟨?_, ?_⟩ <;> omega) | (simp only [xr] at *; omega)) (by first | assumption | (refine ⟨?_, ?_⟩ <;> omega) | (simp only [xr] at *; omega))] at c4
              simp only [decide_eq_true_eq, decide_eq_false_iff_not, Decidable.not_not] at c4
              show xEx G0 cdX0_areThere (some .boolean) (xRn G0 MT d) Q b 30 [some (.inr (.inr 1)), some (.inl x), some (.inl y), some (.inl z), some (.inl e)] [] h
              refine E_s 1 (i' := 31) (ls' := [some (.inr (.inr 1)), some (.inl x), some (.inl y), some (.inl z), some (.inl e)]) (sk' := [.inl 1]) (h' := h) rfl ?_
              exact E_ret (x := (.ireturn, 0, [], [])) (v := some (.inl 1)) rfl (Or.inr ⟨rfl, by omega⟩) (h1 e he0 (by omega) c2 c3 c4)
  exact key _ 0 (by omega) (by omega) (fun q hq0 hq1 => by omega) (Nat.lt_succ_self _)
