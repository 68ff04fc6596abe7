/-! the reference's GROWTH of EXPRESSIONS -/
/-- the second, as the reference has it -/
def oth (c1 c3 : Int) : Int := if 10 ≤ c1 ∨ (c1 = 5 ∨ c1 = 8 ∨ c1 = 9) then -1 else c3
def RR (h S : xH) : Prop := h 66 8 = S 0 0 ∧ h 89 0 = S 0 1 ∧ (∀ k, 0 ≤ k → k < S 0 0 → h 69 k = S 1 k ∧ h 70 k = S 2 k ∧ h 71 k = oth (S 1 k) (S 3 k) ∧ h 75 k = S 4 k ∧ h 78 k = S 6 k ∧ h 76 k = S 7 k ∧ (S 7 k ≠ 0 → h 72 k = S 8 k ∧ h 73 k = S 9 k ∧ h 74 k = oth (S 8 k) (S 10 k))) ∧ (∀ k e, 0 ≤ k → k < S 0 0 → 0 ≤ e → e < h 66 4 → h 77 (12 * k + e) = S 5 (k * 12 + e))
def RM (M0 : Int) (h S : xH) : Prop := RR h S ∧ h 66 35 = S 0 3 ∧ h 66 37 + M0 = S 0 2 ∧ h 66 36 = S 0 4
/-- what the reference's GROWTH of EXPRESSIONS leaves -/
def FR (h h' : xH) : Prop := (∀ a, (a < 66 ∨ (78 < a ∧ a ≠ 89 ∧ a ≠ 92) ∨ a = 67 ∨ a = 68) → h' a = h a) ∧ (∀ j, j ≠ 8 → j ≠ 35 → j ≠ 36 → j ≠ 37 → h' 66 j = h 66 j) ∧ h' 89 1 = h 89 1
theorem FR.rf (h : xH) : FR h h := ⟨fun _ _ => rfl, fun _ _ _ _ _ => rfl, rfl⟩
theorem FR.tr {h1 h2 h3 : xH} (a : FR h1 h2) (b : FR h2 h3) : FR h1 h3 := ⟨fun x hx => (b.1 x hx).trans (a.1 x hx), fun j q1 q2 q3 q4 => (b.2.1 j q1 q2 q3 q4).trans (a.2.1 j q1 q2 q3 q4), b.2.2.trans a.2.2⟩
theorem FR.up {h h' : xH} (f : FR h h') {a : Nat} {j z : Int} (ha : (a = 66 ∧ (j = 8 ∨ j = 35 ∨ j = 36 ∨ j = 37)) ∨ (69 ≤ a ∧ a ≤ 78) ∨ (a = 89 ∧ j ≠ 1) ∨ a = 92) : FR h (xup h' a j z) := by
  refine ⟨fun x hx => ?_, fun i q1 q2 q3 q4 => ?_, ?_⟩
  · rw [← f.1 x hx]
    exact xup_o h' a j z x (by omega)
  · rw [← f.2.1 i q1 q2 q3 q4]
    by_cases e : a = 66
    · subst e
      rw [xup_j (by omega)]
    · rw [xup_a (fun z => e z.symm)]
  · rw [← f.2.2]
    by_cases e : a = 89
    · subst e
      rw [xup_j (by omega)]
    · rw [xup_a (fun z => e z.symm)]
/-- the reference was told the same -/
def RE (h0 h : xH) : Prop := h 66 4 = h0 1 2 ∧ h 66 1 = h0 1 1 ∧ h 66 6 = h0 7 1 ∧ h 66 3 = h0 7 2 ∧ (∀ j e, 0 ≤ j → j ≤ 2 → 0 ≤ e → e < h0 1 2 → h 67 (4 * e + j) = rwf h0 j e) ∧ (∀ e, 0 ≤ e → e < h0 1 2 → h 67 (4 * e + 3) = h0 6 e) ∧ (∀ i, 0 ≤ i → i < h0 7 1 → h 68 i = h0 8 i)
theorem RE_of {h0 h h' : xH} (f : FR h h') (e : RE h0 h) : RE h0 h' := by
  obtain ⟨f1, f2, f3⟩ := f
  unfold RE
  rw [f2 4 (by decide) (by decide) (by decide) (by decide), f2 1 (by decide) (by decide) (by decide) (by decide), f2 6 (by decide) (by decide) (by decide) (by decide), f2 3 (by decide) (by decide) (by decide) (by decide), f1 67 (by decide), f1 68 (by decide)]
  exact e
theorem n_or0 {a : Nat} (ha : a < 2 ^ 31) : xor_ a 0 = (a : Int) := by
  have := n_or (a := a) (b := 0) ha (by decide)
  rw [Nat.or_zero] at this
  exact this
theorem cv_z {p : Int → Prop} {e : Int} (h0 : 0 ≤ e) (h1 : e < 31) (h : ¬ p e) : xor_ (cv p e.toNat) 0 = (cv p (e + 1).toNat : Int) := by
  have h2 := cv_lt p e.toNat
  have h3 : 2 ^ e.toNat < 2 ^ 31 := Nat.pow_lt_pow_right (by decide) (by omega)
  rw [n_or0 (by omega)]
  exact cv_s0 h0 h
set_option maxHeartbeats 1000000 in
theorem r_may (d b : Nat) (h : xH) (hl : 0 ≤ h 66 35 ∧ h 66 35 ≤ 20000) {Q : xO → xH → Prop} (h0 : h 66 35 = 0 → Q (.inl (some (.inl 0))) (xup h 66 36 2)) (h1 : h 66 35 ≠ 0 → Q (.inl (some (.inl 1))) (xup (xup h 66 35 (h 66 35 - 1)) 66 37 (h 66 37 + 1))) : xRn G0 MT (d + 1) b 176 [.inr (.inr 66)] h Q := by
  refine R_of (M := mX12_may) rfl (Nat.le_of_ble_eq_true rfl) ?_
  show xEx G0 cdX12_may (some .boolean) (xRn G0 MT d) Q b 0 [some (.inr (.inr 66))] [] h
  refine E_s 2 (i' := 2) (ls' := [some (.inr (.inr 66))]) (sk' := [.inl (h 66 35)]) (h' := h) rfl ?_
  refine E_b (x := (.ifCond .ne 10, 8, [], [])) rfl rfl (fun c2 => ?_) (fun c2 => ?_)
  · rw [c_ne (by first | assumption | (refine ⟨?_, ?_⟩ <;> omega) | (simp only [xr] at *; omega)) (by first | assumption | (refine ⟨?_, ?_⟩ <;> omega) | (simp only [xr] at *; omega))] at c2
    simp only [decide_eq_true_eq, decide_eq_false_iff_not, Decidable.not_not] at c2
    show xEx G0 cdX12_may (some .boolean) (xRn G0 MT d) Q b 8 [some (.inr (.inr 66))] [] h
    refine E_s 13 (i' := 21) (ls' := [some (.inr (.inr 66))]) (sk' := [.inl 1]) (h' := (xup (xup h 66 35 ((h 66 35) - 1)) 66 37 ((h 66 37) + 1))) rfl ?_
    exact E_ret (x := (.ireturn, 0, [], [])) (v := some (.inl 1)) rfl (Or.inr ⟨rfl, by omega⟩) (h1 c2)
  · rw [c_ne (by first | assumption | (refine ⟨?_, ?_⟩ <;> omega) | (simp only [xr] at *; omega)) (by first | assumption | (refine ⟨?_, ?_⟩ <;> omega) | (simp only [xr] at *; omega))] at c2
    simp only [decide_eq_true_eq, decide_eq_false_iff_not, Decidable.not_not] at c2
    show xEx G0 cdX12_may (some .boolean) (xRn G0 MT d) Q b 3 [some (.inr (.inr 66))] [] h
    refine E_s 4 (i' := 7) (ls' := [some (.inr (.inr 66))]) (sk' := [.inl 0]) (h' := (xup h 66 36 2)) rfl ?_
    exact E_ret (x := (.ireturn, 0, [], [])) (v := some (.inl 0)) rfl (Or.inr ⟨rfl, by omega⟩) (h0 c2)
set_option maxHeartbeats 1000000 in
theorem r_like (d b : Nat) (h : xH) (hn : 0 ≤ h 66 4 ∧ h 66 4 ≤ 12) (hK : 0 ≤ h 66 8 ∧ h 66 8 ≤ 300) (hr : ∀ k e, 0 ≤ k → k < h 66 8 → 0 ≤ e → e < h 66 4 → xr (h 77 (12 * k + e))) (hrr : ∀ e, 0 ≤ e → e < h 66 4 → xr (h 92 e)) {Q : xO → xH → Prop} (h1 : ∀ k, 0 ≤ k → k < h 66 8 → (∀ e, 0 ≤ e → e < h 66 4 → h 77 (12 * k + e) = h 92 e) → (∀ j, 0 ≤ j → j < k → ¬ (∀ e, 0 ≤ e → e < h 66 4 → h 77 (12 * j + e) = h 92 e)) → Q (.inl (some (.inl k))) h) (h0 : (∀ j, 0 ≤ j → j < h 66 8 → ¬ (∀ e, 0 ≤ e → e < h 66 4 → h 77 (12 * j + e) = h 92 e)) → Q (.inl (some (.inl (-1)))) h) : xRn G0 MT (d + 1) b 177 [.inr (.inr 66)] h Q := by
  refine R_of (M := mX12_like) rfl (Nat.le_of_ble_eq_true rfl) ?_
  show xEx G0 cdX12_like (some .int) (xRn G0 MT d) Q b 0 [some (.inr (.inr 66)), none, none, none] [] h
  refine E_s 2 (i' := 2) (ls' := [some (.inr (.inr 66)), some (.inl 0), none, none]) (sk' := []) (h' := h) rfl ?_
  have key2 : ∀ (n : Nat) (k : Int) (v2 v3 : Option xV), (0 ≤ k) → (k ≤ h 66 8) → (∀ j, 0 ≤ j → j < k → ¬ (∀ e, 0 ≤ e → e < h 66 4 → h 77 (12 * j + e) = h 92 e)) → ((h 66 8 - k).toNat) < n → xEx G0 cdX12_like (some .int) (xRn G0 MT d) Q b 2 [some (.inr (.inr 66)), some (.inl k), v2, v3] [] h := by
    intro n
    induction n with
    | zero => intro k v2 v3 _ _ _ hm; exact absurd hm (Nat.not_lt_zero _)
    | succ n ih2 =>
      intro k v2 v3 hk0 hk9 hno hm2
      refine E_s 3 (i' := 5) (ls' := [some (.inr (.inr 66)), some (.inl k), v2, v3]) (sk' := [.inl (h 66 8), .inl k]) (h' := h) rfl ?_
      refine E_b (x := (.if_icmp .ge 63, 41, [], [])) rfl rfl (fun c5 => ?_) (fun c5 => ?_)
      · rw [c_ge (by first | assumption | (refine ⟨?_, ?_⟩ <;> omega) | (simp only [xr] at *; omega)) (by first | assumption | (refine ⟨?_, ?_⟩ <;> omega) | (simp only [xr] at *; omega))] at c5
        simp only [decide_eq_true_eq, decide_eq_false_iff_not, Decidable.not_not] at c5
        show xEx G0 cdX12_like (some .int) (xRn G0 MT d) Q b 41 [some (.inr (.inr 66)), some (.inl k), v2, v3] [] h
        refine E_s 1 (i' := 42) (ls' := [some (.inr (.inr 66)), some (.inl k), v2, v3]) (sk' := [.inl (-1)]) (h' := h) rfl ?_
        exact E_ret (x := (.ireturn, 0, [], [])) (v := some (.inl (-1))) rfl (Or.inl rfl) (h0 (fun j z1 z2 => hno j z1 (by omega)))
      · rw [c_ge (by first | assumption | (refine ⟨?_, ?_⟩ <;> omega) | (simp only [xr] at *; omega)) (by first | assumption | (refine ⟨?_, ?_⟩ <;> omega) | (simp only [xr] at *; omega))] at c5
        simp only [decide_eq_true_eq, decide_eq_false_iff_not, Decidable.not_not] at c5
        show xEx G0 cdX12_like (some .int) (xRn G0 MT d) Q b 6 [some (.inr (.inr 66)), some (.inl k), v2, v3] [] h
        refine E_s 4 (i' := 10) (ls' := [some (.inr (.inr 66)), some (.inl k), some (.inl 1), some (.inl 0)]) (sk' := []) (h' := h) rfl ?_
        have key10 : ∀ (n : Nat) (is e : Int), (0 ≤ e) → (e ≤ h 66 4) → ((is = 1 ∧ ∀ q, 0 ≤ q → q < e → h 77 (12 * k + q) = h 92 q) ∨ (is = 0 ∧ ¬ (∀ e, 0 ≤ e → e < h 66 4 → h 77 (12 * k + e) = h 92 e))) → ((h 66 4 - e).toNat) < n → xEx G0 cdX12_like (some .int) (xRn G0 MT d) Q b 10 [some (.inr (.inr 66)), some (.inl k), some (.inl is), some (.inl e)] [] h := by
          intro n
          induction n with
          | zero => intro is e _ _ _ hm; exact absurd hm (Nat.not_lt_zero _)
          | succ n ih10 =>
            intro is e he0 he9 hi hm10
            refine E_s 3 (i' := 13) (ls' := [some (.inr (.inr 66)), some (.inl k), some (.inl is), some (.inl e)]) (sk' := [.inl (h 66 4), .inl e]) (h' := h) rfl ?_
            refine E_b (x := (.if_icmp .ge 39, 35, [], [])) rfl rfl (fun c13 => ?_) (fun c13 => ?_)
            · rw [c_ge (by first | assumption | (refine ⟨?_, ?_⟩ <;> omega) | (simp only [xr] at *; omega)) (by first | assumption | (refine ⟨?_, ?_⟩ <;> omega) | (simp only [xr] at *; omega))] at c13
              simp only [decide_eq_true_eq, decide_eq_false_iff_not, Decidable.not_not] at c13
              show xEx G0 cdX12_like (some .int) (xRn G0 MT d) Q b 35 [some (.inr (.inr 66)), some (.inl k), some (.inl is), some (.inl e)] [] h
              refine E_s 1 (i' := 36) (ls' := [some (.inr (.inr 66)), some (.inl k), some (.inl is), some (.inl e)]) (sk' := [.inl is]) (h' := h) rfl ?_
              refine E_b (x := (.ifCond .eq 5, 39, [], [])) rfl rfl (fun c36 => ?_) (fun c36 => ?_)
              · rw [c_eq (by first | exact ⟨by omega, by omega⟩ | (rcases hi with hi | hi <;> exact ⟨by omega, by omega⟩)) (by first | exact ⟨by omega, by omega⟩ | (rcases hi with hi | hi <;> exact ⟨by omega, by omega⟩))] at c36
                simp only [decide_eq_true_eq, decide_eq_false_iff_not, Decidable.not_not] at c36
                show xEx G0 cdX12_like (some .int) (xRn G0 MT d) Q b 39 [some (.inr (.inr 66)), some (.inl k), some (.inl is), some (.inl e)] [] h
                refine E_s 2 (i' := 2) (ls' := [some (.inr (.inr 66)), some (.inl (k + 1)), some (.inl is), some (.inl e)]) (sk' := []) (h' := h) rfl ?_
                exact ih2 (k + 1) _ _ (by omega) (by omega) (fun j z1 z2 => by
                  rcases Int.lt_or_eq_of_le (show j ≤ k by omega) with z9 | z9
                  · exact hno j z1 z9
                  · rw [z9]; rcases hi with hi | hi
                    · omega
                    · exact hi.2) (by omega)
              · rw [c_eq (by first | exact ⟨by omega, by omega⟩ | (rcases hi with hi | hi <;> exact ⟨by omega, by omega⟩)) (by first | exact ⟨by omega, by omega⟩ | (rcases hi with hi | hi <;> exact ⟨by omega, by omega⟩))] at c36
                simp only [decide_eq_true_eq, decide_eq_false_iff_not, Decidable.not_not] at c36
                show xEx G0 cdX12_like (some .int) (xRn G0 MT d) Q b 37 [some (.inr (.inr 66)), some (.inl k), some (.inl is), some (.inl e)] [] h
                refine E_s 1 (i' := 38) (ls' := [some (.inr (.inr 66)), some (.inl k), some (.inl is), some (.inl e)]) (sk' := [.inl k]) (h' := h) rfl ?_
                exact E_ret (x := (.ireturn, 0, [], [])) (v := some (.inl k)) rfl (Or.inl rfl) (h1 k hk0 (by omega) (fun q z1 z2 => by
                  rcases hi with hi | hi
                  · exact hi.2 q z1 (by omega)
                  · omega) hno)
            · rw [c_ge (by first | assumption | (refine ⟨?_, ?_⟩ <;> omega) | (simp only [xr] at *; omega)) (by first | assumption | (refine ⟨?_, ?_⟩ <;> omega) | (simp only [xr] at *; omega))] at c13
              simp only [decide_eq_true_eq, decide_eq_false_iff_not, Decidable.not_not] at c13
              show xEx G0 cdX12_like (some .int) (xRn G0 MT d) Q b 14 [some (.inr (.inr 66)), some (.inl k), some (.inl is), some (.inl e)] [] h
              refine E_s 1 (i' := 15) (ls' := [some (.inr (.inr 66)), some (.inl k), some (.inl is), some (.inl e)]) (sk' := [.inl is]) (h' := h) rfl ?_
              refine E_b (x := (.ifCond .eq 35, 35, [], [])) rfl rfl (fun c15 => ?_) (fun c15 => ?_)
              · rw [c_eq (by rcases hi with hi | hi <;> exact ⟨by omega, by omega⟩) (by rcases hi with hi | hi <;> exact ⟨by omega, by omega⟩)] at c15
                simp only [decide_eq_true_eq, decide_eq_false_iff_not, Decidable.not_not] at c15
                show xEx G0 cdX12_like (some .int) (xRn G0 MT d) Q b 35 [some (.inr (.inr 66)), some (.inl k), some (.inl is), some (.inl e)] [] h
                refine E_s 1 (i' := 36) (ls' := [some (.inr (.inr 66)), some (.inl k), some (.inl is), some (.inl e)]) (sk' := [.inl is]) (h' := h) rfl ?_
                refine E_b (x := (.ifCond .eq 5, 39, [], [])) rfl rfl (fun c36 => ?_) (fun c36 => ?_)
                · rw [c_eq (by first | exact ⟨by omega, by omega⟩ | (rcases hi with hi | hi <;> exact ⟨by omega, by omega⟩)) (by first | exact ⟨by omega, by omega⟩ | (rcases hi with hi | hi <;> exact ⟨by omega, by omega⟩))] at c36
                  simp only [decide_eq_true_eq, decide_eq_false_iff_not, Decidable.not_not] at c36
                  show xEx G0 cdX12_like (some .int) (xRn G0 MT d) Q b 39 [some (.inr (.inr 66)), some (.inl k), some (.inl is), some (.inl e)] [] h
                  refine E_s 2 (i' := 2) (ls' := [some (.inr (.inr 66)), some (.inl (k + 1)), some (.inl is), some (.inl e)]) (sk' := []) (h' := h) rfl ?_
                  exact ih2 (k + 1) _ _ (by omega) (by omega) (fun j z1 z2 => by
                    rcases Int.lt_or_eq_of_le (show j ≤ k by omega) with z9 | z9
                    · exact hno j z1 z9
                    · rw [z9]; rcases hi with hi | hi
                      · omega
                      · exact hi.2) (by omega)
                · rw [c_eq (by first | exact ⟨by omega, by omega⟩ | (rcases hi with hi | hi <;> exact ⟨by omega, by omega⟩)) (by first | exact ⟨by omega, by omega⟩ | (rcases hi with hi | hi <;> exact ⟨by omega, by omega⟩))] at c36
                  simp only [decide_eq_true_eq, decide_eq_false_iff_not, Decidable.not_not] at c36
                  show xEx G0 cdX12_like (some .int) (xRn G0 MT d) Q b 37 [some (.inr (.inr 66)), some (.inl k), some (.inl is), some (.inl e)] [] h
                  refine E_s 1 (i' := 38) (ls' := [some (.inr (.inr 66)), some (.inl k), some (.inl is), some (.inl e)]) (sk' := [.inl k]) (h' := h) rfl ?_
                  exact E_ret (x := (.ireturn, 0, [], [])) (v := some (.inl k)) rfl (Or.inl rfl) (h1 k hk0 (by omega) (fun q z1 z2 => by
                    rcases hi with hi | hi
                    · exact hi.2 q z1 (by omega)
                    · omega) hno)
              · rw [c_eq (by rcases hi with hi | hi <;> exact ⟨by omega, by omega⟩) (by rcases hi with hi | hi <;> exact ⟨by omega, by omega⟩)] at c15
                simp only [decide_eq_true_eq, decide_eq_false_iff_not, Decidable.not_not] at c15
                show xEx G0 cdX12_like (some .int) (xRn G0 MT d) Q b 16 [some (.inr (.inr 66)), some (.inl k), some (.inl is), some (.inl e)] [] h
                have r1 := hr k e hk0 (by omega) he0 (by omega)
                have r2 := hrr e he0 (by omega)
                refine E_s 7 (i' := 23) (ls' := [some (.inr (.inr 66)), some (.inl k), some (.inl is), some (.inl e)]) (sk' := [.inl ((12 * k) + e), .inr (.inr 77)]) (h' := h) rfl ?_
                refine E_ld (x := (.iaload, 0, [], [])) (ty := .int) (n := 3600) rfl rfl rfl (by omega) (by omega) ?_
                show xEx G0 cdX12_like (some .int) (xRn G0 MT d) Q b 24 [some (.inr (.inr 66)), some (.inl k), some (.inl is), some (.inl e)] [.inl (h 77 ((12 * k) + e))] h
                refine E_s 3 (i' := 27) (ls' := [some (.inr (.inr 66)), some (.inl k), some (.inl is), some (.inl e)]) (sk' := [.inl e, .inr (.inr 92), .inl (h 77 ((12 * k) + e))]) (h' := h) rfl ?_
                refine E_ld (x := (.iaload, 0, [], [])) (ty := .int) (n := 12) rfl rfl rfl (by omega) (by omega) ?_
                show xEx G0 cdX12_like (some .int) (xRn G0 MT d) Q b 28 [some (.inr (.inr 66)), some (.inl k), some (.inl is), some (.inl e)] [.inl (h 92 e), .inl (h 77 ((12 * k) + e))] h
                refine E_b (x := (.if_icmp .ne 7, 31, [], [])) rfl rfl (fun c28 => ?_) (fun c28 => ?_)
                · rw [c_ne (by first | assumption | (refine ⟨?_, ?_⟩ <;> omega) | (simp only [xr] at *; omega)) (by first | assumption | (refine ⟨?_, ?_⟩ <;> omega) | (simp only [xr] at *; omega))] at c28
                  simp only [decide_eq_true_eq, decide_eq_false_iff_not, Decidable.not_not] at c28
                  show xEx G0 cdX12_like (some .int) (xRn G0 MT d) Q b 31 [some (.inr (.inr 66)), some (.inl k), some (.inl is), some (.inl e)] [] h
                  refine E_s 4 (i' := 10) (ls' := [some (.inr (.inr 66)), some (.inl k), some (.inl 0), some (.inl (e + 1))]) (sk' := []) (h' := h) rfl ?_
                  exact ih10 0 (e + 1) (by omega) (by omega) (Or.inr ⟨rfl, fun z => c28 (z e he0 (by omega))⟩) (by omega)
                · rw [c_ne (by first | assumption | (refine ⟨?_, ?_⟩ <;> omega) | (simp only [xr] at *; omega)) (by first | assumption | (refine ⟨?_, ?_⟩ <;> omega) | (simp only [xr] at *; omega))] at c28
                  simp only [decide_eq_true_eq, decide_eq_false_iff_not, Decidable.not_not] at c28
                  show xEx G0 cdX12_like (some .int) (xRn G0 MT d) Q b 29 [some (.inr (.inr 66)), some (.inl k), some (.inl is), some (.inl e)] [] h
                  refine E_s 5 (i' := 10) (ls' := [some (.inr (.inr 66)), some (.inl k), some (.inl 1), some (.inl (e + 1))]) (sk' := []) (h' := h) rfl ?_
                  exact ih10 1 (e + 1) (by omega) (by omega) (Or.inl ⟨rfl, fun q z1 z2 => by
                    rcases Int.lt_or_eq_of_le (show q ≤ e by omega) with z9 | z9
                    · rcases hi with hi | hi
                      · exact hi.2 q z1 z9
                      · omega
                    · rw [z9]; exact c28⟩) (by omega)
        exact key10 _ 1 0 (by omega) (by omega) (Or.inl ⟨rfl, fun q z1 z2 => by omega⟩) (Nat.lt_succ_self _)
  exact key2 _ 0 none none (by omega) (by omega) (fun j z1 z2 => by omega) (Nat.lt_succ_self _)
set_option maxHeartbeats 1000000 in
theorem r_coverNow (d b : Nat) (h : xH) (hn : 0 ≤ h 66 4 ∧ h 66 4 ≤ 12) (hr : ∀ e, 0 ≤ e → e < h 66 4 → xr (h 92 e) ∧ xr (h 67 (4 * e + 3))) {Q : xO → xH → Prop} (hQ : Q (.inl (some (.inl (cv (fun e => h 92 e = h 67 (4 * e + 3)) (h 66 4).toNat : Int)))) h) : xRn G0 MT (d + 1) b 178 [.inr (.inr 66)] h Q := by
  refine R_of (M := mX12_coverNow) rfl (Nat.le_of_ble_eq_true rfl) ?_
  show xEx G0 cdX12_coverNow (some .int) (xRn G0 MT d) Q b 0 [some (.inr (.inr 66)), none, none] [] h
  refine E_s 4 (i' := 4) (ls' := [some (.inr (.inr 66)), some (.inl 0), some (.inl 0)]) (sk' := []) (h' := h) rfl ?_
  have key4 : ∀ (n : Nat) (e : Int), (0 ≤ e) → (e ≤ h 66 4) → ((h 66 4 - e).toNat) < n → xEx G0 cdX12_coverNow (some .int) (xRn G0 MT d) Q b 4 [some (.inr (.inr 66)), some (.inl (cv (fun e => h 92 e = h 67 (4 * e + 3)) e.toNat : Int)), some (.inl e)] [] h := by
    intro n
    induction n with
    | zero => intro e _ _ hm; exact absurd hm (Nat.not_lt_zero _)
    | succ n ih4 =>
      intro e he0 he9 hm4
      refine E_s 3 (i' := 7) (ls' := [some (.inr (.inr 66)), some (.inl (cv (fun e => h 92 e = h 67 (4 * e + 3)) e.toNat : Int)), some (.inl e)]) (sk' := [.inl (h 66 4), .inl e]) (h' := h) rfl ?_
      refine E_b (x := (.if_icmp .ge 38, 31, [], [])) rfl rfl (fun c7 => ?_) (fun c7 => ?_)
      · rw [c_ge (by first | assumption | (refine ⟨?_, ?_⟩ <;> omega) | (simp only [xr] at *; omega)) (by first | assumption | (refine ⟨?_, ?_⟩ <;> omega) | (simp only [xr] at *; omega))] at c7
        simp only [decide_eq_true_eq, decide_eq_false_iff_not, Decidable.not_not] at c7
        show xEx G0 cdX12_coverNow (some .int) (xRn G0 MT d) Q b 31 [some (.inr (.inr 66)), some (.inl (cv (fun e => h 92 e = h 67 (4 * e + 3)) e.toNat : Int)), some (.inl e)] [] h
        refine E_s 1 (i' := 32) (ls' := [some (.inr (.inr 66)), some (.inl (cv (fun e => h 92 e = h 67 (4 * e + 3)) e.toNat : Int)), some (.inl e)]) (sk' := [.inl (cv (fun e => h 92 e = h 67 (4 * e + 3)) e.toNat : Int)]) (h' := h) rfl ?_
        exact E_ret (x := (.ireturn, 0, [], [])) (v := some (.inl (cv (fun e => h 92 e = h 67 (4 * e + 3)) e.toNat : Int))) rfl (Or.inl rfl) (by obtain e9 : e = h 66 4 := (by omega); rw [e9]; exact hQ)
      · rw [c_ge (by first | assumption | (refine ⟨?_, ?_⟩ <;> omega) | (simp only [xr] at *; omega)) (by first | assumption | (refine ⟨?_, ?_⟩ <;> omega) | (simp only [xr] at *; omega))] at c7
        simp only [decide_eq_true_eq, decide_eq_false_iff_not, Decidable.not_not] at c7
        show xEx G0 cdX12_coverNow (some .int) (xRn G0 MT d) Q b 8 [some (.inr (.inr 66)), some (.inl (cv (fun e => h 92 e = h 67 (4 * e + 3)) e.toNat : Int)), some (.inl e)] [] h
        obtain ⟨r1, r2⟩ := hr e he0 (by omega)
        refine E_s 4 (i' := 12) (ls' := [some (.inr (.inr 66)), some (.inl (cv (fun e => h 92 e = h 67 (4 * e + 3)) e.toNat : Int)), some (.inl e)]) (sk' := [.inl e, .inr (.inr 92), .inl (cv (fun e => h 92 e = h 67 (4 * e + 3)) e.toNat : Int)]) (h' := h) rfl ?_
        refine E_ld (x := (.iaload, 0, [], [])) (ty := .int) (n := 12) rfl rfl rfl (by omega) (by omega) ?_
        show xEx G0 cdX12_coverNow (some .int) (xRn G0 MT d) Q b 13 [some (.inr (.inr 66)), some (.inl (cv (fun e => h 92 e = h 67 (4 * e + 3)) e.toNat : Int)), some (.inl e)] [.inl (h 92 e), .inl (cv (fun e => h 92 e = h 67 (4 * e + 3)) e.toNat : Int)] h
        refine E_s 7 (i' := 20) (ls' := [some (.inr (.inr 66)), some (.inl (cv (fun e => h 92 e = h 67 (4 * e + 3)) e.toNat : Int)), some (.inl e)]) (sk' := [.inl ((4 * e) + 3), .inr (.inr 67), .inl (h 92 e), .inl (cv (fun e => h 92 e = h 67 (4 * e + 3)) e.toNat : Int)]) (h' := h) rfl ?_
        refine E_ld (x := (.iaload, 0, [], [])) (ty := .int) (n := 48) rfl rfl rfl (by omega) (by omega) ?_
        show xEx G0 cdX12_coverNow (some .int) (xRn G0 MT d) Q b 21 [some (.inr (.inr 66)), some (.inl (cv (fun e => h 92 e = h 67 (4 * e + 3)) e.toNat : Int)), some (.inl e)] [.inl (h 67 ((4 * e) + 3)), .inl (h 92 e), .inl (cv (fun e => h 92 e = h 67 (4 * e + 3)) e.toNat : Int)] h
        refine E_b (x := (.if_icmp .ne 9, 26, [], [])) rfl rfl (fun c21 => ?_) (fun c21 => ?_)
        · rw [c_ne (by first | assumption | (refine ⟨?_, ?_⟩ <;> omega) | (simp only [xr] at *; omega)) (by first | assumption | (refine ⟨?_, ?_⟩ <;> omega) | (simp only [xr] at *; omega))] at c21
          simp only [decide_eq_true_eq, decide_eq_false_iff_not, Decidable.not_not] at c21
          show xEx G0 cdX12_coverNow (some .int) (xRn G0 MT d) Q b 26 [some (.inr (.inr 66)), some (.inl (cv (fun e => h 92 e = h 67 (4 * e + 3)) e.toNat : Int)), some (.inl e)] [.inl (cv (fun e => h 92 e = h 67 (4 * e + 3)) e.toNat : Int)] h
          refine E_s 2 (i' := 28) (ls' := [some (.inr (.inr 66)), some (.inl (cv (fun e => h 92 e = h 67 (4 * e + 3)) e.toNat : Int)), some (.inl e)]) (sk' := [.inl (xor_ (cv (fun e => h 92 e = h 67 (4 * e + 3)) e.toNat : Int) 0)]) (h' := h) rfl ?_
          rw [cv_z (p := fun e => h 92 e = h 67 (4 * e + 3)) he0 (by omega) c21]
          refine E_s 3 (i' := 4) (ls' := [some (.inr (.inr 66)), some (.inl (cv (fun e => h 92 e = h 67 (4 * e + 3)) (e + 1).toNat : Int)), some (.inl (e + 1))]) (sk' := []) (h' := h) rfl ?_
          exact ih4 (e + 1) (by omega) (by omega) (by omega)
        · rw [c_ne (by first | assumption | (refine ⟨?_, ?_⟩ <;> omega) | (simp only [xr] at *; omega)) (by first | assumption | (refine ⟨?_, ?_⟩ <;> omega) | (simp only [xr] at *; omega))] at c21
          simp only [decide_eq_true_eq, decide_eq_false_iff_not, Decidable.not_not] at c21
          show xEx G0 cdX12_coverNow (some .int) (xRn G0 MT d) Q b 22 [some (.inr (.inr 66)), some (.inl (cv (fun e => h 92 e = h 67 (4 * e + 3)) e.toNat : Int)), some (.inl e)] [.inl (cv (fun e => h 92 e = h 67 (4 * e + 3)) e.toNat : Int)] h
          refine E_s 5 (i' := 28) (ls' := [some (.inr (.inr 66)), some (.inl (cv (fun e => h 92 e = h 67 (4 * e + 3)) e.toNat : Int)), some (.inl e)]) (sk' := [.inl (xor_ (cv (fun e => h 92 e = h 67 (4 * e + 3)) e.toNat : Int) (xshl 1 e))]) (h' := h) rfl ?_
          rw [cv_s1 (p := fun e => h 92 e = h 67 (4 * e + 3)) he0 (by omega) c21]
          refine E_s 3 (i' := 4) (ls' := [some (.inr (.inr 66)), some (.inl (cv (fun e => h 92 e = h 67 (4 * e + 3)) (e + 1).toNat : Int)), some (.inl (e + 1))]) (sk' := []) (h' := h) rfl ?_
          exact ih4 (e + 1) (by omega) (by omega) (by omega)
  have e0 := key4 _ 0 (by omega) (by omega) (Nat.lt_succ_self _)
  skip
  exact e0
