theorem chn_pop {h : xH} {K : Int} (c : chn h (K + 1)) (hK : 0 ≤ K) {h' : xH} (e1 : h' 27 = h 27) (e2 : h' 26 = h 26) (e3 : ∀ j, h' 25 j = if j = h 27 K then h 26 K else h 25 j) : chn h' K := by
  refine ⟨fun v h1 h2 => ?_, fun k h1 h2 => ?_⟩
  · rw [e1, e3]
    by_cases z : v = h 27 K
    · rw [if_pos z, z]
      exact (c.2 K hK (by omega)).2.2
    · rw [if_neg z]
      rcases c.1 v h1 h2 with ⟨a, b⟩ | ⟨a, b, e, f⟩
      · exact Or.inl ⟨a, fun k q1 q2 => b k q1 (by omega)⟩
      · refine Or.inr ⟨a, ?_, e, fun k q1 q2 => f k q1 (by omega)⟩
        rcases Int.lt_or_eq_of_le (show h 25 v ≤ K by omega) with q | q
        · exact q
        · rw [q] at e; exact absurd e.symm z
  · rw [e1, e2]
    exact c.2 k h1 (by omega)
/-- the KEPT TESTS by their sets -/
def num (h : xH) (K : Int) : Prop := (∀ v, 0 ≤ v → v < 4096 → lst (h 39) v K (h 43 v)) ∧ (∀ k, 0 ≤ k → k < K → 0 ≤ h 39 k ∧ h 39 k < 4096) ∧ ∀ j k, 0 ≤ j → j < k → k < K → h 39 j ≠ h 39 k
theorem num_pop {h : xH} {K : Int} (c : num h (K + 1)) (hK : 0 ≤ K) {h' : xH} (e1 : h' 39 = h 39) (e3 : ∀ j, h' 43 j = if j = h 39 K then -1 else h 43 j) : num h' K := by
  refine ⟨fun v h1 h2 => ?_, fun k h1 h2 => ?_, fun j k h1 h2 h3 => ?_⟩
  · rw [e1, e3]
    by_cases z : v = h 39 K
    · rw [if_pos z, z]
      exact Or.inl ⟨rfl, fun k q1 q2 => c.2.2 k K q1 q2 (by omega)⟩
    · rw [if_neg z]
      rcases c.1 v h1 h2 with ⟨a, b⟩ | ⟨a, b, e, f⟩
      · exact Or.inl ⟨a, fun k q1 q2 => b k q1 (by omega)⟩
      · refine Or.inr ⟨a, ?_, e, fun k q1 q2 => f k q1 (by omega)⟩
        rcases Int.lt_or_eq_of_le (show h 43 v ≤ K by omega) with q | q
        · exact q
        · rw [q] at e; exact absurd e.symm z
  · rw [e1]; exact c.2.1 k h1 (by omega)
  · rw [e1]; exact c.2.2 j k h1 h2 (by omega)
set_option maxHeartbeats 1000000 in
theorem c_unsettleBehind_ge (d b : Nat) (h : xH) (kp : Int) (hK : 0 ≤ h 9 9 ∧ h 9 9 ≤ 300) (hk : 0 ≤ kp ∧ kp ≤ h 9 9) (hc0 : chn h (h 9 9)) {Q : xO → xH → Prop} (hQ : ∀ h', (∀ a, a ≠ 25 → a ≠ 9 → h' a = h a) → (∀ j, j ≠ 9 → h' 9 j = h 9 j) → h' 9 9 = kp → chn h' kp → Q (.inl none) h') : xRn G0 MT (d + 2) b 37 [.inr (.inr 9), .inl kp] h Q := by
  refine R_of (M := mX3_unsettleBehind) rfl (Nat.le_of_ble_eq_true rfl) ?_
  show xEx G0 cdX3_unsettleBehind none (xRn G0 MT (d + 1)) Q b 0 [some (.inr (.inr 9)), some (.inl kp), none] [] h
  refine E_s 5 (i' := 5) (ls' := [some (.inr (.inr 9)), some (.inl kp), some (.inl ((h 9 9) - 1))]) (sk' := []) (h' := h) rfl ?_
  have key5 : ∀ (n : Nat) (hh : xH) (i : Int), (kp - 1 ≤ i) → (i < h 9 9) → (∀ a, a ≠ 25 → hh a = h a) → (chn hh (i + 1)) → ((i + 1).toNat) < n → xEx G0 cdX3_unsettleBehind none (xRn G0 MT (d + 1)) Q b 5 [some (.inr (.inr 9)), some (.inl kp), some (.inl i)] [] hh := by
    intro n
    induction n with
    | zero => intro hh i _ _ _ _ hm; exact absurd hm (Nat.not_lt_zero _)
    | succ n ih5 =>
      intro hh i hi9 hiK hfr hc hm5
      refine E_s 2 (i' := 7) (ls' := [some (.inr (.inr 9)), some (.inl kp), some (.inl i)]) (sk' := [.inl kp, .inl i]) (h' := hh) rfl ?_
      refine E_b (x := (.if_icmp .lt 14, 13, [], [])) rfl rfl (fun c7 => ?_) (fun c7 => ?_)
      · rw [c_lt (by first | assumption | (refine ⟨?_, ?_⟩ <;> omega) | (simp only [xr] at *; omega)) (by first | assumption | (refine ⟨?_, ?_⟩ <;> omega) | (simp only [xr] at *; omega))] at c7
        simp only [decide_eq_true_eq, decide_eq_false_iff_not, Decidable.not_not] at c7
        show xEx G0 cdX3_unsettleBehind none (xRn G0 MT (d + 1)) Q b 13 [some (.inr (.inr 9)), some (.inl kp), some (.inl i)] [] hh
        refine E_s 3 (i' := 16) (ls' := [some (.inr (.inr 9)), some (.inl kp), some (.inl i)]) (sk' := []) (h' := (xup hh 9 9 kp)) rfl ?_
        exact E_ret (x := (.return_, 0, [], [])) (v := none) rfl (trivial) (hQ _ (fun a h1 h2 => by rw [← hfr a h1]; exact xup_o _ _ _ _ a h2) (fun j h1 => by rw [xup_j h1, hfr _ (by decide)]) xup_s (by
          have e : i + 1 = kp := by omega
          rw [e] at hc
          exact hc))
      · rw [c_lt (by first | assumption | (refine ⟨?_, ?_⟩ <;> omega) | (simp only [xr] at *; omega)) (by first | assumption | (refine ⟨?_, ?_⟩ <;> omega) | (simp only [xr] at *; omega))] at c7
        simp only [decide_eq_true_eq, decide_eq_false_iff_not, Decidable.not_not] at c7
        show xEx G0 cdX3_unsettleBehind none (xRn G0 MT (d + 1)) Q b 8 [some (.inr (.inr 9)), some (.inl kp), some (.inl i)] [] hh
        have hi0 : 0 ≤ i := by omega
        refine E_s 2 (i' := 10) (ls' := [some (.inr (.inr 9)), some (.inl kp), some (.inl i)]) (sk' := [.inl i, .inr (.inr 9)]) (h' := hh) rfl ?_
        refine E_cv (x := (.invokevirtual 148, 1, [(1, 17), (7, 88)], [1])) (q := fun h9 => h9 = xup hh 25 (hh 27 i) (hh 26 i)) rfl rfl (Nat.le_of_ble_eq_true rfl) (c_unsettle d 0 hh i (by omega) (by have := hc.2 i (by omega) (by omega); exact ⟨this.1, this.2.1⟩) ⟨rfl, rfl⟩) (fun h9 e9 => ?_)
        subst e9
        show xEx G0 cdX3_unsettleBehind none (xRn G0 MT (d + 1)) Q b 11 [some (.inr (.inr 9)), some (.inl kp), some (.inl i)] [] (xup hh 25 (hh 27 i) (hh 26 i))
        
        refine E_s 2 (i' := 5) (ls' := [some (.inr (.inr 9)), some (.inl kp), some (.inl (i + (-1)))]) (sk' := []) (h' := (xup hh 25 (hh 27 i) (hh 26 i))) rfl ?_
        exact ih5 _ (i - 1) (by omega) (by omega) (fun a ha => by rw [← hfr a ha]; exact xup_o _ _ _ _ a ha) (by rw [show i - 1 + 1 = i by omega]; exact (chn_pop hc hi0 rfl rfl (fun j => by simp [xup]))) (by omega)
  exact key5 _ h (h 9 9 - 1) (by omega) (by omega) (fun _ _ => rfl) (by rw [show h 9 9 - 1 + 1 = h 9 9 by omega]; exact hc0) (Nat.lt_succ_self _)
set_option maxHeartbeats 1000000 in
theorem c_unsettleBehind_gt (d b : Nat) (h : xH) (kp : Int) (hK : 0 ≤ h 28 9 ∧ h 28 9 ≤ 150) (hk : 0 ≤ kp ∧ kp ≤ h 28 9) (hc0 : num h (h 28 9)) {Q : xO → xH → Prop} (hQ : ∀ h', (∀ a, a ≠ 43 → a ≠ 28 → h' a = h a) → (∀ j, j ≠ 9 → h' 28 j = h 28 j) → h' 28 9 = kp → num h' kp → Q (.inl none) h') : xRn G0 MT (d + 2) b 37 [.inr (.inr 28), .inl kp] h Q := by
  refine R_of (M := mX3_unsettleBehind) rfl (Nat.le_of_ble_eq_true rfl) ?_
  show xEx G0 cdX3_unsettleBehind none (xRn G0 MT (d + 1)) Q b 0 [some (.inr (.inr 28)), some (.inl kp), none] [] h
  refine E_s 5 (i' := 5) (ls' := [some (.inr (.inr 28)), some (.inl kp), some (.inl ((h 28 9) - 1))]) (sk' := []) (h' := h) rfl ?_
  have key5 : ∀ (n : Nat) (hh : xH) (i : Int), (kp - 1 ≤ i) → (i < h 28 9) → (∀ a, a ≠ 43 → hh a = h a) → (num hh (i + 1)) → ((i + 1).toNat) < n → xEx G0 cdX3_unsettleBehind none (xRn G0 MT (d + 1)) Q b 5 [some (.inr (.inr 28)), some (.inl kp), some (.inl i)] [] hh := by
    intro n
    induction n with
    | zero => intro hh i _ _ _ _ hm; exact absurd hm (Nat.not_lt_zero _)
    | succ n ih5 =>
      intro hh i hi9 hiK hfr hc hm5
      refine E_s 2 (i' := 7) (ls' := [some (.inr (.inr 28)), some (.inl kp), some (.inl i)]) (sk' := [.inl kp, .inl i]) (h' := hh) rfl ?_
      refine E_b (x := (.if_icmp .lt 14, 13, [], [])) rfl rfl (fun c7 => ?_) (fun c7 => ?_)
      · rw [c_lt (by first | assumption | (refine ⟨?_, ?_⟩ <;> omega) | (simp only [xr] at *; omega)) (by first | assumption | (refine ⟨?_, ?_⟩ <;> omega) | (simp only [xr] at *; omega))] at c7
        simp only [decide_eq_true_eq, decide_eq_false_iff_not, Decidable.not_not] at c7
        show xEx G0 cdX3_unsettleBehind none (xRn G0 MT (d + 1)) Q b 13 [some (.inr (.inr 28)), some (.inl kp), some (.inl i)] [] hh
        refine E_s 3 (i' := 16) (ls' := [some (.inr (.inr 28)), some (.inl kp), some (.inl i)]) (sk' := []) (h' := (xup hh 28 9 kp)) rfl ?_
        exact E_ret (x := (.return_, 0, [], [])) (v := none) rfl (trivial) (hQ _ (fun a h1 h2 => by rw [← hfr a h1]; exact xup_o _ _ _ _ a h2) (fun j h1 => by rw [xup_j h1, hfr _ (by decide)]) xup_s (by
          have e : i + 1 = kp := by omega
          rw [e] at hc
          exact hc))
      · rw [c_lt (by first | assumption | (refine ⟨?_, ?_⟩ <;> omega) | (simp only [xr] at *; omega)) (by first | assumption | (refine ⟨?_, ?_⟩ <;> omega) | (simp only [xr] at *; omega))] at c7
        simp only [decide_eq_true_eq, decide_eq_false_iff_not, Decidable.not_not] at c7
        show xEx G0 cdX3_unsettleBehind none (xRn G0 MT (d + 1)) Q b 8 [some (.inr (.inr 28)), some (.inl kp), some (.inl i)] [] hh
        have hi0 : 0 ≤ i := by omega
        refine E_s 2 (i' := 10) (ls' := [some (.inr (.inr 28)), some (.inl kp), some (.inl i)]) (sk' := [.inl i, .inr (.inr 28)]) (h' := hh) rfl ?_
        refine E_cv (x := (.invokevirtual 148, 1, [(1, 17), (7, 88)], [1])) (q := fun h9 => h9 = xup hh 43 (hh 39 i) (-1)) rfl rfl (Nat.le_of_ble_eq_true rfl) (c_unsettleT d 0 hh i (by omega) (hc.2.1 i (by omega) (by omega)) ⟨rfl, rfl⟩) (fun h9 e9 => ?_)
        subst e9
        show xEx G0 cdX3_unsettleBehind none (xRn G0 MT (d + 1)) Q b 11 [some (.inr (.inr 28)), some (.inl kp), some (.inl i)] [] (xup hh 43 (hh 39 i) (-1))
        
        refine E_s 2 (i' := 5) (ls' := [some (.inr (.inr 28)), some (.inl kp), some (.inl (i + (-1)))]) (sk' := []) (h' := (xup hh 43 (hh 39 i) (-1))) rfl ?_
        exact ih5 _ (i - 1) (by omega) (by omega) (fun a ha => by rw [← hfr a ha]; exact xup_o _ _ _ _ a ha) (by rw [show i - 1 + 1 = i by omega]; exact (num_pop hc hi0 rfl (fun j => by simp [xup]))) (by omega)
  exact key5 _ h (h 28 9 - 1) (by omega) (by omega) (fun _ _ => rfl) (by rw [show h 28 9 - 1 + 1 = h 28 9 by omega]; exact hc0) (Nat.lt_succ_self _)
set_option maxHeartbeats 1000000 in
theorem c_forget_ge (d b : Nat) (h : xH) (hK : 0 ≤ h 9 9 ∧ h 9 9 ≤ 300) (hc0 : chn h (h 9 9)) {Q : xO → xH → Prop} (hQ : ∀ h', (∀ a, a ≠ 25 → a ≠ 9 → a ≠ 23 → h' a = h a) → (∀ j, 14 < j → h' 9 j = h 9 j) → h' 9 9 = 0 → h' 9 10 = 0 → h' 9 11 = 0 → h' 9 12 = 0 → h' 9 13 = 0 → h' 9 14 = 0 → (∀ j, 0 ≤ j → j < 10 → h' 23 j = 0) → chn h' 0 → Q (.inl none) h') : xRn G0 MT (d + 3) b 32 [.inr (.inr 9)] h Q := by
  refine R_of (M := mX3_forget) rfl (Nat.le_of_ble_eq_true rfl) ?_
  show xEx G0 cdX3_forget none (xRn G0 MT (d + 2)) Q b 0 [some (.inr (.inr 9))] [] h
  refine E_s 2 (i' := 2) (ls' := [some (.inr (.inr 9))]) (sk' := [.inl 0, .inr (.inr 9)]) (h' := h) rfl ?_
  refine E_cv (x := (.invokevirtual 59, 1, [(1, 37), (7, 37)], [1])) (q := fun h9 => (∀ a, a ≠ 25 → a ≠ 9 → h9 a = h a) ∧ (∀ j, j ≠ 9 → h9 9 j = h 9 j) ∧ h9 9 9 = 0 ∧ chn h9 0) rfl rfl (Nat.le_of_ble_eq_true rfl) (c_unsettleBehind_ge d 0 h 0 hK (by omega) hc0 (fun h9 q1 q2 q3 q4 => ⟨rfl, q1, q2, q3, q4⟩)) (fun h1 hq => ?_)
  obtain ⟨q1, q2, q3, q4⟩ := hq
  show xEx G0 cdX3_forget none (xRn G0 MT (d + 2)) Q b 3 [some (.inr (.inr 9))] [] h1
  refine E_s 14 (i' := 17) (ls' := [some (.inr (.inr 9))]) (sk' := [.inl 0, .inr (.inr 9)]) (h' := (xup (xup (xup (xup h1 9 10 0) 9 11 0) 9 12 0) 9 13 0)) rfl ?_
  refine E_pz (x := (.putfield 75, 0, [(1, 14), (7, 14)], [])) rfl rfl rfl (Or.inl rfl) ?_
  show xEx G0 cdX3_forget none (xRn G0 MT (d + 2)) Q b 18 [some (.inr (.inr 9))] [] (xup (xup (xup (xup (xup h1 9 10 0) 9 11 0) 9 12 0) 9 13 0) 9 14 0)
  refine E_s 3 (i' := 21) (ls' := [some (.inr (.inr 9))]) (sk' := [.inl 0, .inr (.inr 23)]) (h' := (xup (xup (xup (xup (xup h1 9 10 0) 9 11 0) 9 12 0) 9 13 0) 9 14 0)) rfl ?_
  refine E_cv (x := (.invokestatic 79, 2, [(0, 255)], [])) (q := fun h9 => h9 = (xfill (xup (xup (xup (xup (xup h1 9 10 0) 9 11 0) 9 12 0) 9 13 0) 9 14 0) 23 0 10 0)) rfl rfl (Nat.le_of_ble_eq_true rfl) (c_fill0_ge_ends (d + 1) 0 (xup (xup (xup (xup (xup h1 9 10 0) 9 11 0) 9 12 0) 9 13 0) 9 14 0) 0 ⟨rfl, rfl⟩) (fun h9 e9 => ?_)
  subst e9
  show xEx G0 cdX3_forget none (xRn G0 MT (d + 2)) Q b 22 [some (.inr (.inr 9))] [] (xfill (xup (xup (xup (xup (xup h1 9 10 0) 9 11 0) 9 12 0) 9 13 0) 9 14 0) 23 0 10 0)
  exact E_ret (x := (.return_, 0, [], [])) (v := none) rfl (trivial) (hQ _ (fun a z1 z2 z3 => by rw [xfill_a z3, ← q1 a z1 z2]; simp only [xup_o _ _ _ _ a z2]) (fun j z1 => by rw [xfill_a (by decide), xup_j (by omega), xup_j (by omega), xup_j (by omega), xup_j (by omega), xup_j (by omega)]; exact q2 j (by omega)) q3 rfl rfl rfl rfl rfl (fun j z1 z2 => xfill_i ⟨z1, z2⟩) q4)
set_option maxHeartbeats 1000000 in
theorem c_forget_gt (d b : Nat) (h : xH) (hK : 0 ≤ h 28 9 ∧ h 28 9 ≤ 150) (hc0 : num h (h 28 9)) {Q : xO → xH → Prop} (hQ : ∀ h', (∀ a, a ≠ 43 → a ≠ 28 → a ≠ 42 → h' a = h a) → (∀ j, 14 < j → h' 28 j = h 28 j) → h' 28 9 = 0 → h' 28 10 = 0 → h' 28 11 = 0 → h' 28 12 = 0 → h' 28 13 = 0 → h' 28 14 = 0 → (∀ j, 0 ≤ j → j < 8 → h' 42 j = 0) → num h' 0 → Q (.inl none) h') : xRn G0 MT (d + 3) b 32 [.inr (.inr 28)] h Q := by
  refine R_of (M := mX3_forget) rfl (Nat.le_of_ble_eq_true rfl) ?_
  show xEx G0 cdX3_forget none (xRn G0 MT (d + 2)) Q b 0 [some (.inr (.inr 28))] [] h
  refine E_s 2 (i' := 2) (ls' := [some (.inr (.inr 28))]) (sk' := [.inl 0, .inr (.inr 28)]) (h' := h) rfl ?_
  refine E_cv (x := (.invokevirtual 59, 1, [(1, 37), (7, 37)], [1])) (q := fun h9 => (∀ a, a ≠ 43 → a ≠ 28 → h9 a = h a) ∧ (∀ j, j ≠ 9 → h9 28 j = h 28 j) ∧ h9 28 9 = 0 ∧ num h9 0) rfl rfl (Nat.le_of_ble_eq_true rfl) (c_unsettleBehind_gt d 0 h 0 hK (by omega) hc0 (fun h9 q1 q2 q3 q4 => ⟨rfl, q1, q2, q3, q4⟩)) (fun h1 hq => ?_)
  obtain ⟨q1, q2, q3, q4⟩ := hq
  show xEx G0 cdX3_forget none (xRn G0 MT (d + 2)) Q b 3 [some (.inr (.inr 28))] [] h1
  refine E_s 14 (i' := 17) (ls' := [some (.inr (.inr 28))]) (sk' := [.inl 0, .inr (.inr 28)]) (h' := (xup (xup (xup (xup h1 28 10 0) 28 11 0) 28 12 0) 28 13 0)) rfl ?_
  refine E_pz (x := (.putfield 75, 0, [(1, 14), (7, 14)], [])) rfl rfl rfl (Or.inl rfl) ?_
  show xEx G0 cdX3_forget none (xRn G0 MT (d + 2)) Q b 18 [some (.inr (.inr 28))] [] (xup (xup (xup (xup (xup h1 28 10 0) 28 11 0) 28 12 0) 28 13 0) 28 14 0)
  refine E_s 3 (i' := 21) (ls' := [some (.inr (.inr 28))]) (sk' := [.inl 0, .inr (.inr 42)]) (h' := (xup (xup (xup (xup (xup h1 28 10 0) 28 11 0) 28 12 0) 28 13 0) 28 14 0)) rfl ?_
  refine E_cv (x := (.invokestatic 79, 2, [(0, 255)], [])) (q := fun h9 => h9 = (xfill (xup (xup (xup (xup (xup h1 28 10 0) 28 11 0) 28 12 0) 28 13 0) 28 14 0) 42 0 8 0)) rfl rfl (Nat.le_of_ble_eq_true rfl) (c_fill0_gt_ends (d + 1) 0 (xup (xup (xup (xup (xup h1 28 10 0) 28 11 0) 28 12 0) 28 13 0) 28 14 0) 0 ⟨rfl, rfl⟩) (fun h9 e9 => ?_)
  subst e9
  show xEx G0 cdX3_forget none (xRn G0 MT (d + 2)) Q b 22 [some (.inr (.inr 28))] [] (xfill (xup (xup (xup (xup (xup h1 28 10 0) 28 11 0) 28 12 0) 28 13 0) 28 14 0) 42 0 8 0)
  exact E_ret (x := (.return_, 0, [], [])) (v := none) rfl (trivial) (hQ _ (fun a z1 z2 z3 => by rw [xfill_a z3, ← q1 a z1 z2]; simp only [xup_o _ _ _ _ a z2]) (fun j z1 => by rw [xfill_a (by decide), xup_j (by omega), xup_j (by omega), xup_j (by omega), xup_j (by omega), xup_j (by omega)]; exact q2 j (by omega)) q3 rfl rfl rfl rfl rfl (fun j z1 z2 => xfill_i ⟨z1, z2⟩) q4)
