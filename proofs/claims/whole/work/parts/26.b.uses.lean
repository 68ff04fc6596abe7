theorem RR_vh0 {h S : xH} {v : Int} (r : RR h S) : RR (xup h 66 0 v) S := by
  obtain ⟨a, b, c, e⟩ := r
  exact ⟨a, b, c, e⟩
theorem RRT_vh0 {h T : xH} {v : Int} (r : RRT h T) : RRT (xup h 66 0 v) T := by
  obtain ⟨a, b, c, e⟩ := r
  exact ⟨a, b, c, e⟩
theorem FM_st {h h' : xH} (e : ∀ a, a ≠ 98 → a ≠ 99 → h' a = h a) : FM h h' := FM_c (fun a => a = 98 ∨ a = 99) (fun a z => by unfold scr; omega) (fun a z => e a (by omega) (by omega))
set_option maxHeartbeats 1000000 in
theorem c_partsIn0 (d b : Nat) (h : xH) (k p : Int) (hk : 0 ≤ k ∧ k < 300) {Q : xO → xH → Prop} (hQ : Q (.inl (some (.inl (pin (h 19 k) p)))) h) : xRn G0 MT (d + 1) b 28 [.inr (.inr 9), .inl k, .inl p] h Q := by
  refine R_of (M := mX3_partsIn) rfl (Nat.le_of_ble_eq_true rfl) ?_
  show xEx G0 cdX3_partsIn (some .int) (xRn G0 MT d) Q b 0 [some (.inr (.inr 9)), some (.inl k), some (.inl p)] [] h
  refine E_s 3 (i' := 3) (ls' := [some (.inr (.inr 9)), some (.inl k), some (.inl p)]) (sk' := [.inl k, .inr (.inr 19)]) (h' := h) rfl ?_
  refine E_ld (x := (.laload, 0, [], [])) (ty := .long) (n := 300) rfl rfl rfl (by omega) (by omega) ?_
  show xEx G0 cdX3_partsIn (some .int) (xRn G0 MT d) Q b 4 [some (.inr (.inr 9)), some (.inl k), some (.inl p)] [.inr (.inl (h 19 k))] h
  refine E_s 7 (i' := 11) (ls' := [some (.inr (.inr 9)), some (.inl k), some (.inl p)]) (sk' := [.inl (xand (xlushr (h 19 k) (4 * p)) 15)]) (h' := h) rfl ?_
  exact E_ret (x := (.ireturn, 0, [], [])) (v := some (.inl (xand (xlushr (h 19 k) (4 * p)) 15))) rfl (Or.inl rfl) (hQ)
set_option maxHeartbeats 1000000 in
theorem c_lacks0 (d b : Nat) (h : xH) (k p : Int) (hk : 0 ≤ k ∧ k < 300) (hp : p = -1 ∨ (0 ≤ p ∧ p ≤ 9)) {Q : xO → xH → Prop} (h1 : lk (h 19 k) p → Q (.inl (some (.inl (1)))) h) (h0 : ¬ lk (h 19 k) p → Q (.inl (some (.inl (0)))) h) : xRn G0 MT (d + 2) b 29 [.inr (.inr 9), .inl k, .inl p] h Q := by
  refine R_of (M := mX3_lacks) rfl (Nat.le_of_ble_eq_true rfl) ?_
  show xEx G0 cdX3_lacks (some .boolean) (xRn G0 MT (d + 1)) Q b 0 [some (.inr (.inr 9)), some (.inl k), some (.inl p)] [] h
  refine E_s 2 (i' := 2) (ls' := [some (.inr (.inr 9)), some (.inl k), some (.inl p)]) (sk' := [.inl (-1), .inl p]) (h' := h) rfl ?_
  refine E_b (x := (.if_icmp .eq 12, 8, [], [])) rfl rfl (fun c2 => ?_) (fun c2 => ?_)
  · rw [c_eq (by first | assumption | (refine ⟨?_, ?_⟩ <;> omega) | (simp only [xr] at *; omega)) (by first | assumption | (refine ⟨?_, ?_⟩ <;> omega) | (simp only [xr] at *; omega))] at c2
    simp only [decide_eq_true_eq, decide_eq_false_iff_not, Decidable.not_not] at c2
    show xEx G0 cdX3_lacks (some .boolean) (xRn G0 MT (d + 1)) Q b 8 [some (.inr (.inr 9)), some (.inl k), some (.inl p)] [] h
    refine E_s 2 (i' := 11) (ls' := [some (.inr (.inr 9)), some (.inl k), some (.inl p)]) (sk' := [.inl 1]) (h' := h) rfl ?_
    exact E_ret (x := (.ireturn, 0, [], [])) (v := some (.inl 1)) rfl (Or.inr ⟨rfl, by omega⟩) (h1 (by unfold lk; omega))
  · rw [c_eq (by first | assumption | (refine ⟨?_, ?_⟩ <;> omega) | (simp only [xr] at *; omega)) (by first | assumption | (refine ⟨?_, ?_⟩ <;> omega) | (simp only [xr] at *; omega))] at c2
    simp only [decide_eq_true_eq, decide_eq_false_iff_not, Decidable.not_not] at c2
    show xEx G0 cdX3_lacks (some .boolean) (xRn G0 MT (d + 1)) Q b 3 [some (.inr (.inr 9)), some (.inl k), some (.inl p)] [] h
    refine E_s 3 (i' := 6) (ls' := [some (.inr (.inr 9)), some (.inl k), some (.inl p)]) (sk' := [.inl p, .inl k, .inr (.inr 9)]) (h' := h) rfl ?_
    refine E_ci (x := (.invokevirtual 55, 2, [(1, 28), (7, 28)], [1])) (r := (pin (h 19 k) p)) (h' := h) rfl rfl (Nat.le_of_ble_eq_true rfl) (c_partsIn0 d 0 h k p hk ⟨rfl, rfl⟩) ?_
    show xEx G0 cdX3_lacks (some .boolean) (xRn G0 MT (d + 1)) Q b 7 [some (.inr (.inr 9)), some (.inl k), some (.inl p)] [.inl (pin (h 19 k) p)] h
    refine E_b (x := (.ifCond .ne 7, 10, [], [])) rfl rfl (fun c7 => ?_) (fun c7 => ?_)
    · rw [c_ne (by first | exact xand_r _ _ | exact ⟨by omega, by omega⟩) (by first | exact xand_r _ _ | exact ⟨by omega, by omega⟩)] at c7
      simp only [decide_eq_true_eq, decide_eq_false_iff_not, Decidable.not_not] at c7
      show xEx G0 cdX3_lacks (some .boolean) (xRn G0 MT (d + 1)) Q b 10 [some (.inr (.inr 9)), some (.inl k), some (.inl p)] [] h
      refine E_s 1 (i' := 11) (ls' := [some (.inr (.inr 9)), some (.inl k), some (.inl p)]) (sk' := [.inl 0]) (h' := h) rfl ?_
      exact E_ret (x := (.ireturn, 0, [], [])) (v := some (.inl 0)) rfl (Or.inr ⟨rfl, by omega⟩) (h0 (by unfold lk; omega))
    · rw [c_ne (by first | exact xand_r _ _ | exact ⟨by omega, by omega⟩) (by first | exact xand_r _ _ | exact ⟨by omega, by omega⟩)] at c7
      simp only [decide_eq_true_eq, decide_eq_false_iff_not, Decidable.not_not] at c7
      show xEx G0 cdX3_lacks (some .boolean) (xRn G0 MT (d + 1)) Q b 8 [some (.inr (.inr 9)), some (.inl k), some (.inl p)] [] h
      refine E_s 2 (i' := 11) (ls' := [some (.inr (.inr 9)), some (.inl k), some (.inl p)]) (sk' := [.inl 1]) (h' := h) rfl ?_
      exact E_ret (x := (.ireturn, 0, [], [])) (v := some (.inl 1)) rfl (Or.inr ⟨rfl, by omega⟩) (h1 (by unfold lk; omega))
set_option maxHeartbeats 1000000 in
theorem c_partsIn1 (d b : Nat) (h : xH) (k p : Int) (hk : 0 ≤ k ∧ k < 150) {Q : xO → xH → Prop} (hQ : Q (.inl (some (.inl (pin (h 38 k) p)))) h) : xRn G0 MT (d + 1) b 28 [.inr (.inr 28), .inl k, .inl p] h Q := by
  refine R_of (M := mX3_partsIn) rfl (Nat.le_of_ble_eq_true rfl) ?_
  show xEx G0 cdX3_partsIn (some .int) (xRn G0 MT d) Q b 0 [some (.inr (.inr 28)), some (.inl k), some (.inl p)] [] h
  refine E_s 3 (i' := 3) (ls' := [some (.inr (.inr 28)), some (.inl k), some (.inl p)]) (sk' := [.inl k, .inr (.inr 38)]) (h' := h) rfl ?_
  refine E_ld (x := (.laload, 0, [], [])) (ty := .long) (n := 150) rfl rfl rfl (by omega) (by omega) ?_
  show xEx G0 cdX3_partsIn (some .int) (xRn G0 MT d) Q b 4 [some (.inr (.inr 28)), some (.inl k), some (.inl p)] [.inr (.inl (h 38 k))] h
  refine E_s 7 (i' := 11) (ls' := [some (.inr (.inr 28)), some (.inl k), some (.inl p)]) (sk' := [.inl (xand (xlushr (h 38 k) (4 * p)) 15)]) (h' := h) rfl ?_
  exact E_ret (x := (.ireturn, 0, [], [])) (v := some (.inl (xand (xlushr (h 38 k) (4 * p)) 15))) rfl (Or.inl rfl) (hQ)
set_option maxHeartbeats 1000000 in
theorem c_lacks1 (d b : Nat) (h : xH) (k p : Int) (hk : 0 ≤ k ∧ k < 150) (hp : p = -1 ∨ (0 ≤ p ∧ p ≤ 9)) {Q : xO → xH → Prop} (h1 : lk (h 38 k) p → Q (.inl (some (.inl (1)))) h) (h0 : ¬ lk (h 38 k) p → Q (.inl (some (.inl (0)))) h) : xRn G0 MT (d + 2) b 29 [.inr (.inr 28), .inl k, .inl p] h Q := by
  refine R_of (M := mX3_lacks) rfl (Nat.le_of_ble_eq_true rfl) ?_
  show xEx G0 cdX3_lacks (some .boolean) (xRn G0 MT (d + 1)) Q b 0 [some (.inr (.inr 28)), some (.inl k), some (.inl p)] [] h
  refine E_s 2 (i' := 2) (ls' := [some (.inr (.inr 28)), some (.inl k), some (.inl p)]) (sk' := [.inl (-1), .inl p]) (h' := h) rfl ?_
  refine E_b (x := (.if_icmp .eq 12, 8, [], [])) rfl rfl (fun c2 => ?_) (fun c2 => ?_)
  · rw [c_eq (by first | assumption | (refine ⟨?_, ?_⟩ <;> omega) | (simp only [xr] at *; omega)) (by first | assumption | (refine ⟨?_, ?_⟩ <;> omega) | (simp only [xr] at *; omega))] at c2
    simp only [decide_eq_true_eq, decide_eq_false_iff_not, Decidable.not_not] at c2
    show xEx G0 cdX3_lacks (some .boolean) (xRn G0 MT (d + 1)) Q b 8 [some (.inr (.inr 28)), some (.inl k), some (.inl p)] [] h
    refine E_s 2 (i' := 11) (ls' := [some (.inr (.inr 28)), some (.inl k), some (.inl p)]) (sk' := [.inl 1]) (h' := h) rfl ?_
    exact E_ret (x := (.ireturn, 0, [], [])) (v := some (.inl 1)) rfl (Or.inr ⟨rfl, by omega⟩) (h1 (by unfold lk; omega))
  · rw [c_eq (by first | assumption | (refine ⟨?_, ?_⟩ <;> omega) | (simp only [xr] at *; omega)) (by first | assumption | (refine ⟨?_, ?_⟩ <;> omega) | (simp only [xr] at *; omega))] at c2
    simp only [decide_eq_true_eq, decide_eq_false_iff_not, Decidable.not_not] at c2
    show xEx G0 cdX3_lacks (some .boolean) (xRn G0 MT (d + 1)) Q b 3 [some (.inr (.inr 28)), some (.inl k), some (.inl p)] [] h
    refine E_s 3 (i' := 6) (ls' := [some (.inr (.inr 28)), some (.inl k), some (.inl p)]) (sk' := [.inl p, .inl k, .inr (.inr 28)]) (h' := h) rfl ?_
    refine E_ci (x := (.invokevirtual 55, 2, [(1, 28), (7, 28)], [1])) (r := (pin (h 38 k) p)) (h' := h) rfl rfl (Nat.le_of_ble_eq_true rfl) (c_partsIn1 d 0 h k p hk ⟨rfl, rfl⟩) ?_
    show xEx G0 cdX3_lacks (some .boolean) (xRn G0 MT (d + 1)) Q b 7 [some (.inr (.inr 28)), some (.inl k), some (.inl p)] [.inl (pin (h 38 k) p)] h
    refine E_b (x := (.ifCond .ne 7, 10, [], [])) rfl rfl (fun c7 => ?_) (fun c7 => ?_)
    · rw [c_ne (by first | exact xand_r _ _ | exact ⟨by omega, by omega⟩) (by first | exact xand_r _ _ | exact ⟨by omega, by omega⟩)] at c7
      simp only [decide_eq_true_eq, decide_eq_false_iff_not, Decidable.not_not] at c7
      show xEx G0 cdX3_lacks (some .boolean) (xRn G0 MT (d + 1)) Q b 10 [some (.inr (.inr 28)), some (.inl k), some (.inl p)] [] h
      refine E_s 1 (i' := 11) (ls' := [some (.inr (.inr 28)), some (.inl k), some (.inl p)]) (sk' := [.inl 0]) (h' := h) rfl ?_
      exact E_ret (x := (.ireturn, 0, [], [])) (v := some (.inl 0)) rfl (Or.inr ⟨rfl, by omega⟩) (h0 (by unfold lk; omega))
    · rw [c_ne (by first | exact xand_r _ _ | exact ⟨by omega, by omega⟩) (by first | exact xand_r _ _ | exact ⟨by omega, by omega⟩)] at c7
      simp only [decide_eq_true_eq, decide_eq_false_iff_not, Decidable.not_not] at c7
      show xEx G0 cdX3_lacks (some .boolean) (xRn G0 MT (d + 1)) Q b 8 [some (.inr (.inr 28)), some (.inl k), some (.inl p)] [] h
      refine E_s 2 (i' := 11) (ls' := [some (.inr (.inr 28)), some (.inl k), some (.inl p)]) (sk' := [.inl 1]) (h' := h) rfl ?_
      exact E_ret (x := (.ireturn, 0, [], [])) (v := some (.inl 1)) rfl (Or.inr ⟨rfl, by omega⟩) (h1 (by unfold lk; omega))
set_option maxHeartbeats 1000000 in
theorem m_countsPart (d b : Nat) (h S T : xH) (p n0 : Int) (wt : Int → Int) (hp : 0 ≤ p ∧ p ≤ 9) (hR : RR h S) (hRT : RRT h T) (hF : FW n0 wt 9 S) (hT : FWT S 7 T) (h3 : 0 ≤ S 0 0 ∧ S 0 0 ≤ 300) (h4 : 0 ≤ T 0 0 ∧ T 0 0 ≤ 150)  {Q : xO → xH → Prop} (hQ : ∀ h', (∀ a, a ≠ 98 → a ≠ 99 → h' a = h a) → (∀ k, 0 ≤ k → k < S 0 0 → h' 98 k = pin (S 11 k) p) → (∀ t, 0 ≤ t → t < T 0 0 → h' 99 t = pin (T 11 t) p) → Q (.inl none) h') : xRn G0 MT (d + 1) b 221 [.inr (.inr 66), .inl p] h Q := by
  refine R_of (M := mX12_countsPart) rfl (Nat.le_of_ble_eq_true rfl) ?_
  show xEx G0 cdX12_countsPart none (xRn G0 MT d) Q b 0 [some (.inr (.inr 66)), some (.inl p), none] [] h
  refine E_s 2 (i' := 2) (ls' := [some (.inr (.inr 66)), some (.inl p), some (.inl 0)]) (sk' := []) (h' := h) rfl ?_
  have key2 : ∀ (n : Nat) (hw : xH) (k : Int), (0 ≤ k) → (k ≤ S 0 0) → (∀ a, a ≠ 98 → hw a = h a) → (∀ j, 0 ≤ j → j < k → hw 98 j = pin (S 11 j) p) → ((S 0 0 - k).toNat) < n → xEx G0 cdX12_countsPart none (xRn G0 MT d) Q b 2 [some (.inr (.inr 66)), some (.inl p), some (.inl k)] [] hw := by
    intro n
    induction n with
    | zero => intro hw k _ _ _ _ hm; exact absurd hm (Nat.not_lt_zero _)
    | succ n ih2 =>
      intro hw k hk0 hk9 hfr hval hm2
      have e8 : hw 66 8 = S 0 0 := by rw [hfr _ (by decide)]; exact hR.1
      have e19 : hw 66 19 = T 0 0 := by rw [hfr _ (by decide)]; exact hRT.1
      refine E_s 3 (i' := 5) (ls' := [some (.inr (.inr 66)), some (.inl p), some (.inl k)]) (sk' := [.inl (hw 66 8), .inl k]) (h' := hw) rfl ?_
      refine E_b (x := (.if_icmp .ge 87, 57, [], [])) rfl rfl (fun c5 => ?_) (fun c5 => ?_)
      · rw [c_ge (by first | assumption | (refine ⟨?_, ?_⟩ <;> omega) | (simp only [xr] at *; omega)) (by first | assumption | (refine ⟨?_, ?_⟩ <;> omega) | (simp only [xr] at *; omega))] at c5
        simp only [decide_eq_true_eq, decide_eq_false_iff_not, Decidable.not_not] at c5
        show xEx G0 cdX12_countsPart none (xRn G0 MT d) Q b 57 [some (.inr (.inr 66)), some (.inl p), some (.inl k)] [] hw
        refine E_s 2 (i' := 59) (ls' := [some (.inr (.inr 66)), some (.inl p), some (.inl 0)]) (sk' := []) (h' := hw) rfl ?_
        have key59 : ∀ (n : Nat) (hv : xH) (t : Int), (0 ≤ t) → (t ≤ T 0 0) → (∀ a, a ≠ 99 → hv a = hw a) → (∀ j, 0 ≤ j → j < t → hv 99 j = pin (T 11 j) p) → ((T 0 0 - t).toNat) < n → xEx G0 cdX12_countsPart none (xRn G0 MT d) Q b 59 [some (.inr (.inr 66)), some (.inl p), some (.inl t)] [] hv := by
          intro n
          induction n with
          | zero => intro hv t _ _ _ _ hm; exact absurd hm (Nat.not_lt_zero _)
          | succ n ih59 =>
            intro hv t ht0 ht9 hfr2 hin hm59
            have f19 : hv 66 19 = T 0 0 := by rw [hfr2 _ (by decide)]; exact e19
            refine E_s 3 (i' := 62) (ls' := [some (.inr (.inr 66)), some (.inl p), some (.inl t)]) (sk' := [.inl (hv 66 19), .inl t]) (h' := hv) rfl ?_
            refine E_b (x := (.if_icmp .ge 94, 118, [], [])) rfl rfl (fun c62 => ?_) (fun c62 => ?_)
            · rw [c_ge (by first | assumption | (refine ⟨?_, ?_⟩ <;> omega) | (simp only [xr] at *; omega)) (by first | assumption | (refine ⟨?_, ?_⟩ <;> omega) | (simp only [xr] at *; omega))] at c62
              simp only [decide_eq_true_eq, decide_eq_false_iff_not, Decidable.not_not] at c62
              show xEx G0 cdX12_countsPart none (xRn G0 MT d) Q b 118 [some (.inr (.inr 66)), some (.inl p), some (.inl t)] [] hv
              exact E_ret (x := (.return_, 0, [], [])) (v := none) rfl (trivial) (hQ _ (fun a z1 z2 => by rw [hfr2 a z2]; exact hfr a z1) (fun j z1 z2 => by rw [hfr2 _ (by decide)]; exact hval j z1 (by omega)) (fun j z1 z2 => hin j z1 (by omega)))
            · rw [c_ge (by first | assumption | (refine ⟨?_, ?_⟩ <;> omega) | (simp only [xr] at *; omega)) (by first | assumption | (refine ⟨?_, ?_⟩ <;> omega) | (simp only [xr] at *; omega))] at c62
              simp only [decide_eq_true_eq, decide_eq_false_iff_not, Decidable.not_not] at c62
              show xEx G0 cdX12_countsPart none (xRn G0 MT d) Q b 63 [some (.inr (.inr 66)), some (.inl p), some (.inl t)] [] hv
              have q8 : t < T 0 0 := by omega
              obtain ⟨b1, b2, b3, -⟩ := hRT.2.2.2 t ht0 q8
              have i1 : hv 79 t = T 1 t := by rw [hfr2 _ (by decide), hfr _ (by decide)]; exact b1
              have i2 : hv 80 t = T 2 t := by rw [hfr2 _ (by decide), hfr _ (by decide)]; exact b2
              have i3 : T 1 t ≠ 2 → hv 81 t = T 3 t := fun z => by
                rw [hfr2 _ (by decide), hfr _ (by decide), b3]
                unfold otT
                rw [if_neg z]
              have i3b : T 1 t = 2 ∨ hv 81 t = T 3 t := by
                by_cases z : T 1 t = 2
                · exact Or.inl z
                · exact Or.inr (i3 z)
              have tw := tw_ch hT (K := t) (by omega) (hT t ht0 q8).1
              have pt := pT_s hF hT ht0 q8 hp.1 hp.2
              have hst : ∀ j, 0 ≤ j → j < S 0 0 → hv 98 j = pin (S 11 j) p := fun j z1 z2 => by rw [hfr2 _ (by decide)]; exact hval j z1 (by omega)
              refine E_s 3 (i' := 66) (ls' := [some (.inr (.inr 66)), some (.inl p), some (.inl t)]) (sk' := [.inl t, .inr (.inr 79)]) (h' := hv) rfl ?_
              refine E_ld (x := (.iaload, 0, [], [])) (ty := .int) (n := 151) rfl rfl rfl (by omega) (by omega) ?_
              show xEx G0 cdX12_countsPart none (xRn G0 MT d) Q b 67 [some (.inr (.inr 66)), some (.inl p), some (.inl t)] [.inl (hv 79 t)] hv
              refine E_s 1 (i' := 68) (ls' := [some (.inr (.inr 66)), some (.inl p), some (.inl t)]) (sk' := [.inl 2, .inl (hv 79 t)]) (h' := hv) rfl ?_
              refine E_b (x := (.if_icmp .ge 35, 89, [], [])) rfl rfl (fun c68 => ?_) (fun c68 => ?_)
              · rw [c_ge (by first | assumption | (refine ⟨?_, ?_⟩ <;> omega) | (simp only [xr] at *; omega)) (by first | assumption | (refine ⟨?_, ?_⟩ <;> omega) | (simp only [xr] at *; omega))] at c68
                simp only [decide_eq_true_eq, decide_eq_false_iff_not, Decidable.not_not] at c68
                show xEx G0 cdX12_countsPart none (xRn G0 MT d) Q b 89 [some (.inr (.inr 66)), some (.inl p), some (.inl t)] [] hv
                refine E_s 8 (i' := 97) (ls' := [some (.inr (.inr 66)), some (.inl p), some (.inl t)]) (sk' := [.inl t, .inr (.inr 80), .inr (.inr 99), .inl t, .inr (.inr 99)]) (h' := hv) rfl ?_
                refine E_ld (x := (.iaload, 0, [], [])) (ty := .int) (n := 151) rfl rfl rfl (by omega) (by omega) ?_
                show xEx G0 cdX12_countsPart none (xRn G0 MT d) Q b 98 [some (.inr (.inr 66)), some (.inl p), some (.inl t)] [.inl (hv 80 t), .inr (.inr 99), .inl t, .inr (.inr 99)] hv
                refine E_ld (x := (.iaload, 0, [], [])) (ty := .int) (n := 150) rfl rfl rfl (by omega) (by omega) ?_
                show xEx G0 cdX12_countsPart none (xRn G0 MT d) Q b 99 [some (.inr (.inr 66)), some (.inl p), some (.inl t)] [.inl (hv 99 (hv 80 t)), .inl t, .inr (.inr 99)] hv
                refine E_s 3 (i' := 102) (ls' := [some (.inr (.inr 66)), some (.inl p), some (.inl t)]) (sk' := [.inl t, .inr (.inr 79), .inl (hv 99 (hv 80 t)), .inl t, .inr (.inr 99)]) (h' := hv) rfl ?_
                refine E_ld (x := (.iaload, 0, [], [])) (ty := .int) (n := 151) rfl rfl rfl (by omega) (by omega) ?_
                show xEx G0 cdX12_countsPart none (xRn G0 MT d) Q b 103 [some (.inr (.inr 66)), some (.inl p), some (.inl t)] [.inl (hv 79 t), .inl (hv 99 (hv 80 t)), .inl t, .inr (.inr 99)] hv
                refine E_s 1 (i' := 104) (ls' := [some (.inr (.inr 66)), some (.inl p), some (.inl t)]) (sk' := [.inl 2, .inl (hv 79 t), .inl (hv 99 (hv 80 t)), .inl t, .inr (.inr 99)]) (h' := hv) rfl ?_
                refine E_b (x := (.if_icmp .ne 7, 107, [], [])) rfl rfl (fun c104 => ?_) (fun c104 => ?_)
                · rw [c_ne (by first | assumption | (refine ⟨?_, ?_⟩ <;> omega) | (simp only [xr] at *; omega)) (by first | assumption | (refine ⟨?_, ?_⟩ <;> omega) | (simp only [xr] at *; omega))] at c104
                  simp only [decide_eq_true_eq, decide_eq_false_iff_not, Decidable.not_not] at c104
                  show xEx G0 cdX12_countsPart none (xRn G0 MT d) Q b 107 [some (.inr (.inr 66)), some (.inl p), some (.inl t)] [.inl (hv 99 (hv 80 t)), .inl t, .inr (.inr 99)] hv
                  refine E_s 5 (i' := 112) (ls' := [some (.inr (.inr 66)), some (.inl p), some (.inl t)]) (sk' := [.inl t, .inr (.inr 81), .inr (.inr 99), .inl (hv 99 (hv 80 t)), .inl t, .inr (.inr 99)]) (h' := hv) rfl ?_
                  refine E_ld (x := (.iaload, 0, [], [])) (ty := .int) (n := 151) rfl rfl rfl (by omega) (by omega) ?_
                  show xEx G0 cdX12_countsPart none (xRn G0 MT d) Q b 113 [some (.inr (.inr 66)), some (.inl p), some (.inl t)] [.inl (hv 81 t), .inr (.inr 99), .inl (hv 99 (hv 80 t)), .inl t, .inr (.inr 99)] hv
                  refine E_ld (x := (.iaload, 0, [], [])) (ty := .int) (n := 150) rfl rfl rfl (by omega) (by omega) ?_
                  show xEx G0 cdX12_countsPart none (xRn G0 MT d) Q b 114 [some (.inr (.inr 66)), some (.inl p), some (.inl t)] [.inl (hv 99 (hv 81 t)), .inl (hv 99 (hv 80 t)), .inl t, .inr (.inr 99)] hv
                  refine E_s 1 (i' := 115) (ls' := [some (.inr (.inr 66)), some (.inl p), some (.inl t)]) (sk' := [.inl ((hv 99 (hv 80 t)) + (hv 99 (hv 81 t))), .inl t, .inr (.inr 99)]) (h' := hv) rfl ?_
                  refine E_sd (x := (.iastore, 0, [], [])) (ty := .int) (n := 150) (y := ((hv 99 (hv 80 t)) + (hv 99 (hv 81 t)))) rfl rfl rfl (by omega) (by omega) (trivial) ?_
                  show xEx G0 cdX12_countsPart none (xRn G0 MT d) Q b 116 [some (.inr (.inr 66)), some (.inl p), some (.inl t)] [] (xup hv 99 t ((hv 99 (hv 80 t)) + (hv 99 (hv 81 t))))
                  refine E_s 2 (i' := 59) (ls' := [some (.inr (.inr 66)), some (.inl p), some (.inl (t + 1))]) (sk' := []) (h' := (xup hv 99 t ((hv 99 (hv 80 t)) + (hv 99 (hv 81 t))))) rfl ?_
                  exact ih59 _ (t + 1) (by omega) (by omega) (fun a z => by rw [xup_o _ _ _ _ a z]; exact hfr2 a z) (fun j z1 z2 => by
                    by_cases e : j = t
                    · rw [e]; rw [xup_s, i2, i3 (by omega), hin _ (by omega) (by omega), hin _ (by omega) (by omega), pt, if_neg (show ¬ T 1 t < 2 by omega), if_neg (show ¬ T 1 t = 2 by omega)]
                    · rw [xup_j e]; exact hin j z1 (by omega)) (by omega)
                · rw [c_ne (by first | assumption | (refine ⟨?_, ?_⟩ <;> omega) | (simp only [xr] at *; omega)) (by first | assumption | (refine ⟨?_, ?_⟩ <;> omega) | (simp only [xr] at *; omega))] at c104
                  simp only [decide_eq_true_eq, decide_eq_false_iff_not, Decidable.not_not] at c104
                  show xEx G0 cdX12_countsPart none (xRn G0 MT d) Q b 105 [some (.inr (.inr 66)), some (.inl p), some (.inl t)] [.inl (hv 99 (hv 80 t)), .inl t, .inr (.inr 99)] hv
                  refine E_s 3 (i' := 115) (ls' := [some (.inr (.inr 66)), some (.inl p), some (.inl t)]) (sk' := [.inl ((hv 99 (hv 80 t)) + 0), .inl t, .inr (.inr 99)]) (h' := hv) rfl ?_
                  refine E_sd (x := (.iastore, 0, [], [])) (ty := .int) (n := 150) (y := ((hv 99 (hv 80 t)) + 0)) rfl rfl rfl (by omega) (by omega) (trivial) ?_
                  show xEx G0 cdX12_countsPart none (xRn G0 MT d) Q b 116 [some (.inr (.inr 66)), some (.inl p), some (.inl t)] [] (xup hv 99 t ((hv 99 (hv 80 t)) + 0))
                  refine E_s 2 (i' := 59) (ls' := [some (.inr (.inr 66)), some (.inl p), some (.inl (t + 1))]) (sk' := []) (h' := (xup hv 99 t ((hv 99 (hv 80 t)) + 0))) rfl ?_
                  exact ih59 _ (t + 1) (by omega) (by omega) (fun a z => by rw [xup_o _ _ _ _ a z]; exact hfr2 a z) (fun j z1 z2 => by
                    by_cases e : j = t
                    · rw [e]; rw [xup_s, i2, hin _ (by omega) (by omega), pt, if_neg (show ¬ T 1 t < 2 by omega), if_pos (show T 1 t = 2 by omega)]
                    · rw [xup_j e]; exact hin j z1 (by omega)) (by omega)
              · rw [c_ge (by first | assumption | (refine ⟨?_, ?_⟩ <;> omega) | (simp only [xr] at *; omega)) (by first | assumption | (refine ⟨?_, ?_⟩ <;> omega) | (simp only [xr] at *; omega))] at c68
                simp only [decide_eq_true_eq, decide_eq_false_iff_not, Decidable.not_not] at c68
                show xEx G0 cdX12_countsPart none (xRn G0 MT d) Q b 69 [some (.inr (.inr 66)), some (.inl p), some (.inl t)] [] hv
                refine E_s 8 (i' := 77) (ls' := [some (.inr (.inr 66)), some (.inl p), some (.inl t)]) (sk' := [.inl t, .inr (.inr 80), .inr (.inr 98), .inl t, .inr (.inr 99)]) (h' := hv) rfl ?_
                refine E_ld (x := (.iaload, 0, [], [])) (ty := .int) (n := 151) rfl rfl rfl (by omega) (by omega) ?_
                show xEx G0 cdX12_countsPart none (xRn G0 MT d) Q b 78 [some (.inr (.inr 66)), some (.inl p), some (.inl t)] [.inl (hv 80 t), .inr (.inr 98), .inl t, .inr (.inr 99)] hv
                refine E_ld (x := (.iaload, 0, [], [])) (ty := .int) (n := 300) rfl rfl rfl (by omega) (by omega) ?_
                show xEx G0 cdX12_countsPart none (xRn G0 MT d) Q b 79 [some (.inr (.inr 66)), some (.inl p), some (.inl t)] [.inl (hv 98 (hv 80 t)), .inl t, .inr (.inr 99)] hv
                refine E_s 5 (i' := 84) (ls' := [some (.inr (.inr 66)), some (.inl p), some (.inl t)]) (sk' := [.inl t, .inr (.inr 81), .inr (.inr 98), .inl (hv 98 (hv 80 t)), .inl t, .inr (.inr 99)]) (h' := hv) rfl ?_
                refine E_ld (x := (.iaload, 0, [], [])) (ty := .int) (n := 151) rfl rfl rfl (by omega) (by omega) ?_
                show xEx G0 cdX12_countsPart none (xRn G0 MT d) Q b 85 [some (.inr (.inr 66)), some (.inl p), some (.inl t)] [.inl (hv 81 t), .inr (.inr 98), .inl (hv 98 (hv 80 t)), .inl t, .inr (.inr 99)] hv
                refine E_ld (x := (.iaload, 0, [], [])) (ty := .int) (n := 300) rfl rfl rfl (by omega) (by omega) ?_
                show xEx G0 cdX12_countsPart none (xRn G0 MT d) Q b 86 [some (.inr (.inr 66)), some (.inl p), some (.inl t)] [.inl (hv 98 (hv 81 t)), .inl (hv 98 (hv 80 t)), .inl t, .inr (.inr 99)] hv
                refine E_s 1 (i' := 87) (ls' := [some (.inr (.inr 66)), some (.inl p), some (.inl t)]) (sk' := [.inl ((hv 98 (hv 80 t)) + (hv 98 (hv 81 t))), .inl t, .inr (.inr 99)]) (h' := hv) rfl ?_
                refine E_sd (x := (.iastore, 0, [], [])) (ty := .int) (n := 150) (y := ((hv 98 (hv 80 t)) + (hv 98 (hv 81 t)))) rfl rfl rfl (by omega) (by omega) (trivial) ?_
                show xEx G0 cdX12_countsPart none (xRn G0 MT d) Q b 88 [some (.inr (.inr 66)), some (.inl p), some (.inl t)] [] (xup hv 99 t ((hv 98 (hv 80 t)) + (hv 98 (hv 81 t))))
                refine E_s 3 (i' := 59) (ls' := [some (.inr (.inr 66)), some (.inl p), some (.inl (t + 1))]) (sk' := []) (h' := (xup hv 99 t ((hv 98 (hv 80 t)) + (hv 98 (hv 81 t))))) rfl ?_
                exact ih59 _ (t + 1) (by omega) (by omega) (fun a z => by rw [xup_o _ _ _ _ a z]; exact hfr2 a z) (fun j z1 z2 => by
                  by_cases e : j = t
                  · rw [e]; rw [xup_s, i2, i3 (by omega), hst _ (by omega) (by omega), hst _ (by omega) (by omega), pt, if_pos (show T 1 t < 2 by omega)]
                  · rw [xup_j e]; exact hin j z1 (by omega)) (by omega)
        exact key59 _ hw 0 (by omega) (by omega) (fun _ _ => rfl) (fun j z1 z2 => by omega) (Nat.lt_succ_self _)
      · rw [c_ge (by first | assumption | (refine ⟨?_, ?_⟩ <;> omega) | (simp only [xr] at *; omega)) (by first | assumption | (refine ⟨?_, ?_⟩ <;> omega) | (simp only [xr] at *; omega))] at c5
        simp only [decide_eq_true_eq, decide_eq_false_iff_not, Decidable.not_not] at c5
        show xEx G0 cdX12_countsPart none (xRn G0 MT d) Q b 6 [some (.inr (.inr 66)), some (.inl p), some (.inl k)] [] hw
        have q9 : k < S 0 0 := by omega
        obtain ⟨b1, b2, b3, -⟩ := hR.2.2.1 k hk0 q9
        have e1 : hw 69 k = S 1 k := by rw [hfr _ (by decide)]; exact b1
        have e2 : hw 70 k = S 2 k := by rw [hfr _ (by decide)]; exact b2
        have e3 : hw 71 k = oth (S 1 k) (S 3 k) := by rw [hfr _ (by decide)]; exact b3
        have cw := cw_ch hF (K := k) (by omega) (hF k hk0 q9).1
        have pe := pE_s hF hk0 q9 hp.1 hp.2
        have e3c : hw 71 k = -1 ∧ (10 ≤ S 1 k ∨ S 1 k = 5 ∨ S 1 k = 8 ∨ S 1 k = 9) ∨ hw 71 k = S 3 k ∧ ¬ (10 ≤ S 1 k ∨ S 1 k = 5 ∨ S 1 k = 8 ∨ S 1 k = 9) := by
          rw [e3]
          unfold oth
          split
          · rename_i z; exact Or.inl ⟨rfl, z⟩
          · rename_i z; exact Or.inr ⟨rfl, z⟩
        have e3b : hw 71 k ≠ -1 → hw 71 k = S 3 k := fun z => by omega
        refine E_s 6 (i' := 12) (ls' := [some (.inr (.inr 66)), some (.inl p), some (.inl k)]) (sk' := [.inl k, .inr (.inr 69), .inl k, .inr (.inr 98)]) (h' := hw) rfl ?_
        refine E_ld (x := (.iaload, 0, [], [])) (ty := .int) (n := 301) rfl rfl rfl (by omega) (by omega) ?_
        show xEx G0 cdX12_countsPart none (xRn G0 MT d) Q b 13 [some (.inr (.inr 66)), some (.inl p), some (.inl k)] [.inl (hw 69 k), .inl k, .inr (.inr 98)] hw
        refine E_s 1 (i' := 14) (ls' := [some (.inr (.inr 66)), some (.inl p), some (.inl k)]) (sk' := [.inl p, .inl (hw 69 k), .inl k, .inr (.inr 98)]) (h' := hw) rfl ?_
        refine E_b (x := (.if_icmp .ne 7, 17, [], [])) rfl rfl (fun c14 => ?_) (fun c14 => ?_)
        · rw [c_ne (by first | assumption | (refine ⟨?_, ?_⟩ <;> omega) | (simp only [xr] at *; omega)) (by first | assumption | (refine ⟨?_, ?_⟩ <;> omega) | (simp only [xr] at *; omega))] at c14
          simp only [decide_eq_true_eq, decide_eq_false_iff_not, Decidable.not_not] at c14
          show xEx G0 cdX12_countsPart none (xRn G0 MT d) Q b 17 [some (.inr (.inr 66)), some (.inl p), some (.inl k)] [.inl k, .inr (.inr 98)] hw
          refine E_s 1 (i' := 18) (ls' := [some (.inr (.inr 66)), some (.inl p), some (.inl k)]) (sk' := [.inl 0, .inl k, .inr (.inr 98)]) (h' := hw) rfl ?_
          refine E_sd (x := (.iastore, 0, [], [])) (ty := .int) (n := 300) (y := 0) rfl rfl rfl (by omega) (by omega) (trivial) ?_
          show xEx G0 cdX12_countsPart none (xRn G0 MT d) Q b 19 [some (.inr (.inr 66)), some (.inl p), some (.inl k)] [] (xup hw 98 k 0)
          refine E_s 3 (i' := 22) (ls' := [some (.inr (.inr 66)), some (.inl p), some (.inl k)]) (sk' := [.inl k, .inr (.inr 69)]) (h' := (xup hw 98 k 0)) rfl ?_
          refine E_ld (x := (.iaload, 0, [], [])) (ty := .int) (n := 301) rfl rfl rfl (by omega) (by omega) ?_
          show xEx G0 cdX12_countsPart none (xRn G0 MT d) Q b 23 [some (.inr (.inr 66)), some (.inl p), some (.inl k)] [.inl (hw 69 k)] (xup hw 98 k 0)
          refine E_s 1 (i' := 24) (ls' := [some (.inr (.inr 66)), some (.inl p), some (.inl k)]) (sk' := [.inl 10, .inl (hw 69 k)]) (h' := (xup hw 98 k 0)) rfl ?_
          refine E_b (x := (.if_icmp .ge 49, 55, [], [])) rfl rfl (fun c24 => ?_) (fun c24 => ?_)
          · rw [c_ge (by first | assumption | (refine ⟨?_, ?_⟩ <;> omega) | (simp only [xr] at *; omega)) (by first | assumption | (refine ⟨?_, ?_⟩ <;> omega) | (simp only [xr] at *; omega))] at c24
            simp only [decide_eq_true_eq, decide_eq_false_iff_not, Decidable.not_not] at c24
            show xEx G0 cdX12_countsPart none (xRn G0 MT d) Q b 55 [some (.inr (.inr 66)), some (.inl p), some (.inl k)] [] (xup hw 98 k 0)
            refine E_s 2 (i' := 2) (ls' := [some (.inr (.inr 66)), some (.inl p), some (.inl (k + 1))]) (sk' := []) (h' := (xup hw 98 k 0)) rfl ?_
            exact ih2 _ (k + 1) (by omega) (by omega) (fun a z => by rw [xup_o _ _ _ _ a z]; exact hfr a z) (fun j z1 z2 => by
              by_cases e : j = k
              · rw [e]; rw [xup_s, pe, if_neg (show ¬ S 1 k = p by omega), if_neg (show ¬ S 1 k < 10 by omega)]; rfl
              · rw [xup_j e]; exact hval j z1 (by omega)) (by omega)
          · rw [c_ge (by first | assumption | (refine ⟨?_, ?_⟩ <;> omega) | (simp only [xr] at *; omega)) (by first | assumption | (refine ⟨?_, ?_⟩ <;> omega) | (simp only [xr] at *; omega))] at c24
            simp only [decide_eq_true_eq, decide_eq_false_iff_not, Decidable.not_not] at c24
            show xEx G0 cdX12_countsPart none (xRn G0 MT d) Q b 25 [some (.inr (.inr 66)), some (.inl p), some (.inl k)] [] (xup hw 98 k 0)
            refine E_s 4 (i' := 29) (ls' := [some (.inr (.inr 66)), some (.inl p), some (.inl k)]) (sk' := [.inl k, .inr (.inr 98), .inl k, .inr (.inr 98)]) (h' := (xup hw 98 k 0)) rfl ?_
            refine E_ld (x := (.iaload, 0, [], [])) (ty := .int) (n := 300) rfl rfl rfl (by omega) (by omega) ?_
            show xEx G0 cdX12_countsPart none (xRn G0 MT d) Q b 30 [some (.inr (.inr 66)), some (.inl p), some (.inl k)] [.inl ((xup hw 98 k 0) 98 k), .inl k, .inr (.inr 98)] (xup hw 98 k 0)
            refine E_s 5 (i' := 35) (ls' := [some (.inr (.inr 66)), some (.inl p), some (.inl k)]) (sk' := [.inl k, .inr (.inr 70), .inr (.inr 98), .inl ((xup hw 98 k 0) 98 k), .inl k, .inr (.inr 98)]) (h' := (xup hw 98 k 0)) rfl ?_
            refine E_ld (x := (.iaload, 0, [], [])) (ty := .int) (n := 301) rfl rfl rfl (by omega) (by omega) ?_
            show xEx G0 cdX12_countsPart none (xRn G0 MT d) Q b 36 [some (.inr (.inr 66)), some (.inl p), some (.inl k)] [.inl (hw 70 k), .inr (.inr 98), .inl ((xup hw 98 k 0) 98 k), .inl k, .inr (.inr 98)] (xup hw 98 k 0)
            refine E_ld (x := (.iaload, 0, [], [])) (ty := .int) (n := 300) rfl rfl rfl (by omega) (by omega) ?_
            show xEx G0 cdX12_countsPart none (xRn G0 MT d) Q b 37 [some (.inr (.inr 66)), some (.inl p), some (.inl k)] [.inl ((xup hw 98 k 0) 98 (hw 70 k)), .inl ((xup hw 98 k 0) 98 k), .inl k, .inr (.inr 98)] (xup hw 98 k 0)
            refine E_s 3 (i' := 40) (ls' := [some (.inr (.inr 66)), some (.inl p), some (.inl k)]) (sk' := [.inl k, .inr (.inr 71), .inl ((xup hw 98 k 0) 98 (hw 70 k)), .inl ((xup hw 98 k 0) 98 k), .inl k, .inr (.inr 98)]) (h' := (xup hw 98 k 0)) rfl ?_
            refine E_ld (x := (.iaload, 0, [], [])) (ty := .int) (n := 301) rfl rfl rfl (by omega) (by omega) ?_
            show xEx G0 cdX12_countsPart none (xRn G0 MT d) Q b 41 [some (.inr (.inr 66)), some (.inl p), some (.inl k)] [.inl (hw 71 k), .inl ((xup hw 98 k 0) 98 (hw 70 k)), .inl ((xup hw 98 k 0) 98 k), .inl k, .inr (.inr 98)] (xup hw 98 k 0)
            refine E_s 1 (i' := 42) (ls' := [some (.inr (.inr 66)), some (.inl p), some (.inl k)]) (sk' := [.inl (-1), .inl (hw 71 k), .inl ((xup hw 98 k 0) 98 (hw 70 k)), .inl ((xup hw 98 k 0) 98 k), .inl k, .inr (.inr 98)]) (h' := (xup hw 98 k 0)) rfl ?_
            refine E_b (x := (.if_icmp .ne 7, 45, [], [])) rfl rfl (fun c42 => ?_) (fun c42 => ?_)
            · rw [c_ne (by first | assumption | (refine ⟨?_, ?_⟩ <;> omega) | (simp only [xr] at *; omega)) (by first | assumption | (refine ⟨?_, ?_⟩ <;> omega) | (simp only [xr] at *; omega))] at c42
              simp only [decide_eq_true_eq, decide_eq_false_iff_not, Decidable.not_not] at c42
              show xEx G0 cdX12_countsPart none (xRn G0 MT d) Q b 45 [some (.inr (.inr 66)), some (.inl p), some (.inl k)] [.inl ((xup hw 98 k 0) 98 (hw 70 k)), .inl ((xup hw 98 k 0) 98 k), .inl k, .inr (.inr 98)] (xup hw 98 k 0)
              refine E_s 5 (i' := 50) (ls' := [some (.inr (.inr 66)), some (.inl p), some (.inl k)]) (sk' := [.inl k, .inr (.inr 71), .inr (.inr 98), .inl ((xup hw 98 k 0) 98 (hw 70 k)), .inl ((xup hw 98 k 0) 98 k), .inl k, .inr (.inr 98)]) (h' := (xup hw 98 k 0)) rfl ?_
              refine E_ld (x := (.iaload, 0, [], [])) (ty := .int) (n := 301) rfl rfl rfl (by omega) (by omega) ?_
              show xEx G0 cdX12_countsPart none (xRn G0 MT d) Q b 51 [some (.inr (.inr 66)), some (.inl p), some (.inl k)] [.inl (hw 71 k), .inr (.inr 98), .inl ((xup hw 98 k 0) 98 (hw 70 k)), .inl ((xup hw 98 k 0) 98 k), .inl k, .inr (.inr 98)] (xup hw 98 k 0)
              refine E_ld (x := (.iaload, 0, [], [])) (ty := .int) (n := 300) rfl rfl rfl (by omega) (by omega) ?_
              show xEx G0 cdX12_countsPart none (xRn G0 MT d) Q b 52 [some (.inr (.inr 66)), some (.inl p), some (.inl k)] [.inl ((xup hw 98 k 0) 98 (hw 71 k)), .inl ((xup hw 98 k 0) 98 (hw 70 k)), .inl ((xup hw 98 k 0) 98 k), .inl k, .inr (.inr 98)] (xup hw 98 k 0)
              refine E_s 2 (i' := 54) (ls' := [some (.inr (.inr 66)), some (.inl p), some (.inl k)]) (sk' := [.inl (((xup hw 98 k 0) 98 k) + (((xup hw 98 k 0) 98 (hw 70 k)) + ((xup hw 98 k 0) 98 (hw 71 k)))), .inl k, .inr (.inr 98)]) (h' := (xup hw 98 k 0)) rfl ?_
              refine E_sd (x := (.iastore, 0, [], [])) (ty := .int) (n := 300) (y := (((xup hw 98 k 0) 98 k) + (((xup hw 98 k 0) 98 (hw 70 k)) + ((xup hw 98 k 0) 98 (hw 71 k))))) rfl rfl rfl (by omega) (by omega) (trivial) ?_
              show xEx G0 cdX12_countsPart none (xRn G0 MT d) Q b 55 [some (.inr (.inr 66)), some (.inl p), some (.inl k)] [] (xup (xup hw 98 k 0) 98 k (((xup hw 98 k 0) 98 k) + (((xup hw 98 k 0) 98 (hw 70 k)) + ((xup hw 98 k 0) 98 (hw 71 k)))))
              refine E_s 2 (i' := 2) (ls' := [some (.inr (.inr 66)), some (.inl p), some (.inl (k + 1))]) (sk' := []) (h' := (xup (xup hw 98 k 0) 98 k (((xup hw 98 k 0) 98 k) + (((xup hw 98 k 0) 98 (hw 70 k)) + ((xup hw 98 k 0) 98 (hw 71 k)))))) rfl ?_
              exact ih2 _ (k + 1) (by omega) (by omega) (fun a z => by rw [xup_o _ _ _ _ a z, xup_o _ _ _ _ a z]; exact hfr a z) (fun j z1 z2 => by
                by_cases e : j = k
                · rw [e]; rw [xup_s, xup_s, e2, xup_j (show S 2 k ≠ k by omega), hval _ (by omega) (by omega), e3b (by omega), xup_j (show S 3 k ≠ k by omega), hval _ (by omega) (by omega), pe, if_neg (show ¬ S 1 k = p by omega), if_pos (show S 1 k < 10 by omega), if_neg (show ¬ one (S 1 k) by unfold one; omega)]
                · rw [xup_j e, xup_j e]; exact hval j z1 (by omega)) (by omega)
            · rw [c_ne (by first | assumption | (refine ⟨?_, ?_⟩ <;> omega) | (simp only [xr] at *; omega)) (by first | assumption | (refine ⟨?_, ?_⟩ <;> omega) | (simp only [xr] at *; omega))] at c42
              simp only [decide_eq_true_eq, decide_eq_false_iff_not, Decidable.not_not] at c42
              show xEx G0 cdX12_countsPart none (xRn G0 MT d) Q b 43 [some (.inr (.inr 66)), some (.inl p), some (.inl k)] [.inl ((xup hw 98 k 0) 98 (hw 70 k)), .inl ((xup hw 98 k 0) 98 k), .inl k, .inr (.inr 98)] (xup hw 98 k 0)
              refine E_s 4 (i' := 54) (ls' := [some (.inr (.inr 66)), some (.inl p), some (.inl k)]) (sk' := [.inl (((xup hw 98 k 0) 98 k) + (((xup hw 98 k 0) 98 (hw 70 k)) + 0)), .inl k, .inr (.inr 98)]) (h' := (xup hw 98 k 0)) rfl ?_
              refine E_sd (x := (.iastore, 0, [], [])) (ty := .int) (n := 300) (y := (((xup hw 98 k 0) 98 k) + (((xup hw 98 k 0) 98 (hw 70 k)) + 0))) rfl rfl rfl (by omega) (by omega) (trivial) ?_
              show xEx G0 cdX12_countsPart none (xRn G0 MT d) Q b 55 [some (.inr (.inr 66)), some (.inl p), some (.inl k)] [] (xup (xup hw 98 k 0) 98 k (((xup hw 98 k 0) 98 k) + (((xup hw 98 k 0) 98 (hw 70 k)) + 0)))
              refine E_s 2 (i' := 2) (ls' := [some (.inr (.inr 66)), some (.inl p), some (.inl (k + 1))]) (sk' := []) (h' := (xup (xup hw 98 k 0) 98 k (((xup hw 98 k 0) 98 k) + (((xup hw 98 k 0) 98 (hw 70 k)) + 0)))) rfl ?_
              exact ih2 _ (k + 1) (by omega) (by omega) (fun a z => by rw [xup_o _ _ _ _ a z, xup_o _ _ _ _ a z]; exact hfr a z) (fun j z1 z2 => by
                by_cases e : j = k
                · rw [e]; rw [xup_s, xup_s, e2, xup_j (show S 2 k ≠ k by omega), hval _ (by omega) (by omega), pe, if_neg (show ¬ S 1 k = p by omega), if_pos (show S 1 k < 10 by omega), if_pos (show one (S 1 k) by unfold one; omega)]
                · rw [xup_j e, xup_j e]; exact hval j z1 (by omega)) (by omega)
        · rw [c_ne (by first | assumption | (refine ⟨?_, ?_⟩ <;> omega) | (simp only [xr] at *; omega)) (by first | assumption | (refine ⟨?_, ?_⟩ <;> omega) | (simp only [xr] at *; omega))] at c14
          simp only [decide_eq_true_eq, decide_eq_false_iff_not, Decidable.not_not] at c14
          show xEx G0 cdX12_countsPart none (xRn G0 MT d) Q b 15 [some (.inr (.inr 66)), some (.inl p), some (.inl k)] [.inl k, .inr (.inr 98)] hw
          refine E_s 2 (i' := 18) (ls' := [some (.inr (.inr 66)), some (.inl p), some (.inl k)]) (sk' := [.inl 1, .inl k, .inr (.inr 98)]) (h' := hw) rfl ?_
          refine E_sd (x := (.iastore, 0, [], [])) (ty := .int) (n := 300) (y := 1) rfl rfl rfl (by omega) (by omega) (trivial) ?_
          show xEx G0 cdX12_countsPart none (xRn G0 MT d) Q b 19 [some (.inr (.inr 66)), some (.inl p), some (.inl k)] [] (xup hw 98 k 1)
          refine E_s 3 (i' := 22) (ls' := [some (.inr (.inr 66)), some (.inl p), some (.inl k)]) (sk' := [.inl k, .inr (.inr 69)]) (h' := (xup hw 98 k 1)) rfl ?_
          refine E_ld (x := (.iaload, 0, [], [])) (ty := .int) (n := 301) rfl rfl rfl (by omega) (by omega) ?_
          show xEx G0 cdX12_countsPart none (xRn G0 MT d) Q b 23 [some (.inr (.inr 66)), some (.inl p), some (.inl k)] [.inl (hw 69 k)] (xup hw 98 k 1)
          refine E_s 1 (i' := 24) (ls' := [some (.inr (.inr 66)), some (.inl p), some (.inl k)]) (sk' := [.inl 10, .inl (hw 69 k)]) (h' := (xup hw 98 k 1)) rfl ?_
          refine E_b (x := (.if_icmp .ge 49, 55, [], [])) rfl rfl (fun c24 => ?_) (fun c24 => ?_)
          · rw [c_ge (by first | assumption | (refine ⟨?_, ?_⟩ <;> omega) | (simp only [xr] at *; omega)) (by first | assumption | (refine ⟨?_, ?_⟩ <;> omega) | (simp only [xr] at *; omega))] at c24
            simp only [decide_eq_true_eq, decide_eq_false_iff_not, Decidable.not_not] at c24
            show xEx G0 cdX12_countsPart none (xRn G0 MT d) Q b 55 [some (.inr (.inr 66)), some (.inl p), some (.inl k)] [] (xup hw 98 k 1)
            refine E_s 2 (i' := 2) (ls' := [some (.inr (.inr 66)), some (.inl p), some (.inl (k + 1))]) (sk' := []) (h' := (xup hw 98 k 1)) rfl ?_
            exact ih2 _ (k + 1) (by omega) (by omega) (fun a z => by rw [xup_o _ _ _ _ a z]; exact hfr a z) (fun j z1 z2 => by
              by_cases e : j = k
              · rw [e]; omega
              · rw [xup_j e]; exact hval j z1 (by omega)) (by omega)
          · rw [c_ge (by first | assumption | (refine ⟨?_, ?_⟩ <;> omega) | (simp only [xr] at *; omega)) (by first | assumption | (refine ⟨?_, ?_⟩ <;> omega) | (simp only [xr] at *; omega))] at c24
            simp only [decide_eq_true_eq, decide_eq_false_iff_not, Decidable.not_not] at c24
            show xEx G0 cdX12_countsPart none (xRn G0 MT d) Q b 25 [some (.inr (.inr 66)), some (.inl p), some (.inl k)] [] (xup hw 98 k 1)
            refine E_s 4 (i' := 29) (ls' := [some (.inr (.inr 66)), some (.inl p), some (.inl k)]) (sk' := [.inl k, .inr (.inr 98), .inl k, .inr (.inr 98)]) (h' := (xup hw 98 k 1)) rfl ?_
            refine E_ld (x := (.iaload, 0, [], [])) (ty := .int) (n := 300) rfl rfl rfl (by omega) (by omega) ?_
            show xEx G0 cdX12_countsPart none (xRn G0 MT d) Q b 30 [some (.inr (.inr 66)), some (.inl p), some (.inl k)] [.inl ((xup hw 98 k 1) 98 k), .inl k, .inr (.inr 98)] (xup hw 98 k 1)
            refine E_s 5 (i' := 35) (ls' := [some (.inr (.inr 66)), some (.inl p), some (.inl k)]) (sk' := [.inl k, .inr (.inr 70), .inr (.inr 98), .inl ((xup hw 98 k 1) 98 k), .inl k, .inr (.inr 98)]) (h' := (xup hw 98 k 1)) rfl ?_
            refine E_ld (x := (.iaload, 0, [], [])) (ty := .int) (n := 301) rfl rfl rfl (by omega) (by omega) ?_
            show xEx G0 cdX12_countsPart none (xRn G0 MT d) Q b 36 [some (.inr (.inr 66)), some (.inl p), some (.inl k)] [.inl (hw 70 k), .inr (.inr 98), .inl ((xup hw 98 k 1) 98 k), .inl k, .inr (.inr 98)] (xup hw 98 k 1)
            refine E_ld (x := (.iaload, 0, [], [])) (ty := .int) (n := 300) rfl rfl rfl (by omega) (by omega) ?_
            show xEx G0 cdX12_countsPart none (xRn G0 MT d) Q b 37 [some (.inr (.inr 66)), some (.inl p), some (.inl k)] [.inl ((xup hw 98 k 1) 98 (hw 70 k)), .inl ((xup hw 98 k 1) 98 k), .inl k, .inr (.inr 98)] (xup hw 98 k 1)
            refine E_s 3 (i' := 40) (ls' := [some (.inr (.inr 66)), some (.inl p), some (.inl k)]) (sk' := [.inl k, .inr (.inr 71), .inl ((xup hw 98 k 1) 98 (hw 70 k)), .inl ((xup hw 98 k 1) 98 k), .inl k, .inr (.inr 98)]) (h' := (xup hw 98 k 1)) rfl ?_
            refine E_ld (x := (.iaload, 0, [], [])) (ty := .int) (n := 301) rfl rfl rfl (by omega) (by omega) ?_
            show xEx G0 cdX12_countsPart none (xRn G0 MT d) Q b 41 [some (.inr (.inr 66)), some (.inl p), some (.inl k)] [.inl (hw 71 k), .inl ((xup hw 98 k 1) 98 (hw 70 k)), .inl ((xup hw 98 k 1) 98 k), .inl k, .inr (.inr 98)] (xup hw 98 k 1)
            refine E_s 1 (i' := 42) (ls' := [some (.inr (.inr 66)), some (.inl p), some (.inl k)]) (sk' := [.inl (-1), .inl (hw 71 k), .inl ((xup hw 98 k 1) 98 (hw 70 k)), .inl ((xup hw 98 k 1) 98 k), .inl k, .inr (.inr 98)]) (h' := (xup hw 98 k 1)) rfl ?_
            refine E_b (x := (.if_icmp .ne 7, 45, [], [])) rfl rfl (fun c42 => ?_) (fun c42 => ?_)
            · rw [c_ne (by first | assumption | (refine ⟨?_, ?_⟩ <;> omega) | (simp only [xr] at *; omega)) (by first | assumption | (refine ⟨?_, ?_⟩ <;> omega) | (simp only [xr] at *; omega))] at c42
              simp only [decide_eq_true_eq, decide_eq_false_iff_not, Decidable.not_not] at c42
              show xEx G0 cdX12_countsPart none (xRn G0 MT d) Q b 45 [some (.inr (.inr 66)), some (.inl p), some (.inl k)] [.inl ((xup hw 98 k 1) 98 (hw 70 k)), .inl ((xup hw 98 k 1) 98 k), .inl k, .inr (.inr 98)] (xup hw 98 k 1)
              refine E_s 5 (i' := 50) (ls' := [some (.inr (.inr 66)), some (.inl p), some (.inl k)]) (sk' := [.inl k, .inr (.inr 71), .inr (.inr 98), .inl ((xup hw 98 k 1) 98 (hw 70 k)), .inl ((xup hw 98 k 1) 98 k), .inl k, .inr (.inr 98)]) (h' := (xup hw 98 k 1)) rfl ?_
              refine E_ld (x := (.iaload, 0, [], [])) (ty := .int) (n := 301) rfl rfl rfl (by omega) (by omega) ?_
              show xEx G0 cdX12_countsPart none (xRn G0 MT d) Q b 51 [some (.inr (.inr 66)), some (.inl p), some (.inl k)] [.inl (hw 71 k), .inr (.inr 98), .inl ((xup hw 98 k 1) 98 (hw 70 k)), .inl ((xup hw 98 k 1) 98 k), .inl k, .inr (.inr 98)] (xup hw 98 k 1)
              refine E_ld (x := (.iaload, 0, [], [])) (ty := .int) (n := 300) rfl rfl rfl (by omega) (by omega) ?_
              show xEx G0 cdX12_countsPart none (xRn G0 MT d) Q b 52 [some (.inr (.inr 66)), some (.inl p), some (.inl k)] [.inl ((xup hw 98 k 1) 98 (hw 71 k)), .inl ((xup hw 98 k 1) 98 (hw 70 k)), .inl ((xup hw 98 k 1) 98 k), .inl k, .inr (.inr 98)] (xup hw 98 k 1)
              refine E_s 2 (i' := 54) (ls' := [some (.inr (.inr 66)), some (.inl p), some (.inl k)]) (sk' := [.inl (((xup hw 98 k 1) 98 k) + (((xup hw 98 k 1) 98 (hw 70 k)) + ((xup hw 98 k 1) 98 (hw 71 k)))), .inl k, .inr (.inr 98)]) (h' := (xup hw 98 k 1)) rfl ?_
              refine E_sd (x := (.iastore, 0, [], [])) (ty := .int) (n := 300) (y := (((xup hw 98 k 1) 98 k) + (((xup hw 98 k 1) 98 (hw 70 k)) + ((xup hw 98 k 1) 98 (hw 71 k))))) rfl rfl rfl (by omega) (by omega) (trivial) ?_
              show xEx G0 cdX12_countsPart none (xRn G0 MT d) Q b 55 [some (.inr (.inr 66)), some (.inl p), some (.inl k)] [] (xup (xup hw 98 k 1) 98 k (((xup hw 98 k 1) 98 k) + (((xup hw 98 k 1) 98 (hw 70 k)) + ((xup hw 98 k 1) 98 (hw 71 k)))))
              refine E_s 2 (i' := 2) (ls' := [some (.inr (.inr 66)), some (.inl p), some (.inl (k + 1))]) (sk' := []) (h' := (xup (xup hw 98 k 1) 98 k (((xup hw 98 k 1) 98 k) + (((xup hw 98 k 1) 98 (hw 70 k)) + ((xup hw 98 k 1) 98 (hw 71 k)))))) rfl ?_
              exact ih2 _ (k + 1) (by omega) (by omega) (fun a z => by rw [xup_o _ _ _ _ a z, xup_o _ _ _ _ a z]; exact hfr a z) (fun j z1 z2 => by
                by_cases e : j = k
                · rw [e]; rw [xup_s, xup_s, e2, xup_j (show S 2 k ≠ k by omega), hval _ (by omega) (by omega), e3b (by omega), xup_j (show S 3 k ≠ k by omega), hval _ (by omega) (by omega), pe, if_pos (show S 1 k = p by omega), if_pos (show S 1 k < 10 by omega), if_neg (show ¬ one (S 1 k) by unfold one; omega)]
                · rw [xup_j e, xup_j e]; exact hval j z1 (by omega)) (by omega)
            · rw [c_ne (by first | assumption | (refine ⟨?_, ?_⟩ <;> omega) | (simp only [xr] at *; omega)) (by first | assumption | (refine ⟨?_, ?_⟩ <;> omega) | (simp only [xr] at *; omega))] at c42
              simp only [decide_eq_true_eq, decide_eq_false_iff_not, Decidable.not_not] at c42
              show xEx G0 cdX12_countsPart none (xRn G0 MT d) Q b 43 [some (.inr (.inr 66)), some (.inl p), some (.inl k)] [.inl ((xup hw 98 k 1) 98 (hw 70 k)), .inl ((xup hw 98 k 1) 98 k), .inl k, .inr (.inr 98)] (xup hw 98 k 1)
              refine E_s 4 (i' := 54) (ls' := [some (.inr (.inr 66)), some (.inl p), some (.inl k)]) (sk' := [.inl (((xup hw 98 k 1) 98 k) + (((xup hw 98 k 1) 98 (hw 70 k)) + 0)), .inl k, .inr (.inr 98)]) (h' := (xup hw 98 k 1)) rfl ?_
              refine E_sd (x := (.iastore, 0, [], [])) (ty := .int) (n := 300) (y := (((xup hw 98 k 1) 98 k) + (((xup hw 98 k 1) 98 (hw 70 k)) + 0))) rfl rfl rfl (by omega) (by omega) (trivial) ?_
              show xEx G0 cdX12_countsPart none (xRn G0 MT d) Q b 55 [some (.inr (.inr 66)), some (.inl p), some (.inl k)] [] (xup (xup hw 98 k 1) 98 k (((xup hw 98 k 1) 98 k) + (((xup hw 98 k 1) 98 (hw 70 k)) + 0)))
              refine E_s 2 (i' := 2) (ls' := [some (.inr (.inr 66)), some (.inl p), some (.inl (k + 1))]) (sk' := []) (h' := (xup (xup hw 98 k 1) 98 k (((xup hw 98 k 1) 98 k) + (((xup hw 98 k 1) 98 (hw 70 k)) + 0)))) rfl ?_
              exact ih2 _ (k + 1) (by omega) (by omega) (fun a z => by rw [xup_o _ _ _ _ a z, xup_o _ _ _ _ a z]; exact hfr a z) (fun j z1 z2 => by
                by_cases e : j = k
                · rw [e]; rw [xup_s, xup_s, e2, xup_j (show S 2 k ≠ k by omega), hval _ (by omega) (by omega), pe, if_pos (show S 1 k = p by omega), if_pos (show S 1 k < 10 by omega), if_pos (show one (S 1 k) by unfold one; omega)]
                · rw [xup_j e, xup_j e]; exact hval j z1 (by omega)) (by omega)
  exact key2 _ h 0 (by omega) (by omega) (fun _ _ => rfl) (fun j z1 z2 => by omega) (Nat.lt_succ_self _)
set_option maxHeartbeats 1000000 in
theorem o_uses0 (d  : Nat) (h : xH) (k p : Int) (hk : xr k) (hp : xr p) (hK0 : 0 ≤ h 9 9 ∧ h 9 9 ≤ 300) {Q : xO → xH → Prop} (hN : ¬ (0 ≤ k ∧ k < h 9 9) → Q (.inr "java/util/NoSuchElementException") h) (hA : (0 ≤ k ∧ k < h 9 9) → ¬ (0 ≤ p ∧ p ≤ 9) → Q (.inr "java/lang/IllegalArgumentException") h) (hO : (0 ≤ k ∧ k < h 9 9) → (0 ≤ p ∧ p ≤ 9) → Q (.inl (some (.inl (pin (h 19 k) p)))) h) : xRn G0 MT (d + 5) 2 115 [.inr (.inr 0), .inl 0, .inl k, .inl p] h Q := by
  refine R_of (M := mX11_uses) rfl (Nat.le_of_ble_eq_true rfl) ?_
  show xEx G0 cdX11_uses (some .int) (xRn G0 MT (d + 4)) Q 2 0 [some (.inr (.inr 0)), some (.inl 0), some (.inl k), some (.inl p), none] [] h
  refine E_s 3 (i' := 3) (ls' := [some (.inr (.inr 0)), some (.inl 0), some (.inl k), some (.inl p), none]) (sk' := [.inl k, .inl 0, .inr (.inr 0)]) (h' := h) rfl ?_
  refine E_cx (x := (.invokevirtual 194, 2, [(9, 143)], [0])) (b1 := 1) (b2 := 1) (v := (some (.inr (.inr 9)))) (q := fun h9 => (0 ≤ k ∧ k < h 9 9) ∧ h = h9) rfl rfl (Nat.le_of_ble_eq_true rfl) (fun z => by cases z) (c_growthWith0 (d + 1) h k hk hK0 (fun z => Or.inl ⟨rfl, z, rfl⟩) (fun z => Or.inr ⟨_, rfl, hN z⟩)) (fun h9 hq9 => ?_)
  obtain ⟨qk, rfl⟩ := hq9
  show xEx G0 cdX11_uses (some .int) (xRn G0 MT (d + 4)) Q 1 4 [some (.inr (.inr 0)), some (.inl 0), some (.inl k), some (.inl p), none] [.inr (.inr 9)] h
  refine E_s 2 (i' := 6) (ls' := [some (.inr (.inr 0)), some (.inl 0), some (.inl k), some (.inl p), some (.inr (.inr 9))]) (sk' := [.inl p]) (h' := h) rfl ?_
  refine E_cx (x := (.invokestatic 122, 1, [(0, 150)], [])) (b1 := 1) (b2 := 0) (v := none) (q := fun h9 => (0 ≤ p ∧ p ≤ 9) ∧ h = h9) rfl rfl (Nat.le_of_ble_eq_true rfl) (fun z => by cases z) (c_refNoPart (d + 3) h p hp (fun z => Or.inl ⟨rfl, z, rfl⟩) (fun z => Or.inr ⟨_, rfl, hA qk z⟩)) (fun h9 hq9 => ?_)
  obtain ⟨qp, rfl⟩ := hq9
  show xEx G0 cdX11_uses (some .int) (xRn G0 MT (d + 4)) Q 0 7 [some (.inr (.inr 0)), some (.inl 0), some (.inl k), some (.inl p), some (.inr (.inr 9))] [] h
  refine E_s 3 (i' := 10) (ls' := [some (.inr (.inr 0)), some (.inl 0), some (.inl k), some (.inl p), some (.inr (.inr 9))]) (sk' := [.inl p, .inl k, .inr (.inr 9)]) (h' := h) rfl ?_
  refine E_ci (x := (.invokevirtual 260, 2, [(1, 28), (7, 28)], [1])) (r := (pin (h 19 k) p)) (h' := h) rfl rfl (Nat.le_of_ble_eq_true rfl) (c_partsIn0 (d + 3) 0 h k p ⟨by omega, by omega⟩ ⟨rfl, rfl⟩) ?_
  show xEx G0 cdX11_uses (some .int) (xRn G0 MT (d + 4)) Q 0 11 [some (.inr (.inr 0)), some (.inl 0), some (.inl k), some (.inl p), some (.inr (.inr 9))] [.inl (pin (h 19 k) p)] h
  exact E_ret (x := (.ireturn, 0, [], [])) (v := some (.inl (pin (h 19 k) p))) rfl (Or.inl rfl) (hO qk qp)
set_option maxHeartbeats 1000000 in
theorem m_uses0 (d b : Nat) (h S T : xH) (k p n0 : Int) (wt : Int → Int) (hk : xr k) (hp : xr p) (hR : RR h S) (hRT : RRT h T) (hF : FW n0 wt 9 S) (hT : FWT S 7 T) (h3 : 0 ≤ S 0 0 ∧ S 0 0 ≤ 300) (h4 : 0 ≤ T 0 0 ∧ T 0 0 ≤ 150) (hM0 : 0 ≤ h 66 8 ∧ h 66 8 ≤ 300) {Q : xO → xH → Prop} (hN : ¬ (0 ≤ k ∧ k < h 66 8) → Q (.inl (some (.inl (0)))) (xup h 66 0 1)) (hA : (0 ≤ k ∧ k < h 66 8) → ¬ (0 ≤ p ∧ p ≤ 9) → Q (.inl (some (.inl (0)))) (xup h 66 0 2)) (hO : (0 ≤ k ∧ k < h 66 8) → (0 ≤ p ∧ p ≤ 9) → ∀ h', (∀ a, a ≠ 98 → a ≠ 99 → h' a = (xup h 66 0 0) a) → Q (.inl (some (.inl (pin (S 11 k) p)))) h') : xRn G0 MT (d + 5) b 222 [.inr (.inr 66), .inl 0, .inl k, .inl p] h Q := by
  refine R_of (M := mX12_uses) rfl (Nat.le_of_ble_eq_true rfl) ?_
  show xEx G0 cdX12_uses (some .int) (xRn G0 MT (d + 4)) Q b 0 [some (.inr (.inr 66)), some (.inl 0), some (.inl k), some (.inl p)] [] h
  refine E_s 4 (i' := 4) (ls' := [some (.inr (.inr 66)), some (.inl 0), some (.inl k), some (.inl p)]) (sk' := [.inl k, .inl 0, .inr (.inr 66), .inr (.inr 66)]) (h' := h) rfl ?_
  refine E_cp (x := (.invokevirtual 295, 2, [(10, 193)], [0])) (q := fun r1 h9 => ((r1 = 1 ∧ (0 ≤ k ∧ k < h 66 8)) ∨ (r1 = 0 ∧ ¬ (0 ≤ k ∧ k < h 66 8))) ∧ h = h9) rfl rfl (Nat.le_of_ble_eq_true rfl) (m_isKept0 (d + 2) 0 h k hk hM0 (fun z => ⟨_, rfl, Or.inl ⟨rfl, z⟩, rfl⟩) (fun z => ⟨_, rfl, Or.inr ⟨rfl, z⟩, rfl⟩)) (fun r1 h9 q1 => ?_)
  obtain ⟨q1, rfl⟩ := q1
  show xEx G0 cdX12_uses (some .int) (xRn G0 MT (d + 4)) Q b 5 [some (.inr (.inr 66)), some (.inl 0), some (.inl k), some (.inl p)] [.inl r1, .inr (.inr 66)] h
  refine E_b (x := (.ifCond .ne 7, 8, [], [])) rfl rfl (fun c5 => ?_) (fun c5 => ?_)
  · rw [c_ne (by first | assumption | (refine ⟨?_, ?_⟩ <;> omega) | (simp only [xr] at *; omega)) (by first | assumption | (refine ⟨?_, ?_⟩ <;> omega) | (simp only [xr] at *; omega))] at c5
    simp only [decide_eq_true_eq, decide_eq_false_iff_not, Decidable.not_not] at c5
    show xEx G0 cdX12_uses (some .int) (xRn G0 MT (d + 4)) Q b 8 [some (.inr (.inr 66)), some (.inl 0), some (.inl k), some (.inl p)] [.inr (.inr 66)] h
    refine E_s 1 (i' := 9) (ls' := [some (.inr (.inr 66)), some (.inl 0), some (.inl k), some (.inl p)]) (sk' := [.inl p, .inr (.inr 66)]) (h' := h) rfl ?_
    refine E_cp (x := (.invokestatic 197, 1, [(0, 164)], [])) (q := fun r2 h9 => ((r2 = 1 ∧ (0 ≤ p ∧ p ≤ 9)) ∨ (r2 = 0 ∧ ¬ (0 ≤ p ∧ p ≤ 9))) ∧ h = h9) rfl rfl (Nat.le_of_ble_eq_true rfl) (m_isPart (d + 2) 0 h p hp (fun z => ⟨_, rfl, Or.inl ⟨rfl, z⟩, rfl⟩) (fun z => ⟨_, rfl, Or.inr ⟨rfl, z⟩, rfl⟩)) (fun r2 h9 q2 => ?_)
    obtain ⟨q2, rfl⟩ := q2
    show xEx G0 cdX12_uses (some .int) (xRn G0 MT (d + 4)) Q b 10 [some (.inr (.inr 66)), some (.inl 0), some (.inl k), some (.inl p)] [.inl r2, .inr (.inr 66)] h
    refine E_b (x := (.ifCond .ne 7, 13, [], [])) rfl rfl (fun c10 => ?_) (fun c10 => ?_)
    · rw [c_ne (by first | assumption | (refine ⟨?_, ?_⟩ <;> omega) | (simp only [xr] at *; omega)) (by first | assumption | (refine ⟨?_, ?_⟩ <;> omega) | (simp only [xr] at *; omega))] at c10
      simp only [decide_eq_true_eq, decide_eq_false_iff_not, Decidable.not_not] at c10
      show xEx G0 cdX12_uses (some .int) (xRn G0 MT (d + 4)) Q b 13 [some (.inr (.inr 66)), some (.inl 0), some (.inl k), some (.inl p)] [.inr (.inr 66)] h
      refine E_s 4 (i' := 17) (ls' := [some (.inr (.inr 66)), some (.inl 0), some (.inl k), some (.inl p)]) (sk' := [.inl 0]) (h' := (xup h 66 0 0)) rfl ?_
      refine E_b (x := (.ifCond .le 5, 20, [], [])) rfl rfl (fun c17 => ?_) (fun c17 => ?_)
      · show xEx G0 cdX12_uses (some .int) (xRn G0 MT (d + 4)) Q b 20 [some (.inr (.inr 66)), some (.inl 0), some (.inl k), some (.inl p)] [] (xup h 66 0 0)
        have qk := o1 q1 c5
        have qp := o1 q2 c10
        have hR9 : RR (xup h 66 0 0) S := RR_vh0 hR
        have hRT9 : RRT (xup h 66 0 0) T := RRT_vh0 hRT
        have qk2 : 0 ≤ k ∧ k < S 0 0 := by rw [← hR.1]; exact qk
        refine E_s 2 (i' := 22) (ls' := [some (.inr (.inr 66)), some (.inl 0), some (.inl k), some (.inl p)]) (sk' := [.inl p, .inr (.inr 66)]) (h' := (xup h 66 0 0)) rfl ?_
        refine E_cv (x := (.invokevirtual 375, 1, [(10, 221)], [0])) (q := fun h9 => (∀ a, a ≠ 98 → a ≠ 99 → h9 a = (xup h 66 0 0) a) ∧ (∀ k, 0 ≤ k → k < S 0 0 → h9 98 k = pin (S 11 k) p) ∧ (∀ t, 0 ≤ t → t < T 0 0 → h9 99 t = pin (T 11 t) p)) rfl rfl (Nat.le_of_ble_eq_true rfl) (m_countsPart (d + 3) 0 (xup h 66 0 0) S T p n0 wt qp hR9 hRT9 hF hT h3 h4 (fun h9 z1 z2 z3 => ⟨rfl, z1, z2, z3⟩)) (fun h1 hq => ?_)
        obtain ⟨f1, f2, f3⟩ := hq
        show xEx G0 cdX12_uses (some .int) (xRn G0 MT (d + 4)) Q b 23 [some (.inr (.inr 66)), some (.inl 0), some (.inl k), some (.inl p)] [] h1
        refine E_s 1 (i' := 24) (ls' := [some (.inr (.inr 66)), some (.inl 0), some (.inl k), some (.inl p)]) (sk' := [.inl 0]) (h' := h1) rfl ?_
        refine E_b (x := (.ifCond .eq 12, 30, [], [])) rfl rfl (fun c24 => ?_) (fun c24 => ?_)
        · show xEx G0 cdX12_uses (some .int) (xRn G0 MT (d + 4)) Q b 30 [some (.inr (.inr 66)), some (.inl 0), some (.inl k), some (.inl p)] [] h1
          refine E_s 3 (i' := 33) (ls' := [some (.inr (.inr 66)), some (.inl 0), some (.inl k), some (.inl p)]) (sk' := [.inl k, .inr (.inr 98)]) (h' := h1) rfl ?_
          refine E_ld (x := (.iaload, 0, [], [])) (ty := .int) (n := 300) rfl rfl rfl (by omega) (by omega) ?_
          show xEx G0 cdX12_uses (some .int) (xRn G0 MT (d + 4)) Q b 34 [some (.inr (.inr 66)), some (.inl 0), some (.inl k), some (.inl p)] [.inl (h1 98 k)] h1
          exact E_ret (x := (.ireturn, 0, [], [])) (v := some (.inl (h1 98 k))) rfl (Or.inl rfl) (by
            have r9 := hO qk qp h1 f1
            rw [← f2 k qk2.1 qk2.2] at r9
            exact r9)
        · show xEx G0 cdX12_uses (some .int) (xRn G0 MT (d + 4)) Q b 25 [some (.inr (.inr 66)), some (.inl 0), some (.inl k), some (.inl p)] [] h1
          exact absurd c24 (by decide)
      · show xEx G0 cdX12_uses (some .int) (xRn G0 MT (d + 4)) Q b 18 [some (.inr (.inr 66)), some (.inl 0), some (.inl k), some (.inl p)] [] (xup h 66 0 0)
        exact absurd c17 (by decide)
    · rw [c_ne (by first | assumption | (refine ⟨?_, ?_⟩ <;> omega) | (simp only [xr] at *; omega)) (by first | assumption | (refine ⟨?_, ?_⟩ <;> omega) | (simp only [xr] at *; omega))] at c10
      simp only [decide_eq_true_eq, decide_eq_false_iff_not, Decidable.not_not] at c10
      show xEx G0 cdX12_uses (some .int) (xRn G0 MT (d + 4)) Q b 11 [some (.inr (.inr 66)), some (.inl 0), some (.inl k), some (.inl p)] [.inr (.inr 66)] h
      refine E_s 5 (i' := 17) (ls' := [some (.inr (.inr 66)), some (.inl 0), some (.inl k), some (.inl p)]) (sk' := [.inl 2]) (h' := (xup h 66 0 2)) rfl ?_
      refine E_b (x := (.ifCond .le 5, 20, [], [])) rfl rfl (fun c17 => ?_) (fun c17 => ?_)
      · show xEx G0 cdX12_uses (some .int) (xRn G0 MT (d + 4)) Q b 20 [some (.inr (.inr 66)), some (.inl 0), some (.inl k), some (.inl p)] [] (xup h 66 0 2)
        exact absurd c17 (by decide)
      · show xEx G0 cdX12_uses (some .int) (xRn G0 MT (d + 4)) Q b 18 [some (.inr (.inr 66)), some (.inl 0), some (.inl k), some (.inl p)] [] (xup h 66 0 2)
        refine E_s 1 (i' := 19) (ls' := [some (.inr (.inr 66)), some (.inl 0), some (.inl k), some (.inl p)]) (sk' := [.inl 0]) (h' := (xup h 66 0 2)) rfl ?_
        exact E_ret (x := (.ireturn, 0, [], [])) (v := some (.inl 0)) rfl (Or.inl rfl) (hA (o1 q1 (by omega)) (o0 q2 (by omega)))
  · rw [c_ne (by first | assumption | (refine ⟨?_, ?_⟩ <;> omega) | (simp only [xr] at *; omega)) (by first | assumption | (refine ⟨?_, ?_⟩ <;> omega) | (simp only [xr] at *; omega))] at c5
    simp only [decide_eq_true_eq, decide_eq_false_iff_not, Decidable.not_not] at c5
    show xEx G0 cdX12_uses (some .int) (xRn G0 MT (d + 4)) Q b 6 [some (.inr (.inr 66)), some (.inl 0), some (.inl k), some (.inl p)] [.inr (.inr 66)] h
    refine E_s 5 (i' := 17) (ls' := [some (.inr (.inr 66)), some (.inl 0), some (.inl k), some (.inl p)]) (sk' := [.inl 1]) (h' := (xup h 66 0 1)) rfl ?_
    refine E_b (x := (.ifCond .le 5, 20, [], [])) rfl rfl (fun c17 => ?_) (fun c17 => ?_)
    · show xEx G0 cdX12_uses (some .int) (xRn G0 MT (d + 4)) Q b 20 [some (.inr (.inr 66)), some (.inl 0), some (.inl k), some (.inl p)] [] (xup h 66 0 1)
      exact absurd c17 (by decide)
    · show xEx G0 cdX12_uses (some .int) (xRn G0 MT (d + 4)) Q b 18 [some (.inr (.inr 66)), some (.inl 0), some (.inl k), some (.inl p)] [] (xup h 66 0 1)
      refine E_s 1 (i' := 19) (ls' := [some (.inr (.inr 66)), some (.inl 0), some (.inl k), some (.inl p)]) (sk' := [.inl 0]) (h' := (xup h 66 0 1)) rfl ?_
      exact E_ret (x := (.ireturn, 0, [], [])) (v := some (.inl 0)) rfl (Or.inl rfl) (hN (o0 q1 (by omega)))
set_option maxHeartbeats 1000000 in
theorem o_uses1 (d  : Nat) (h : xH) (k p : Int) (hk : xr k) (hp : xr p) (hK1 : 0 ≤ h 28 9 ∧ h 28 9 ≤ 150) {Q : xO → xH → Prop} (hN : ¬ (0 ≤ k ∧ k < h 28 9) → Q (.inr "java/util/NoSuchElementException") h) (hA : (0 ≤ k ∧ k < h 28 9) → ¬ (0 ≤ p ∧ p ≤ 9) → Q (.inr "java/lang/IllegalArgumentException") h) (hO : (0 ≤ k ∧ k < h 28 9) → (0 ≤ p ∧ p ≤ 9) → Q (.inl (some (.inl (pin (h 38 k) p)))) h) : xRn G0 MT (d + 5) 2 115 [.inr (.inr 0), .inl 1, .inl k, .inl p] h Q := by
  refine R_of (M := mX11_uses) rfl (Nat.le_of_ble_eq_true rfl) ?_
  show xEx G0 cdX11_uses (some .int) (xRn G0 MT (d + 4)) Q 2 0 [some (.inr (.inr 0)), some (.inl 1), some (.inl k), some (.inl p), none] [] h
  refine E_s 3 (i' := 3) (ls' := [some (.inr (.inr 0)), some (.inl 1), some (.inl k), some (.inl p), none]) (sk' := [.inl k, .inl 1, .inr (.inr 0)]) (h' := h) rfl ?_
  refine E_cx (x := (.invokevirtual 194, 2, [(9, 143)], [0])) (b1 := 1) (b2 := 1) (v := (some (.inr (.inr 28)))) (q := fun h9 => (0 ≤ k ∧ k < h 28 9) ∧ h = h9) rfl rfl (Nat.le_of_ble_eq_true rfl) (fun z => by cases z) (c_growthWith1 (d + 1) h k hk hK1 (fun z => Or.inl ⟨rfl, z, rfl⟩) (fun z => Or.inr ⟨_, rfl, hN z⟩)) (fun h9 hq9 => ?_)
  obtain ⟨qk, rfl⟩ := hq9
  show xEx G0 cdX11_uses (some .int) (xRn G0 MT (d + 4)) Q 1 4 [some (.inr (.inr 0)), some (.inl 1), some (.inl k), some (.inl p), none] [.inr (.inr 28)] h
  refine E_s 2 (i' := 6) (ls' := [some (.inr (.inr 0)), some (.inl 1), some (.inl k), some (.inl p), some (.inr (.inr 28))]) (sk' := [.inl p]) (h' := h) rfl ?_
  refine E_cx (x := (.invokestatic 122, 1, [(0, 150)], [])) (b1 := 1) (b2 := 0) (v := none) (q := fun h9 => (0 ≤ p ∧ p ≤ 9) ∧ h = h9) rfl rfl (Nat.le_of_ble_eq_true rfl) (fun z => by cases z) (c_refNoPart (d + 3) h p hp (fun z => Or.inl ⟨rfl, z, rfl⟩) (fun z => Or.inr ⟨_, rfl, hA qk z⟩)) (fun h9 hq9 => ?_)
  obtain ⟨qp, rfl⟩ := hq9
  show xEx G0 cdX11_uses (some .int) (xRn G0 MT (d + 4)) Q 0 7 [some (.inr (.inr 0)), some (.inl 1), some (.inl k), some (.inl p), some (.inr (.inr 28))] [] h
  refine E_s 3 (i' := 10) (ls' := [some (.inr (.inr 0)), some (.inl 1), some (.inl k), some (.inl p), some (.inr (.inr 28))]) (sk' := [.inl p, .inl k, .inr (.inr 28)]) (h' := h) rfl ?_
  refine E_ci (x := (.invokevirtual 260, 2, [(1, 28), (7, 28)], [1])) (r := (pin (h 38 k) p)) (h' := h) rfl rfl (Nat.le_of_ble_eq_true rfl) (c_partsIn1 (d + 3) 0 h k p ⟨by omega, by omega⟩ ⟨rfl, rfl⟩) ?_
  show xEx G0 cdX11_uses (some .int) (xRn G0 MT (d + 4)) Q 0 11 [some (.inr (.inr 0)), some (.inl 1), some (.inl k), some (.inl p), some (.inr (.inr 28))] [.inl (pin (h 38 k) p)] h
  exact E_ret (x := (.ireturn, 0, [], [])) (v := some (.inl (pin (h 38 k) p))) rfl (Or.inl rfl) (hO qk qp)
set_option maxHeartbeats 1000000 in
theorem m_uses1 (d b : Nat) (h S T : xH) (k p n0 : Int) (wt : Int → Int) (hk : xr k) (hp : xr p) (hR : RR h S) (hRT : RRT h T) (hF : FW n0 wt 9 S) (hT : FWT S 7 T) (h3 : 0 ≤ S 0 0 ∧ S 0 0 ≤ 300) (h4 : 0 ≤ T 0 0 ∧ T 0 0 ≤ 150) (hM1 : 0 ≤ h 66 19 ∧ h 66 19 ≤ 150) {Q : xO → xH → Prop} (hN : ¬ (0 ≤ k ∧ k < h 66 19) → Q (.inl (some (.inl (0)))) (xup h 66 0 1)) (hA : (0 ≤ k ∧ k < h 66 19) → ¬ (0 ≤ p ∧ p ≤ 9) → Q (.inl (some (.inl (0)))) (xup h 66 0 2)) (hO : (0 ≤ k ∧ k < h 66 19) → (0 ≤ p ∧ p ≤ 9) → ∀ h', (∀ a, a ≠ 98 → a ≠ 99 → h' a = (xup h 66 0 0) a) → Q (.inl (some (.inl (pin (T 11 k) p)))) h') : xRn G0 MT (d + 5) b 222 [.inr (.inr 66), .inl 1, .inl k, .inl p] h Q := by
  refine R_of (M := mX12_uses) rfl (Nat.le_of_ble_eq_true rfl) ?_
  show xEx G0 cdX12_uses (some .int) (xRn G0 MT (d + 4)) Q b 0 [some (.inr (.inr 66)), some (.inl 1), some (.inl k), some (.inl p)] [] h
  refine E_s 4 (i' := 4) (ls' := [some (.inr (.inr 66)), some (.inl 1), some (.inl k), some (.inl p)]) (sk' := [.inl k, .inl 1, .inr (.inr 66), .inr (.inr 66)]) (h' := h) rfl ?_
  refine E_cp (x := (.invokevirtual 295, 2, [(10, 193)], [0])) (q := fun r1 h9 => ((r1 = 1 ∧ (0 ≤ k ∧ k < h 66 19)) ∨ (r1 = 0 ∧ ¬ (0 ≤ k ∧ k < h 66 19))) ∧ h = h9) rfl rfl (Nat.le_of_ble_eq_true rfl) (m_isKept1 (d + 2) 0 h k hk hM1 (fun z => ⟨_, rfl, Or.inl ⟨rfl, z⟩, rfl⟩) (fun z => ⟨_, rfl, Or.inr ⟨rfl, z⟩, rfl⟩)) (fun r1 h9 q1 => ?_)
  obtain ⟨q1, rfl⟩ := q1
  show xEx G0 cdX12_uses (some .int) (xRn G0 MT (d + 4)) Q b 5 [some (.inr (.inr 66)), some (.inl 1), some (.inl k), some (.inl p)] [.inl r1, .inr (.inr 66)] h
  refine E_b (x := (.ifCond .ne 7, 8, [], [])) rfl rfl (fun c5 => ?_) (fun c5 => ?_)
  · rw [c_ne (by first | assumption | (refine ⟨?_, ?_⟩ <;> omega) | (simp only [xr] at *; omega)) (by first | assumption | (refine ⟨?_, ?_⟩ <;> omega) | (simp only [xr] at *; omega))] at c5
    simp only [decide_eq_true_eq, decide_eq_false_iff_not, Decidable.not_not] at c5
    show xEx G0 cdX12_uses (some .int) (xRn G0 MT (d + 4)) Q b 8 [some (.inr (.inr 66)), some (.inl 1), some (.inl k), some (.inl p)] [.inr (.inr 66)] h
    refine E_s 1 (i' := 9) (ls' := [some (.inr (.inr 66)), some (.inl 1), some (.inl k), some (.inl p)]) (sk' := [.inl p, .inr (.inr 66)]) (h' := h) rfl ?_
    refine E_cp (x := (.invokestatic 197, 1, [(0, 164)], [])) (q := fun r2 h9 => ((r2 = 1 ∧ (0 ≤ p ∧ p ≤ 9)) ∨ (r2 = 0 ∧ ¬ (0 ≤ p ∧ p ≤ 9))) ∧ h = h9) rfl rfl (Nat.le_of_ble_eq_true rfl) (m_isPart (d + 2) 0 h p hp (fun z => ⟨_, rfl, Or.inl ⟨rfl, z⟩, rfl⟩) (fun z => ⟨_, rfl, Or.inr ⟨rfl, z⟩, rfl⟩)) (fun r2 h9 q2 => ?_)
    obtain ⟨q2, rfl⟩ := q2
    show xEx G0 cdX12_uses (some .int) (xRn G0 MT (d + 4)) Q b 10 [some (.inr (.inr 66)), some (.inl 1), some (.inl k), some (.inl p)] [.inl r2, .inr (.inr 66)] h
    refine E_b (x := (.ifCond .ne 7, 13, [], [])) rfl rfl (fun c10 => ?_) (fun c10 => ?_)
    · rw [c_ne (by first | assumption | (refine ⟨?_, ?_⟩ <;> omega) | (simp only [xr] at *; omega)) (by first | assumption | (refine ⟨?_, ?_⟩ <;> omega) | (simp only [xr] at *; omega))] at c10
      simp only [decide_eq_true_eq, decide_eq_false_iff_not, Decidable.not_not] at c10
      show xEx G0 cdX12_uses (some .int) (xRn G0 MT (d + 4)) Q b 13 [some (.inr (.inr 66)), some (.inl 1), some (.inl k), some (.inl p)] [.inr (.inr 66)] h
      refine E_s 4 (i' := 17) (ls' := [some (.inr (.inr 66)), some (.inl 1), some (.inl k), some (.inl p)]) (sk' := [.inl 0]) (h' := (xup h 66 0 0)) rfl ?_
      refine E_b (x := (.ifCond .le 5, 20, [], [])) rfl rfl (fun c17 => ?_) (fun c17 => ?_)
      · show xEx G0 cdX12_uses (some .int) (xRn G0 MT (d + 4)) Q b 20 [some (.inr (.inr 66)), some (.inl 1), some (.inl k), some (.inl p)] [] (xup h 66 0 0)
        have qk := o1 q1 c5
        have qp := o1 q2 c10
        have hR9 : RR (xup h 66 0 0) S := RR_vh0 hR
        have hRT9 : RRT (xup h 66 0 0) T := RRT_vh0 hRT
        have qk2 : 0 ≤ k ∧ k < T 0 0 := by rw [← hRT.1]; exact qk
        refine E_s 2 (i' := 22) (ls' := [some (.inr (.inr 66)), some (.inl 1), some (.inl k), some (.inl p)]) (sk' := [.inl p, .inr (.inr 66)]) (h' := (xup h 66 0 0)) rfl ?_
        refine E_cv (x := (.invokevirtual 375, 1, [(10, 221)], [0])) (q := fun h9 => (∀ a, a ≠ 98 → a ≠ 99 → h9 a = (xup h 66 0 0) a) ∧ (∀ k, 0 ≤ k → k < S 0 0 → h9 98 k = pin (S 11 k) p) ∧ (∀ t, 0 ≤ t → t < T 0 0 → h9 99 t = pin (T 11 t) p)) rfl rfl (Nat.le_of_ble_eq_true rfl) (m_countsPart (d + 3) 0 (xup h 66 0 0) S T p n0 wt qp hR9 hRT9 hF hT h3 h4 (fun h9 z1 z2 z3 => ⟨rfl, z1, z2, z3⟩)) (fun h1 hq => ?_)
        obtain ⟨f1, f2, f3⟩ := hq
        show xEx G0 cdX12_uses (some .int) (xRn G0 MT (d + 4)) Q b 23 [some (.inr (.inr 66)), some (.inl 1), some (.inl k), some (.inl p)] [] h1
        refine E_s 1 (i' := 24) (ls' := [some (.inr (.inr 66)), some (.inl 1), some (.inl k), some (.inl p)]) (sk' := [.inl 1]) (h' := h1) rfl ?_
        refine E_b (x := (.ifCond .eq 12, 30, [], [])) rfl rfl (fun c24 => ?_) (fun c24 => ?_)
        · show xEx G0 cdX12_uses (some .int) (xRn G0 MT (d + 4)) Q b 30 [some (.inr (.inr 66)), some (.inl 1), some (.inl k), some (.inl p)] [] h1
          exact absurd c24 (by decide)
        · show xEx G0 cdX12_uses (some .int) (xRn G0 MT (d + 4)) Q b 25 [some (.inr (.inr 66)), some (.inl 1), some (.inl k), some (.inl p)] [] h1
          refine E_s 3 (i' := 28) (ls' := [some (.inr (.inr 66)), some (.inl 1), some (.inl k), some (.inl p)]) (sk' := [.inl k, .inr (.inr 99)]) (h' := h1) rfl ?_
          refine E_ld (x := (.iaload, 0, [], [])) (ty := .int) (n := 150) rfl rfl rfl (by omega) (by omega) ?_
          show xEx G0 cdX12_uses (some .int) (xRn G0 MT (d + 4)) Q b 29 [some (.inr (.inr 66)), some (.inl 1), some (.inl k), some (.inl p)] [.inl (h1 99 k)] h1
          refine E_s 1 (i' := 34) (ls' := [some (.inr (.inr 66)), some (.inl 1), some (.inl k), some (.inl p)]) (sk' := [.inl (h1 99 k)]) (h' := h1) rfl ?_
          exact E_ret (x := (.ireturn, 0, [], [])) (v := some (.inl (h1 99 k))) rfl (Or.inl rfl) (by
            have r9 := hO qk qp h1 f1
            rw [← f3 k qk2.1 qk2.2] at r9
            exact r9)
      · show xEx G0 cdX12_uses (some .int) (xRn G0 MT (d + 4)) Q b 18 [some (.inr (.inr 66)), some (.inl 1), some (.inl k), some (.inl p)] [] (xup h 66 0 0)
        exact absurd c17 (by decide)
    · rw [c_ne (by first | assumption | (refine ⟨?_, ?_⟩ <;> omega) | (simp only [xr] at *; omega)) (by first | assumption | (refine ⟨?_, ?_⟩ <;> omega) | (simp only [xr] at *; omega))] at c10
      simp only [decide_eq_true_eq, decide_eq_false_iff_not, Decidable.not_not] at c10
      show xEx G0 cdX12_uses (some .int) (xRn G0 MT (d + 4)) Q b 11 [some (.inr (.inr 66)), some (.inl 1), some (.inl k), some (.inl p)] [.inr (.inr 66)] h
      refine E_s 5 (i' := 17) (ls' := [some (.inr (.inr 66)), some (.inl 1), some (.inl k), some (.inl p)]) (sk' := [.inl 2]) (h' := (xup h 66 0 2)) rfl ?_
      refine E_b (x := (.ifCond .le 5, 20, [], [])) rfl rfl (fun c17 => ?_) (fun c17 => ?_)
      · show xEx G0 cdX12_uses (some .int) (xRn G0 MT (d + 4)) Q b 20 [some (.inr (.inr 66)), some (.inl 1), some (.inl k), some (.inl p)] [] (xup h 66 0 2)
        exact absurd c17 (by decide)
      · show xEx G0 cdX12_uses (some .int) (xRn G0 MT (d + 4)) Q b 18 [some (.inr (.inr 66)), some (.inl 1), some (.inl k), some (.inl p)] [] (xup h 66 0 2)
        refine E_s 1 (i' := 19) (ls' := [some (.inr (.inr 66)), some (.inl 1), some (.inl k), some (.inl p)]) (sk' := [.inl 0]) (h' := (xup h 66 0 2)) rfl ?_
        exact E_ret (x := (.ireturn, 0, [], [])) (v := some (.inl 0)) rfl (Or.inl rfl) (hA (o1 q1 (by omega)) (o0 q2 (by omega)))
  · rw [c_ne (by first | assumption | (refine ⟨?_, ?_⟩ <;> omega) | (simp only [xr] at *; omega)) (by first | assumption | (refine ⟨?_, ?_⟩ <;> omega) | (simp only [xr] at *; omega))] at c5
    simp only [decide_eq_true_eq, decide_eq_false_iff_not, Decidable.not_not] at c5
    show xEx G0 cdX12_uses (some .int) (xRn G0 MT (d + 4)) Q b 6 [some (.inr (.inr 66)), some (.inl 1), some (.inl k), some (.inl p)] [.inr (.inr 66)] h
    refine E_s 5 (i' := 17) (ls' := [some (.inr (.inr 66)), some (.inl 1), some (.inl k), some (.inl p)]) (sk' := [.inl 1]) (h' := (xup h 66 0 1)) rfl ?_
    refine E_b (x := (.ifCond .le 5, 20, [], [])) rfl rfl (fun c17 => ?_) (fun c17 => ?_)
    · show xEx G0 cdX12_uses (some .int) (xRn G0 MT (d + 4)) Q b 20 [some (.inr (.inr 66)), some (.inl 1), some (.inl k), some (.inl p)] [] (xup h 66 0 1)
      exact absurd c17 (by decide)
    · show xEx G0 cdX12_uses (some .int) (xRn G0 MT (d + 4)) Q b 18 [some (.inr (.inr 66)), some (.inl 1), some (.inl k), some (.inl p)] [] (xup h 66 0 1)
      refine E_s 1 (i' := 19) (ls' := [some (.inr (.inr 66)), some (.inl 1), some (.inl k), some (.inl p)]) (sk' := [.inl 0]) (h' := (xup h 66 0 1)) rfl ?_
      exact E_ret (x := (.ireturn, 0, [], [])) (v := some (.inl 0)) rfl (Or.inl rfl) (hN (o0 q1 (by omega)))
set_option maxHeartbeats 1000000 in
theorem CO_uses0 (d : Nat) {h : xH} (hI : Inv h) (k p : Int) (hk : xr k) (hp : xr p) : CO (d + 6) 2 115 222 [.inl 0, .inl k, .inl p] ["java/util/NoSuchElementException", "java/lang/IllegalArgumentException"] h := by
  obtain ⟨b0, b1, -, -, -, -, -, -, b9⟩ := Inv_e hI
  obtain ⟨S, T, ci, ri⟩ := Inv_i.mp hI
  obtain ⟨v1, v2, v3, v4, v5, v6⟩ := EV_ci ci
  have b8 : 0 ≤ h 66 8 ∧ h 66 8 ≤ 300 := by rw [b1]; exact b0
  have cc : (0 ≤ k ∧ k < h 66 8) ↔ (0 ≤ k ∧ k < h 9 9) := by rw [b1]
  have fm : ∀ u, FM h (xup h 112 0 u) := fun u => (FM.rf h).up (Or.inl (by unfold scr; decide))
  have ww : ∀ u, RR (xup h 112 0 u) S ∧ RRT (xup h 112 0 u) T := fun u => RI_rr (FM_RI v3.2 v6.2 (fm u) ri)
  refine o_uses0 (d + 1) h k p hk hp b0 (fun q u => ?_) (fun q q2 u => ?_) (fun q q2 u => ?_)
  · exact m_uses0 (d + 1) 0 (xup h 112 0 u) S T k p (h 1 2) (h 6) hk hp (ww u).1 (ww u).2 v2 v5 v3 v6 b8 (fun _ => CO_x hI 0 rfl u 0) (fun z9 => absurd (cc.mp z9) q) (fun z9 => absurd (cc.mp z9) q)
  · exact m_uses0 (d + 1) 0 (xup h 112 0 u) S T k p (h 1 2) (h 6) hk hp (ww u).1 (ww u).2 v2 v5 v3 v6 b8 (fun z9 => absurd (cc.mpr q) z9) (fun _ _ => CO_x hI 1 rfl u 0) (fun _ z9 => absurd z9 q2)
  · refine m_uses0 (d + 1) 0 (xup h 112 0 u) S T k p (h 1 2) (h 6) hk hp (ww u).1 (ww u).2 v2 v5 v3 v6 b8 (fun z9 => absurd (cc.mpr q) z9) (fun _ z9 => absurd q2 z9) (fun _ _ h2 f2 => CO_f hI (((fm u).up (Or.inr ⟨rfl, by unfold mdf; decide⟩)).tr (FM_st f2)) (by rw [f2 _ (by decide) (by decide)]; rfl) (by rw [f2 _ (by decide) (by decide)]; rfl) ?_)
    rw [(v1.2.2.2.2.2.1 k q.1 (by rw [← v1.1]; exact q.2)).2.2.2.2.2.2.1]
set_option maxHeartbeats 1000000 in
theorem CO_uses1 (d : Nat) {h : xH} (hI : Inv h) (k p : Int) (hk : xr k) (hp : xr p) : CO (d + 6) 2 115 222 [.inl 1, .inl k, .inl p] ["java/util/NoSuchElementException", "java/lang/IllegalArgumentException"] h := by
  obtain ⟨b0, b1, -, -, -, -, -, -, b9⟩ := Inv_t hI
  obtain ⟨S, T, ci, ri⟩ := Inv_i.mp hI
  obtain ⟨v1, v2, v3, v4, v5, v6⟩ := EV_ci ci
  have b8 : 0 ≤ h 66 19 ∧ h 66 19 ≤ 150 := by rw [b1]; exact b0
  have cc : (0 ≤ k ∧ k < h 66 19) ↔ (0 ≤ k ∧ k < h 28 9) := by rw [b1]
  have fm : ∀ u, FM h (xup h 112 0 u) := fun u => (FM.rf h).up (Or.inl (by unfold scr; decide))
  have ww : ∀ u, RR (xup h 112 0 u) S ∧ RRT (xup h 112 0 u) T := fun u => RI_rr (FM_RI v3.2 v6.2 (fm u) ri)
  refine o_uses1 (d + 1) h k p hk hp b0 (fun q u => ?_) (fun q q2 u => ?_) (fun q q2 u => ?_)
  · exact m_uses1 (d + 1) 0 (xup h 112 0 u) S T k p (h 1 2) (h 6) hk hp (ww u).1 (ww u).2 v2 v5 v3 v6 b8 (fun _ => CO_x hI 0 rfl u 0) (fun z9 => absurd (cc.mp z9) q) (fun z9 => absurd (cc.mp z9) q)
  · exact m_uses1 (d + 1) 0 (xup h 112 0 u) S T k p (h 1 2) (h 6) hk hp (ww u).1 (ww u).2 v2 v5 v3 v6 b8 (fun z9 => absurd (cc.mpr q) z9) (fun _ _ => CO_x hI 1 rfl u 0) (fun _ z9 => absurd z9 q2)
  · refine m_uses1 (d + 1) 0 (xup h 112 0 u) S T k p (h 1 2) (h 6) hk hp (ww u).1 (ww u).2 v2 v5 v3 v6 b8 (fun z9 => absurd (cc.mpr q) z9) (fun _ z9 => absurd q2 z9) (fun _ _ h2 f2 => CO_f hI (((fm u).up (Or.inr ⟨rfl, by unfold mdf; decide⟩)).tr (FM_st f2)) (by rw [f2 _ (by decide) (by decide)]; rfl) (by rw [f2 _ (by decide) (by decide)]; rfl) ?_)
    rw [(v4.2.2.2.2.2.2.1 k q.1 (by rw [← v4.1]; exact q.2)).2.2.2.2.2.2.1]
