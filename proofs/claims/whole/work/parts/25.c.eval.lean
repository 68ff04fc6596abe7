def pX (x y z : Int) : Int → Int := fun i => if i = 0 then x else if i = 1 then y else z
theorem pX_r {x y z : Int} (hx : xr x) (hy : xr y) (hz : xr z) : ∀ i, 0 ≤ i → i ≤ 2 → xr (pX x y z i) := fun i _ _ => by
  unfold pX
  split
  · exact hx
  · split
    · exact hy
    · exact hz
set_option maxHeartbeats 1000000 in
theorem m_valueOf (d b : Nat) (h S : xH) (k x y z c1 c2 c3 : Int) (hx : xr x) (hy : xr y) (hz : xr z) (hk : 0 ≤ k ∧ k ≤ 300) (e1 : h 69 k = c1) (e2 : h 70 k = c2) (e3 : h 71 k = oth c1 c3) (ch : (c1 = 10 ∧ 0 ≤ c2 ∧ c2 ≤ 2) ∨ (c1 = 11 ∧ -99 ≤ c2 ∧ c2 ≤ 99) ∨ (0 ≤ c1 ∧ c1 ≤ 9 ∧ 0 ≤ c2 ∧ c2 < 300 ∧ 0 ≤ c3 ∧ c3 < 300)) (hv2 : c1 ≤ 9 → h 94 c2 = VE S (pX x y z) c2 ∧ xr (VE S (pX x y z) c2)) (hv3 : c1 ≤ 9 → ¬ one c1 → h 94 c3 = VE S (pX x y z) c3 ∧ xr (VE S (pX x y z) c3)) {Q : xO → xH → Prop} (hQ : ∀ v, w32 v = fE S (pX x y z) c1 c2 c3 → Q (.inl (some (.inl v))) h) : xRn G0 MT (d + 3) b 196 [.inr (.inr 66), .inl k, .inl x, .inl y, .inl z] h Q := by
  refine R_of (M := mX12_valueOf) rfl (Nat.le_of_ble_eq_true rfl) ?_
  show xEx G0 cdX12_valueOf (some .int) (xRn G0 MT (d + 2)) Q b 0 [some (.inr (.inr 66)), some (.inl k), some (.inl x), some (.inl y), some (.inl z), none] [] h
  refine E_s 3 (i' := 3) (ls' := [some (.inr (.inr 66)), some (.inl k), some (.inl x), some (.inl y), some (.inl z), none]) (sk' := [.inl k, .inr (.inr 69)]) (h' := h) rfl ?_
  refine E_ld (x := (.iaload, 0, [], [])) (ty := .int) (n := 301) rfl rfl rfl (by omega) (by omega) ?_
  show xEx G0 cdX12_valueOf (some .int) (xRn G0 MT (d + 2)) Q b 4 [some (.inr (.inr 66)), some (.inl k), some (.inl x), some (.inl y), some (.inl z), none] [.inl (h 69 k)] h
  refine E_s 3 (i' := 7) (ls' := [some (.inr (.inr 66)), some (.inl k), some (.inl x), some (.inl y), some (.inl z), some (.inl (h 69 k))]) (sk' := [.inl 10, .inl (h 69 k)]) (h' := h) rfl ?_
  refine E_b (x := (.if_icmp .ne 33, 25, [], [])) rfl rfl (fun c7 => ?_) (fun c7 => ?_)
  · rw [c_ne (by first | assumption | (refine ⟨?_, ?_⟩ <;> omega) | (simp only [xr] at *; omega)) (by first | assumption | (refine ⟨?_, ?_⟩ <;> omega) | (simp only [xr] at *; omega))] at c7
    simp only [decide_eq_true_eq, decide_eq_false_iff_not, Decidable.not_not] at c7
    show xEx G0 cdX12_valueOf (some .int) (xRn G0 MT (d + 2)) Q b 25 [some (.inr (.inr 66)), some (.inl k), some (.inl x), some (.inl y), some (.inl z), some (.inl (h 69 k))] [] h
    refine E_s 2 (i' := 27) (ls' := [some (.inr (.inr 66)), some (.inl k), some (.inl x), some (.inl y), some (.inl z), some (.inl (h 69 k))]) (sk' := [.inl 11, .inl (h 69 k)]) (h' := h) rfl ?_
    refine E_b (x := (.if_icmp .ne 12, 33, [], [])) rfl rfl (fun c27 => ?_) (fun c27 => ?_)
    · rw [c_ne (by first | assumption | (refine ⟨?_, ?_⟩ <;> omega) | (simp only [xr] at *; omega)) (by first | assumption | (refine ⟨?_, ?_⟩ <;> omega) | (simp only [xr] at *; omega))] at c27
      simp only [decide_eq_true_eq, decide_eq_false_iff_not, Decidable.not_not] at c27
      show xEx G0 cdX12_valueOf (some .int) (xRn G0 MT (d + 2)) Q b 33 [some (.inr (.inr 66)), some (.inl k), some (.inl x), some (.inl y), some (.inl z), some (.inl (h 69 k))] [] h
      refine E_s 6 (i' := 39) (ls' := [some (.inr (.inr 66)), some (.inl k), some (.inl x), some (.inl y), some (.inl z), some (.inl (h 69 k))]) (sk' := [.inl k, .inr (.inr 70), .inr (.inr 94), .inl (h 69 k)]) (h' := h) rfl ?_
      refine E_ld (x := (.iaload, 0, [], [])) (ty := .int) (n := 301) rfl rfl rfl (by omega) (by omega) ?_
      show xEx G0 cdX12_valueOf (some .int) (xRn G0 MT (d + 2)) Q b 40 [some (.inr (.inr 66)), some (.inl k), some (.inl x), some (.inl y), some (.inl z), some (.inl (h 69 k))] [.inl (h 70 k), .inr (.inr 94), .inl (h 69 k)] h
      refine E_ld (x := (.iaload, 0, [], [])) (ty := .int) (n := 300) rfl rfl rfl (by omega) (by omega) ?_
      show xEx G0 cdX12_valueOf (some .int) (xRn G0 MT (d + 2)) Q b 41 [some (.inr (.inr 66)), some (.inl k), some (.inl x), some (.inl y), some (.inl z), some (.inl (h 69 k))] [.inl (h 94 (h 70 k)), .inl (h 69 k)] h
      refine E_s 3 (i' := 44) (ls' := [some (.inr (.inr 66)), some (.inl k), some (.inl x), some (.inl y), some (.inl z), some (.inl (h 69 k))]) (sk' := [.inl k, .inr (.inr 71), .inl (h 94 (h 70 k)), .inl (h 69 k)]) (h' := h) rfl ?_
      refine E_ld (x := (.iaload, 0, [], [])) (ty := .int) (n := 301) rfl rfl rfl (by omega) (by omega) ?_
      show xEx G0 cdX12_valueOf (some .int) (xRn G0 MT (d + 2)) Q b 45 [some (.inr (.inr 66)), some (.inl k), some (.inl x), some (.inl y), some (.inl z), some (.inl (h 69 k))] [.inl (h 71 k), .inl (h 94 (h 70 k)), .inl (h 69 k)] h
      refine E_s 1 (i' := 46) (ls' := [some (.inr (.inr 66)), some (.inl k), some (.inl x), some (.inl y), some (.inl z), some (.inl (h 69 k))]) (sk' := [.inl (-1), .inl (h 71 k), .inl (h 94 (h 70 k)), .inl (h 69 k)]) (h' := h) rfl ?_
      refine E_b (x := (.if_icmp .ne 7, 49, [], [])) rfl rfl (fun c46 => ?_) (fun c46 => ?_)
      · rw [c_ne (by first | exact ⟨by omega, by omega⟩ | (rw [e3]; unfold oth; split <;> exact ⟨by omega, by omega⟩)) (by first | exact ⟨by omega, by omega⟩ | (rw [e3]; unfold oth; split <;> exact ⟨by omega, by omega⟩))] at c46
        simp only [decide_eq_true_eq, decide_eq_false_iff_not, Decidable.not_not] at c46
        show xEx G0 cdX12_valueOf (some .int) (xRn G0 MT (d + 2)) Q b 49 [some (.inr (.inr 66)), some (.inl k), some (.inl x), some (.inl y), some (.inl z), some (.inl (h 69 k))] [.inl (h 94 (h 70 k)), .inl (h 69 k)] h
        have hno : ¬ one c1 := by
          intro z9
          rw [e3] at c46
          unfold oth at c46
          rw [if_pos (by omega)] at c46
          exact c46 rfl
        have ho3 : oth c1 c3 = c3 := by
          unfold oth
          rw [if_neg (by omega)]
        refine E_s 5 (i' := 54) (ls' := [some (.inr (.inr 66)), some (.inl k), some (.inl x), some (.inl y), some (.inl z), some (.inl (h 69 k))]) (sk' := [.inl k, .inr (.inr 71), .inr (.inr 94), .inl (h 94 (h 70 k)), .inl (h 69 k)]) (h' := h) rfl ?_
        refine E_ld (x := (.iaload, 0, [], [])) (ty := .int) (n := 301) rfl rfl rfl (by omega) (by omega) ?_
        show xEx G0 cdX12_valueOf (some .int) (xRn G0 MT (d + 2)) Q b 55 [some (.inr (.inr 66)), some (.inl k), some (.inl x), some (.inl y), some (.inl z), some (.inl (h 69 k))] [.inl (h 71 k), .inr (.inr 94), .inl (h 94 (h 70 k)), .inl (h 69 k)] h
        refine E_ld (x := (.iaload, 0, [], [])) (ty := .int) (n := 300) rfl rfl rfl (by rw [e3, ho3]; omega) (by rw [e3, ho3]; omega) ?_
        show xEx G0 cdX12_valueOf (some .int) (xRn G0 MT (d + 2)) Q b 56 [some (.inr (.inr 66)), some (.inl k), some (.inl x), some (.inl y), some (.inl z), some (.inl (h 69 k))] [.inl (h 94 (h 71 k)), .inl (h 94 (h 70 k)), .inl (h 69 k)] h
        have hp9 : 0 ≤ c1 ∧ c1 ≤ 9 := by omega
        obtain ⟨v2, w2⟩ := hv2 hp9.2
        have ra : xr (h 94 (h 70 k)) := by rw [e2, v2]; exact w2
        obtain ⟨v3, w3⟩ := hv3 hp9.2 hno
        have e3 : h 71 k = c3 := by rw [e3]; exact ho3
        have rb : xr (h 94 (h 71 k)) := by rw [e3, v3]; exact w3
        refine E_cp (x := (.invokestatic 238, 3, [(0, 173)], [])) (q := fun r h9 => w32 r = ap (h 69 k) (h 94 (h 70 k)) (h 94 (h 71 k)) ∧ h = h9) rfl rfl (Nat.le_of_ble_eq_true rfl) (c_does d 0 h (h 69 k) (h 94 (h 70 k)) (h 94 (h 71 k)) (by rw [e1]; exact hp9) ra rb (fun v hv => ⟨v, rfl, hv, rfl⟩)) (fun r3 h9 hv3r => ?_)
        obtain ⟨hv3r, rfl⟩ := hv3r
        show xEx G0 cdX12_valueOf (some .int) (xRn G0 MT (d + 2)) Q b 57 [some (.inr (.inr 66)), some (.inl k), some (.inl x), some (.inl y), some (.inl z), some (.inl (h 69 k))] [.inl r3] h
        exact E_ret (x := (.ireturn, 0, [], [])) (v := some (.inl r3)) rfl (Or.inl rfl) (hQ _ (by unfold fE; rw [hv3r, if_neg (by omega), if_neg (by omega), e1, e2, v2, if_neg hno, e3, v3]))
      · rw [c_ne (by first | exact ⟨by omega, by omega⟩ | (rw [e3]; unfold oth; split <;> exact ⟨by omega, by omega⟩)) (by first | exact ⟨by omega, by omega⟩ | (rw [e3]; unfold oth; split <;> exact ⟨by omega, by omega⟩))] at c46
        simp only [decide_eq_true_eq, decide_eq_false_iff_not, Decidable.not_not] at c46
        show xEx G0 cdX12_valueOf (some .int) (xRn G0 MT (d + 2)) Q b 47 [some (.inr (.inr 66)), some (.inl k), some (.inl x), some (.inl y), some (.inl z), some (.inl (h 69 k))] [.inl (h 94 (h 70 k)), .inl (h 69 k)] h
        have hone : one c1 := by
          rw [e3] at c46
          unfold oth at c46
          split at c46
          · omega
          · omega
        refine E_s 2 (i' := 56) (ls' := [some (.inr (.inr 66)), some (.inl k), some (.inl x), some (.inl y), some (.inl z), some (.inl (h 69 k))]) (sk' := [.inl 0, .inl (h 94 (h 70 k)), .inl (h 69 k)]) (h' := h) rfl ?_
        have hp9 : 0 ≤ c1 ∧ c1 ≤ 9 := by omega
        obtain ⟨v2, w2⟩ := hv2 hp9.2
        have ra : xr (h 94 (h 70 k)) := by rw [e2, v2]; exact w2
        have rb : xr (0 : Int) := ⟨by decide, by decide⟩
        refine E_cp (x := (.invokestatic 238, 3, [(0, 173)], [])) (q := fun r h9 => w32 r = ap (h 69 k) (h 94 (h 70 k)) 0 ∧ h = h9) rfl rfl (Nat.le_of_ble_eq_true rfl) (c_does d 0 h (h 69 k) (h 94 (h 70 k)) 0 (by rw [e1]; exact hp9) ra rb (fun v hv => ⟨v, rfl, hv, rfl⟩)) (fun r3 h9 hv3r => ?_)
        obtain ⟨hv3r, rfl⟩ := hv3r
        show xEx G0 cdX12_valueOf (some .int) (xRn G0 MT (d + 2)) Q b 57 [some (.inr (.inr 66)), some (.inl k), some (.inl x), some (.inl y), some (.inl z), some (.inl (h 69 k))] [.inl r3] h
        exact E_ret (x := (.ireturn, 0, [], [])) (v := some (.inl r3)) rfl (Or.inl rfl) (hQ _ (by unfold fE; rw [hv3r, if_neg (by omega), if_neg (by omega), e1, e2, v2, if_pos hone]))
    · rw [c_ne (by first | assumption | (refine ⟨?_, ?_⟩ <;> omega) | (simp only [xr] at *; omega)) (by first | assumption | (refine ⟨?_, ?_⟩ <;> omega) | (simp only [xr] at *; omega))] at c27
      simp only [decide_eq_true_eq, decide_eq_false_iff_not, Decidable.not_not] at c27
      show xEx G0 cdX12_valueOf (some .int) (xRn G0 MT (d + 2)) Q b 28 [some (.inr (.inr 66)), some (.inl k), some (.inl x), some (.inl y), some (.inl z), some (.inl (h 69 k))] [] h
      refine E_s 3 (i' := 31) (ls' := [some (.inr (.inr 66)), some (.inl k), some (.inl x), some (.inl y), some (.inl z), some (.inl (h 69 k))]) (sk' := [.inl k, .inr (.inr 70)]) (h' := h) rfl ?_
      refine E_ld (x := (.iaload, 0, [], [])) (ty := .int) (n := 301) rfl rfl rfl (by omega) (by omega) ?_
      show xEx G0 cdX12_valueOf (some .int) (xRn G0 MT (d + 2)) Q b 32 [some (.inr (.inr 66)), some (.inl k), some (.inl x), some (.inl y), some (.inl z), some (.inl (h 69 k))] [.inl (h 70 k)] h
      refine E_s 1 (i' := 57) (ls' := [some (.inr (.inr 66)), some (.inl k), some (.inl x), some (.inl y), some (.inl z), some (.inl (h 69 k))]) (sk' := [.inl (h 70 k)]) (h' := h) rfl ?_
      exact E_ret (x := (.ireturn, 0, [], [])) (v := some (.inl (h 70 k))) rfl (Or.inl rfl) (hQ _ (by unfold fE; rw [if_neg (by omega), if_pos (by omega), e2]; exact w32_id ⟨by omega, by omega⟩))
  · rw [c_ne (by first | assumption | (refine ⟨?_, ?_⟩ <;> omega) | (simp only [xr] at *; omega)) (by first | assumption | (refine ⟨?_, ?_⟩ <;> omega) | (simp only [xr] at *; omega))] at c7
    simp only [decide_eq_true_eq, decide_eq_false_iff_not, Decidable.not_not] at c7
    show xEx G0 cdX12_valueOf (some .int) (xRn G0 MT (d + 2)) Q b 8 [some (.inr (.inr 66)), some (.inl k), some (.inl x), some (.inl y), some (.inl z), some (.inl (h 69 k))] [] h
    refine E_s 3 (i' := 11) (ls' := [some (.inr (.inr 66)), some (.inl k), some (.inl x), some (.inl y), some (.inl z), some (.inl (h 69 k))]) (sk' := [.inl k, .inr (.inr 70)]) (h' := h) rfl ?_
    refine E_ld (x := (.iaload, 0, [], [])) (ty := .int) (n := 301) rfl rfl rfl (by omega) (by omega) ?_
    show xEx G0 cdX12_valueOf (some .int) (xRn G0 MT (d + 2)) Q b 12 [some (.inr (.inr 66)), some (.inl k), some (.inl x), some (.inl y), some (.inl z), some (.inl (h 69 k))] [.inl (h 70 k)] h
    refine E_b (x := (.ifCond .ne 7, 15, [], [])) rfl rfl (fun c12 => ?_) (fun c12 => ?_)
    · rw [c_ne (by first | assumption | (refine ⟨?_, ?_⟩ <;> omega) | (simp only [xr] at *; omega)) (by first | assumption | (refine ⟨?_, ?_⟩ <;> omega) | (simp only [xr] at *; omega))] at c12
      simp only [decide_eq_true_eq, decide_eq_false_iff_not, Decidable.not_not] at c12
      show xEx G0 cdX12_valueOf (some .int) (xRn G0 MT (d + 2)) Q b 15 [some (.inr (.inr 66)), some (.inl k), some (.inl x), some (.inl y), some (.inl z), some (.inl (h 69 k))] [] h
      refine E_s 3 (i' := 18) (ls' := [some (.inr (.inr 66)), some (.inl k), some (.inl x), some (.inl y), some (.inl z), some (.inl (h 69 k))]) (sk' := [.inl k, .inr (.inr 70)]) (h' := h) rfl ?_
      refine E_ld (x := (.iaload, 0, [], [])) (ty := .int) (n := 301) rfl rfl rfl (by omega) (by omega) ?_
      show xEx G0 cdX12_valueOf (some .int) (xRn G0 MT (d + 2)) Q b 19 [some (.inr (.inr 66)), some (.inl k), some (.inl x), some (.inl y), some (.inl z), some (.inl (h 69 k))] [.inl (h 70 k)] h
      refine E_s 1 (i' := 20) (ls' := [some (.inr (.inr 66)), some (.inl k), some (.inl x), some (.inl y), some (.inl z), some (.inl (h 69 k))]) (sk' := [.inl 1, .inl (h 70 k)]) (h' := h) rfl ?_
      refine E_b (x := (.if_icmp .ne 7, 23, [], [])) rfl rfl (fun c20 => ?_) (fun c20 => ?_)
      · rw [c_ne (by first | assumption | (refine ⟨?_, ?_⟩ <;> omega) | (simp only [xr] at *; omega)) (by first | assumption | (refine ⟨?_, ?_⟩ <;> omega) | (simp only [xr] at *; omega))] at c20
        simp only [decide_eq_true_eq, decide_eq_false_iff_not, Decidable.not_not] at c20
        show xEx G0 cdX12_valueOf (some .int) (xRn G0 MT (d + 2)) Q b 23 [some (.inr (.inr 66)), some (.inl k), some (.inl x), some (.inl y), some (.inl z), some (.inl (h 69 k))] [] h
        refine E_s 1 (i' := 24) (ls' := [some (.inr (.inr 66)), some (.inl k), some (.inl x), some (.inl y), some (.inl z), some (.inl (h 69 k))]) (sk' := [.inl z]) (h' := h) rfl ?_
        exact E_ret (x := (.ireturn, 0, [], [])) (v := some (.inl z)) rfl (Or.inl rfl) (hQ _ (by unfold fE; rw [if_pos (by omega)]; unfold pX; rw [if_neg (by omega), if_neg (by omega)]; exact w32_id (by assumption)))
      · rw [c_ne (by first | assumption | (refine ⟨?_, ?_⟩ <;> omega) | (simp only [xr] at *; omega)) (by first | assumption | (refine ⟨?_, ?_⟩ <;> omega) | (simp only [xr] at *; omega))] at c20
        simp only [decide_eq_true_eq, decide_eq_false_iff_not, Decidable.not_not] at c20
        show xEx G0 cdX12_valueOf (some .int) (xRn G0 MT (d + 2)) Q b 21 [some (.inr (.inr 66)), some (.inl k), some (.inl x), some (.inl y), some (.inl z), some (.inl (h 69 k))] [] h
        refine E_s 2 (i' := 24) (ls' := [some (.inr (.inr 66)), some (.inl k), some (.inl x), some (.inl y), some (.inl z), some (.inl (h 69 k))]) (sk' := [.inl y]) (h' := h) rfl ?_
        exact E_ret (x := (.ireturn, 0, [], [])) (v := some (.inl y)) rfl (Or.inl rfl) (hQ _ (by unfold fE; rw [if_pos (by omega)]; unfold pX; rw [if_neg (by omega), if_pos (by omega)]; exact w32_id (by assumption)))
    · rw [c_ne (by first | assumption | (refine ⟨?_, ?_⟩ <;> omega) | (simp only [xr] at *; omega)) (by first | assumption | (refine ⟨?_, ?_⟩ <;> omega) | (simp only [xr] at *; omega))] at c12
      simp only [decide_eq_true_eq, decide_eq_false_iff_not, Decidable.not_not] at c12
      show xEx G0 cdX12_valueOf (some .int) (xRn G0 MT (d + 2)) Q b 13 [some (.inr (.inr 66)), some (.inl k), some (.inl x), some (.inl y), some (.inl z), some (.inl (h 69 k))] [] h
      refine E_s 2 (i' := 24) (ls' := [some (.inr (.inr 66)), some (.inl k), some (.inl x), some (.inl y), some (.inl z), some (.inl (h 69 k))]) (sk' := [.inl x]) (h' := h) rfl ?_
      exact E_ret (x := (.ireturn, 0, [], [])) (v := some (.inl x)) rfl (Or.inl rfl) (hQ _ (by unfold fE; rw [if_pos (by omega)]; unfold pX; rw [if_pos (by omega)]; exact w32_id (by assumption)))
