theorem mul9 {a b : Int} (_h0 : 0 ≤ a) (h1 : a ≤ 1000000000) (h2 : 0 ≤ b) (h3 : b ≤ 1000000000) : a * b ≤ 1000000000000000000 := by
  have := Int.mul_le_mul h1 h3 h2 (by decide)
  omega
set_option maxHeartbeats 1000000 in
theorem c_wy0 (d b : Nat) (h S T : xH) (set : Int) (m : Nat) (hV : SVF h S T (-1) m) (hM : SVM h S T (-1) m) (hW : SVW h S T (-1) m) (hb : h 44 10 = -1) (hK : h 9 9 = S 0 0) (hs : ir m set) {Q : xO → xH → Prop} (hQ : ∀ h', FY h h' → SVM h' S T (-1) m → SVW h' S T (-1) m → Q (.inl (some (.inl (wyf S T (S 0 0) (T 0 0) 0 set)))) h') : xRn G0 MT (d + 4) b 68 [.inr (.inr 44), .inl set, .inl 0] h Q := by
  refine R_of (M := mX7_waysOf) rfl (Nat.le_of_ble_eq_true rfl) ?_
  show xEx G0 cdX7_waysOf (some .int) (xRn G0 MT (d + 3)) Q b 0 [some (.inr (.inr 44)), some (.inl set), some (.inl 0), none, none, none, none, none, none, none, none] [] h
  have r4 := ir4 hV.1.1 hs
  refine E_s 3 (i' := 3) (ls' := [some (.inr (.inr 44)), some (.inl set), some (.inl 0), none, none, none, none, none, none, none, none]) (sk' := [.inl 0, .inl set, .inr (.inr 44)]) (h' := h) rfl ?_
  refine E_ci (x := (.invokevirtual 99, 2, [(5, 63)], [0])) (r := (szf S T (S 0 0) (T 0 0) (-1) 0 set)) (h' := h) rfl rfl (Nat.le_of_ble_eq_true rfl) (c_szO0 (d + 2) 0 h S T (-1) set m hV hM hs ⟨rfl, rfl⟩) ?_
  show xEx G0 cdX7_waysOf (some .int) (xRn G0 MT (d + 3)) Q b 4 [some (.inr (.inr 44)), some (.inl set), some (.inl 0), none, none, none, none, none, none, none, none] [.inl (szf S T (S 0 0) (T 0 0) (-1) 0 set)] h
  have f1 : FZ h h := FZ.rf h
  have m1 := hM
  have V1 := SVF_z f1 hV
  have W1 := SVW_z f1 hW
  have zr := szf_r (p := -1) hV.1 0 set
  have so1 : h 44 = h 44 := f1 _ (by decide) (by decide)
  have ge1 : h 9 = h 9 := f1 _ (by decide) (by decide)
  have e0 : h 48 set = sz0 S (S 0 0) (-1) set := (V1.2.2.2.1 set hs).2
  have z0 := sz0_r (p := -1) hV.1 set
  have wr := wyf_r hV.1 0 set
  have cr := cnf_r (S := S) (set := set) (z := (szf S T (S 0 0) (T 0 0) (-1) 0 set)) (S 0 0).toNat
  have kk := hV.1.2.1
  have w9 := W1 set hs
  refine E_s 3 (i' := 7) (ls' := [some (.inr (.inr 44)), some (.inl set), some (.inl 0), some (.inl (szf S T (S 0 0) (T 0 0) (-1) 0 set)), none, none, none, none, none, none, none]) (sk' := [.inl 1000000, .inl (szf S T (S 0 0) (T 0 0) (-1) 0 set)]) (h' := h) rfl ?_
  refine E_b (x := (.if_icmp .ne 5, 10, [], [])) rfl rfl (fun c7 => ?_) (fun c7 => ?_)
  · rw [c_ne (by first | assumption | (refine ⟨?_, ?_⟩ <;> omega) | (simp only [xr] at *; omega)) (by first | assumption | (refine ⟨?_, ?_⟩ <;> omega) | (simp only [xr] at *; omega))] at c7
    simp only [decide_eq_true_eq, decide_eq_false_iff_not, Decidable.not_not] at c7
    show xEx G0 cdX7_waysOf (some .int) (xRn G0 MT (d + 3)) Q b 10 [some (.inr (.inr 44)), some (.inl set), some (.inl 0), some (.inl (szf S T (S 0 0) (T 0 0) (-1) 0 set)), none, none, none, none, none, none, none] [] h
    have zl : (szf S T (S 0 0) (T 0 0) (-1) 0 set) < 1000000 := by omega
    refine E_s 2 (i' := 12) (ls' := [some (.inr (.inr 44)), some (.inl set), some (.inl 0), some (.inl (szf S T (S 0 0) (T 0 0) (-1) 0 set)), none, none, none, none, none, none, none]) (sk' := [.inl 2, .inl 0]) (h' := h) rfl ?_
    refine E_b (x := (.if_icmp .gt 7, 15, [], [])) rfl rfl (fun c12 => ?_) (fun c12 => ?_)
    · show xEx G0 cdX7_waysOf (some .int) (xRn G0 MT (d + 3)) Q b 15 [some (.inr (.inr 44)), some (.inl set), some (.inl 0), some (.inl (szf S T (S 0 0) (T 0 0) (-1) 0 set)), none, none, none, none, none, none, none] [] h
      exact absurd c12 (by decide)
    · show xEx G0 cdX7_waysOf (some .int) (xRn G0 MT (d + 3)) Q b 13 [some (.inr (.inr 44)), some (.inl set), some (.inl 0), some (.inl (szf S T (S 0 0) (T 0 0) (-1) 0 set)), none, none, none, none, none, none, none] [] h
      refine E_s 4 (i' := 18) (ls' := [some (.inr (.inr 44)), some (.inl set), some (.inl 0), some (.inl (szf S T (S 0 0) (T 0 0) (-1) 0 set)), some (.inl 1), none, none, none, none, none, none]) (sk' := [.inl 1]) (h' := h) rfl ?_
      refine E_b (x := (.ifCond .eq 23, 33, [], [])) rfl rfl (fun c18 => ?_) (fun c18 => ?_)
      · show xEx G0 cdX7_waysOf (some .int) (xRn G0 MT (d + 3)) Q b 33 [some (.inr (.inr 44)), some (.inl set), some (.inl 0), some (.inl (szf S T (S 0 0) (T 0 0) (-1) 0 set)), some (.inl 1), none, none, none, none, none, none] [] h
        exact absurd c18 (by decide)
      · show xEx G0 cdX7_waysOf (some .int) (xRn G0 MT (d + 3)) Q b 19 [some (.inr (.inr 44)), some (.inl set), some (.inl 0), some (.inl (szf S T (S 0 0) (T 0 0) (-1) 0 set)), some (.inl 1), none, none, none, none, none, none] [] h
        refine E_s 3 (i' := 22) (ls' := [some (.inr (.inr 44)), some (.inl set), some (.inl 0), some (.inl (szf S T (S 0 0) (T 0 0) (-1) 0 set)), some (.inl 1), none, none, none, none, none, none]) (sk' := [.inl 0, .inr (.inr 47)]) (h' := h) rfl ?_
        refine E_ald (x := (.aaload, 0, [], [])) 0 rfl rfl rfl (rfl) rfl ?_
        show xEx G0 cdX7_waysOf (some .int) (xRn G0 MT (d + 3)) Q b 23 [some (.inr (.inr 44)), some (.inl set), some (.inl 0), some (.inl (szf S T (S 0 0) (T 0 0) (-1) 0 set)), some (.inl 1), none, none, none, none, none, none] [.inr (.inr 51)] h
        refine E_s 1 (i' := 24) (ls' := [some (.inr (.inr 44)), some (.inl set), some (.inl 0), some (.inl (szf S T (S 0 0) (T 0 0) (-1) 0 set)), some (.inl 1), none, none, none, none, none, none]) (sk' := [.inl set, .inr (.inr 51)]) (h' := h) rfl ?_
        refine E_ld (x := (.iaload, 0, [], [])) (ty := .int) (n := 4096) rfl rfl rfl (by omega) (by omega) ?_
        show xEx G0 cdX7_waysOf (some .int) (xRn G0 MT (d + 3)) Q b 25 [some (.inr (.inr 44)), some (.inl set), some (.inl 0), some (.inl (szf S T (S 0 0) (T 0 0) (-1) 0 set)), some (.inl 1), none, none, none, none, none, none] [.inl (h 51 set)] h
        refine E_b (x := (.ifCond .eq 12, 33, [], [])) rfl rfl (fun c25 => ?_) (fun c25 => ?_)
        · rw [c_eq (by first | assumption | (refine ⟨?_, ?_⟩ <;> omega) | (simp only [xr] at *; omega)) (by first | assumption | (refine ⟨?_, ?_⟩ <;> omega) | (simp only [xr] at *; omega))] at c25
          simp only [decide_eq_true_eq, decide_eq_false_iff_not, Decidable.not_not] at c25
          show xEx G0 cdX7_waysOf (some .int) (xRn G0 MT (d + 3)) Q b 33 [some (.inr (.inr 44)), some (.inl set), some (.inl 0), some (.inl (szf S T (S 0 0) (T 0 0) (-1) 0 set)), some (.inl 1), none, none, none, none, none, none] [] h
          refine E_s 4 (i' := 37) (ls' := [some (.inr (.inr 44)), some (.inl set), some (.inl 0), some (.inl (szf S T (S 0 0) (T 0 0) (-1) 0 set)), some (.inl 1), none, none, none, none, none, none]) (sk' := [.inl 0, .inr (.inr 46), .inl (szf S T (S 0 0) (T 0 0) (-1) 0 set)]) (h' := h) rfl ?_
          refine E_ald (x := (.aaload, 0, [], [])) 0 rfl rfl rfl (rfl) rfl ?_
          show xEx G0 cdX7_waysOf (some .int) (xRn G0 MT (d + 3)) Q b 38 [some (.inr (.inr 44)), some (.inl set), some (.inl 0), some (.inl (szf S T (S 0 0) (T 0 0) (-1) 0 set)), some (.inl 1), none, none, none, none, none, none] [.inr (.inr 48), .inl (szf S T (S 0 0) (T 0 0) (-1) 0 set)] h
          refine E_s 1 (i' := 39) (ls' := [some (.inr (.inr 44)), some (.inl set), some (.inl 0), some (.inl (szf S T (S 0 0) (T 0 0) (-1) 0 set)), some (.inl 1), none, none, none, none, none, none]) (sk' := [.inl set, .inr (.inr 48), .inl (szf S T (S 0 0) (T 0 0) (-1) 0 set)]) (h' := h) rfl ?_
          refine E_ld (x := (.iaload, 0, [], [])) (ty := .int) (n := 4096) rfl rfl rfl (by omega) (by omega) ?_
          show xEx G0 cdX7_waysOf (some .int) (xRn G0 MT (d + 3)) Q b 40 [some (.inr (.inr 44)), some (.inl set), some (.inl 0), some (.inl (szf S T (S 0 0) (T 0 0) (-1) 0 set)), some (.inl 1), none, none, none, none, none, none] [.inl (h 48 set), .inl (szf S T (S 0 0) (T 0 0) (-1) 0 set)] h
          refine E_b (x := (.if_icmp .ne 13, 47, [], [])) rfl rfl (fun c40 => ?_) (fun c40 => ?_)
          · rw [c_ne (by first | assumption | (refine ⟨?_, ?_⟩ <;> omega) | (simp only [xr] at *; omega)) (by first | assumption | (refine ⟨?_, ?_⟩ <;> omega) | (simp only [xr] at *; omega))] at c40
            simp only [decide_eq_true_eq, decide_eq_false_iff_not, Decidable.not_not] at c40
            show xEx G0 cdX7_waysOf (some .int) (xRn G0 MT (d + 3)) Q b 47 [some (.inr (.inr 44)), some (.inl set), some (.inl 0), some (.inl (szf S T (S 0 0) (T 0 0) (-1) 0 set)), some (.inl 1), none, none, none, none, none, none] [] h
            refine E_s 5 (i' := 52) (ls' := [some (.inr (.inr 44)), some (.inl set), some (.inl 0), some (.inl (szf S T (S 0 0) (T 0 0) (-1) 0 set)), some (.inl 1), some (.inr (.inl 0)), none, some (.inl 0), none, none, none]) (sk' := [.inl 0]) (h' := h) rfl ?_
            refine E_b (x := (.ifCond .le 113, 114, [], [])) rfl rfl (fun c52 => ?_) (fun c52 => ?_)
            · show xEx G0 cdX7_waysOf (some .int) (xRn G0 MT (d + 3)) Q b 114 [some (.inr (.inr 44)), some (.inl set), some (.inl 0), some (.inl (szf S T (S 0 0) (T 0 0) (-1) 0 set)), some (.inl 1), some (.inr (.inl 0)), none, some (.inl 0), none, none, none] [] h
              have hfin : 0 = (wyf S T (S 0 0) (T 0 0) 0 set) := by
                show _ = (if 1000000 ≤ (szf S T (S 0 0) (T 0 0) (-1) 0 set) then 0 else (cnf S set (szf S T (S 0 0) (T 0 0) (-1) 0 set) (S 0 0).toNat))
                rw [if_neg (by omega)]
                rw [cnf_0 hV.1 (by have : (szf S T (S 0 0) (T 0 0) (-1) 0 set) = sz0 S (S 0 0) (-1) set := rfl; omega)]
              have r4 := ir4 hV.1.1 hs
              refine E_s 1 (i' := 115) (ls' := [some (.inr (.inr 44)), some (.inl set), some (.inl 0), some (.inl (szf S T (S 0 0) (T 0 0) (-1) 0 set)), some (.inl 1), some (.inr (.inl 0)), none, some (.inl 0), none, none, none]) (sk' := [.inl 1]) (h' := h) rfl ?_
              refine E_b (x := (.ifCond .eq 14, 124, [], [])) rfl rfl (fun c115 => ?_) (fun c115 => ?_)
              · show xEx G0 cdX7_waysOf (some .int) (xRn G0 MT (d + 3)) Q b 124 [some (.inr (.inr 44)), some (.inl set), some (.inl 0), some (.inl (szf S T (S 0 0) (T 0 0) (-1) 0 set)), some (.inl 1), some (.inr (.inl 0)), none, some (.inl 0), none, none, none] [] h
                exact absurd c115 (by decide)
              · show xEx G0 cdX7_waysOf (some .int) (xRn G0 MT (d + 3)) Q b 116 [some (.inr (.inr 44)), some (.inl set), some (.inl 0), some (.inl (szf S T (S 0 0) (T 0 0) (-1) 0 set)), some (.inl 1), some (.inr (.inl 0)), none, some (.inl 0), none, none, none] [] h
                refine E_s 3 (i' := 119) (ls' := [some (.inr (.inr 44)), some (.inl set), some (.inl 0), some (.inl (szf S T (S 0 0) (T 0 0) (-1) 0 set)), some (.inl 1), some (.inr (.inl 0)), none, some (.inl 0), none, none, none]) (sk' := [.inl 0, .inr (.inr 47)]) (h' := h) rfl ?_
                refine E_ald (x := (.aaload, 0, [], [])) 0 rfl rfl rfl (rfl) rfl ?_
                show xEx G0 cdX7_waysOf (some .int) (xRn G0 MT (d + 3)) Q b 120 [some (.inr (.inr 44)), some (.inl set), some (.inl 0), some (.inl (szf S T (S 0 0) (T 0 0) (-1) 0 set)), some (.inl 1), some (.inr (.inl 0)), none, some (.inl 0), none, none, none] [.inr (.inr 51)] h
                refine E_s 3 (i' := 123) (ls' := [some (.inr (.inr 44)), some (.inl set), some (.inl 0), some (.inl (szf S T (S 0 0) (T 0 0) (-1) 0 set)), some (.inl 1), some (.inr (.inl 0)), none, some (.inl 0), none, none, none]) (sk' := [.inl 0, .inl set, .inr (.inr 51)]) (h' := h) rfl ?_
                refine E_sd (x := (.iastore, 0, [], [])) (ty := .int) (n := 4096) (y := 0) rfl rfl rfl (by omega) (by omega) (trivial) ?_
                show xEx G0 cdX7_waysOf (some .int) (xRn G0 MT (d + 3)) Q b 124 [some (.inr (.inr 44)), some (.inl set), some (.inl 0), some (.inl (szf S T (S 0 0) (T 0 0) (-1) 0 set)), some (.inl 1), some (.inr (.inl 0)), none, some (.inl 0), none, none, none] [] (xup h 51 set 0)
                refine E_s 2 (i' := 126) (ls' := [some (.inr (.inr 44)), some (.inl set), some (.inl 0), some (.inl (szf S T (S 0 0) (T 0 0) (-1) 0 set)), some (.inl 1), some (.inr (.inl 0)), none, some (.inl 0), none, none, none]) (sk' := [.inl 0]) (h' := (xup h 51 set 0)) rfl ?_
                exact E_ret (x := (.ireturn, 0, [], [])) (v := some (.inl 0)) rfl (Or.inl rfl) (by
                  have r9 := hQ _ ((FZ_y f1).up ⟨by decide, by decide⟩) (SVM_w (by decide) m1) (SVW_0 W1 _ hfin)
                  rw [← hfin] at r9
                  exact r9)
            · show xEx G0 cdX7_waysOf (some .int) (xRn G0 MT (d + 3)) Q b 53 [some (.inr (.inr 44)), some (.inl set), some (.inl 0), some (.inl (szf S T (S 0 0) (T 0 0) (-1) 0 set)), some (.inl 1), some (.inr (.inl 0)), none, some (.inl 0), none, none, none] [] h
              exact absurd c52 (by decide)
          · rw [c_ne (by first | assumption | (refine ⟨?_, ?_⟩ <;> omega) | (simp only [xr] at *; omega)) (by first | assumption | (refine ⟨?_, ?_⟩ <;> omega) | (simp only [xr] at *; omega))] at c40
            simp only [decide_eq_true_eq, decide_eq_false_iff_not, Decidable.not_not] at c40
            show xEx G0 cdX7_waysOf (some .int) (xRn G0 MT (d + 3)) Q b 41 [some (.inr (.inr 44)), some (.inl set), some (.inl 0), some (.inl (szf S T (S 0 0) (T 0 0) (-1) 0 set)), some (.inl 1), none, none, none, none, none, none] [] h
            refine E_s 3 (i' := 44) (ls' := [some (.inr (.inr 44)), some (.inl set), some (.inl 0), some (.inl (szf S T (S 0 0) (T 0 0) (-1) 0 set)), some (.inl 1), none, none, none, none, none, none]) (sk' := [.inl (szf S T (S 0 0) (T 0 0) (-1) 0 set), .inl set, .inr (.inr 44)]) (h' := h) rfl ?_
            have l9 : lf S (S 0 0) (-1) set ≠ -1 := fun y => by
              have : sz0 S (S 0 0) (-1) set = 1000000 := by unfold sz0; rw [if_pos y]
              omega
            have s9 : (szf S T (S 0 0) (T 0 0) (-1) 0 set) = S 4 (lf S (S 0 0) (-1) set) := by
              have : sz0 S (S 0 0) (-1) set = S 4 (lf S (S 0 0) (-1) set) := by unfold sz0; rw [if_neg l9]
              omega
            refine E_ci (x := (.invokevirtual 135, 2, [(5, 69)], [0])) (r := (cnf S set (szf S T (S 0 0) (T 0 0) (-1) 0 set) (S 0 0).toNat)) (h' := h) rfl rfl (Nat.le_of_ble_eq_true rfl) (c_cntF d 0 h S T set (szf S T (S 0 0) (T 0 0) (-1) 0 set) m V1 (by rw [so1]; exact hb) (by rw [ge1]; exact hK) hs l9 s9 ⟨rfl, rfl⟩) ?_
            show xEx G0 cdX7_waysOf (some .int) (xRn G0 MT (d + 3)) Q b 45 [some (.inr (.inr 44)), some (.inl set), some (.inl 0), some (.inl (szf S T (S 0 0) (T 0 0) (-1) 0 set)), some (.inl 1), none, none, none, none, none, none] [.inl (cnf S set (szf S T (S 0 0) (T 0 0) (-1) 0 set) (S 0 0).toNat)] h
            refine E_s 6 (i' := 52) (ls' := [some (.inr (.inr 44)), some (.inl set), some (.inl 0), some (.inl (szf S T (S 0 0) (T 0 0) (-1) 0 set)), some (.inl 1), some (.inr (.inl (w32 (cnf S set (szf S T (S 0 0) (T 0 0) (-1) 0 set) (S 0 0).toNat)))), none, some (.inl 0), none, none, none]) (sk' := [.inl 0]) (h' := h) rfl ?_
            refine E_b (x := (.ifCond .le 113, 114, [], [])) rfl rfl (fun c52 => ?_) (fun c52 => ?_)
            · show xEx G0 cdX7_waysOf (some .int) (xRn G0 MT (d + 3)) Q b 114 [some (.inr (.inr 44)), some (.inl set), some (.inl 0), some (.inl (szf S T (S 0 0) (T 0 0) (-1) 0 set)), some (.inl 1), some (.inr (.inl (w32 (cnf S set (szf S T (S 0 0) (T 0 0) (-1) 0 set) (S 0 0).toNat)))), none, some (.inl 0), none, none, none] [] h
              have hfin : w32 (cnf S set (szf S T (S 0 0) (T 0 0) (-1) 0 set) (S 0 0).toNat) = (wyf S T (S 0 0) (T 0 0) 0 set) := by
                show _ = (if 1000000 ≤ (szf S T (S 0 0) (T 0 0) (-1) 0 set) then 0 else (cnf S set (szf S T (S 0 0) (T 0 0) (-1) 0 set) (S 0 0).toNat))
                rw [if_neg (by omega)]
                exact w32_id ⟨by omega, by omega⟩
              have r4 := ir4 hV.1.1 hs
              refine E_s 1 (i' := 115) (ls' := [some (.inr (.inr 44)), some (.inl set), some (.inl 0), some (.inl (szf S T (S 0 0) (T 0 0) (-1) 0 set)), some (.inl 1), some (.inr (.inl (w32 (cnf S set (szf S T (S 0 0) (T 0 0) (-1) 0 set) (S 0 0).toNat)))), none, some (.inl 0), none, none, none]) (sk' := [.inl 1]) (h' := h) rfl ?_
              refine E_b (x := (.ifCond .eq 14, 124, [], [])) rfl rfl (fun c115 => ?_) (fun c115 => ?_)
              · show xEx G0 cdX7_waysOf (some .int) (xRn G0 MT (d + 3)) Q b 124 [some (.inr (.inr 44)), some (.inl set), some (.inl 0), some (.inl (szf S T (S 0 0) (T 0 0) (-1) 0 set)), some (.inl 1), some (.inr (.inl (w32 (cnf S set (szf S T (S 0 0) (T 0 0) (-1) 0 set) (S 0 0).toNat)))), none, some (.inl 0), none, none, none] [] h
                exact absurd c115 (by decide)
              · show xEx G0 cdX7_waysOf (some .int) (xRn G0 MT (d + 3)) Q b 116 [some (.inr (.inr 44)), some (.inl set), some (.inl 0), some (.inl (szf S T (S 0 0) (T 0 0) (-1) 0 set)), some (.inl 1), some (.inr (.inl (w32 (cnf S set (szf S T (S 0 0) (T 0 0) (-1) 0 set) (S 0 0).toNat)))), none, some (.inl 0), none, none, none] [] h
                refine E_s 3 (i' := 119) (ls' := [some (.inr (.inr 44)), some (.inl set), some (.inl 0), some (.inl (szf S T (S 0 0) (T 0 0) (-1) 0 set)), some (.inl 1), some (.inr (.inl (w32 (cnf S set (szf S T (S 0 0) (T 0 0) (-1) 0 set) (S 0 0).toNat)))), none, some (.inl 0), none, none, none]) (sk' := [.inl 0, .inr (.inr 47)]) (h' := h) rfl ?_
                refine E_ald (x := (.aaload, 0, [], [])) 0 rfl rfl rfl (rfl) rfl ?_
                show xEx G0 cdX7_waysOf (some .int) (xRn G0 MT (d + 3)) Q b 120 [some (.inr (.inr 44)), some (.inl set), some (.inl 0), some (.inl (szf S T (S 0 0) (T 0 0) (-1) 0 set)), some (.inl 1), some (.inr (.inl (w32 (cnf S set (szf S T (S 0 0) (T 0 0) (-1) 0 set) (S 0 0).toNat)))), none, some (.inl 0), none, none, none] [.inr (.inr 51)] h
                refine E_s 3 (i' := 123) (ls' := [some (.inr (.inr 44)), some (.inl set), some (.inl 0), some (.inl (szf S T (S 0 0) (T 0 0) (-1) 0 set)), some (.inl 1), some (.inr (.inl (w32 (cnf S set (szf S T (S 0 0) (T 0 0) (-1) 0 set) (S 0 0).toNat)))), none, some (.inl 0), none, none, none]) (sk' := [.inl (w32 (cnf S set (szf S T (S 0 0) (T 0 0) (-1) 0 set) (S 0 0).toNat)), .inl set, .inr (.inr 51)]) (h' := h) rfl ?_
                refine E_sd (x := (.iastore, 0, [], [])) (ty := .int) (n := 4096) (y := (w32 (cnf S set (szf S T (S 0 0) (T 0 0) (-1) 0 set) (S 0 0).toNat))) rfl rfl rfl (by omega) (by omega) (trivial) ?_
                show xEx G0 cdX7_waysOf (some .int) (xRn G0 MT (d + 3)) Q b 124 [some (.inr (.inr 44)), some (.inl set), some (.inl 0), some (.inl (szf S T (S 0 0) (T 0 0) (-1) 0 set)), some (.inl 1), some (.inr (.inl (w32 (cnf S set (szf S T (S 0 0) (T 0 0) (-1) 0 set) (S 0 0).toNat)))), none, some (.inl 0), none, none, none] [] (xup h 51 set (w32 (cnf S set (szf S T (S 0 0) (T 0 0) (-1) 0 set) (S 0 0).toNat)))
                refine E_s 2 (i' := 126) (ls' := [some (.inr (.inr 44)), some (.inl set), some (.inl 0), some (.inl (szf S T (S 0 0) (T 0 0) (-1) 0 set)), some (.inl 1), some (.inr (.inl (w32 (cnf S set (szf S T (S 0 0) (T 0 0) (-1) 0 set) (S 0 0).toNat)))), none, some (.inl 0), none, none, none]) (sk' := [.inl (w32 (cnf S set (szf S T (S 0 0) (T 0 0) (-1) 0 set) (S 0 0).toNat))]) (h' := (xup h 51 set (w32 (cnf S set (szf S T (S 0 0) (T 0 0) (-1) 0 set) (S 0 0).toNat)))) rfl ?_
                exact E_ret (x := (.ireturn, 0, [], [])) (v := some (.inl (w32 (cnf S set (szf S T (S 0 0) (T 0 0) (-1) 0 set) (S 0 0).toNat)))) rfl (Or.inl rfl) (by
                  have r9 := hQ _ ((FZ_y f1).up ⟨by decide, by decide⟩) (SVM_w (by decide) m1) (SVW_0 W1 _ hfin)
                  rw [← hfin] at r9
                  exact r9)
            · show xEx G0 cdX7_waysOf (some .int) (xRn G0 MT (d + 3)) Q b 53 [some (.inr (.inr 44)), some (.inl set), some (.inl 0), some (.inl (szf S T (S 0 0) (T 0 0) (-1) 0 set)), some (.inl 1), some (.inr (.inl (w32 (cnf S set (szf S T (S 0 0) (T 0 0) (-1) 0 set) (S 0 0).toNat)))), none, some (.inl 0), none, none, none] [] h
              exact absurd c52 (by decide)
        · rw [c_eq (by first | assumption | (refine ⟨?_, ?_⟩ <;> omega) | (simp only [xr] at *; omega)) (by first | assumption | (refine ⟨?_, ?_⟩ <;> omega) | (simp only [xr] at *; omega))] at c25
          simp only [decide_eq_true_eq, decide_eq_false_iff_not, Decidable.not_not] at c25
          show xEx G0 cdX7_waysOf (some .int) (xRn G0 MT (d + 3)) Q b 26 [some (.inr (.inr 44)), some (.inl set), some (.inl 0), some (.inl (szf S T (S 0 0) (T 0 0) (-1) 0 set)), some (.inl 1), none, none, none, none, none, none] [] h
          refine E_s 3 (i' := 29) (ls' := [some (.inr (.inr 44)), some (.inl set), some (.inl 0), some (.inl (szf S T (S 0 0) (T 0 0) (-1) 0 set)), some (.inl 1), none, none, none, none, none, none]) (sk' := [.inl 0, .inr (.inr 47)]) (h' := h) rfl ?_
          refine E_ald (x := (.aaload, 0, [], [])) 0 rfl rfl rfl (rfl) rfl ?_
          show xEx G0 cdX7_waysOf (some .int) (xRn G0 MT (d + 3)) Q b 30 [some (.inr (.inr 44)), some (.inl set), some (.inl 0), some (.inl (szf S T (S 0 0) (T 0 0) (-1) 0 set)), some (.inl 1), none, none, none, none, none, none] [.inr (.inr 51)] h
          refine E_s 1 (i' := 31) (ls' := [some (.inr (.inr 44)), some (.inl set), some (.inl 0), some (.inl (szf S T (S 0 0) (T 0 0) (-1) 0 set)), some (.inl 1), none, none, none, none, none, none]) (sk' := [.inl set, .inr (.inr 51)]) (h' := h) rfl ?_
          refine E_ld (x := (.iaload, 0, [], [])) (ty := .int) (n := 4096) rfl rfl rfl (by omega) (by omega) ?_
          show xEx G0 cdX7_waysOf (some .int) (xRn G0 MT (d + 3)) Q b 32 [some (.inr (.inr 44)), some (.inl set), some (.inl 0), some (.inl (szf S T (S 0 0) (T 0 0) (-1) 0 set)), some (.inl 1), none, none, none, none, none, none] [.inl (h 51 set)] h
          exact E_ret (x := (.ireturn, 0, [], [])) (v := some (.inl (h 51 set))) rfl (Or.inl rfl) (by
            have r9 := hQ h (FZ_y f1) m1 W1
            have e9 : h 51 set = (wyf S T (S 0 0) (T 0 0) 0 set) := by omega
            rw [← e9] at r9
            exact r9)
  · rw [c_ne (by first | assumption | (refine ⟨?_, ?_⟩ <;> omega) | (simp only [xr] at *; omega)) (by first | assumption | (refine ⟨?_, ?_⟩ <;> omega) | (simp only [xr] at *; omega))] at c7
    simp only [decide_eq_true_eq, decide_eq_false_iff_not, Decidable.not_not] at c7
    show xEx G0 cdX7_waysOf (some .int) (xRn G0 MT (d + 3)) Q b 8 [some (.inr (.inr 44)), some (.inl set), some (.inl 0), some (.inl (szf S T (S 0 0) (T 0 0) (-1) 0 set)), none, none, none, none, none, none, none] [] h
    refine E_s 1 (i' := 9) (ls' := [some (.inr (.inr 44)), some (.inl set), some (.inl 0), some (.inl (szf S T (S 0 0) (T 0 0) (-1) 0 set)), none, none, none, none, none, none, none]) (sk' := [.inl 0]) (h' := h) rfl ?_
    exact E_ret (x := (.ireturn, 0, [], [])) (v := some (.inl 0)) rfl (Or.inl rfl) (by
      have r9 := hQ h (FZ_y f1) m1 W1
      have e9 : (wyf S T (S 0 0) (T 0 0) 0 set) = 0 := by
        show (if 1000000 ≤ (szf S T (S 0 0) (T 0 0) (-1) 0 set) then 0 else _) = (0 : Int)
        rw [if_pos (by omega)]
      rw [e9] at r9
      exact r9)
theorem szf_le0 {S T : xH} {KE KT p : Int} : ∀ (i : Nat) (set : Int), szf S T KE KT p i set ≤ sz0 S KE p set
  | 0, _ => Int.le_refl _
  | i + 1, set => stpf_le _
set_option maxHeartbeats 1000000 in
theorem c_wy1 (d b : Nat) (h S T : xH) (set : Int) (m : Nat) (hV : SVF h S T (-1) m) (hM : SVM h S T (-1) m) (hW : SVW h S T (-1) m) (hb : h 44 10 = -1) (hK : h 9 9 = S 0 0) (hs : ir m set) {Q : xO → xH → Prop} (hQ : ∀ h', FY h h' → SVM h' S T (-1) m → SVW h' S T (-1) m → Q (.inl (some (.inl (wyf S T (S 0 0) (T 0 0) 1 set)))) h') : xRn G0 MT (d + 6) b 68 [.inr (.inr 44), .inl set, .inl 1] h Q := by
  refine R_of (M := mX7_waysOf) rfl (Nat.le_of_ble_eq_true rfl) ?_
  show xEx G0 cdX7_waysOf (some .int) (xRn G0 MT (d + 5)) Q b 0 [some (.inr (.inr 44)), some (.inl set), some (.inl 1), none, none, none, none, none, none, none, none] [] h
  have r4 := ir4 hV.1.1 hs
  refine E_s 3 (i' := 3) (ls' := [some (.inr (.inr 44)), some (.inl set), some (.inl 1), none, none, none, none, none, none, none, none]) (sk' := [.inl 1, .inl set, .inr (.inr 44)]) (h' := h) rfl ?_
  refine E_cp (x := (.invokevirtual 99, 2, [(5, 63)], [0])) (q := fun r h9 => r = (szf S T (S 0 0) (T 0 0) (-1) 1 set) ∧ FZ h h9 ∧ SVM h9 S T (-1) m) rfl rfl (Nat.le_of_ble_eq_true rfl) (c_szO1 (d + 2) 0 h S T (-1) set m hV hM hs (fun h9 z1 z2 => ⟨_, rfl, rfl, z1, z2⟩)) (fun r1 h1 hq1 => ?_)
  obtain ⟨e1, f1, m1⟩ := hq1
  show xEx G0 cdX7_waysOf (some .int) (xRn G0 MT (d + 5)) Q b 4 [some (.inr (.inr 44)), some (.inl set), some (.inl 1), none, none, none, none, none, none, none, none] [.inl r1] h1
  refine E_ti (y := (szf S T (S 0 0) (T 0 0) (-1) 1 set)) (by rw [e1]) ?_
  have V1 := SVF_z f1 hV
  have W1 := SVW_z f1 hW
  have zr := szf_r (p := -1) hV.1 1 set
  have so1 : h1 44 = h 44 := f1 _ (by decide) (by decide)
  have ge1 : h1 9 = h 9 := f1 _ (by decide) (by decide)
  have e0 : h1 48 set = sz0 S (S 0 0) (-1) set := (V1.2.2.2.1 set hs).2
  have z0 := sz0_r (p := -1) hV.1 set
  have wr := wyf_r hV.1 1 set
  have cr := cnf_r (S := S) (set := set) (z := (szf S T (S 0 0) (T 0 0) (-1) 1 set)) (S 0 0).toNat
  have kk := hV.1.2.1
  have w9 := W1 set hs
  refine E_s 3 (i' := 7) (ls' := [some (.inr (.inr 44)), some (.inl set), some (.inl 1), some (.inl (szf S T (S 0 0) (T 0 0) (-1) 1 set)), none, none, none, none, none, none, none]) (sk' := [.inl 1000000, .inl (szf S T (S 0 0) (T 0 0) (-1) 1 set)]) (h' := h1) rfl ?_
  refine E_b (x := (.if_icmp .ne 5, 10, [], [])) rfl rfl (fun c7 => ?_) (fun c7 => ?_)
  · rw [c_ne (by first | assumption | (refine ⟨?_, ?_⟩ <;> omega) | (simp only [xr] at *; omega)) (by first | assumption | (refine ⟨?_, ?_⟩ <;> omega) | (simp only [xr] at *; omega))] at c7
    simp only [decide_eq_true_eq, decide_eq_false_iff_not, Decidable.not_not] at c7
    show xEx G0 cdX7_waysOf (some .int) (xRn G0 MT (d + 5)) Q b 10 [some (.inr (.inr 44)), some (.inl set), some (.inl 1), some (.inl (szf S T (S 0 0) (T 0 0) (-1) 1 set)), none, none, none, none, none, none, none] [] h1
    have zl : (szf S T (S 0 0) (T 0 0) (-1) 1 set) < 1000000 := by omega
    refine E_s 2 (i' := 12) (ls' := [some (.inr (.inr 44)), some (.inl set), some (.inl 1), some (.inl (szf S T (S 0 0) (T 0 0) (-1) 1 set)), none, none, none, none, none, none, none]) (sk' := [.inl 2, .inl 1]) (h' := h1) rfl ?_
    refine E_b (x := (.if_icmp .gt 7, 15, [], [])) rfl rfl (fun c12 => ?_) (fun c12 => ?_)
    · show xEx G0 cdX7_waysOf (some .int) (xRn G0 MT (d + 5)) Q b 15 [some (.inr (.inr 44)), some (.inl set), some (.inl 1), some (.inl (szf S T (S 0 0) (T 0 0) (-1) 1 set)), none, none, none, none, none, none, none] [] h1
      exact absurd c12 (by decide)
    · show xEx G0 cdX7_waysOf (some .int) (xRn G0 MT (d + 5)) Q b 13 [some (.inr (.inr 44)), some (.inl set), some (.inl 1), some (.inl (szf S T (S 0 0) (T 0 0) (-1) 1 set)), none, none, none, none, none, none, none] [] h1
      refine E_s 4 (i' := 18) (ls' := [some (.inr (.inr 44)), some (.inl set), some (.inl 1), some (.inl (szf S T (S 0 0) (T 0 0) (-1) 1 set)), some (.inl 1), none, none, none, none, none, none]) (sk' := [.inl 1]) (h' := h1) rfl ?_
      refine E_b (x := (.ifCond .eq 23, 33, [], [])) rfl rfl (fun c18 => ?_) (fun c18 => ?_)
      · show xEx G0 cdX7_waysOf (some .int) (xRn G0 MT (d + 5)) Q b 33 [some (.inr (.inr 44)), some (.inl set), some (.inl 1), some (.inl (szf S T (S 0 0) (T 0 0) (-1) 1 set)), some (.inl 1), none, none, none, none, none, none] [] h1
        exact absurd c18 (by decide)
      · show xEx G0 cdX7_waysOf (some .int) (xRn G0 MT (d + 5)) Q b 19 [some (.inr (.inr 44)), some (.inl set), some (.inl 1), some (.inl (szf S T (S 0 0) (T 0 0) (-1) 1 set)), some (.inl 1), none, none, none, none, none, none] [] h1
        refine E_s 3 (i' := 22) (ls' := [some (.inr (.inr 44)), some (.inl set), some (.inl 1), some (.inl (szf S T (S 0 0) (T 0 0) (-1) 1 set)), some (.inl 1), none, none, none, none, none, none]) (sk' := [.inl 1, .inr (.inr 47)]) (h' := h1) rfl ?_
        refine E_ald (x := (.aaload, 0, [], [])) 1 rfl rfl rfl (rfl) rfl ?_
        show xEx G0 cdX7_waysOf (some .int) (xRn G0 MT (d + 5)) Q b 23 [some (.inr (.inr 44)), some (.inl set), some (.inl 1), some (.inl (szf S T (S 0 0) (T 0 0) (-1) 1 set)), some (.inl 1), none, none, none, none, none, none] [.inr (.inr 52)] h1
        refine E_s 1 (i' := 24) (ls' := [some (.inr (.inr 44)), some (.inl set), some (.inl 1), some (.inl (szf S T (S 0 0) (T 0 0) (-1) 1 set)), some (.inl 1), none, none, none, none, none, none]) (sk' := [.inl set, .inr (.inr 52)]) (h' := h1) rfl ?_
        refine E_ld (x := (.iaload, 0, [], [])) (ty := .int) (n := 4096) rfl rfl rfl (by omega) (by omega) ?_
        show xEx G0 cdX7_waysOf (some .int) (xRn G0 MT (d + 5)) Q b 25 [some (.inr (.inr 44)), some (.inl set), some (.inl 1), some (.inl (szf S T (S 0 0) (T 0 0) (-1) 1 set)), some (.inl 1), none, none, none, none, none, none] [.inl (h1 52 set)] h1
        refine E_b (x := (.ifCond .eq 12, 33, [], [])) rfl rfl (fun c25 => ?_) (fun c25 => ?_)
        · rw [c_eq (by first | assumption | (refine ⟨?_, ?_⟩ <;> omega) | (simp only [xr] at *; omega)) (by first | assumption | (refine ⟨?_, ?_⟩ <;> omega) | (simp only [xr] at *; omega))] at c25
          simp only [decide_eq_true_eq, decide_eq_false_iff_not, Decidable.not_not] at c25
          show xEx G0 cdX7_waysOf (some .int) (xRn G0 MT (d + 5)) Q b 33 [some (.inr (.inr 44)), some (.inl set), some (.inl 1), some (.inl (szf S T (S 0 0) (T 0 0) (-1) 1 set)), some (.inl 1), none, none, none, none, none, none] [] h1
          refine E_s 4 (i' := 37) (ls' := [some (.inr (.inr 44)), some (.inl set), some (.inl 1), some (.inl (szf S T (S 0 0) (T 0 0) (-1) 1 set)), some (.inl 1), none, none, none, none, none, none]) (sk' := [.inl 0, .inr (.inr 46), .inl (szf S T (S 0 0) (T 0 0) (-1) 1 set)]) (h' := h1) rfl ?_
          refine E_ald (x := (.aaload, 0, [], [])) 0 rfl rfl rfl (rfl) rfl ?_
          show xEx G0 cdX7_waysOf (some .int) (xRn G0 MT (d + 5)) Q b 38 [some (.inr (.inr 44)), some (.inl set), some (.inl 1), some (.inl (szf S T (S 0 0) (T 0 0) (-1) 1 set)), some (.inl 1), none, none, none, none, none, none] [.inr (.inr 48), .inl (szf S T (S 0 0) (T 0 0) (-1) 1 set)] h1
          refine E_s 1 (i' := 39) (ls' := [some (.inr (.inr 44)), some (.inl set), some (.inl 1), some (.inl (szf S T (S 0 0) (T 0 0) (-1) 1 set)), some (.inl 1), none, none, none, none, none, none]) (sk' := [.inl set, .inr (.inr 48), .inl (szf S T (S 0 0) (T 0 0) (-1) 1 set)]) (h' := h1) rfl ?_
          refine E_ld (x := (.iaload, 0, [], [])) (ty := .int) (n := 4096) rfl rfl rfl (by omega) (by omega) ?_
          show xEx G0 cdX7_waysOf (some .int) (xRn G0 MT (d + 5)) Q b 40 [some (.inr (.inr 44)), some (.inl set), some (.inl 1), some (.inl (szf S T (S 0 0) (T 0 0) (-1) 1 set)), some (.inl 1), none, none, none, none, none, none] [.inl (h1 48 set), .inl (szf S T (S 0 0) (T 0 0) (-1) 1 set)] h1
          refine E_b (x := (.if_icmp .ne 13, 47, [], [])) rfl rfl (fun c40 => ?_) (fun c40 => ?_)
          · rw [c_ne (by first | assumption | (refine ⟨?_, ?_⟩ <;> omega) | (simp only [xr] at *; omega)) (by first | assumption | (refine ⟨?_, ?_⟩ <;> omega) | (simp only [xr] at *; omega))] at c40
            simp only [decide_eq_true_eq, decide_eq_false_iff_not, Decidable.not_not] at c40
            show xEx G0 cdX7_waysOf (some .int) (xRn G0 MT (d + 5)) Q b 47 [some (.inr (.inr 44)), some (.inl set), some (.inl 1), some (.inl (szf S T (S 0 0) (T 0 0) (-1) 1 set)), some (.inl 1), none, none, none, none, none, none] [] h1
            refine E_s 4 (i' := 51) (ls' := [some (.inr (.inr 44)), some (.inl set), some (.inl 1), some (.inl (szf S T (S 0 0) (T 0 0) (-1) 1 set)), some (.inl 1), some (.inr (.inl 0)), none, some (.inl 0), none, none, none]) (sk' := []) (h' := h1) rfl ?_
            have key51 : ∀ (n : Nat) (hh : xH) (i9 fd : Int) (v8 v9 v10 : Option xV), (0 ≤ i9) → (i9 ≤ h 44 8) → (FY h hh) → (SVM hh S T (-1) m) → (SVW hh S T (-1) m) → (fd = wst T (szf S T (S 0 0) (T 0 0) (-1) 0) (wyf S T (S 0 0) (T 0 0) 0) set (szf S T (S 0 0) (T 0 0) (-1) 1 set) (cnf S set (szf S T (S 0 0) (T 0 0) (-1) 1 set) (S 0 0).toNat) i9.toNat) → ((h 44 8 - i9).toNat) < n → xEx G0 cdX7_waysOf (some .int) (xRn G0 MT (d + 5)) Q b 51 [some (.inr (.inr 44)), some (.inl set), some (.inl 1), some (.inl (szf S T (S 0 0) (T 0 0) (-1) 1 set)), some (.inl 1), some (.inr (.inl fd)), none, some (.inl i9), v8, v9, v10] [] hh := by
              intro n
              induction n with
              | zero => intro hh i9 fd v8 v9 v10 _ _ _ _ _ _ hm; exact absurd hm (Nat.not_lt_zero _)
              | succ n ih51 =>
                intro hh i9 fd v8 v9 v10 hi0 hi9 fy hm hw hfd hm51
                have ec : hh 44 8 = h 44 8 := by rw [fy _ (by decide)]
                have fr := wst_r (T := T) (f := (szf S T (S 0 0) (T 0 0) (-1) 0)) (g := (wyf S T (S 0 0) (T 0 0) 0)) (set := set) (z := (szf S T (S 0 0) (T 0 0) (-1) 1 set)) (c0 := (cnf S set (szf S T (S 0 0) (T 0 0) (-1) 1 set) (S 0 0).toNat)) (by omega) (fun s => (wyf_r hV.1 0 s).1) i9.toNat
                have kt := hV.1.2.2.1
                have ub := us_id hV.2.2.2.2.2.2
                refine E_s 1 (i' := 52) (ls' := [some (.inr (.inr 44)), some (.inl set), some (.inl 1), some (.inl (szf S T (S 0 0) (T 0 0) (-1) 1 set)), some (.inl 1), some (.inr (.inl fd)), none, some (.inl i9), v8, v9, v10]) (sk' := [.inl 1]) (h' := hh) rfl ?_
                refine E_b (x := (.ifCond .le 113, 114, [], [])) rfl rfl (fun c52 => ?_) (fun c52 => ?_)
                · show xEx G0 cdX7_waysOf (some .int) (xRn G0 MT (d + 5)) Q b 114 [some (.inr (.inr 44)), some (.inl set), some (.inl 1), some (.inl (szf S T (S 0 0) (T 0 0) (-1) 1 set)), some (.inl 1), some (.inr (.inl fd)), none, some (.inl i9), v8, v9, v10] [] hh
                  exact absurd c52 (by decide)
                · show xEx G0 cdX7_waysOf (some .int) (xRn G0 MT (d + 5)) Q b 53 [some (.inr (.inr 44)), some (.inl set), some (.inl 1), some (.inl (szf S T (S 0 0) (T 0 0) (-1) 1 set)), some (.inl 1), some (.inr (.inl fd)), none, some (.inl i9), v8, v9, v10] [] hh
                  refine E_s 3 (i' := 56) (ls' := [some (.inr (.inr 44)), some (.inl set), some (.inl 1), some (.inl (szf S T (S 0 0) (T 0 0) (-1) 1 set)), some (.inl 1), some (.inr (.inl fd)), none, some (.inl i9), v8, v9, v10]) (sk' := [.inl (hh 44 8), .inl i9]) (h' := hh) rfl ?_
                  refine E_b (x := (.if_icmp .ge 104, 114, [], [])) rfl rfl (fun c56 => ?_) (fun c56 => ?_)
                  · rw [c_ge (by first | assumption | (refine ⟨?_, ?_⟩ <;> omega) | (simp only [xr] at *; omega)) (by first | assumption | (refine ⟨?_, ?_⟩ <;> omega) | (simp only [xr] at *; omega))] at c56
                    simp only [decide_eq_true_eq, decide_eq_false_iff_not, Decidable.not_not] at c56
                    show xEx G0 cdX7_waysOf (some .int) (xRn G0 MT (d + 5)) Q b 114 [some (.inr (.inr 44)), some (.inl set), some (.inl 1), some (.inl (szf S T (S 0 0) (T 0 0) (-1) 1 set)), some (.inl 1), some (.inr (.inl fd)), none, some (.inl i9), v8, v9, v10] [] hh
                    have hfin : fd = (wyf S T (S 0 0) (T 0 0) 1 set) := by
                      show fd = (if 1000000 ≤ (szf S T (S 0 0) (T 0 0) (-1) 1 set) then 0 else wst T (szf S T (S 0 0) (T 0 0) (-1) 0) (wyf S T (S 0 0) (T 0 0) 0) set (szf S T (S 0 0) (T 0 0) (-1) 1 set) (cnf S set (szf S T (S 0 0) (T 0 0) (-1) 1 set) (S 0 0).toNat) (T 0 0).toNat)
                      rw [if_neg (by omega), hfd]
                      first
                      | (rw [show i9 = T 0 0 by omega]; done)
                      | exact (wst_end hV.1 (fun s => (szf_r (p := -1) hV.1 0 s).1) hi0 (by omega) (by have := o0 q5 (by omega); rw [g4] at this; omega)).symm
                    have fr2 := fr
                    have r4 := ir4 hV.1.1 hs
                    refine E_s 1 (i' := 115) (ls' := [some (.inr (.inr 44)), some (.inl set), some (.inl 1), some (.inl (szf S T (S 0 0) (T 0 0) (-1) 1 set)), some (.inl 1), some (.inr (.inl fd)), none, some (.inl i9), v8, v9, v10]) (sk' := [.inl 1]) (h' := hh) rfl ?_
                    refine E_b (x := (.ifCond .eq 14, 124, [], [])) rfl rfl (fun c115 => ?_) (fun c115 => ?_)
                    · show xEx G0 cdX7_waysOf (some .int) (xRn G0 MT (d + 5)) Q b 124 [some (.inr (.inr 44)), some (.inl set), some (.inl 1), some (.inl (szf S T (S 0 0) (T 0 0) (-1) 1 set)), some (.inl 1), some (.inr (.inl fd)), none, some (.inl i9), v8, v9, v10] [] hh
                      exact absurd c115 (by decide)
                    · show xEx G0 cdX7_waysOf (some .int) (xRn G0 MT (d + 5)) Q b 116 [some (.inr (.inr 44)), some (.inl set), some (.inl 1), some (.inl (szf S T (S 0 0) (T 0 0) (-1) 1 set)), some (.inl 1), some (.inr (.inl fd)), none, some (.inl i9), v8, v9, v10] [] hh
                      refine E_s 3 (i' := 119) (ls' := [some (.inr (.inr 44)), some (.inl set), some (.inl 1), some (.inl (szf S T (S 0 0) (T 0 0) (-1) 1 set)), some (.inl 1), some (.inr (.inl fd)), none, some (.inl i9), v8, v9, v10]) (sk' := [.inl 1, .inr (.inr 47)]) (h' := hh) rfl ?_
                      refine E_ald (x := (.aaload, 0, [], [])) 1 rfl rfl rfl (rfl) rfl ?_
                      show xEx G0 cdX7_waysOf (some .int) (xRn G0 MT (d + 5)) Q b 120 [some (.inr (.inr 44)), some (.inl set), some (.inl 1), some (.inl (szf S T (S 0 0) (T 0 0) (-1) 1 set)), some (.inl 1), some (.inr (.inl fd)), none, some (.inl i9), v8, v9, v10] [.inr (.inr 52)] hh
                      refine E_s 3 (i' := 123) (ls' := [some (.inr (.inr 44)), some (.inl set), some (.inl 1), some (.inl (szf S T (S 0 0) (T 0 0) (-1) 1 set)), some (.inl 1), some (.inr (.inl fd)), none, some (.inl i9), v8, v9, v10]) (sk' := [.inl fd, .inl set, .inr (.inr 52)]) (h' := hh) rfl ?_
                      refine E_sd (x := (.iastore, 0, [], [])) (ty := .int) (n := 4096) (y := fd) rfl rfl rfl (by omega) (by omega) (trivial) ?_
                      show xEx G0 cdX7_waysOf (some .int) (xRn G0 MT (d + 5)) Q b 124 [some (.inr (.inr 44)), some (.inl set), some (.inl 1), some (.inl (szf S T (S 0 0) (T 0 0) (-1) 1 set)), some (.inl 1), some (.inr (.inl fd)), none, some (.inl i9), v8, v9, v10] [] (xup hh 52 set fd)
                      refine E_s 2 (i' := 126) (ls' := [some (.inr (.inr 44)), some (.inl set), some (.inl 1), some (.inl (szf S T (S 0 0) (T 0 0) (-1) 1 set)), some (.inl 1), some (.inr (.inl fd)), none, some (.inl i9), v8, v9, v10]) (sk' := [.inl fd]) (h' := (xup hh 52 set fd)) rfl ?_
                      exact E_ret (x := (.ireturn, 0, [], [])) (v := some (.inl fd)) rfl (Or.inl rfl) (by
                        have r9 := hQ _ ((fy).up ⟨by decide, by decide⟩) (SVM_w (by decide) hm) (SVW_1 hw _ hfin)
                        rw [← hfin] at r9
                        exact r9)
                  · rw [c_ge (by first | assumption | (refine ⟨?_, ?_⟩ <;> omega) | (simp only [xr] at *; omega)) (by first | assumption | (refine ⟨?_, ?_⟩ <;> omega) | (simp only [xr] at *; omega))] at c56
                    simp only [decide_eq_true_eq, decide_eq_false_iff_not, Decidable.not_not] at c56
                    show xEx G0 cdX7_waysOf (some .int) (xRn G0 MT (d + 5)) Q b 57 [some (.inr (.inr 44)), some (.inl set), some (.inl 1), some (.inl (szf S T (S 0 0) (T 0 0) (-1) 1 set)), some (.inl 1), some (.inr (.inl fd)), none, some (.inl i9), v8, v9, v10] [] hh
                    refine E_s 4 (i' := 61) (ls' := [some (.inr (.inr 44)), some (.inl set), some (.inl 1), some (.inl (szf S T (S 0 0) (T 0 0) (-1) 1 set)), some (.inl 1), some (.inr (.inl fd)), none, some (.inl i9), v8, v9, v10]) (sk' := [.inl i9, .inr (.inr 55), .inr (.inr 44)]) (h' := hh) rfl ?_
                    refine E_ld (x := (.iaload, 0, [], [])) (ty := .int) (n := 150) rfl rfl rfl (by omega) (by omega) ?_
                    show xEx G0 cdX7_waysOf (some .int) (xRn G0 MT (d + 5)) Q b 62 [some (.inr (.inr 44)), some (.inl set), some (.inl 1), some (.inl (szf S T (S 0 0) (T 0 0) (-1) 1 set)), some (.inl 1), some (.inr (.inl fd)), none, some (.inl i9), v8, v9, v10] [.inl (hh 55 i9), .inr (.inr 44)] hh
                    refine E_s 1 (i' := 63) (ls' := [some (.inr (.inr 44)), some (.inl set), some (.inl 1), some (.inl (szf S T (S 0 0) (T 0 0) (-1) 1 set)), some (.inl 1), some (.inr (.inl fd)), none, some (.inl i9), v8, v9, v10]) (sk' := [.inl (szf S T (S 0 0) (T 0 0) (-1) 1 set), .inl (hh 55 i9), .inr (.inr 44)]) (h' := hh) rfl ?_
                    have uu : hh 55 i9 = i9 := by rw [fy _ (by decide)]; exact ub.2 i9 hi0 (by omega)
                    have o4 := hV.1.2.2.2.2 i9 hi0 (by omega)
                    have g4 : hh 37 (hh 55 i9) = T 4 i9 := by rw [uu, fy _ (by decide)]; exact (hV.2.1 i9 hi0 (by omega)).1
                    have g6 : hh 39 (hh 55 i9) = T 6 i9 := by rw [uu, fy _ (by decide)]; exact (hV.2.1 i9 hi0 (by omega)).2
                    refine E_cp (x := (.invokevirtual 103, 2, [(5, 64)], [0])) (q := fun r5 h9 => ((r5 = 1 ∧ (hh 37 (hh 55 i9) + 3 ≤ (szf S T (S 0 0) (T 0 0) (-1) 1 set))) ∨ (r5 = 0 ∧ ¬ (hh 37 (hh 55 i9) + 3 ≤ (szf S T (S 0 0) (T 0 0) (-1) 1 set)))) ∧ hh = h9) rfl rfl (Nat.le_of_ble_eq_true rfl) (c_mayDo (d + 4) 0 hh (hh 55 i9) (szf S T (S 0 0) (T 0 0) (-1) 1 set) ⟨by omega, by omega⟩ ⟨by omega, by omega⟩ ⟨by omega, by omega⟩ (fun z => ⟨_, rfl, Or.inl ⟨rfl, z⟩, rfl⟩) (fun z => ⟨_, rfl, Or.inr ⟨rfl, z⟩, rfl⟩)) (fun r5 h9 q5 => ?_)
                    obtain ⟨q5, rfl⟩ := q5
                    show xEx G0 cdX7_waysOf (some .int) (xRn G0 MT (d + 5)) Q b 64 [some (.inr (.inr 44)), some (.inl set), some (.inl 1), some (.inl (szf S T (S 0 0) (T 0 0) (-1) 1 set)), some (.inl 1), some (.inr (.inl fd)), none, some (.inl i9), v8, v9, v10] [.inl r5] hh
                    refine E_b (x := (.ifCond .eq 89, 114, [], [])) rfl rfl (fun c64 => ?_) (fun c64 => ?_)
                    · rw [c_eq (by first | assumption | (refine ⟨?_, ?_⟩ <;> omega) | (simp only [xr] at *; omega)) (by first | assumption | (refine ⟨?_, ?_⟩ <;> omega) | (simp only [xr] at *; omega))] at c64
                      simp only [decide_eq_true_eq, decide_eq_false_iff_not, Decidable.not_not] at c64
                      show xEx G0 cdX7_waysOf (some .int) (xRn G0 MT (d + 5)) Q b 114 [some (.inr (.inr 44)), some (.inl set), some (.inl 1), some (.inl (szf S T (S 0 0) (T 0 0) (-1) 1 set)), some (.inl 1), some (.inr (.inl fd)), none, some (.inl i9), v8, v9, v10] [] hh
                      have hfin : fd = (wyf S T (S 0 0) (T 0 0) 1 set) := by
                        show fd = (if 1000000 ≤ (szf S T (S 0 0) (T 0 0) (-1) 1 set) then 0 else wst T (szf S T (S 0 0) (T 0 0) (-1) 0) (wyf S T (S 0 0) (T 0 0) 0) set (szf S T (S 0 0) (T 0 0) (-1) 1 set) (cnf S set (szf S T (S 0 0) (T 0 0) (-1) 1 set) (S 0 0).toNat) (T 0 0).toNat)
                        rw [if_neg (by omega), hfd]
                        first
                        | (rw [show i9 = T 0 0 by omega]; done)
                        | exact (wst_end hV.1 (fun s => (szf_r (p := -1) hV.1 0 s).1) hi0 (by omega) (by have := o0 q5 (by omega); rw [g4] at this; omega)).symm
                      have fr2 := fr
                      have r4 := ir4 hV.1.1 hs
                      refine E_s 1 (i' := 115) (ls' := [some (.inr (.inr 44)), some (.inl set), some (.inl 1), some (.inl (szf S T (S 0 0) (T 0 0) (-1) 1 set)), some (.inl 1), some (.inr (.inl fd)), none, some (.inl i9), v8, v9, v10]) (sk' := [.inl 1]) (h' := hh) rfl ?_
                      refine E_b (x := (.ifCond .eq 14, 124, [], [])) rfl rfl (fun c115 => ?_) (fun c115 => ?_)
                      · show xEx G0 cdX7_waysOf (some .int) (xRn G0 MT (d + 5)) Q b 124 [some (.inr (.inr 44)), some (.inl set), some (.inl 1), some (.inl (szf S T (S 0 0) (T 0 0) (-1) 1 set)), some (.inl 1), some (.inr (.inl fd)), none, some (.inl i9), v8, v9, v10] [] hh
                        exact absurd c115 (by decide)
                      · show xEx G0 cdX7_waysOf (some .int) (xRn G0 MT (d + 5)) Q b 116 [some (.inr (.inr 44)), some (.inl set), some (.inl 1), some (.inl (szf S T (S 0 0) (T 0 0) (-1) 1 set)), some (.inl 1), some (.inr (.inl fd)), none, some (.inl i9), v8, v9, v10] [] hh
                        refine E_s 3 (i' := 119) (ls' := [some (.inr (.inr 44)), some (.inl set), some (.inl 1), some (.inl (szf S T (S 0 0) (T 0 0) (-1) 1 set)), some (.inl 1), some (.inr (.inl fd)), none, some (.inl i9), v8, v9, v10]) (sk' := [.inl 1, .inr (.inr 47)]) (h' := hh) rfl ?_
                        refine E_ald (x := (.aaload, 0, [], [])) 1 rfl rfl rfl (rfl) rfl ?_
                        show xEx G0 cdX7_waysOf (some .int) (xRn G0 MT (d + 5)) Q b 120 [some (.inr (.inr 44)), some (.inl set), some (.inl 1), some (.inl (szf S T (S 0 0) (T 0 0) (-1) 1 set)), some (.inl 1), some (.inr (.inl fd)), none, some (.inl i9), v8, v9, v10] [.inr (.inr 52)] hh
                        refine E_s 3 (i' := 123) (ls' := [some (.inr (.inr 44)), some (.inl set), some (.inl 1), some (.inl (szf S T (S 0 0) (T 0 0) (-1) 1 set)), some (.inl 1), some (.inr (.inl fd)), none, some (.inl i9), v8, v9, v10]) (sk' := [.inl fd, .inl set, .inr (.inr 52)]) (h' := hh) rfl ?_
                        refine E_sd (x := (.iastore, 0, [], [])) (ty := .int) (n := 4096) (y := fd) rfl rfl rfl (by omega) (by omega) (trivial) ?_
                        show xEx G0 cdX7_waysOf (some .int) (xRn G0 MT (d + 5)) Q b 124 [some (.inr (.inr 44)), some (.inl set), some (.inl 1), some (.inl (szf S T (S 0 0) (T 0 0) (-1) 1 set)), some (.inl 1), some (.inr (.inl fd)), none, some (.inl i9), v8, v9, v10] [] (xup hh 52 set fd)
                        refine E_s 2 (i' := 126) (ls' := [some (.inr (.inr 44)), some (.inl set), some (.inl 1), some (.inl (szf S T (S 0 0) (T 0 0) (-1) 1 set)), some (.inl 1), some (.inr (.inl fd)), none, some (.inl i9), v8, v9, v10]) (sk' := [.inl fd]) (h' := (xup hh 52 set fd)) rfl ?_
                        exact E_ret (x := (.ireturn, 0, [], [])) (v := some (.inl fd)) rfl (Or.inl rfl) (by
                          have r9 := hQ _ ((fy).up ⟨by decide, by decide⟩) (SVM_w (by decide) hm) (SVW_1 hw _ hfin)
                          rw [← hfin] at r9
                          exact r9)
                    · rw [c_eq (by first | assumption | (refine ⟨?_, ?_⟩ <;> omega) | (simp only [xr] at *; omega)) (by first | assumption | (refine ⟨?_, ?_⟩ <;> omega) | (simp only [xr] at *; omega))] at c64
                      simp only [decide_eq_true_eq, decide_eq_false_iff_not, Decidable.not_not] at c64
                      show xEx G0 cdX7_waysOf (some .int) (xRn G0 MT (d + 5)) Q b 65 [some (.inr (.inr 44)), some (.inl set), some (.inl 1), some (.inl (szf S T (S 0 0) (T 0 0) (-1) 1 set)), some (.inl 1), some (.inr (.inl fd)), none, some (.inl i9), v8, v9, v10] [] hh
                      refine E_s 4 (i' := 69) (ls' := [some (.inr (.inr 44)), some (.inl set), some (.inl 1), some (.inl (szf S T (S 0 0) (T 0 0) (-1) 1 set)), some (.inl 1), some (.inr (.inl fd)), none, some (.inl i9), v8, v9, v10]) (sk' := [.inl i9, .inr (.inr 55), .inr (.inr 44)]) (h' := hh) rfl ?_
                      refine E_ld (x := (.iaload, 0, [], [])) (ty := .int) (n := 150) rfl rfl rfl (by omega) (by omega) ?_
                      show xEx G0 cdX7_waysOf (some .int) (xRn G0 MT (d + 5)) Q b 70 [some (.inr (.inr 44)), some (.inl set), some (.inl 1), some (.inl (szf S T (S 0 0) (T 0 0) (-1) 1 set)), some (.inl 1), some (.inr (.inl fd)), none, some (.inl i9), v8, v9, v10] [.inl (hh 55 i9), .inr (.inr 44)] hh
                      refine E_s 2 (i' := 72) (ls' := [some (.inr (.inr 44)), some (.inl set), some (.inl 1), some (.inl (szf S T (S 0 0) (T 0 0) (-1) 1 set)), some (.inl 1), some (.inr (.inl fd)), none, some (.inl i9), v8, v9, v10]) (sk' := [.inl 1, .inl set, .inl (hh 55 i9), .inr (.inr 44)]) (h' := hh) rfl ?_
                      refine E_cp (x := (.invokevirtual 106, 3, [(5, 65)], [0])) (q := fun r h9 => r = swf T (szf S T (S 0 0) (T 0 0) (-1) 0) set (hh 55 i9) ∧ FZ hh h9 ∧ SVM h9 S T (-1) m) rfl rfl (Nat.le_of_ble_eq_true rfl) (c_szW1 (d + 3) 0 hh S T (-1) set m (hh 55 i9) (SVF_y fy hV) hm hs ⟨by omega, by omega⟩ (fun h9 z1 z2 => ⟨_, rfl, rfl, z1, z2⟩)) (fun r2 h2 hq2 => ?_)
                      obtain ⟨e2, f2, m2⟩ := hq2
                      rw [uu] at e2
                      have sr := swf_r (T := T) (f := (szf S T (S 0 0) (T 0 0) (-1) 0)) (set := set) (t := i9) ⟨by omega, by omega⟩ (szf_r (p := -1) hV.1 0)
                      have sq := swf_eq (T := T) (p := -1) (f := (szf S T (S 0 0) (T 0 0) (-1) 0)) (set := set) (t := i9) (b := (szf S T (S 0 0) (T 0 0) (-1) 1 set)) (Or.inl rfl) (by omega) (szf_r (p := -1) hV.1 0) (by omega)
                      have fy2 : FY h h2 := fy.tr (FZ_y f2)
                      have w2 : SVW h2 S T (-1) m := SVW_z f2 hw
                      have u2 : h2 55 i9 = i9 := by rw [f2 _ (by decide) (by decide)]; exact uu
                      have g2 : h2 39 (h2 55 i9) = T 6 i9 := by rw [u2, fy2 _ (by decide)]; exact (hV.2.1 i9 hi0 (by omega)).2
                      show xEx G0 cdX7_waysOf (some .int) (xRn G0 MT (d + 5)) Q b 73 [some (.inr (.inr 44)), some (.inl set), some (.inl 1), some (.inl (szf S T (S 0 0) (T 0 0) (-1) 1 set)), some (.inl 1), some (.inr (.inl fd)), none, some (.inl i9), v8, v9, v10] [.inl r2] h2
                      refine E_s 1 (i' := 74) (ls' := [some (.inr (.inr 44)), some (.inl set), some (.inl 1), some (.inl (szf S T (S 0 0) (T 0 0) (-1) 1 set)), some (.inl 1), some (.inr (.inl fd)), none, some (.inl i9), v8, v9, v10]) (sk' := [.inl (szf S T (S 0 0) (T 0 0) (-1) 1 set), .inl r2]) (h' := h2) rfl ?_
                      refine E_b (x := (.if_icmp .ne 66, 112, [], [])) rfl rfl (fun c74 => ?_) (fun c74 => ?_)
                      · rw [c_ne (by first | assumption | (refine ⟨?_, ?_⟩ <;> omega) | (simp only [xr] at *; omega)) (by first | assumption | (refine ⟨?_, ?_⟩ <;> omega) | (simp only [xr] at *; omega))] at c74
                        simp only [decide_eq_true_eq, decide_eq_false_iff_not, Decidable.not_not] at c74
                        show xEx G0 cdX7_waysOf (some .int) (xRn G0 MT (d + 5)) Q b 112 [some (.inr (.inr 44)), some (.inl set), some (.inl 1), some (.inl (szf S T (S 0 0) (T 0 0) (-1) 1 set)), some (.inl 1), some (.inr (.inl fd)), none, some (.inl i9), v8, v9, v10] [] h2
                        refine E_s 2 (i' := 51) (ls' := [some (.inr (.inr 44)), some (.inl set), some (.inl 1), some (.inl (szf S T (S 0 0) (T 0 0) (-1) 1 set)), some (.inl 1), some (.inr (.inl fd)), none, some (.inl (i9 + 1)), v8, v9, v10]) (sk' := []) (h' := h2) rfl ?_
                        exact ih51 h2 (i9 + 1) fd _ _ _ (by omega) (by omega) fy2 m2 w2 (by rw [wst_n hi0 (fun y => c74 (by rw [e2]; exact sq.mpr y)), hfd]) (by omega)
                      · rw [c_ne (by first | assumption | (refine ⟨?_, ?_⟩ <;> omega) | (simp only [xr] at *; omega)) (by first | assumption | (refine ⟨?_, ?_⟩ <;> omega) | (simp only [xr] at *; omega))] at c74
                        simp only [decide_eq_true_eq, decide_eq_false_iff_not, Decidable.not_not] at c74
                        show xEx G0 cdX7_waysOf (some .int) (xRn G0 MT (d + 5)) Q b 75 [some (.inr (.inr 44)), some (.inl set), some (.inl 1), some (.inl (szf S T (S 0 0) (T 0 0) (-1) 1 set)), some (.inl 1), some (.inr (.inl fd)), none, some (.inl i9), v8, v9, v10] [] h2
                        refine E_s 7 (i' := 82) (ls' := [some (.inr (.inr 44)), some (.inl set), some (.inl 1), some (.inl (szf S T (S 0 0) (T 0 0) (-1) 1 set)), some (.inl 1), some (.inr (.inl fd)), none, some (.inl i9), v8, v9, v10]) (sk' := [.inl i9, .inr (.inr 55), .inr (.inr 39), .inl set]) (h' := h2) rfl ?_
                        refine E_ld (x := (.iaload, 0, [], [])) (ty := .int) (n := 150) rfl rfl rfl (by omega) (by omega) ?_
                        show xEx G0 cdX7_waysOf (some .int) (xRn G0 MT (d + 5)) Q b 83 [some (.inr (.inr 44)), some (.inl set), some (.inl 1), some (.inl (szf S T (S 0 0) (T 0 0) (-1) 1 set)), some (.inl 1), some (.inr (.inl fd)), none, some (.inl i9), v8, v9, v10] [.inl (h2 55 i9), .inr (.inr 39), .inl set] h2
                        refine E_ld (x := (.iaload, 0, [], [])) (ty := .int) (n := 150) rfl rfl rfl (by omega) (by omega) ?_
                        show xEx G0 cdX7_waysOf (some .int) (xRn G0 MT (d + 5)) Q b 84 [some (.inr (.inr 44)), some (.inl set), some (.inl 1), some (.inl (szf S T (S 0 0) (T 0 0) (-1) 1 set)), some (.inl 1), some (.inr (.inl fd)), none, some (.inl i9), v8, v9, v10] [.inl (h2 39 (h2 55 i9)), .inl set] h2
                        refine E_s 7 (i' := 91) (ls' := [some (.inr (.inr 44)), some (.inl set), some (.inl 1), some (.inl (szf S T (S 0 0) (T 0 0) (-1) 1 set)), some (.inl 1), some (.inr (.inl fd)), none, some (.inl i9), some (.inl (xand set (h2 39 (h2 55 i9)))), v9, v10]) (sk' := [.inl 0, .inl (xand set (h2 39 (h2 55 i9))), .inr (.inr 44)]) (h' := h2) rfl ?_
                        have is1 : ir m (xand set (h2 39 (h2 55 i9))) := by rw [g2]; exact xa_r hV.1.1 hs o4.2.1
                        have is2 : ir m (xxor set (xand set (h2 39 (h2 55 i9)))) := xx_r hV.1.1 hs is1
                        have V2 := SVF_y fy2 hV
                        refine E_cp (x := (.invokevirtual 138, 2, [(5, 68)], [0])) (q := fun r h9 => r = (wyf S T (S 0 0) (T 0 0) 0) (xand set (h2 39 (h2 55 i9))) ∧ FY h2 h9 ∧ SVM h9 S T (-1) m ∧ SVW h9 S T (-1) m) rfl rfl (Nat.le_of_ble_eq_true rfl) (c_wy0 (d + 1) 0 h2 S T (xand set (h2 39 (h2 55 i9))) m V2 m2 w2 (by rw [fy2 _ (by decide)]; exact hb) (by rw [fy2 _ (by decide)]; exact hK) is1 (fun h9 z1 z2 z3 => ⟨_, rfl, rfl, z1, z2, z3⟩)) (fun r3 h3 hq3 => ?_)
                        obtain ⟨e3, f3, m3, w3⟩ := hq3
                        have fy3 : FY h h3 := fy2.tr f3
                        have wr3 := wyf_r hV.1 0 (xand set (h2 39 (h2 55 i9)))
                        show xEx G0 cdX7_waysOf (some .int) (xRn G0 MT (d + 5)) Q b 92 [some (.inr (.inr 44)), some (.inl set), some (.inl 1), some (.inl (szf S T (S 0 0) (T 0 0) (-1) 1 set)), some (.inl 1), some (.inr (.inl fd)), none, some (.inl i9), some (.inl (xand set (h2 39 (h2 55 i9)))), v9, v10] [.inl r3] h3
                        refine E_s 8 (i' := 100) (ls' := [some (.inr (.inr 44)), some (.inl set), some (.inl 1), some (.inl (szf S T (S 0 0) (T 0 0) (-1) 1 set)), some (.inl 1), some (.inr (.inl fd)), none, some (.inl i9), some (.inl (xand set (h2 39 (h2 55 i9)))), v9, v10]) (sk' := [.inl 0, .inl (xxor set (xand set (h2 39 (h2 55 i9)))), .inr (.inr 44), .inr (.inl (w32 r3))]) (h' := h3) rfl ?_
                        refine E_cp (x := (.invokevirtual 138, 2, [(5, 68)], [0])) (q := fun r h9 => r = (wyf S T (S 0 0) (T 0 0) 0) (xxor set (xand set (h2 39 (h2 55 i9)))) ∧ FY h3 h9 ∧ SVM h9 S T (-1) m ∧ SVW h9 S T (-1) m) rfl rfl (Nat.le_of_ble_eq_true rfl) (c_wy0 (d + 1) 0 h3 S T (xxor set (xand set (h2 39 (h2 55 i9)))) m (SVF_y fy3 hV) m3 w3 (by rw [fy3 _ (by decide)]; exact hb) (by rw [fy3 _ (by decide)]; exact hK) is2 (fun h9 z1 z2 z3 => ⟨_, rfl, rfl, z1, z2, z3⟩)) (fun r4 h4 hq4 => ?_)
                        obtain ⟨e4, f4, m4, w4⟩ := hq4
                        have fy4 : FY h h4 := fy3.tr f4
                        have wr4 := wyf_r hV.1 0 (xxor set (xand set (h2 39 (h2 55 i9))))
                        show xEx G0 cdX7_waysOf (some .int) (xRn G0 MT (d + 5)) Q b 101 [some (.inr (.inr 44)), some (.inl set), some (.inl 1), some (.inl (szf S T (S 0 0) (T 0 0) (-1) 1 set)), some (.inl 1), some (.inr (.inl fd)), none, some (.inl i9), some (.inl (xand set (h2 39 (h2 55 i9)))), v9, v10] [.inl r4, .inr (.inl (w32 r3))] h4
                        refine E_s 7 (i' := 108) (ls' := [some (.inr (.inr 44)), some (.inl set), some (.inl 1), some (.inl (szf S T (S 0 0) (T 0 0) (-1) 1 set)), some (.inl 1), some (.inr (.inl fd)), none, some (.inl i9), some (.inl (xand set (h2 39 (h2 55 i9)))), some (.inr (.inl ((w32 r3) * (w32 r4)))), none]) (sk' := [.inr (.inl ((w32 r3) * (w32 r4))), .inr (.inl 1000000000), .inr (.inl fd), .inr (.inl 1000000000)]) (h' := h4) rfl ?_
                        refine E_minl (x := (.invokestatic 143, 0, [], [2])) rfl rfl rfl (Nat.le_of_ble_eq_true rfl) ?_
                        show xEx G0 cdX7_waysOf (some .int) (xRn G0 MT (d + 5)) Q b 109 [some (.inr (.inr 44)), some (.inl set), some (.inl 1), some (.inl (szf S T (S 0 0) (T 0 0) (-1) 1 set)), some (.inl 1), some (.inr (.inl fd)), none, some (.inl i9), some (.inl (xand set (h2 39 (h2 55 i9)))), some (.inr (.inl ((w32 r3) * (w32 r4)))), none] [.inr (.inl (if w64 ((w32 r3) * (w32 r4)) < w64 1000000000 then (w32 r3) * (w32 r4) else 1000000000)), .inr (.inl fd), .inr (.inl 1000000000)] h4
                        refine E_s 1 (i' := 110) (ls' := [some (.inr (.inr 44)), some (.inl set), some (.inl 1), some (.inl (szf S T (S 0 0) (T 0 0) (-1) 1 set)), some (.inl 1), some (.inr (.inl fd)), none, some (.inl i9), some (.inl (xand set (h2 39 (h2 55 i9)))), some (.inr (.inl ((w32 r3) * (w32 r4)))), none]) (sk' := [.inr (.inl (fd + (if w64 ((w32 r3) * (w32 r4)) < w64 1000000000 then (w32 r3) * (w32 r4) else 1000000000))), .inr (.inl 1000000000)]) (h' := h4) rfl ?_
                        refine E_minl (x := (.invokestatic 143, 0, [], [2])) rfl rfl rfl (Nat.le_of_ble_eq_true rfl) ?_
                        show xEx G0 cdX7_waysOf (some .int) (xRn G0 MT (d + 5)) Q b 111 [some (.inr (.inr 44)), some (.inl set), some (.inl 1), some (.inl (szf S T (S 0 0) (T 0 0) (-1) 1 set)), some (.inl 1), some (.inr (.inl fd)), none, some (.inl i9), some (.inl (xand set (h2 39 (h2 55 i9)))), some (.inr (.inl ((w32 r3) * (w32 r4)))), none] [.inr (.inl (if w64 (fd + (if w64 ((w32 r3) * (w32 r4)) < w64 1000000000 then (w32 r3) * (w32 r4) else 1000000000)) < w64 1000000000 then fd + (if w64 ((w32 r3) * (w32 r4)) < w64 1000000000 then (w32 r3) * (w32 r4) else 1000000000) else 1000000000))] h4
                        refine E_s 3 (i' := 51) (ls' := [some (.inr (.inr 44)), some (.inl set), some (.inl 1), some (.inl (szf S T (S 0 0) (T 0 0) (-1) 1 set)), some (.inl 1), some (.inr (.inl (if w64 (fd + (if w64 ((w32 r3) * (w32 r4)) < w64 1000000000 then (w32 r3) * (w32 r4) else 1000000000)) < w64 1000000000 then fd + (if w64 ((w32 r3) * (w32 r4)) < w64 1000000000 then (w32 r3) * (w32 r4) else 1000000000) else 1000000000))), none, some (.inl (i9 + 1)), some (.inl (xand set (h2 39 (h2 55 i9)))), some (.inr (.inl ((w32 r3) * (w32 r4)))), none]) (sk' := []) (h' := h4) rfl ?_
                        exact ih51 h4 (i9 + 1) _ _ _ _ (by omega) (by omega) fy4 m4 w4 (by
                          have y9 := sq.mp (by rw [← e2]; omega)
                          rw [g2] at e3 e4 wr3 wr4
                          have p3 : w32 r3 = r3 := w32_id ⟨by omega, by omega⟩
                          have p4 : w32 r4 = r4 := w32_id ⟨by omega, by omega⟩
                          have pm : 0 ≤ r3 * r4 := Int.mul_nonneg (by omega) (by omega)
                          have pl : r3 * r4 ≤ 1000000000000000000 := mul9 (by omega) (by omega) (by omega) (by omega)
                          have cc := cap_r pm
                          rw [p3, p4, minl_c pm (by omega), minl_c (by omega) (by omega), cap_2 (by omega) pm, wst_y hi0 y9, hfd, e3, e4]) (by omega)
            exact key51 _ h1 0 _ none none none (by omega) hV.2.2.2.2.2.2.1 (FZ_y f1) m1 W1 (by
              show _ = (cnf S set (szf S T (S 0 0) (T 0 0) (-1) 1 set) (S 0 0).toNat)
              rw [cnf_0 hV.1 (by have := szf_le0 (S := S) (T := T) (KE := S 0 0) (KT := T 0 0) (p := -1) 1 set; omega)]) (Nat.lt_succ_self _)
          · rw [c_ne (by first | assumption | (refine ⟨?_, ?_⟩ <;> omega) | (simp only [xr] at *; omega)) (by first | assumption | (refine ⟨?_, ?_⟩ <;> omega) | (simp only [xr] at *; omega))] at c40
            simp only [decide_eq_true_eq, decide_eq_false_iff_not, Decidable.not_not] at c40
            show xEx G0 cdX7_waysOf (some .int) (xRn G0 MT (d + 5)) Q b 41 [some (.inr (.inr 44)), some (.inl set), some (.inl 1), some (.inl (szf S T (S 0 0) (T 0 0) (-1) 1 set)), some (.inl 1), none, none, none, none, none, none] [] h1
            refine E_s 3 (i' := 44) (ls' := [some (.inr (.inr 44)), some (.inl set), some (.inl 1), some (.inl (szf S T (S 0 0) (T 0 0) (-1) 1 set)), some (.inl 1), none, none, none, none, none, none]) (sk' := [.inl (szf S T (S 0 0) (T 0 0) (-1) 1 set), .inl set, .inr (.inr 44)]) (h' := h1) rfl ?_
            have l9 : lf S (S 0 0) (-1) set ≠ -1 := fun y => by
              have : sz0 S (S 0 0) (-1) set = 1000000 := by unfold sz0; rw [if_pos y]
              omega
            have s9 : (szf S T (S 0 0) (T 0 0) (-1) 1 set) = S 4 (lf S (S 0 0) (-1) set) := by
              have : sz0 S (S 0 0) (-1) set = S 4 (lf S (S 0 0) (-1) set) := by unfold sz0; rw [if_neg l9]
              omega
            refine E_ci (x := (.invokevirtual 135, 2, [(5, 69)], [0])) (r := (cnf S set (szf S T (S 0 0) (T 0 0) (-1) 1 set) (S 0 0).toNat)) (h' := h1) rfl rfl (Nat.le_of_ble_eq_true rfl) (c_cntF (d + 2) 0 h1 S T set (szf S T (S 0 0) (T 0 0) (-1) 1 set) m V1 (by rw [so1]; exact hb) (by rw [ge1]; exact hK) hs l9 s9 ⟨rfl, rfl⟩) ?_
            show xEx G0 cdX7_waysOf (some .int) (xRn G0 MT (d + 5)) Q b 45 [some (.inr (.inr 44)), some (.inl set), some (.inl 1), some (.inl (szf S T (S 0 0) (T 0 0) (-1) 1 set)), some (.inl 1), none, none, none, none, none, none] [.inl (cnf S set (szf S T (S 0 0) (T 0 0) (-1) 1 set) (S 0 0).toNat)] h1
            refine E_s 5 (i' := 51) (ls' := [some (.inr (.inr 44)), some (.inl set), some (.inl 1), some (.inl (szf S T (S 0 0) (T 0 0) (-1) 1 set)), some (.inl 1), some (.inr (.inl (w32 (cnf S set (szf S T (S 0 0) (T 0 0) (-1) 1 set) (S 0 0).toNat)))), none, some (.inl 0), none, none, none]) (sk' := []) (h' := h1) rfl ?_
            have key51 : ∀ (n : Nat) (hh : xH) (i9 fd : Int) (v8 v9 v10 : Option xV), (0 ≤ i9) → (i9 ≤ h 44 8) → (FY h hh) → (SVM hh S T (-1) m) → (SVW hh S T (-1) m) → (fd = wst T (szf S T (S 0 0) (T 0 0) (-1) 0) (wyf S T (S 0 0) (T 0 0) 0) set (szf S T (S 0 0) (T 0 0) (-1) 1 set) (cnf S set (szf S T (S 0 0) (T 0 0) (-1) 1 set) (S 0 0).toNat) i9.toNat) → ((h 44 8 - i9).toNat) < n → xEx G0 cdX7_waysOf (some .int) (xRn G0 MT (d + 5)) Q b 51 [some (.inr (.inr 44)), some (.inl set), some (.inl 1), some (.inl (szf S T (S 0 0) (T 0 0) (-1) 1 set)), some (.inl 1), some (.inr (.inl fd)), none, some (.inl i9), v8, v9, v10] [] hh := by
              intro n
              induction n with
              | zero => intro hh i9 fd v8 v9 v10 _ _ _ _ _ _ hm; exact absurd hm (Nat.not_lt_zero _)
              | succ n ih51 =>
                intro hh i9 fd v8 v9 v10 hi0 hi9 fy hm hw hfd hm51
                have ec : hh 44 8 = h 44 8 := by rw [fy _ (by decide)]
                have fr := wst_r (T := T) (f := (szf S T (S 0 0) (T 0 0) (-1) 0)) (g := (wyf S T (S 0 0) (T 0 0) 0)) (set := set) (z := (szf S T (S 0 0) (T 0 0) (-1) 1 set)) (c0 := (cnf S set (szf S T (S 0 0) (T 0 0) (-1) 1 set) (S 0 0).toNat)) (by omega) (fun s => (wyf_r hV.1 0 s).1) i9.toNat
                have kt := hV.1.2.2.1
                have ub := us_id hV.2.2.2.2.2.2
                refine E_s 1 (i' := 52) (ls' := [some (.inr (.inr 44)), some (.inl set), some (.inl 1), some (.inl (szf S T (S 0 0) (T 0 0) (-1) 1 set)), some (.inl 1), some (.inr (.inl fd)), none, some (.inl i9), v8, v9, v10]) (sk' := [.inl 1]) (h' := hh) rfl ?_
                refine E_b (x := (.ifCond .le 113, 114, [], [])) rfl rfl (fun c52 => ?_) (fun c52 => ?_)
                · show xEx G0 cdX7_waysOf (some .int) (xRn G0 MT (d + 5)) Q b 114 [some (.inr (.inr 44)), some (.inl set), some (.inl 1), some (.inl (szf S T (S 0 0) (T 0 0) (-1) 1 set)), some (.inl 1), some (.inr (.inl fd)), none, some (.inl i9), v8, v9, v10] [] hh
                  exact absurd c52 (by decide)
                · show xEx G0 cdX7_waysOf (some .int) (xRn G0 MT (d + 5)) Q b 53 [some (.inr (.inr 44)), some (.inl set), some (.inl 1), some (.inl (szf S T (S 0 0) (T 0 0) (-1) 1 set)), some (.inl 1), some (.inr (.inl fd)), none, some (.inl i9), v8, v9, v10] [] hh
                  refine E_s 3 (i' := 56) (ls' := [some (.inr (.inr 44)), some (.inl set), some (.inl 1), some (.inl (szf S T (S 0 0) (T 0 0) (-1) 1 set)), some (.inl 1), some (.inr (.inl fd)), none, some (.inl i9), v8, v9, v10]) (sk' := [.inl (hh 44 8), .inl i9]) (h' := hh) rfl ?_
                  refine E_b (x := (.if_icmp .ge 104, 114, [], [])) rfl rfl (fun c56 => ?_) (fun c56 => ?_)
                  · rw [c_ge (by first | assumption | (refine ⟨?_, ?_⟩ <;> omega) | (simp only [xr] at *; omega)) (by first | assumption | (refine ⟨?_, ?_⟩ <;> omega) | (simp only [xr] at *; omega))] at c56
                    simp only [decide_eq_true_eq, decide_eq_false_iff_not, Decidable.not_not] at c56
                    show xEx G0 cdX7_waysOf (some .int) (xRn G0 MT (d + 5)) Q b 114 [some (.inr (.inr 44)), some (.inl set), some (.inl 1), some (.inl (szf S T (S 0 0) (T 0 0) (-1) 1 set)), some (.inl 1), some (.inr (.inl fd)), none, some (.inl i9), v8, v9, v10] [] hh
                    have hfin : fd = (wyf S T (S 0 0) (T 0 0) 1 set) := by
                      show fd = (if 1000000 ≤ (szf S T (S 0 0) (T 0 0) (-1) 1 set) then 0 else wst T (szf S T (S 0 0) (T 0 0) (-1) 0) (wyf S T (S 0 0) (T 0 0) 0) set (szf S T (S 0 0) (T 0 0) (-1) 1 set) (cnf S set (szf S T (S 0 0) (T 0 0) (-1) 1 set) (S 0 0).toNat) (T 0 0).toNat)
                      rw [if_neg (by omega), hfd]
                      first
                      | (rw [show i9 = T 0 0 by omega]; done)
                      | exact (wst_end hV.1 (fun s => (szf_r (p := -1) hV.1 0 s).1) hi0 (by omega) (by have := o0 q5 (by omega); rw [g4] at this; omega)).symm
                    have fr2 := fr
                    have r4 := ir4 hV.1.1 hs
                    refine E_s 1 (i' := 115) (ls' := [some (.inr (.inr 44)), some (.inl set), some (.inl 1), some (.inl (szf S T (S 0 0) (T 0 0) (-1) 1 set)), some (.inl 1), some (.inr (.inl fd)), none, some (.inl i9), v8, v9, v10]) (sk' := [.inl 1]) (h' := hh) rfl ?_
                    refine E_b (x := (.ifCond .eq 14, 124, [], [])) rfl rfl (fun c115 => ?_) (fun c115 => ?_)
                    · show xEx G0 cdX7_waysOf (some .int) (xRn G0 MT (d + 5)) Q b 124 [some (.inr (.inr 44)), some (.inl set), some (.inl 1), some (.inl (szf S T (S 0 0) (T 0 0) (-1) 1 set)), some (.inl 1), some (.inr (.inl fd)), none, some (.inl i9), v8, v9, v10] [] hh
                      exact absurd c115 (by decide)
                    · show xEx G0 cdX7_waysOf (some .int) (xRn G0 MT (d + 5)) Q b 116 [some (.inr (.inr 44)), some (.inl set), some (.inl 1), some (.inl (szf S T (S 0 0) (T 0 0) (-1) 1 set)), some (.inl 1), some (.inr (.inl fd)), none, some (.inl i9), v8, v9, v10] [] hh
                      refine E_s 3 (i' := 119) (ls' := [some (.inr (.inr 44)), some (.inl set), some (.inl 1), some (.inl (szf S T (S 0 0) (T 0 0) (-1) 1 set)), some (.inl 1), some (.inr (.inl fd)), none, some (.inl i9), v8, v9, v10]) (sk' := [.inl 1, .inr (.inr 47)]) (h' := hh) rfl ?_
                      refine E_ald (x := (.aaload, 0, [], [])) 1 rfl rfl rfl (rfl) rfl ?_
                      show xEx G0 cdX7_waysOf (some .int) (xRn G0 MT (d + 5)) Q b 120 [some (.inr (.inr 44)), some (.inl set), some (.inl 1), some (.inl (szf S T (S 0 0) (T 0 0) (-1) 1 set)), some (.inl 1), some (.inr (.inl fd)), none, some (.inl i9), v8, v9, v10] [.inr (.inr 52)] hh
                      refine E_s 3 (i' := 123) (ls' := [some (.inr (.inr 44)), some (.inl set), some (.inl 1), some (.inl (szf S T (S 0 0) (T 0 0) (-1) 1 set)), some (.inl 1), some (.inr (.inl fd)), none, some (.inl i9), v8, v9, v10]) (sk' := [.inl fd, .inl set, .inr (.inr 52)]) (h' := hh) rfl ?_
                      refine E_sd (x := (.iastore, 0, [], [])) (ty := .int) (n := 4096) (y := fd) rfl rfl rfl (by omega) (by omega) (trivial) ?_
                      show xEx G0 cdX7_waysOf (some .int) (xRn G0 MT (d + 5)) Q b 124 [some (.inr (.inr 44)), some (.inl set), some (.inl 1), some (.inl (szf S T (S 0 0) (T 0 0) (-1) 1 set)), some (.inl 1), some (.inr (.inl fd)), none, some (.inl i9), v8, v9, v10] [] (xup hh 52 set fd)
                      refine E_s 2 (i' := 126) (ls' := [some (.inr (.inr 44)), some (.inl set), some (.inl 1), some (.inl (szf S T (S 0 0) (T 0 0) (-1) 1 set)), some (.inl 1), some (.inr (.inl fd)), none, some (.inl i9), v8, v9, v10]) (sk' := [.inl fd]) (h' := (xup hh 52 set fd)) rfl ?_
                      exact E_ret (x := (.ireturn, 0, [], [])) (v := some (.inl fd)) rfl (Or.inl rfl) (by
                        have r9 := hQ _ ((fy).up ⟨by decide, by decide⟩) (SVM_w (by decide) hm) (SVW_1 hw _ hfin)
                        rw [← hfin] at r9
                        exact r9)
                  · rw [c_ge (by first | assumption | (refine ⟨?_, ?_⟩ <;> omega) | (simp only [xr] at *; omega)) (by first | assumption | (refine ⟨?_, ?_⟩ <;> omega) | (simp only [xr] at *; omega))] at c56
                    simp only [decide_eq_true_eq, decide_eq_false_iff_not, Decidable.not_not] at c56
                    show xEx G0 cdX7_waysOf (some .int) (xRn G0 MT (d + 5)) Q b 57 [some (.inr (.inr 44)), some (.inl set), some (.inl 1), some (.inl (szf S T (S 0 0) (T 0 0) (-1) 1 set)), some (.inl 1), some (.inr (.inl fd)), none, some (.inl i9), v8, v9, v10] [] hh
                    refine E_s 4 (i' := 61) (ls' := [some (.inr (.inr 44)), some (.inl set), some (.inl 1), some (.inl (szf S T (S 0 0) (T 0 0) (-1) 1 set)), some (.inl 1), some (.inr (.inl fd)), none, some (.inl i9), v8, v9, v10]) (sk' := [.inl i9, .inr (.inr 55), .inr (.inr 44)]) (h' := hh) rfl ?_
                    refine E_ld (x := (.iaload, 0, [], [])) (ty := .int) (n := 150) rfl rfl rfl (by omega) (by omega) ?_
                    show xEx G0 cdX7_waysOf (some .int) (xRn G0 MT (d + 5)) Q b 62 [some (.inr (.inr 44)), some (.inl set), some (.inl 1), some (.inl (szf S T (S 0 0) (T 0 0) (-1) 1 set)), some (.inl 1), some (.inr (.inl fd)), none, some (.inl i9), v8, v9, v10] [.inl (hh 55 i9), .inr (.inr 44)] hh
                    refine E_s 1 (i' := 63) (ls' := [some (.inr (.inr 44)), some (.inl set), some (.inl 1), some (.inl (szf S T (S 0 0) (T 0 0) (-1) 1 set)), some (.inl 1), some (.inr (.inl fd)), none, some (.inl i9), v8, v9, v10]) (sk' := [.inl (szf S T (S 0 0) (T 0 0) (-1) 1 set), .inl (hh 55 i9), .inr (.inr 44)]) (h' := hh) rfl ?_
                    have uu : hh 55 i9 = i9 := by rw [fy _ (by decide)]; exact ub.2 i9 hi0 (by omega)
                    have o4 := hV.1.2.2.2.2 i9 hi0 (by omega)
                    have g4 : hh 37 (hh 55 i9) = T 4 i9 := by rw [uu, fy _ (by decide)]; exact (hV.2.1 i9 hi0 (by omega)).1
                    have g6 : hh 39 (hh 55 i9) = T 6 i9 := by rw [uu, fy _ (by decide)]; exact (hV.2.1 i9 hi0 (by omega)).2
                    refine E_cp (x := (.invokevirtual 103, 2, [(5, 64)], [0])) (q := fun r5 h9 => ((r5 = 1 ∧ (hh 37 (hh 55 i9) + 3 ≤ (szf S T (S 0 0) (T 0 0) (-1) 1 set))) ∨ (r5 = 0 ∧ ¬ (hh 37 (hh 55 i9) + 3 ≤ (szf S T (S 0 0) (T 0 0) (-1) 1 set)))) ∧ hh = h9) rfl rfl (Nat.le_of_ble_eq_true rfl) (c_mayDo (d + 4) 0 hh (hh 55 i9) (szf S T (S 0 0) (T 0 0) (-1) 1 set) ⟨by omega, by omega⟩ ⟨by omega, by omega⟩ ⟨by omega, by omega⟩ (fun z => ⟨_, rfl, Or.inl ⟨rfl, z⟩, rfl⟩) (fun z => ⟨_, rfl, Or.inr ⟨rfl, z⟩, rfl⟩)) (fun r5 h9 q5 => ?_)
                    obtain ⟨q5, rfl⟩ := q5
                    show xEx G0 cdX7_waysOf (some .int) (xRn G0 MT (d + 5)) Q b 64 [some (.inr (.inr 44)), some (.inl set), some (.inl 1), some (.inl (szf S T (S 0 0) (T 0 0) (-1) 1 set)), some (.inl 1), some (.inr (.inl fd)), none, some (.inl i9), v8, v9, v10] [.inl r5] hh
                    refine E_b (x := (.ifCond .eq 89, 114, [], [])) rfl rfl (fun c64 => ?_) (fun c64 => ?_)
                    · rw [c_eq (by first | assumption | (refine ⟨?_, ?_⟩ <;> omega) | (simp only [xr] at *; omega)) (by first | assumption | (refine ⟨?_, ?_⟩ <;> omega) | (simp only [xr] at *; omega))] at c64
                      simp only [decide_eq_true_eq, decide_eq_false_iff_not, Decidable.not_not] at c64
                      show xEx G0 cdX7_waysOf (some .int) (xRn G0 MT (d + 5)) Q b 114 [some (.inr (.inr 44)), some (.inl set), some (.inl 1), some (.inl (szf S T (S 0 0) (T 0 0) (-1) 1 set)), some (.inl 1), some (.inr (.inl fd)), none, some (.inl i9), v8, v9, v10] [] hh
                      have hfin : fd = (wyf S T (S 0 0) (T 0 0) 1 set) := by
                        show fd = (if 1000000 ≤ (szf S T (S 0 0) (T 0 0) (-1) 1 set) then 0 else wst T (szf S T (S 0 0) (T 0 0) (-1) 0) (wyf S T (S 0 0) (T 0 0) 0) set (szf S T (S 0 0) (T 0 0) (-1) 1 set) (cnf S set (szf S T (S 0 0) (T 0 0) (-1) 1 set) (S 0 0).toNat) (T 0 0).toNat)
                        rw [if_neg (by omega), hfd]
                        first
                        | (rw [show i9 = T 0 0 by omega]; done)
                        | exact (wst_end hV.1 (fun s => (szf_r (p := -1) hV.1 0 s).1) hi0 (by omega) (by have := o0 q5 (by omega); rw [g4] at this; omega)).symm
                      have fr2 := fr
                      have r4 := ir4 hV.1.1 hs
                      refine E_s 1 (i' := 115) (ls' := [some (.inr (.inr 44)), some (.inl set), some (.inl 1), some (.inl (szf S T (S 0 0) (T 0 0) (-1) 1 set)), some (.inl 1), some (.inr (.inl fd)), none, some (.inl i9), v8, v9, v10]) (sk' := [.inl 1]) (h' := hh) rfl ?_
                      refine E_b (x := (.ifCond .eq 14, 124, [], [])) rfl rfl (fun c115 => ?_) (fun c115 => ?_)
                      · show xEx G0 cdX7_waysOf (some .int) (xRn G0 MT (d + 5)) Q b 124 [some (.inr (.inr 44)), some (.inl set), some (.inl 1), some (.inl (szf S T (S 0 0) (T 0 0) (-1) 1 set)), some (.inl 1), some (.inr (.inl fd)), none, some (.inl i9), v8, v9, v10] [] hh
                        exact absurd c115 (by decide)
                      · show xEx G0 cdX7_waysOf (some .int) (xRn G0 MT (d + 5)) Q b 116 [some (.inr (.inr 44)), some (.inl set), some (.inl 1), some (.inl (szf S T (S 0 0) (T 0 0) (-1) 1 set)), some (.inl 1), some (.inr (.inl fd)), none, some (.inl i9), v8, v9, v10] [] hh
                        refine E_s 3 (i' := 119) (ls' := [some (.inr (.inr 44)), some (.inl set), some (.inl 1), some (.inl (szf S T (S 0 0) (T 0 0) (-1) 1 set)), some (.inl 1), some (.inr (.inl fd)), none, some (.inl i9), v8, v9, v10]) (sk' := [.inl 1, .inr (.inr 47)]) (h' := hh) rfl ?_
                        refine E_ald (x := (.aaload, 0, [], [])) 1 rfl rfl rfl (rfl) rfl ?_
                        show xEx G0 cdX7_waysOf (some .int) (xRn G0 MT (d + 5)) Q b 120 [some (.inr (.inr 44)), some (.inl set), some (.inl 1), some (.inl (szf S T (S 0 0) (T 0 0) (-1) 1 set)), some (.inl 1), some (.inr (.inl fd)), none, some (.inl i9), v8, v9, v10] [.inr (.inr 52)] hh
                        refine E_s 3 (i' := 123) (ls' := [some (.inr (.inr 44)), some (.inl set), some (.inl 1), some (.inl (szf S T (S 0 0) (T 0 0) (-1) 1 set)), some (.inl 1), some (.inr (.inl fd)), none, some (.inl i9), v8, v9, v10]) (sk' := [.inl fd, .inl set, .inr (.inr 52)]) (h' := hh) rfl ?_
                        refine E_sd (x := (.iastore, 0, [], [])) (ty := .int) (n := 4096) (y := fd) rfl rfl rfl (by omega) (by omega) (trivial) ?_
                        show xEx G0 cdX7_waysOf (some .int) (xRn G0 MT (d + 5)) Q b 124 [some (.inr (.inr 44)), some (.inl set), some (.inl 1), some (.inl (szf S T (S 0 0) (T 0 0) (-1) 1 set)), some (.inl 1), some (.inr (.inl fd)), none, some (.inl i9), v8, v9, v10] [] (xup hh 52 set fd)
                        refine E_s 2 (i' := 126) (ls' := [some (.inr (.inr 44)), some (.inl set), some (.inl 1), some (.inl (szf S T (S 0 0) (T 0 0) (-1) 1 set)), some (.inl 1), some (.inr (.inl fd)), none, some (.inl i9), v8, v9, v10]) (sk' := [.inl fd]) (h' := (xup hh 52 set fd)) rfl ?_
                        exact E_ret (x := (.ireturn, 0, [], [])) (v := some (.inl fd)) rfl (Or.inl rfl) (by
                          have r9 := hQ _ ((fy).up ⟨by decide, by decide⟩) (SVM_w (by decide) hm) (SVW_1 hw _ hfin)
                          rw [← hfin] at r9
                          exact r9)
                    · rw [c_eq (by first | assumption | (refine ⟨?_, ?_⟩ <;> omega) | (simp only [xr] at *; omega)) (by first | assumption | (refine ⟨?_, ?_⟩ <;> omega) | (simp only [xr] at *; omega))] at c64
                      simp only [decide_eq_true_eq, decide_eq_false_iff_not, Decidable.not_not] at c64
                      show xEx G0 cdX7_waysOf (some .int) (xRn G0 MT (d + 5)) Q b 65 [some (.inr (.inr 44)), some (.inl set), some (.inl 1), some (.inl (szf S T (S 0 0) (T 0 0) (-1) 1 set)), some (.inl 1), some (.inr (.inl fd)), none, some (.inl i9), v8, v9, v10] [] hh
                      refine E_s 4 (i' := 69) (ls' := [some (.inr (.inr 44)), some (.inl set), some (.inl 1), some (.inl (szf S T (S 0 0) (T 0 0) (-1) 1 set)), some (.inl 1), some (.inr (.inl fd)), none, some (.inl i9), v8, v9, v10]) (sk' := [.inl i9, .inr (.inr 55), .inr (.inr 44)]) (h' := hh) rfl ?_
                      refine E_ld (x := (.iaload, 0, [], [])) (ty := .int) (n := 150) rfl rfl rfl (by omega) (by omega) ?_
                      show xEx G0 cdX7_waysOf (some .int) (xRn G0 MT (d + 5)) Q b 70 [some (.inr (.inr 44)), some (.inl set), some (.inl 1), some (.inl (szf S T (S 0 0) (T 0 0) (-1) 1 set)), some (.inl 1), some (.inr (.inl fd)), none, some (.inl i9), v8, v9, v10] [.inl (hh 55 i9), .inr (.inr 44)] hh
                      refine E_s 2 (i' := 72) (ls' := [some (.inr (.inr 44)), some (.inl set), some (.inl 1), some (.inl (szf S T (S 0 0) (T 0 0) (-1) 1 set)), some (.inl 1), some (.inr (.inl fd)), none, some (.inl i9), v8, v9, v10]) (sk' := [.inl 1, .inl set, .inl (hh 55 i9), .inr (.inr 44)]) (h' := hh) rfl ?_
                      refine E_cp (x := (.invokevirtual 106, 3, [(5, 65)], [0])) (q := fun r h9 => r = swf T (szf S T (S 0 0) (T 0 0) (-1) 0) set (hh 55 i9) ∧ FZ hh h9 ∧ SVM h9 S T (-1) m) rfl rfl (Nat.le_of_ble_eq_true rfl) (c_szW1 (d + 3) 0 hh S T (-1) set m (hh 55 i9) (SVF_y fy hV) hm hs ⟨by omega, by omega⟩ (fun h9 z1 z2 => ⟨_, rfl, rfl, z1, z2⟩)) (fun r2 h2 hq2 => ?_)
                      obtain ⟨e2, f2, m2⟩ := hq2
                      rw [uu] at e2
                      have sr := swf_r (T := T) (f := (szf S T (S 0 0) (T 0 0) (-1) 0)) (set := set) (t := i9) ⟨by omega, by omega⟩ (szf_r (p := -1) hV.1 0)
                      have sq := swf_eq (T := T) (p := -1) (f := (szf S T (S 0 0) (T 0 0) (-1) 0)) (set := set) (t := i9) (b := (szf S T (S 0 0) (T 0 0) (-1) 1 set)) (Or.inl rfl) (by omega) (szf_r (p := -1) hV.1 0) (by omega)
                      have fy2 : FY h h2 := fy.tr (FZ_y f2)
                      have w2 : SVW h2 S T (-1) m := SVW_z f2 hw
                      have u2 : h2 55 i9 = i9 := by rw [f2 _ (by decide) (by decide)]; exact uu
                      have g2 : h2 39 (h2 55 i9) = T 6 i9 := by rw [u2, fy2 _ (by decide)]; exact (hV.2.1 i9 hi0 (by omega)).2
                      show xEx G0 cdX7_waysOf (some .int) (xRn G0 MT (d + 5)) Q b 73 [some (.inr (.inr 44)), some (.inl set), some (.inl 1), some (.inl (szf S T (S 0 0) (T 0 0) (-1) 1 set)), some (.inl 1), some (.inr (.inl fd)), none, some (.inl i9), v8, v9, v10] [.inl r2] h2
                      refine E_s 1 (i' := 74) (ls' := [some (.inr (.inr 44)), some (.inl set), some (.inl 1), some (.inl (szf S T (S 0 0) (T 0 0) (-1) 1 set)), some (.inl 1), some (.inr (.inl fd)), none, some (.inl i9), v8, v9, v10]) (sk' := [.inl (szf S T (S 0 0) (T 0 0) (-1) 1 set), .inl r2]) (h' := h2) rfl ?_
                      refine E_b (x := (.if_icmp .ne 66, 112, [], [])) rfl rfl (fun c74 => ?_) (fun c74 => ?_)
                      · rw [c_ne (by first | assumption | (refine ⟨?_, ?_⟩ <;> omega) | (simp only [xr] at *; omega)) (by first | assumption | (refine ⟨?_, ?_⟩ <;> omega) | (simp only [xr] at *; omega))] at c74
                        simp only [decide_eq_true_eq, decide_eq_false_iff_not, Decidable.not_not] at c74
                        show xEx G0 cdX7_waysOf (some .int) (xRn G0 MT (d + 5)) Q b 112 [some (.inr (.inr 44)), some (.inl set), some (.inl 1), some (.inl (szf S T (S 0 0) (T 0 0) (-1) 1 set)), some (.inl 1), some (.inr (.inl fd)), none, some (.inl i9), v8, v9, v10] [] h2
                        refine E_s 2 (i' := 51) (ls' := [some (.inr (.inr 44)), some (.inl set), some (.inl 1), some (.inl (szf S T (S 0 0) (T 0 0) (-1) 1 set)), some (.inl 1), some (.inr (.inl fd)), none, some (.inl (i9 + 1)), v8, v9, v10]) (sk' := []) (h' := h2) rfl ?_
                        exact ih51 h2 (i9 + 1) fd _ _ _ (by omega) (by omega) fy2 m2 w2 (by rw [wst_n hi0 (fun y => c74 (by rw [e2]; exact sq.mpr y)), hfd]) (by omega)
                      · rw [c_ne (by first | assumption | (refine ⟨?_, ?_⟩ <;> omega) | (simp only [xr] at *; omega)) (by first | assumption | (refine ⟨?_, ?_⟩ <;> omega) | (simp only [xr] at *; omega))] at c74
                        simp only [decide_eq_true_eq, decide_eq_false_iff_not, Decidable.not_not] at c74
                        show xEx G0 cdX7_waysOf (some .int) (xRn G0 MT (d + 5)) Q b 75 [some (.inr (.inr 44)), some (.inl set), some (.inl 1), some (.inl (szf S T (S 0 0) (T 0 0) (-1) 1 set)), some (.inl 1), some (.inr (.inl fd)), none, some (.inl i9), v8, v9, v10] [] h2
                        refine E_s 7 (i' := 82) (ls' := [some (.inr (.inr 44)), some (.inl set), some (.inl 1), some (.inl (szf S T (S 0 0) (T 0 0) (-1) 1 set)), some (.inl 1), some (.inr (.inl fd)), none, some (.inl i9), v8, v9, v10]) (sk' := [.inl i9, .inr (.inr 55), .inr (.inr 39), .inl set]) (h' := h2) rfl ?_
                        refine E_ld (x := (.iaload, 0, [], [])) (ty := .int) (n := 150) rfl rfl rfl (by omega) (by omega) ?_
                        show xEx G0 cdX7_waysOf (some .int) (xRn G0 MT (d + 5)) Q b 83 [some (.inr (.inr 44)), some (.inl set), some (.inl 1), some (.inl (szf S T (S 0 0) (T 0 0) (-1) 1 set)), some (.inl 1), some (.inr (.inl fd)), none, some (.inl i9), v8, v9, v10] [.inl (h2 55 i9), .inr (.inr 39), .inl set] h2
                        refine E_ld (x := (.iaload, 0, [], [])) (ty := .int) (n := 150) rfl rfl rfl (by omega) (by omega) ?_
                        show xEx G0 cdX7_waysOf (some .int) (xRn G0 MT (d + 5)) Q b 84 [some (.inr (.inr 44)), some (.inl set), some (.inl 1), some (.inl (szf S T (S 0 0) (T 0 0) (-1) 1 set)), some (.inl 1), some (.inr (.inl fd)), none, some (.inl i9), v8, v9, v10] [.inl (h2 39 (h2 55 i9)), .inl set] h2
                        refine E_s 7 (i' := 91) (ls' := [some (.inr (.inr 44)), some (.inl set), some (.inl 1), some (.inl (szf S T (S 0 0) (T 0 0) (-1) 1 set)), some (.inl 1), some (.inr (.inl fd)), none, some (.inl i9), some (.inl (xand set (h2 39 (h2 55 i9)))), v9, v10]) (sk' := [.inl 0, .inl (xand set (h2 39 (h2 55 i9))), .inr (.inr 44)]) (h' := h2) rfl ?_
                        have is1 : ir m (xand set (h2 39 (h2 55 i9))) := by rw [g2]; exact xa_r hV.1.1 hs o4.2.1
                        have is2 : ir m (xxor set (xand set (h2 39 (h2 55 i9)))) := xx_r hV.1.1 hs is1
                        have V2 := SVF_y fy2 hV
                        refine E_cp (x := (.invokevirtual 138, 2, [(5, 68)], [0])) (q := fun r h9 => r = (wyf S T (S 0 0) (T 0 0) 0) (xand set (h2 39 (h2 55 i9))) ∧ FY h2 h9 ∧ SVM h9 S T (-1) m ∧ SVW h9 S T (-1) m) rfl rfl (Nat.le_of_ble_eq_true rfl) (c_wy0 (d + 1) 0 h2 S T (xand set (h2 39 (h2 55 i9))) m V2 m2 w2 (by rw [fy2 _ (by decide)]; exact hb) (by rw [fy2 _ (by decide)]; exact hK) is1 (fun h9 z1 z2 z3 => ⟨_, rfl, rfl, z1, z2, z3⟩)) (fun r3 h3 hq3 => ?_)
                        obtain ⟨e3, f3, m3, w3⟩ := hq3
                        have fy3 : FY h h3 := fy2.tr f3
                        have wr3 := wyf_r hV.1 0 (xand set (h2 39 (h2 55 i9)))
                        show xEx G0 cdX7_waysOf (some .int) (xRn G0 MT (d + 5)) Q b 92 [some (.inr (.inr 44)), some (.inl set), some (.inl 1), some (.inl (szf S T (S 0 0) (T 0 0) (-1) 1 set)), some (.inl 1), some (.inr (.inl fd)), none, some (.inl i9), some (.inl (xand set (h2 39 (h2 55 i9)))), v9, v10] [.inl r3] h3
                        refine E_s 8 (i' := 100) (ls' := [some (.inr (.inr 44)), some (.inl set), some (.inl 1), some (.inl (szf S T (S 0 0) (T 0 0) (-1) 1 set)), some (.inl 1), some (.inr (.inl fd)), none, some (.inl i9), some (.inl (xand set (h2 39 (h2 55 i9)))), v9, v10]) (sk' := [.inl 0, .inl (xxor set (xand set (h2 39 (h2 55 i9)))), .inr (.inr 44), .inr (.inl (w32 r3))]) (h' := h3) rfl ?_
                        refine E_cp (x := (.invokevirtual 138, 2, [(5, 68)], [0])) (q := fun r h9 => r = (wyf S T (S 0 0) (T 0 0) 0) (xxor set (xand set (h2 39 (h2 55 i9)))) ∧ FY h3 h9 ∧ SVM h9 S T (-1) m ∧ SVW h9 S T (-1) m) rfl rfl (Nat.le_of_ble_eq_true rfl) (c_wy0 (d + 1) 0 h3 S T (xxor set (xand set (h2 39 (h2 55 i9)))) m (SVF_y fy3 hV) m3 w3 (by rw [fy3 _ (by decide)]; exact hb) (by rw [fy3 _ (by decide)]; exact hK) is2 (fun h9 z1 z2 z3 => ⟨_, rfl, rfl, z1, z2, z3⟩)) (fun r4 h4 hq4 => ?_)
                        obtain ⟨e4, f4, m4, w4⟩ := hq4
                        have fy4 : FY h h4 := fy3.tr f4
                        have wr4 := wyf_r hV.1 0 (xxor set (xand set (h2 39 (h2 55 i9))))
                        show xEx G0 cdX7_waysOf (some .int) (xRn G0 MT (d + 5)) Q b 101 [some (.inr (.inr 44)), some (.inl set), some (.inl 1), some (.inl (szf S T (S 0 0) (T 0 0) (-1) 1 set)), some (.inl 1), some (.inr (.inl fd)), none, some (.inl i9), some (.inl (xand set (h2 39 (h2 55 i9)))), v9, v10] [.inl r4, .inr (.inl (w32 r3))] h4
                        refine E_s 7 (i' := 108) (ls' := [some (.inr (.inr 44)), some (.inl set), some (.inl 1), some (.inl (szf S T (S 0 0) (T 0 0) (-1) 1 set)), some (.inl 1), some (.inr (.inl fd)), none, some (.inl i9), some (.inl (xand set (h2 39 (h2 55 i9)))), some (.inr (.inl ((w32 r3) * (w32 r4)))), none]) (sk' := [.inr (.inl ((w32 r3) * (w32 r4))), .inr (.inl 1000000000), .inr (.inl fd), .inr (.inl 1000000000)]) (h' := h4) rfl ?_
                        refine E_minl (x := (.invokestatic 143, 0, [], [2])) rfl rfl rfl (Nat.le_of_ble_eq_true rfl) ?_
                        show xEx G0 cdX7_waysOf (some .int) (xRn G0 MT (d + 5)) Q b 109 [some (.inr (.inr 44)), some (.inl set), some (.inl 1), some (.inl (szf S T (S 0 0) (T 0 0) (-1) 1 set)), some (.inl 1), some (.inr (.inl fd)), none, some (.inl i9), some (.inl (xand set (h2 39 (h2 55 i9)))), some (.inr (.inl ((w32 r3) * (w32 r4)))), none] [.inr (.inl (if w64 ((w32 r3) * (w32 r4)) < w64 1000000000 then (w32 r3) * (w32 r4) else 1000000000)), .inr (.inl fd), .inr (.inl 1000000000)] h4
                        refine E_s 1 (i' := 110) (ls' := [some (.inr (.inr 44)), some (.inl set), some (.inl 1), some (.inl (szf S T (S 0 0) (T 0 0) (-1) 1 set)), some (.inl 1), some (.inr (.inl fd)), none, some (.inl i9), some (.inl (xand set (h2 39 (h2 55 i9)))), some (.inr (.inl ((w32 r3) * (w32 r4)))), none]) (sk' := [.inr (.inl (fd + (if w64 ((w32 r3) * (w32 r4)) < w64 1000000000 then (w32 r3) * (w32 r4) else 1000000000))), .inr (.inl 1000000000)]) (h' := h4) rfl ?_
                        refine E_minl (x := (.invokestatic 143, 0, [], [2])) rfl rfl rfl (Nat.le_of_ble_eq_true rfl) ?_
                        show xEx G0 cdX7_waysOf (some .int) (xRn G0 MT (d + 5)) Q b 111 [some (.inr (.inr 44)), some (.inl set), some (.inl 1), some (.inl (szf S T (S 0 0) (T 0 0) (-1) 1 set)), some (.inl 1), some (.inr (.inl fd)), none, some (.inl i9), some (.inl (xand set (h2 39 (h2 55 i9)))), some (.inr (.inl ((w32 r3) * (w32 r4)))), none] [.inr (.inl (if w64 (fd + (if w64 ((w32 r3) * (w32 r4)) < w64 1000000000 then (w32 r3) * (w32 r4) else 1000000000)) < w64 1000000000 then fd + (if w64 ((w32 r3) * (w32 r4)) < w64 1000000000 then (w32 r3) * (w32 r4) else 1000000000) else 1000000000))] h4
                        refine E_s 3 (i' := 51) (ls' := [some (.inr (.inr 44)), some (.inl set), some (.inl 1), some (.inl (szf S T (S 0 0) (T 0 0) (-1) 1 set)), some (.inl 1), some (.inr (.inl (if w64 (fd + (if w64 ((w32 r3) * (w32 r4)) < w64 1000000000 then (w32 r3) * (w32 r4) else 1000000000)) < w64 1000000000 then fd + (if w64 ((w32 r3) * (w32 r4)) < w64 1000000000 then (w32 r3) * (w32 r4) else 1000000000) else 1000000000))), none, some (.inl (i9 + 1)), some (.inl (xand set (h2 39 (h2 55 i9)))), some (.inr (.inl ((w32 r3) * (w32 r4)))), none]) (sk' := []) (h' := h4) rfl ?_
                        exact ih51 h4 (i9 + 1) _ _ _ _ (by omega) (by omega) fy4 m4 w4 (by
                          have y9 := sq.mp (by rw [← e2]; omega)
                          rw [g2] at e3 e4 wr3 wr4
                          have p3 : w32 r3 = r3 := w32_id ⟨by omega, by omega⟩
                          have p4 : w32 r4 = r4 := w32_id ⟨by omega, by omega⟩
                          have pm : 0 ≤ r3 * r4 := Int.mul_nonneg (by omega) (by omega)
                          have pl : r3 * r4 ≤ 1000000000000000000 := mul9 (by omega) (by omega) (by omega) (by omega)
                          have cc := cap_r pm
                          rw [p3, p4, minl_c pm (by omega), minl_c (by omega) (by omega), cap_2 (by omega) pm, wst_y hi0 y9, hfd, e3, e4]) (by omega)
            exact key51 _ h1 0 _ none none none (by omega) hV.2.2.2.2.2.2.1 (FZ_y f1) m1 W1 (by
              show _ = (cnf S set (szf S T (S 0 0) (T 0 0) (-1) 1 set) (S 0 0).toNat)
              exact w32_id ⟨by omega, by omega⟩) (Nat.lt_succ_self _)
        · rw [c_eq (by first | assumption | (refine ⟨?_, ?_⟩ <;> omega) | (simp only [xr] at *; omega)) (by first | assumption | (refine ⟨?_, ?_⟩ <;> omega) | (simp only [xr] at *; omega))] at c25
          simp only [decide_eq_true_eq, decide_eq_false_iff_not, Decidable.not_not] at c25
          show xEx G0 cdX7_waysOf (some .int) (xRn G0 MT (d + 5)) Q b 26 [some (.inr (.inr 44)), some (.inl set), some (.inl 1), some (.inl (szf S T (S 0 0) (T 0 0) (-1) 1 set)), some (.inl 1), none, none, none, none, none, none] [] h1
          refine E_s 3 (i' := 29) (ls' := [some (.inr (.inr 44)), some (.inl set), some (.inl 1), some (.inl (szf S T (S 0 0) (T 0 0) (-1) 1 set)), some (.inl 1), none, none, none, none, none, none]) (sk' := [.inl 1, .inr (.inr 47)]) (h' := h1) rfl ?_
          refine E_ald (x := (.aaload, 0, [], [])) 1 rfl rfl rfl (rfl) rfl ?_
          show xEx G0 cdX7_waysOf (some .int) (xRn G0 MT (d + 5)) Q b 30 [some (.inr (.inr 44)), some (.inl set), some (.inl 1), some (.inl (szf S T (S 0 0) (T 0 0) (-1) 1 set)), some (.inl 1), none, none, none, none, none, none] [.inr (.inr 52)] h1
          refine E_s 1 (i' := 31) (ls' := [some (.inr (.inr 44)), some (.inl set), some (.inl 1), some (.inl (szf S T (S 0 0) (T 0 0) (-1) 1 set)), some (.inl 1), none, none, none, none, none, none]) (sk' := [.inl set, .inr (.inr 52)]) (h' := h1) rfl ?_
          refine E_ld (x := (.iaload, 0, [], [])) (ty := .int) (n := 4096) rfl rfl rfl (by omega) (by omega) ?_
          show xEx G0 cdX7_waysOf (some .int) (xRn G0 MT (d + 5)) Q b 32 [some (.inr (.inr 44)), some (.inl set), some (.inl 1), some (.inl (szf S T (S 0 0) (T 0 0) (-1) 1 set)), some (.inl 1), none, none, none, none, none, none] [.inl (h1 52 set)] h1
          exact E_ret (x := (.ireturn, 0, [], [])) (v := some (.inl (h1 52 set))) rfl (Or.inl rfl) (by
            have r9 := hQ h1 (FZ_y f1) m1 W1
            have e9 : h1 52 set = (wyf S T (S 0 0) (T 0 0) 1 set) := by omega
            rw [← e9] at r9
            exact r9)
  · rw [c_ne (by first | assumption | (refine ⟨?_, ?_⟩ <;> omega) | (simp only [xr] at *; omega)) (by first | assumption | (refine ⟨?_, ?_⟩ <;> omega) | (simp only [xr] at *; omega))] at c7
    simp only [decide_eq_true_eq, decide_eq_false_iff_not, Decidable.not_not] at c7
    show xEx G0 cdX7_waysOf (some .int) (xRn G0 MT (d + 5)) Q b 8 [some (.inr (.inr 44)), some (.inl set), some (.inl 1), some (.inl (szf S T (S 0 0) (T 0 0) (-1) 1 set)), none, none, none, none, none, none, none] [] h1
    refine E_s 1 (i' := 9) (ls' := [some (.inr (.inr 44)), some (.inl set), some (.inl 1), some (.inl (szf S T (S 0 0) (T 0 0) (-1) 1 set)), none, none, none, none, none, none, none]) (sk' := [.inl 0]) (h' := h1) rfl ?_
    exact E_ret (x := (.ireturn, 0, [], [])) (v := some (.inl 0)) rfl (Or.inl rfl) (by
      have r9 := hQ h1 (FZ_y f1) m1 W1
      have e9 : (wyf S T (S 0 0) (T 0 0) 1 set) = 0 := by
        show (if 1000000 ≤ (szf S T (S 0 0) (T 0 0) (-1) 1 set) then 0 else _) = (0 : Int)
        rw [if_pos (by omega)]
      rw [e9] at r9
      exact r9)
set_option maxHeartbeats 1000000 in
theorem c_wy2 (d b : Nat) (h S T : xH) (set : Int) (m : Nat) (hV : SVF h S T (-1) m) (hM : SVM h S T (-1) m) (hW : SVW h S T (-1) m) (hb : h 44 10 = -1) (hK : h 9 9 = S 0 0) (hs : ir m set) {Q : xO → xH → Prop} (hQ : ∀ h', FY h h' → SVM h' S T (-1) m → SVW h' S T (-1) m → Q (.inl (some (.inl (wyf S T (S 0 0) (T 0 0) 2 set)))) h') : xRn G0 MT (d + 8) b 68 [.inr (.inr 44), .inl set, .inl 2] h Q := by
  refine R_of (M := mX7_waysOf) rfl (Nat.le_of_ble_eq_true rfl) ?_
  show xEx G0 cdX7_waysOf (some .int) (xRn G0 MT (d + 7)) Q b 0 [some (.inr (.inr 44)), some (.inl set), some (.inl 2), none, none, none, none, none, none, none, none] [] h
  have r4 := ir4 hV.1.1 hs
  refine E_s 3 (i' := 3) (ls' := [some (.inr (.inr 44)), some (.inl set), some (.inl 2), none, none, none, none, none, none, none, none]) (sk' := [.inl 2, .inl set, .inr (.inr 44)]) (h' := h) rfl ?_
  refine E_cp (x := (.invokevirtual 99, 2, [(5, 63)], [0])) (q := fun r h9 => r = (szf S T (S 0 0) (T 0 0) (-1) 2 set) ∧ FZ h h9 ∧ SVM h9 S T (-1) m) rfl rfl (Nat.le_of_ble_eq_true rfl) (c_szO2 (d + 2) 0 h S T (-1) set m hV hM hs (fun h9 z1 z2 => ⟨_, rfl, rfl, z1, z2⟩)) (fun r1 h1 hq1 => ?_)
  obtain ⟨e1, f1, m1⟩ := hq1
  show xEx G0 cdX7_waysOf (some .int) (xRn G0 MT (d + 7)) Q b 4 [some (.inr (.inr 44)), some (.inl set), some (.inl 2), none, none, none, none, none, none, none, none] [.inl r1] h1
  refine E_ti (y := (szf S T (S 0 0) (T 0 0) (-1) 2 set)) (by rw [e1]) ?_
  have V1 := SVF_z f1 hV
  have W1 := SVW_z f1 hW
  have zr := szf_r (p := -1) hV.1 2 set
  have so1 : h1 44 = h 44 := f1 _ (by decide) (by decide)
  have ge1 : h1 9 = h 9 := f1 _ (by decide) (by decide)
  have e0 : h1 48 set = sz0 S (S 0 0) (-1) set := (V1.2.2.2.1 set hs).2
  have z0 := sz0_r (p := -1) hV.1 set
  have wr := wyf_r hV.1 2 set
  have cr := cnf_r (S := S) (set := set) (z := (szf S T (S 0 0) (T 0 0) (-1) 2 set)) (S 0 0).toNat
  have kk := hV.1.2.1
  have w9 := W1 set hs
  refine E_s 3 (i' := 7) (ls' := [some (.inr (.inr 44)), some (.inl set), some (.inl 2), some (.inl (szf S T (S 0 0) (T 0 0) (-1) 2 set)), none, none, none, none, none, none, none]) (sk' := [.inl 1000000, .inl (szf S T (S 0 0) (T 0 0) (-1) 2 set)]) (h' := h1) rfl ?_
  refine E_b (x := (.if_icmp .ne 5, 10, [], [])) rfl rfl (fun c7 => ?_) (fun c7 => ?_)
  · rw [c_ne (by first | assumption | (refine ⟨?_, ?_⟩ <;> omega) | (simp only [xr] at *; omega)) (by first | assumption | (refine ⟨?_, ?_⟩ <;> omega) | (simp only [xr] at *; omega))] at c7
    simp only [decide_eq_true_eq, decide_eq_false_iff_not, Decidable.not_not] at c7
    show xEx G0 cdX7_waysOf (some .int) (xRn G0 MT (d + 7)) Q b 10 [some (.inr (.inr 44)), some (.inl set), some (.inl 2), some (.inl (szf S T (S 0 0) (T 0 0) (-1) 2 set)), none, none, none, none, none, none, none] [] h1
    have zl : (szf S T (S 0 0) (T 0 0) (-1) 2 set) < 1000000 := by omega
    refine E_s 2 (i' := 12) (ls' := [some (.inr (.inr 44)), some (.inl set), some (.inl 2), some (.inl (szf S T (S 0 0) (T 0 0) (-1) 2 set)), none, none, none, none, none, none, none]) (sk' := [.inl 2, .inl 2]) (h' := h1) rfl ?_
    refine E_b (x := (.if_icmp .gt 7, 15, [], [])) rfl rfl (fun c12 => ?_) (fun c12 => ?_)
    · show xEx G0 cdX7_waysOf (some .int) (xRn G0 MT (d + 7)) Q b 15 [some (.inr (.inr 44)), some (.inl set), some (.inl 2), some (.inl (szf S T (S 0 0) (T 0 0) (-1) 2 set)), none, none, none, none, none, none, none] [] h1
      exact absurd c12 (by decide)
    · show xEx G0 cdX7_waysOf (some .int) (xRn G0 MT (d + 7)) Q b 13 [some (.inr (.inr 44)), some (.inl set), some (.inl 2), some (.inl (szf S T (S 0 0) (T 0 0) (-1) 2 set)), none, none, none, none, none, none, none] [] h1
      refine E_s 4 (i' := 18) (ls' := [some (.inr (.inr 44)), some (.inl set), some (.inl 2), some (.inl (szf S T (S 0 0) (T 0 0) (-1) 2 set)), some (.inl 1), none, none, none, none, none, none]) (sk' := [.inl 1]) (h' := h1) rfl ?_
      refine E_b (x := (.ifCond .eq 23, 33, [], [])) rfl rfl (fun c18 => ?_) (fun c18 => ?_)
      · show xEx G0 cdX7_waysOf (some .int) (xRn G0 MT (d + 7)) Q b 33 [some (.inr (.inr 44)), some (.inl set), some (.inl 2), some (.inl (szf S T (S 0 0) (T 0 0) (-1) 2 set)), some (.inl 1), none, none, none, none, none, none] [] h1
        exact absurd c18 (by decide)
      · show xEx G0 cdX7_waysOf (some .int) (xRn G0 MT (d + 7)) Q b 19 [some (.inr (.inr 44)), some (.inl set), some (.inl 2), some (.inl (szf S T (S 0 0) (T 0 0) (-1) 2 set)), some (.inl 1), none, none, none, none, none, none] [] h1
        refine E_s 3 (i' := 22) (ls' := [some (.inr (.inr 44)), some (.inl set), some (.inl 2), some (.inl (szf S T (S 0 0) (T 0 0) (-1) 2 set)), some (.inl 1), none, none, none, none, none, none]) (sk' := [.inl 2, .inr (.inr 47)]) (h' := h1) rfl ?_
        refine E_ald (x := (.aaload, 0, [], [])) 2 rfl rfl rfl (rfl) rfl ?_
        show xEx G0 cdX7_waysOf (some .int) (xRn G0 MT (d + 7)) Q b 23 [some (.inr (.inr 44)), some (.inl set), some (.inl 2), some (.inl (szf S T (S 0 0) (T 0 0) (-1) 2 set)), some (.inl 1), none, none, none, none, none, none] [.inr (.inr 53)] h1
        refine E_s 1 (i' := 24) (ls' := [some (.inr (.inr 44)), some (.inl set), some (.inl 2), some (.inl (szf S T (S 0 0) (T 0 0) (-1) 2 set)), some (.inl 1), none, none, none, none, none, none]) (sk' := [.inl set, .inr (.inr 53)]) (h' := h1) rfl ?_
        refine E_ld (x := (.iaload, 0, [], [])) (ty := .int) (n := 4096) rfl rfl rfl (by omega) (by omega) ?_
        show xEx G0 cdX7_waysOf (some .int) (xRn G0 MT (d + 7)) Q b 25 [some (.inr (.inr 44)), some (.inl set), some (.inl 2), some (.inl (szf S T (S 0 0) (T 0 0) (-1) 2 set)), some (.inl 1), none, none, none, none, none, none] [.inl (h1 53 set)] h1
        refine E_b (x := (.ifCond .eq 12, 33, [], [])) rfl rfl (fun c25 => ?_) (fun c25 => ?_)
        · rw [c_eq (by first | assumption | (refine ⟨?_, ?_⟩ <;> omega) | (simp only [xr] at *; omega)) (by first | assumption | (refine ⟨?_, ?_⟩ <;> omega) | (simp only [xr] at *; omega))] at c25
          simp only [decide_eq_true_eq, decide_eq_false_iff_not, Decidable.not_not] at c25
          show xEx G0 cdX7_waysOf (some .int) (xRn G0 MT (d + 7)) Q b 33 [some (.inr (.inr 44)), some (.inl set), some (.inl 2), some (.inl (szf S T (S 0 0) (T 0 0) (-1) 2 set)), some (.inl 1), none, none, none, none, none, none] [] h1
          refine E_s 4 (i' := 37) (ls' := [some (.inr (.inr 44)), some (.inl set), some (.inl 2), some (.inl (szf S T (S 0 0) (T 0 0) (-1) 2 set)), some (.inl 1), none, none, none, none, none, none]) (sk' := [.inl 0, .inr (.inr 46), .inl (szf S T (S 0 0) (T 0 0) (-1) 2 set)]) (h' := h1) rfl ?_
          refine E_ald (x := (.aaload, 0, [], [])) 0 rfl rfl rfl (rfl) rfl ?_
          show xEx G0 cdX7_waysOf (some .int) (xRn G0 MT (d + 7)) Q b 38 [some (.inr (.inr 44)), some (.inl set), some (.inl 2), some (.inl (szf S T (S 0 0) (T 0 0) (-1) 2 set)), some (.inl 1), none, none, none, none, none, none] [.inr (.inr 48), .inl (szf S T (S 0 0) (T 0 0) (-1) 2 set)] h1
          refine E_s 1 (i' := 39) (ls' := [some (.inr (.inr 44)), some (.inl set), some (.inl 2), some (.inl (szf S T (S 0 0) (T 0 0) (-1) 2 set)), some (.inl 1), none, none, none, none, none, none]) (sk' := [.inl set, .inr (.inr 48), .inl (szf S T (S 0 0) (T 0 0) (-1) 2 set)]) (h' := h1) rfl ?_
          refine E_ld (x := (.iaload, 0, [], [])) (ty := .int) (n := 4096) rfl rfl rfl (by omega) (by omega) ?_
          show xEx G0 cdX7_waysOf (some .int) (xRn G0 MT (d + 7)) Q b 40 [some (.inr (.inr 44)), some (.inl set), some (.inl 2), some (.inl (szf S T (S 0 0) (T 0 0) (-1) 2 set)), some (.inl 1), none, none, none, none, none, none] [.inl (h1 48 set), .inl (szf S T (S 0 0) (T 0 0) (-1) 2 set)] h1
          refine E_b (x := (.if_icmp .ne 13, 47, [], [])) rfl rfl (fun c40 => ?_) (fun c40 => ?_)
          · rw [c_ne (by first | assumption | (refine ⟨?_, ?_⟩ <;> omega) | (simp only [xr] at *; omega)) (by first | assumption | (refine ⟨?_, ?_⟩ <;> omega) | (simp only [xr] at *; omega))] at c40
            simp only [decide_eq_true_eq, decide_eq_false_iff_not, Decidable.not_not] at c40
            show xEx G0 cdX7_waysOf (some .int) (xRn G0 MT (d + 7)) Q b 47 [some (.inr (.inr 44)), some (.inl set), some (.inl 2), some (.inl (szf S T (S 0 0) (T 0 0) (-1) 2 set)), some (.inl 1), none, none, none, none, none, none] [] h1
            refine E_s 4 (i' := 51) (ls' := [some (.inr (.inr 44)), some (.inl set), some (.inl 2), some (.inl (szf S T (S 0 0) (T 0 0) (-1) 2 set)), some (.inl 1), some (.inr (.inl 0)), none, some (.inl 0), none, none, none]) (sk' := []) (h' := h1) rfl ?_
            have key51 : ∀ (n : Nat) (hh : xH) (i9 fd : Int) (v8 v9 v10 : Option xV), (0 ≤ i9) → (i9 ≤ h 44 8) → (FY h hh) → (SVM hh S T (-1) m) → (SVW hh S T (-1) m) → (fd = wst T (szf S T (S 0 0) (T 0 0) (-1) 1) (wyf S T (S 0 0) (T 0 0) 1) set (szf S T (S 0 0) (T 0 0) (-1) 2 set) (cnf S set (szf S T (S 0 0) (T 0 0) (-1) 2 set) (S 0 0).toNat) i9.toNat) → ((h 44 8 - i9).toNat) < n → xEx G0 cdX7_waysOf (some .int) (xRn G0 MT (d + 7)) Q b 51 [some (.inr (.inr 44)), some (.inl set), some (.inl 2), some (.inl (szf S T (S 0 0) (T 0 0) (-1) 2 set)), some (.inl 1), some (.inr (.inl fd)), none, some (.inl i9), v8, v9, v10] [] hh := by
              intro n
              induction n with
              | zero => intro hh i9 fd v8 v9 v10 _ _ _ _ _ _ hm; exact absurd hm (Nat.not_lt_zero _)
              | succ n ih51 =>
                intro hh i9 fd v8 v9 v10 hi0 hi9 fy hm hw hfd hm51
                have ec : hh 44 8 = h 44 8 := by rw [fy _ (by decide)]
                have fr := wst_r (T := T) (f := (szf S T (S 0 0) (T 0 0) (-1) 1)) (g := (wyf S T (S 0 0) (T 0 0) 1)) (set := set) (z := (szf S T (S 0 0) (T 0 0) (-1) 2 set)) (c0 := (cnf S set (szf S T (S 0 0) (T 0 0) (-1) 2 set) (S 0 0).toNat)) (by omega) (fun s => (wyf_r hV.1 1 s).1) i9.toNat
                have kt := hV.1.2.2.1
                have ub := us_id hV.2.2.2.2.2.2
                refine E_s 1 (i' := 52) (ls' := [some (.inr (.inr 44)), some (.inl set), some (.inl 2), some (.inl (szf S T (S 0 0) (T 0 0) (-1) 2 set)), some (.inl 1), some (.inr (.inl fd)), none, some (.inl i9), v8, v9, v10]) (sk' := [.inl 2]) (h' := hh) rfl ?_
                refine E_b (x := (.ifCond .le 113, 114, [], [])) rfl rfl (fun c52 => ?_) (fun c52 => ?_)
                · show xEx G0 cdX7_waysOf (some .int) (xRn G0 MT (d + 7)) Q b 114 [some (.inr (.inr 44)), some (.inl set), some (.inl 2), some (.inl (szf S T (S 0 0) (T 0 0) (-1) 2 set)), some (.inl 1), some (.inr (.inl fd)), none, some (.inl i9), v8, v9, v10] [] hh
                  exact absurd c52 (by decide)
                · show xEx G0 cdX7_waysOf (some .int) (xRn G0 MT (d + 7)) Q b 53 [some (.inr (.inr 44)), some (.inl set), some (.inl 2), some (.inl (szf S T (S 0 0) (T 0 0) (-1) 2 set)), some (.inl 1), some (.inr (.inl fd)), none, some (.inl i9), v8, v9, v10] [] hh
                  refine E_s 3 (i' := 56) (ls' := [some (.inr (.inr 44)), some (.inl set), some (.inl 2), some (.inl (szf S T (S 0 0) (T 0 0) (-1) 2 set)), some (.inl 1), some (.inr (.inl fd)), none, some (.inl i9), v8, v9, v10]) (sk' := [.inl (hh 44 8), .inl i9]) (h' := hh) rfl ?_
                  refine E_b (x := (.if_icmp .ge 104, 114, [], [])) rfl rfl (fun c56 => ?_) (fun c56 => ?_)
                  · rw [c_ge (by first | assumption | (refine ⟨?_, ?_⟩ <;> omega) | (simp only [xr] at *; omega)) (by first | assumption | (refine ⟨?_, ?_⟩ <;> omega) | (simp only [xr] at *; omega))] at c56
                    simp only [decide_eq_true_eq, decide_eq_false_iff_not, Decidable.not_not] at c56
                    show xEx G0 cdX7_waysOf (some .int) (xRn G0 MT (d + 7)) Q b 114 [some (.inr (.inr 44)), some (.inl set), some (.inl 2), some (.inl (szf S T (S 0 0) (T 0 0) (-1) 2 set)), some (.inl 1), some (.inr (.inl fd)), none, some (.inl i9), v8, v9, v10] [] hh
                    have hfin : fd = (wyf S T (S 0 0) (T 0 0) 2 set) := by
                      show fd = (if 1000000 ≤ (szf S T (S 0 0) (T 0 0) (-1) 2 set) then 0 else wst T (szf S T (S 0 0) (T 0 0) (-1) 1) (wyf S T (S 0 0) (T 0 0) 1) set (szf S T (S 0 0) (T 0 0) (-1) 2 set) (cnf S set (szf S T (S 0 0) (T 0 0) (-1) 2 set) (S 0 0).toNat) (T 0 0).toNat)
                      rw [if_neg (by omega), hfd]
                      first
                      | (rw [show i9 = T 0 0 by omega]; done)
                      | exact (wst_end hV.1 (fun s => (szf_r (p := -1) hV.1 1 s).1) hi0 (by omega) (by have := o0 q5 (by omega); rw [g4] at this; omega)).symm
                    have fr2 := fr
                    have r4 := ir4 hV.1.1 hs
                    refine E_s 1 (i' := 115) (ls' := [some (.inr (.inr 44)), some (.inl set), some (.inl 2), some (.inl (szf S T (S 0 0) (T 0 0) (-1) 2 set)), some (.inl 1), some (.inr (.inl fd)), none, some (.inl i9), v8, v9, v10]) (sk' := [.inl 1]) (h' := hh) rfl ?_
                    refine E_b (x := (.ifCond .eq 14, 124, [], [])) rfl rfl (fun c115 => ?_) (fun c115 => ?_)
                    · show xEx G0 cdX7_waysOf (some .int) (xRn G0 MT (d + 7)) Q b 124 [some (.inr (.inr 44)), some (.inl set), some (.inl 2), some (.inl (szf S T (S 0 0) (T 0 0) (-1) 2 set)), some (.inl 1), some (.inr (.inl fd)), none, some (.inl i9), v8, v9, v10] [] hh
                      exact absurd c115 (by decide)
                    · show xEx G0 cdX7_waysOf (some .int) (xRn G0 MT (d + 7)) Q b 116 [some (.inr (.inr 44)), some (.inl set), some (.inl 2), some (.inl (szf S T (S 0 0) (T 0 0) (-1) 2 set)), some (.inl 1), some (.inr (.inl fd)), none, some (.inl i9), v8, v9, v10] [] hh
                      refine E_s 3 (i' := 119) (ls' := [some (.inr (.inr 44)), some (.inl set), some (.inl 2), some (.inl (szf S T (S 0 0) (T 0 0) (-1) 2 set)), some (.inl 1), some (.inr (.inl fd)), none, some (.inl i9), v8, v9, v10]) (sk' := [.inl 2, .inr (.inr 47)]) (h' := hh) rfl ?_
                      refine E_ald (x := (.aaload, 0, [], [])) 2 rfl rfl rfl (rfl) rfl ?_
                      show xEx G0 cdX7_waysOf (some .int) (xRn G0 MT (d + 7)) Q b 120 [some (.inr (.inr 44)), some (.inl set), some (.inl 2), some (.inl (szf S T (S 0 0) (T 0 0) (-1) 2 set)), some (.inl 1), some (.inr (.inl fd)), none, some (.inl i9), v8, v9, v10] [.inr (.inr 53)] hh
                      refine E_s 3 (i' := 123) (ls' := [some (.inr (.inr 44)), some (.inl set), some (.inl 2), some (.inl (szf S T (S 0 0) (T 0 0) (-1) 2 set)), some (.inl 1), some (.inr (.inl fd)), none, some (.inl i9), v8, v9, v10]) (sk' := [.inl fd, .inl set, .inr (.inr 53)]) (h' := hh) rfl ?_
                      refine E_sd (x := (.iastore, 0, [], [])) (ty := .int) (n := 4096) (y := fd) rfl rfl rfl (by omega) (by omega) (trivial) ?_
                      show xEx G0 cdX7_waysOf (some .int) (xRn G0 MT (d + 7)) Q b 124 [some (.inr (.inr 44)), some (.inl set), some (.inl 2), some (.inl (szf S T (S 0 0) (T 0 0) (-1) 2 set)), some (.inl 1), some (.inr (.inl fd)), none, some (.inl i9), v8, v9, v10] [] (xup hh 53 set fd)
                      refine E_s 2 (i' := 126) (ls' := [some (.inr (.inr 44)), some (.inl set), some (.inl 2), some (.inl (szf S T (S 0 0) (T 0 0) (-1) 2 set)), some (.inl 1), some (.inr (.inl fd)), none, some (.inl i9), v8, v9, v10]) (sk' := [.inl fd]) (h' := (xup hh 53 set fd)) rfl ?_
                      exact E_ret (x := (.ireturn, 0, [], [])) (v := some (.inl fd)) rfl (Or.inl rfl) (by
                        have r9 := hQ _ ((fy).up ⟨by decide, by decide⟩) (SVM_w (by decide) hm) (SVW_2 hw _ hfin)
                        rw [← hfin] at r9
                        exact r9)
                  · rw [c_ge (by first | assumption | (refine ⟨?_, ?_⟩ <;> omega) | (simp only [xr] at *; omega)) (by first | assumption | (refine ⟨?_, ?_⟩ <;> omega) | (simp only [xr] at *; omega))] at c56
                    simp only [decide_eq_true_eq, decide_eq_false_iff_not, Decidable.not_not] at c56
                    show xEx G0 cdX7_waysOf (some .int) (xRn G0 MT (d + 7)) Q b 57 [some (.inr (.inr 44)), some (.inl set), some (.inl 2), some (.inl (szf S T (S 0 0) (T 0 0) (-1) 2 set)), some (.inl 1), some (.inr (.inl fd)), none, some (.inl i9), v8, v9, v10] [] hh
                    refine E_s 4 (i' := 61) (ls' := [some (.inr (.inr 44)), some (.inl set), some (.inl 2), some (.inl (szf S T (S 0 0) (T 0 0) (-1) 2 set)), some (.inl 1), some (.inr (.inl fd)), none, some (.inl i9), v8, v9, v10]) (sk' := [.inl i9, .inr (.inr 55), .inr (.inr 44)]) (h' := hh) rfl ?_
                    refine E_ld (x := (.iaload, 0, [], [])) (ty := .int) (n := 150) rfl rfl rfl (by omega) (by omega) ?_
                    show xEx G0 cdX7_waysOf (some .int) (xRn G0 MT (d + 7)) Q b 62 [some (.inr (.inr 44)), some (.inl set), some (.inl 2), some (.inl (szf S T (S 0 0) (T 0 0) (-1) 2 set)), some (.inl 1), some (.inr (.inl fd)), none, some (.inl i9), v8, v9, v10] [.inl (hh 55 i9), .inr (.inr 44)] hh
                    refine E_s 1 (i' := 63) (ls' := [some (.inr (.inr 44)), some (.inl set), some (.inl 2), some (.inl (szf S T (S 0 0) (T 0 0) (-1) 2 set)), some (.inl 1), some (.inr (.inl fd)), none, some (.inl i9), v8, v9, v10]) (sk' := [.inl (szf S T (S 0 0) (T 0 0) (-1) 2 set), .inl (hh 55 i9), .inr (.inr 44)]) (h' := hh) rfl ?_
                    have uu : hh 55 i9 = i9 := by rw [fy _ (by decide)]; exact ub.2 i9 hi0 (by omega)
                    have o4 := hV.1.2.2.2.2 i9 hi0 (by omega)
                    have g4 : hh 37 (hh 55 i9) = T 4 i9 := by rw [uu, fy _ (by decide)]; exact (hV.2.1 i9 hi0 (by omega)).1
                    have g6 : hh 39 (hh 55 i9) = T 6 i9 := by rw [uu, fy _ (by decide)]; exact (hV.2.1 i9 hi0 (by omega)).2
                    refine E_cp (x := (.invokevirtual 103, 2, [(5, 64)], [0])) (q := fun r5 h9 => ((r5 = 1 ∧ (hh 37 (hh 55 i9) + 3 ≤ (szf S T (S 0 0) (T 0 0) (-1) 2 set))) ∨ (r5 = 0 ∧ ¬ (hh 37 (hh 55 i9) + 3 ≤ (szf S T (S 0 0) (T 0 0) (-1) 2 set)))) ∧ hh = h9) rfl rfl (Nat.le_of_ble_eq_true rfl) (c_mayDo (d + 6) 0 hh (hh 55 i9) (szf S T (S 0 0) (T 0 0) (-1) 2 set) ⟨by omega, by omega⟩ ⟨by omega, by omega⟩ ⟨by omega, by omega⟩ (fun z => ⟨_, rfl, Or.inl ⟨rfl, z⟩, rfl⟩) (fun z => ⟨_, rfl, Or.inr ⟨rfl, z⟩, rfl⟩)) (fun r5 h9 q5 => ?_)
                    obtain ⟨q5, rfl⟩ := q5
                    show xEx G0 cdX7_waysOf (some .int) (xRn G0 MT (d + 7)) Q b 64 [some (.inr (.inr 44)), some (.inl set), some (.inl 2), some (.inl (szf S T (S 0 0) (T 0 0) (-1) 2 set)), some (.inl 1), some (.inr (.inl fd)), none, some (.inl i9), v8, v9, v10] [.inl r5] hh
                    refine E_b (x := (.ifCond .eq 89, 114, [], [])) rfl rfl (fun c64 => ?_) (fun c64 => ?_)
                    · rw [c_eq (by first | assumption | (refine ⟨?_, ?_⟩ <;> omega) | (simp only [xr] at *; omega)) (by first | assumption | (refine ⟨?_, ?_⟩ <;> omega) | (simp only [xr] at *; omega))] at c64
                      simp only [decide_eq_true_eq, decide_eq_false_iff_not, Decidable.not_not] at c64
                      show xEx G0 cdX7_waysOf (some .int) (xRn G0 MT (d + 7)) Q b 114 [some (.inr (.inr 44)), some (.inl set), some (.inl 2), some (.inl (szf S T (S 0 0) (T 0 0) (-1) 2 set)), some (.inl 1), some (.inr (.inl fd)), none, some (.inl i9), v8, v9, v10] [] hh
                      have hfin : fd = (wyf S T (S 0 0) (T 0 0) 2 set) := by
                        show fd = (if 1000000 ≤ (szf S T (S 0 0) (T 0 0) (-1) 2 set) then 0 else wst T (szf S T (S 0 0) (T 0 0) (-1) 1) (wyf S T (S 0 0) (T 0 0) 1) set (szf S T (S 0 0) (T 0 0) (-1) 2 set) (cnf S set (szf S T (S 0 0) (T 0 0) (-1) 2 set) (S 0 0).toNat) (T 0 0).toNat)
                        rw [if_neg (by omega), hfd]
                        first
                        | (rw [show i9 = T 0 0 by omega]; done)
                        | exact (wst_end hV.1 (fun s => (szf_r (p := -1) hV.1 1 s).1) hi0 (by omega) (by have := o0 q5 (by omega); rw [g4] at this; omega)).symm
                      have fr2 := fr
                      have r4 := ir4 hV.1.1 hs
                      refine E_s 1 (i' := 115) (ls' := [some (.inr (.inr 44)), some (.inl set), some (.inl 2), some (.inl (szf S T (S 0 0) (T 0 0) (-1) 2 set)), some (.inl 1), some (.inr (.inl fd)), none, some (.inl i9), v8, v9, v10]) (sk' := [.inl 1]) (h' := hh) rfl ?_
                      refine E_b (x := (.ifCond .eq 14, 124, [], [])) rfl rfl (fun c115 => ?_) (fun c115 => ?_)
                      · show xEx G0 cdX7_waysOf (some .int) (xRn G0 MT (d + 7)) Q b 124 [some (.inr (.inr 44)), some (.inl set), some (.inl 2), some (.inl (szf S T (S 0 0) (T 0 0) (-1) 2 set)), some (.inl 1), some (.inr (.inl fd)), none, some (.inl i9), v8, v9, v10] [] hh
                        exact absurd c115 (by decide)
                      · show xEx G0 cdX7_waysOf (some .int) (xRn G0 MT (d + 7)) Q b 116 [some (.inr (.inr 44)), some (.inl set), some (.inl 2), some (.inl (szf S T (S 0 0) (T 0 0) (-1) 2 set)), some (.inl 1), some (.inr (.inl fd)), none, some (.inl i9), v8, v9, v10] [] hh
                        refine E_s 3 (i' := 119) (ls' := [some (.inr (.inr 44)), some (.inl set), some (.inl 2), some (.inl (szf S T (S 0 0) (T 0 0) (-1) 2 set)), some (.inl 1), some (.inr (.inl fd)), none, some (.inl i9), v8, v9, v10]) (sk' := [.inl 2, .inr (.inr 47)]) (h' := hh) rfl ?_
                        refine E_ald (x := (.aaload, 0, [], [])) 2 rfl rfl rfl (rfl) rfl ?_
                        show xEx G0 cdX7_waysOf (some .int) (xRn G0 MT (d + 7)) Q b 120 [some (.inr (.inr 44)), some (.inl set), some (.inl 2), some (.inl (szf S T (S 0 0) (T 0 0) (-1) 2 set)), some (.inl 1), some (.inr (.inl fd)), none, some (.inl i9), v8, v9, v10] [.inr (.inr 53)] hh
                        refine E_s 3 (i' := 123) (ls' := [some (.inr (.inr 44)), some (.inl set), some (.inl 2), some (.inl (szf S T (S 0 0) (T 0 0) (-1) 2 set)), some (.inl 1), some (.inr (.inl fd)), none, some (.inl i9), v8, v9, v10]) (sk' := [.inl fd, .inl set, .inr (.inr 53)]) (h' := hh) rfl ?_
                        refine E_sd (x := (.iastore, 0, [], [])) (ty := .int) (n := 4096) (y := fd) rfl rfl rfl (by omega) (by omega) (trivial) ?_
                        show xEx G0 cdX7_waysOf (some .int) (xRn G0 MT (d + 7)) Q b 124 [some (.inr (.inr 44)), some (.inl set), some (.inl 2), some (.inl (szf S T (S 0 0) (T 0 0) (-1) 2 set)), some (.inl 1), some (.inr (.inl fd)), none, some (.inl i9), v8, v9, v10] [] (xup hh 53 set fd)
                        refine E_s 2 (i' := 126) (ls' := [some (.inr (.inr 44)), some (.inl set), some (.inl 2), some (.inl (szf S T (S 0 0) (T 0 0) (-1) 2 set)), some (.inl 1), some (.inr (.inl fd)), none, some (.inl i9), v8, v9, v10]) (sk' := [.inl fd]) (h' := (xup hh 53 set fd)) rfl ?_
                        exact E_ret (x := (.ireturn, 0, [], [])) (v := some (.inl fd)) rfl (Or.inl rfl) (by
                          have r9 := hQ _ ((fy).up ⟨by decide, by decide⟩) (SVM_w (by decide) hm) (SVW_2 hw _ hfin)
                          rw [← hfin] at r9
                          exact r9)
                    · rw [c_eq (by first | assumption | (refine ⟨?_, ?_⟩ <;> omega) | (simp only [xr] at *; omega)) (by first | assumption | (refine ⟨?_, ?_⟩ <;> omega) | (simp only [xr] at *; omega))] at c64
                      simp only [decide_eq_true_eq, decide_eq_false_iff_not, Decidable.not_not] at c64
                      show xEx G0 cdX7_waysOf (some .int) (xRn G0 MT (d + 7)) Q b 65 [some (.inr (.inr 44)), some (.inl set), some (.inl 2), some (.inl (szf S T (S 0 0) (T 0 0) (-1) 2 set)), some (.inl 1), some (.inr (.inl fd)), none, some (.inl i9), v8, v9, v10] [] hh
                      refine E_s 4 (i' := 69) (ls' := [some (.inr (.inr 44)), some (.inl set), some (.inl 2), some (.inl (szf S T (S 0 0) (T 0 0) (-1) 2 set)), some (.inl 1), some (.inr (.inl fd)), none, some (.inl i9), v8, v9, v10]) (sk' := [.inl i9, .inr (.inr 55), .inr (.inr 44)]) (h' := hh) rfl ?_
                      refine E_ld (x := (.iaload, 0, [], [])) (ty := .int) (n := 150) rfl rfl rfl (by omega) (by omega) ?_
                      show xEx G0 cdX7_waysOf (some .int) (xRn G0 MT (d + 7)) Q b 70 [some (.inr (.inr 44)), some (.inl set), some (.inl 2), some (.inl (szf S T (S 0 0) (T 0 0) (-1) 2 set)), some (.inl 1), some (.inr (.inl fd)), none, some (.inl i9), v8, v9, v10] [.inl (hh 55 i9), .inr (.inr 44)] hh
                      refine E_s 2 (i' := 72) (ls' := [some (.inr (.inr 44)), some (.inl set), some (.inl 2), some (.inl (szf S T (S 0 0) (T 0 0) (-1) 2 set)), some (.inl 1), some (.inr (.inl fd)), none, some (.inl i9), v8, v9, v10]) (sk' := [.inl 2, .inl set, .inl (hh 55 i9), .inr (.inr 44)]) (h' := hh) rfl ?_
                      refine E_cp (x := (.invokevirtual 106, 3, [(5, 65)], [0])) (q := fun r h9 => r = swf T (szf S T (S 0 0) (T 0 0) (-1) 1) set (hh 55 i9) ∧ FZ hh h9 ∧ SVM h9 S T (-1) m) rfl rfl (Nat.le_of_ble_eq_true rfl) (c_szW2 (d + 3) 0 hh S T (-1) set m (hh 55 i9) (SVF_y fy hV) hm hs ⟨by omega, by omega⟩ (fun h9 z1 z2 => ⟨_, rfl, rfl, z1, z2⟩)) (fun r2 h2 hq2 => ?_)
                      obtain ⟨e2, f2, m2⟩ := hq2
                      rw [uu] at e2
                      have sr := swf_r (T := T) (f := (szf S T (S 0 0) (T 0 0) (-1) 1)) (set := set) (t := i9) ⟨by omega, by omega⟩ (szf_r (p := -1) hV.1 1)
                      have sq := swf_eq (T := T) (p := -1) (f := (szf S T (S 0 0) (T 0 0) (-1) 1)) (set := set) (t := i9) (b := (szf S T (S 0 0) (T 0 0) (-1) 2 set)) (Or.inl rfl) (by omega) (szf_r (p := -1) hV.1 1) (by omega)
                      have fy2 : FY h h2 := fy.tr (FZ_y f2)
                      have w2 : SVW h2 S T (-1) m := SVW_z f2 hw
                      have u2 : h2 55 i9 = i9 := by rw [f2 _ (by decide) (by decide)]; exact uu
                      have g2 : h2 39 (h2 55 i9) = T 6 i9 := by rw [u2, fy2 _ (by decide)]; exact (hV.2.1 i9 hi0 (by omega)).2
                      show xEx G0 cdX7_waysOf (some .int) (xRn G0 MT (d + 7)) Q b 73 [some (.inr (.inr 44)), some (.inl set), some (.inl 2), some (.inl (szf S T (S 0 0) (T 0 0) (-1) 2 set)), some (.inl 1), some (.inr (.inl fd)), none, some (.inl i9), v8, v9, v10] [.inl r2] h2
                      refine E_s 1 (i' := 74) (ls' := [some (.inr (.inr 44)), some (.inl set), some (.inl 2), some (.inl (szf S T (S 0 0) (T 0 0) (-1) 2 set)), some (.inl 1), some (.inr (.inl fd)), none, some (.inl i9), v8, v9, v10]) (sk' := [.inl (szf S T (S 0 0) (T 0 0) (-1) 2 set), .inl r2]) (h' := h2) rfl ?_
                      refine E_b (x := (.if_icmp .ne 66, 112, [], [])) rfl rfl (fun c74 => ?_) (fun c74 => ?_)
                      · rw [c_ne (by first | assumption | (refine ⟨?_, ?_⟩ <;> omega) | (simp only [xr] at *; omega)) (by first | assumption | (refine ⟨?_, ?_⟩ <;> omega) | (simp only [xr] at *; omega))] at c74
                        simp only [decide_eq_true_eq, decide_eq_false_iff_not, Decidable.not_not] at c74
                        show xEx G0 cdX7_waysOf (some .int) (xRn G0 MT (d + 7)) Q b 112 [some (.inr (.inr 44)), some (.inl set), some (.inl 2), some (.inl (szf S T (S 0 0) (T 0 0) (-1) 2 set)), some (.inl 1), some (.inr (.inl fd)), none, some (.inl i9), v8, v9, v10] [] h2
                        refine E_s 2 (i' := 51) (ls' := [some (.inr (.inr 44)), some (.inl set), some (.inl 2), some (.inl (szf S T (S 0 0) (T 0 0) (-1) 2 set)), some (.inl 1), some (.inr (.inl fd)), none, some (.inl (i9 + 1)), v8, v9, v10]) (sk' := []) (h' := h2) rfl ?_
                        exact ih51 h2 (i9 + 1) fd _ _ _ (by omega) (by omega) fy2 m2 w2 (by rw [wst_n hi0 (fun y => c74 (by rw [e2]; exact sq.mpr y)), hfd]) (by omega)
                      · rw [c_ne (by first | assumption | (refine ⟨?_, ?_⟩ <;> omega) | (simp only [xr] at *; omega)) (by first | assumption | (refine ⟨?_, ?_⟩ <;> omega) | (simp only [xr] at *; omega))] at c74
                        simp only [decide_eq_true_eq, decide_eq_false_iff_not, Decidable.not_not] at c74
                        show xEx G0 cdX7_waysOf (some .int) (xRn G0 MT (d + 7)) Q b 75 [some (.inr (.inr 44)), some (.inl set), some (.inl 2), some (.inl (szf S T (S 0 0) (T 0 0) (-1) 2 set)), some (.inl 1), some (.inr (.inl fd)), none, some (.inl i9), v8, v9, v10] [] h2
                        refine E_s 7 (i' := 82) (ls' := [some (.inr (.inr 44)), some (.inl set), some (.inl 2), some (.inl (szf S T (S 0 0) (T 0 0) (-1) 2 set)), some (.inl 1), some (.inr (.inl fd)), none, some (.inl i9), v8, v9, v10]) (sk' := [.inl i9, .inr (.inr 55), .inr (.inr 39), .inl set]) (h' := h2) rfl ?_
                        refine E_ld (x := (.iaload, 0, [], [])) (ty := .int) (n := 150) rfl rfl rfl (by omega) (by omega) ?_
                        show xEx G0 cdX7_waysOf (some .int) (xRn G0 MT (d + 7)) Q b 83 [some (.inr (.inr 44)), some (.inl set), some (.inl 2), some (.inl (szf S T (S 0 0) (T 0 0) (-1) 2 set)), some (.inl 1), some (.inr (.inl fd)), none, some (.inl i9), v8, v9, v10] [.inl (h2 55 i9), .inr (.inr 39), .inl set] h2
                        refine E_ld (x := (.iaload, 0, [], [])) (ty := .int) (n := 150) rfl rfl rfl (by omega) (by omega) ?_
                        show xEx G0 cdX7_waysOf (some .int) (xRn G0 MT (d + 7)) Q b 84 [some (.inr (.inr 44)), some (.inl set), some (.inl 2), some (.inl (szf S T (S 0 0) (T 0 0) (-1) 2 set)), some (.inl 1), some (.inr (.inl fd)), none, some (.inl i9), v8, v9, v10] [.inl (h2 39 (h2 55 i9)), .inl set] h2
                        refine E_s 7 (i' := 91) (ls' := [some (.inr (.inr 44)), some (.inl set), some (.inl 2), some (.inl (szf S T (S 0 0) (T 0 0) (-1) 2 set)), some (.inl 1), some (.inr (.inl fd)), none, some (.inl i9), some (.inl (xand set (h2 39 (h2 55 i9)))), v9, v10]) (sk' := [.inl 1, .inl (xand set (h2 39 (h2 55 i9))), .inr (.inr 44)]) (h' := h2) rfl ?_
                        have is1 : ir m (xand set (h2 39 (h2 55 i9))) := by rw [g2]; exact xa_r hV.1.1 hs o4.2.1
                        have is2 : ir m (xxor set (xand set (h2 39 (h2 55 i9)))) := xx_r hV.1.1 hs is1
                        have V2 := SVF_y fy2 hV
                        refine E_cp (x := (.invokevirtual 138, 2, [(5, 68)], [0])) (q := fun r h9 => r = (wyf S T (S 0 0) (T 0 0) 1) (xand set (h2 39 (h2 55 i9))) ∧ FY h2 h9 ∧ SVM h9 S T (-1) m ∧ SVW h9 S T (-1) m) rfl rfl (Nat.le_of_ble_eq_true rfl) (c_wy1 (d + 1) 0 h2 S T (xand set (h2 39 (h2 55 i9))) m V2 m2 w2 (by rw [fy2 _ (by decide)]; exact hb) (by rw [fy2 _ (by decide)]; exact hK) is1 (fun h9 z1 z2 z3 => ⟨_, rfl, rfl, z1, z2, z3⟩)) (fun r3 h3 hq3 => ?_)
                        obtain ⟨e3, f3, m3, w3⟩ := hq3
                        have fy3 : FY h h3 := fy2.tr f3
                        have wr3 := wyf_r hV.1 1 (xand set (h2 39 (h2 55 i9)))
                        show xEx G0 cdX7_waysOf (some .int) (xRn G0 MT (d + 7)) Q b 92 [some (.inr (.inr 44)), some (.inl set), some (.inl 2), some (.inl (szf S T (S 0 0) (T 0 0) (-1) 2 set)), some (.inl 1), some (.inr (.inl fd)), none, some (.inl i9), some (.inl (xand set (h2 39 (h2 55 i9)))), v9, v10] [.inl r3] h3
                        refine E_s 8 (i' := 100) (ls' := [some (.inr (.inr 44)), some (.inl set), some (.inl 2), some (.inl (szf S T (S 0 0) (T 0 0) (-1) 2 set)), some (.inl 1), some (.inr (.inl fd)), none, some (.inl i9), some (.inl (xand set (h2 39 (h2 55 i9)))), v9, v10]) (sk' := [.inl 1, .inl (xxor set (xand set (h2 39 (h2 55 i9)))), .inr (.inr 44), .inr (.inl (w32 r3))]) (h' := h3) rfl ?_
                        refine E_cp (x := (.invokevirtual 138, 2, [(5, 68)], [0])) (q := fun r h9 => r = (wyf S T (S 0 0) (T 0 0) 1) (xxor set (xand set (h2 39 (h2 55 i9)))) ∧ FY h3 h9 ∧ SVM h9 S T (-1) m ∧ SVW h9 S T (-1) m) rfl rfl (Nat.le_of_ble_eq_true rfl) (c_wy1 (d + 1) 0 h3 S T (xxor set (xand set (h2 39 (h2 55 i9)))) m (SVF_y fy3 hV) m3 w3 (by rw [fy3 _ (by decide)]; exact hb) (by rw [fy3 _ (by decide)]; exact hK) is2 (fun h9 z1 z2 z3 => ⟨_, rfl, rfl, z1, z2, z3⟩)) (fun r4 h4 hq4 => ?_)
                        obtain ⟨e4, f4, m4, w4⟩ := hq4
                        have fy4 : FY h h4 := fy3.tr f4
                        have wr4 := wyf_r hV.1 1 (xxor set (xand set (h2 39 (h2 55 i9))))
                        show xEx G0 cdX7_waysOf (some .int) (xRn G0 MT (d + 7)) Q b 101 [some (.inr (.inr 44)), some (.inl set), some (.inl 2), some (.inl (szf S T (S 0 0) (T 0 0) (-1) 2 set)), some (.inl 1), some (.inr (.inl fd)), none, some (.inl i9), some (.inl (xand set (h2 39 (h2 55 i9)))), v9, v10] [.inl r4, .inr (.inl (w32 r3))] h4
                        refine E_s 7 (i' := 108) (ls' := [some (.inr (.inr 44)), some (.inl set), some (.inl 2), some (.inl (szf S T (S 0 0) (T 0 0) (-1) 2 set)), some (.inl 1), some (.inr (.inl fd)), none, some (.inl i9), some (.inl (xand set (h2 39 (h2 55 i9)))), some (.inr (.inl ((w32 r3) * (w32 r4)))), none]) (sk' := [.inr (.inl ((w32 r3) * (w32 r4))), .inr (.inl 1000000000), .inr (.inl fd), .inr (.inl 1000000000)]) (h' := h4) rfl ?_
                        refine E_minl (x := (.invokestatic 143, 0, [], [2])) rfl rfl rfl (Nat.le_of_ble_eq_true rfl) ?_
                        show xEx G0 cdX7_waysOf (some .int) (xRn G0 MT (d + 7)) Q b 109 [some (.inr (.inr 44)), some (.inl set), some (.inl 2), some (.inl (szf S T (S 0 0) (T 0 0) (-1) 2 set)), some (.inl 1), some (.inr (.inl fd)), none, some (.inl i9), some (.inl (xand set (h2 39 (h2 55 i9)))), some (.inr (.inl ((w32 r3) * (w32 r4)))), none] [.inr (.inl (if w64 ((w32 r3) * (w32 r4)) < w64 1000000000 then (w32 r3) * (w32 r4) else 1000000000)), .inr (.inl fd), .inr (.inl 1000000000)] h4
                        refine E_s 1 (i' := 110) (ls' := [some (.inr (.inr 44)), some (.inl set), some (.inl 2), some (.inl (szf S T (S 0 0) (T 0 0) (-1) 2 set)), some (.inl 1), some (.inr (.inl fd)), none, some (.inl i9), some (.inl (xand set (h2 39 (h2 55 i9)))), some (.inr (.inl ((w32 r3) * (w32 r4)))), none]) (sk' := [.inr (.inl (fd + (if w64 ((w32 r3) * (w32 r4)) < w64 1000000000 then (w32 r3) * (w32 r4) else 1000000000))), .inr (.inl 1000000000)]) (h' := h4) rfl ?_
                        refine E_minl (x := (.invokestatic 143, 0, [], [2])) rfl rfl rfl (Nat.le_of_ble_eq_true rfl) ?_
                        show xEx G0 cdX7_waysOf (some .int) (xRn G0 MT (d + 7)) Q b 111 [some (.inr (.inr 44)), some (.inl set), some (.inl 2), some (.inl (szf S T (S 0 0) (T 0 0) (-1) 2 set)), some (.inl 1), some (.inr (.inl fd)), none, some (.inl i9), some (.inl (xand set (h2 39 (h2 55 i9)))), some (.inr (.inl ((w32 r3) * (w32 r4)))), none] [.inr (.inl (if w64 (fd + (if w64 ((w32 r3) * (w32 r4)) < w64 1000000000 then (w32 r3) * (w32 r4) else 1000000000)) < w64 1000000000 then fd + (if w64 ((w32 r3) * (w32 r4)) < w64 1000000000 then (w32 r3) * (w32 r4) else 1000000000) else 1000000000))] h4
                        refine E_s 3 (i' := 51) (ls' := [some (.inr (.inr 44)), some (.inl set), some (.inl 2), some (.inl (szf S T (S 0 0) (T 0 0) (-1) 2 set)), some (.inl 1), some (.inr (.inl (if w64 (fd + (if w64 ((w32 r3) * (w32 r4)) < w64 1000000000 then (w32 r3) * (w32 r4) else 1000000000)) < w64 1000000000 then fd + (if w64 ((w32 r3) * (w32 r4)) < w64 1000000000 then (w32 r3) * (w32 r4) else 1000000000) else 1000000000))), none, some (.inl (i9 + 1)), some (.inl (xand set (h2 39 (h2 55 i9)))), some (.inr (.inl ((w32 r3) * (w32 r4)))), none]) (sk' := []) (h' := h4) rfl ?_
                        exact ih51 h4 (i9 + 1) _ _ _ _ (by omega) (by omega) fy4 m4 w4 (by
                          have y9 := sq.mp (by rw [← e2]; omega)
                          rw [g2] at e3 e4 wr3 wr4
                          have p3 : w32 r3 = r3 := w32_id ⟨by omega, by omega⟩
                          have p4 : w32 r4 = r4 := w32_id ⟨by omega, by omega⟩
                          have pm : 0 ≤ r3 * r4 := Int.mul_nonneg (by omega) (by omega)
                          have pl : r3 * r4 ≤ 1000000000000000000 := mul9 (by omega) (by omega) (by omega) (by omega)
                          have cc := cap_r pm
                          rw [p3, p4, minl_c pm (by omega), minl_c (by omega) (by omega), cap_2 (by omega) pm, wst_y hi0 y9, hfd, e3, e4]) (by omega)
            exact key51 _ h1 0 _ none none none (by omega) hV.2.2.2.2.2.2.1 (FZ_y f1) m1 W1 (by
              show _ = (cnf S set (szf S T (S 0 0) (T 0 0) (-1) 2 set) (S 0 0).toNat)
              rw [cnf_0 hV.1 (by have := szf_le0 (S := S) (T := T) (KE := S 0 0) (KT := T 0 0) (p := -1) 2 set; omega)]) (Nat.lt_succ_self _)
          · rw [c_ne (by first | assumption | (refine ⟨?_, ?_⟩ <;> omega) | (simp only [xr] at *; omega)) (by first | assumption | (refine ⟨?_, ?_⟩ <;> omega) | (simp only [xr] at *; omega))] at c40
            simp only [decide_eq_true_eq, decide_eq_false_iff_not, Decidable.not_not] at c40
            show xEx G0 cdX7_waysOf (some .int) (xRn G0 MT (d + 7)) Q b 41 [some (.inr (.inr 44)), some (.inl set), some (.inl 2), some (.inl (szf S T (S 0 0) (T 0 0) (-1) 2 set)), some (.inl 1), none, none, none, none, none, none] [] h1
            refine E_s 3 (i' := 44) (ls' := [some (.inr (.inr 44)), some (.inl set), some (.inl 2), some (.inl (szf S T (S 0 0) (T 0 0) (-1) 2 set)), some (.inl 1), none, none, none, none, none, none]) (sk' := [.inl (szf S T (S 0 0) (T 0 0) (-1) 2 set), .inl set, .inr (.inr 44)]) (h' := h1) rfl ?_
            have l9 : lf S (S 0 0) (-1) set ≠ -1 := fun y => by
              have : sz0 S (S 0 0) (-1) set = 1000000 := by unfold sz0; rw [if_pos y]
              omega
            have s9 : (szf S T (S 0 0) (T 0 0) (-1) 2 set) = S 4 (lf S (S 0 0) (-1) set) := by
              have : sz0 S (S 0 0) (-1) set = S 4 (lf S (S 0 0) (-1) set) := by unfold sz0; rw [if_neg l9]
              omega
            refine E_ci (x := (.invokevirtual 135, 2, [(5, 69)], [0])) (r := (cnf S set (szf S T (S 0 0) (T 0 0) (-1) 2 set) (S 0 0).toNat)) (h' := h1) rfl rfl (Nat.le_of_ble_eq_true rfl) (c_cntF (d + 4) 0 h1 S T set (szf S T (S 0 0) (T 0 0) (-1) 2 set) m V1 (by rw [so1]; exact hb) (by rw [ge1]; exact hK) hs l9 s9 ⟨rfl, rfl⟩) ?_
            show xEx G0 cdX7_waysOf (some .int) (xRn G0 MT (d + 7)) Q b 45 [some (.inr (.inr 44)), some (.inl set), some (.inl 2), some (.inl (szf S T (S 0 0) (T 0 0) (-1) 2 set)), some (.inl 1), none, none, none, none, none, none] [.inl (cnf S set (szf S T (S 0 0) (T 0 0) (-1) 2 set) (S 0 0).toNat)] h1
            refine E_s 5 (i' := 51) (ls' := [some (.inr (.inr 44)), some (.inl set), some (.inl 2), some (.inl (szf S T (S 0 0) (T 0 0) (-1) 2 set)), some (.inl 1), some (.inr (.inl (w32 (cnf S set (szf S T (S 0 0) (T 0 0) (-1) 2 set) (S 0 0).toNat)))), none, some (.inl 0), none, none, none]) (sk' := []) (h' := h1) rfl ?_
            have key51 : ∀ (n : Nat) (hh : xH) (i9 fd : Int) (v8 v9 v10 : Option xV), (0 ≤ i9) → (i9 ≤ h 44 8) → (FY h hh) → (SVM hh S T (-1) m) → (SVW hh S T (-1) m) → (fd = wst T (szf S T (S 0 0) (T 0 0) (-1) 1) (wyf S T (S 0 0) (T 0 0) 1) set (szf S T (S 0 0) (T 0 0) (-1) 2 set) (cnf S set (szf S T (S 0 0) (T 0 0) (-1) 2 set) (S 0 0).toNat) i9.toNat) → ((h 44 8 - i9).toNat) < n → xEx G0 cdX7_waysOf (some .int) (xRn G0 MT (d + 7)) Q b 51 [some (.inr (.inr 44)), some (.inl set), some (.inl 2), some (.inl (szf S T (S 0 0) (T 0 0) (-1) 2 set)), some (.inl 1), some (.inr (.inl fd)), none, some (.inl i9), v8, v9, v10] [] hh := by
              intro n
              induction n with
              | zero => intro hh i9 fd v8 v9 v10 _ _ _ _ _ _ hm; exact absurd hm (Nat.not_lt_zero _)
              | succ n ih51 =>
                intro hh i9 fd v8 v9 v10 hi0 hi9 fy hm hw hfd hm51
                have ec : hh 44 8 = h 44 8 := by rw [fy _ (by decide)]
                have fr := wst_r (T := T) (f := (szf S T (S 0 0) (T 0 0) (-1) 1)) (g := (wyf S T (S 0 0) (T 0 0) 1)) (set := set) (z := (szf S T (S 0 0) (T 0 0) (-1) 2 set)) (c0 := (cnf S set (szf S T (S 0 0) (T 0 0) (-1) 2 set) (S 0 0).toNat)) (by omega) (fun s => (wyf_r hV.1 1 s).1) i9.toNat
                have kt := hV.1.2.2.1
                have ub := us_id hV.2.2.2.2.2.2
                refine E_s 1 (i' := 52) (ls' := [some (.inr (.inr 44)), some (.inl set), some (.inl 2), some (.inl (szf S T (S 0 0) (T 0 0) (-1) 2 set)), some (.inl 1), some (.inr (.inl fd)), none, some (.inl i9), v8, v9, v10]) (sk' := [.inl 2]) (h' := hh) rfl ?_
                refine E_b (x := (.ifCond .le 113, 114, [], [])) rfl rfl (fun c52 => ?_) (fun c52 => ?_)
                · show xEx G0 cdX7_waysOf (some .int) (xRn G0 MT (d + 7)) Q b 114 [some (.inr (.inr 44)), some (.inl set), some (.inl 2), some (.inl (szf S T (S 0 0) (T 0 0) (-1) 2 set)), some (.inl 1), some (.inr (.inl fd)), none, some (.inl i9), v8, v9, v10] [] hh
                  exact absurd c52 (by decide)
                · show xEx G0 cdX7_waysOf (some .int) (xRn G0 MT (d + 7)) Q b 53 [some (.inr (.inr 44)), some (.inl set), some (.inl 2), some (.inl (szf S T (S 0 0) (T 0 0) (-1) 2 set)), some (.inl 1), some (.inr (.inl fd)), none, some (.inl i9), v8, v9, v10] [] hh
                  refine E_s 3 (i' := 56) (ls' := [some (.inr (.inr 44)), some (.inl set), some (.inl 2), some (.inl (szf S T (S 0 0) (T 0 0) (-1) 2 set)), some (.inl 1), some (.inr (.inl fd)), none, some (.inl i9), v8, v9, v10]) (sk' := [.inl (hh 44 8), .inl i9]) (h' := hh) rfl ?_
                  refine E_b (x := (.if_icmp .ge 104, 114, [], [])) rfl rfl (fun c56 => ?_) (fun c56 => ?_)
                  · rw [c_ge (by first | assumption | (refine ⟨?_, ?_⟩ <;> omega) | (simp only [xr] at *; omega)) (by first | assumption | (refine ⟨?_, ?_⟩ <;> omega) | (simp only [xr] at *; omega))] at c56
                    simp only [decide_eq_true_eq, decide_eq_false_iff_not, Decidable.not_not] at c56
                    show xEx G0 cdX7_waysOf (some .int) (xRn G0 MT (d + 7)) Q b 114 [some (.inr (.inr 44)), some (.inl set), some (.inl 2), some (.inl (szf S T (S 0 0) (T 0 0) (-1) 2 set)), some (.inl 1), some (.inr (.inl fd)), none, some (.inl i9), v8, v9, v10] [] hh
                    have hfin : fd = (wyf S T (S 0 0) (T 0 0) 2 set) := by
                      show fd = (if 1000000 ≤ (szf S T (S 0 0) (T 0 0) (-1) 2 set) then 0 else wst T (szf S T (S 0 0) (T 0 0) (-1) 1) (wyf S T (S 0 0) (T 0 0) 1) set (szf S T (S 0 0) (T 0 0) (-1) 2 set) (cnf S set (szf S T (S 0 0) (T 0 0) (-1) 2 set) (S 0 0).toNat) (T 0 0).toNat)
                      rw [if_neg (by omega), hfd]
                      first
                      | (rw [show i9 = T 0 0 by omega]; done)
                      | exact (wst_end hV.1 (fun s => (szf_r (p := -1) hV.1 1 s).1) hi0 (by omega) (by have := o0 q5 (by omega); rw [g4] at this; omega)).symm
                    have fr2 := fr
                    have r4 := ir4 hV.1.1 hs
                    refine E_s 1 (i' := 115) (ls' := [some (.inr (.inr 44)), some (.inl set), some (.inl 2), some (.inl (szf S T (S 0 0) (T 0 0) (-1) 2 set)), some (.inl 1), some (.inr (.inl fd)), none, some (.inl i9), v8, v9, v10]) (sk' := [.inl 1]) (h' := hh) rfl ?_
                    refine E_b (x := (.ifCond .eq 14, 124, [], [])) rfl rfl (fun c115 => ?_) (fun c115 => ?_)
                    · show xEx G0 cdX7_waysOf (some .int) (xRn G0 MT (d + 7)) Q b 124 [some (.inr (.inr 44)), some (.inl set), some (.inl 2), some (.inl (szf S T (S 0 0) (T 0 0) (-1) 2 set)), some (.inl 1), some (.inr (.inl fd)), none, some (.inl i9), v8, v9, v10] [] hh
                      exact absurd c115 (by decide)
                    · show xEx G0 cdX7_waysOf (some .int) (xRn G0 MT (d + 7)) Q b 116 [some (.inr (.inr 44)), some (.inl set), some (.inl 2), some (.inl (szf S T (S 0 0) (T 0 0) (-1) 2 set)), some (.inl 1), some (.inr (.inl fd)), none, some (.inl i9), v8, v9, v10] [] hh
                      refine E_s 3 (i' := 119) (ls' := [some (.inr (.inr 44)), some (.inl set), some (.inl 2), some (.inl (szf S T (S 0 0) (T 0 0) (-1) 2 set)), some (.inl 1), some (.inr (.inl fd)), none, some (.inl i9), v8, v9, v10]) (sk' := [.inl 2, .inr (.inr 47)]) (h' := hh) rfl ?_
                      refine E_ald (x := (.aaload, 0, [], [])) 2 rfl rfl rfl (rfl) rfl ?_
                      show xEx G0 cdX7_waysOf (some .int) (xRn G0 MT (d + 7)) Q b 120 [some (.inr (.inr 44)), some (.inl set), some (.inl 2), some (.inl (szf S T (S 0 0) (T 0 0) (-1) 2 set)), some (.inl 1), some (.inr (.inl fd)), none, some (.inl i9), v8, v9, v10] [.inr (.inr 53)] hh
                      refine E_s 3 (i' := 123) (ls' := [some (.inr (.inr 44)), some (.inl set), some (.inl 2), some (.inl (szf S T (S 0 0) (T 0 0) (-1) 2 set)), some (.inl 1), some (.inr (.inl fd)), none, some (.inl i9), v8, v9, v10]) (sk' := [.inl fd, .inl set, .inr (.inr 53)]) (h' := hh) rfl ?_
                      refine E_sd (x := (.iastore, 0, [], [])) (ty := .int) (n := 4096) (y := fd) rfl rfl rfl (by omega) (by omega) (trivial) ?_
                      show xEx G0 cdX7_waysOf (some .int) (xRn G0 MT (d + 7)) Q b 124 [some (.inr (.inr 44)), some (.inl set), some (.inl 2), some (.inl (szf S T (S 0 0) (T 0 0) (-1) 2 set)), some (.inl 1), some (.inr (.inl fd)), none, some (.inl i9), v8, v9, v10] [] (xup hh 53 set fd)
                      refine E_s 2 (i' := 126) (ls' := [some (.inr (.inr 44)), some (.inl set), some (.inl 2), some (.inl (szf S T (S 0 0) (T 0 0) (-1) 2 set)), some (.inl 1), some (.inr (.inl fd)), none, some (.inl i9), v8, v9, v10]) (sk' := [.inl fd]) (h' := (xup hh 53 set fd)) rfl ?_
                      exact E_ret (x := (.ireturn, 0, [], [])) (v := some (.inl fd)) rfl (Or.inl rfl) (by
                        have r9 := hQ _ ((fy).up ⟨by decide, by decide⟩) (SVM_w (by decide) hm) (SVW_2 hw _ hfin)
                        rw [← hfin] at r9
                        exact r9)
                  · rw [c_ge (by first | assumption | (refine ⟨?_, ?_⟩ <;> omega) | (simp only [xr] at *; omega)) (by first | assumption | (refine ⟨?_, ?_⟩ <;> omega) | (simp only [xr] at *; omega))] at c56
                    simp only [decide_eq_true_eq, decide_eq_false_iff_not, Decidable.not_not] at c56
                    show xEx G0 cdX7_waysOf (some .int) (xRn G0 MT (d + 7)) Q b 57 [some (.inr (.inr 44)), some (.inl set), some (.inl 2), some (.inl (szf S T (S 0 0) (T 0 0) (-1) 2 set)), some (.inl 1), some (.inr (.inl fd)), none, some (.inl i9), v8, v9, v10] [] hh
                    refine E_s 4 (i' := 61) (ls' := [some (.inr (.inr 44)), some (.inl set), some (.inl 2), some (.inl (szf S T (S 0 0) (T 0 0) (-1) 2 set)), some (.inl 1), some (.inr (.inl fd)), none, some (.inl i9), v8, v9, v10]) (sk' := [.inl i9, .inr (.inr 55), .inr (.inr 44)]) (h' := hh) rfl ?_
                    refine E_ld (x := (.iaload, 0, [], [])) (ty := .int) (n := 150) rfl rfl rfl (by omega) (by omega) ?_
                    show xEx G0 cdX7_waysOf (some .int) (xRn G0 MT (d + 7)) Q b 62 [some (.inr (.inr 44)), some (.inl set), some (.inl 2), some (.inl (szf S T (S 0 0) (T 0 0) (-1) 2 set)), some (.inl 1), some (.inr (.inl fd)), none, some (.inl i9), v8, v9, v10] [.inl (hh 55 i9), .inr (.inr 44)] hh
                    refine E_s 1 (i' := 63) (ls' := [some (.inr (.inr 44)), some (.inl set), some (.inl 2), some (.inl (szf S T (S 0 0) (T 0 0) (-1) 2 set)), some (.inl 1), some (.inr (.inl fd)), none, some (.inl i9), v8, v9, v10]) (sk' := [.inl (szf S T (S 0 0) (T 0 0) (-1) 2 set), .inl (hh 55 i9), .inr (.inr 44)]) (h' := hh) rfl ?_
                    have uu : hh 55 i9 = i9 := by rw [fy _ (by decide)]; exact ub.2 i9 hi0 (by omega)
                    have o4 := hV.1.2.2.2.2 i9 hi0 (by omega)
                    have g4 : hh 37 (hh 55 i9) = T 4 i9 := by rw [uu, fy _ (by decide)]; exact (hV.2.1 i9 hi0 (by omega)).1
                    have g6 : hh 39 (hh 55 i9) = T 6 i9 := by rw [uu, fy _ (by decide)]; exact (hV.2.1 i9 hi0 (by omega)).2
                    refine E_cp (x := (.invokevirtual 103, 2, [(5, 64)], [0])) (q := fun r5 h9 => ((r5 = 1 ∧ (hh 37 (hh 55 i9) + 3 ≤ (szf S T (S 0 0) (T 0 0) (-1) 2 set))) ∨ (r5 = 0 ∧ ¬ (hh 37 (hh 55 i9) + 3 ≤ (szf S T (S 0 0) (T 0 0) (-1) 2 set)))) ∧ hh = h9) rfl rfl (Nat.le_of_ble_eq_true rfl) (c_mayDo (d + 6) 0 hh (hh 55 i9) (szf S T (S 0 0) (T 0 0) (-1) 2 set) ⟨by omega, by omega⟩ ⟨by omega, by omega⟩ ⟨by omega, by omega⟩ (fun z => ⟨_, rfl, Or.inl ⟨rfl, z⟩, rfl⟩) (fun z => ⟨_, rfl, Or.inr ⟨rfl, z⟩, rfl⟩)) (fun r5 h9 q5 => ?_)
                    obtain ⟨q5, rfl⟩ := q5
                    show xEx G0 cdX7_waysOf (some .int) (xRn G0 MT (d + 7)) Q b 64 [some (.inr (.inr 44)), some (.inl set), some (.inl 2), some (.inl (szf S T (S 0 0) (T 0 0) (-1) 2 set)), some (.inl 1), some (.inr (.inl fd)), none, some (.inl i9), v8, v9, v10] [.inl r5] hh
                    refine E_b (x := (.ifCond .eq 89, 114, [], [])) rfl rfl (fun c64 => ?_) (fun c64 => ?_)
                    · rw [c_eq (by first | assumption | (refine ⟨?_, ?_⟩ <;> omega) | (simp only [xr] at *; omega)) (by first | assumption | (refine ⟨?_, ?_⟩ <;> omega) | (simp only [xr] at *; omega))] at c64
                      simp only [decide_eq_true_eq, decide_eq_false_iff_not, Decidable.not_not] at c64
                      show xEx G0 cdX7_waysOf (some .int) (xRn G0 MT (d + 7)) Q b 114 [some (.inr (.inr 44)), some (.inl set), some (.inl 2), some (.inl (szf S T (S 0 0) (T 0 0) (-1) 2 set)), some (.inl 1), some (.inr (.inl fd)), none, some (.inl i9), v8, v9, v10] [] hh
                      have hfin : fd = (wyf S T (S 0 0) (T 0 0) 2 set) := by
                        show fd = (if 1000000 ≤ (szf S T (S 0 0) (T 0 0) (-1) 2 set) then 0 else wst T (szf S T (S 0 0) (T 0 0) (-1) 1) (wyf S T (S 0 0) (T 0 0) 1) set (szf S T (S 0 0) (T 0 0) (-1) 2 set) (cnf S set (szf S T (S 0 0) (T 0 0) (-1) 2 set) (S 0 0).toNat) (T 0 0).toNat)
                        rw [if_neg (by omega), hfd]
                        first
                        | (rw [show i9 = T 0 0 by omega]; done)
                        | exact (wst_end hV.1 (fun s => (szf_r (p := -1) hV.1 1 s).1) hi0 (by omega) (by have := o0 q5 (by omega); rw [g4] at this; omega)).symm
                      have fr2 := fr
                      have r4 := ir4 hV.1.1 hs
                      refine E_s 1 (i' := 115) (ls' := [some (.inr (.inr 44)), some (.inl set), some (.inl 2), some (.inl (szf S T (S 0 0) (T 0 0) (-1) 2 set)), some (.inl 1), some (.inr (.inl fd)), none, some (.inl i9), v8, v9, v10]) (sk' := [.inl 1]) (h' := hh) rfl ?_
                      refine E_b (x := (.ifCond .eq 14, 124, [], [])) rfl rfl (fun c115 => ?_) (fun c115 => ?_)
                      · show xEx G0 cdX7_waysOf (some .int) (xRn G0 MT (d + 7)) Q b 124 [some (.inr (.inr 44)), some (.inl set), some (.inl 2), some (.inl (szf S T (S 0 0) (T 0 0) (-1) 2 set)), some (.inl 1), some (.inr (.inl fd)), none, some (.inl i9), v8, v9, v10] [] hh
                        exact absurd c115 (by decide)
                      · show xEx G0 cdX7_waysOf (some .int) (xRn G0 MT (d + 7)) Q b 116 [some (.inr (.inr 44)), some (.inl set), some (.inl 2), some (.inl (szf S T (S 0 0) (T 0 0) (-1) 2 set)), some (.inl 1), some (.inr (.inl fd)), none, some (.inl i9), v8, v9, v10] [] hh
                        refine E_s 3 (i' := 119) (ls' := [some (.inr (.inr 44)), some (.inl set), some (.inl 2), some (.inl (szf S T (S 0 0) (T 0 0) (-1) 2 set)), some (.inl 1), some (.inr (.inl fd)), none, some (.inl i9), v8, v9, v10]) (sk' := [.inl 2, .inr (.inr 47)]) (h' := hh) rfl ?_
                        refine E_ald (x := (.aaload, 0, [], [])) 2 rfl rfl rfl (rfl) rfl ?_
                        show xEx G0 cdX7_waysOf (some .int) (xRn G0 MT (d + 7)) Q b 120 [some (.inr (.inr 44)), some (.inl set), some (.inl 2), some (.inl (szf S T (S 0 0) (T 0 0) (-1) 2 set)), some (.inl 1), some (.inr (.inl fd)), none, some (.inl i9), v8, v9, v10] [.inr (.inr 53)] hh
                        refine E_s 3 (i' := 123) (ls' := [some (.inr (.inr 44)), some (.inl set), some (.inl 2), some (.inl (szf S T (S 0 0) (T 0 0) (-1) 2 set)), some (.inl 1), some (.inr (.inl fd)), none, some (.inl i9), v8, v9, v10]) (sk' := [.inl fd, .inl set, .inr (.inr 53)]) (h' := hh) rfl ?_
                        refine E_sd (x := (.iastore, 0, [], [])) (ty := .int) (n := 4096) (y := fd) rfl rfl rfl (by omega) (by omega) (trivial) ?_
                        show xEx G0 cdX7_waysOf (some .int) (xRn G0 MT (d + 7)) Q b 124 [some (.inr (.inr 44)), some (.inl set), some (.inl 2), some (.inl (szf S T (S 0 0) (T 0 0) (-1) 2 set)), some (.inl 1), some (.inr (.inl fd)), none, some (.inl i9), v8, v9, v10] [] (xup hh 53 set fd)
                        refine E_s 2 (i' := 126) (ls' := [some (.inr (.inr 44)), some (.inl set), some (.inl 2), some (.inl (szf S T (S 0 0) (T 0 0) (-1) 2 set)), some (.inl 1), some (.inr (.inl fd)), none, some (.inl i9), v8, v9, v10]) (sk' := [.inl fd]) (h' := (xup hh 53 set fd)) rfl ?_
                        exact E_ret (x := (.ireturn, 0, [], [])) (v := some (.inl fd)) rfl (Or.inl rfl) (by
                          have r9 := hQ _ ((fy).up ⟨by decide, by decide⟩) (SVM_w (by decide) hm) (SVW_2 hw _ hfin)
                          rw [← hfin] at r9
                          exact r9)
                    · rw [c_eq (by first | assumption | (refine ⟨?_, ?_⟩ <;> omega) | (simp only [xr] at *; omega)) (by first | assumption | (refine ⟨?_, ?_⟩ <;> omega) | (simp only [xr] at *; omega))] at c64
                      simp only [decide_eq_true_eq, decide_eq_false_iff_not, Decidable.not_not] at c64
                      show xEx G0 cdX7_waysOf (some .int) (xRn G0 MT (d + 7)) Q b 65 [some (.inr (.inr 44)), some (.inl set), some (.inl 2), some (.inl (szf S T (S 0 0) (T 0 0) (-1) 2 set)), some (.inl 1), some (.inr (.inl fd)), none, some (.inl i9), v8, v9, v10] [] hh
                      refine E_s 4 (i' := 69) (ls' := [some (.inr (.inr 44)), some (.inl set), some (.inl 2), some (.inl (szf S T (S 0 0) (T 0 0) (-1) 2 set)), some (.inl 1), some (.inr (.inl fd)), none, some (.inl i9), v8, v9, v10]) (sk' := [.inl i9, .inr (.inr 55), .inr (.inr 44)]) (h' := hh) rfl ?_
                      refine E_ld (x := (.iaload, 0, [], [])) (ty := .int) (n := 150) rfl rfl rfl (by omega) (by omega) ?_
                      show xEx G0 cdX7_waysOf (some .int) (xRn G0 MT (d + 7)) Q b 70 [some (.inr (.inr 44)), some (.inl set), some (.inl 2), some (.inl (szf S T (S 0 0) (T 0 0) (-1) 2 set)), some (.inl 1), some (.inr (.inl fd)), none, some (.inl i9), v8, v9, v10] [.inl (hh 55 i9), .inr (.inr 44)] hh
                      refine E_s 2 (i' := 72) (ls' := [some (.inr (.inr 44)), some (.inl set), some (.inl 2), some (.inl (szf S T (S 0 0) (T 0 0) (-1) 2 set)), some (.inl 1), some (.inr (.inl fd)), none, some (.inl i9), v8, v9, v10]) (sk' := [.inl 2, .inl set, .inl (hh 55 i9), .inr (.inr 44)]) (h' := hh) rfl ?_
                      refine E_cp (x := (.invokevirtual 106, 3, [(5, 65)], [0])) (q := fun r h9 => r = swf T (szf S T (S 0 0) (T 0 0) (-1) 1) set (hh 55 i9) ∧ FZ hh h9 ∧ SVM h9 S T (-1) m) rfl rfl (Nat.le_of_ble_eq_true rfl) (c_szW2 (d + 3) 0 hh S T (-1) set m (hh 55 i9) (SVF_y fy hV) hm hs ⟨by omega, by omega⟩ (fun h9 z1 z2 => ⟨_, rfl, rfl, z1, z2⟩)) (fun r2 h2 hq2 => ?_)
                      obtain ⟨e2, f2, m2⟩ := hq2
                      rw [uu] at e2
                      have sr := swf_r (T := T) (f := (szf S T (S 0 0) (T 0 0) (-1) 1)) (set := set) (t := i9) ⟨by omega, by omega⟩ (szf_r (p := -1) hV.1 1)
                      have sq := swf_eq (T := T) (p := -1) (f := (szf S T (S 0 0) (T 0 0) (-1) 1)) (set := set) (t := i9) (b := (szf S T (S 0 0) (T 0 0) (-1) 2 set)) (Or.inl rfl) (by omega) (szf_r (p := -1) hV.1 1) (by omega)
                      have fy2 : FY h h2 := fy.tr (FZ_y f2)
                      have w2 : SVW h2 S T (-1) m := SVW_z f2 hw
                      have u2 : h2 55 i9 = i9 := by rw [f2 _ (by decide) (by decide)]; exact uu
                      have g2 : h2 39 (h2 55 i9) = T 6 i9 := by rw [u2, fy2 _ (by decide)]; exact (hV.2.1 i9 hi0 (by omega)).2
                      show xEx G0 cdX7_waysOf (some .int) (xRn G0 MT (d + 7)) Q b 73 [some (.inr (.inr 44)), some (.inl set), some (.inl 2), some (.inl (szf S T (S 0 0) (T 0 0) (-1) 2 set)), some (.inl 1), some (.inr (.inl fd)), none, some (.inl i9), v8, v9, v10] [.inl r2] h2
                      refine E_s 1 (i' := 74) (ls' := [some (.inr (.inr 44)), some (.inl set), some (.inl 2), some (.inl (szf S T (S 0 0) (T 0 0) (-1) 2 set)), some (.inl 1), some (.inr (.inl fd)), none, some (.inl i9), v8, v9, v10]) (sk' := [.inl (szf S T (S 0 0) (T 0 0) (-1) 2 set), .inl r2]) (h' := h2) rfl ?_
                      refine E_b (x := (.if_icmp .ne 66, 112, [], [])) rfl rfl (fun c74 => ?_) (fun c74 => ?_)
                      · rw [c_ne (by first | assumption | (refine ⟨?_, ?_⟩ <;> omega) | (simp only [xr] at *; omega)) (by first | assumption | (refine ⟨?_, ?_⟩ <;> omega) | (simp only [xr] at *; omega))] at c74
                        simp only [decide_eq_true_eq, decide_eq_false_iff_not, Decidable.not_not] at c74
                        show xEx G0 cdX7_waysOf (some .int) (xRn G0 MT (d + 7)) Q b 112 [some (.inr (.inr 44)), some (.inl set), some (.inl 2), some (.inl (szf S T (S 0 0) (T 0 0) (-1) 2 set)), some (.inl 1), some (.inr (.inl fd)), none, some (.inl i9), v8, v9, v10] [] h2
                        refine E_s 2 (i' := 51) (ls' := [some (.inr (.inr 44)), some (.inl set), some (.inl 2), some (.inl (szf S T (S 0 0) (T 0 0) (-1) 2 set)), some (.inl 1), some (.inr (.inl fd)), none, some (.inl (i9 + 1)), v8, v9, v10]) (sk' := []) (h' := h2) rfl ?_
                        exact ih51 h2 (i9 + 1) fd _ _ _ (by omega) (by omega) fy2 m2 w2 (by rw [wst_n hi0 (fun y => c74 (by rw [e2]; exact sq.mpr y)), hfd]) (by omega)
                      · rw [c_ne (by first | assumption | (refine ⟨?_, ?_⟩ <;> omega) | (simp only [xr] at *; omega)) (by first | assumption | (refine ⟨?_, ?_⟩ <;> omega) | (simp only [xr] at *; omega))] at c74
                        simp only [decide_eq_true_eq, decide_eq_false_iff_not, Decidable.not_not] at c74
                        show xEx G0 cdX7_waysOf (some .int) (xRn G0 MT (d + 7)) Q b 75 [some (.inr (.inr 44)), some (.inl set), some (.inl 2), some (.inl (szf S T (S 0 0) (T 0 0) (-1) 2 set)), some (.inl 1), some (.inr (.inl fd)), none, some (.inl i9), v8, v9, v10] [] h2
                        refine E_s 7 (i' := 82) (ls' := [some (.inr (.inr 44)), some (.inl set), some (.inl 2), some (.inl (szf S T (S 0 0) (T 0 0) (-1) 2 set)), some (.inl 1), some (.inr (.inl fd)), none, some (.inl i9), v8, v9, v10]) (sk' := [.inl i9, .inr (.inr 55), .inr (.inr 39), .inl set]) (h' := h2) rfl ?_
                        refine E_ld (x := (.iaload, 0, [], [])) (ty := .int) (n := 150) rfl rfl rfl (by omega) (by omega) ?_
                        show xEx G0 cdX7_waysOf (some .int) (xRn G0 MT (d + 7)) Q b 83 [some (.inr (.inr 44)), some (.inl set), some (.inl 2), some (.inl (szf S T (S 0 0) (T 0 0) (-1) 2 set)), some (.inl 1), some (.inr (.inl fd)), none, some (.inl i9), v8, v9, v10] [.inl (h2 55 i9), .inr (.inr 39), .inl set] h2
                        refine E_ld (x := (.iaload, 0, [], [])) (ty := .int) (n := 150) rfl rfl rfl (by omega) (by omega) ?_
                        show xEx G0 cdX7_waysOf (some .int) (xRn G0 MT (d + 7)) Q b 84 [some (.inr (.inr 44)), some (.inl set), some (.inl 2), some (.inl (szf S T (S 0 0) (T 0 0) (-1) 2 set)), some (.inl 1), some (.inr (.inl fd)), none, some (.inl i9), v8, v9, v10] [.inl (h2 39 (h2 55 i9)), .inl set] h2
                        refine E_s 7 (i' := 91) (ls' := [some (.inr (.inr 44)), some (.inl set), some (.inl 2), some (.inl (szf S T (S 0 0) (T 0 0) (-1) 2 set)), some (.inl 1), some (.inr (.inl fd)), none, some (.inl i9), some (.inl (xand set (h2 39 (h2 55 i9)))), v9, v10]) (sk' := [.inl 1, .inl (xand set (h2 39 (h2 55 i9))), .inr (.inr 44)]) (h' := h2) rfl ?_
                        have is1 : ir m (xand set (h2 39 (h2 55 i9))) := by rw [g2]; exact xa_r hV.1.1 hs o4.2.1
                        have is2 : ir m (xxor set (xand set (h2 39 (h2 55 i9)))) := xx_r hV.1.1 hs is1
                        have V2 := SVF_y fy2 hV
                        refine E_cp (x := (.invokevirtual 138, 2, [(5, 68)], [0])) (q := fun r h9 => r = (wyf S T (S 0 0) (T 0 0) 1) (xand set (h2 39 (h2 55 i9))) ∧ FY h2 h9 ∧ SVM h9 S T (-1) m ∧ SVW h9 S T (-1) m) rfl rfl (Nat.le_of_ble_eq_true rfl) (c_wy1 (d + 1) 0 h2 S T (xand set (h2 39 (h2 55 i9))) m V2 m2 w2 (by rw [fy2 _ (by decide)]; exact hb) (by rw [fy2 _ (by decide)]; exact hK) is1 (fun h9 z1 z2 z3 => ⟨_, rfl, rfl, z1, z2, z3⟩)) (fun r3 h3 hq3 => ?_)
                        obtain ⟨e3, f3, m3, w3⟩ := hq3
                        have fy3 : FY h h3 := fy2.tr f3
                        have wr3 := wyf_r hV.1 1 (xand set (h2 39 (h2 55 i9)))
                        show xEx G0 cdX7_waysOf (some .int) (xRn G0 MT (d + 7)) Q b 92 [some (.inr (.inr 44)), some (.inl set), some (.inl 2), some (.inl (szf S T (S 0 0) (T 0 0) (-1) 2 set)), some (.inl 1), some (.inr (.inl fd)), none, some (.inl i9), some (.inl (xand set (h2 39 (h2 55 i9)))), v9, v10] [.inl r3] h3
                        refine E_s 8 (i' := 100) (ls' := [some (.inr (.inr 44)), some (.inl set), some (.inl 2), some (.inl (szf S T (S 0 0) (T 0 0) (-1) 2 set)), some (.inl 1), some (.inr (.inl fd)), none, some (.inl i9), some (.inl (xand set (h2 39 (h2 55 i9)))), v9, v10]) (sk' := [.inl 1, .inl (xxor set (xand set (h2 39 (h2 55 i9)))), .inr (.inr 44), .inr (.inl (w32 r3))]) (h' := h3) rfl ?_
                        refine E_cp (x := (.invokevirtual 138, 2, [(5, 68)], [0])) (q := fun r h9 => r = (wyf S T (S 0 0) (T 0 0) 1) (xxor set (xand set (h2 39 (h2 55 i9)))) ∧ FY h3 h9 ∧ SVM h9 S T (-1) m ∧ SVW h9 S T (-1) m) rfl rfl (Nat.le_of_ble_eq_true rfl) (c_wy1 (d + 1) 0 h3 S T (xxor set (xand set (h2 39 (h2 55 i9)))) m (SVF_y fy3 hV) m3 w3 (by rw [fy3 _ (by decide)]; exact hb) (by rw [fy3 _ (by decide)]; exact hK) is2 (fun h9 z1 z2 z3 => ⟨_, rfl, rfl, z1, z2, z3⟩)) (fun r4 h4 hq4 => ?_)
                        obtain ⟨e4, f4, m4, w4⟩ := hq4
                        have fy4 : FY h h4 := fy3.tr f4
                        have wr4 := wyf_r hV.1 1 (xxor set (xand set (h2 39 (h2 55 i9))))
                        show xEx G0 cdX7_waysOf (some .int) (xRn G0 MT (d + 7)) Q b 101 [some (.inr (.inr 44)), some (.inl set), some (.inl 2), some (.inl (szf S T (S 0 0) (T 0 0) (-1) 2 set)), some (.inl 1), some (.inr (.inl fd)), none, some (.inl i9), some (.inl (xand set (h2 39 (h2 55 i9)))), v9, v10] [.inl r4, .inr (.inl (w32 r3))] h4
                        refine E_s 7 (i' := 108) (ls' := [some (.inr (.inr 44)), some (.inl set), some (.inl 2), some (.inl (szf S T (S 0 0) (T 0 0) (-1) 2 set)), some (.inl 1), some (.inr (.inl fd)), none, some (.inl i9), some (.inl (xand set (h2 39 (h2 55 i9)))), some (.inr (.inl ((w32 r3) * (w32 r4)))), none]) (sk' := [.inr (.inl ((w32 r3) * (w32 r4))), .inr (.inl 1000000000), .inr (.inl fd), .inr (.inl 1000000000)]) (h' := h4) rfl ?_
                        refine E_minl (x := (.invokestatic 143, 0, [], [2])) rfl rfl rfl (Nat.le_of_ble_eq_true rfl) ?_
                        show xEx G0 cdX7_waysOf (some .int) (xRn G0 MT (d + 7)) Q b 109 [some (.inr (.inr 44)), some (.inl set), some (.inl 2), some (.inl (szf S T (S 0 0) (T 0 0) (-1) 2 set)), some (.inl 1), some (.inr (.inl fd)), none, some (.inl i9), some (.inl (xand set (h2 39 (h2 55 i9)))), some (.inr (.inl ((w32 r3) * (w32 r4)))), none] [.inr (.inl (if w64 ((w32 r3) * (w32 r4)) < w64 1000000000 then (w32 r3) * (w32 r4) else 1000000000)), .inr (.inl fd), .inr (.inl 1000000000)] h4
                        refine E_s 1 (i' := 110) (ls' := [some (.inr (.inr 44)), some (.inl set), some (.inl 2), some (.inl (szf S T (S 0 0) (T 0 0) (-1) 2 set)), some (.inl 1), some (.inr (.inl fd)), none, some (.inl i9), some (.inl (xand set (h2 39 (h2 55 i9)))), some (.inr (.inl ((w32 r3) * (w32 r4)))), none]) (sk' := [.inr (.inl (fd + (if w64 ((w32 r3) * (w32 r4)) < w64 1000000000 then (w32 r3) * (w32 r4) else 1000000000))), .inr (.inl 1000000000)]) (h' := h4) rfl ?_
                        refine E_minl (x := (.invokestatic 143, 0, [], [2])) rfl rfl rfl (Nat.le_of_ble_eq_true rfl) ?_
                        show xEx G0 cdX7_waysOf (some .int) (xRn G0 MT (d + 7)) Q b 111 [some (.inr (.inr 44)), some (.inl set), some (.inl 2), some (.inl (szf S T (S 0 0) (T 0 0) (-1) 2 set)), some (.inl 1), some (.inr (.inl fd)), none, some (.inl i9), some (.inl (xand set (h2 39 (h2 55 i9)))), some (.inr (.inl ((w32 r3) * (w32 r4)))), none] [.inr (.inl (if w64 (fd + (if w64 ((w32 r3) * (w32 r4)) < w64 1000000000 then (w32 r3) * (w32 r4) else 1000000000)) < w64 1000000000 then fd + (if w64 ((w32 r3) * (w32 r4)) < w64 1000000000 then (w32 r3) * (w32 r4) else 1000000000) else 1000000000))] h4
                        refine E_s 3 (i' := 51) (ls' := [some (.inr (.inr 44)), some (.inl set), some (.inl 2), some (.inl (szf S T (S 0 0) (T 0 0) (-1) 2 set)), some (.inl 1), some (.inr (.inl (if w64 (fd + (if w64 ((w32 r3) * (w32 r4)) < w64 1000000000 then (w32 r3) * (w32 r4) else 1000000000)) < w64 1000000000 then fd + (if w64 ((w32 r3) * (w32 r4)) < w64 1000000000 then (w32 r3) * (w32 r4) else 1000000000) else 1000000000))), none, some (.inl (i9 + 1)), some (.inl (xand set (h2 39 (h2 55 i9)))), some (.inr (.inl ((w32 r3) * (w32 r4)))), none]) (sk' := []) (h' := h4) rfl ?_
                        exact ih51 h4 (i9 + 1) _ _ _ _ (by omega) (by omega) fy4 m4 w4 (by
                          have y9 := sq.mp (by rw [← e2]; omega)
                          rw [g2] at e3 e4 wr3 wr4
                          have p3 : w32 r3 = r3 := w32_id ⟨by omega, by omega⟩
                          have p4 : w32 r4 = r4 := w32_id ⟨by omega, by omega⟩
                          have pm : 0 ≤ r3 * r4 := Int.mul_nonneg (by omega) (by omega)
                          have pl : r3 * r4 ≤ 1000000000000000000 := mul9 (by omega) (by omega) (by omega) (by omega)
                          have cc := cap_r pm
                          rw [p3, p4, minl_c pm (by omega), minl_c (by omega) (by omega), cap_2 (by omega) pm, wst_y hi0 y9, hfd, e3, e4]) (by omega)
            exact key51 _ h1 0 _ none none none (by omega) hV.2.2.2.2.2.2.1 (FZ_y f1) m1 W1 (by
              show _ = (cnf S set (szf S T (S 0 0) (T 0 0) (-1) 2 set) (S 0 0).toNat)
              exact w32_id ⟨by omega, by omega⟩) (Nat.lt_succ_self _)
        · rw [c_eq (by first | assumption | (refine ⟨?_, ?_⟩ <;> omega) | (simp only [xr] at *; omega)) (by first | assumption | (refine ⟨?_, ?_⟩ <;> omega) | (simp only [xr] at *; omega))] at c25
          simp only [decide_eq_true_eq, decide_eq_false_iff_not, Decidable.not_not] at c25
          show xEx G0 cdX7_waysOf (some .int) (xRn G0 MT (d + 7)) Q b 26 [some (.inr (.inr 44)), some (.inl set), some (.inl 2), some (.inl (szf S T (S 0 0) (T 0 0) (-1) 2 set)), some (.inl 1), none, none, none, none, none, none] [] h1
          refine E_s 3 (i' := 29) (ls' := [some (.inr (.inr 44)), some (.inl set), some (.inl 2), some (.inl (szf S T (S 0 0) (T 0 0) (-1) 2 set)), some (.inl 1), none, none, none, none, none, none]) (sk' := [.inl 2, .inr (.inr 47)]) (h' := h1) rfl ?_
          refine E_ald (x := (.aaload, 0, [], [])) 2 rfl rfl rfl (rfl) rfl ?_
          show xEx G0 cdX7_waysOf (some .int) (xRn G0 MT (d + 7)) Q b 30 [some (.inr (.inr 44)), some (.inl set), some (.inl 2), some (.inl (szf S T (S 0 0) (T 0 0) (-1) 2 set)), some (.inl 1), none, none, none, none, none, none] [.inr (.inr 53)] h1
          refine E_s 1 (i' := 31) (ls' := [some (.inr (.inr 44)), some (.inl set), some (.inl 2), some (.inl (szf S T (S 0 0) (T 0 0) (-1) 2 set)), some (.inl 1), none, none, none, none, none, none]) (sk' := [.inl set, .inr (.inr 53)]) (h' := h1) rfl ?_
          refine E_ld (x := (.iaload, 0, [], [])) (ty := .int) (n := 4096) rfl rfl rfl (by omega) (by omega) ?_
          show xEx G0 cdX7_waysOf (some .int) (xRn G0 MT (d + 7)) Q b 32 [some (.inr (.inr 44)), some (.inl set), some (.inl 2), some (.inl (szf S T (S 0 0) (T 0 0) (-1) 2 set)), some (.inl 1), none, none, none, none, none, none] [.inl (h1 53 set)] h1
          exact E_ret (x := (.ireturn, 0, [], [])) (v := some (.inl (h1 53 set))) rfl (Or.inl rfl) (by
            have r9 := hQ h1 (FZ_y f1) m1 W1
            have e9 : h1 53 set = (wyf S T (S 0 0) (T 0 0) 2 set) := by omega
            rw [← e9] at r9
            exact r9)
  · rw [c_ne (by first | assumption | (refine ⟨?_, ?_⟩ <;> omega) | (simp only [xr] at *; omega)) (by first | assumption | (refine ⟨?_, ?_⟩ <;> omega) | (simp only [xr] at *; omega))] at c7
    simp only [decide_eq_true_eq, decide_eq_false_iff_not, Decidable.not_not] at c7
    show xEx G0 cdX7_waysOf (some .int) (xRn G0 MT (d + 7)) Q b 8 [some (.inr (.inr 44)), some (.inl set), some (.inl 2), some (.inl (szf S T (S 0 0) (T 0 0) (-1) 2 set)), none, none, none, none, none, none, none] [] h1
    refine E_s 1 (i' := 9) (ls' := [some (.inr (.inr 44)), some (.inl set), some (.inl 2), some (.inl (szf S T (S 0 0) (T 0 0) (-1) 2 set)), none, none, none, none, none, none, none]) (sk' := [.inl 0]) (h' := h1) rfl ?_
    exact E_ret (x := (.ireturn, 0, [], [])) (v := some (.inl 0)) rfl (Or.inl rfl) (by
      have r9 := hQ h1 (FZ_y f1) m1 W1
      have e9 : (wyf S T (S 0 0) (T 0 0) 2 set) = 0 := by
        show (if 1000000 ≤ (szf S T (S 0 0) (T 0 0) (-1) 2 set) then 0 else _) = (0 : Int)
        rw [if_pos (by omega)]
      rw [e9] at r9
      exact r9)
set_option maxHeartbeats 1000000 in
theorem c_wy3 (d b : Nat) (h S T : xH) (set : Int) (m : Nat) (hV : SVF h S T (-1) m) (hM : SVM h S T (-1) m) (hW : SVW h S T (-1) m) (hb : h 44 10 = -1) (hK : h 9 9 = S 0 0) (hs : ir m set) {Q : xO → xH → Prop} (hQ : ∀ h', FY h h' → SVM h' S T (-1) m → SVW h' S T (-1) m → Q (.inl (some (.inl (wyf S T (S 0 0) (T 0 0) 3 set)))) h') : xRn G0 MT (d + 10) b 68 [.inr (.inr 44), .inl set, .inl 3] h Q := by
  refine R_of (M := mX7_waysOf) rfl (Nat.le_of_ble_eq_true rfl) ?_
  show xEx G0 cdX7_waysOf (some .int) (xRn G0 MT (d + 9)) Q b 0 [some (.inr (.inr 44)), some (.inl set), some (.inl 3), none, none, none, none, none, none, none, none] [] h
  have r4 := ir4 hV.1.1 hs
  refine E_s 3 (i' := 3) (ls' := [some (.inr (.inr 44)), some (.inl set), some (.inl 3), none, none, none, none, none, none, none, none]) (sk' := [.inl 3, .inl set, .inr (.inr 44)]) (h' := h) rfl ?_
  refine E_cp (x := (.invokevirtual 99, 2, [(5, 63)], [0])) (q := fun r h9 => r = (szf S T (S 0 0) (T 0 0) (-1) 3 set) ∧ FZ h h9 ∧ SVM h9 S T (-1) m) rfl rfl (Nat.le_of_ble_eq_true rfl) (c_szO3 (d + 2) 0 h S T (-1) set m hV hM hs (fun h9 z1 z2 => ⟨_, rfl, rfl, z1, z2⟩)) (fun r1 h1 hq1 => ?_)
  obtain ⟨e1, f1, m1⟩ := hq1
  show xEx G0 cdX7_waysOf (some .int) (xRn G0 MT (d + 9)) Q b 4 [some (.inr (.inr 44)), some (.inl set), some (.inl 3), none, none, none, none, none, none, none, none] [.inl r1] h1
  refine E_ti (y := (szf S T (S 0 0) (T 0 0) (-1) 3 set)) (by rw [e1]) ?_
  have V1 := SVF_z f1 hV
  have W1 := SVW_z f1 hW
  have zr := szf_r (p := -1) hV.1 3 set
  have so1 : h1 44 = h 44 := f1 _ (by decide) (by decide)
  have ge1 : h1 9 = h 9 := f1 _ (by decide) (by decide)
  have e0 : h1 48 set = sz0 S (S 0 0) (-1) set := (V1.2.2.2.1 set hs).2
  have z0 := sz0_r (p := -1) hV.1 set
  have wr := wyf_r hV.1 3 set
  have cr := cnf_r (S := S) (set := set) (z := (szf S T (S 0 0) (T 0 0) (-1) 3 set)) (S 0 0).toNat
  have kk := hV.1.2.1
  have w9 := W1 set hs
  refine E_s 3 (i' := 7) (ls' := [some (.inr (.inr 44)), some (.inl set), some (.inl 3), some (.inl (szf S T (S 0 0) (T 0 0) (-1) 3 set)), none, none, none, none, none, none, none]) (sk' := [.inl 1000000, .inl (szf S T (S 0 0) (T 0 0) (-1) 3 set)]) (h' := h1) rfl ?_
  refine E_b (x := (.if_icmp .ne 5, 10, [], [])) rfl rfl (fun c7 => ?_) (fun c7 => ?_)
  · rw [c_ne (by first | assumption | (refine ⟨?_, ?_⟩ <;> omega) | (simp only [xr] at *; omega)) (by first | assumption | (refine ⟨?_, ?_⟩ <;> omega) | (simp only [xr] at *; omega))] at c7
    simp only [decide_eq_true_eq, decide_eq_false_iff_not, Decidable.not_not] at c7
    show xEx G0 cdX7_waysOf (some .int) (xRn G0 MT (d + 9)) Q b 10 [some (.inr (.inr 44)), some (.inl set), some (.inl 3), some (.inl (szf S T (S 0 0) (T 0 0) (-1) 3 set)), none, none, none, none, none, none, none] [] h1
    have zl : (szf S T (S 0 0) (T 0 0) (-1) 3 set) < 1000000 := by omega
    refine E_s 2 (i' := 12) (ls' := [some (.inr (.inr 44)), some (.inl set), some (.inl 3), some (.inl (szf S T (S 0 0) (T 0 0) (-1) 3 set)), none, none, none, none, none, none, none]) (sk' := [.inl 2, .inl 3]) (h' := h1) rfl ?_
    refine E_b (x := (.if_icmp .gt 7, 15, [], [])) rfl rfl (fun c12 => ?_) (fun c12 => ?_)
    · show xEx G0 cdX7_waysOf (some .int) (xRn G0 MT (d + 9)) Q b 15 [some (.inr (.inr 44)), some (.inl set), some (.inl 3), some (.inl (szf S T (S 0 0) (T 0 0) (-1) 3 set)), none, none, none, none, none, none, none] [] h1
      refine E_s 3 (i' := 18) (ls' := [some (.inr (.inr 44)), some (.inl set), some (.inl 3), some (.inl (szf S T (S 0 0) (T 0 0) (-1) 3 set)), some (.inl 0), none, none, none, none, none, none]) (sk' := [.inl 0]) (h' := h1) rfl ?_
      refine E_b (x := (.ifCond .eq 23, 33, [], [])) rfl rfl (fun c18 => ?_) (fun c18 => ?_)
      · show xEx G0 cdX7_waysOf (some .int) (xRn G0 MT (d + 9)) Q b 33 [some (.inr (.inr 44)), some (.inl set), some (.inl 3), some (.inl (szf S T (S 0 0) (T 0 0) (-1) 3 set)), some (.inl 0), none, none, none, none, none, none] [] h1
        refine E_s 4 (i' := 37) (ls' := [some (.inr (.inr 44)), some (.inl set), some (.inl 3), some (.inl (szf S T (S 0 0) (T 0 0) (-1) 3 set)), some (.inl 0), none, none, none, none, none, none]) (sk' := [.inl 0, .inr (.inr 46), .inl (szf S T (S 0 0) (T 0 0) (-1) 3 set)]) (h' := h1) rfl ?_
        refine E_ald (x := (.aaload, 0, [], [])) 0 rfl rfl rfl (rfl) rfl ?_
        show xEx G0 cdX7_waysOf (some .int) (xRn G0 MT (d + 9)) Q b 38 [some (.inr (.inr 44)), some (.inl set), some (.inl 3), some (.inl (szf S T (S 0 0) (T 0 0) (-1) 3 set)), some (.inl 0), none, none, none, none, none, none] [.inr (.inr 48), .inl (szf S T (S 0 0) (T 0 0) (-1) 3 set)] h1
        refine E_s 1 (i' := 39) (ls' := [some (.inr (.inr 44)), some (.inl set), some (.inl 3), some (.inl (szf S T (S 0 0) (T 0 0) (-1) 3 set)), some (.inl 0), none, none, none, none, none, none]) (sk' := [.inl set, .inr (.inr 48), .inl (szf S T (S 0 0) (T 0 0) (-1) 3 set)]) (h' := h1) rfl ?_
        refine E_ld (x := (.iaload, 0, [], [])) (ty := .int) (n := 4096) rfl rfl rfl (by omega) (by omega) ?_
        show xEx G0 cdX7_waysOf (some .int) (xRn G0 MT (d + 9)) Q b 40 [some (.inr (.inr 44)), some (.inl set), some (.inl 3), some (.inl (szf S T (S 0 0) (T 0 0) (-1) 3 set)), some (.inl 0), none, none, none, none, none, none] [.inl (h1 48 set), .inl (szf S T (S 0 0) (T 0 0) (-1) 3 set)] h1
        refine E_b (x := (.if_icmp .ne 13, 47, [], [])) rfl rfl (fun c40 => ?_) (fun c40 => ?_)
        · rw [c_ne (by first | assumption | (refine ⟨?_, ?_⟩ <;> omega) | (simp only [xr] at *; omega)) (by first | assumption | (refine ⟨?_, ?_⟩ <;> omega) | (simp only [xr] at *; omega))] at c40
          simp only [decide_eq_true_eq, decide_eq_false_iff_not, Decidable.not_not] at c40
          show xEx G0 cdX7_waysOf (some .int) (xRn G0 MT (d + 9)) Q b 47 [some (.inr (.inr 44)), some (.inl set), some (.inl 3), some (.inl (szf S T (S 0 0) (T 0 0) (-1) 3 set)), some (.inl 0), none, none, none, none, none, none] [] h1
          refine E_s 4 (i' := 51) (ls' := [some (.inr (.inr 44)), some (.inl set), some (.inl 3), some (.inl (szf S T (S 0 0) (T 0 0) (-1) 3 set)), some (.inl 0), some (.inr (.inl 0)), none, some (.inl 0), none, none, none]) (sk' := []) (h' := h1) rfl ?_
          have key51 : ∀ (n : Nat) (hh : xH) (i9 fd : Int) (v8 v9 v10 : Option xV), (0 ≤ i9) → (i9 ≤ h 44 8) → (FY h hh) → (SVM hh S T (-1) m) → (SVW hh S T (-1) m) → (fd = wst T (szf S T (S 0 0) (T 0 0) (-1) 2) (wyf S T (S 0 0) (T 0 0) 2) set (szf S T (S 0 0) (T 0 0) (-1) 3 set) (cnf S set (szf S T (S 0 0) (T 0 0) (-1) 3 set) (S 0 0).toNat) i9.toNat) → ((h 44 8 - i9).toNat) < n → xEx G0 cdX7_waysOf (some .int) (xRn G0 MT (d + 9)) Q b 51 [some (.inr (.inr 44)), some (.inl set), some (.inl 3), some (.inl (szf S T (S 0 0) (T 0 0) (-1) 3 set)), some (.inl 0), some (.inr (.inl fd)), none, some (.inl i9), v8, v9, v10] [] hh := by
            intro n
            induction n with
            | zero => intro hh i9 fd v8 v9 v10 _ _ _ _ _ _ hm; exact absurd hm (Nat.not_lt_zero _)
            | succ n ih51 =>
              intro hh i9 fd v8 v9 v10 hi0 hi9 fy hm hw hfd hm51
              have ec : hh 44 8 = h 44 8 := by rw [fy _ (by decide)]
              have fr := wst_r (T := T) (f := (szf S T (S 0 0) (T 0 0) (-1) 2)) (g := (wyf S T (S 0 0) (T 0 0) 2)) (set := set) (z := (szf S T (S 0 0) (T 0 0) (-1) 3 set)) (c0 := (cnf S set (szf S T (S 0 0) (T 0 0) (-1) 3 set) (S 0 0).toNat)) (by omega) (fun s => (wyf_r hV.1 2 s).1) i9.toNat
              have kt := hV.1.2.2.1
              have ub := us_id hV.2.2.2.2.2.2
              refine E_s 1 (i' := 52) (ls' := [some (.inr (.inr 44)), some (.inl set), some (.inl 3), some (.inl (szf S T (S 0 0) (T 0 0) (-1) 3 set)), some (.inl 0), some (.inr (.inl fd)), none, some (.inl i9), v8, v9, v10]) (sk' := [.inl 3]) (h' := hh) rfl ?_
              refine E_b (x := (.ifCond .le 113, 114, [], [])) rfl rfl (fun c52 => ?_) (fun c52 => ?_)
              · show xEx G0 cdX7_waysOf (some .int) (xRn G0 MT (d + 9)) Q b 114 [some (.inr (.inr 44)), some (.inl set), some (.inl 3), some (.inl (szf S T (S 0 0) (T 0 0) (-1) 3 set)), some (.inl 0), some (.inr (.inl fd)), none, some (.inl i9), v8, v9, v10] [] hh
                exact absurd c52 (by decide)
              · show xEx G0 cdX7_waysOf (some .int) (xRn G0 MT (d + 9)) Q b 53 [some (.inr (.inr 44)), some (.inl set), some (.inl 3), some (.inl (szf S T (S 0 0) (T 0 0) (-1) 3 set)), some (.inl 0), some (.inr (.inl fd)), none, some (.inl i9), v8, v9, v10] [] hh
                refine E_s 3 (i' := 56) (ls' := [some (.inr (.inr 44)), some (.inl set), some (.inl 3), some (.inl (szf S T (S 0 0) (T 0 0) (-1) 3 set)), some (.inl 0), some (.inr (.inl fd)), none, some (.inl i9), v8, v9, v10]) (sk' := [.inl (hh 44 8), .inl i9]) (h' := hh) rfl ?_
                refine E_b (x := (.if_icmp .ge 104, 114, [], [])) rfl rfl (fun c56 => ?_) (fun c56 => ?_)
                · rw [c_ge (by first | assumption | (refine ⟨?_, ?_⟩ <;> omega) | (simp only [xr] at *; omega)) (by first | assumption | (refine ⟨?_, ?_⟩ <;> omega) | (simp only [xr] at *; omega))] at c56
                  simp only [decide_eq_true_eq, decide_eq_false_iff_not, Decidable.not_not] at c56
                  show xEx G0 cdX7_waysOf (some .int) (xRn G0 MT (d + 9)) Q b 114 [some (.inr (.inr 44)), some (.inl set), some (.inl 3), some (.inl (szf S T (S 0 0) (T 0 0) (-1) 3 set)), some (.inl 0), some (.inr (.inl fd)), none, some (.inl i9), v8, v9, v10] [] hh
                  have hfin : fd = (wyf S T (S 0 0) (T 0 0) 3 set) := by
                    show fd = (if 1000000 ≤ (szf S T (S 0 0) (T 0 0) (-1) 3 set) then 0 else wst T (szf S T (S 0 0) (T 0 0) (-1) 2) (wyf S T (S 0 0) (T 0 0) 2) set (szf S T (S 0 0) (T 0 0) (-1) 3 set) (cnf S set (szf S T (S 0 0) (T 0 0) (-1) 3 set) (S 0 0).toNat) (T 0 0).toNat)
                    rw [if_neg (by omega), hfd]
                    first
                    | (rw [show i9 = T 0 0 by omega]; done)
                    | exact (wst_end hV.1 (fun s => (szf_r (p := -1) hV.1 2 s).1) hi0 (by omega) (by have := o0 q5 (by omega); rw [g4] at this; omega)).symm
                  have fr2 := fr
                  have r4 := ir4 hV.1.1 hs
                  refine E_s 1 (i' := 115) (ls' := [some (.inr (.inr 44)), some (.inl set), some (.inl 3), some (.inl (szf S T (S 0 0) (T 0 0) (-1) 3 set)), some (.inl 0), some (.inr (.inl fd)), none, some (.inl i9), v8, v9, v10]) (sk' := [.inl 0]) (h' := hh) rfl ?_
                  refine E_b (x := (.ifCond .eq 14, 124, [], [])) rfl rfl (fun c115 => ?_) (fun c115 => ?_)
                  · show xEx G0 cdX7_waysOf (some .int) (xRn G0 MT (d + 9)) Q b 124 [some (.inr (.inr 44)), some (.inl set), some (.inl 3), some (.inl (szf S T (S 0 0) (T 0 0) (-1) 3 set)), some (.inl 0), some (.inr (.inl fd)), none, some (.inl i9), v8, v9, v10] [] hh
                    refine E_s 2 (i' := 126) (ls' := [some (.inr (.inr 44)), some (.inl set), some (.inl 3), some (.inl (szf S T (S 0 0) (T 0 0) (-1) 3 set)), some (.inl 0), some (.inr (.inl fd)), none, some (.inl i9), v8, v9, v10]) (sk' := [.inl fd]) (h' := hh) rfl ?_
                    exact E_ret (x := (.ireturn, 0, [], [])) (v := some (.inl fd)) rfl (Or.inl rfl) (by
                      have r9 := hQ _ fy hm hw
                      rw [← hfin] at r9
                      exact r9)
                  · show xEx G0 cdX7_waysOf (some .int) (xRn G0 MT (d + 9)) Q b 116 [some (.inr (.inr 44)), some (.inl set), some (.inl 3), some (.inl (szf S T (S 0 0) (T 0 0) (-1) 3 set)), some (.inl 0), some (.inr (.inl fd)), none, some (.inl i9), v8, v9, v10] [] hh
                    exact absurd c115 (by decide)
                · rw [c_ge (by first | assumption | (refine ⟨?_, ?_⟩ <;> omega) | (simp only [xr] at *; omega)) (by first | assumption | (refine ⟨?_, ?_⟩ <;> omega) | (simp only [xr] at *; omega))] at c56
                  simp only [decide_eq_true_eq, decide_eq_false_iff_not, Decidable.not_not] at c56
                  show xEx G0 cdX7_waysOf (some .int) (xRn G0 MT (d + 9)) Q b 57 [some (.inr (.inr 44)), some (.inl set), some (.inl 3), some (.inl (szf S T (S 0 0) (T 0 0) (-1) 3 set)), some (.inl 0), some (.inr (.inl fd)), none, some (.inl i9), v8, v9, v10] [] hh
                  refine E_s 4 (i' := 61) (ls' := [some (.inr (.inr 44)), some (.inl set), some (.inl 3), some (.inl (szf S T (S 0 0) (T 0 0) (-1) 3 set)), some (.inl 0), some (.inr (.inl fd)), none, some (.inl i9), v8, v9, v10]) (sk' := [.inl i9, .inr (.inr 55), .inr (.inr 44)]) (h' := hh) rfl ?_
                  refine E_ld (x := (.iaload, 0, [], [])) (ty := .int) (n := 150) rfl rfl rfl (by omega) (by omega) ?_
                  show xEx G0 cdX7_waysOf (some .int) (xRn G0 MT (d + 9)) Q b 62 [some (.inr (.inr 44)), some (.inl set), some (.inl 3), some (.inl (szf S T (S 0 0) (T 0 0) (-1) 3 set)), some (.inl 0), some (.inr (.inl fd)), none, some (.inl i9), v8, v9, v10] [.inl (hh 55 i9), .inr (.inr 44)] hh
                  refine E_s 1 (i' := 63) (ls' := [some (.inr (.inr 44)), some (.inl set), some (.inl 3), some (.inl (szf S T (S 0 0) (T 0 0) (-1) 3 set)), some (.inl 0), some (.inr (.inl fd)), none, some (.inl i9), v8, v9, v10]) (sk' := [.inl (szf S T (S 0 0) (T 0 0) (-1) 3 set), .inl (hh 55 i9), .inr (.inr 44)]) (h' := hh) rfl ?_
                  have uu : hh 55 i9 = i9 := by rw [fy _ (by decide)]; exact ub.2 i9 hi0 (by omega)
                  have o4 := hV.1.2.2.2.2 i9 hi0 (by omega)
                  have g4 : hh 37 (hh 55 i9) = T 4 i9 := by rw [uu, fy _ (by decide)]; exact (hV.2.1 i9 hi0 (by omega)).1
                  have g6 : hh 39 (hh 55 i9) = T 6 i9 := by rw [uu, fy _ (by decide)]; exact (hV.2.1 i9 hi0 (by omega)).2
                  refine E_cp (x := (.invokevirtual 103, 2, [(5, 64)], [0])) (q := fun r5 h9 => ((r5 = 1 ∧ (hh 37 (hh 55 i9) + 3 ≤ (szf S T (S 0 0) (T 0 0) (-1) 3 set))) ∨ (r5 = 0 ∧ ¬ (hh 37 (hh 55 i9) + 3 ≤ (szf S T (S 0 0) (T 0 0) (-1) 3 set)))) ∧ hh = h9) rfl rfl (Nat.le_of_ble_eq_true rfl) (c_mayDo (d + 8) 0 hh (hh 55 i9) (szf S T (S 0 0) (T 0 0) (-1) 3 set) ⟨by omega, by omega⟩ ⟨by omega, by omega⟩ ⟨by omega, by omega⟩ (fun z => ⟨_, rfl, Or.inl ⟨rfl, z⟩, rfl⟩) (fun z => ⟨_, rfl, Or.inr ⟨rfl, z⟩, rfl⟩)) (fun r5 h9 q5 => ?_)
                  obtain ⟨q5, rfl⟩ := q5
                  show xEx G0 cdX7_waysOf (some .int) (xRn G0 MT (d + 9)) Q b 64 [some (.inr (.inr 44)), some (.inl set), some (.inl 3), some (.inl (szf S T (S 0 0) (T 0 0) (-1) 3 set)), some (.inl 0), some (.inr (.inl fd)), none, some (.inl i9), v8, v9, v10] [.inl r5] hh
                  refine E_b (x := (.ifCond .eq 89, 114, [], [])) rfl rfl (fun c64 => ?_) (fun c64 => ?_)
                  · rw [c_eq (by first | assumption | (refine ⟨?_, ?_⟩ <;> omega) | (simp only [xr] at *; omega)) (by first | assumption | (refine ⟨?_, ?_⟩ <;> omega) | (simp only [xr] at *; omega))] at c64
                    simp only [decide_eq_true_eq, decide_eq_false_iff_not, Decidable.not_not] at c64
                    show xEx G0 cdX7_waysOf (some .int) (xRn G0 MT (d + 9)) Q b 114 [some (.inr (.inr 44)), some (.inl set), some (.inl 3), some (.inl (szf S T (S 0 0) (T 0 0) (-1) 3 set)), some (.inl 0), some (.inr (.inl fd)), none, some (.inl i9), v8, v9, v10] [] hh
                    have hfin : fd = (wyf S T (S 0 0) (T 0 0) 3 set) := by
                      show fd = (if 1000000 ≤ (szf S T (S 0 0) (T 0 0) (-1) 3 set) then 0 else wst T (szf S T (S 0 0) (T 0 0) (-1) 2) (wyf S T (S 0 0) (T 0 0) 2) set (szf S T (S 0 0) (T 0 0) (-1) 3 set) (cnf S set (szf S T (S 0 0) (T 0 0) (-1) 3 set) (S 0 0).toNat) (T 0 0).toNat)
                      rw [if_neg (by omega), hfd]
                      first
                      | (rw [show i9 = T 0 0 by omega]; done)
                      | exact (wst_end hV.1 (fun s => (szf_r (p := -1) hV.1 2 s).1) hi0 (by omega) (by have := o0 q5 (by omega); rw [g4] at this; omega)).symm
                    have fr2 := fr
                    have r4 := ir4 hV.1.1 hs
                    refine E_s 1 (i' := 115) (ls' := [some (.inr (.inr 44)), some (.inl set), some (.inl 3), some (.inl (szf S T (S 0 0) (T 0 0) (-1) 3 set)), some (.inl 0), some (.inr (.inl fd)), none, some (.inl i9), v8, v9, v10]) (sk' := [.inl 0]) (h' := hh) rfl ?_
                    refine E_b (x := (.ifCond .eq 14, 124, [], [])) rfl rfl (fun c115 => ?_) (fun c115 => ?_)
                    · show xEx G0 cdX7_waysOf (some .int) (xRn G0 MT (d + 9)) Q b 124 [some (.inr (.inr 44)), some (.inl set), some (.inl 3), some (.inl (szf S T (S 0 0) (T 0 0) (-1) 3 set)), some (.inl 0), some (.inr (.inl fd)), none, some (.inl i9), v8, v9, v10] [] hh
                      refine E_s 2 (i' := 126) (ls' := [some (.inr (.inr 44)), some (.inl set), some (.inl 3), some (.inl (szf S T (S 0 0) (T 0 0) (-1) 3 set)), some (.inl 0), some (.inr (.inl fd)), none, some (.inl i9), v8, v9, v10]) (sk' := [.inl fd]) (h' := hh) rfl ?_
                      exact E_ret (x := (.ireturn, 0, [], [])) (v := some (.inl fd)) rfl (Or.inl rfl) (by
                        have r9 := hQ _ fy hm hw
                        rw [← hfin] at r9
                        exact r9)
                    · show xEx G0 cdX7_waysOf (some .int) (xRn G0 MT (d + 9)) Q b 116 [some (.inr (.inr 44)), some (.inl set), some (.inl 3), some (.inl (szf S T (S 0 0) (T 0 0) (-1) 3 set)), some (.inl 0), some (.inr (.inl fd)), none, some (.inl i9), v8, v9, v10] [] hh
                      exact absurd c115 (by decide)
                  · rw [c_eq (by first | assumption | (refine ⟨?_, ?_⟩ <;> omega) | (simp only [xr] at *; omega)) (by first | assumption | (refine ⟨?_, ?_⟩ <;> omega) | (simp only [xr] at *; omega))] at c64
                    simp only [decide_eq_true_eq, decide_eq_false_iff_not, Decidable.not_not] at c64
                    show xEx G0 cdX7_waysOf (some .int) (xRn G0 MT (d + 9)) Q b 65 [some (.inr (.inr 44)), some (.inl set), some (.inl 3), some (.inl (szf S T (S 0 0) (T 0 0) (-1) 3 set)), some (.inl 0), some (.inr (.inl fd)), none, some (.inl i9), v8, v9, v10] [] hh
                    refine E_s 4 (i' := 69) (ls' := [some (.inr (.inr 44)), some (.inl set), some (.inl 3), some (.inl (szf S T (S 0 0) (T 0 0) (-1) 3 set)), some (.inl 0), some (.inr (.inl fd)), none, some (.inl i9), v8, v9, v10]) (sk' := [.inl i9, .inr (.inr 55), .inr (.inr 44)]) (h' := hh) rfl ?_
                    refine E_ld (x := (.iaload, 0, [], [])) (ty := .int) (n := 150) rfl rfl rfl (by omega) (by omega) ?_
                    show xEx G0 cdX7_waysOf (some .int) (xRn G0 MT (d + 9)) Q b 70 [some (.inr (.inr 44)), some (.inl set), some (.inl 3), some (.inl (szf S T (S 0 0) (T 0 0) (-1) 3 set)), some (.inl 0), some (.inr (.inl fd)), none, some (.inl i9), v8, v9, v10] [.inl (hh 55 i9), .inr (.inr 44)] hh
                    refine E_s 2 (i' := 72) (ls' := [some (.inr (.inr 44)), some (.inl set), some (.inl 3), some (.inl (szf S T (S 0 0) (T 0 0) (-1) 3 set)), some (.inl 0), some (.inr (.inl fd)), none, some (.inl i9), v8, v9, v10]) (sk' := [.inl 3, .inl set, .inl (hh 55 i9), .inr (.inr 44)]) (h' := hh) rfl ?_
                    refine E_cp (x := (.invokevirtual 106, 3, [(5, 65)], [0])) (q := fun r h9 => r = swf T (szf S T (S 0 0) (T 0 0) (-1) 2) set (hh 55 i9) ∧ FZ hh h9 ∧ SVM h9 S T (-1) m) rfl rfl (Nat.le_of_ble_eq_true rfl) (c_szW3 (d + 3) 0 hh S T (-1) set m (hh 55 i9) (SVF_y fy hV) hm hs ⟨by omega, by omega⟩ (fun h9 z1 z2 => ⟨_, rfl, rfl, z1, z2⟩)) (fun r2 h2 hq2 => ?_)
                    obtain ⟨e2, f2, m2⟩ := hq2
                    rw [uu] at e2
                    have sr := swf_r (T := T) (f := (szf S T (S 0 0) (T 0 0) (-1) 2)) (set := set) (t := i9) ⟨by omega, by omega⟩ (szf_r (p := -1) hV.1 2)
                    have sq := swf_eq (T := T) (p := -1) (f := (szf S T (S 0 0) (T 0 0) (-1) 2)) (set := set) (t := i9) (b := (szf S T (S 0 0) (T 0 0) (-1) 3 set)) (Or.inl rfl) (by omega) (szf_r (p := -1) hV.1 2) (by omega)
                    have fy2 : FY h h2 := fy.tr (FZ_y f2)
                    have w2 : SVW h2 S T (-1) m := SVW_z f2 hw
                    have u2 : h2 55 i9 = i9 := by rw [f2 _ (by decide) (by decide)]; exact uu
                    have g2 : h2 39 (h2 55 i9) = T 6 i9 := by rw [u2, fy2 _ (by decide)]; exact (hV.2.1 i9 hi0 (by omega)).2
                    show xEx G0 cdX7_waysOf (some .int) (xRn G0 MT (d + 9)) Q b 73 [some (.inr (.inr 44)), some (.inl set), some (.inl 3), some (.inl (szf S T (S 0 0) (T 0 0) (-1) 3 set)), some (.inl 0), some (.inr (.inl fd)), none, some (.inl i9), v8, v9, v10] [.inl r2] h2
                    refine E_s 1 (i' := 74) (ls' := [some (.inr (.inr 44)), some (.inl set), some (.inl 3), some (.inl (szf S T (S 0 0) (T 0 0) (-1) 3 set)), some (.inl 0), some (.inr (.inl fd)), none, some (.inl i9), v8, v9, v10]) (sk' := [.inl (szf S T (S 0 0) (T 0 0) (-1) 3 set), .inl r2]) (h' := h2) rfl ?_
                    refine E_b (x := (.if_icmp .ne 66, 112, [], [])) rfl rfl (fun c74 => ?_) (fun c74 => ?_)
                    · rw [c_ne (by first | assumption | (refine ⟨?_, ?_⟩ <;> omega) | (simp only [xr] at *; omega)) (by first | assumption | (refine ⟨?_, ?_⟩ <;> omega) | (simp only [xr] at *; omega))] at c74
                      simp only [decide_eq_true_eq, decide_eq_false_iff_not, Decidable.not_not] at c74
                      show xEx G0 cdX7_waysOf (some .int) (xRn G0 MT (d + 9)) Q b 112 [some (.inr (.inr 44)), some (.inl set), some (.inl 3), some (.inl (szf S T (S 0 0) (T 0 0) (-1) 3 set)), some (.inl 0), some (.inr (.inl fd)), none, some (.inl i9), v8, v9, v10] [] h2
                      refine E_s 2 (i' := 51) (ls' := [some (.inr (.inr 44)), some (.inl set), some (.inl 3), some (.inl (szf S T (S 0 0) (T 0 0) (-1) 3 set)), some (.inl 0), some (.inr (.inl fd)), none, some (.inl (i9 + 1)), v8, v9, v10]) (sk' := []) (h' := h2) rfl ?_
                      exact ih51 h2 (i9 + 1) fd _ _ _ (by omega) (by omega) fy2 m2 w2 (by rw [wst_n hi0 (fun y => c74 (by rw [e2]; exact sq.mpr y)), hfd]) (by omega)
                    · rw [c_ne (by first | assumption | (refine ⟨?_, ?_⟩ <;> omega) | (simp only [xr] at *; omega)) (by first | assumption | (refine ⟨?_, ?_⟩ <;> omega) | (simp only [xr] at *; omega))] at c74
                      simp only [decide_eq_true_eq, decide_eq_false_iff_not, Decidable.not_not] at c74
                      show xEx G0 cdX7_waysOf (some .int) (xRn G0 MT (d + 9)) Q b 75 [some (.inr (.inr 44)), some (.inl set), some (.inl 3), some (.inl (szf S T (S 0 0) (T 0 0) (-1) 3 set)), some (.inl 0), some (.inr (.inl fd)), none, some (.inl i9), v8, v9, v10] [] h2
                      refine E_s 7 (i' := 82) (ls' := [some (.inr (.inr 44)), some (.inl set), some (.inl 3), some (.inl (szf S T (S 0 0) (T 0 0) (-1) 3 set)), some (.inl 0), some (.inr (.inl fd)), none, some (.inl i9), v8, v9, v10]) (sk' := [.inl i9, .inr (.inr 55), .inr (.inr 39), .inl set]) (h' := h2) rfl ?_
                      refine E_ld (x := (.iaload, 0, [], [])) (ty := .int) (n := 150) rfl rfl rfl (by omega) (by omega) ?_
                      show xEx G0 cdX7_waysOf (some .int) (xRn G0 MT (d + 9)) Q b 83 [some (.inr (.inr 44)), some (.inl set), some (.inl 3), some (.inl (szf S T (S 0 0) (T 0 0) (-1) 3 set)), some (.inl 0), some (.inr (.inl fd)), none, some (.inl i9), v8, v9, v10] [.inl (h2 55 i9), .inr (.inr 39), .inl set] h2
                      refine E_ld (x := (.iaload, 0, [], [])) (ty := .int) (n := 150) rfl rfl rfl (by omega) (by omega) ?_
                      show xEx G0 cdX7_waysOf (some .int) (xRn G0 MT (d + 9)) Q b 84 [some (.inr (.inr 44)), some (.inl set), some (.inl 3), some (.inl (szf S T (S 0 0) (T 0 0) (-1) 3 set)), some (.inl 0), some (.inr (.inl fd)), none, some (.inl i9), v8, v9, v10] [.inl (h2 39 (h2 55 i9)), .inl set] h2
                      refine E_s 7 (i' := 91) (ls' := [some (.inr (.inr 44)), some (.inl set), some (.inl 3), some (.inl (szf S T (S 0 0) (T 0 0) (-1) 3 set)), some (.inl 0), some (.inr (.inl fd)), none, some (.inl i9), some (.inl (xand set (h2 39 (h2 55 i9)))), v9, v10]) (sk' := [.inl 2, .inl (xand set (h2 39 (h2 55 i9))), .inr (.inr 44)]) (h' := h2) rfl ?_
                      have is1 : ir m (xand set (h2 39 (h2 55 i9))) := by rw [g2]; exact xa_r hV.1.1 hs o4.2.1
                      have is2 : ir m (xxor set (xand set (h2 39 (h2 55 i9)))) := xx_r hV.1.1 hs is1
                      have V2 := SVF_y fy2 hV
                      refine E_cp (x := (.invokevirtual 138, 2, [(5, 68)], [0])) (q := fun r h9 => r = (wyf S T (S 0 0) (T 0 0) 2) (xand set (h2 39 (h2 55 i9))) ∧ FY h2 h9 ∧ SVM h9 S T (-1) m ∧ SVW h9 S T (-1) m) rfl rfl (Nat.le_of_ble_eq_true rfl) (c_wy2 (d + 1) 0 h2 S T (xand set (h2 39 (h2 55 i9))) m V2 m2 w2 (by rw [fy2 _ (by decide)]; exact hb) (by rw [fy2 _ (by decide)]; exact hK) is1 (fun h9 z1 z2 z3 => ⟨_, rfl, rfl, z1, z2, z3⟩)) (fun r3 h3 hq3 => ?_)
                      obtain ⟨e3, f3, m3, w3⟩ := hq3
                      have fy3 : FY h h3 := fy2.tr f3
                      have wr3 := wyf_r hV.1 2 (xand set (h2 39 (h2 55 i9)))
                      show xEx G0 cdX7_waysOf (some .int) (xRn G0 MT (d + 9)) Q b 92 [some (.inr (.inr 44)), some (.inl set), some (.inl 3), some (.inl (szf S T (S 0 0) (T 0 0) (-1) 3 set)), some (.inl 0), some (.inr (.inl fd)), none, some (.inl i9), some (.inl (xand set (h2 39 (h2 55 i9)))), v9, v10] [.inl r3] h3
                      refine E_s 8 (i' := 100) (ls' := [some (.inr (.inr 44)), some (.inl set), some (.inl 3), some (.inl (szf S T (S 0 0) (T 0 0) (-1) 3 set)), some (.inl 0), some (.inr (.inl fd)), none, some (.inl i9), some (.inl (xand set (h2 39 (h2 55 i9)))), v9, v10]) (sk' := [.inl 2, .inl (xxor set (xand set (h2 39 (h2 55 i9)))), .inr (.inr 44), .inr (.inl (w32 r3))]) (h' := h3) rfl ?_
                      refine E_cp (x := (.invokevirtual 138, 2, [(5, 68)], [0])) (q := fun r h9 => r = (wyf S T (S 0 0) (T 0 0) 2) (xxor set (xand set (h2 39 (h2 55 i9)))) ∧ FY h3 h9 ∧ SVM h9 S T (-1) m ∧ SVW h9 S T (-1) m) rfl rfl (Nat.le_of_ble_eq_true rfl) (c_wy2 (d + 1) 0 h3 S T (xxor set (xand set (h2 39 (h2 55 i9)))) m (SVF_y fy3 hV) m3 w3 (by rw [fy3 _ (by decide)]; exact hb) (by rw [fy3 _ (by decide)]; exact hK) is2 (fun h9 z1 z2 z3 => ⟨_, rfl, rfl, z1, z2, z3⟩)) (fun r4 h4 hq4 => ?_)
                      obtain ⟨e4, f4, m4, w4⟩ := hq4
                      have fy4 : FY h h4 := fy3.tr f4
                      have wr4 := wyf_r hV.1 2 (xxor set (xand set (h2 39 (h2 55 i9))))
                      show xEx G0 cdX7_waysOf (some .int) (xRn G0 MT (d + 9)) Q b 101 [some (.inr (.inr 44)), some (.inl set), some (.inl 3), some (.inl (szf S T (S 0 0) (T 0 0) (-1) 3 set)), some (.inl 0), some (.inr (.inl fd)), none, some (.inl i9), some (.inl (xand set (h2 39 (h2 55 i9)))), v9, v10] [.inl r4, .inr (.inl (w32 r3))] h4
                      refine E_s 7 (i' := 108) (ls' := [some (.inr (.inr 44)), some (.inl set), some (.inl 3), some (.inl (szf S T (S 0 0) (T 0 0) (-1) 3 set)), some (.inl 0), some (.inr (.inl fd)), none, some (.inl i9), some (.inl (xand set (h2 39 (h2 55 i9)))), some (.inr (.inl ((w32 r3) * (w32 r4)))), none]) (sk' := [.inr (.inl ((w32 r3) * (w32 r4))), .inr (.inl 1000000000), .inr (.inl fd), .inr (.inl 1000000000)]) (h' := h4) rfl ?_
                      refine E_minl (x := (.invokestatic 143, 0, [], [2])) rfl rfl rfl (Nat.le_of_ble_eq_true rfl) ?_
                      show xEx G0 cdX7_waysOf (some .int) (xRn G0 MT (d + 9)) Q b 109 [some (.inr (.inr 44)), some (.inl set), some (.inl 3), some (.inl (szf S T (S 0 0) (T 0 0) (-1) 3 set)), some (.inl 0), some (.inr (.inl fd)), none, some (.inl i9), some (.inl (xand set (h2 39 (h2 55 i9)))), some (.inr (.inl ((w32 r3) * (w32 r4)))), none] [.inr (.inl (if w64 ((w32 r3) * (w32 r4)) < w64 1000000000 then (w32 r3) * (w32 r4) else 1000000000)), .inr (.inl fd), .inr (.inl 1000000000)] h4
                      refine E_s 1 (i' := 110) (ls' := [some (.inr (.inr 44)), some (.inl set), some (.inl 3), some (.inl (szf S T (S 0 0) (T 0 0) (-1) 3 set)), some (.inl 0), some (.inr (.inl fd)), none, some (.inl i9), some (.inl (xand set (h2 39 (h2 55 i9)))), some (.inr (.inl ((w32 r3) * (w32 r4)))), none]) (sk' := [.inr (.inl (fd + (if w64 ((w32 r3) * (w32 r4)) < w64 1000000000 then (w32 r3) * (w32 r4) else 1000000000))), .inr (.inl 1000000000)]) (h' := h4) rfl ?_
                      refine E_minl (x := (.invokestatic 143, 0, [], [2])) rfl rfl rfl (Nat.le_of_ble_eq_true rfl) ?_
                      show xEx G0 cdX7_waysOf (some .int) (xRn G0 MT (d + 9)) Q b 111 [some (.inr (.inr 44)), some (.inl set), some (.inl 3), some (.inl (szf S T (S 0 0) (T 0 0) (-1) 3 set)), some (.inl 0), some (.inr (.inl fd)), none, some (.inl i9), some (.inl (xand set (h2 39 (h2 55 i9)))), some (.inr (.inl ((w32 r3) * (w32 r4)))), none] [.inr (.inl (if w64 (fd + (if w64 ((w32 r3) * (w32 r4)) < w64 1000000000 then (w32 r3) * (w32 r4) else 1000000000)) < w64 1000000000 then fd + (if w64 ((w32 r3) * (w32 r4)) < w64 1000000000 then (w32 r3) * (w32 r4) else 1000000000) else 1000000000))] h4
                      refine E_s 3 (i' := 51) (ls' := [some (.inr (.inr 44)), some (.inl set), some (.inl 3), some (.inl (szf S T (S 0 0) (T 0 0) (-1) 3 set)), some (.inl 0), some (.inr (.inl (if w64 (fd + (if w64 ((w32 r3) * (w32 r4)) < w64 1000000000 then (w32 r3) * (w32 r4) else 1000000000)) < w64 1000000000 then fd + (if w64 ((w32 r3) * (w32 r4)) < w64 1000000000 then (w32 r3) * (w32 r4) else 1000000000) else 1000000000))), none, some (.inl (i9 + 1)), some (.inl (xand set (h2 39 (h2 55 i9)))), some (.inr (.inl ((w32 r3) * (w32 r4)))), none]) (sk' := []) (h' := h4) rfl ?_
                      exact ih51 h4 (i9 + 1) _ _ _ _ (by omega) (by omega) fy4 m4 w4 (by
                        have y9 := sq.mp (by rw [← e2]; omega)
                        rw [g2] at e3 e4 wr3 wr4
                        have p3 : w32 r3 = r3 := w32_id ⟨by omega, by omega⟩
                        have p4 : w32 r4 = r4 := w32_id ⟨by omega, by omega⟩
                        have pm : 0 ≤ r3 * r4 := Int.mul_nonneg (by omega) (by omega)
                        have pl : r3 * r4 ≤ 1000000000000000000 := mul9 (by omega) (by omega) (by omega) (by omega)
                        have cc := cap_r pm
                        rw [p3, p4, minl_c pm (by omega), minl_c (by omega) (by omega), cap_2 (by omega) pm, wst_y hi0 y9, hfd, e3, e4]) (by omega)
          exact key51 _ h1 0 _ none none none (by omega) hV.2.2.2.2.2.2.1 (FZ_y f1) m1 W1 (by
            show _ = (cnf S set (szf S T (S 0 0) (T 0 0) (-1) 3 set) (S 0 0).toNat)
            rw [cnf_0 hV.1 (by have := szf_le0 (S := S) (T := T) (KE := S 0 0) (KT := T 0 0) (p := -1) 3 set; omega)]) (Nat.lt_succ_self _)
        · rw [c_ne (by first | assumption | (refine ⟨?_, ?_⟩ <;> omega) | (simp only [xr] at *; omega)) (by first | assumption | (refine ⟨?_, ?_⟩ <;> omega) | (simp only [xr] at *; omega))] at c40
          simp only [decide_eq_true_eq, decide_eq_false_iff_not, Decidable.not_not] at c40
          show xEx G0 cdX7_waysOf (some .int) (xRn G0 MT (d + 9)) Q b 41 [some (.inr (.inr 44)), some (.inl set), some (.inl 3), some (.inl (szf S T (S 0 0) (T 0 0) (-1) 3 set)), some (.inl 0), none, none, none, none, none, none] [] h1
          refine E_s 3 (i' := 44) (ls' := [some (.inr (.inr 44)), some (.inl set), some (.inl 3), some (.inl (szf S T (S 0 0) (T 0 0) (-1) 3 set)), some (.inl 0), none, none, none, none, none, none]) (sk' := [.inl (szf S T (S 0 0) (T 0 0) (-1) 3 set), .inl set, .inr (.inr 44)]) (h' := h1) rfl ?_
          have l9 : lf S (S 0 0) (-1) set ≠ -1 := fun y => by
            have : sz0 S (S 0 0) (-1) set = 1000000 := by unfold sz0; rw [if_pos y]
            omega
          have s9 : (szf S T (S 0 0) (T 0 0) (-1) 3 set) = S 4 (lf S (S 0 0) (-1) set) := by
            have : sz0 S (S 0 0) (-1) set = S 4 (lf S (S 0 0) (-1) set) := by unfold sz0; rw [if_neg l9]
            omega
          refine E_ci (x := (.invokevirtual 135, 2, [(5, 69)], [0])) (r := (cnf S set (szf S T (S 0 0) (T 0 0) (-1) 3 set) (S 0 0).toNat)) (h' := h1) rfl rfl (Nat.le_of_ble_eq_true rfl) (c_cntF (d + 6) 0 h1 S T set (szf S T (S 0 0) (T 0 0) (-1) 3 set) m V1 (by rw [so1]; exact hb) (by rw [ge1]; exact hK) hs l9 s9 ⟨rfl, rfl⟩) ?_
          show xEx G0 cdX7_waysOf (some .int) (xRn G0 MT (d + 9)) Q b 45 [some (.inr (.inr 44)), some (.inl set), some (.inl 3), some (.inl (szf S T (S 0 0) (T 0 0) (-1) 3 set)), some (.inl 0), none, none, none, none, none, none] [.inl (cnf S set (szf S T (S 0 0) (T 0 0) (-1) 3 set) (S 0 0).toNat)] h1
          refine E_s 5 (i' := 51) (ls' := [some (.inr (.inr 44)), some (.inl set), some (.inl 3), some (.inl (szf S T (S 0 0) (T 0 0) (-1) 3 set)), some (.inl 0), some (.inr (.inl (w32 (cnf S set (szf S T (S 0 0) (T 0 0) (-1) 3 set) (S 0 0).toNat)))), none, some (.inl 0), none, none, none]) (sk' := []) (h' := h1) rfl ?_
          have key51 : ∀ (n : Nat) (hh : xH) (i9 fd : Int) (v8 v9 v10 : Option xV), (0 ≤ i9) → (i9 ≤ h 44 8) → (FY h hh) → (SVM hh S T (-1) m) → (SVW hh S T (-1) m) → (fd = wst T (szf S T (S 0 0) (T 0 0) (-1) 2) (wyf S T (S 0 0) (T 0 0) 2) set (szf S T (S 0 0) (T 0 0) (-1) 3 set) (cnf S set (szf S T (S 0 0) (T 0 0) (-1) 3 set) (S 0 0).toNat) i9.toNat) → ((h 44 8 - i9).toNat) < n → xEx G0 cdX7_waysOf (some .int) (xRn G0 MT (d + 9)) Q b 51 [some (.inr (.inr 44)), some (.inl set), some (.inl 3), some (.inl (szf S T (S 0 0) (T 0 0) (-1) 3 set)), some (.inl 0), some (.inr (.inl fd)), none, some (.inl i9), v8, v9, v10] [] hh := by
            intro n
            induction n with
            | zero => intro hh i9 fd v8 v9 v10 _ _ _ _ _ _ hm; exact absurd hm (Nat.not_lt_zero _)
            | succ n ih51 =>
              intro hh i9 fd v8 v9 v10 hi0 hi9 fy hm hw hfd hm51
              have ec : hh 44 8 = h 44 8 := by rw [fy _ (by decide)]
              have fr := wst_r (T := T) (f := (szf S T (S 0 0) (T 0 0) (-1) 2)) (g := (wyf S T (S 0 0) (T 0 0) 2)) (set := set) (z := (szf S T (S 0 0) (T 0 0) (-1) 3 set)) (c0 := (cnf S set (szf S T (S 0 0) (T 0 0) (-1) 3 set) (S 0 0).toNat)) (by omega) (fun s => (wyf_r hV.1 2 s).1) i9.toNat
              have kt := hV.1.2.2.1
              have ub := us_id hV.2.2.2.2.2.2
              refine E_s 1 (i' := 52) (ls' := [some (.inr (.inr 44)), some (.inl set), some (.inl 3), some (.inl (szf S T (S 0 0) (T 0 0) (-1) 3 set)), some (.inl 0), some (.inr (.inl fd)), none, some (.inl i9), v8, v9, v10]) (sk' := [.inl 3]) (h' := hh) rfl ?_
              refine E_b (x := (.ifCond .le 113, 114, [], [])) rfl rfl (fun c52 => ?_) (fun c52 => ?_)
              · show xEx G0 cdX7_waysOf (some .int) (xRn G0 MT (d + 9)) Q b 114 [some (.inr (.inr 44)), some (.inl set), some (.inl 3), some (.inl (szf S T (S 0 0) (T 0 0) (-1) 3 set)), some (.inl 0), some (.inr (.inl fd)), none, some (.inl i9), v8, v9, v10] [] hh
                exact absurd c52 (by decide)
              · show xEx G0 cdX7_waysOf (some .int) (xRn G0 MT (d + 9)) Q b 53 [some (.inr (.inr 44)), some (.inl set), some (.inl 3), some (.inl (szf S T (S 0 0) (T 0 0) (-1) 3 set)), some (.inl 0), some (.inr (.inl fd)), none, some (.inl i9), v8, v9, v10] [] hh
                refine E_s 3 (i' := 56) (ls' := [some (.inr (.inr 44)), some (.inl set), some (.inl 3), some (.inl (szf S T (S 0 0) (T 0 0) (-1) 3 set)), some (.inl 0), some (.inr (.inl fd)), none, some (.inl i9), v8, v9, v10]) (sk' := [.inl (hh 44 8), .inl i9]) (h' := hh) rfl ?_
                refine E_b (x := (.if_icmp .ge 104, 114, [], [])) rfl rfl (fun c56 => ?_) (fun c56 => ?_)
                · rw [c_ge (by first | assumption | (refine ⟨?_, ?_⟩ <;> omega) | (simp only [xr] at *; omega)) (by first | assumption | (refine ⟨?_, ?_⟩ <;> omega) | (simp only [xr] at *; omega))] at c56
                  simp only [decide_eq_true_eq, decide_eq_false_iff_not, Decidable.not_not] at c56
                  show xEx G0 cdX7_waysOf (some .int) (xRn G0 MT (d + 9)) Q b 114 [some (.inr (.inr 44)), some (.inl set), some (.inl 3), some (.inl (szf S T (S 0 0) (T 0 0) (-1) 3 set)), some (.inl 0), some (.inr (.inl fd)), none, some (.inl i9), v8, v9, v10] [] hh
                  have hfin : fd = (wyf S T (S 0 0) (T 0 0) 3 set) := by
                    show fd = (if 1000000 ≤ (szf S T (S 0 0) (T 0 0) (-1) 3 set) then 0 else wst T (szf S T (S 0 0) (T 0 0) (-1) 2) (wyf S T (S 0 0) (T 0 0) 2) set (szf S T (S 0 0) (T 0 0) (-1) 3 set) (cnf S set (szf S T (S 0 0) (T 0 0) (-1) 3 set) (S 0 0).toNat) (T 0 0).toNat)
                    rw [if_neg (by omega), hfd]
                    first
                    | (rw [show i9 = T 0 0 by omega]; done)
                    | exact (wst_end hV.1 (fun s => (szf_r (p := -1) hV.1 2 s).1) hi0 (by omega) (by have := o0 q5 (by omega); rw [g4] at this; omega)).symm
                  have fr2 := fr
                  have r4 := ir4 hV.1.1 hs
                  refine E_s 1 (i' := 115) (ls' := [some (.inr (.inr 44)), some (.inl set), some (.inl 3), some (.inl (szf S T (S 0 0) (T 0 0) (-1) 3 set)), some (.inl 0), some (.inr (.inl fd)), none, some (.inl i9), v8, v9, v10]) (sk' := [.inl 0]) (h' := hh) rfl ?_
                  refine E_b (x := (.ifCond .eq 14, 124, [], [])) rfl rfl (fun c115 => ?_) (fun c115 => ?_)
                  · show xEx G0 cdX7_waysOf (some .int) (xRn G0 MT (d + 9)) Q b 124 [some (.inr (.inr 44)), some (.inl set), some (.inl 3), some (.inl (szf S T (S 0 0) (T 0 0) (-1) 3 set)), some (.inl 0), some (.inr (.inl fd)), none, some (.inl i9), v8, v9, v10] [] hh
                    refine E_s 2 (i' := 126) (ls' := [some (.inr (.inr 44)), some (.inl set), some (.inl 3), some (.inl (szf S T (S 0 0) (T 0 0) (-1) 3 set)), some (.inl 0), some (.inr (.inl fd)), none, some (.inl i9), v8, v9, v10]) (sk' := [.inl fd]) (h' := hh) rfl ?_
                    exact E_ret (x := (.ireturn, 0, [], [])) (v := some (.inl fd)) rfl (Or.inl rfl) (by
                      have r9 := hQ _ fy hm hw
                      rw [← hfin] at r9
                      exact r9)
                  · show xEx G0 cdX7_waysOf (some .int) (xRn G0 MT (d + 9)) Q b 116 [some (.inr (.inr 44)), some (.inl set), some (.inl 3), some (.inl (szf S T (S 0 0) (T 0 0) (-1) 3 set)), some (.inl 0), some (.inr (.inl fd)), none, some (.inl i9), v8, v9, v10] [] hh
                    exact absurd c115 (by decide)
                · rw [c_ge (by first | assumption | (refine ⟨?_, ?_⟩ <;> omega) | (simp only [xr] at *; omega)) (by first | assumption | (refine ⟨?_, ?_⟩ <;> omega) | (simp only [xr] at *; omega))] at c56
                  simp only [decide_eq_true_eq, decide_eq_false_iff_not, Decidable.not_not] at c56
                  show xEx G0 cdX7_waysOf (some .int) (xRn G0 MT (d + 9)) Q b 57 [some (.inr (.inr 44)), some (.inl set), some (.inl 3), some (.inl (szf S T (S 0 0) (T 0 0) (-1) 3 set)), some (.inl 0), some (.inr (.inl fd)), none, some (.inl i9), v8, v9, v10] [] hh
                  refine E_s 4 (i' := 61) (ls' := [some (.inr (.inr 44)), some (.inl set), some (.inl 3), some (.inl (szf S T (S 0 0) (T 0 0) (-1) 3 set)), some (.inl 0), some (.inr (.inl fd)), none, some (.inl i9), v8, v9, v10]) (sk' := [.inl i9, .inr (.inr 55), .inr (.inr 44)]) (h' := hh) rfl ?_
                  refine E_ld (x := (.iaload, 0, [], [])) (ty := .int) (n := 150) rfl rfl rfl (by omega) (by omega) ?_
                  show xEx G0 cdX7_waysOf (some .int) (xRn G0 MT (d + 9)) Q b 62 [some (.inr (.inr 44)), some (.inl set), some (.inl 3), some (.inl (szf S T (S 0 0) (T 0 0) (-1) 3 set)), some (.inl 0), some (.inr (.inl fd)), none, some (.inl i9), v8, v9, v10] [.inl (hh 55 i9), .inr (.inr 44)] hh
                  refine E_s 1 (i' := 63) (ls' := [some (.inr (.inr 44)), some (.inl set), some (.inl 3), some (.inl (szf S T (S 0 0) (T 0 0) (-1) 3 set)), some (.inl 0), some (.inr (.inl fd)), none, some (.inl i9), v8, v9, v10]) (sk' := [.inl (szf S T (S 0 0) (T 0 0) (-1) 3 set), .inl (hh 55 i9), .inr (.inr 44)]) (h' := hh) rfl ?_
                  have uu : hh 55 i9 = i9 := by rw [fy _ (by decide)]; exact ub.2 i9 hi0 (by omega)
                  have o4 := hV.1.2.2.2.2 i9 hi0 (by omega)
                  have g4 : hh 37 (hh 55 i9) = T 4 i9 := by rw [uu, fy _ (by decide)]; exact (hV.2.1 i9 hi0 (by omega)).1
                  have g6 : hh 39 (hh 55 i9) = T 6 i9 := by rw [uu, fy _ (by decide)]; exact (hV.2.1 i9 hi0 (by omega)).2
                  refine E_cp (x := (.invokevirtual 103, 2, [(5, 64)], [0])) (q := fun r5 h9 => ((r5 = 1 ∧ (hh 37 (hh 55 i9) + 3 ≤ (szf S T (S 0 0) (T 0 0) (-1) 3 set))) ∨ (r5 = 0 ∧ ¬ (hh 37 (hh 55 i9) + 3 ≤ (szf S T (S 0 0) (T 0 0) (-1) 3 set)))) ∧ hh = h9) rfl rfl (Nat.le_of_ble_eq_true rfl) (c_mayDo (d + 8) 0 hh (hh 55 i9) (szf S T (S 0 0) (T 0 0) (-1) 3 set) ⟨by omega, by omega⟩ ⟨by omega, by omega⟩ ⟨by omega, by omega⟩ (fun z => ⟨_, rfl, Or.inl ⟨rfl, z⟩, rfl⟩) (fun z => ⟨_, rfl, Or.inr ⟨rfl, z⟩, rfl⟩)) (fun r5 h9 q5 => ?_)
                  obtain ⟨q5, rfl⟩ := q5
                  show xEx G0 cdX7_waysOf (some .int) (xRn G0 MT (d + 9)) Q b 64 [some (.inr (.inr 44)), some (.inl set), some (.inl 3), some (.inl (szf S T (S 0 0) (T 0 0) (-1) 3 set)), some (.inl 0), some (.inr (.inl fd)), none, some (.inl i9), v8, v9, v10] [.inl r5] hh
                  refine E_b (x := (.ifCond .eq 89, 114, [], [])) rfl rfl (fun c64 => ?_) (fun c64 => ?_)
                  · rw [c_eq (by first | assumption | (refine ⟨?_, ?_⟩ <;> omega) | (simp only [xr] at *; omega)) (by first | assumption | (refine ⟨?_, ?_⟩ <;> omega) | (simp only [xr] at *; omega))] at c64
                    simp only [decide_eq_true_eq, decide_eq_false_iff_not, Decidable.not_not] at c64
                    show xEx G0 cdX7_waysOf (some .int) (xRn G0 MT (d + 9)) Q b 114 [some (.inr (.inr 44)), some (.inl set), some (.inl 3), some (.inl (szf S T (S 0 0) (T 0 0) (-1) 3 set)), some (.inl 0), some (.inr (.inl fd)), none, some (.inl i9), v8, v9, v10] [] hh
                    have hfin : fd = (wyf S T (S 0 0) (T 0 0) 3 set) := by
                      show fd = (if 1000000 ≤ (szf S T (S 0 0) (T 0 0) (-1) 3 set) then 0 else wst T (szf S T (S 0 0) (T 0 0) (-1) 2) (wyf S T (S 0 0) (T 0 0) 2) set (szf S T (S 0 0) (T 0 0) (-1) 3 set) (cnf S set (szf S T (S 0 0) (T 0 0) (-1) 3 set) (S 0 0).toNat) (T 0 0).toNat)
                      rw [if_neg (by omega), hfd]
                      first
                      | (rw [show i9 = T 0 0 by omega]; done)
                      | exact (wst_end hV.1 (fun s => (szf_r (p := -1) hV.1 2 s).1) hi0 (by omega) (by have := o0 q5 (by omega); rw [g4] at this; omega)).symm
                    have fr2 := fr
                    have r4 := ir4 hV.1.1 hs
                    refine E_s 1 (i' := 115) (ls' := [some (.inr (.inr 44)), some (.inl set), some (.inl 3), some (.inl (szf S T (S 0 0) (T 0 0) (-1) 3 set)), some (.inl 0), some (.inr (.inl fd)), none, some (.inl i9), v8, v9, v10]) (sk' := [.inl 0]) (h' := hh) rfl ?_
                    refine E_b (x := (.ifCond .eq 14, 124, [], [])) rfl rfl (fun c115 => ?_) (fun c115 => ?_)
                    · show xEx G0 cdX7_waysOf (some .int) (xRn G0 MT (d + 9)) Q b 124 [some (.inr (.inr 44)), some (.inl set), some (.inl 3), some (.inl (szf S T (S 0 0) (T 0 0) (-1) 3 set)), some (.inl 0), some (.inr (.inl fd)), none, some (.inl i9), v8, v9, v10] [] hh
                      refine E_s 2 (i' := 126) (ls' := [some (.inr (.inr 44)), some (.inl set), some (.inl 3), some (.inl (szf S T (S 0 0) (T 0 0) (-1) 3 set)), some (.inl 0), some (.inr (.inl fd)), none, some (.inl i9), v8, v9, v10]) (sk' := [.inl fd]) (h' := hh) rfl ?_
                      exact E_ret (x := (.ireturn, 0, [], [])) (v := some (.inl fd)) rfl (Or.inl rfl) (by
                        have r9 := hQ _ fy hm hw
                        rw [← hfin] at r9
                        exact r9)
                    · show xEx G0 cdX7_waysOf (some .int) (xRn G0 MT (d + 9)) Q b 116 [some (.inr (.inr 44)), some (.inl set), some (.inl 3), some (.inl (szf S T (S 0 0) (T 0 0) (-1) 3 set)), some (.inl 0), some (.inr (.inl fd)), none, some (.inl i9), v8, v9, v10] [] hh
                      exact absurd c115 (by decide)
                  · rw [c_eq (by first | assumption | (refine ⟨?_, ?_⟩ <;> omega) | (simp only [xr] at *; omega)) (by first | assumption | (refine ⟨?_, ?_⟩ <;> omega) | (simp only [xr] at *; omega))] at c64
                    simp only [decide_eq_true_eq, decide_eq_false_iff_not, Decidable.not_not] at c64
                    show xEx G0 cdX7_waysOf (some .int) (xRn G0 MT (d + 9)) Q b 65 [some (.inr (.inr 44)), some (.inl set), some (.inl 3), some (.inl (szf S T (S 0 0) (T 0 0) (-1) 3 set)), some (.inl 0), some (.inr (.inl fd)), none, some (.inl i9), v8, v9, v10] [] hh
                    refine E_s 4 (i' := 69) (ls' := [some (.inr (.inr 44)), some (.inl set), some (.inl 3), some (.inl (szf S T (S 0 0) (T 0 0) (-1) 3 set)), some (.inl 0), some (.inr (.inl fd)), none, some (.inl i9), v8, v9, v10]) (sk' := [.inl i9, .inr (.inr 55), .inr (.inr 44)]) (h' := hh) rfl ?_
                    refine E_ld (x := (.iaload, 0, [], [])) (ty := .int) (n := 150) rfl rfl rfl (by omega) (by omega) ?_
                    show xEx G0 cdX7_waysOf (some .int) (xRn G0 MT (d + 9)) Q b 70 [some (.inr (.inr 44)), some (.inl set), some (.inl 3), some (.inl (szf S T (S 0 0) (T 0 0) (-1) 3 set)), some (.inl 0), some (.inr (.inl fd)), none, some (.inl i9), v8, v9, v10] [.inl (hh 55 i9), .inr (.inr 44)] hh
                    refine E_s 2 (i' := 72) (ls' := [some (.inr (.inr 44)), some (.inl set), some (.inl 3), some (.inl (szf S T (S 0 0) (T 0 0) (-1) 3 set)), some (.inl 0), some (.inr (.inl fd)), none, some (.inl i9), v8, v9, v10]) (sk' := [.inl 3, .inl set, .inl (hh 55 i9), .inr (.inr 44)]) (h' := hh) rfl ?_
                    refine E_cp (x := (.invokevirtual 106, 3, [(5, 65)], [0])) (q := fun r h9 => r = swf T (szf S T (S 0 0) (T 0 0) (-1) 2) set (hh 55 i9) ∧ FZ hh h9 ∧ SVM h9 S T (-1) m) rfl rfl (Nat.le_of_ble_eq_true rfl) (c_szW3 (d + 3) 0 hh S T (-1) set m (hh 55 i9) (SVF_y fy hV) hm hs ⟨by omega, by omega⟩ (fun h9 z1 z2 => ⟨_, rfl, rfl, z1, z2⟩)) (fun r2 h2 hq2 => ?_)
                    obtain ⟨e2, f2, m2⟩ := hq2
                    rw [uu] at e2
                    have sr := swf_r (T := T) (f := (szf S T (S 0 0) (T 0 0) (-1) 2)) (set := set) (t := i9) ⟨by omega, by omega⟩ (szf_r (p := -1) hV.1 2)
                    have sq := swf_eq (T := T) (p := -1) (f := (szf S T (S 0 0) (T 0 0) (-1) 2)) (set := set) (t := i9) (b := (szf S T (S 0 0) (T 0 0) (-1) 3 set)) (Or.inl rfl) (by omega) (szf_r (p := -1) hV.1 2) (by omega)
                    have fy2 : FY h h2 := fy.tr (FZ_y f2)
                    have w2 : SVW h2 S T (-1) m := SVW_z f2 hw
                    have u2 : h2 55 i9 = i9 := by rw [f2 _ (by decide) (by decide)]; exact uu
                    have g2 : h2 39 (h2 55 i9) = T 6 i9 := by rw [u2, fy2 _ (by decide)]; exact (hV.2.1 i9 hi0 (by omega)).2
                    show xEx G0 cdX7_waysOf (some .int) (xRn G0 MT (d + 9)) Q b 73 [some (.inr (.inr 44)), some (.inl set), some (.inl 3), some (.inl (szf S T (S 0 0) (T 0 0) (-1) 3 set)), some (.inl 0), some (.inr (.inl fd)), none, some (.inl i9), v8, v9, v10] [.inl r2] h2
                    refine E_s 1 (i' := 74) (ls' := [some (.inr (.inr 44)), some (.inl set), some (.inl 3), some (.inl (szf S T (S 0 0) (T 0 0) (-1) 3 set)), some (.inl 0), some (.inr (.inl fd)), none, some (.inl i9), v8, v9, v10]) (sk' := [.inl (szf S T (S 0 0) (T 0 0) (-1) 3 set), .inl r2]) (h' := h2) rfl ?_
                    refine E_b (x := (.if_icmp .ne 66, 112, [], [])) rfl rfl (fun c74 => ?_) (fun c74 => ?_)
                    · rw [c_ne (by first | assumption | (refine ⟨?_, ?_⟩ <;> omega) | (simp only [xr] at *; omega)) (by first | assumption | (refine ⟨?_, ?_⟩ <;> omega) | (simp only [xr] at *; omega))] at c74
                      simp only [decide_eq_true_eq, decide_eq_false_iff_not, Decidable.not_not] at c74
                      show xEx G0 cdX7_waysOf (some .int) (xRn G0 MT (d + 9)) Q b 112 [some (.inr (.inr 44)), some (.inl set), some (.inl 3), some (.inl (szf S T (S 0 0) (T 0 0) (-1) 3 set)), some (.inl 0), some (.inr (.inl fd)), none, some (.inl i9), v8, v9, v10] [] h2
                      refine E_s 2 (i' := 51) (ls' := [some (.inr (.inr 44)), some (.inl set), some (.inl 3), some (.inl (szf S T (S 0 0) (T 0 0) (-1) 3 set)), some (.inl 0), some (.inr (.inl fd)), none, some (.inl (i9 + 1)), v8, v9, v10]) (sk' := []) (h' := h2) rfl ?_
                      exact ih51 h2 (i9 + 1) fd _ _ _ (by omega) (by omega) fy2 m2 w2 (by rw [wst_n hi0 (fun y => c74 (by rw [e2]; exact sq.mpr y)), hfd]) (by omega)
                    · rw [c_ne (by first | assumption | (refine ⟨?_, ?_⟩ <;> omega) | (simp only [xr] at *; omega)) (by first | assumption | (refine ⟨?_, ?_⟩ <;> omega) | (simp only [xr] at *; omega))] at c74
                      simp only [decide_eq_true_eq, decide_eq_false_iff_not, Decidable.not_not] at c74
                      show xEx G0 cdX7_waysOf (some .int) (xRn G0 MT (d + 9)) Q b 75 [some (.inr (.inr 44)), some (.inl set), some (.inl 3), some (.inl (szf S T (S 0 0) (T 0 0) (-1) 3 set)), some (.inl 0), some (.inr (.inl fd)), none, some (.inl i9), v8, v9, v10] [] h2
                      refine E_s 7 (i' := 82) (ls' := [some (.inr (.inr 44)), some (.inl set), some (.inl 3), some (.inl (szf S T (S 0 0) (T 0 0) (-1) 3 set)), some (.inl 0), some (.inr (.inl fd)), none, some (.inl i9), v8, v9, v10]) (sk' := [.inl i9, .inr (.inr 55), .inr (.inr 39), .inl set]) (h' := h2) rfl ?_
                      refine E_ld (x := (.iaload, 0, [], [])) (ty := .int) (n := 150) rfl rfl rfl (by omega) (by omega) ?_
                      show xEx G0 cdX7_waysOf (some .int) (xRn G0 MT (d + 9)) Q b 83 [some (.inr (.inr 44)), some (.inl set), some (.inl 3), some (.inl (szf S T (S 0 0) (T 0 0) (-1) 3 set)), some (.inl 0), some (.inr (.inl fd)), none, some (.inl i9), v8, v9, v10] [.inl (h2 55 i9), .inr (.inr 39), .inl set] h2
                      refine E_ld (x := (.iaload, 0, [], [])) (ty := .int) (n := 150) rfl rfl rfl (by omega) (by omega) ?_
                      show xEx G0 cdX7_waysOf (some .int) (xRn G0 MT (d + 9)) Q b 84 [some (.inr (.inr 44)), some (.inl set), some (.inl 3), some (.inl (szf S T (S 0 0) (T 0 0) (-1) 3 set)), some (.inl 0), some (.inr (.inl fd)), none, some (.inl i9), v8, v9, v10] [.inl (h2 39 (h2 55 i9)), .inl set] h2
                      refine E_s 7 (i' := 91) (ls' := [some (.inr (.inr 44)), some (.inl set), some (.inl 3), some (.inl (szf S T (S 0 0) (T 0 0) (-1) 3 set)), some (.inl 0), some (.inr (.inl fd)), none, some (.inl i9), some (.inl (xand set (h2 39 (h2 55 i9)))), v9, v10]) (sk' := [.inl 2, .inl (xand set (h2 39 (h2 55 i9))), .inr (.inr 44)]) (h' := h2) rfl ?_
                      have is1 : ir m (xand set (h2 39 (h2 55 i9))) := by rw [g2]; exact xa_r hV.1.1 hs o4.2.1
                      have is2 : ir m (xxor set (xand set (h2 39 (h2 55 i9)))) := xx_r hV.1.1 hs is1
                      have V2 := SVF_y fy2 hV
                      refine E_cp (x := (.invokevirtual 138, 2, [(5, 68)], [0])) (q := fun r h9 => r = (wyf S T (S 0 0) (T 0 0) 2) (xand set (h2 39 (h2 55 i9))) ∧ FY h2 h9 ∧ SVM h9 S T (-1) m ∧ SVW h9 S T (-1) m) rfl rfl (Nat.le_of_ble_eq_true rfl) (c_wy2 (d + 1) 0 h2 S T (xand set (h2 39 (h2 55 i9))) m V2 m2 w2 (by rw [fy2 _ (by decide)]; exact hb) (by rw [fy2 _ (by decide)]; exact hK) is1 (fun h9 z1 z2 z3 => ⟨_, rfl, rfl, z1, z2, z3⟩)) (fun r3 h3 hq3 => ?_)
                      obtain ⟨e3, f3, m3, w3⟩ := hq3
                      have fy3 : FY h h3 := fy2.tr f3
                      have wr3 := wyf_r hV.1 2 (xand set (h2 39 (h2 55 i9)))
                      show xEx G0 cdX7_waysOf (some .int) (xRn G0 MT (d + 9)) Q b 92 [some (.inr (.inr 44)), some (.inl set), some (.inl 3), some (.inl (szf S T (S 0 0) (T 0 0) (-1) 3 set)), some (.inl 0), some (.inr (.inl fd)), none, some (.inl i9), some (.inl (xand set (h2 39 (h2 55 i9)))), v9, v10] [.inl r3] h3
                      refine E_s 8 (i' := 100) (ls' := [some (.inr (.inr 44)), some (.inl set), some (.inl 3), some (.inl (szf S T (S 0 0) (T 0 0) (-1) 3 set)), some (.inl 0), some (.inr (.inl fd)), none, some (.inl i9), some (.inl (xand set (h2 39 (h2 55 i9)))), v9, v10]) (sk' := [.inl 2, .inl (xxor set (xand set (h2 39 (h2 55 i9)))), .inr (.inr 44), .inr (.inl (w32 r3))]) (h' := h3) rfl ?_
                      refine E_cp (x := (.invokevirtual 138, 2, [(5, 68)], [0])) (q := fun r h9 => r = (wyf S T (S 0 0) (T 0 0) 2) (xxor set (xand set (h2 39 (h2 55 i9)))) ∧ FY h3 h9 ∧ SVM h9 S T (-1) m ∧ SVW h9 S T (-1) m) rfl rfl (Nat.le_of_ble_eq_true rfl) (c_wy2 (d + 1) 0 h3 S T (xxor set (xand set (h2 39 (h2 55 i9)))) m (SVF_y fy3 hV) m3 w3 (by rw [fy3 _ (by decide)]; exact hb) (by rw [fy3 _ (by decide)]; exact hK) is2 (fun h9 z1 z2 z3 => ⟨_, rfl, rfl, z1, z2, z3⟩)) (fun r4 h4 hq4 => ?_)
                      obtain ⟨e4, f4, m4, w4⟩ := hq4
                      have fy4 : FY h h4 := fy3.tr f4
                      have wr4 := wyf_r hV.1 2 (xxor set (xand set (h2 39 (h2 55 i9))))
                      show xEx G0 cdX7_waysOf (some .int) (xRn G0 MT (d + 9)) Q b 101 [some (.inr (.inr 44)), some (.inl set), some (.inl 3), some (.inl (szf S T (S 0 0) (T 0 0) (-1) 3 set)), some (.inl 0), some (.inr (.inl fd)), none, some (.inl i9), some (.inl (xand set (h2 39 (h2 55 i9)))), v9, v10] [.inl r4, .inr (.inl (w32 r3))] h4
                      refine E_s 7 (i' := 108) (ls' := [some (.inr (.inr 44)), some (.inl set), some (.inl 3), some (.inl (szf S T (S 0 0) (T 0 0) (-1) 3 set)), some (.inl 0), some (.inr (.inl fd)), none, some (.inl i9), some (.inl (xand set (h2 39 (h2 55 i9)))), some (.inr (.inl ((w32 r3) * (w32 r4)))), none]) (sk' := [.inr (.inl ((w32 r3) * (w32 r4))), .inr (.inl 1000000000), .inr (.inl fd), .inr (.inl 1000000000)]) (h' := h4) rfl ?_
                      refine E_minl (x := (.invokestatic 143, 0, [], [2])) rfl rfl rfl (Nat.le_of_ble_eq_true rfl) ?_
                      show xEx G0 cdX7_waysOf (some .int) (xRn G0 MT (d + 9)) Q b 109 [some (.inr (.inr 44)), some (.inl set), some (.inl 3), some (.inl (szf S T (S 0 0) (T 0 0) (-1) 3 set)), some (.inl 0), some (.inr (.inl fd)), none, some (.inl i9), some (.inl (xand set (h2 39 (h2 55 i9)))), some (.inr (.inl ((w32 r3) * (w32 r4)))), none] [.inr (.inl (if w64 ((w32 r3) * (w32 r4)) < w64 1000000000 then (w32 r3) * (w32 r4) else 1000000000)), .inr (.inl fd), .inr (.inl 1000000000)] h4
                      refine E_s 1 (i' := 110) (ls' := [some (.inr (.inr 44)), some (.inl set), some (.inl 3), some (.inl (szf S T (S 0 0) (T 0 0) (-1) 3 set)), some (.inl 0), some (.inr (.inl fd)), none, some (.inl i9), some (.inl (xand set (h2 39 (h2 55 i9)))), some (.inr (.inl ((w32 r3) * (w32 r4)))), none]) (sk' := [.inr (.inl (fd + (if w64 ((w32 r3) * (w32 r4)) < w64 1000000000 then (w32 r3) * (w32 r4) else 1000000000))), .inr (.inl 1000000000)]) (h' := h4) rfl ?_
                      refine E_minl (x := (.invokestatic 143, 0, [], [2])) rfl rfl rfl (Nat.le_of_ble_eq_true rfl) ?_
                      show xEx G0 cdX7_waysOf (some .int) (xRn G0 MT (d + 9)) Q b 111 [some (.inr (.inr 44)), some (.inl set), some (.inl 3), some (.inl (szf S T (S 0 0) (T 0 0) (-1) 3 set)), some (.inl 0), some (.inr (.inl fd)), none, some (.inl i9), some (.inl (xand set (h2 39 (h2 55 i9)))), some (.inr (.inl ((w32 r3) * (w32 r4)))), none] [.inr (.inl (if w64 (fd + (if w64 ((w32 r3) * (w32 r4)) < w64 1000000000 then (w32 r3) * (w32 r4) else 1000000000)) < w64 1000000000 then fd + (if w64 ((w32 r3) * (w32 r4)) < w64 1000000000 then (w32 r3) * (w32 r4) else 1000000000) else 1000000000))] h4
                      refine E_s 3 (i' := 51) (ls' := [some (.inr (.inr 44)), some (.inl set), some (.inl 3), some (.inl (szf S T (S 0 0) (T 0 0) (-1) 3 set)), some (.inl 0), some (.inr (.inl (if w64 (fd + (if w64 ((w32 r3) * (w32 r4)) < w64 1000000000 then (w32 r3) * (w32 r4) else 1000000000)) < w64 1000000000 then fd + (if w64 ((w32 r3) * (w32 r4)) < w64 1000000000 then (w32 r3) * (w32 r4) else 1000000000) else 1000000000))), none, some (.inl (i9 + 1)), some (.inl (xand set (h2 39 (h2 55 i9)))), some (.inr (.inl ((w32 r3) * (w32 r4)))), none]) (sk' := []) (h' := h4) rfl ?_
                      exact ih51 h4 (i9 + 1) _ _ _ _ (by omega) (by omega) fy4 m4 w4 (by
                        have y9 := sq.mp (by rw [← e2]; omega)
                        rw [g2] at e3 e4 wr3 wr4
                        have p3 : w32 r3 = r3 := w32_id ⟨by omega, by omega⟩
                        have p4 : w32 r4 = r4 := w32_id ⟨by omega, by omega⟩
                        have pm : 0 ≤ r3 * r4 := Int.mul_nonneg (by omega) (by omega)
                        have pl : r3 * r4 ≤ 1000000000000000000 := mul9 (by omega) (by omega) (by omega) (by omega)
                        have cc := cap_r pm
                        rw [p3, p4, minl_c pm (by omega), minl_c (by omega) (by omega), cap_2 (by omega) pm, wst_y hi0 y9, hfd, e3, e4]) (by omega)
          exact key51 _ h1 0 _ none none none (by omega) hV.2.2.2.2.2.2.1 (FZ_y f1) m1 W1 (by
            show _ = (cnf S set (szf S T (S 0 0) (T 0 0) (-1) 3 set) (S 0 0).toNat)
            exact w32_id ⟨by omega, by omega⟩) (Nat.lt_succ_self _)
      · show xEx G0 cdX7_waysOf (some .int) (xRn G0 MT (d + 9)) Q b 19 [some (.inr (.inr 44)), some (.inl set), some (.inl 3), some (.inl (szf S T (S 0 0) (T 0 0) (-1) 3 set)), some (.inl 0), none, none, none, none, none, none] [] h1
        exact absurd c18 (by decide)
    · show xEx G0 cdX7_waysOf (some .int) (xRn G0 MT (d + 9)) Q b 13 [some (.inr (.inr 44)), some (.inl set), some (.inl 3), some (.inl (szf S T (S 0 0) (T 0 0) (-1) 3 set)), none, none, none, none, none, none, none] [] h1
      exact absurd c12 (by decide)
  · rw [c_ne (by first | assumption | (refine ⟨?_, ?_⟩ <;> omega) | (simp only [xr] at *; omega)) (by first | assumption | (refine ⟨?_, ?_⟩ <;> omega) | (simp only [xr] at *; omega))] at c7
    simp only [decide_eq_true_eq, decide_eq_false_iff_not, Decidable.not_not] at c7
    show xEx G0 cdX7_waysOf (some .int) (xRn G0 MT (d + 9)) Q b 8 [some (.inr (.inr 44)), some (.inl set), some (.inl 3), some (.inl (szf S T (S 0 0) (T 0 0) (-1) 3 set)), none, none, none, none, none, none, none] [] h1
    refine E_s 1 (i' := 9) (ls' := [some (.inr (.inr 44)), some (.inl set), some (.inl 3), some (.inl (szf S T (S 0 0) (T 0 0) (-1) 3 set)), none, none, none, none, none, none, none]) (sk' := [.inl 0]) (h' := h1) rfl ?_
    exact E_ret (x := (.ireturn, 0, [], [])) (v := some (.inl 0)) rfl (Or.inl rfl) (by
      have r9 := hQ h1 (FZ_y f1) m1 W1
      have e9 : (wyf S T (S 0 0) (T 0 0) 3 set) = 0 := by
        show (if 1000000 ≤ (szf S T (S 0 0) (T 0 0) (-1) 3 set) then 0 else _) = (0 : Int)
        rw [if_pos (by omega)]
      rw [e9] at r9
      exact r9)
