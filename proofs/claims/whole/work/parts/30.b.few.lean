theorem SVN_up {h S : xH} {set z : Int} {m : Nat} (v : SVN h S (-1) m) (e : z = mc S (S 0 0) set) : SVN (xup h 54 set z) S (-1) m := fun s hs => by
  by_cases y : s = set
  · rw [y, xup_s]; exact Or.inr ⟨rfl, e⟩
  · rw [xup_j y]; exact v s hs
theorem OKC_s {S T : xH} {KE KT : Int} {m : Nat} (o : OKS S T KE KT m) : OKC S KE m := ⟨o.1, o.2.1.1, fun k z1 z2 => (o.2.2.2.1 k z1 z2).2.1⟩
theorem SVF_n {h h' S T : xH} {p : Int} {m : Nat} (f : ∀ a, a ≠ 54 → h' a = h a) (v : SVF h S T p m) : SVF h' S T p m := by
  unfold SVF at *
  rw [f 37 (by decide), f 39 (by decide), f 18 (by decide), f 20 (by decide), f 45 (by decide), f 48 (by decide), f 44 (by decide), f 55 (by decide)]
  exact v
set_option maxHeartbeats 1000000 in
theorem c_ff1 (d b : Nat) (h S T : xH) (set : Int) (m n : Nat) (hV : SVF h S T (-1) m) (hN : SVN h S (-1) m) (hK : h 9 9 = S 0 0) (hs : ir m set) (hn : ∀ i, tb set i = true → n ≤ i) (hc : ∀ i, tb set i = true → ∃ k, 0 ≤ k ∧ k < S 0 0 ∧ tb (S 6 k) i = true) (hrec : set ≠ 0 → ∀ (hh : xH) (s : Int), (∀ a, a ≠ 54 → hh a = h a) → SVN hh S (-1) m → ir m s → (∀ i, tb s i = true → n + 1 ≤ i ∧ tb set i = true) → ∀ {Q9 : xO → xH → Prop}, (∀ h', (∀ a, a ≠ 54 → h' a = hh a) → SVN h' S (-1) m → Q9 (.inl (some (.inl (mc S (S 0 0) s)))) h') → xRn G0 MT d 0 71 [.inr (.inr 44), .inl s] hh Q9) {Q : xO → xH → Prop} (hQ : ∀ h', (∀ a, a ≠ 54 → h' a = h a) → SVN h' S (-1) m → Q (.inl (some (.inl (mc S (S 0 0) set)))) h') : xRn G0 MT (d + 1) b 71 [.inr (.inr 44), .inl set] h Q := by
  refine R_of (M := mX7_fewestFor) rfl (Nat.le_of_ble_eq_true rfl) ?_
  show xEx G0 cdX7_fewestFor (some .int) (xRn G0 MT d) Q b 0 [some (.inr (.inr 44)), some (.inl set), none, none, none] [] h
  have r4 := ir4 hV.1.1 hs
  have oc := OKC_s hV.1
  have kk := hV.1.2.1
  have vn := hN set hs
  refine E_s 1 (i' := 1) (ls' := [some (.inr (.inr 44)), some (.inl set), none, none, none]) (sk' := [.inl set]) (h' := h) rfl ?_
  refine E_b (x := (.ifCond .eq 12, 7, [], [])) rfl rfl (fun c1 => ?_) (fun c1 => ?_)
  · rw [c_eq (by first | assumption | (refine ⟨?_, ?_⟩ <;> omega) | (simp only [xr] at *; omega)) (by first | assumption | (refine ⟨?_, ?_⟩ <;> omega) | (simp only [xr] at *; omega))] at c1
    simp only [decide_eq_true_eq, decide_eq_false_iff_not, Decidable.not_not] at c1
    show xEx G0 cdX7_fewestFor (some .int) (xRn G0 MT d) Q b 7 [some (.inr (.inr 44)), some (.inl set), none, none, none] [] h
    refine E_s 1 (i' := 8) (ls' := [some (.inr (.inr 44)), some (.inl set), none, none, none]) (sk' := [.inl set]) (h' := h) rfl ?_
    refine E_b (x := (.ifCond .ne 7, 11, [], [])) rfl rfl (fun c8 => ?_) (fun c8 => ?_)
    · rw [c_ne (by first | assumption | (refine ⟨?_, ?_⟩ <;> omega) | (simp only [xr] at *; omega)) (by first | assumption | (refine ⟨?_, ?_⟩ <;> omega) | (simp only [xr] at *; omega))] at c8
      simp only [decide_eq_true_eq, decide_eq_false_iff_not, Decidable.not_not] at c8
      show xEx G0 cdX7_fewestFor (some .int) (xRn G0 MT d) Q b 11 [some (.inr (.inr 44)), some (.inl set), none, none, none] [] h
      refine E_s 3 (i' := 14) (ls' := [some (.inr (.inr 44)), some (.inl set), none, none, none]) (sk' := [.inl set, .inr (.inr 54)]) (h' := h) rfl ?_
      refine E_ld (x := (.iaload, 0, [], [])) (ty := .int) (n := 4096) rfl rfl rfl (by omega) (by omega) ?_
      show xEx G0 cdX7_fewestFor (some .int) (xRn G0 MT d) Q b 15 [some (.inr (.inr 44)), some (.inl set), none, none, none] [.inl (h 54 set)] h
      exact E_ret (x := (.ireturn, 0, [], [])) (v := some (.inl (h 54 set))) rfl (Or.inl rfl) (by
        have r9 := hQ h (fun _ _ => rfl) hN
        rw [show mc S (S 0 0) set = h 54 set by omega] at r9
        exact r9)
    · rw [c_ne (by first | assumption | (refine ⟨?_, ?_⟩ <;> omega) | (simp only [xr] at *; omega)) (by first | assumption | (refine ⟨?_, ?_⟩ <;> omega) | (simp only [xr] at *; omega))] at c8
      simp only [decide_eq_true_eq, decide_eq_false_iff_not, Decidable.not_not] at c8
      show xEx G0 cdX7_fewestFor (some .int) (xRn G0 MT d) Q b 9 [some (.inr (.inr 44)), some (.inl set), none, none, none] [] h
      refine E_s 2 (i' := 15) (ls' := [some (.inr (.inr 44)), some (.inl set), none, none, none]) (sk' := [.inl 0]) (h' := h) rfl ?_
      exact E_ret (x := (.ireturn, 0, [], [])) (v := some (.inl 0)) rfl (Or.inl rfl) (by
        have r9 := hQ h (fun _ _ => rfl) hN
        rw [c8, mc_z] at r9
        exact r9)
  · rw [c_eq (by first | assumption | (refine ⟨?_, ?_⟩ <;> omega) | (simp only [xr] at *; omega)) (by first | assumption | (refine ⟨?_, ?_⟩ <;> omega) | (simp only [xr] at *; omega))] at c1
    simp only [decide_eq_true_eq, decide_eq_false_iff_not, Decidable.not_not] at c1
    show xEx G0 cdX7_fewestFor (some .int) (xRn G0 MT d) Q b 2 [some (.inr (.inr 44)), some (.inl set), none, none, none] [] h
    have vm : h 54 set = 0 ∨ h 54 set = mc S (S 0 0) set := vn.imp id (fun y => y.2)
    have v0 := (mc_0 oc _ _ rfl hs).1
    have v6 := mc_6 oc hs
    refine E_s 3 (i' := 5) (ls' := [some (.inr (.inr 44)), some (.inl set), none, none, none]) (sk' := [.inl set, .inr (.inr 54)]) (h' := h) rfl ?_
    refine E_ld (x := (.iaload, 0, [], [])) (ty := .int) (n := 4096) rfl rfl rfl (by omega) (by omega) ?_
    show xEx G0 cdX7_fewestFor (some .int) (xRn G0 MT d) Q b 6 [some (.inr (.inr 44)), some (.inl set), none, none, none] [.inl (h 54 set)] h
    refine E_b (x := (.ifCond .eq 18, 16, [], [])) rfl rfl (fun c6 => ?_) (fun c6 => ?_)
    · rw [c_eq (by first | assumption | (refine ⟨?_, ?_⟩ <;> omega) | (simp only [xr] at *; omega)) (by first | assumption | (refine ⟨?_, ?_⟩ <;> omega) | (simp only [xr] at *; omega))] at c6
      simp only [decide_eq_true_eq, decide_eq_false_iff_not, Decidable.not_not] at c6
      show xEx G0 cdX7_fewestFor (some .int) (xRn G0 MT d) Q b 16 [some (.inr (.inr 44)), some (.inl set), none, none, none] [] h
      have e45 := (hV.2.2.2.1 set hs).1
      obtain ⟨l, l0, l1, l2, l3⟩ := low_b oc.1 hs c1
      have lsp : -1 ≤ lf S (S 0 0) (-1) set ∧ lf S (S 0 0) (-1) set < S 0 0 := by
        rcases lf_spec S (S 0 0) (-1) set with ⟨a, -⟩ | ⟨a, b, -⟩ <;> omega
      have er45 : 0 ≤ h 45 set ∧ h 45 set ≤ 300 := by rw [e45]; split <;> omega
      refine E_s 3 (i' := 19) (ls' := [some (.inr (.inr 44)), some (.inl set), none, none, none]) (sk' := [.inl set, .inr (.inr 45)]) (h' := h) rfl ?_
      refine E_ld (x := (.iaload, 0, [], [])) (ty := .int) (n := 4096) rfl rfl rfl (by omega) (by omega) ?_
      show xEx G0 cdX7_fewestFor (some .int) (xRn G0 MT d) Q b 20 [some (.inr (.inr 44)), some (.inl set), none, none, none] [.inl (h 45 set)] h
      refine E_s 1 (i' := 21) (ls' := [some (.inr (.inr 44)), some (.inl set), none, none, none]) (sk' := [.inl 300, .inl (h 45 set)]) (h' := h) rfl ?_
      refine E_b (x := (.if_icmp .ne 8, 24, [], [])) rfl rfl (fun c21 => ?_) (fun c21 => ?_)
      · rw [c_ne (by first | assumption | (refine ⟨?_, ?_⟩ <;> omega) | (simp only [xr] at *; omega)) (by first | assumption | (refine ⟨?_, ?_⟩ <;> omega) | (simp only [xr] at *; omega))] at c21
        simp only [decide_eq_true_eq, decide_eq_false_iff_not, Decidable.not_not] at c21
        show xEx G0 cdX7_fewestFor (some .int) (xRn G0 MT d) Q b 24 [some (.inr (.inr 44)), some (.inl set), none, none, none] [] h
        refine E_s 9 (i' := 33) (ls' := [some (.inr (.inr 44)), some (.inl set), some (.inl 1), some (.inl (xand set (-set))), some (.inl 0)]) (sk' := []) (h' := h) rfl ?_
        have key33 : ∀ (n : Nat) (hh : xH) (k bs : Int), (0 ≤ k) → (k ≤ S 0 0) → (∀ a, a ≠ 54 → hh a = h a) → (SVN hh S (-1) m) → (LB S (S 0 0) set l k bs) → ((S 0 0 - k).toNat) < n → xEx G0 cdX7_fewestFor (some .int) (xRn G0 MT d) Q b 33 [some (.inr (.inr 44)), some (.inl set), some (.inl bs), some (.inl (xand set (-set))), some (.inl k)] [] hh := by
          intro n
          induction n with
          | zero => intro hh k bs _ _ _ _ _ hm; exact absurd hm (Nat.not_lt_zero _)
          | succ n ih33 =>
            intro hh k bs k0 k1 fh hN9 lb hm33
            have eK : hh 9 9 = S 0 0 := by rw [fh _ (by decide)]; exact hK
            have bb : 1 ≤ bs ∧ bs ≤ 12 := ⟨lb.2.1, lb.2.2.1⟩
            refine E_s 4 (i' := 37) (ls' := [some (.inr (.inr 44)), some (.inl set), some (.inl bs), some (.inl (xand set (-set))), some (.inl k)]) (sk' := [.inl (hh 9 9), .inl k]) (h' := hh) rfl ?_
            refine E_b (x := (.if_icmp .ge 54, 67, [], [])) rfl rfl (fun c37 => ?_) (fun c37 => ?_)
            · rw [c_ge (by first | assumption | (refine ⟨?_, ?_⟩ <;> omega) | (simp only [xr] at *; omega)) (by first | assumption | (refine ⟨?_, ?_⟩ <;> omega) | (simp only [xr] at *; omega))] at c37
              simp only [decide_eq_true_eq, decide_eq_false_iff_not, Decidable.not_not] at c37
              show xEx G0 cdX7_fewestFor (some .int) (xRn G0 MT d) Q b 67 [some (.inr (.inr 44)), some (.inl set), some (.inl bs), some (.inl (xand set (-set))), some (.inl k)] [] hh
              have r45 := ir4 hV.1.1 hs
              refine E_s 4 (i' := 71) (ls' := [some (.inr (.inr 44)), some (.inl set), some (.inl bs), some (.inl (xand set (-set))), some (.inl k)]) (sk' := [.inl bs, .inl set, .inr (.inr 54)]) (h' := hh) rfl ?_
              refine E_sd (x := (.iastore, 0, [], [])) (ty := .int) (n := 4096) (y := bs) rfl rfl rfl (by omega) (by omega) (trivial) ?_
              show xEx G0 cdX7_fewestFor (some .int) (xRn G0 MT d) Q b 72 [some (.inr (.inr 44)), some (.inl set), some (.inl bs), some (.inl (xand set (-set))), some (.inl k)] [] (xup hh 54 set bs)
              refine E_s 1 (i' := 73) (ls' := [some (.inr (.inr 44)), some (.inl set), some (.inl bs), some (.inl (xand set (-set))), some (.inl k)]) (sk' := [.inl bs]) (h' := (xup hh 54 set bs)) rfl ?_
              exact E_ret (x := (.ireturn, 0, [], [])) (v := some (.inl bs)) rfl (Or.inl rfl) (by
                have e9 := LB_end oc hs l2 lb (by omega)
                have r9 := hQ _ (fun a z => by rw [xup_o _ _ _ _ a z]; exact fh a z) (SVN_up hN9 e9)
                rw [← e9] at r9
                exact r9)
            · rw [c_ge (by first | assumption | (refine ⟨?_, ?_⟩ <;> omega) | (simp only [xr] at *; omega)) (by first | assumption | (refine ⟨?_, ?_⟩ <;> omega) | (simp only [xr] at *; omega))] at c37
              simp only [decide_eq_true_eq, decide_eq_false_iff_not, Decidable.not_not] at c37
              show xEx G0 cdX7_fewestFor (some .int) (xRn G0 MT d) Q b 38 [some (.inr (.inr 44)), some (.inl set), some (.inl bs), some (.inl (xand set (-set))), some (.inl k)] [] hh
              refine E_s 2 (i' := 40) (ls' := [some (.inr (.inr 44)), some (.inl set), some (.inl bs), some (.inl (xand set (-set))), some (.inl k)]) (sk' := [.inl 2, .inl bs]) (h' := hh) rfl ?_
              refine E_b (x := (.if_icmp .le 49, 67, [], [])) rfl rfl (fun c40 => ?_) (fun c40 => ?_)
              · rw [c_le (by first | assumption | (refine ⟨?_, ?_⟩ <;> omega) | (simp only [xr] at *; omega)) (by first | assumption | (refine ⟨?_, ?_⟩ <;> omega) | (simp only [xr] at *; omega))] at c40
                simp only [decide_eq_true_eq, decide_eq_false_iff_not, Decidable.not_not] at c40
                show xEx G0 cdX7_fewestFor (some .int) (xRn G0 MT d) Q b 67 [some (.inr (.inr 44)), some (.inl set), some (.inl bs), some (.inl (xand set (-set))), some (.inl k)] [] hh
                have r45 := ir4 hV.1.1 hs
                refine E_s 4 (i' := 71) (ls' := [some (.inr (.inr 44)), some (.inl set), some (.inl bs), some (.inl (xand set (-set))), some (.inl k)]) (sk' := [.inl bs, .inl set, .inr (.inr 54)]) (h' := hh) rfl ?_
                refine E_sd (x := (.iastore, 0, [], [])) (ty := .int) (n := 4096) (y := bs) rfl rfl rfl (by omega) (by omega) (trivial) ?_
                show xEx G0 cdX7_fewestFor (some .int) (xRn G0 MT d) Q b 72 [some (.inr (.inr 44)), some (.inl set), some (.inl bs), some (.inl (xand set (-set))), some (.inl k)] [] (xup hh 54 set bs)
                refine E_s 1 (i' := 73) (ls' := [some (.inr (.inr 44)), some (.inl set), some (.inl bs), some (.inl (xand set (-set))), some (.inl k)]) (sk' := [.inl bs]) (h' := (xup hh 54 set bs)) rfl ?_
                exact E_ret (x := (.ireturn, 0, [], [])) (v := some (.inl bs)) rfl (Or.inl rfl) (by
                  have e9 := LB_end oc hs l2 lb (by omega)
                  have r9 := hQ _ (fun a z => by rw [xup_o _ _ _ _ a z]; exact fh a z) (SVN_up hN9 e9)
                  rw [← e9] at r9
                  exact r9)
              · rw [c_le (by first | assumption | (refine ⟨?_, ?_⟩ <;> omega) | (simp only [xr] at *; omega)) (by first | assumption | (refine ⟨?_, ?_⟩ <;> omega) | (simp only [xr] at *; omega))] at c40
                simp only [decide_eq_true_eq, decide_eq_false_iff_not, Decidable.not_not] at c40
                show xEx G0 cdX7_fewestFor (some .int) (xRn G0 MT d) Q b 41 [some (.inr (.inr 44)), some (.inl set), some (.inl bs), some (.inl (xand set (-set))), some (.inl k)] [] hh
                have g6 : hh 20 k = S 6 k := by rw [fh _ (by decide)]; exact (hV.2.2.1 k k0 (by omega)).2
                have k6 := oc.2.2 k k0 (by omega)
                refine E_s 4 (i' := 45) (ls' := [some (.inr (.inr 44)), some (.inl set), some (.inl bs), some (.inl (xand set (-set))), some (.inl k)]) (sk' := [.inl k, .inr (.inr 20)]) (h' := hh) rfl ?_
                refine E_ld (x := (.iaload, 0, [], [])) (ty := .int) (n := 300) rfl rfl rfl (by omega) (by omega) ?_
                show xEx G0 cdX7_fewestFor (some .int) (xRn G0 MT d) Q b 46 [some (.inr (.inr 44)), some (.inl set), some (.inl bs), some (.inl (xand set (-set))), some (.inl k)] [.inl (hh 20 k)] hh
                refine E_s 2 (i' := 48) (ls' := [some (.inr (.inr 44)), some (.inl set), some (.inl bs), some (.inl (xand set (-set))), some (.inl k)]) (sk' := [.inl (xand (hh 20 k) (xand set (-set)))]) (h' := hh) rfl ?_
                refine E_b (x := (.ifCond .eq 28, 65, [], [])) rfl rfl (fun c48 => ?_) (fun c48 => ?_)
                · rw [c_eq (by first | exact xand_r _ _ | exact ⟨by omega, by omega⟩) (by first | exact xand_r _ _ | exact ⟨by omega, by omega⟩)] at c48
                  simp only [decide_eq_true_eq, decide_eq_false_iff_not, Decidable.not_not] at c48
                  show xEx G0 cdX7_fewestFor (some .int) (xRn G0 MT d) Q b 65 [some (.inr (.inr 44)), some (.inl set), some (.inl bs), some (.inl (xand set (-set))), some (.inl k)] [] hh
                  refine E_s 2 (i' := 33) (ls' := [some (.inr (.inr 44)), some (.inl set), some (.inl bs), some (.inl (xand set (-set))), some (.inl (k + 1))]) (sk' := []) (h' := hh) rfl ?_
                  exact ih33 hh (k + 1) bs (by omega) (by omega) fh hN9 (LB_skip ((and_p oc.1 k6 l0).mp (by rw [← l1, ← g6]; exact c48)) lb) (by omega)
                · rw [c_eq (by first | exact xand_r _ _ | exact ⟨by omega, by omega⟩) (by first | exact xand_r _ _ | exact ⟨by omega, by omega⟩)] at c48
                  simp only [decide_eq_true_eq, decide_eq_false_iff_not, Decidable.not_not] at c48
                  show xEx G0 cdX7_fewestFor (some .int) (xRn G0 MT d) Q b 49 [some (.inr (.inr 44)), some (.inl set), some (.inl bs), some (.inl (xand set (-set))), some (.inl k)] [] hh
                  have tk : tb (S 6 k) l = true := by
                    cases y : tb (S 6 k) l
                    · exact absurd (by rw [l1, g6]; exact (and_p oc.1 k6 l0).mpr y) c48
                    · rfl
                  refine E_s 8 (i' := 57) (ls' := [some (.inr (.inr 44)), some (.inl set), some (.inl bs), some (.inl (xand set (-set))), some (.inl k)]) (sk' := [.inl k, .inr (.inr 20), .inl set, .inr (.inr 44), .inl 1, .inl bs]) (h' := hh) rfl ?_
                  refine E_ld (x := (.iaload, 0, [], [])) (ty := .int) (n := 300) rfl rfl rfl (by omega) (by omega) ?_
                  show xEx G0 cdX7_fewestFor (some .int) (xRn G0 MT d) Q b 58 [some (.inr (.inr 44)), some (.inl set), some (.inl bs), some (.inl (xand set (-set))), some (.inl k)] [.inl (hh 20 k), .inl set, .inr (.inr 44), .inl 1, .inl bs] hh
                  refine E_s 3 (i' := 61) (ls' := [some (.inr (.inr 44)), some (.inl set), some (.inl bs), some (.inl (xand set (-set))), some (.inl k)]) (sk' := [.inl (xand set (xxor (hh 20 k) (-1))), .inr (.inr 44), .inl 1, .inl bs]) (h' := hh) rfl ?_
                  have r6 := rst_r oc hs k0 (show k < S 0 0 by omega)
                  have b6 := rst_b oc hs k0 (show k < S 0 0 by omega)
                  refine E_cp (x := (.invokevirtual 149, 1, [(5, 71)], [0])) (q := fun r h9 => r = mc S (S 0 0) (xand set (xxor (hh 20 k) (-1))) ∧ (∀ a, a ≠ 54 → h9 a = hh a) ∧ SVN h9 S (-1) m) rfl rfl (Nat.le_of_ble_eq_true rfl) (hrec c1 hh (xand set (xxor (hh 20 k) (-1))) fh hN9 (by rw [g6]; exact r6) (fun i hi => by
                    rw [g6] at hi
                    rw [show tb (xand set (xxor (S 6 k) (-1))) i = _ from b6 i] at hi
                    have q1 : tb set i = true ∧ tb (S 6 k) i = false := by
                      revert hi
                      cases tb set i <;> cases tb (S 6 k) i <;> simp
                    refine ⟨?_, q1.1⟩
                    have q2 := hn i q1.1
                    have q3 := hn l l2
                    rcases Nat.lt_trichotomy i l with w | w | w
                    · rw [l3 i w] at q1; cases q1.1
                    · rw [w, tk] at q1; cases q1.2
                    · omega) (fun h9 z1 z2 => ⟨_, rfl, rfl, z1, z2⟩)) (fun r1 h2 hq1 => ?_)
                  obtain ⟨er, f2, n2⟩ := hq1
                  rw [g6] at er
                  have er : r1 = mc S (S 0 0) (rst S set k) := er
                  have rr0 := (mc_0 oc _ _ rfl r6).1
                  have rr6 := mc_6 oc r6
                  show xEx G0 cdX7_fewestFor (some .int) (xRn G0 MT d) Q b 62 [some (.inr (.inr 44)), some (.inl set), some (.inl bs), some (.inl (xand set (-set))), some (.inl k)] [.inl r1, .inl 1, .inl bs] h2
                  refine E_s 1 (i' := 63) (ls' := [some (.inr (.inr 44)), some (.inl set), some (.inl bs), some (.inl (xand set (-set))), some (.inl k)]) (sk' := [.inl (1 + r1), .inl bs]) (h' := h2) rfl ?_
                  refine E_min (x := (.invokestatic 153, 0, [], [1])) rfl rfl rfl (Nat.le_of_ble_eq_true rfl) ?_
                  show xEx G0 cdX7_fewestFor (some .int) (xRn G0 MT d) Q b 64 [some (.inr (.inr 44)), some (.inl set), some (.inl bs), some (.inl (xand set (-set))), some (.inl k)] [.inl (if w32 (1 + r1) < w32 bs then 1 + r1 else bs)] h2
                  refine E_s 3 (i' := 33) (ls' := [some (.inr (.inr 44)), some (.inl set), some (.inl (if w32 (1 + r1) < w32 bs then 1 + r1 else bs)), some (.inl (xand set (-set))), some (.inl (k + 1))]) (sk' := []) (h' := h2) rfl ?_
                  exact ih33 _ (k + 1) _ (by omega) (by omega) (fun a z => by rw [f2 a z]; exact fh a z) n2 (by
                    have q := LB_step oc hs l2 k0 (by omega) tk (by omega) er lb
                    rw [w32_id ⟨by omega, by omega⟩, w32_id ⟨by omega, by omega⟩]
                    exact q) (by omega)
        exact key33 _ h 0 1 (by omega) (by omega) (fun _ _ => rfl) hN (by
          rcases lf_spec S (S 0 0) (-1) set with q | q
          · exact absurd (by rw [e45, if_pos q.1]) c21
          · exact LB_1 oc hs c1 q.1 q.2.1 q.2.2.1.2) (Nat.lt_succ_self _)
      · rw [c_ne (by first | assumption | (refine ⟨?_, ?_⟩ <;> omega) | (simp only [xr] at *; omega)) (by first | assumption | (refine ⟨?_, ?_⟩ <;> omega) | (simp only [xr] at *; omega))] at c21
        simp only [decide_eq_true_eq, decide_eq_false_iff_not, Decidable.not_not] at c21
        show xEx G0 cdX7_fewestFor (some .int) (xRn G0 MT d) Q b 22 [some (.inr (.inr 44)), some (.inl set), none, none, none] [] h
        refine E_s 10 (i' := 33) (ls' := [some (.inr (.inr 44)), some (.inl set), some (.inl 12), some (.inl (xand set (-set))), some (.inl 0)]) (sk' := []) (h' := h) rfl ?_
        have key33 : ∀ (n : Nat) (hh : xH) (k bs : Int), (0 ≤ k) → (k ≤ S 0 0) → (∀ a, a ≠ 54 → hh a = h a) → (SVN hh S (-1) m) → (LB S (S 0 0) set l k bs) → ((S 0 0 - k).toNat) < n → xEx G0 cdX7_fewestFor (some .int) (xRn G0 MT d) Q b 33 [some (.inr (.inr 44)), some (.inl set), some (.inl bs), some (.inl (xand set (-set))), some (.inl k)] [] hh := by
          intro n
          induction n with
          | zero => intro hh k bs _ _ _ _ _ hm; exact absurd hm (Nat.not_lt_zero _)
          | succ n ih33 =>
            intro hh k bs k0 k1 fh hN9 lb hm33
            have eK : hh 9 9 = S 0 0 := by rw [fh _ (by decide)]; exact hK
            have bb : 1 ≤ bs ∧ bs ≤ 12 := ⟨lb.2.1, lb.2.2.1⟩
            refine E_s 4 (i' := 37) (ls' := [some (.inr (.inr 44)), some (.inl set), some (.inl bs), some (.inl (xand set (-set))), some (.inl k)]) (sk' := [.inl (hh 9 9), .inl k]) (h' := hh) rfl ?_
            refine E_b (x := (.if_icmp .ge 54, 67, [], [])) rfl rfl (fun c37 => ?_) (fun c37 => ?_)
            · rw [c_ge (by first | assumption | (refine ⟨?_, ?_⟩ <;> omega) | (simp only [xr] at *; omega)) (by first | assumption | (refine ⟨?_, ?_⟩ <;> omega) | (simp only [xr] at *; omega))] at c37
              simp only [decide_eq_true_eq, decide_eq_false_iff_not, Decidable.not_not] at c37
              show xEx G0 cdX7_fewestFor (some .int) (xRn G0 MT d) Q b 67 [some (.inr (.inr 44)), some (.inl set), some (.inl bs), some (.inl (xand set (-set))), some (.inl k)] [] hh
              have r45 := ir4 hV.1.1 hs
              refine E_s 4 (i' := 71) (ls' := [some (.inr (.inr 44)), some (.inl set), some (.inl bs), some (.inl (xand set (-set))), some (.inl k)]) (sk' := [.inl bs, .inl set, .inr (.inr 54)]) (h' := hh) rfl ?_
              refine E_sd (x := (.iastore, 0, [], [])) (ty := .int) (n := 4096) (y := bs) rfl rfl rfl (by omega) (by omega) (trivial) ?_
              show xEx G0 cdX7_fewestFor (some .int) (xRn G0 MT d) Q b 72 [some (.inr (.inr 44)), some (.inl set), some (.inl bs), some (.inl (xand set (-set))), some (.inl k)] [] (xup hh 54 set bs)
              refine E_s 1 (i' := 73) (ls' := [some (.inr (.inr 44)), some (.inl set), some (.inl bs), some (.inl (xand set (-set))), some (.inl k)]) (sk' := [.inl bs]) (h' := (xup hh 54 set bs)) rfl ?_
              exact E_ret (x := (.ireturn, 0, [], [])) (v := some (.inl bs)) rfl (Or.inl rfl) (by
                have e9 := LB_end oc hs l2 lb (by omega)
                have r9 := hQ _ (fun a z => by rw [xup_o _ _ _ _ a z]; exact fh a z) (SVN_up hN9 e9)
                rw [← e9] at r9
                exact r9)
            · rw [c_ge (by first | assumption | (refine ⟨?_, ?_⟩ <;> omega) | (simp only [xr] at *; omega)) (by first | assumption | (refine ⟨?_, ?_⟩ <;> omega) | (simp only [xr] at *; omega))] at c37
              simp only [decide_eq_true_eq, decide_eq_false_iff_not, Decidable.not_not] at c37
              show xEx G0 cdX7_fewestFor (some .int) (xRn G0 MT d) Q b 38 [some (.inr (.inr 44)), some (.inl set), some (.inl bs), some (.inl (xand set (-set))), some (.inl k)] [] hh
              refine E_s 2 (i' := 40) (ls' := [some (.inr (.inr 44)), some (.inl set), some (.inl bs), some (.inl (xand set (-set))), some (.inl k)]) (sk' := [.inl 2, .inl bs]) (h' := hh) rfl ?_
              refine E_b (x := (.if_icmp .le 49, 67, [], [])) rfl rfl (fun c40 => ?_) (fun c40 => ?_)
              · rw [c_le (by first | assumption | (refine ⟨?_, ?_⟩ <;> omega) | (simp only [xr] at *; omega)) (by first | assumption | (refine ⟨?_, ?_⟩ <;> omega) | (simp only [xr] at *; omega))] at c40
                simp only [decide_eq_true_eq, decide_eq_false_iff_not, Decidable.not_not] at c40
                show xEx G0 cdX7_fewestFor (some .int) (xRn G0 MT d) Q b 67 [some (.inr (.inr 44)), some (.inl set), some (.inl bs), some (.inl (xand set (-set))), some (.inl k)] [] hh
                have r45 := ir4 hV.1.1 hs
                refine E_s 4 (i' := 71) (ls' := [some (.inr (.inr 44)), some (.inl set), some (.inl bs), some (.inl (xand set (-set))), some (.inl k)]) (sk' := [.inl bs, .inl set, .inr (.inr 54)]) (h' := hh) rfl ?_
                refine E_sd (x := (.iastore, 0, [], [])) (ty := .int) (n := 4096) (y := bs) rfl rfl rfl (by omega) (by omega) (trivial) ?_
                show xEx G0 cdX7_fewestFor (some .int) (xRn G0 MT d) Q b 72 [some (.inr (.inr 44)), some (.inl set), some (.inl bs), some (.inl (xand set (-set))), some (.inl k)] [] (xup hh 54 set bs)
                refine E_s 1 (i' := 73) (ls' := [some (.inr (.inr 44)), some (.inl set), some (.inl bs), some (.inl (xand set (-set))), some (.inl k)]) (sk' := [.inl bs]) (h' := (xup hh 54 set bs)) rfl ?_
                exact E_ret (x := (.ireturn, 0, [], [])) (v := some (.inl bs)) rfl (Or.inl rfl) (by
                  have e9 := LB_end oc hs l2 lb (by omega)
                  have r9 := hQ _ (fun a z => by rw [xup_o _ _ _ _ a z]; exact fh a z) (SVN_up hN9 e9)
                  rw [← e9] at r9
                  exact r9)
              · rw [c_le (by first | assumption | (refine ⟨?_, ?_⟩ <;> omega) | (simp only [xr] at *; omega)) (by first | assumption | (refine ⟨?_, ?_⟩ <;> omega) | (simp only [xr] at *; omega))] at c40
                simp only [decide_eq_true_eq, decide_eq_false_iff_not, Decidable.not_not] at c40
                show xEx G0 cdX7_fewestFor (some .int) (xRn G0 MT d) Q b 41 [some (.inr (.inr 44)), some (.inl set), some (.inl bs), some (.inl (xand set (-set))), some (.inl k)] [] hh
                have g6 : hh 20 k = S 6 k := by rw [fh _ (by decide)]; exact (hV.2.2.1 k k0 (by omega)).2
                have k6 := oc.2.2 k k0 (by omega)
                refine E_s 4 (i' := 45) (ls' := [some (.inr (.inr 44)), some (.inl set), some (.inl bs), some (.inl (xand set (-set))), some (.inl k)]) (sk' := [.inl k, .inr (.inr 20)]) (h' := hh) rfl ?_
                refine E_ld (x := (.iaload, 0, [], [])) (ty := .int) (n := 300) rfl rfl rfl (by omega) (by omega) ?_
                show xEx G0 cdX7_fewestFor (some .int) (xRn G0 MT d) Q b 46 [some (.inr (.inr 44)), some (.inl set), some (.inl bs), some (.inl (xand set (-set))), some (.inl k)] [.inl (hh 20 k)] hh
                refine E_s 2 (i' := 48) (ls' := [some (.inr (.inr 44)), some (.inl set), some (.inl bs), some (.inl (xand set (-set))), some (.inl k)]) (sk' := [.inl (xand (hh 20 k) (xand set (-set)))]) (h' := hh) rfl ?_
                refine E_b (x := (.ifCond .eq 28, 65, [], [])) rfl rfl (fun c48 => ?_) (fun c48 => ?_)
                · rw [c_eq (by first | exact xand_r _ _ | exact ⟨by omega, by omega⟩) (by first | exact xand_r _ _ | exact ⟨by omega, by omega⟩)] at c48
                  simp only [decide_eq_true_eq, decide_eq_false_iff_not, Decidable.not_not] at c48
                  show xEx G0 cdX7_fewestFor (some .int) (xRn G0 MT d) Q b 65 [some (.inr (.inr 44)), some (.inl set), some (.inl bs), some (.inl (xand set (-set))), some (.inl k)] [] hh
                  refine E_s 2 (i' := 33) (ls' := [some (.inr (.inr 44)), some (.inl set), some (.inl bs), some (.inl (xand set (-set))), some (.inl (k + 1))]) (sk' := []) (h' := hh) rfl ?_
                  exact ih33 hh (k + 1) bs (by omega) (by omega) fh hN9 (LB_skip ((and_p oc.1 k6 l0).mp (by rw [← l1, ← g6]; exact c48)) lb) (by omega)
                · rw [c_eq (by first | exact xand_r _ _ | exact ⟨by omega, by omega⟩) (by first | exact xand_r _ _ | exact ⟨by omega, by omega⟩)] at c48
                  simp only [decide_eq_true_eq, decide_eq_false_iff_not, Decidable.not_not] at c48
                  show xEx G0 cdX7_fewestFor (some .int) (xRn G0 MT d) Q b 49 [some (.inr (.inr 44)), some (.inl set), some (.inl bs), some (.inl (xand set (-set))), some (.inl k)] [] hh
                  have tk : tb (S 6 k) l = true := by
                    cases y : tb (S 6 k) l
                    · exact absurd (by rw [l1, g6]; exact (and_p oc.1 k6 l0).mpr y) c48
                    · rfl
                  refine E_s 8 (i' := 57) (ls' := [some (.inr (.inr 44)), some (.inl set), some (.inl bs), some (.inl (xand set (-set))), some (.inl k)]) (sk' := [.inl k, .inr (.inr 20), .inl set, .inr (.inr 44), .inl 1, .inl bs]) (h' := hh) rfl ?_
                  refine E_ld (x := (.iaload, 0, [], [])) (ty := .int) (n := 300) rfl rfl rfl (by omega) (by omega) ?_
                  show xEx G0 cdX7_fewestFor (some .int) (xRn G0 MT d) Q b 58 [some (.inr (.inr 44)), some (.inl set), some (.inl bs), some (.inl (xand set (-set))), some (.inl k)] [.inl (hh 20 k), .inl set, .inr (.inr 44), .inl 1, .inl bs] hh
                  refine E_s 3 (i' := 61) (ls' := [some (.inr (.inr 44)), some (.inl set), some (.inl bs), some (.inl (xand set (-set))), some (.inl k)]) (sk' := [.inl (xand set (xxor (hh 20 k) (-1))), .inr (.inr 44), .inl 1, .inl bs]) (h' := hh) rfl ?_
                  have r6 := rst_r oc hs k0 (show k < S 0 0 by omega)
                  have b6 := rst_b oc hs k0 (show k < S 0 0 by omega)
                  refine E_cp (x := (.invokevirtual 149, 1, [(5, 71)], [0])) (q := fun r h9 => r = mc S (S 0 0) (xand set (xxor (hh 20 k) (-1))) ∧ (∀ a, a ≠ 54 → h9 a = hh a) ∧ SVN h9 S (-1) m) rfl rfl (Nat.le_of_ble_eq_true rfl) (hrec c1 hh (xand set (xxor (hh 20 k) (-1))) fh hN9 (by rw [g6]; exact r6) (fun i hi => by
                    rw [g6] at hi
                    rw [show tb (xand set (xxor (S 6 k) (-1))) i = _ from b6 i] at hi
                    have q1 : tb set i = true ∧ tb (S 6 k) i = false := by
                      revert hi
                      cases tb set i <;> cases tb (S 6 k) i <;> simp
                    refine ⟨?_, q1.1⟩
                    have q2 := hn i q1.1
                    have q3 := hn l l2
                    rcases Nat.lt_trichotomy i l with w | w | w
                    · rw [l3 i w] at q1; cases q1.1
                    · rw [w, tk] at q1; cases q1.2
                    · omega) (fun h9 z1 z2 => ⟨_, rfl, rfl, z1, z2⟩)) (fun r1 h2 hq1 => ?_)
                  obtain ⟨er, f2, n2⟩ := hq1
                  rw [g6] at er
                  have er : r1 = mc S (S 0 0) (rst S set k) := er
                  have rr0 := (mc_0 oc _ _ rfl r6).1
                  have rr6 := mc_6 oc r6
                  show xEx G0 cdX7_fewestFor (some .int) (xRn G0 MT d) Q b 62 [some (.inr (.inr 44)), some (.inl set), some (.inl bs), some (.inl (xand set (-set))), some (.inl k)] [.inl r1, .inl 1, .inl bs] h2
                  refine E_s 1 (i' := 63) (ls' := [some (.inr (.inr 44)), some (.inl set), some (.inl bs), some (.inl (xand set (-set))), some (.inl k)]) (sk' := [.inl (1 + r1), .inl bs]) (h' := h2) rfl ?_
                  refine E_min (x := (.invokestatic 153, 0, [], [1])) rfl rfl rfl (Nat.le_of_ble_eq_true rfl) ?_
                  show xEx G0 cdX7_fewestFor (some .int) (xRn G0 MT d) Q b 64 [some (.inr (.inr 44)), some (.inl set), some (.inl bs), some (.inl (xand set (-set))), some (.inl k)] [.inl (if w32 (1 + r1) < w32 bs then 1 + r1 else bs)] h2
                  refine E_s 3 (i' := 33) (ls' := [some (.inr (.inr 44)), some (.inl set), some (.inl (if w32 (1 + r1) < w32 bs then 1 + r1 else bs)), some (.inl (xand set (-set))), some (.inl (k + 1))]) (sk' := []) (h' := h2) rfl ?_
                  exact ih33 _ (k + 1) _ (by omega) (by omega) (fun a z => by rw [f2 a z]; exact fh a z) n2 (by
                    have q := LB_step oc hs l2 k0 (by omega) tk (by omega) er lb
                    rw [w32_id ⟨by omega, by omega⟩, w32_id ⟨by omega, by omega⟩]
                    exact q) (by omega)
        exact key33 _ h 0 12 (by omega) (by omega) (fun _ _ => rfl) hN (LB_12 oc hs c1 (fun k z1 z2 y => by
          rcases lf_spec S (S 0 0) (-1) set with q | q
          · exact q.2 k z1 z2 ⟨Or.inl rfl, y⟩
          · rw [e45, if_neg (by omega)] at c21
            omega) hc) (Nat.lt_succ_self _)
    · rw [c_eq (by first | assumption | (refine ⟨?_, ?_⟩ <;> omega) | (simp only [xr] at *; omega)) (by first | assumption | (refine ⟨?_, ?_⟩ <;> omega) | (simp only [xr] at *; omega))] at c6
      simp only [decide_eq_true_eq, decide_eq_false_iff_not, Decidable.not_not] at c6
      show xEx G0 cdX7_fewestFor (some .int) (xRn G0 MT d) Q b 7 [some (.inr (.inr 44)), some (.inl set), none, none, none] [] h
      refine E_s 1 (i' := 8) (ls' := [some (.inr (.inr 44)), some (.inl set), none, none, none]) (sk' := [.inl set]) (h' := h) rfl ?_
      refine E_b (x := (.ifCond .ne 7, 11, [], [])) rfl rfl (fun c8 => ?_) (fun c8 => ?_)
      · rw [c_ne (by first | assumption | (refine ⟨?_, ?_⟩ <;> omega) | (simp only [xr] at *; omega)) (by first | assumption | (refine ⟨?_, ?_⟩ <;> omega) | (simp only [xr] at *; omega))] at c8
        simp only [decide_eq_true_eq, decide_eq_false_iff_not, Decidable.not_not] at c8
        show xEx G0 cdX7_fewestFor (some .int) (xRn G0 MT d) Q b 11 [some (.inr (.inr 44)), some (.inl set), none, none, none] [] h
        refine E_s 3 (i' := 14) (ls' := [some (.inr (.inr 44)), some (.inl set), none, none, none]) (sk' := [.inl set, .inr (.inr 54)]) (h' := h) rfl ?_
        refine E_ld (x := (.iaload, 0, [], [])) (ty := .int) (n := 4096) rfl rfl rfl (by omega) (by omega) ?_
        show xEx G0 cdX7_fewestFor (some .int) (xRn G0 MT d) Q b 15 [some (.inr (.inr 44)), some (.inl set), none, none, none] [.inl (h 54 set)] h
        exact E_ret (x := (.ireturn, 0, [], [])) (v := some (.inl (h 54 set))) rfl (Or.inl rfl) (by
          have r9 := hQ h (fun _ _ => rfl) hN
          rw [show mc S (S 0 0) set = h 54 set by omega] at r9
          exact r9)
      · rw [c_ne (by first | assumption | (refine ⟨?_, ?_⟩ <;> omega) | (simp only [xr] at *; omega)) (by first | assumption | (refine ⟨?_, ?_⟩ <;> omega) | (simp only [xr] at *; omega))] at c8
        simp only [decide_eq_true_eq, decide_eq_false_iff_not, Decidable.not_not] at c8
        show xEx G0 cdX7_fewestFor (some .int) (xRn G0 MT d) Q b 9 [some (.inr (.inr 44)), some (.inl set), none, none, none] [] h
        refine E_s 2 (i' := 15) (ls' := [some (.inr (.inr 44)), some (.inl set), none, none, none]) (sk' := [.inl 0]) (h' := h) rfl ?_
        exact E_ret (x := (.ireturn, 0, [], [])) (v := some (.inl 0)) rfl (Or.inl rfl) (by
          have r9 := hQ h (fun _ _ => rfl) hN
          rw [c8, mc_z] at r9
          exact r9)
theorem c_ff : ∀ (q d b : Nat) (h S T : xH) (set : Int) (m : Nat) (hV : SVF h S T (-1) m) (hN : SVN h S (-1) m) (hK : h 9 9 = S 0 0) (hs : ir m set) (hq : ∀ i, tb set i = true → 12 ≤ i + q) (hc : ∀ i, tb set i = true → ∃ k, 0 ≤ k ∧ k < S 0 0 ∧ tb (S 6 k) i = true) {Q : xO → xH → Prop} (hQ : ∀ h', (∀ a, a ≠ 54 → h' a = h a) → SVN h' S (-1) m → Q (.inl (some (.inl (mc S (S 0 0) set)))) h'), xRn G0 MT (d + q + 1) b 71 [.inr (.inr 44), .inl set] h Q
  | 0, d, b, h, S, T, set, m, hV, hN, hK, hs, hq, hc, Q, hQ => by
    refine c_ff1 d b h S T set m 12 hV hN hK hs (fun i hi => by have := hq i hi; omega) hc (fun z => absurd (tb_no hs.1 (fun i hi => ?_)) z) hQ
    have a := hq i hi
    rw [tb_hi hs (by have := hV.1.1; omega)] at hi
    cases hi
  | q + 1, d, b, h, S, T, set, m, hV, hN, hK, hs, hq, hc, Q, hQ => by
    refine c_ff1 (d + q + 1) b h S T set m (12 - (q + 1)) hV hN hK hs (fun i hi => by have := hq i hi; omega) hc (fun z hh s z1 z2 z3 z4 {Q9} z5 => ?_) hQ
    refine c_ff q d 0 hh S T s m (SVF_n z1 hV) z2 (by rw [z1 _ (by decide)]; exact hK) z3 (fun i hi => by have := (z4 i hi).1; omega) (fun i hi => hc i (z4 i hi).2) z5
