set_option maxHeartbeats 1000000 in
theorem o_solved (d  : Nat) (h S T : xH) (w : Int) (hw : xr w) (hS3 : S 0 0 ≤ 300) (hT4 : T 0 0 ≤ 150) (hs : h 56 4 = 0 ∨ h 56 4 = 1) (hr : h 56 4 = 1 → ∀ nd, 0 ≤ nd → nd < 15 → -1 ≤ h 57 nd ∧ h 57 nd < T 0 0 ∧ -1 ≤ h 58 nd ∧ h 58 nd < S 0 0) (tr : h 56 4 = 1 → TRp (h 57) (h 58) S T 3 0) {Q : xO → xH → Prop} (hN : ¬ (h 56 4 = 1) → Q (.inr "java/lang/IllegalStateException") h) (hA : (h 56 4 = 1) → ¬ (0 ≤ w ∧ w ≤ 5) → Q (.inr "java/util/NoSuchElementException") h) (h0 : (h 56 4 = 1) → w = 0 → Q (.inl (some (.inl (h 56 5)))) h) (h1 : (h 56 4 = 1) → w = 1 → Q (.inl (some (.inl (cN (ifN (h 57)) 15)))) h) (h2 : (h 56 4 = 1) → w = 2 → Q (.inl (some (.inl (dpN (h 57) 15)))) h) (h3 : (h 56 4 = 1) → w = 3 → Q (.inl (some (.inl (cN (lfN (h 58)) 15)))) h) (h4 : (h 56 4 = 1) → w = 4 → Q (.inl (some (.inl (h 57 0)))) h) (h5 : (h 56 4 = 1) → w = 5 → Q (.inl (some (.inl (h 58 0)))) h)  : xRn G0 MT (d + 3) 2 123 [.inr (.inr 0), .inl w] h Q := by
  refine R_of (M := mX11_solved) rfl (Nat.le_of_ble_eq_true rfl) ?_
  show xEx G0 cdX11_solved (some .int) (xRn G0 MT (d + 2)) Q 2 0 [some (.inr (.inr 0)), some (.inl w)] [] h
  refine E_s 1 (i' := 1) (ls' := [some (.inr (.inr 0)), some (.inl w)]) (sk' := [.inr (.inr 0)]) (h' := h) rfl ?_
  refine E_cx (x := (.invokevirtual 291, 0, [(9, 147)], [0])) (b1 := 1) (b2 := 1) (v := none) (q := fun h9 => (h 56 4 = 1) ∧ h = h9) rfl rfl (Nat.le_of_ble_eq_true rfl) (fun z => by cases z) (c_refNotSolved (d + 1) h hs (fun z9 => Or.inl ⟨rfl, z9, rfl⟩) (fun z9 => Or.inr ⟨_, rfl, hN z9⟩)) (fun h9 hq9 => ?_)
  obtain ⟨qs, rfl⟩ := hq9
  show xEx G0 cdX11_solved (some .int) (xRn G0 MT (d + 2)) Q 1 2 [some (.inr (.inr 0)), some (.inl w)] [] h
  refine E_s 1 (i' := 3) (ls' := [some (.inr (.inr 0)), some (.inl w)]) (sk' := [.inl w]) (h' := h) rfl ?_
  by_cases s3_0 : w = 0
  · refine E_sw (x := (.tableswitch 91 0 5 #[39, 47, 55, 63, 71, 81], 32, [(0, 4), (1, 8), (2, 12), (3, 16), (4, 20), (5, 26)], [])) (t := 4) rfl rfl (by rw [s3_0]; decide +kernel) ?_
    show xEx G0 cdX11_solved (some .int) (xRn G0 MT (d + 2)) Q 1 4 [some (.inr (.inr 0)), some (.inl w)] [] h
    refine E_s 3 (i' := 7) (ls' := [some (.inr (.inr 0)), some (.inl w)]) (sk' := [.inl (h 56 5)]) (h' := h) rfl ?_
    exact E_ret (x := (.ireturn, 0, [], [])) (v := some (.inl (h 56 5))) rfl (Or.inl rfl) (h0 qs s3_0)
  · by_cases s3_1 : w = 1
    · refine E_sw (x := (.tableswitch 91 0 5 #[39, 47, 55, 63, 71, 81], 32, [(0, 4), (1, 8), (2, 12), (3, 16), (4, 20), (5, 26)], [])) (t := 8) rfl rfl (by rw [s3_1]; decide +kernel) ?_
      show xEx G0 cdX11_solved (some .int) (xRn G0 MT (d + 2)) Q 1 8 [some (.inr (.inr 0)), some (.inl w)] [] h
      refine E_s 2 (i' := 10) (ls' := [some (.inr (.inr 0)), some (.inl w)]) (sk' := [.inr (.inr 56)]) (h' := h) rfl ?_
      refine E_ci (x := (.invokevirtual 295, 0, [(4, 49)], [0])) (r := (cN (ifN (h 57)) 15)) (h' := h) rfl rfl (Nat.le_of_ble_eq_true rfl) (c_prIfs (d + 1) 0 h S T hT4 (hr qs) (tr qs) ⟨rfl, rfl⟩) ?_
      show xEx G0 cdX11_solved (some .int) (xRn G0 MT (d + 2)) Q 1 11 [some (.inr (.inr 0)), some (.inl w)] [.inl (cN (ifN (h 57)) 15)] h
      exact E_ret (x := (.ireturn, 0, [], [])) (v := some (.inl (cN (ifN (h 57)) 15))) rfl (Or.inl rfl) (h1 qs s3_1)
    · by_cases s3_2 : w = 2
      · refine E_sw (x := (.tableswitch 91 0 5 #[39, 47, 55, 63, 71, 81], 32, [(0, 4), (1, 8), (2, 12), (3, 16), (4, 20), (5, 26)], [])) (t := 12) rfl rfl (by rw [s3_2]; decide +kernel) ?_
        show xEx G0 cdX11_solved (some .int) (xRn G0 MT (d + 2)) Q 1 12 [some (.inr (.inr 0)), some (.inl w)] [] h
        refine E_s 2 (i' := 14) (ls' := [some (.inr (.inr 0)), some (.inl w)]) (sk' := [.inr (.inr 56)]) (h' := h) rfl ?_
        refine E_ci (x := (.invokevirtual 298, 0, [(4, 50)], [0])) (r := (dpN (h 57) 15)) (h' := h) rfl rfl (Nat.le_of_ble_eq_true rfl) (c_prDeep (d + 1) 0 h S T hT4 (hr qs) (tr qs) ⟨rfl, rfl⟩) ?_
        show xEx G0 cdX11_solved (some .int) (xRn G0 MT (d + 2)) Q 1 15 [some (.inr (.inr 0)), some (.inl w)] [.inl (dpN (h 57) 15)] h
        exact E_ret (x := (.ireturn, 0, [], [])) (v := some (.inl (dpN (h 57) 15))) rfl (Or.inl rfl) (h2 qs s3_2)
      · by_cases s3_3 : w = 3
        · refine E_sw (x := (.tableswitch 91 0 5 #[39, 47, 55, 63, 71, 81], 32, [(0, 4), (1, 8), (2, 12), (3, 16), (4, 20), (5, 26)], [])) (t := 16) rfl rfl (by rw [s3_3]; decide +kernel) ?_
          show xEx G0 cdX11_solved (some .int) (xRn G0 MT (d + 2)) Q 1 16 [some (.inr (.inr 0)), some (.inl w)] [] h
          refine E_s 2 (i' := 18) (ls' := [some (.inr (.inr 0)), some (.inl w)]) (sk' := [.inr (.inr 56)]) (h' := h) rfl ?_
          refine E_ci (x := (.invokevirtual 301, 0, [(4, 51)], [0])) (r := (cN (lfN (h 58)) 15)) (h' := h) rfl rfl (Nat.le_of_ble_eq_true rfl) (c_prLeaves d 0 h S T hS3 (hr qs) (tr qs) ⟨rfl, rfl⟩) ?_
          show xEx G0 cdX11_solved (some .int) (xRn G0 MT (d + 2)) Q 1 19 [some (.inr (.inr 0)), some (.inl w)] [.inl (cN (lfN (h 58)) 15)] h
          exact E_ret (x := (.ireturn, 0, [], [])) (v := some (.inl (cN (lfN (h 58)) 15))) rfl (Or.inl rfl) (h3 qs s3_3)
        · by_cases s3_4 : w = 4
          · refine E_sw (x := (.tableswitch 91 0 5 #[39, 47, 55, 63, 71, 81], 32, [(0, 4), (1, 8), (2, 12), (3, 16), (4, 20), (5, 26)], [])) (t := 20) rfl rfl (by rw [s3_4]; decide +kernel) ?_
            show xEx G0 cdX11_solved (some .int) (xRn G0 MT (d + 2)) Q 1 20 [some (.inr (.inr 0)), some (.inl w)] [] h
            refine E_s 4 (i' := 24) (ls' := [some (.inr (.inr 0)), some (.inl w)]) (sk' := [.inl 0, .inr (.inr 57)]) (h' := h) rfl ?_
            refine E_ld (x := (.iaload, 0, [], [])) (ty := .int) (n := 15) rfl rfl rfl (by omega) (by omega) ?_
            show xEx G0 cdX11_solved (some .int) (xRn G0 MT (d + 2)) Q 1 25 [some (.inr (.inr 0)), some (.inl w)] [.inl (h 57 0)] h
            exact E_ret (x := (.ireturn, 0, [], [])) (v := some (.inl (h 57 0))) rfl (Or.inl rfl) (h4 qs s3_4)
          · by_cases s3_5 : w = 5
            · refine E_sw (x := (.tableswitch 91 0 5 #[39, 47, 55, 63, 71, 81], 32, [(0, 4), (1, 8), (2, 12), (3, 16), (4, 20), (5, 26)], [])) (t := 26) rfl rfl (by rw [s3_5]; decide +kernel) ?_
              show xEx G0 cdX11_solved (some .int) (xRn G0 MT (d + 2)) Q 1 26 [some (.inr (.inr 0)), some (.inl w)] [] h
              refine E_s 4 (i' := 30) (ls' := [some (.inr (.inr 0)), some (.inl w)]) (sk' := [.inl 0, .inr (.inr 58)]) (h' := h) rfl ?_
              refine E_ld (x := (.iaload, 0, [], [])) (ty := .int) (n := 15) rfl rfl rfl (by omega) (by omega) ?_
              show xEx G0 cdX11_solved (some .int) (xRn G0 MT (d + 2)) Q 1 31 [some (.inr (.inr 0)), some (.inl w)] [.inl (h 58 0)] h
              exact E_ret (x := (.ireturn, 0, [], [])) (v := some (.inl (h 58 0))) rfl (Or.inl rfl) (h5 qs s3_5)
            · refine E_sw (x := (.tableswitch 91 0 5 #[39, 47, 55, 63, 71, 81], 32, [(0, 4), (1, 8), (2, 12), (3, 16), (4, 20), (5, 26)], [])) (t := 32) rfl rfl (by rw [w32_id hw]; simp only [xsw]; rw [if_neg (by omega)]; rw [if_neg (by omega)]; rw [if_neg (by omega)]; rw [if_neg (by omega)]; rw [if_neg (by omega)]; rw [if_neg (by omega)]; rfl) ?_
              show xEx G0 cdX11_solved (some .int) (xRn G0 MT (d + 2)) Q 1 32 [some (.inr (.inr 0)), some (.inl w)] [] h
              exact E_thr (x := (.new 189, 0, [(2, 0)], [])) rfl rfl rfl (Nat.le_of_ble_eq_true rfl) (hA qs (by omega))
set_option maxHeartbeats 1000000 in
theorem o_comes (d  : Nat) (h S T : xH) (x y z : Int) (hx : xr x) (hy : xr y) (hz : xr z) (hm : 1 ≤ h 1 1 ∧ h 1 1 ≤ 3) (ev0 : EV h S T) (hs : h 56 4 = 0 ∨ h 56 4 = 1) (hr : h 56 4 = 1 → ∀ nd, 0 ≤ nd → nd < 15 → -1 ≤ h 57 nd ∧ h 57 nd < T 0 0 ∧ -1 ≤ h 58 nd ∧ h 58 nd < S 0 0) (tr : h 56 4 = 1 → TRp (h 57) (h 58) S T 3 0) {Q : xO → xH → Prop} (hN : ¬ (h 56 4 = 1) → Q (.inr "java/lang/IllegalStateException") h) (hA : (h 56 4 = 1) → ¬ inOk (h 1 1) x y z → Q (.inr "java/lang/IllegalArgumentException") h) (hO : (h 56 4 = 1) → inOk (h 1 1) x y z → ∀ v, w32 v = VE S (pX x y z) (h 58 (wlk (h 57) (VU S T (pX x y z)) 3 0)) → Q (.inl (some (.inl v))) (xup (xup (xup h 63 0 x) 63 1 y) 63 2 z)) : xRn G0 MT (d + 25) 2 124 [.inr (.inr 0), .inl x, .inl y, .inl z] h Q := by
  refine R_of (M := mX11_comes) rfl (Nat.le_of_ble_eq_true rfl) ?_
  show xEx G0 cdX11_comes (some .int) (xRn G0 MT (d + 24)) Q 2 0 [some (.inr (.inr 0)), some (.inl x), some (.inl y), some (.inl z)] [] h
  refine E_s 1 (i' := 1) (ls' := [some (.inr (.inr 0)), some (.inl x), some (.inl y), some (.inl z)]) (sk' := [.inr (.inr 0)]) (h' := h) rfl ?_
  refine E_cx (x := (.invokevirtual 291, 0, [(9, 147)], [0])) (b1 := 1) (b2 := 1) (v := none) (q := fun h9 => (h 56 4 = 1) ∧ h = h9) rfl rfl (Nat.le_of_ble_eq_true rfl) (fun z => by cases z) (c_refNotSolved (d + 23) h hs (fun z9 => Or.inl ⟨rfl, z9, rfl⟩) (fun z9 => Or.inr ⟨_, rfl, hN z9⟩)) (fun h9 hq9 => ?_)
  obtain ⟨qs, rfl⟩ := hq9
  show xEx G0 cdX11_comes (some .int) (xRn G0 MT (d + 24)) Q 1 2 [some (.inr (.inr 0)), some (.inl x), some (.inl y), some (.inl z)] [] h
  refine E_s 4 (i' := 6) (ls' := [some (.inr (.inr 0)), some (.inl x), some (.inl y), some (.inl z)]) (sk' := [.inl z, .inl y, .inl x, .inr (.inr 0)]) (h' := h) rfl ?_
  refine E_cx (x := (.invokevirtual 96, 3, [(9, 148)], [0])) (b1 := 1) (b2 := 0) (v := none) (q := fun h9 => (inOk (h 1 1) x y z) ∧ h = h9) rfl rfl (Nat.le_of_ble_eq_true rfl) (fun z => by cases z) (c_refNoInputs (d + 22) h x y z hm hx hy hz (fun z9 => Or.inl ⟨rfl, z9, rfl⟩) (fun z9 => Or.inr ⟨_, rfl, hA qs z9⟩)) (fun h9 hq9 => ?_)
  obtain ⟨q2, rfl⟩ := hq9
  show xEx G0 cdX11_comes (some .int) (xRn G0 MT (d + 24)) Q 0 7 [some (.inr (.inr 0)), some (.inl x), some (.inl y), some (.inl z)] [] h
  refine E_s 5 (i' := 12) (ls' := [some (.inr (.inr 0)), some (.inl x), some (.inl y), some (.inl z)]) (sk' := [.inl z, .inl y, .inl x, .inr (.inr 62)]) (h' := h) rfl ?_
  refine E_cv (x := (.invokevirtual 214, 3, [(3, 42)], [0])) (q := fun h9 => h9 = xup (xup (xup h 63 0 x) 63 1 y) 63 2 z) rfl rfl (Nat.le_of_ble_eq_true rfl) (c_put (d + 23) 0 h x y z ⟨rfl, rfl⟩) (fun h9 e9 => ?_)
  subst e9
  show xEx G0 cdX11_comes (some .int) (xRn G0 MT (d + 24)) Q 0 13 [some (.inr (.inr 0)), some (.inl x), some (.inl y), some (.inl z)] [] (xup (xup (xup h 63 0 x) 63 1 y) 63 2 z)
  have ev : EV (xup (xup (xup h 63 0 x) 63 1 y) 63 2 z) S T := EV_po (fun a z9 => by rw [xup_o _ _ _ _ a z9, xup_o _ _ _ _ a z9, xup_o _ _ _ _ a z9]) ev0
  have rx : ∀ i, 0 ≤ i → i ≤ 2 → xr ((xup (xup (xup h 63 0 x) 63 1 y) 63 2 z) 63 i) := po_r hx hy hz
  have fu : ∀ t, 0 ≤ t → t < T 0 0 → VU S T ((xup (xup (xup h 63 0 x) 63 1 y) 63 2 z) 63) t = VU S T (pX x y z) t := fun t z1 z2 => VU_p ev rfl rfl rfl z1 z2
  refine E_s 5 (i' := 18) (ls' := [some (.inr (.inr 0)), some (.inl x), some (.inl y), some (.inl z)]) (sk' := [.inr (.inr 63), .inr (.inr 56)]) (h' := (xup (xup (xup h 63 0 x) 63 1 y) 63 2 z)) rfl ?_
  refine E_cp (x := (.invokevirtual 310, 1, [(4, 53)], [0])) (q := fun r h9 => w32 r = VE S ((xup (xup (xup h 63 0 x) 63 1 y) 63 2 z) 63) (h 58 (wlk (h 57) (VU S T ((xup (xup (xup h 63 0 x) 63 1 y) 63 2 z) 63)) 3 0)) ∧ (xup (xup (xup h 63 0 x) 63 1 y) 63 2 z) = h9) rfl rfl (Nat.le_of_ble_eq_true rfl) (c_prComes d 0 (xup (xup (xup h 63 0 x) 63 1 y) 63 2 z) S T ev rx (hr qs) (tr qs) (fun v hv => ⟨v, rfl, hv, rfl⟩)) (fun r h9 hv => ?_)
  obtain ⟨hv, rfl⟩ := hv
  show xEx G0 cdX11_comes (some .int) (xRn G0 MT (d + 24)) Q 0 19 [some (.inr (.inr 0)), some (.inl x), some (.inl y), some (.inl z)] [.inl r] (xup (xup (xup h 63 0 x) 63 1 y) 63 2 z)
  exact E_ret (x := (.ireturn, 0, [], [])) (v := some (.inl r)) rfl (Or.inl rfl) (hO qs q2 _ (by
    have l9 := wlk_l (f := VU S T (pX x y z)) 3 0 (tr qs)
    rw [hv, wlk_f fu 3 0 (tr qs)]
    exact VE_p ev rfl rfl rfl l9.2.1 l9.2.2))
set_option maxHeartbeats 1000000 in
theorem o_way (d  : Nat) (h S T : xH) (x y z k : Int) (hx : xr x) (hy : xr y) (hz : xr z) (hk : xr k) (hm : 1 ≤ h 1 1 ∧ h 1 1 ≤ 3) (ev0 : EV h S T) (hs : h 56 4 = 0 ∨ h 56 4 = 1) (hr : h 56 4 = 1 → ∀ nd, 0 ≤ nd → nd < 15 → -1 ≤ h 57 nd ∧ h 57 nd < T 0 0 ∧ -1 ≤ h 58 nd ∧ h 58 nd < S 0 0) (tr : h 56 4 = 1 → TRp (h 57) (h 58) S T 3 0) {Q : xO → xH → Prop} (hN : ¬ (h 56 4 = 1) → Q (.inr "java/lang/IllegalStateException") h) (hA : (h 56 4 = 1) → ¬ inOk (h 1 1) x y z → Q (.inr "java/lang/IllegalArgumentException") h) (hO : (h 56 4 = 1) → inOk (h 1 1) x y z → Q (.inl (some (.inl (wak (h 57) (VU S T (pX x y z)) 3 0 k)))) (xup (xup (xup h 63 0 x) 63 1 y) 63 2 z)) : xRn G0 MT (d + 25) 2 132 [.inr (.inr 0), .inl x, .inl y, .inl z, .inl k] h Q := by
  refine R_of (M := mX11_way) rfl (Nat.le_of_ble_eq_true rfl) ?_
  show xEx G0 cdX11_way (some .int) (xRn G0 MT (d + 24)) Q 2 0 [some (.inr (.inr 0)), some (.inl x), some (.inl y), some (.inl z), some (.inl k)] [] h
  refine E_s 1 (i' := 1) (ls' := [some (.inr (.inr 0)), some (.inl x), some (.inl y), some (.inl z), some (.inl k)]) (sk' := [.inr (.inr 0)]) (h' := h) rfl ?_
  refine E_cx (x := (.invokevirtual 291, 0, [(9, 147)], [0])) (b1 := 1) (b2 := 1) (v := none) (q := fun h9 => (h 56 4 = 1) ∧ h = h9) rfl rfl (Nat.le_of_ble_eq_true rfl) (fun z => by cases z) (c_refNotSolved (d + 23) h hs (fun z9 => Or.inl ⟨rfl, z9, rfl⟩) (fun z9 => Or.inr ⟨_, rfl, hN z9⟩)) (fun h9 hq9 => ?_)
  obtain ⟨qs, rfl⟩ := hq9
  show xEx G0 cdX11_way (some .int) (xRn G0 MT (d + 24)) Q 1 2 [some (.inr (.inr 0)), some (.inl x), some (.inl y), some (.inl z), some (.inl k)] [] h
  refine E_s 4 (i' := 6) (ls' := [some (.inr (.inr 0)), some (.inl x), some (.inl y), some (.inl z), some (.inl k)]) (sk' := [.inl z, .inl y, .inl x, .inr (.inr 0)]) (h' := h) rfl ?_
  refine E_cx (x := (.invokevirtual 96, 3, [(9, 148)], [0])) (b1 := 1) (b2 := 0) (v := none) (q := fun h9 => (inOk (h 1 1) x y z) ∧ h = h9) rfl rfl (Nat.le_of_ble_eq_true rfl) (fun z => by cases z) (c_refNoInputs (d + 22) h x y z hm hx hy hz (fun z9 => Or.inl ⟨rfl, z9, rfl⟩) (fun z9 => Or.inr ⟨_, rfl, hA qs z9⟩)) (fun h9 hq9 => ?_)
  obtain ⟨q2, rfl⟩ := hq9
  show xEx G0 cdX11_way (some .int) (xRn G0 MT (d + 24)) Q 0 7 [some (.inr (.inr 0)), some (.inl x), some (.inl y), some (.inl z), some (.inl k)] [] h
  refine E_s 5 (i' := 12) (ls' := [some (.inr (.inr 0)), some (.inl x), some (.inl y), some (.inl z), some (.inl k)]) (sk' := [.inl z, .inl y, .inl x, .inr (.inr 62)]) (h' := h) rfl ?_
  refine E_cv (x := (.invokevirtual 214, 3, [(3, 42)], [0])) (q := fun h9 => h9 = xup (xup (xup h 63 0 x) 63 1 y) 63 2 z) rfl rfl (Nat.le_of_ble_eq_true rfl) (c_put (d + 23) 0 h x y z ⟨rfl, rfl⟩) (fun h9 e9 => ?_)
  subst e9
  show xEx G0 cdX11_way (some .int) (xRn G0 MT (d + 24)) Q 0 13 [some (.inr (.inr 0)), some (.inl x), some (.inl y), some (.inl z), some (.inl k)] [] (xup (xup (xup h 63 0 x) 63 1 y) 63 2 z)
  have ev : EV (xup (xup (xup h 63 0 x) 63 1 y) 63 2 z) S T := EV_po (fun a z9 => by rw [xup_o _ _ _ _ a z9, xup_o _ _ _ _ a z9, xup_o _ _ _ _ a z9]) ev0
  have rx : ∀ i, 0 ≤ i → i ≤ 2 → xr ((xup (xup (xup h 63 0 x) 63 1 y) 63 2 z) 63 i) := po_r hx hy hz
  have fu : ∀ t, 0 ≤ t → t < T 0 0 → VU S T ((xup (xup (xup h 63 0 x) 63 1 y) 63 2 z) 63) t = VU S T (pX x y z) t := fun t z1 z2 => VU_p ev rfl rfl rfl z1 z2
  refine E_s 6 (i' := 19) (ls' := [some (.inr (.inr 0)), some (.inl x), some (.inl y), some (.inl z), some (.inl k)]) (sk' := [.inl k, .inr (.inr 63), .inr (.inr 56)]) (h' := (xup (xup (xup h 63 0 x) 63 1 y) 63 2 z)) rfl ?_
  refine E_ci (x := (.invokevirtual 334, 2, [(4, 55)], [0])) (r := (wak (h 57) (VU S T ((xup (xup (xup h 63 0 x) 63 1 y) 63 2 z) 63)) 3 0 k)) (h' := (xup (xup (xup h 63 0 x) 63 1 y) 63 2 z)) rfl rfl (Nat.le_of_ble_eq_true rfl) (c_prWay d 0 (xup (xup (xup h 63 0 x) 63 1 y) 63 2 z) S T k hk ev rx (hr qs) (tr qs) ⟨rfl, rfl⟩) ?_
  show xEx G0 cdX11_way (some .int) (xRn G0 MT (d + 24)) Q 0 20 [some (.inr (.inr 0)), some (.inl x), some (.inl y), some (.inl z), some (.inl k)] [.inl (wak (h 57) (VU S T ((xup (xup (xup h 63 0 x) 63 1 y) 63 2 z) 63)) 3 0 k)] (xup (xup (xup h 63 0 x) 63 1 y) 63 2 z)
  exact E_ret (x := (.ireturn, 0, [], [])) (v := some (.inl (wak (h 57) (VU S T ((xup (xup (xup h 63 0 x) 63 1 y) 63 2 z) 63)) 3 0 k))) rfl (Or.inl rfl) (by
    have r9 := hO qs q2
    rw [← wak_f fu 3 0 k (tr qs)] at r9
    exact r9)
set_option maxHeartbeats 1000000 in
theorem o_leaf (d  : Nat) (h S T : xH) (e : Int) (he : xr e) (hn : 0 ≤ h 1 2 ∧ h 1 2 ≤ 12) (h4 : T 0 0 ≤ 150) (hs : h 56 4 = 0 ∨ h 56 4 = 1) (hr : h 56 4 = 1 → ∀ nd, 0 ≤ nd → nd < 15 → -1 ≤ h 57 nd ∧ h 57 nd < T 0 0 ∧ -1 ≤ h 58 nd ∧ h 58 nd < S 0 0) (tr : h 56 4 = 1 → TRp (h 57) (h 58) S T 3 0) {Q : xO → xH → Prop} (hN : ¬ (h 56 4 = 1) → Q (.inr "java/lang/IllegalStateException") h) (hA : (h 56 4 = 1) → ¬ (0 ≤ e ∧ e < h 1 2) → Q (.inr "java/util/NoSuchElementException") h) (hO : (h 56 4 = 1) → (0 ≤ e ∧ e < h 1 2) → Q (.inl (some (.inl (h 58 (wlk (h 57) (fun t => xand (xshr (h 39 t) e) 1) 3 0))))) h) : xRn G0 MT (d + 3) 2 126 [.inr (.inr 0), .inl e] h Q := by
  refine R_of (M := mX11_leaf) rfl (Nat.le_of_ble_eq_true rfl) ?_
  show xEx G0 cdX11_leaf (some .int) (xRn G0 MT (d + 2)) Q 2 0 [some (.inr (.inr 0)), some (.inl e)] [] h
  refine E_s 1 (i' := 1) (ls' := [some (.inr (.inr 0)), some (.inl e)]) (sk' := [.inr (.inr 0)]) (h' := h) rfl ?_
  refine E_cx (x := (.invokevirtual 291, 0, [(9, 147)], [0])) (b1 := 1) (b2 := 1) (v := none) (q := fun h9 => (h 56 4 = 1) ∧ h = h9) rfl rfl (Nat.le_of_ble_eq_true rfl) (fun z => by cases z) (c_refNotSolved (d + 1) h hs (fun z9 => Or.inl ⟨rfl, z9, rfl⟩) (fun z9 => Or.inr ⟨_, rfl, hN z9⟩)) (fun h9 hq9 => ?_)
  obtain ⟨qs, rfl⟩ := hq9
  show xEx G0 cdX11_leaf (some .int) (xRn G0 MT (d + 2)) Q 1 2 [some (.inr (.inr 0)), some (.inl e)] [] h
  refine E_s 2 (i' := 4) (ls' := [some (.inr (.inr 0)), some (.inl e)]) (sk' := [.inl e, .inr (.inr 0)]) (h' := h) rfl ?_
  refine E_cx (x := (.invokevirtual 115, 1, [(9, 145)], [0])) (b1 := 1) (b2 := 0) (v := none) (q := fun h9 => (0 ≤ e ∧ e < h 1 2) ∧ h = h9) rfl rfl (Nat.le_of_ble_eq_true rfl) (fun z => by cases z) (c_refNoExample (d + 1) h e he hn (fun z9 => Or.inl ⟨rfl, z9, rfl⟩) (fun z9 => Or.inr ⟨_, rfl, hA qs z9⟩)) (fun h9 hq9 => ?_)
  obtain ⟨q2, rfl⟩ := hq9
  show xEx G0 cdX11_leaf (some .int) (xRn G0 MT (d + 2)) Q 0 5 [some (.inr (.inr 0)), some (.inl e)] [] h
  refine E_s 3 (i' := 8) (ls' := [some (.inr (.inr 0)), some (.inl e)]) (sk' := [.inl e, .inr (.inr 56)]) (h' := h) rfl ?_
  refine E_ci (x := (.invokevirtual 316, 1, [(4, 54)], [0])) (r := (h 58 (wlk (h 57) (fun t => xand (xshr (h 39 t) e) 1) 3 0))) (h' := h) rfl rfl (Nat.le_of_ble_eq_true rfl) (c_prLeaf d 0 h S T e h4 (hr qs) (tr qs) ⟨rfl, rfl⟩) ?_
  show xEx G0 cdX11_leaf (some .int) (xRn G0 MT (d + 2)) Q 0 9 [some (.inr (.inr 0)), some (.inl e)] [.inl (h 58 (wlk (h 57) (fun t => xand (xshr (h 39 t) e) 1) 3 0))] h
  exact E_ret (x := (.ireturn, 0, [], [])) (v := some (.inl (h 58 (wlk (h 57) (fun t => xand (xshr (h 39 t) e) 1) 3 0)))) rfl (Or.inl rfl) (hO qs q2)
set_option maxHeartbeats 1000000 in
theorem o_solvedUses (d  : Nat) (h S T : xH) (p n0 : Int) (wt : Int → Int) (hp : xr p) (hR : RC h S) (hRT : RCT h T) (hF : FW n0 wt 9 S) (hT : FWT S 7 T) (h3 : S 0 0 ≤ 300) (h4 : T 0 0 ≤ 150) (hs : h 56 4 = 0 ∨ h 56 4 = 1) (hr : h 56 4 = 1 → ∀ nd, 0 ≤ nd → nd < 15 → -1 ≤ h 57 nd ∧ h 57 nd < T 0 0 ∧ -1 ≤ h 58 nd ∧ h 58 nd < S 0 0) (tr : h 56 4 = 1 → TRp (h 57) (h 58) S T 3 0) {Q : xO → xH → Prop} (hN : ¬ (h 56 4 = 1) → Q (.inr "java/lang/IllegalStateException") h) (hA : (h 56 4 = 1) → ¬ (0 ≤ p ∧ p ≤ 9) → Q (.inr "java/lang/IllegalArgumentException") h) (hO : (h 56 4 = 1) → (0 ≤ p ∧ p ≤ 9) → Q (.inl (some (.inl (smN (psN (h 57) (h 58) S T p) 15)))) h) : xRn G0 MT (d + 3) 2 131 [.inr (.inr 0), .inl p] h Q := by
  refine R_of (M := mX11_solvedUses) rfl (Nat.le_of_ble_eq_true rfl) ?_
  show xEx G0 cdX11_solvedUses (some .int) (xRn G0 MT (d + 2)) Q 2 0 [some (.inr (.inr 0)), some (.inl p)] [] h
  refine E_s 1 (i' := 1) (ls' := [some (.inr (.inr 0)), some (.inl p)]) (sk' := [.inr (.inr 0)]) (h' := h) rfl ?_
  refine E_cx (x := (.invokevirtual 291, 0, [(9, 147)], [0])) (b1 := 1) (b2 := 1) (v := none) (q := fun h9 => (h 56 4 = 1) ∧ h = h9) rfl rfl (Nat.le_of_ble_eq_true rfl) (fun z => by cases z) (c_refNotSolved (d + 1) h hs (fun z9 => Or.inl ⟨rfl, z9, rfl⟩) (fun z9 => Or.inr ⟨_, rfl, hN z9⟩)) (fun h9 hq9 => ?_)
  obtain ⟨qs, rfl⟩ := hq9
  show xEx G0 cdX11_solvedUses (some .int) (xRn G0 MT (d + 2)) Q 1 2 [some (.inr (.inr 0)), some (.inl p)] [] h
  refine E_s 1 (i' := 3) (ls' := [some (.inr (.inr 0)), some (.inl p)]) (sk' := [.inl p]) (h' := h) rfl ?_
  refine E_cx (x := (.invokestatic 122, 1, [(0, 150)], [])) (b1 := 1) (b2 := 0) (v := none) (q := fun h9 => (0 ≤ p ∧ p ≤ 9) ∧ h = h9) rfl rfl (Nat.le_of_ble_eq_true rfl) (fun z => by cases z) (c_refNoPart (d + 1) h p hp (fun z9 => Or.inl ⟨rfl, z9, rfl⟩) (fun z9 => Or.inr ⟨_, rfl, hA qs z9⟩)) (fun h9 hq9 => ?_)
  obtain ⟨q2, rfl⟩ := hq9
  show xEx G0 cdX11_solvedUses (some .int) (xRn G0 MT (d + 2)) Q 0 4 [some (.inr (.inr 0)), some (.inl p)] [] h
  refine E_s 3 (i' := 7) (ls' := [some (.inr (.inr 0)), some (.inl p)]) (sk' := [.inl p, .inr (.inr 56)]) (h' := h) rfl ?_
  refine E_ci (x := (.invokevirtual 332, 1, [(4, 56)], [0])) (r := (smN (psN (h 57) (h 58) S T p) 15)) (h' := h) rfl rfl (Nat.le_of_ble_eq_true rfl) (c_prParts d 0 h S T p n0 wt q2 hR hRT hF hT h3 h4 (hr qs) (tr qs) ⟨rfl, rfl⟩) ?_
  show xEx G0 cdX11_solvedUses (some .int) (xRn G0 MT (d + 2)) Q 0 8 [some (.inr (.inr 0)), some (.inl p)] [.inl (smN (psN (h 57) (h 58) S T p) 15)] h
  exact E_ret (x := (.ireturn, 0, [], [])) (v := some (.inl (smN (psN (h 57) (h 58) S T p) 15))) rfl (Or.inl rfl) (hO qs q2)
def daE (as le : Int → Int) (S T : xH) (m k : Int) : Int → Prop := fun q => ¬ VE S (ptX m q) (le (wlk as (VU S T (ptX m q)) 3 0)) = VE S (ptX m q) k
set_option maxHeartbeats 1000000 in
theorem o_apart (d  : Nat) (h S T : xH) (k i : Int) (hk : xr k) (hi : xr i) (hm : 1 ≤ h 1 1 ∧ h 1 1 ≤ 3) (ev0 : EV h S T) (hs : h 56 4 = 0 ∨ h 56 4 = 1) (hr : h 56 4 = 1 → ∀ nd, 0 ≤ nd → nd < 15 → -1 ≤ h 57 nd ∧ h 57 nd < T 0 0 ∧ -1 ≤ h 58 nd ∧ h 58 nd < S 0 0) (tr : h 56 4 = 1 → TRp (h 57) (h 58) S T 3 0) (hK0 : 0 ≤ h 9 9 ∧ h 9 9 ≤ 300) {Q : xO → xH → Prop} (hN : ¬ (h 56 4 = 1) → Q (.inr "java/lang/IllegalStateException") h) (hA : (h 56 4 = 1) → ¬ ((0 ≤ k ∧ k < h 9 9) ∧ (0 ≤ i ∧ i ≤ 2)) → Q (.inr "java/util/NoSuchElementException") h) (hF : (h 56 4 = 1) → ((0 ≤ k ∧ k < h 9 9) ∧ (0 ≤ i ∧ i ≤ 2)) → ∀ p, 0 ≤ p → p < ptN (h 1 1) → (daE (h 57) (h 58) S T (h 1 1) k) p → (∀ q, 0 ≤ q → q < p → ¬ (daE (h 57) (h 58) S T (h 1 1) k) q) → ∀ h', (∀ a, a ≠ 63 → h' a = h a) → Q (.inl (some (.inl (ptX (h 1 1) p i)))) h') (hG : (h 56 4 = 1) → ((0 ≤ k ∧ k < h 9 9) ∧ (0 ≤ i ∧ i ≤ 2)) → (∀ q, 0 ≤ q → q < ptN (h 1 1) → ¬ (daE (h 57) (h 58) S T (h 1 1) k) q) → ∀ h', (∀ a, a ≠ 63 → h' a = h a) → Q (.inl (some (.inl (-100)))) h') : xRn G0 MT (d + 25) 3 127 [.inr (.inr 0), .inl k, .inl i] h Q := by
  refine R_of (M := mX11_apart) rfl (Nat.le_of_ble_eq_true rfl) ?_
  show xEx G0 cdX11_apart (some .int) (xRn G0 MT (d + 24)) Q 3 0 [some (.inr (.inr 0)), some (.inl k), some (.inl i), none, none] [] h
  refine E_s 1 (i' := 1) (ls' := [some (.inr (.inr 0)), some (.inl k), some (.inl i), none, none]) (sk' := [.inr (.inr 0)]) (h' := h) rfl ?_
  refine E_cx (x := (.invokevirtual 291, 0, [(9, 147)], [0])) (b1 := 1) (b2 := 2) (v := none) (q := fun h9 => (h 56 4 = 1) ∧ h = h9) rfl rfl (Nat.le_of_ble_eq_true rfl) (fun z => by cases z) (c_refNotSolved (d + 23) h hs (fun z9 => Or.inl ⟨rfl, z9, rfl⟩) (fun z9 => Or.inr ⟨_, rfl, hN z9⟩)) (fun h9 hq9 => ?_)
  obtain ⟨qs, rfl⟩ := hq9
  show xEx G0 cdX11_apart (some .int) (xRn G0 MT (d + 24)) Q 2 2 [some (.inr (.inr 0)), some (.inl k), some (.inl i), none, none] [] h
  refine E_s 3 (i' := 5) (ls' := [some (.inr (.inr 0)), some (.inl k), some (.inl i), none, none]) (sk' := [.inl k, .inl 0, .inr (.inr 0)]) (h' := h) rfl ?_
  refine E_cx (x := (.invokevirtual 244, 2, [(9, 144)], [0])) (b1 := 1) (b2 := 1) (v := none) (q := fun h9 => (0 ≤ k ∧ k < h 9 9) ∧ h = h9) rfl rfl (Nat.le_of_ble_eq_true rfl) (fun z => by cases z) (c_refNotKept0 (d + 22) h k hk hK0 (fun z9 => Or.inl ⟨rfl, z9, rfl⟩) (fun z9 => Or.inr ⟨_, rfl, hA qs (fun y => z9 y.1)⟩)) (fun h9 hq9 => ?_)
  obtain ⟨qk, rfl⟩ := hq9
  show xEx G0 cdX11_apart (some .int) (xRn G0 MT (d + 24)) Q 1 6 [some (.inr (.inr 0)), some (.inl k), some (.inl i), none, none] [] h
  refine E_s 1 (i' := 7) (ls' := [some (.inr (.inr 0)), some (.inl k), some (.inl i), none, none]) (sk' := [.inl i]) (h' := h) rfl ?_
  refine E_cx (x := (.invokestatic 270, 1, [(0, 149)], [])) (b1 := 1) (b2 := 0) (v := none) (q := fun h9 => (0 ≤ i ∧ i ≤ 2) ∧ h = h9) rfl rfl (Nat.le_of_ble_eq_true rfl) (fun z => by cases z) (c_refNoInput (d + 23) h i hi (fun z9 => Or.inl ⟨rfl, z9, rfl⟩) (fun z9 => Or.inr ⟨_, rfl, hA qs (fun y => z9 y.2)⟩)) (fun h9 hq9 => ?_)
  obtain ⟨qi, rfl⟩ := hq9
  show xEx G0 cdX11_apart (some .int) (xRn G0 MT (d + 24)) Q 0 8 [some (.inr (.inr 0)), some (.inl k), some (.inl i), none, none] [] h
  have qk2 : 0 ≤ k ∧ k < S 0 0 := by rw [ev0.1.1] at qk; exact qk
  refine E_s 5 (i' := 13) (ls' := [some (.inr (.inr 0)), some (.inl k), some (.inl i), none, none]) (sk' := [.inl (h 1 1), .inr (.inr 62)]) (h' := h) rfl ?_
  refine E_cp (x := (.invokevirtual 273, 1, [(3, 43)], [0])) (q := fun r h9 => r = ptN (h 1 1) ∧ (∀ a, a ≠ 63 → h9 a = h a) ∧ PTS h9 (h 1 1) 0) rfl rfl (Nat.le_of_ble_eq_true rfl) (c_start (d + 23) 0 h (h 1 1) hm (fun h9 z1 z2 => ⟨_, rfl, rfl, z1, z2⟩)) (fun rN h1 hq => ?_)
  obtain ⟨hrN, f1, p1⟩ := hq
  have hN9 := @ptN_r (h 1 1)
  show xEx G0 cdX11_apart (some .int) (xRn G0 MT (d + 24)) Q 0 14 [some (.inr (.inr 0)), some (.inl k), some (.inl i), none, none] [.inl rN] h1
  subst hrN
  refine E_s 3 (i' := 17) (ls' := [some (.inr (.inr 0)), some (.inl k), some (.inl i), some (.inl (ptN (h 1 1))), some (.inl 0)]) (sk' := []) (h' := h1) rfl ?_
  have key17 : ∀ (n : Nat) (hh : xH) (p : Int), (0 ≤ p) → (p ≤ ptN (h 1 1)) → (∀ a, a ≠ 63 → hh a = h a) → (p < ptN (h 1 1) → PTS hh (h 1 1) p) → (∀ q, 0 ≤ q → q < p → ¬ (daE (h 57) (h 58) S T (h 1 1) k) q) → ((ptN (h 1 1) - p).toNat) < n → xEx G0 cdX11_apart (some .int) (xRn G0 MT (d + 24)) Q 0 17 [some (.inr (.inr 0)), some (.inl k), some (.inl i), some (.inl (ptN (h 1 1))), some (.inl p)] [] hh := by
    intro n
    induction n with
    | zero => intro hh p _ _ _ _ _ hm; exact absurd hm (Nat.not_lt_zero _)
    | succ n ih17 =>
      intro hh p hp0 hp9 hfr hpt hno hm17
      have e1 : hh 1 = h 1 := hfr _ (by decide)
      have ev : EV hh S T := EV_po hfr ev0
      have p57 : hh 57 = h 57 := hfr _ (by decide)
      have p58 : hh 58 = h 58 := hfr _ (by decide)
      have tr9 : TRp (hh 57) (hh 58) S T 3 0 := by rw [p57, p58]; exact tr qs
      have hr9 : ∀ nd, 0 ≤ nd → nd < 15 → -1 ≤ hh 57 nd ∧ hh 57 nd < T 0 0 ∧ -1 ≤ hh 58 nd ∧ hh 58 nd < S 0 0 := by rw [p57, p58]; exact hr qs
      refine E_s 2 (i' := 19) (ls' := [some (.inr (.inr 0)), some (.inl k), some (.inl i), some (.inl (ptN (h 1 1))), some (.inl p)]) (sk' := [.inl (ptN (h 1 1)), .inl p]) (h' := hh) rfl ?_
      refine E_b (x := (.if_icmp .ge 65, 48, [], [])) rfl rfl (fun c19 => ?_) (fun c19 => ?_)
      · rw [c_ge (by first | assumption | (refine ⟨?_, ?_⟩ <;> omega) | (simp only [xr] at *; omega)) (by first | assumption | (refine ⟨?_, ?_⟩ <;> omega) | (simp only [xr] at *; omega))] at c19
        simp only [decide_eq_true_eq, decide_eq_false_iff_not, Decidable.not_not] at c19
        show xEx G0 cdX11_apart (some .int) (xRn G0 MT (d + 24)) Q 0 48 [some (.inr (.inr 0)), some (.inl k), some (.inl i), some (.inl (ptN (h 1 1))), some (.inl p)] [] hh
        refine E_s 1 (i' := 49) (ls' := [some (.inr (.inr 0)), some (.inl k), some (.inl i), some (.inl (ptN (h 1 1))), some (.inl p)]) (sk' := [.inl (-100)]) (h' := hh) rfl ?_
        exact E_ret (x := (.ireturn, 0, [], [])) (v := some (.inl (-100))) rfl (Or.inl rfl) (hG qs ⟨qk, qi⟩ (fun q z1 z2 => hno q z1 (by omega)) _ hfr)
      · rw [c_ge (by first | assumption | (refine ⟨?_, ?_⟩ <;> omega) | (simp only [xr] at *; omega)) (by first | assumption | (refine ⟨?_, ?_⟩ <;> omega) | (simp only [xr] at *; omega))] at c19
        simp only [decide_eq_true_eq, decide_eq_false_iff_not, Decidable.not_not] at c19
        show xEx G0 cdX11_apart (some .int) (xRn G0 MT (d + 24)) Q 0 20 [some (.inr (.inr 0)), some (.inl k), some (.inl i), some (.inl (ptN (h 1 1))), some (.inl p)] [] hh
        have pp := hpt (by omega)
        have pr := pt_r hm hp0 (by omega)
        have rx : ∀ i, 0 ≤ i → i ≤ 2 → xr (hh 63 i) := po_r (by rw [pp.1]; exact ⟨by omega, by omega⟩) (by rw [pp.2.1]; exact ⟨by omega, by omega⟩) (by rw [pp.2.2]; exact ⟨by omega, by omega⟩)
        refine E_s 5 (i' := 25) (ls' := [some (.inr (.inr 0)), some (.inl k), some (.inl i), some (.inl (ptN (h 1 1))), some (.inl p)]) (sk' := [.inr (.inr 63), .inr (.inr 56)]) (h' := hh) rfl ?_
        refine E_cp (x := (.invokevirtual 310, 1, [(4, 53)], [0])) (q := fun r h9 => w32 r = VE S (hh 63) (hh 58 (wlk (hh 57) (VU S T (hh 63)) 3 0)) ∧ hh = h9) rfl rfl (Nat.le_of_ble_eq_true rfl) (c_prComes d 0 hh S T ev rx hr9 tr9 (fun v hv => ⟨v, rfl, hv, rfl⟩)) (fun ra h9 hva => ?_)
        obtain ⟨hva, rfl⟩ := hva
        show xEx G0 cdX11_apart (some .int) (xRn G0 MT (d + 24)) Q 0 26 [some (.inr (.inr 0)), some (.inl k), some (.inl i), some (.inl (ptN (h 1 1))), some (.inl p)] [.inl ra] hh
        have fu : ∀ t, 0 ≤ t → t < T 0 0 → VU S T (hh 63) t = VU S T (ptX (h 1 1) p) t := fun t z1 z2 => VU_p ev pp.1 pp.2.1 pp.2.2 z1 z2
        rw [wlk_f fu 3 0 tr9, p57, p58] at hva
        have l9 := wlk_l (f := VU S T (ptX (h 1 1) p)) 3 0 (tr qs)
        have ua : xr (VE S (ptX (h 1 1) p) (h 58 (wlk (h 57) (VU S T (ptX (h 1 1) p)) 3 0))) := VE_r ev.2.1 (pX_r ⟨by omega, by omega⟩ ⟨by omega, by omega⟩ ⟨by omega, by omega⟩) 300 _ l9.2.1 l9.2.2
        refine E_ti (y := (VE S (ptX (h 1 1) p) (h 58 (wlk (h 57) (VU S T (ptX (h 1 1) p)) 3 0)))) (by rw [hva, VE_p ev pp.1 pp.2.1 pp.2.2 l9.2.1 l9.2.2, w32_id ua]) ?_
        refine E_s 6 (i' := 32) (ls' := [some (.inr (.inr 0)), some (.inl k), some (.inl i), some (.inl (ptN (h 1 1))), some (.inl p)]) (sk' := [.inr (.inr 63), .inl k, .inr (.inr 9), .inl (VE S (ptX (h 1 1) p) (h 58 (wlk (h 57) (VU S T (ptX (h 1 1) p)) 3 0)))]) (h' := hh) rfl ?_
        refine E_cp (x := (.invokevirtual 319, 2, [(1, 24)], [1])) (q := fun r h9 => w32 r = VE S (hh 63) k ∧ hh = h9) rfl rfl (Nat.le_of_ble_eq_true rfl) (c_comesTo (d + 12) 0 hh S k ev.1 ev.2.1 ev.2.2.1.2 qk2 rx (fun v hv => ⟨v, rfl, hv, rfl⟩)) (fun rb h9 hvb => ?_)
        obtain ⟨hvb, rfl⟩ := hvb
        show xEx G0 cdX11_apart (some .int) (xRn G0 MT (d + 24)) Q 0 33 [some (.inr (.inr 0)), some (.inl k), some (.inl i), some (.inl (ptN (h 1 1))), some (.inl p)] [.inl rb, .inl (VE S (ptX (h 1 1) p) (h 58 (wlk (h 57) (VU S T (ptX (h 1 1) p)) 3 0)))] hh
        have ub : xr (VE S (ptX (h 1 1) p) k) := VE_r ev.2.1 (pX_r ⟨by omega, by omega⟩ ⟨by omega, by omega⟩ ⟨by omega, by omega⟩) 300 _ qk2.1 qk2.2
        refine E_ti (y := (VE S (ptX (h 1 1) p) k)) (by rw [hvb, VE_p ev pp.1 pp.2.1 pp.2.2 qk2.1 qk2.2, w32_id ub]) ?_
        refine E_b (x := (.if_icmp .eq 13, 40, [], [])) rfl rfl (fun c33 => ?_) (fun c33 => ?_)
        · rw [c_eq (by first | assumption | (refine ⟨?_, ?_⟩ <;> omega) | (simp only [xr] at *; omega)) (by first | assumption | (refine ⟨?_, ?_⟩ <;> omega) | (simp only [xr] at *; omega))] at c33
          simp only [decide_eq_true_eq, decide_eq_false_iff_not, Decidable.not_not] at c33
          show xEx G0 cdX11_apart (some .int) (xRn G0 MT (d + 24)) Q 0 40 [some (.inr (.inr 0)), some (.inl k), some (.inl i), some (.inl (ptN (h 1 1))), some (.inl p)] [] hh
          refine E_s 5 (i' := 45) (ls' := [some (.inr (.inr 0)), some (.inl k), some (.inl i), some (.inl (ptN (h 1 1))), some (.inl p)]) (sk' := [.inl (hh 1 1), .inr (.inr 62)]) (h' := hh) rfl ?_
          refine E_cv (x := (.invokevirtual 279, 1, [(3, 44)], [0])) (q := fun h9 => (∀ a, a ≠ 63 → h9 a = hh a) ∧ (p + 1 < ptN (hh 1 1) → PTS h9 (hh 1 1) (p + 1))) rfl rfl (Nat.le_of_ble_eq_true rfl) (c_step (d + 23) 0 hh (hh 1 1) p (by rw [e1]; exact hm) hp0 (by rw [e1]; omega) (by rw [e1]; exact pp) (fun h9 z1 z2 => ⟨rfl, z1, z2⟩)) (fun h2 hq2 => ?_)
          obtain ⟨f2, p2⟩ := hq2
          rw [e1] at p2
          show xEx G0 cdX11_apart (some .int) (xRn G0 MT (d + 24)) Q 0 46 [some (.inr (.inr 0)), some (.inl k), some (.inl i), some (.inl (ptN (h 1 1))), some (.inl p)] [] h2
          refine E_s 2 (i' := 17) (ls' := [some (.inr (.inr 0)), some (.inl k), some (.inl i), some (.inl (ptN (h 1 1))), some (.inl (p + 1))]) (sk' := []) (h' := h2) rfl ?_
          exact ih17 _ (p + 1) (by omega) (by omega) (fun a z => (f2 a z).trans (hfr a z)) p2 (fun q z1 z2 => by
            rcases Int.lt_or_eq_of_le (show q ≤ p by omega) with z9 | z9
            · exact hno q z1 z9
            · subst z9; exact fun y => y c33) (by omega)
        · rw [c_eq (by first | assumption | (refine ⟨?_, ?_⟩ <;> omega) | (simp only [xr] at *; omega)) (by first | assumption | (refine ⟨?_, ?_⟩ <;> omega) | (simp only [xr] at *; omega))] at c33
          simp only [decide_eq_true_eq, decide_eq_false_iff_not, Decidable.not_not] at c33
          show xEx G0 cdX11_apart (some .int) (xRn G0 MT (d + 24)) Q 0 34 [some (.inr (.inr 0)), some (.inl k), some (.inl i), some (.inl (ptN (h 1 1))), some (.inl p)] [] hh
          refine E_s 4 (i' := 38) (ls' := [some (.inr (.inr 0)), some (.inl k), some (.inl i), some (.inl (ptN (h 1 1))), some (.inl p)]) (sk' := [.inl i, .inr (.inr 63)]) (h' := hh) rfl ?_
          refine E_ld (x := (.iaload, 0, [], [])) (ty := .int) (n := 3) rfl rfl rfl (by omega) (by omega) ?_
          show xEx G0 cdX11_apart (some .int) (xRn G0 MT (d + 24)) Q 0 39 [some (.inr (.inr 0)), some (.inl k), some (.inl i), some (.inl (ptN (h 1 1))), some (.inl p)] [.inl (hh 63 i)] hh
          exact E_ret (x := (.ireturn, 0, [], [])) (v := some (.inl (hh 63 i))) rfl (Or.inl rfl) (by
            have r9 := hF qs ⟨qk, qi⟩ p hp0 (by omega) c33 hno _ hfr
            rw [← PTS_i pp qi.1 qi.2] at r9
            exact r9)
  exact key17 _ h1 0 (by omega) (by omega) f1 (fun _ => p1) (fun q z1 z2 => by omega) (Nat.lt_succ_self _)
