def SAM (S T : xH) (as le : Int → Int) (ifs st : Int) : Prop := szf S T (S 0 0) (T 0 0) (-1) ifs.toNat st < 1000000 ∧ TV S T (S 0 0) (T 0 0) (-1) as le 3 ifs.toNat 0 st
theorem ir_oth {n e : Int} {m : Nat} (h0 : 0 ≤ n) (h1 : n ≤ 12) (hm : m = n.toNat) (he : 0 ≤ e ∧ e < n) : ir m (xand (xshl 1 n - 1) (xxor (xshl 1 e) (-1))) := by
  have i1 := ir_all h0 h1 hm
  have i2 : ir m (xshl 1 e) := by
    rw [n_shl he.1 (by omega)]
    exact ir_2 (by omega)
  exact xn_r (by omega) i1 i2
/-- with one EXAMPLE alone there are no others -/
theorem oth_0 {n e : Int} (h0 : 0 ≤ n) (h1 : n ≤ 12) (he : 0 ≤ e ∧ e < n) : xand (xshl 1 n - 1) (xxor (xshl 1 e) (-1)) = 0 ↔ n = 1 := by
  have key : ∀ n : Nat, n ≤ 12 → ∀ e : Nat, e < n → (xand (xshl 1 (n : Int) - 1) (xxor (xshl 1 (e : Int)) (-1)) = 0 ↔ n = 1) := by decide +kernel
  have := key n.toNat (by omega) e.toNat (by omega)
  rw [Int.toNat_of_nonneg h0, Int.toNat_of_nonneg he.1] at this
  rw [this]
  omega
def PRG (h h' : xH) : Prop := ∀ a, (a < 44 ∨ a = 46 ∨ a = 47 ∨ (55 < a ∧ a ≠ 60 ∧ a ≠ 61)) → h' a = h a
theorem Inv_so2 {h h1 S T : xH} (c : CI h S T) (r : RI h h S T) (e : PRG h h1) (is1 : IS h1 S T) : Inv h1 := by
  have hx : PRF h (fun a => if a = 60 ∨ a = 61 then h a else h1 a) := fun a z => by
    show (if a = 60 ∨ a = 61 then h a else h1 a) = h a
    split
    · rfl
    · exact e a (by omega)
  have fm : FM (fun a => if a = 60 ∨ a = 61 then h a else h1 a) h1 := FM_c (fun a => a = 60 ∨ a = 61) (fun a z => by unfold scr; omega) (fun a z => by
    show h1 a = if a = 60 ∨ a = 61 then h a else h1 a
    rw [if_neg z])
  refine Inv_fr fm (Inv_so c r hx ?_)
  refine IS_fr (STB.rf _) (STB.rf _) (fun a z1 z2 => ?_) ?_ is1
  · show (if a = 60 ∨ a = 61 then h a else h1 a) = h1 a
    rw [if_neg (by omega)]
  · show (if (1 : Nat) = 60 ∨ (1 : Nat) = 61 then h 1 else h1 1) = h1 1
    rw [if_neg (by decide)]
set_option maxHeartbeats 1000000 in
theorem c_isSame (d b : Nat) (h : xH) (hr : ∀ j, 0 ≤ j → j < 15 → xr (h 57 j) ∧ xr (h 58 j) ∧ xr (h 60 j) ∧ xr (h 61 j)) {Q : xO → xH → Prop} (h1 : (∀ j, 0 ≤ j → j < 15 → h 60 j = h 57 j ∧ h 61 j = h 58 j) → Q (.inl (some (.inl (1)))) h) (h0 : ¬ (∀ j, 0 ≤ j → j < 15 → h 60 j = h 57 j ∧ h 61 j = h 58 j) → Q (.inl (some (.inl (0)))) h) : xRn G0 MT (d + 1) b 48 [.inr (.inr 56), .inr (.inr 59)] h Q := by
  refine R_of (M := mX6_isSameAs) rfl (Nat.le_of_ble_eq_true rfl) ?_
  show xEx G0 cdX6_isSameAs (some .boolean) (xRn G0 MT d) Q b 0 [some (.inr (.inr 56)), some (.inr (.inr 59)), none] [] h
  refine E_s 2 (i' := 2) (ls' := [some (.inr (.inr 56)), some (.inr (.inr 59)), some (.inl 0)]) (sk' := []) (h' := h) rfl ?_
  have key2 : ∀ (n : Nat) (q : Int), (0 ≤ q) → (q ≤ 15) → (∀ j, 0 ≤ j → j < q → h 60 j = h 57 j ∧ h 61 j = h 58 j) → ((15 - q).toNat) < n → xEx G0 cdX6_isSameAs (some .boolean) (xRn G0 MT d) Q b 2 [some (.inr (.inr 56)), some (.inr (.inr 59)), some (.inl q)] [] h := by
    intro n
    induction n with
    | zero => intro q _ _ _ hm; exact absurd hm (Nat.not_lt_zero _)
    | succ n ih2 =>
      intro q hq0 hq9 hqe hm2
      refine E_s 2 (i' := 4) (ls' := [some (.inr (.inr 56)), some (.inr (.inr 59)), some (.inl q)]) (sk' := [.inl 15, .inl q]) (h' := h) rfl ?_
      refine E_b (x := (.if_icmp .ge 41, 27, [], [])) rfl rfl (fun c4 => ?_) (fun c4 => ?_)
      · rw [c_ge (by first | assumption | (refine ⟨?_, ?_⟩ <;> omega) | (simp only [xr] at *; omega)) (by first | assumption | (refine ⟨?_, ?_⟩ <;> omega) | (simp only [xr] at *; omega))] at c4
        simp only [decide_eq_true_eq, decide_eq_false_iff_not, Decidable.not_not] at c4
        show xEx G0 cdX6_isSameAs (some .boolean) (xRn G0 MT d) Q b 27 [some (.inr (.inr 56)), some (.inr (.inr 59)), some (.inl q)] [] h
        refine E_s 1 (i' := 28) (ls' := [some (.inr (.inr 56)), some (.inr (.inr 59)), some (.inl q)]) (sk' := [.inl 1]) (h' := h) rfl ?_
        exact E_ret (x := (.ireturn, 0, [], [])) (v := some (.inl 1)) rfl (Or.inr ⟨rfl, by omega⟩) (h1 (fun j z1 z2 => hqe j z1 (by omega)))
      · rw [c_ge (by first | assumption | (refine ⟨?_, ?_⟩ <;> omega) | (simp only [xr] at *; omega)) (by first | assumption | (refine ⟨?_, ?_⟩ <;> omega) | (simp only [xr] at *; omega))] at c4
        simp only [decide_eq_true_eq, decide_eq_false_iff_not, Decidable.not_not] at c4
        show xEx G0 cdX6_isSameAs (some .boolean) (xRn G0 MT d) Q b 5 [some (.inr (.inr 56)), some (.inr (.inr 59)), some (.inl q)] [] h
        obtain ⟨x1, x2, x3, x4⟩ := hr q hq0 (by omega)
        refine E_s 3 (i' := 8) (ls' := [some (.inr (.inr 56)), some (.inr (.inr 59)), some (.inl q)]) (sk' := [.inl q, .inr (.inr 57)]) (h' := h) rfl ?_
        refine E_ld (x := (.iaload, 0, [], [])) (ty := .int) (n := 15) rfl rfl rfl (by omega) (by omega) ?_
        show xEx G0 cdX6_isSameAs (some .boolean) (xRn G0 MT d) Q b 9 [some (.inr (.inr 56)), some (.inr (.inr 59)), some (.inl q)] [.inl (h 57 q)] h
        refine E_s 3 (i' := 12) (ls' := [some (.inr (.inr 56)), some (.inr (.inr 59)), some (.inl q)]) (sk' := [.inl q, .inr (.inr 60), .inl (h 57 q)]) (h' := h) rfl ?_
        refine E_ld (x := (.iaload, 0, [], [])) (ty := .int) (n := 15) rfl rfl rfl (by omega) (by omega) ?_
        show xEx G0 cdX6_isSameAs (some .boolean) (xRn G0 MT d) Q b 13 [some (.inr (.inr 56)), some (.inr (.inr 59)), some (.inl q)] [.inl (h 60 q), .inl (h 57 q)] h
        refine E_b (x := (.if_icmp .ne 18, 23, [], [])) rfl rfl (fun c13 => ?_) (fun c13 => ?_)
        · rw [c_ne (by first | assumption | (refine ⟨?_, ?_⟩ <;> omega) | (simp only [xr] at *; omega)) (by first | assumption | (refine ⟨?_, ?_⟩ <;> omega) | (simp only [xr] at *; omega))] at c13
          simp only [decide_eq_true_eq, decide_eq_false_iff_not, Decidable.not_not] at c13
          show xEx G0 cdX6_isSameAs (some .boolean) (xRn G0 MT d) Q b 23 [some (.inr (.inr 56)), some (.inr (.inr 59)), some (.inl q)] [] h
          refine E_s 1 (i' := 24) (ls' := [some (.inr (.inr 56)), some (.inr (.inr 59)), some (.inl q)]) (sk' := [.inl 0]) (h' := h) rfl ?_
          exact E_ret (x := (.ireturn, 0, [], [])) (v := some (.inl 0)) rfl (Or.inr ⟨rfl, by omega⟩) (h0 (fun y => by
            have y9 := y q hq0 (by omega)
            first
            | exact c13 y9.1.symm
            | exact c22 y9.2.symm))
        · rw [c_ne (by first | assumption | (refine ⟨?_, ?_⟩ <;> omega) | (simp only [xr] at *; omega)) (by first | assumption | (refine ⟨?_, ?_⟩ <;> omega) | (simp only [xr] at *; omega))] at c13
          simp only [decide_eq_true_eq, decide_eq_false_iff_not, Decidable.not_not] at c13
          show xEx G0 cdX6_isSameAs (some .boolean) (xRn G0 MT d) Q b 14 [some (.inr (.inr 56)), some (.inr (.inr 59)), some (.inl q)] [] h
          refine E_s 3 (i' := 17) (ls' := [some (.inr (.inr 56)), some (.inr (.inr 59)), some (.inl q)]) (sk' := [.inl q, .inr (.inr 58)]) (h' := h) rfl ?_
          refine E_ld (x := (.iaload, 0, [], [])) (ty := .int) (n := 15) rfl rfl rfl (by omega) (by omega) ?_
          show xEx G0 cdX6_isSameAs (some .boolean) (xRn G0 MT d) Q b 18 [some (.inr (.inr 56)), some (.inr (.inr 59)), some (.inl q)] [.inl (h 58 q)] h
          refine E_s 3 (i' := 21) (ls' := [some (.inr (.inr 56)), some (.inr (.inr 59)), some (.inl q)]) (sk' := [.inl q, .inr (.inr 61), .inl (h 58 q)]) (h' := h) rfl ?_
          refine E_ld (x := (.iaload, 0, [], [])) (ty := .int) (n := 15) rfl rfl rfl (by omega) (by omega) ?_
          show xEx G0 cdX6_isSameAs (some .boolean) (xRn G0 MT d) Q b 22 [some (.inr (.inr 56)), some (.inr (.inr 59)), some (.inl q)] [.inl (h 61 q), .inl (h 58 q)] h
          refine E_b (x := (.if_icmp .eq 5, 25, [], [])) rfl rfl (fun c22 => ?_) (fun c22 => ?_)
          · rw [c_eq (by first | assumption | (refine ⟨?_, ?_⟩ <;> omega) | (simp only [xr] at *; omega)) (by first | assumption | (refine ⟨?_, ?_⟩ <;> omega) | (simp only [xr] at *; omega))] at c22
            simp only [decide_eq_true_eq, decide_eq_false_iff_not, Decidable.not_not] at c22
            show xEx G0 cdX6_isSameAs (some .boolean) (xRn G0 MT d) Q b 25 [some (.inr (.inr 56)), some (.inr (.inr 59)), some (.inl q)] [] h
            refine E_s 2 (i' := 2) (ls' := [some (.inr (.inr 56)), some (.inr (.inr 59)), some (.inl (q + 1))]) (sk' := []) (h' := h) rfl ?_
            exact ih2 (q + 1) (by omega) (by omega) (fun j z1 z2 => by
              by_cases e : j = q
              · rw [e]; exact ⟨c13.symm, c22.symm⟩
              · exact hqe j z1 (by omega)) (by omega)
          · rw [c_eq (by first | assumption | (refine ⟨?_, ?_⟩ <;> omega) | (simp only [xr] at *; omega)) (by first | assumption | (refine ⟨?_, ?_⟩ <;> omega) | (simp only [xr] at *; omega))] at c22
            simp only [decide_eq_true_eq, decide_eq_false_iff_not, Decidable.not_not] at c22
            show xEx G0 cdX6_isSameAs (some .boolean) (xRn G0 MT d) Q b 23 [some (.inr (.inr 56)), some (.inr (.inr 59)), some (.inl q)] [] h
            refine E_s 1 (i' := 24) (ls' := [some (.inr (.inr 56)), some (.inr (.inr 59)), some (.inl q)]) (sk' := [.inl 0]) (h' := h) rfl ?_
            exact E_ret (x := (.ireturn, 0, [], [])) (v := some (.inl 0)) rfl (Or.inr ⟨rfl, by omega⟩) (h0 (fun y => by
              have y9 := y q hq0 (by omega)
              first
              | exact c13 y9.1.symm
              | exact c22 y9.2.symm))
  exact key2 _ 0 (by omega) (by omega) (fun j z1 z2 => by omega) (Nat.lt_succ_self _)
theorem szp_1 {as le : Int → Int} {S T : xH} {m : Nat} (tr : TRp as le S T 3 0) (o : OKS S T (S 0 0) (T 0 0) m) : 0 ≤ szp as le S T 3 0 := by
  have key : ∀ (D : Nat) (nd : Int), TRp as le S T D nd → 0 ≤ szp as le S T D nd := by
    intro D
    induction D with
    | zero =>
      intro nd h
      have := (o.2.2.2.1 _ h.2.1 h.2.2).1
      show 0 ≤ S 4 (le nd)
      omega
    | succ D ih =>
      intro nd h
      unfold szp
      rcases h with h | ⟨a, b, c, e, f⟩
      · rw [if_pos h.1]
        have := (o.2.2.2.1 _ h.2.1 h.2.2).1
        omega
      · rw [if_neg (by omega)]
        have := (o.2.2.2.2 _ a b).1
        have := ih _ e
        have := ih _ f
        omega
  exact key 3 0 tr
set_option maxHeartbeats 1000000 in
theorem o_isIdle (d  : Nat) (h S T : xH) (e : Int) (hx : xr e) (hI : IS h S T) (hR : RC h S) (hRT : RCT h T) (m : Nat) (o : OKS S T (S 0 0) (T 0 0) m) (hm : m = (h 1 2).toNat) (hn : 0 ≤ h 1 2 ∧ h 1 2 ≤ 12) (hs : h 56 4 = 0 ∨ h 56 4 = 1) (hr : h 56 4 = 1 → ∀ nd, 0 ≤ nd → nd < 15 → -1 ≤ h 57 nd ∧ h 57 nd < T 0 0 ∧ -1 ≤ h 58 nd ∧ h 58 nd < S 0 0) (tr : h 56 4 = 1 → TRp (h 57) (h 58) S T 3 0) (hsz : h 56 4 = 1 → h 56 5 = szp (h 57) (h 58) S T 3 0) (hif : h 56 4 = 1 → 0 ≤ h 56 6 ∧ h 56 6 ≤ 3) (hsb : h 56 4 = 1 → h 56 5 ≤ 1000000) {Q : xO → xH → Prop} (hN : ¬ (h 56 4 = 1) → Q (.inr "java/lang/IllegalStateException") h) (hA : (h 56 4 = 1) → ¬ (0 ≤ e ∧ e < h 1 2) → Q (.inr "java/util/NoSuchElementException") h) (hZ : (h 56 4 = 1) → (0 ≤ e ∧ e < h 1 2) → (xand (xshl 1 (h 1 2) - 1) (xxor (xshl 1 e) (-1))) = 0 → Q (.inl (some (.inl (0)))) h) (hO : (h 56 4 = 1) → (0 ≤ e ∧ e < h 1 2) → (xand (xshl 1 (h 1 2) - 1) (xxor (xshl 1 e) (-1))) ≠ 0 → ∀ h', PRG h h' → SVR h' S T (-1) m → ∀ r, ((r = 1 ∧ SAM S T (h 57) (h 58) (h 56 6) (xand (xshl 1 (h 1 2) - 1) (xxor (xshl 1 e) (-1)))) ∨ (r = 0 ∧ ¬ SAM S T (h 57) (h 58) (h 56 6) (xand (xshl 1 (h 1 2) - 1) (xxor (xshl 1 e) (-1))))) → Q (.inl (some (.inl r))) h') : xRn G0 MT (d + 9) 2 133 [.inr (.inr 0), .inl e] h Q := by
  refine R_of (M := mX11_isIdle) rfl (Nat.le_of_ble_eq_true rfl) ?_
  show xEx G0 cdX11_isIdle (some .boolean) (xRn G0 MT (d + 8)) Q 2 0 [some (.inr (.inr 0)), some (.inl e), none] [] h
  refine E_s 1 (i' := 1) (ls' := [some (.inr (.inr 0)), some (.inl e), none]) (sk' := [.inr (.inr 0)]) (h' := h) rfl ?_
  refine E_cx (x := (.invokevirtual 291, 0, [(9, 147)], [0])) (b1 := 1) (b2 := 1) (v := none) (q := fun h9 => (h 56 4 = 1) ∧ h = h9) rfl rfl (Nat.le_of_ble_eq_true rfl) (fun z => by cases z) (c_refNotSolved (d + 7) h hs (fun z9 => Or.inl ⟨rfl, z9, rfl⟩) (fun z9 => Or.inr ⟨_, rfl, hN z9⟩)) (fun h9 hq9 => ?_)
  obtain ⟨qs, rfl⟩ := hq9
  show xEx G0 cdX11_isIdle (some .boolean) (xRn G0 MT (d + 8)) Q 1 2 [some (.inr (.inr 0)), some (.inl e), none] [] h
  refine E_s 2 (i' := 4) (ls' := [some (.inr (.inr 0)), some (.inl e), none]) (sk' := [.inl e, .inr (.inr 0)]) (h' := h) rfl ?_
  refine E_cx (x := (.invokevirtual 115, 1, [(9, 145)], [0])) (b1 := 1) (b2 := 0) (v := none) (q := fun h9 => (0 ≤ e ∧ e < h 1 2) ∧ h = h9) rfl rfl (Nat.le_of_ble_eq_true rfl) (fun z => by cases z) (c_refNoExample (d + 7) h e hx hn (fun z9 => Or.inl ⟨rfl, z9, rfl⟩) (fun z9 => Or.inr ⟨_, rfl, hA qs z9⟩)) (fun h9 hq9 => ?_)
  obtain ⟨q2, rfl⟩ := hq9
  show xEx G0 cdX11_isIdle (some .boolean) (xRn G0 MT (d + 8)) Q 0 5 [some (.inr (.inr 0)), some (.inl e), none] [] h
  refine E_s 2 (i' := 7) (ls' := [some (.inr (.inr 0)), some (.inl e), none]) (sk' := [.inr (.inr 1)]) (h' := h) rfl ?_
  refine E_ci (x := (.invokevirtual 323, 0, [(0, 0)], [0])) (r := (xshl 1 (h 1 2) - 1)) (h' := h) rfl rfl (Nat.le_of_ble_eq_true rfl) (c_all (d + 7) 0 h ⟨rfl, rfl⟩) ?_
  show xEx G0 cdX11_isIdle (some .boolean) (xRn G0 MT (d + 8)) Q 0 8 [some (.inr (.inr 0)), some (.inl e), none] [.inl (xshl 1 (h 1 2) - 1)] h
  refine E_s 7 (i' := 15) (ls' := [some (.inr (.inr 0)), some (.inl e), some (.inl (xand (xshl 1 (h 1 2) - 1) (xxor (xshl 1 e) (-1))))]) (sk' := []) (h' := h) rfl ?_
  have io : ir m (xand (xshl 1 (h 1 2) - 1) (xxor (xshl 1 e) (-1))) := ir_oth hn.1 hn.2 hm q2
  have io4 := ir4 o.1 io
  have hi := hif qs
  refine E_s 1 (i' := 16) (ls' := [some (.inr (.inr 0)), some (.inl e), some (.inl (xand (xshl 1 (h 1 2) - 1) (xxor (xshl 1 e) (-1))))]) (sk' := [.inl (xand (xshl 1 (h 1 2) - 1) (xxor (xshl 1 e) (-1)))]) (h' := h) rfl ?_
  refine E_b (x := (.ifCond .ne 5, 19, [], [])) rfl rfl (fun c16 => ?_) (fun c16 => ?_)
  · rw [c_ne (by first | exact xand_r _ _ | exact ⟨by omega, by omega⟩) (by first | exact xand_r _ _ | exact ⟨by omega, by omega⟩)] at c16
    simp only [decide_eq_true_eq, decide_eq_false_iff_not, Decidable.not_not] at c16
    show xEx G0 cdX11_isIdle (some .boolean) (xRn G0 MT (d + 8)) Q 0 19 [some (.inr (.inr 0)), some (.inl e), some (.inl (xand (xshl 1 (h 1 2) - 1) (xxor (xshl 1 e) (-1))))] [] h
    refine E_s 3 (i' := 22) (ls' := [some (.inr (.inr 0)), some (.inl e), some (.inl (xand (xshl 1 (h 1 2) - 1) (xxor (xshl 1 e) (-1))))]) (sk' := [.inl (-1), .inr (.inr 44)]) (h' := h) rfl ?_
    refine E_cv (x := (.invokevirtual 320, 1, [(5, 59)], [0])) (q := fun h9 => PRF h h9 ∧ SVR h9 S T (-1) m) rfl rfl (Nat.le_of_ble_eq_true rfl) (c_prepare (d + 4) 0 h S T (-1) m (Or.inl rfl) hI hR hRT o hm hn (fun h9 z1 z2 => ⟨rfl, z1, z2⟩)) (fun h1 hq1 => ?_)
    obtain ⟨f1, v1⟩ := hq1
    have x1 : h1 1 = h 1 := f1 _ (by decide)
    have ia : ir m (xshl 1 (h 1 2) - 1) := ir_all hn.1 hn.2 hm
    show xEx G0 cdX11_isIdle (some .boolean) (xRn G0 MT (d + 8)) Q 0 23 [some (.inr (.inr 0)), some (.inl e), some (.inl (xand (xshl 1 (h 1 2) - 1) (xxor (xshl 1 e) (-1))))] [] h1
    have p1 : h1 56 = h 56 := f1 _ (by decide)
    refine E_s 6 (i' := 29) (ls' := [some (.inr (.inr 0)), some (.inl e), some (.inl (xand (xshl 1 (h 1 2) - 1) (xxor (xshl 1 e) (-1))))]) (sk' := [.inl (h1 56 6), .inl (xand (xshl 1 (h 1 2) - 1) (xxor (xshl 1 e) (-1))), .inr (.inr 44)]) (h' := h1) rfl ?_
    refine E_ti (y := (h 56 6)) (by rw [p1]) ?_
    refine E_cp (x := (.invokevirtual 326, 2, [(5, 62)], [0])) (q := fun r h9 => r = sno (szf S T (S 0 0) (T 0 0) (-1) (h 56 6).toNat (xand (xshl 1 (h 1 2) - 1) (xxor (xshl 1 e) (-1)))) ∧ FZ h1 h9 ∧ SVM h9 S T (-1) m) rfl rfl (Nat.le_of_ble_eq_true rfl) (c_sON d 0 h1 S T (-1) (xand (xshl 1 (h 1 2) - 1) (xxor (xshl 1 e) (-1))) (h 56 6) m v1.2.2.2.2.1 v1.2.2.2.2.2.1 io hi (fun h9 z1 z2 => ⟨_, rfl, rfl, z1, z2⟩)) (fun r2 h2 hq2 => ?_)
    obtain ⟨er2, f2, m2⟩ := hq2
    have zr2 := szf_r (p := (-1)) o ((h 56 6).toNat) (xand (xshl 1 (h 1 2) - 1) (xxor (xshl 1 e) (-1)))
    have sr2 := sno_r zr2
    show xEx G0 cdX11_isIdle (some .boolean) (xRn G0 MT (d + 8)) Q 0 30 [some (.inr (.inr 0)), some (.inl e), some (.inl (xand (xshl 1 (h 1 2) - 1) (xxor (xshl 1 e) (-1))))] [.inl r2] h2
    refine E_ti (y := (sno (szf S T (S 0 0) (T 0 0) (-1) (h 56 6).toNat (xand (xshl 1 (h 1 2) - 1) (xxor (xshl 1 e) (-1)))))) (by rw [er2]) ?_
    have p2 : h2 56 = h 56 := by rw [f2 _ (by decide) (by decide)]; exact p1
    have sz9 := szp_1 (tr qs) o
    have sb9 := hsb qs
    have sq9 := hsz qs
    have e52 : h2 56 5 = h 56 5 := by rw [p2]
    refine E_s 3 (i' := 33) (ls' := [some (.inr (.inr 0)), some (.inl e), some (.inl (xand (xshl 1 (h 1 2) - 1) (xxor (xshl 1 e) (-1))))]) (sk' := [.inl (h2 56 5), .inl (sno (szf S T (S 0 0) (T 0 0) (-1) (h 56 6).toNat (xand (xshl 1 (h 1 2) - 1) (xxor (xshl 1 e) (-1)))))]) (h' := h2) rfl ?_
    refine E_b (x := (.if_icmp .eq 5, 36, [], [])) rfl rfl (fun c33 => ?_) (fun c33 => ?_)
    · rw [c_eq (by first | (rw [e52]; exact ⟨by omega, by omega⟩) | exact ⟨by omega, by omega⟩) (by first | (rw [e52]; exact ⟨by omega, by omega⟩) | exact ⟨by omega, by omega⟩)] at c33
      simp only [decide_eq_true_eq, decide_eq_false_iff_not, Decidable.not_not] at c33
      show xEx G0 cdX11_isIdle (some .boolean) (xRn G0 MT (d + 8)) Q 0 36 [some (.inr (.inr 0)), some (.inl e), some (.inl (xand (xshl 1 (h 1 2) - 1) (xxor (xshl 1 e) (-1))))] [] h2
      refine E_s 2 (i' := 38) (ls' := [some (.inr (.inr 0)), some (.inl e), some (.inl (xand (xshl 1 (h 1 2) - 1) (xxor (xshl 1 e) (-1))))]) (sk' := [.inr (.inr 59)]) (h' := h2) rfl ?_
      refine E_cv (x := (.invokevirtual 341, 0, [(4, 47)], [0])) (q := fun h9 => (∀ a, a ≠ 60 → a ≠ 61 → h9 a = h2 a) ∧ ∀ j, 0 ≤ j → j < 15 → h9 60 j = -1 ∧ h9 61 j = -1) rfl rfl (Nat.le_of_ble_eq_true rfl) (c_clear_ri (d + 6) 0 h2 (fun h9 z1 z2 => ⟨rfl, z1, z2⟩)) (fun h3 hq3 => ?_)
      obtain ⟨f3, c3⟩ := hq3
      have v3 : SVR h3 S T (-1) m := SVR_z (fun a z1 z2 z3 => by rw [f3 a (by omega) (by omega), f2 a z2 z3]) (fun s9 hs9 => by rw [f3 _ (by decide) (by decide), f3 _ (by decide) (by decide)]; exact m2 s9 hs9) v1
      have p3 : h3 56 = h 56 := by rw [f3 _ (by decide) (by decide)]; exact p2
      show xEx G0 cdX11_isIdle (some .boolean) (xRn G0 MT (d + 8)) Q 0 39 [some (.inr (.inr 0)), some (.inl e), some (.inl (xand (xshl 1 (h 1 2) - 1) (xxor (xshl 1 e) (-1))))] [] h3
      refine E_s 9 (i' := 48) (ls' := [some (.inr (.inr 0)), some (.inl e), some (.inl (xand (xshl 1 (h 1 2) - 1) (xxor (xshl 1 e) (-1))))]) (sk' := [.inl (h3 56 6), .inl (xand (xshl 1 (h 1 2) - 1) (xxor (xshl 1 e) (-1))), .inl 0, .inr (.inr 59), .inr (.inr 44)]) (h' := h3) rfl ?_
      have zz : szf S T (S 0 0) (T 0 0) (-1) (h 56 6).toNat (xand (xshl 1 (h 1 2) - 1) (xxor (xshl 1 e) (-1))) < 1000000 := by
        by_cases y : sno (szf S T (S 0 0) (T 0 0) (-1) (h 56 6).toNat (xand (xshl 1 (h 1 2) - 1) (xxor (xshl 1 e) (-1)))) = -1
        · have sp9 := szp_1 (tr qs) o
          have := hsz qs
          omega
        · exact (sno_2 zr2 y).1
      refine E_ti (y := (h 56 6)) (by rw [p3]) ?_
      refine E_cv (x := (.invokevirtual 342, 4, [(5, 66)], [0])) (q := fun h9 => FP 60 61 3 0 h3 h9 ∧ SVM h9 S T (-1) m ∧ TV S T (S 0 0) (T 0 0) (-1) (h9 60) (h9 61) 3 (h 56 6).toNat 0 (xand (xshl 1 (h 1 2) - 1) (xxor (xshl 1 e) (-1)))) rfl rfl (Nat.le_of_ble_eq_true rfl) (c_pl_ri d 0 h3 S T (-1) (xand (xshl 1 (h 1 2) - 1) (xxor (xshl 1 e) (-1))) (h 56 6) m v3.2.2.2.2.1 v3.2.2.2.2.2.1 io hi zz (NO_all c3) (fun h9 z1 z2 z3 => ⟨rfl, z1, z2, z3⟩)) (fun h4 hq4 => ?_)
      obtain ⟨f4, m4, t4⟩ := hq4
      show xEx G0 cdX11_isIdle (some .boolean) (xRn G0 MT (d + 8)) Q 0 49 [some (.inr (.inr 0)), some (.inl e), some (.inl (xand (xshl 1 (h 1 2) - 1) (xxor (xshl 1 e) (-1))))] [] h4
      refine E_s 4 (i' := 53) (ls' := [some (.inr (.inr 0)), some (.inl e), some (.inl (xand (xshl 1 (h 1 2) - 1) (xxor (xshl 1 e) (-1))))]) (sk' := [.inr (.inr 59), .inr (.inr 56)]) (h' := h4) rfl ?_
      have q57 : h4 57 = h 57 := by rw [f4.1 _ (by decide) (by decide) (by decide) (by decide), f3 _ (by decide) (by decide), f2 _ (by decide) (by decide)]; exact f1 _ (by decide)
      have q58 : h4 58 = h 58 := by rw [f4.1 _ (by decide) (by decide) (by decide) (by decide), f3 _ (by decide) (by decide), f2 _ (by decide) (by decide)]; exact f1 _ (by decide)
      have hr9 : ∀ j, 0 ≤ j → j < 15 → xr (h4 57 j) ∧ xr (h4 58 j) ∧ xr (h4 60 j) ∧ xr (h4 61 j) := fun j z1 z2 => by
        obtain ⟨-, a, b⟩ := TV_b o.2.2.1.1 3 _ 0 _ j t4 (sb3 z1 z2)
        have c := hr qs j z1 z2
        have k3 := o.2.1
        have k4 := o.2.2.1
        rw [q57, q58]
        exact ⟨⟨by omega, by omega⟩, ⟨by omega, by omega⟩, ⟨by omega, by omega⟩, ⟨by omega, by omega⟩⟩
      refine E_cp (x := (.invokevirtual 346, 1, [(4, 48)], [0])) (q := fun r h9 => ((r = 1 ∧ ∀ j, 0 ≤ j → j < 15 → h4 60 j = h4 57 j ∧ h4 61 j = h4 58 j) ∨ (r = 0 ∧ ¬ ∀ j, 0 ≤ j → j < 15 → h4 60 j = h4 57 j ∧ h4 61 j = h4 58 j)) ∧ h4 = h9) rfl rfl (Nat.le_of_ble_eq_true rfl) (c_isSame (d + 7) 0 h4 hr9 (fun z => ⟨_, rfl, Or.inl ⟨rfl, z⟩, rfl⟩) (fun z => ⟨_, rfl, Or.inr ⟨rfl, z⟩, rfl⟩)) (fun r h9 hq9 => ?_)
      obtain ⟨hq9, rfl⟩ := hq9
      show xEx G0 cdX11_isIdle (some .boolean) (xRn G0 MT (d + 8)) Q 0 54 [some (.inr (.inr 0)), some (.inl e), some (.inl (xand (xshl 1 (h 1 2) - 1) (xxor (xshl 1 e) (-1))))] [.inl r] h4
      exact E_ret (x := (.ireturn, 0, [], [])) (v := some (.inl r)) rfl (Or.inr ⟨rfl, by
        rcases hq9 with ⟨y, -⟩ | ⟨y, -⟩
        · exact Or.inr y
        · exact Or.inl y⟩) (hO qs q2 (by omega) h4 (fun a z => by rw [f4.1 a (by omega) (by omega) (by omega) (by omega), f3 a (by omega) (by omega), f2 a (by omega) (by omega)]; exact f1 a (by omega)) (SVR_z (fun a z1 z2 z3 => by rw [f4.1 a z2 z3 (by omega) (by omega)]) m4 v3) r (by
        rcases hq9 with ⟨e9, y9⟩ | ⟨e9, y9⟩
        · refine Or.inl ⟨e9, zz, TV_fr 3 _ 0 _ (fun j z => ?_) t4⟩
          have zj : 0 ≤ j ∧ j < 15 := by simp only [sb] at z; omega
          obtain ⟨a, b⟩ := y9 j zj.1 zj.2
          rw [q57, q58] at *
          exact ⟨a.symm, b.symm⟩
        · refine Or.inr ⟨e9, fun y => y9 (fun j z1 z2 => ?_)⟩
          rw [q57, q58]
          exact TV_eq 3 _ 0 _ t4 y.2 j (sb3 z1 z2)))
    · rw [c_eq (by first | (rw [e52]; exact ⟨by omega, by omega⟩) | exact ⟨by omega, by omega⟩) (by first | (rw [e52]; exact ⟨by omega, by omega⟩) | exact ⟨by omega, by omega⟩)] at c33
      simp only [decide_eq_true_eq, decide_eq_false_iff_not, Decidable.not_not] at c33
      show xEx G0 cdX11_isIdle (some .boolean) (xRn G0 MT (d + 8)) Q 0 34 [some (.inr (.inr 0)), some (.inl e), some (.inl (xand (xshl 1 (h 1 2) - 1) (xxor (xshl 1 e) (-1))))] [] h2
      refine E_s 1 (i' := 35) (ls' := [some (.inr (.inr 0)), some (.inl e), some (.inl (xand (xshl 1 (h 1 2) - 1) (xxor (xshl 1 e) (-1))))]) (sk' := [.inl 0]) (h' := h2) rfl ?_
      exact E_ret (x := (.ireturn, 0, [], [])) (v := some (.inl 0)) rfl (Or.inr ⟨rfl, by omega⟩) (hO qs q2 (by omega) h2 (fun a z => by rw [f2 a (by omega) (by omega)]; exact f1 a (by omega)) (SVR_z (fun a z1 z2 z3 => f2 a z2 z3) m2 v1) 0 (Or.inr ⟨rfl, fun y => by
        obtain ⟨y1, y2⟩ := y
        obtain ⟨-, y3⟩ := TV_TR o 3 (h 56 6).toNat 0 (xand (xshl 1 (h 1 2) - 1) (xxor (xshl 1 e) (-1))) (by omega) y1 (Int.le_refl _) (Int.le_refl _) y2
        have s9 : sno (szf S T (S 0 0) (T 0 0) (-1) (h 56 6).toNat (xand (xshl 1 (h 1 2) - 1) (xxor (xshl 1 e) (-1)))) = szf S T (S 0 0) (T 0 0) (-1) (h 56 6).toNat (xand (xshl 1 (h 1 2) - 1) (xxor (xshl 1 e) (-1))) := by unfold sno; rw [if_neg (by omega)]
        have e5 : h2 56 5 = h 56 5 := by rw [p2]
        have := hsz qs
        omega⟩))
  · rw [c_ne (by first | exact xand_r _ _ | exact ⟨by omega, by omega⟩) (by first | exact xand_r _ _ | exact ⟨by omega, by omega⟩)] at c16
    simp only [decide_eq_true_eq, decide_eq_false_iff_not, Decidable.not_not] at c16
    show xEx G0 cdX11_isIdle (some .boolean) (xRn G0 MT (d + 8)) Q 0 17 [some (.inr (.inr 0)), some (.inl e), some (.inl (xand (xshl 1 (h 1 2) - 1) (xxor (xshl 1 e) (-1))))] [] h
    refine E_s 1 (i' := 18) (ls' := [some (.inr (.inr 0)), some (.inl e), some (.inl (xand (xshl 1 (h 1 2) - 1) (xxor (xshl 1 e) (-1))))]) (sk' := [.inl 0]) (h' := h) rfl ?_
    exact E_ret (x := (.ireturn, 0, [], [])) (v := some (.inl 0)) rfl (Or.inr ⟨rfl, by omega⟩) (hZ qs q2 (by omega))
