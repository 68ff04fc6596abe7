def RG (M0 : Int) (h0 h S : xH) : Prop := RM M0 h S ∧ WE (h0 1 2) S ∧ RE h0 h
theorem RM_row {M0 : Int} {h h' S : xH} (e : ∀ a, a ≠ 92 → h' a = h a) (r : RM M0 h S) : RM M0 h' S := by
  obtain ⟨⟨a1, a2, a3, a4⟩, b, c, f⟩ := r
  unfold RM RR
  rw [e 66 (by decide), e 89 (by decide), e 69 (by decide), e 70 (by decide), e 71 (by decide), e 75 (by decide), e 78 (by decide), e 76 (by decide), e 72 (by decide), e 73 (by decide), e 74 (by decide), e 77 (by decide)]
  exact ⟨⟨a1, a2, a3, a4⟩, b, c, f⟩
theorem FR_row {h h' : xH} (e : ∀ a, a ≠ 92 → h' a = h a) : FR h h' := ⟨fun a ha => e a (by omega), fun j _ _ _ _ => by rw [e 66 (by decide)], by rw [e 89 (by decide)]⟩
theorem RG_row {M0 : Int} {h0 h h' S : xH} (e : ∀ a, a ≠ 92 → h' a = h a) (r : RG M0 h0 h S) : RG M0 h0 h' S := ⟨RM_row e r.1, r.2.1, RE_of (FR_row e) r.2.2⟩
theorem r_keep (d b : Nat) (M0 : Int) (h0 h S : xH) (c1 c2 c3 o3 sz : Int) (ho3 : o3 = oth c1 c3) (hsz : sz = h0 9 15) (hB : B0 h0) (hG : RG M0 h0 h S) (ho : S 0 4 = 0) (hc : okc S c1 c2 c3) (hrow : ∀ e, 0 ≤ e → e < h0 1 2 → h 92 e = oE (rwf h0) S c1 c2 c3 e) {Q : xO → xH → Prop} (hQ : ∀ h', RG M0 h0 h' (offP h0 S c1 c2 c3) → FR h h' → Q (.inl (some (.inl (if offP h0 S c1 c2 c3 0 4 = 0 then 1 else 0)))) h') : xRn G0 MT (d + 2) b 179 [.inr (.inr 66), .inl c1, .inl c2, .inl o3, .inl sz] h Q := by
  subst ho3
  subst hsz
  exact r_keeps d b M0 h0 h S c1 c2 c3 (oth c1 c3) (h0 9 15) rfl rfl hB hG.2.2 hG.1 hG.2.1 ho hc hrow (fun h' q1 q2 => hQ h' ⟨q1, (offP_w hB hG.2.1 hc).1, RE_of q2 hG.2.2⟩ q2)
theorem ap_one {p : Int} (h : p = 5 ∨ p = 8 ∨ p = 9) (x y z : Int) : ap p x y = ap p x z := by
  rcases h with rfl | rfl | rfl
  · have e : ∀ y, ap 5 x y = w32 (-x) := fun y => rfl
    rw [e, e]
  · rw [ap_8, ap_8]
  · rw [ap_9, ap_9]
set_option maxHeartbeats 1000000 in
theorem r_makesOf (d b : Nat) (M0 : Int) (h0 h S : xH) (p x y : Int) (hB : B0 h0) (hG : RG M0 h0 h S) (ho : S 0 4 = 0) (hp : 0 ≤ p ∧ p ≤ 9) (hx : 0 ≤ x ∧ x < S 0 0) (hy : 0 ≤ y ∧ y < S 0 0) {Q : xO → xH → Prop} (hQ : ∀ h', RG M0 h0 h' (offP h0 S p x y) → FR h h' → Q (.inl (some (.inl (if offP h0 S p x y 0 4 = 0 then 1 else 0)))) h') : xRn G0 MT (d + 3) b 181 [.inr (.inr 66), .inl p, .inl x, .inl (oth p y), .inl (h0 9 15)] h Q := by
  refine R_of (M := mX12_makesOf) rfl (Nat.le_of_ble_eq_true rfl) ?_
  show xEx G0 cdX12_makesOf (some .boolean) (xRn G0 MT (d + 2)) Q b 0 [some (.inr (.inr 66)), some (.inl p), some (.inl x), some (.inl (oth p y)), some (.inl (h0 9 15)), none] [] h
  have hn := hB.1
  have hK300 := hG.2.1.2.1
  have hcm : ∀ k e, 0 ≤ k → k < S 0 0 → 0 ≤ e → e < h0 1 2 → h 77 (12 * k + e) = S 5 (k * 12 + e) := fun k e z1 z2 z3 z4 => hG.1.1.2.2.2 k e z1 z2 z3 (by rw [hG.2.2.1]; exact z4)
  have hok : okc S p x y := Or.inr (Or.inr ⟨hp.1, hp.2, hx.1, hx.2, hy.1, hy.2⟩)
  refine E_s 2 (i' := 2) (ls' := [some (.inr (.inr 66)), some (.inl p), some (.inl x), some (.inl (oth p y)), some (.inl (h0 9 15)), some (.inl 0)]) (sk' := []) (h' := h) rfl ?_
  have key2 : ∀ (n : Nat) (hw : xH) (e : Int), (0 ≤ e) → (e ≤ h0 1 2) → (∀ a, a ≠ 92 → hw a = h a) → (∀ q, 0 ≤ q → q < e → hw 92 q = oE (rwf h0) S p x y q) → ((h0 1 2 - e).toNat) < n → xEx G0 cdX12_makesOf (some .boolean) (xRn G0 MT (d + 2)) Q b 2 [some (.inr (.inr 66)), some (.inl p), some (.inl x), some (.inl (oth p y)), some (.inl (h0 9 15)), some (.inl e)] [] hw := by
    intro n
    induction n with
    | zero => intro hw e _ _ _ _ hm; exact absurd hm (Nat.not_lt_zero _)
    | succ n ih2 =>
      intro hw e he0 he9 hwa hwr hm2
      have hwx : hw 66 = h 66 := hwa 66 (by decide)
      have hwe : hw 66 4 = h0 1 2 := by rw [hwx]; exact hG.2.2.1
      refine E_s 3 (i' := 5) (ls' := [some (.inr (.inr 66)), some (.inl p), some (.inl x), some (.inl (oth p y)), some (.inl (h0 9 15)), some (.inl e)]) (sk' := [.inl (hw 66 4), .inl e]) (h' := hw) rfl ?_
      refine E_b (x := (.if_icmp .ge 53, 35, [], [])) rfl rfl (fun c5 => ?_) (fun c5 => ?_)
      · rw [c_ge (by first | exact ⟨by omega, by omega⟩ | (rw [hwe]; exact ⟨by omega, by omega⟩)) (by first | exact ⟨by omega, by omega⟩ | (rw [hwe]; exact ⟨by omega, by omega⟩))] at c5
        simp only [decide_eq_true_eq, decide_eq_false_iff_not, Decidable.not_not] at c5
        show xEx G0 cdX12_makesOf (some .boolean) (xRn G0 MT (d + 2)) Q b 35 [some (.inr (.inr 66)), some (.inl p), some (.inl x), some (.inl (oth p y)), some (.inl (h0 9 15)), some (.inl e)] [] hw
        refine E_s 5 (i' := 40) (ls' := [some (.inr (.inr 66)), some (.inl p), some (.inl x), some (.inl (oth p y)), some (.inl (h0 9 15)), some (.inl e)]) (sk' := [.inl (h0 9 15), .inl (oth p y), .inl x, .inl p, .inr (.inr 66)]) (h' := hw) rfl ?_
        refine E_cp (x := (.invokevirtual 234, 4, [(10, 179)], [0])) (q := fun r h9 => r = (if offP h0 S p x y 0 4 = 0 then 1 else 0) ∧ RG M0 h0 h9 (offP h0 S p x y) ∧ FR h h9) rfl rfl (Nat.le_of_ble_eq_true rfl) (r_keep (d) 0 M0 h0 hw S p x y (oth p y) (h0 9 15) rfl rfl hB (RG_row hwa hG) ho hok (fun q z1 z2 => hwr q z1 (by omega)) (fun h9 q1 q2 => ⟨_, rfl, rfl, q1, FR.tr (FR_row hwa) q2⟩)) (fun r h2 hq => ?_)
        obtain ⟨hr, hG2, hF2⟩ := hq
        show xEx G0 cdX12_makesOf (some .boolean) (xRn G0 MT (d + 2)) Q b 41 [some (.inr (.inr 66)), some (.inl p), some (.inl x), some (.inl (oth p y)), some (.inl (h0 9 15)), some (.inl e)] [.inl r] h2
        exact E_ret (x := (.ireturn, 0, [], [])) (v := some (.inl r)) rfl (Or.inr ⟨rfl, by rw [hr]; split; exact Or.inr rfl; exact Or.inl rfl⟩) (by rw [hr]; exact hQ h2 hG2 hF2)
      · rw [c_ge (by first | exact ⟨by omega, by omega⟩ | (rw [hwe]; exact ⟨by omega, by omega⟩)) (by first | exact ⟨by omega, by omega⟩ | (rw [hwe]; exact ⟨by omega, by omega⟩))] at c5
        simp only [decide_eq_true_eq, decide_eq_false_iff_not, Decidable.not_not] at c5
        show xEx G0 cdX12_makesOf (some .boolean) (xRn G0 MT (d + 2)) Q b 6 [some (.inr (.inr 66)), some (.inl p), some (.inl x), some (.inl (oth p y)), some (.inl (h0 9 15)), some (.inl e)] [] hw
        refine E_s 11 (i' := 17) (ls' := [some (.inr (.inr 66)), some (.inl p), some (.inl x), some (.inl (oth p y)), some (.inl (h0 9 15)), some (.inl e)]) (sk' := [.inl ((12 * x) + e), .inr (.inr 77), .inl p, .inl e, .inr (.inr 92)]) (h' := hw) rfl ?_
        refine E_ld (x := (.iaload, 0, [], [])) (ty := .int) (n := 3600) rfl rfl rfl (by omega) (by omega) ?_
        show xEx G0 cdX12_makesOf (some .boolean) (xRn G0 MT (d + 2)) Q b 18 [some (.inr (.inr 66)), some (.inl p), some (.inl x), some (.inl (oth p y)), some (.inl (h0 9 15)), some (.inl e)] [.inl (hw 77 ((12 * x) + e)), .inl p, .inl e, .inr (.inr 92)] hw
        refine E_s 2 (i' := 20) (ls' := [some (.inr (.inr 66)), some (.inl p), some (.inl x), some (.inl (oth p y)), some (.inl (h0 9 15)), some (.inl e)]) (sk' := [.inl (-1), .inl (oth p y), .inl (hw 77 ((12 * x) + e)), .inl p, .inl e, .inr (.inr 92)]) (h' := hw) rfl ?_
        refine E_b (x := (.if_icmp .ne 7, 23, [], [])) rfl rfl (fun c20 => ?_) (fun c20 => ?_)
        · rw [c_ne (by first | exact ⟨by omega, by omega⟩ | (unfold oth; split <;> exact ⟨by omega, by omega⟩)) (by first | exact ⟨by omega, by omega⟩ | (unfold oth; split <;> exact ⟨by omega, by omega⟩))] at c20
          simp only [decide_eq_true_eq, decide_eq_false_iff_not, Decidable.not_not] at c20
          show xEx G0 cdX12_makesOf (some .boolean) (xRn G0 MT (d + 2)) Q b 23 [some (.inr (.inr 66)), some (.inl p), some (.inl x), some (.inl (oth p y)), some (.inl (h0 9 15)), some (.inl e)] [.inl (hw 77 ((12 * x) + e)), .inl p, .inl e, .inr (.inr 92)] hw
          have hoy : oth p y = y := by
            unfold oth at *
            split
            · rw [if_pos (by assumption)] at c20; omega
            · rfl
          refine E_s 7 (i' := 30) (ls' := [some (.inr (.inr 66)), some (.inl p), some (.inl x), some (.inl (oth p y)), some (.inl (h0 9 15)), some (.inl e)]) (sk' := [.inl ((12 * (oth p y)) + e), .inr (.inr 77), .inl (hw 77 ((12 * x) + e)), .inl p, .inl e, .inr (.inr 92)]) (h' := hw) rfl ?_
          refine E_ld (x := (.iaload, 0, [], [])) (ty := .int) (n := 3600) rfl rfl rfl (by rw [hoy]; omega) (by rw [hoy]; omega) ?_
          show xEx G0 cdX12_makesOf (some .boolean) (xRn G0 MT (d + 2)) Q b 31 [some (.inr (.inr 66)), some (.inl p), some (.inl x), some (.inl (oth p y)), some (.inl (h0 9 15)), some (.inl e)] [.inl (hw 77 ((12 * (oth p y)) + e)), .inl (hw 77 ((12 * x) + e)), .inl p, .inl e, .inr (.inr 92)] hw
          have hra : xr (hw 77 (12 * x + e)) := by rw [hwa 77 (by decide), hcm x e hx.1 hx.2 he0 (by omega)]; exact hG.2.1.2.2.1 x e hx.1 hx.2 he0 (by omega)
          have hrb : xr (hw 77 ((12 * (oth p y)) + e)) := by rw [hoy, hwa 77 (by decide), hcm y e hy.1 hy.2 he0 (by omega)]; exact hG.2.1.2.2.1 y e hy.1 hy.2 he0 (by omega)
          refine E_cp (x := (.invokestatic 238, 3, [(0, 173)], [])) (q := fun r h9 => w32 r = ap p (hw 77 (12 * x + e)) (hw 77 ((12 * (oth p y)) + e)) ∧ hw = h9) rfl rfl (Nat.le_of_ble_eq_true rfl) (c_does d 0 hw p (hw 77 (12 * x + e)) (hw 77 ((12 * (oth p y)) + e)) hp hra hrb (fun v hv9 => ⟨v, rfl, hv9, rfl⟩)) (fun r h9 hr9 => ?_)
          obtain ⟨hr9, rfl⟩ := hr9
          have hval : w32 r = oE (rwf h0) S p x y e := by
            unfold oE
            rw [hr9, if_neg (by omega), if_neg (by omega), hwa 77 (by decide), hcm x e hx.1 hx.2 he0 (by omega)]
            rw [hoy, hcm y e hy.1 hy.2 he0 (by omega)]
          show xEx G0 cdX12_makesOf (some .boolean) (xRn G0 MT (d + 2)) Q b 32 [some (.inr (.inr 66)), some (.inl p), some (.inl x), some (.inl (oth p y)), some (.inl (h0 9 15)), some (.inl e)] [.inl r, .inl e, .inr (.inr 92)] hw
          refine E_ti (y := w32 r) (w32_w r).symm ?_
          refine E_sd (x := (.iastore, 0, [], [])) (ty := .int) (n := 12) (y := (w32 r)) rfl rfl rfl (by omega) (by omega) (trivial) ?_
          show xEx G0 cdX12_makesOf (some .boolean) (xRn G0 MT (d + 2)) Q b 33 [some (.inr (.inr 66)), some (.inl p), some (.inl x), some (.inl (oth p y)), some (.inl (h0 9 15)), some (.inl e)] [] (xup hw 92 e (w32 r))
          refine E_s 2 (i' := 2) (ls' := [some (.inr (.inr 66)), some (.inl p), some (.inl x), some (.inl (oth p y)), some (.inl (h0 9 15)), some (.inl (e + 1))]) (sk' := []) (h' := (xup hw 92 e (w32 r))) rfl ?_
          exact ih2 _ (e + 1) (by omega) (by omega) (fun a q1 => by rw [← hwa a q1]; exact xup_o _ _ _ _ a q1) (fun q z1 z2 => by
            rcases Int.lt_or_eq_of_le (show q ≤ e by omega) with z9 | z9
            · rw [xup_j (by omega)]; exact hwr q z1 z9
            · rw [z9, xup_s]; exact hval) (by omega)
        · rw [c_ne (by first | exact ⟨by omega, by omega⟩ | (unfold oth; split <;> exact ⟨by omega, by omega⟩)) (by first | exact ⟨by omega, by omega⟩ | (unfold oth; split <;> exact ⟨by omega, by omega⟩))] at c20
          simp only [decide_eq_true_eq, decide_eq_false_iff_not, Decidable.not_not] at c20
          show xEx G0 cdX12_makesOf (some .boolean) (xRn G0 MT (d + 2)) Q b 21 [some (.inr (.inr 66)), some (.inl p), some (.inl x), some (.inl (oth p y)), some (.inl (h0 9 15)), some (.inl e)] [.inl (hw 77 ((12 * x) + e)), .inl p, .inl e, .inr (.inr 92)] hw
          have hone : p = 5 ∨ p = 8 ∨ p = 9 := by
            unfold oth at c20
            split at c20
            · omega
            · omega
          refine E_s 2 (i' := 31) (ls' := [some (.inr (.inr 66)), some (.inl p), some (.inl x), some (.inl (oth p y)), some (.inl (h0 9 15)), some (.inl e)]) (sk' := [.inl 0, .inl (hw 77 ((12 * x) + e)), .inl p, .inl e, .inr (.inr 92)]) (h' := hw) rfl ?_
          have hra : xr (hw 77 (12 * x + e)) := by rw [hwa 77 (by decide), hcm x e hx.1 hx.2 he0 (by omega)]; exact hG.2.1.2.2.1 x e hx.1 hx.2 he0 (by omega)
          have hrb : xr (0) := by exact ⟨by omega, by omega⟩
          refine E_cp (x := (.invokestatic 238, 3, [(0, 173)], [])) (q := fun r h9 => w32 r = ap p (hw 77 (12 * x + e)) (0) ∧ hw = h9) rfl rfl (Nat.le_of_ble_eq_true rfl) (c_does d 0 hw p (hw 77 (12 * x + e)) (0) hp hra hrb (fun v hv9 => ⟨v, rfl, hv9, rfl⟩)) (fun r h9 hr9 => ?_)
          obtain ⟨hr9, rfl⟩ := hr9
          have hval : w32 r = oE (rwf h0) S p x y e := by
            unfold oE
            rw [hr9, if_neg (by omega), if_neg (by omega), hwa 77 (by decide), hcm x e hx.1 hx.2 he0 (by omega)]
            exact ap_one hone _ _ _
          show xEx G0 cdX12_makesOf (some .boolean) (xRn G0 MT (d + 2)) Q b 32 [some (.inr (.inr 66)), some (.inl p), some (.inl x), some (.inl (oth p y)), some (.inl (h0 9 15)), some (.inl e)] [.inl r, .inl e, .inr (.inr 92)] hw
          refine E_ti (y := w32 r) (w32_w r).symm ?_
          refine E_sd (x := (.iastore, 0, [], [])) (ty := .int) (n := 12) (y := (w32 r)) rfl rfl rfl (by omega) (by omega) (trivial) ?_
          show xEx G0 cdX12_makesOf (some .boolean) (xRn G0 MT (d + 2)) Q b 33 [some (.inr (.inr 66)), some (.inl p), some (.inl x), some (.inl (oth p y)), some (.inl (h0 9 15)), some (.inl e)] [] (xup hw 92 e (w32 r))
          refine E_s 2 (i' := 2) (ls' := [some (.inr (.inr 66)), some (.inl p), some (.inl x), some (.inl (oth p y)), some (.inl (h0 9 15)), some (.inl (e + 1))]) (sk' := []) (h' := (xup hw 92 e (w32 r))) rfl ?_
          exact ih2 _ (e + 1) (by omega) (by omega) (fun a q1 => by rw [← hwa a q1]; exact xup_o _ _ _ _ a q1) (fun q z1 z2 => by
            rcases Int.lt_or_eq_of_le (show q ≤ e by omega) with z9 | z9
            · rw [xup_j (by omega)]; exact hwr q z1 z9
            · rw [z9, xup_s]; exact hval) (by omega)
  exact key2 _ _ 0 (by omega) (by omega) (fun _ _ => rfl) (fun q z1 z2 => by omega) (Nat.lt_succ_self _)
set_option maxHeartbeats 1000000 in
theorem r_makesLeaves (d b : Nat) (M0 : Int) (h0 h S : xH) (hz1 : h0 9 15 = 1) (hB : B0 h0) (hm : 1 ≤ h0 1 1 ∧ h0 1 1 ≤ 3) (hcc : 2 ≤ h0 7 1 ∧ h0 7 1 ≤ 10) (hcr : ∀ i, 0 ≤ i → i < h0 7 1 → -99 ≤ h0 8 i ∧ h0 8 i ≤ 99) (hG : RG M0 h0 h S) (ho : S 0 4 = 0) {Q : xO → xH → Prop} (hQ : ∀ h', RG M0 h0 h' (fR (fun S i => offP h0 S 11 (h0 8 i) 0) (fR (fun S i => offP h0 S 10 i 0) S 0 (h0 1 1 - 0).toNat) 0 (h0 7 1 - 0).toNat) → FR h h' → Q (.inl (some (.inl (if (fR (fun S i => offP h0 S 11 (h0 8 i) 0) (fR (fun S i => offP h0 S 10 i 0) S 0 (h0 1 1 - 0).toNat) 0 (h0 7 1 - 0).toNat) 0 4 = 0 then 1 else 0)))) h') : xRn G0 MT (d + 3) b 180 [.inr (.inr 66)] h Q := by
  refine R_of (M := mX12_makesLeaves) rfl (Nat.le_of_ble_eq_true rfl) ?_
  show xEx G0 cdX12_makesLeaves (some .boolean) (xRn G0 MT (d + 2)) Q b 0 [some (.inr (.inr 66)), none, none] [] h
  have hn := hB.1
  refine E_s 2 (i' := 2) (ls' := [some (.inr (.inr 66)), some (.inl 0), none]) (sk' := []) (h' := h) rfl ?_
  have key2 : ∀ (n : Nat) (hh : xH) (i : Int) (v2 : Option xV), (0 ≤ i) → (i ≤ h0 1 1) → (RG M0 h0 hh (fR (fun S i => offP h0 S 10 i 0) S 0 (i - 0).toNat)) → (FR h hh) → ((fR (fun S i => offP h0 S 10 i 0) S 0 (i - 0).toNat) 0 4 = 0) → ((h0 1 1 - i).toNat) < n → xEx G0 cdX12_makesLeaves (some .boolean) (xRn G0 MT (d + 2)) Q b 2 [some (.inr (.inr 66)), some (.inl i), v2] [] hh := by
    intro n
    induction n with
    | zero => intro hh i v2 _ _ _ _ _ hm; exact absurd hm (Nat.not_lt_zero _)
    | succ n ih2 =>
      intro hh i v2 hi0 hi9 hGi hFi hoi hm2
      have hexi : hh 66 4 = h0 1 2 := hGi.2.2.1
      have hmi : hh 66 1 = h0 1 1 := hGi.2.2.2.1
      have hci : hh 66 6 = h0 7 1 := hGi.2.2.2.2.1
      refine E_s 3 (i' := 5) (ls' := [some (.inr (.inr 66)), some (.inl i), v2]) (sk' := [.inl (hh 66 1), .inl i]) (h' := hh) rfl ?_
      refine E_b (x := (.if_icmp .ge 55, 37, [], [])) rfl rfl (fun c5 => ?_) (fun c5 => ?_)
      · rw [c_ge (by first | exact ⟨by omega, by omega⟩ | (rw [hmi]; exact ⟨by omega, by omega⟩)) (by first | exact ⟨by omega, by omega⟩ | (rw [hmi]; exact ⟨by omega, by omega⟩))] at c5
        simp only [decide_eq_true_eq, decide_eq_false_iff_not, Decidable.not_not] at c5
        show xEx G0 cdX12_makesLeaves (some .boolean) (xRn G0 MT (d + 2)) Q b 37 [some (.inr (.inr 66)), some (.inl i), v2] [] hh
        have him : i = h0 1 1 := by omega
        refine E_s 2 (i' := 39) (ls' := [some (.inr (.inr 66)), some (.inl 0), v2]) (sk' := []) (h' := hh) rfl ?_
        have key39 : ∀ (n : Nat) (hh : xH) (i : Int) (v2 : Option xV), (0 ≤ i) → (i ≤ h0 7 1) → (RG M0 h0 hh (fR (fun S i => offP h0 S 11 (h0 8 i) 0) (fR (fun S i => offP h0 S 10 i 0) S 0 (h0 1 1 - 0).toNat) 0 (i - 0).toNat)) → (FR h hh) → ((fR (fun S i => offP h0 S 11 (h0 8 i) 0) (fR (fun S i => offP h0 S 10 i 0) S 0 (h0 1 1 - 0).toNat) 0 (i - 0).toNat) 0 4 = 0) → ((h0 7 1 - i).toNat) < n → xEx G0 cdX12_makesLeaves (some .boolean) (xRn G0 MT (d + 2)) Q b 39 [some (.inr (.inr 66)), some (.inl i), v2] [] hh := by
          intro n
          induction n with
          | zero => intro hh i v2 _ _ _ _ _ hm; exact absurd hm (Nat.not_lt_zero _)
          | succ n ih39 =>
            intro hh i v2 hi0 hi9 hGi hFi hoi hm39
            have hexi : hh 66 4 = h0 1 2 := hGi.2.2.1
            have hmi : hh 66 1 = h0 1 1 := hGi.2.2.2.1
            have hci : hh 66 6 = h0 7 1 := hGi.2.2.2.2.1
            refine E_s 3 (i' := 42) (ls' := [some (.inr (.inr 66)), some (.inl i), v2]) (sk' := [.inl (hh 66 6), .inl i]) (h' := hh) rfl ?_
            refine E_b (x := (.if_icmp .ge 56, 73, [], [])) rfl rfl (fun c42 => ?_) (fun c42 => ?_)
            · rw [c_ge (by first | assumption | (refine ⟨?_, ?_⟩ <;> omega) | (simp only [xr] at *; omega)) (by first | assumption | (refine ⟨?_, ?_⟩ <;> omega) | (simp only [xr] at *; omega))] at c42
              simp only [decide_eq_true_eq, decide_eq_false_iff_not, Decidable.not_not] at c42
              show xEx G0 cdX12_makesLeaves (some .boolean) (xRn G0 MT (d + 2)) Q b 73 [some (.inr (.inr 66)), some (.inl i), v2] [] hh
              refine E_s 1 (i' := 74) (ls' := [some (.inr (.inr 66)), some (.inl i), v2]) (sk' := [.inl 1]) (h' := hh) rfl ?_
              exact E_ret (x := (.ireturn, 0, [], [])) (v := some (.inl 1)) rfl (Or.inr ⟨rfl, Or.inr rfl⟩) (by
                have e8 : i = h0 7 1 := by omega
                rw [e8] at hGi hoi
                have h4 := hQ hh hGi hFi
                rw [if_pos hoi] at h4
                exact h4)
            · rw [c_ge (by first | assumption | (refine ⟨?_, ?_⟩ <;> omega) | (simp only [xr] at *; omega)) (by first | assumption | (refine ⟨?_, ?_⟩ <;> omega) | (simp only [xr] at *; omega))] at c42
              simp only [decide_eq_true_eq, decide_eq_false_iff_not, Decidable.not_not] at c42
              show xEx G0 cdX12_makesLeaves (some .boolean) (xRn G0 MT (d + 2)) Q b 43 [some (.inr (.inr 66)), some (.inl i), v2] [] hh
              refine E_s 2 (i' := 45) (ls' := [some (.inr (.inr 66)), some (.inl i), some (.inl 0)]) (sk' := []) (h' := hh) rfl ?_
              have key45 : ∀ (n : Nat) (hw : xH) (e : Int), (0 ≤ e) → (e ≤ h0 1 2) → (∀ a, a ≠ 92 → hw a = hh a) → (∀ q, 0 ≤ q → q < e → hw 92 q = h0 8 i) → ((h0 1 2 - e).toNat) < n → xEx G0 cdX12_makesLeaves (some .boolean) (xRn G0 MT (d + 2)) Q b 45 [some (.inr (.inr 66)), some (.inl i), some (.inl e)] [] hw := by
                intro n
                induction n with
                | zero => intro hw e _ _ _ _ hm; exact absurd hm (Nat.not_lt_zero _)
                | succ n ih45 =>
                  intro hw e he0 he9 hwa hwr hm45
                  have hwx : hw 66 = hh 66 := hwa 66 (by decide)
                  have hwe : hw 66 4 = h0 1 2 := by rw [hwx]; exact hexi
                  refine E_s 3 (i' := 48) (ls' := [some (.inr (.inr 66)), some (.inl i), some (.inl e)]) (sk' := [.inl (hw 66 4), .inl e]) (h' := hw) rfl ?_
                  refine E_b (x := (.if_icmp .ge 21, 59, [], [])) rfl rfl (fun c48 => ?_) (fun c48 => ?_)
                  · rw [c_ge (by first | exact ⟨by omega, by omega⟩ | (rw [hwe]; exact ⟨by omega, by omega⟩)) (by first | exact ⟨by omega, by omega⟩ | (rw [hwe]; exact ⟨by omega, by omega⟩))] at c48
                    simp only [decide_eq_true_eq, decide_eq_false_iff_not, Decidable.not_not] at c48
                    show xEx G0 cdX12_makesLeaves (some .boolean) (xRn G0 MT (d + 2)) Q b 59 [some (.inr (.inr 66)), some (.inl i), some (.inl e)] [] hw
                    refine E_s 5 (i' := 64) (ls' := [some (.inr (.inr 66)), some (.inl i), some (.inl e)]) (sk' := [.inl i, .inr (.inr 68), .inl 11, .inr (.inr 66)]) (h' := hw) rfl ?_
                    refine E_ld (x := (.iaload, 0, [], [])) (ty := .int) (n := 10) rfl rfl rfl (by omega) (by omega) ?_
                    show xEx G0 cdX12_makesLeaves (some .boolean) (xRn G0 MT (d + 2)) Q b 65 [some (.inr (.inr 66)), some (.inl i), some (.inl e)] [.inl (hw 68 i), .inl 11, .inr (.inr 66)] hw
                    rw [show hw 68 i = h0 8 i by rw [hwa 68 (by decide)]; exact hGi.2.2.2.2.2.2.2.2 i hi0 (by omega)]
                    refine E_s 2 (i' := 67) (ls' := [some (.inr (.inr 66)), some (.inl i), some (.inl e)]) (sk' := [.inl 1, .inl (-1), .inl (h0 8 i), .inl 11, .inr (.inr 66)]) (h' := hw) rfl ?_
                    have hok : okc (fR (fun S i => offP h0 S 11 (h0 8 i) 0) (fR (fun S i => offP h0 S 10 i 0) S 0 (h0 1 1 - 0).toNat) 0 (i - 0).toNat) 11 (h0 8 i) 0 := Or.inr (Or.inl ⟨rfl, (hcr i hi0 (by omega)).1, (hcr i hi0 (by omega)).2, rfl⟩)
                    refine E_cp (x := (.invokevirtual 234, 4, [(10, 179)], [0])) (q := fun r h9 => r = (if offP h0 (fR (fun S i => offP h0 S 11 (h0 8 i) 0) (fR (fun S i => offP h0 S 10 i 0) S 0 (h0 1 1 - 0).toNat) 0 (i - 0).toNat) 11 (h0 8 i) 0 0 4 = 0 then 1 else 0) ∧ RG M0 h0 h9 (offP h0 (fR (fun S i => offP h0 S 11 (h0 8 i) 0) (fR (fun S i => offP h0 S 10 i 0) S 0 (h0 1 1 - 0).toNat) 0 (i - 0).toNat) 11 (h0 8 i) 0) ∧ FR h h9) rfl rfl (Nat.le_of_ble_eq_true rfl) (r_keep d 0 M0 h0 hw (fR (fun S i => offP h0 S 11 (h0 8 i) 0) (fR (fun S i => offP h0 S 10 i 0) S 0 (h0 1 1 - 0).toNat) 0 (i - 0).toNat) 11 (h0 8 i) 0 (-1) 1 rfl hz1.symm hB (RG_row hwa hGi) hoi hok (fun q z1 z2 => hwr q z1 (by omega)) (fun h9 q1 q2 => ⟨_, rfl, rfl, q1, FR.tr hFi (FR.tr (FR_row hwa) q2)⟩)) (fun r hh2 hq => ?_)
                    obtain ⟨hr, hGn, hFn⟩ := hq
                    show xEx G0 cdX12_makesLeaves (some .boolean) (xRn G0 MT (d + 2)) Q b 68 [some (.inr (.inr 66)), some (.inl i), some (.inl e)] [.inl r] hh2
                    refine E_b (x := (.ifCond .ne 5, 71, [], [])) rfl rfl (fun cb68 => ?_) (fun cb68 => ?_)
                    · rw [c_ne (by first | exact ⟨by omega, by omega⟩ | (rw [hr]; split <;> exact ⟨by omega, by omega⟩)) (by first | exact ⟨by omega, by omega⟩ | (rw [hr]; split <;> exact ⟨by omega, by omega⟩))] at cb68
                      simp only [decide_eq_true_eq, decide_eq_false_iff_not, Decidable.not_not] at cb68
                      show xEx G0 cdX12_makesLeaves (some .boolean) (xRn G0 MT (d + 2)) Q b 71 [some (.inr (.inr 66)), some (.inl i), some (.inl e)] [] hh2
                      have hon : offP h0 (fR (fun S i => offP h0 S 11 (h0 8 i) 0) (fR (fun S i => offP h0 S 10 i 0) S 0 (h0 1 1 - 0).toNat) 0 (i - 0).toNat) 11 (h0 8 i) 0 0 4 = 0 := by
                        by_cases z : offP h0 (fR (fun S i => offP h0 S 11 (h0 8 i) 0) (fR (fun S i => offP h0 S 10 i 0) S 0 (h0 1 1 - 0).toNat) 0 (i - 0).toNat) 11 (h0 8 i) 0 0 4 = 0
                        · exact z
                        · rw [hr, if_neg z] at cb68; exact absurd rfl cb68
                      refine E_s 2 (i' := 39) (ls' := [some (.inr (.inr 66)), some (.inl (i + 1)), some (.inl e)]) (sk' := []) (h' := hh2) rfl ?_
                      exact ih39 hh2 (i + 1) _ (by omega) (by omega) (by rw [fR_n hi0]; exact hGn) hFn (by rw [fR_n hi0]; exact hon) (by omega)
                    · rw [c_ne (by first | exact ⟨by omega, by omega⟩ | (rw [hr]; split <;> exact ⟨by omega, by omega⟩)) (by first | exact ⟨by omega, by omega⟩ | (rw [hr]; split <;> exact ⟨by omega, by omega⟩))] at cb68
                      simp only [decide_eq_true_eq, decide_eq_false_iff_not, Decidable.not_not] at cb68
                      show xEx G0 cdX12_makesLeaves (some .boolean) (xRn G0 MT (d + 2)) Q b 69 [some (.inr (.inr 66)), some (.inl i), some (.inl e)] [] hh2
                      refine E_s 1 (i' := 70) (ls' := [some (.inr (.inr 66)), some (.inl i), some (.inl e)]) (sk' := [.inl 0]) (h' := hh2) rfl ?_
                      exact E_ret (x := (.ireturn, 0, [], [])) (v := some (.inl 0)) rfl (Or.inr ⟨rfl, Or.inl rfl⟩) (by
                        have hne : (fR (fun S i => offP h0 S 11 (h0 8 i) 0) (fR (fun S i => offP h0 S 10 i 0) S 0 (h0 1 1 - 0).toNat) 0 (i + 1 - 0).toNat) 0 4 ≠ 0 := by
                          rw [fR_n hi0]
                          intro z
                          rw [hr, if_pos z] at cb68
                          exact absurd cb68 (by decide)
                        have he := fR_end (hi := h0 7 1) (fun S h _ => offP_s h _ _ _) hi0 (by omega) hne
                        have h4 := hQ hh2 (by rw [he, fR_n hi0]; exact hGn) hFn
                        rw [he, if_neg hne] at h4
                        exact h4)
                  · rw [c_ge (by first | exact ⟨by omega, by omega⟩ | (rw [hwe]; exact ⟨by omega, by omega⟩)) (by first | exact ⟨by omega, by omega⟩ | (rw [hwe]; exact ⟨by omega, by omega⟩))] at c48
                    simp only [decide_eq_true_eq, decide_eq_false_iff_not, Decidable.not_not] at c48
                    show xEx G0 cdX12_makesLeaves (some .boolean) (xRn G0 MT (d + 2)) Q b 49 [some (.inr (.inr 66)), some (.inl i), some (.inl e)] [] hw
                    have hval : hw 68 i = h0 8 i := by rw [hwa 68 (by decide)]; exact hGi.2.2.2.2.2.2.2.2 i hi0 (by omega)
                    refine E_s 6 (i' := 55) (ls' := [some (.inr (.inr 66)), some (.inl i), some (.inl e)]) (sk' := [.inl i, .inr (.inr 68), .inl e, .inr (.inr 92)]) (h' := hw) rfl ?_
                    refine E_ld (x := (.iaload, 0, [], [])) (ty := .int) (n := 10) rfl rfl rfl (by omega) (by omega) ?_
                    show xEx G0 cdX12_makesLeaves (some .boolean) (xRn G0 MT (d + 2)) Q b 56 [some (.inr (.inr 66)), some (.inl i), some (.inl e)] [.inl (hw 68 i), .inl e, .inr (.inr 92)] hw
                    refine E_sd (x := (.iastore, 0, [], [])) (ty := .int) (n := 12) (y := (hw 68 i)) rfl rfl rfl (by omega) (by omega) (trivial) ?_
                    show xEx G0 cdX12_makesLeaves (some .boolean) (xRn G0 MT (d + 2)) Q b 57 [some (.inr (.inr 66)), some (.inl i), some (.inl e)] [] (xup hw 92 e (hw 68 i))
                    refine E_s 2 (i' := 45) (ls' := [some (.inr (.inr 66)), some (.inl i), some (.inl (e + 1))]) (sk' := []) (h' := (xup hw 92 e (hw 68 i))) rfl ?_
                    exact ih45 _ (e + 1) (by omega) (by omega) (fun a q1 => by rw [← hwa a q1]; exact xup_o _ _ _ _ a q1) (fun q z1 z2 => by
                      rcases Int.lt_or_eq_of_le (show q ≤ e by omega) with z9 | z9
                      · rw [xup_j (by omega)]; exact hwr q z1 z9
                      · rw [z9, xup_s]; exact hval) (by omega)
              exact key45 _ _ 0 (by omega) (by omega) (fun _ _ => rfl) (fun q z1 z2 => by omega) (Nat.lt_succ_self _)
        exact key39 _ hh 0 _ (by omega) (by omega) (by rw [him] at hGi; exact hGi) hFi (by rw [him] at hoi; exact hoi) (Nat.lt_succ_self _)
      · rw [c_ge (by first | exact ⟨by omega, by omega⟩ | (rw [hmi]; exact ⟨by omega, by omega⟩)) (by first | exact ⟨by omega, by omega⟩ | (rw [hmi]; exact ⟨by omega, by omega⟩))] at c5
        simp only [decide_eq_true_eq, decide_eq_false_iff_not, Decidable.not_not] at c5
        show xEx G0 cdX12_makesLeaves (some .boolean) (xRn G0 MT (d + 2)) Q b 6 [some (.inr (.inr 66)), some (.inl i), v2] [] hh
        refine E_s 2 (i' := 8) (ls' := [some (.inr (.inr 66)), some (.inl i), some (.inl 0)]) (sk' := []) (h' := hh) rfl ?_
        have key8 : ∀ (n : Nat) (hw : xH) (e : Int), (0 ≤ e) → (e ≤ h0 1 2) → (∀ a, a ≠ 92 → hw a = hh a) → (∀ q, 0 ≤ q → q < e → hw 92 q = rwf h0 i q) → ((h0 1 2 - e).toNat) < n → xEx G0 cdX12_makesLeaves (some .boolean) (xRn G0 MT (d + 2)) Q b 8 [some (.inr (.inr 66)), some (.inl i), some (.inl e)] [] hw := by
          intro n
          induction n with
          | zero => intro hw e _ _ _ _ hm; exact absurd hm (Nat.not_lt_zero _)
          | succ n ih8 =>
            intro hw e he0 he9 hwa hwr hm8
            have hwx : hw 66 = hh 66 := hwa 66 (by decide)
            have hwe : hw 66 4 = h0 1 2 := by rw [hwx]; exact hexi
            refine E_s 3 (i' := 11) (ls' := [some (.inr (.inr 66)), some (.inl i), some (.inl e)]) (sk' := [.inl (hw 66 4), .inl e]) (h' := hw) rfl ?_
            refine E_b (x := (.if_icmp .ge 25, 26, [], [])) rfl rfl (fun c11 => ?_) (fun c11 => ?_)
            · rw [c_ge (by first | exact ⟨by omega, by omega⟩ | (rw [hwe]; exact ⟨by omega, by omega⟩)) (by first | exact ⟨by omega, by omega⟩ | (rw [hwe]; exact ⟨by omega, by omega⟩))] at c11
              simp only [decide_eq_true_eq, decide_eq_false_iff_not, Decidable.not_not] at c11
              show xEx G0 cdX12_makesLeaves (some .boolean) (xRn G0 MT (d + 2)) Q b 26 [some (.inr (.inr 66)), some (.inl i), some (.inl e)] [] hw
              refine E_s 5 (i' := 31) (ls' := [some (.inr (.inr 66)), some (.inl i), some (.inl e)]) (sk' := [.inl 1, .inl (-1), .inl i, .inl 10, .inr (.inr 66)]) (h' := hw) rfl ?_
              have hok : okc (fR (fun S i => offP h0 S 10 i 0) S 0 (i - 0).toNat) 10 i 0 := Or.inl ⟨rfl, hi0, by omega, rfl⟩
              refine E_cp (x := (.invokevirtual 234, 4, [(10, 179)], [0])) (q := fun r h9 => r = (if offP h0 (fR (fun S i => offP h0 S 10 i 0) S 0 (i - 0).toNat) 10 i 0 0 4 = 0 then 1 else 0) ∧ RG M0 h0 h9 (offP h0 (fR (fun S i => offP h0 S 10 i 0) S 0 (i - 0).toNat) 10 i 0) ∧ FR h h9) rfl rfl (Nat.le_of_ble_eq_true rfl) (r_keep d 0 M0 h0 hw (fR (fun S i => offP h0 S 10 i 0) S 0 (i - 0).toNat) 10 i 0 (-1) 1 rfl hz1.symm hB (RG_row hwa hGi) hoi hok (fun q z1 z2 => hwr q z1 (by omega)) (fun h9 q1 q2 => ⟨_, rfl, rfl, q1, FR.tr hFi (FR.tr (FR_row hwa) q2)⟩)) (fun r hh2 hq => ?_)
              obtain ⟨hr, hGn, hFn⟩ := hq
              show xEx G0 cdX12_makesLeaves (some .boolean) (xRn G0 MT (d + 2)) Q b 32 [some (.inr (.inr 66)), some (.inl i), some (.inl e)] [.inl r] hh2
              refine E_b (x := (.ifCond .ne 5, 35, [], [])) rfl rfl (fun cb32 => ?_) (fun cb32 => ?_)
              · rw [c_ne (by first | exact ⟨by omega, by omega⟩ | (rw [hr]; split <;> exact ⟨by omega, by omega⟩)) (by first | exact ⟨by omega, by omega⟩ | (rw [hr]; split <;> exact ⟨by omega, by omega⟩))] at cb32
                simp only [decide_eq_true_eq, decide_eq_false_iff_not, Decidable.not_not] at cb32
                show xEx G0 cdX12_makesLeaves (some .boolean) (xRn G0 MT (d + 2)) Q b 35 [some (.inr (.inr 66)), some (.inl i), some (.inl e)] [] hh2
                have hon : offP h0 (fR (fun S i => offP h0 S 10 i 0) S 0 (i - 0).toNat) 10 i 0 0 4 = 0 := by
                  by_cases z : offP h0 (fR (fun S i => offP h0 S 10 i 0) S 0 (i - 0).toNat) 10 i 0 0 4 = 0
                  · exact z
                  · rw [hr, if_neg z] at cb32; exact absurd rfl cb32
                refine E_s 2 (i' := 2) (ls' := [some (.inr (.inr 66)), some (.inl (i + 1)), some (.inl e)]) (sk' := []) (h' := hh2) rfl ?_
                exact ih2 hh2 (i + 1) _ (by omega) (by omega) (by rw [fR_n hi0]; exact hGn) hFn (by rw [fR_n hi0]; exact hon) (by omega)
              · rw [c_ne (by first | exact ⟨by omega, by omega⟩ | (rw [hr]; split <;> exact ⟨by omega, by omega⟩)) (by first | exact ⟨by omega, by omega⟩ | (rw [hr]; split <;> exact ⟨by omega, by omega⟩))] at cb32
                simp only [decide_eq_true_eq, decide_eq_false_iff_not, Decidable.not_not] at cb32
                show xEx G0 cdX12_makesLeaves (some .boolean) (xRn G0 MT (d + 2)) Q b 33 [some (.inr (.inr 66)), some (.inl i), some (.inl e)] [] hh2
                refine E_s 1 (i' := 34) (ls' := [some (.inr (.inr 66)), some (.inl i), some (.inl e)]) (sk' := [.inl 0]) (h' := hh2) rfl ?_
                exact E_ret (x := (.ireturn, 0, [], [])) (v := some (.inl 0)) rfl (Or.inr ⟨rfl, Or.inl rfl⟩) (by
                  have hne : (fR (fun S i => offP h0 S 10 i 0) S 0 (i + 1 - 0).toNat) 0 4 ≠ 0 := by
                    rw [fR_n hi0]
                    intro z
                    rw [hr, if_pos z] at cb32
                    exact absurd cb32 (by decide)
                  have he := fR_end (hi := h0 1 1) (fun S h _ => offP_s h _ _ _) hi0 (by omega) hne
                  have he2 : (fR (fun S i => offP h0 S 11 (h0 8 i) 0) (fR (fun S i => offP h0 S 10 i 0) S 0 (h0 1 1 - 0).toNat) 0 (h0 7 1 - 0).toNat) = fR (fun S i => offP h0 S 10 i 0) S 0 (i + 1 - 0).toNat := by
                    rw [he]
                    exact fR_stop (stp_c h0 (h0 8)) hne 0 _
                  have h4 := hQ hh2 (by rw [he2, fR_n hi0]; exact hGn) hFn
                  rw [he2, if_neg hne] at h4
                  exact h4)
            · rw [c_ge (by first | exact ⟨by omega, by omega⟩ | (rw [hwe]; exact ⟨by omega, by omega⟩)) (by first | exact ⟨by omega, by omega⟩ | (rw [hwe]; exact ⟨by omega, by omega⟩))] at c11
              simp only [decide_eq_true_eq, decide_eq_false_iff_not, Decidable.not_not] at c11
              show xEx G0 cdX12_makesLeaves (some .boolean) (xRn G0 MT (d + 2)) Q b 12 [some (.inr (.inr 66)), some (.inl i), some (.inl e)] [] hw
              have hval : hw 67 (4 * e + i) = rwf h0 i e := by rw [hwa 67 (by decide)]; exact hGi.2.2.2.2.2.2.1 i e hi0 (by omega) he0 (by omega)
              refine E_s 10 (i' := 22) (ls' := [some (.inr (.inr 66)), some (.inl i), some (.inl e)]) (sk' := [.inl ((4 * e) + i), .inr (.inr 67), .inl e, .inr (.inr 92)]) (h' := hw) rfl ?_
              refine E_ld (x := (.iaload, 0, [], [])) (ty := .int) (n := 48) rfl rfl rfl (by omega) (by omega) ?_
              show xEx G0 cdX12_makesLeaves (some .boolean) (xRn G0 MT (d + 2)) Q b 23 [some (.inr (.inr 66)), some (.inl i), some (.inl e)] [.inl (hw 67 ((4 * e) + i)), .inl e, .inr (.inr 92)] hw
              refine E_sd (x := (.iastore, 0, [], [])) (ty := .int) (n := 12) (y := (hw 67 ((4 * e) + i))) rfl rfl rfl (by omega) (by omega) (trivial) ?_
              show xEx G0 cdX12_makesLeaves (some .boolean) (xRn G0 MT (d + 2)) Q b 24 [some (.inr (.inr 66)), some (.inl i), some (.inl e)] [] (xup hw 92 e (hw 67 ((4 * e) + i)))
              refine E_s 2 (i' := 8) (ls' := [some (.inr (.inr 66)), some (.inl i), some (.inl (e + 1))]) (sk' := []) (h' := (xup hw 92 e (hw 67 ((4 * e) + i)))) rfl ?_
              exact ih8 _ (e + 1) (by omega) (by omega) (fun a q1 => by rw [← hwa a q1]; exact xup_o _ _ _ _ a q1) (fun q z1 z2 => by
                rcases Int.lt_or_eq_of_le (show q ≤ e by omega) with z9 | z9
                · rw [xup_j (by omega)]; exact hwr q z1 z9
                · rw [z9, xup_s]; exact hval) (by omega)
        exact key8 _ _ 0 (by omega) (by omega) (fun _ _ => rfl) (fun q z1 z2 => by omega) (Nat.lt_succ_self _)
  exact key2 _ h 0 none (by omega) (by omega) (by exact hG) (FR.rf h) (by exact ho) (Nat.lt_succ_self _)
