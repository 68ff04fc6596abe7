theorem offE_s {n : Int} {rw : Int → Int → Int} {wt : Int → Int} {sz : Int} {S : xH} {c1 c2 c3 : Int} (h : S 0 4 ≠ 0) : offE n rw wt sz S c1 c2 c3 = S := if_pos h
theorem offE_b {n : Int} {rw : Int → Int → Int} {wt : Int → Int} {sz : Int} {S : xH} {c1 c2 c3 : Int} (h : S 0 4 = 0) (h3 : S 0 3 = 0) : offE n rw wt sz S c1 c2 c3 = xup S 0 4 2 := by
  unfold offE; rw [if_neg (by omega), if_pos h3]
theorem offE_m {n : Int} {rw : Int → Int → Int} {wt : Int → Int} {sz : Int} {S : xH} {c1 c2 c3 r : Int} (h : S 0 4 = 0) (h3 : S 0 3 ≠ 0) (hr : fnd (eqr n S (oE rw S c1 c2 c3)) (S 0 0).toNat = r) (h0 : r ≠ -1) : offE n rw wt sz S c1 c2 c3 = mrgS (mad S) r c1 c2 c3 := by
  unfold offE; rw [if_neg (by omega), if_neg h3, hr, if_pos h0]
theorem offE_f {n : Int} {rw : Int → Int → Int} {wt : Int → Int} {sz : Int} {S : xH} {c1 c2 c3 : Int} (h : S 0 4 = 0) (h3 : S 0 3 ≠ 0) (hr : fnd (eqr n S (oE rw S c1 c2 c3)) (S 0 0).toNat = -1) (hK : 300 ≤ S 0 0) : offE n rw wt sz S c1 c2 c3 = xup (mad S) 0 4 1 := by
  unfold offE; rw [if_neg (by omega), if_neg h3, hr, if_neg (by omega), if_pos hK]
theorem offE_a {n : Int} {rw : Int → Int → Int} {wt : Int → Int} {sz : Int} {S : xH} {c1 c2 c3 : Int} (h : S 0 4 = 0) (h3 : S 0 3 ≠ 0) (hr : fnd (eqr n S (oE rw S c1 c2 c3)) (S 0 0).toNat = -1) (hK : S 0 0 < 300) : offE n rw wt sz S c1 c2 c3 = appE (mad S) n sz c1 c2 c3 (oE rw S c1 c2 c3) (cv (fun e => oE rw S c1 c2 c3 e = wt e) n.toNat) (usE S c1 c2 c3) := by
  unfold offE; rw [if_neg (by omega), if_neg h3, hr, if_neg (by omega), if_neg (by omega)]
theorem chn_of {h h' : xH} {K : Int} (e1 : h' 27 = h 27) (e2 : h' 25 = h 25) (e3 : h' 26 = h 26) (c : chn h K) : chn h' K := by
  unfold chn at *
  rw [e1, e2, e3]
  exact c
theorem chn_app {h h' : xH} {K v : Int} (c : chn h K) (hK : 0 ≤ K) (hv : 0 ≤ v ∧ v ≤ 511) (e1 : ∀ j, h' 27 j = if j = K then v else h 27 j) (e2 : ∀ j, h' 26 j = if j = K then h 25 v else h 26 j) (e3 : ∀ j, h' 25 j = if j = v then K else h 25 j) : chn h' (K + 1) := by
  have es : ∀ j, j < K → h' 27 j = h 27 j := fun j hj => by rw [e1, if_neg (by omega)]
  have lk : ∀ (w K' r : Int), K' ≤ K → lst (h 27) w K' r → lst (h' 27) w K' r := by
    intro w K' r hle hl
    rcases hl with ⟨a, b⟩ | ⟨a, b, c, e⟩
    · exact Or.inl ⟨a, fun k h1 h2 => by rw [es k (by omega)]; exact b k h1 h2⟩
    · exact Or.inr ⟨a, b, by rw [es r (by omega)]; exact c, fun k h1 h2 => by rw [es k (by omega)]; exact e k h1 h2⟩
  refine ⟨fun w hw0 hw1 => ?_, fun k hk0 hk1 => ?_⟩
  · rw [e3 w]
    by_cases hwv : w = v
    · rw [if_pos hwv]
      exact Or.inr ⟨hK, by omega, by rw [e1, if_pos rfl, hwv], fun k h1 h2 => by omega⟩
    · rw [if_neg hwv]
      rcases lk w K _ (Int.le_refl K) (c.1 w hw0 hw1) with ⟨a, b⟩ | ⟨a, b, c', e⟩
      · refine Or.inl ⟨a, fun k h1 h2 => ?_⟩
        rcases Int.lt_or_eq_of_le (show k ≤ K by omega) with z | z
        · exact b k h1 z
        · rw [z, e1, if_pos rfl]; exact fun q => hwv q.symm
      · refine Or.inr ⟨a, by omega, c', fun k h1 h2 => ?_⟩
        rcases Int.lt_or_eq_of_le (show k ≤ K by omega) with z | z
        · exact e k h1 z
        · rw [z, e1, if_pos rfl]; exact fun q => hwv q.symm
  · rcases Int.lt_or_eq_of_le (show k ≤ K by omega) with z | z
    · obtain ⟨a, b, l⟩ := c.2 k hk0 z
      rw [es k z, e2, if_neg (by omega)]
      exact ⟨a, b, lk _ k _ (by omega) l⟩
    · subst z
      rw [e1, if_pos rfl, e2, if_pos rfl]
      exact ⟨hv.1, hv.2, lk v k _ (Int.le_refl k) (c.1 v hv.1 hv.2)⟩
theorem L_rk {h h1 S : xH} {o : Int → Int} (hR : RC h S) (hn : 0 ≤ h 1 2 ∧ h 1 2 ≤ 12) (hk : RK (xup (xup h 9 16 (h 9 16 - 1)) 9 12 (h 9 12 + 1)) h1 o) : RC h1 (mad S) := by
  obtain ⟨a1, a2, a3, a4, a5, a6, a7, a8, a9⟩ := hR
  obtain ⟨k1, k2, k3, k4, k5⟩ := hk
  have hex : h1 1 = h 1 := k1 1 (by decide) (by decide)
  refine ⟨(k2 9 (by decide)).trans a1, (k2 10 (by decide)).trans a2, (k2 12 (by decide)).trans ?_, (k2 16 (by decide)).trans ?_, (k2 17 (by decide)).trans a5, fun k hk0 hk9 => ?_, fun k e hk0 hk9 he0 he9 => ?_, chn_of (k1 27 (by decide) (by decide)) (k1 25 (by decide) (by decide)) (k1 26 (by decide) (by decide)) a8, fun k hk0 hk9 => ?_⟩
  · show h 9 12 + 1 = S 0 2 + 1
    rw [a3]
  · show h 9 16 - 1 = S 0 3 - 1
    rw [a4]
  · have b := a6 k hk0 hk9
    rw [k1 11 (by decide) (by decide), k1 12 (by decide) (by decide), k1 13 (by decide) (by decide), k1 18 (by decide) (by decide), k1 20 (by decide) (by decide), k1 21 (by decide) (by decide), k1 19 (by decide) (by decide), k1 15 (by decide) (by decide), k1 16 (by decide) (by decide), k1 17 (by decide) (by decide)]
    exact b
  · rw [hex] at he9
    have hk99 : k < S 0 0 := hk9
    have b := a7 k e hk0 hk99 he0 he9
    rw [k3 (k * 12 + e) (fun q => by
      have q1 : h 9 9 * 12 ≤ k * 12 + e := q.1
      rw [a1] at q1
      omega)]
    exact b
  · rw [k1 27 (by decide) (by decide), hex]
    exact a9 k hk0 hk9
theorem L_m {h S : xH} {r c1 c2 c3 : Int} (hR : RC h S) (hr : 0 ≤ r ∧ r < S 0 0) : RC (xup (xup (if h 21 r = 0 then xup (xup (xup h 15 r c1) 16 r c2) 17 r c3 else h) 21 r (h 21 r + 1)) 9 10 (h 9 10 + 1)) (mrgS S r c1 c2 c3) := by
  obtain ⟨a1, a2, a3, a4, a5, a6, a7, a8, a9⟩ := hR
  have e7 : h 21 r = S 7 r := (a6 r hr.1 hr.2).2.2.2.2.2.1
  have e10 : h 9 10 + 1 = S 0 1 + 1 := by rw [a2]
  unfold mrgS
  rw [e7]
  by_cases h0 : S 7 r = 0
  · rw [if_pos h0, if_pos h0]
    refine ⟨a1, e10, a3, a4, a5, fun k hk0 hk9 => ?_, a7, a8, a9⟩
    have hk99 : k < S 0 0 := hk9
    obtain ⟨b1, b2, b3, b4, b5, b6, b7, b8⟩ := a6 k hk0 hk99
    refine ⟨b1, b2, b3, b4, b5, ?_, b7, fun hne => ?_⟩
    · by_cases e : k = r
      · subst e; simp [xup]
      · simp [xup, e]; exact b6
    · by_cases e : k = r
      · subst e; simp [xup]
      · simp [xup, e] at hne ⊢
        exact b8 hne
  · rw [if_neg h0, if_neg h0]
    refine ⟨a1, e10, a3, a4, a5, fun k hk0 hk9 => ?_, a7, a8, a9⟩
    have hk99 : k < S 0 0 := hk9
    obtain ⟨b1, b2, b3, b4, b5, b6, b7, b8⟩ := a6 k hk0 hk99
    refine ⟨b1, b2, b3, b4, b5, ?_, b7, fun hne => ?_⟩
    · by_cases e : k = r
      · subst e; simp [xup]
      · simp [xup, e]; exact b6
    · by_cases e : k = r
      · subst e; exact b8 h0
      · simp [xup, e] at hne
        exact b8 hne
theorem L_o {h S : xH} {v : Int} (hR : RC h S) : RC (xup h 9 17 v) (xup S 0 4 v) := by
  obtain ⟨a1, a2, a3, a4, a5, a6, a7, a8, a9⟩ := hR
  exact ⟨a1, a2, a3, a4, rfl, a6, a7, a8, a9⟩
theorem L_a {h S : xH} {c1 c2 c3 us : Int} {o : Int → Int} (hR : RC h S) (hK : 0 ≤ S 0 0) (hs : h 9 23 = HS (h 1 2) o) (ho : ∀ e, 0 ≤ e → e < h 1 2 → h 24 (h 9 9 * 12 + e) = o e) (hu : us = us)
    {h2 : xH} (e2 : h2 = xup (xup (xup (xup (xup (xup h 11 (h 9 9) c1) 12 (h 9 9) c2) 13 (h 9 9) c3) 18 (h 9 9) (h 9 15)) 19 (h 9 9) us) 21 (h 9 9) 0) (hn : 0 ≤ h 1 2 ∧ h 1 2 ≤ 12) :
    RC (xup (xup (xup (xup (xup h2 27 (h 9 9) (h 9 23)) 26 (h 9 9) (h 25 (h 9 23))) 25 (h 9 23) (h 9 9)) 20 (h 9 9) (cv (fun e => h 24 (h 9 9 * 12 + e) = h 6 e) (h 1 2).toNat)) 9 9 (h 9 9 + 1))
      (appE S (h 1 2) (h 9 15) c1 c2 c3 o (cv (fun e => o e = h 6 e) (h 1 2).toNat) us) := by
  obtain ⟨a1, a2, a3, a4, a5, a6, a7, a8, a9⟩ := hR
  subst e2
  have ecv : cv (fun e => h 24 (h 9 9 * 12 + e) = h 6 e) (h 1 2).toNat = cv (fun e => o e = h 6 e) (h 1 2).toNat := cv_congr _ (fun i hi => by simp only [ho i (by omega) (by omega)])
  rw [ecv]
  generalize ((cv (fun e => o e = h 6 e) (h 1 2).toNat : Nat) : Int) = cvv
  rw [a1] at ho
  refine ⟨?_, a2, a3, a4, a5, fun k hk0 hk9 => ?_, fun k e hk0 hk9 he0 he9 => ?_, ?_, fun k hk0 hk9 => ?_⟩
  · show h 9 9 + 1 = S 0 0 + 1
    rw [a1]
  · have hk99 : k < S 0 0 + 1 := hk9
    simp only [a1]
    by_cases e : k = S 0 0
    · subst e
      simp [xup, appE, put0]
    · obtain ⟨b1, b2, b3, b4, b5, b6, b7, b8⟩ := a6 k hk0 (by omega)
      simp only [xup, appE, put0, e, if_false]
      simp
      exact ⟨b1, b2, b3, b4, b5, b6, b7, b8⟩
  · have hk99 : k < S 0 0 + 1 := hk9
    have he99 : e < h 1 2 := he9
    show h 24 (k * 12 + e) = if S 0 0 * 12 ≤ k * 12 + e ∧ k * 12 + e < S 0 0 * 12 + h 1 2 then o (k * 12 + e - S 0 0 * 12) else S 5 (k * 12 + e)
    by_cases e9 : k = S 0 0
    · subst e9
      rw [if_pos (by omega), ho e he0 he99]
      congr 1
      omega
    · rw [if_neg (by omega)]
      exact a7 k e hk0 (by omega) he0 he99
  · show chn _ (S 0 0 + 1)
    have hsr := HS_r (h 1 2) o
    rw [← hs] at hsr
    refine chn_app a8 hK hsr (fun j => ?_) (fun j => ?_) (fun j => ?_)
    · simp only [a1]; simp [xup]
    · simp only [a1]; simp [xup]
    · simp only [a1]; simp [xup]
  · have hk99 : k < S 0 0 + 1 := hk9
    simp only [a1]
    by_cases e9 : k = S 0 0
    · subst e9
      show (if S 0 0 = S 0 0 then h 9 23 else _) = HS (h 1 2) _
      rw [if_pos rfl, hs]
      refine HS_congr (fun e h1 h2 => ?_)
      show _ = if S 0 0 * 12 ≤ S 0 0 * 12 + e ∧ S 0 0 * 12 + e < S 0 0 * 12 + h 1 2 then o (S 0 0 * 12 + e - S 0 0 * 12) else S 5 (S 0 0 * 12 + e)
      rw [if_pos (by omega)]
      congr 1
      omega
    · show (if k = S 0 0 then h 9 23 else h 27 k) = HS (h 1 2) _
      rw [if_neg e9, a9 k hk0 (by omega)]
      refine HS_congr (fun e h1 h2 => ?_)
      show _ = if S 0 0 * 12 ≤ k * 12 + e ∧ k * 12 + e < S 0 0 * 12 + h 1 2 then o (k * 12 + e - S 0 0 * 12) else S 5 (k * 12 + e)
      rw [if_neg (by omega)]
/-- a call that returns one long, for certain -/
theorem E_cl {G : List xS} {cd : List xI} {rt : Option FieldType} {call : xCal} {Q : xO → xH → Prop} {i : Nat} {ls : xL} {sk : List xV} {h : xH} {x : xI} {b mm : Nat} {as rest : List xV} {r : Int} {h' : xH} (hx : cd[i]? = some x) (hs : xcl G x sk = some (mm, as, rest)) (hw : (rest.map xcat).sum ≤ 8) (hc : call 0 mm as h (fun o h9 => o = .inl (some (.inr (.inl r))) ∧ h9 = h')) (hk : xEx G cd rt call Q b (i + 1) ls (.inr (.inl r) :: rest) h') : xEx G cd rt call Q b i ls sk h := by
  rw [← Nat.zero_add b]
  refine E_call hx hs hw (fun _ E h9 z => by cases z.1) hc (fun v h9 z => ?_) (fun E h9 z => by cases z.1)
  obtain ⟨hv, rfl⟩ := z
  cases hv
  exact hk
set_option maxHeartbeats 1000000 in
theorem c_offer (d b : Nat) (h S : xH) (c1 c2 c3 : Int) (hn : 0 ≤ h 1 2 ∧ h 1 2 ≤ 12) (hR : RC h S) (hW : WE (h 1 2) S) (ho : S 0 4 = 0) (hc : okc S c1 c2 c3) (hrw : ∀ e, 0 ≤ e → e < h 1 2 → xr (h 6 e) ∧ ∀ j, xr (rwf h j e)) {Q : xO → xH → Prop} (hQ : ∀ h', RC h' (offE (h 1 2) (rwf h) (h 6) (h 9 15) S c1 c2 c3) → FG h h' → Q (.inl (some (.inl (if (offE (h 1 2) (rwf h) (h 6) (h 9 15) S c1 c2 c3) 0 4 = 0 then 1 else 0)))) h') : xRn G0 MT (d + 4) b 34 [.inr (.inr 9), .inl c1, .inl c2, .inl c3] h Q := by
  refine R_of (M := mX3_offer) rfl (Nat.le_of_ble_eq_true rfl) ?_
  show xEx G0 cdX3_offer (some .boolean) (xRn G0 MT (d + 3)) Q b 0 [some (.inr (.inr 9)), some (.inl c1), some (.inl c2), some (.inl c3), none] [] h
  have hR0 := hR
  obtain ⟨a1, a2, a3, a4, a5, a6, a7, a8, a9⟩ := hR0
  obtain ⟨w1, w2, w3, w4, w5, w6, w7, w8, w9, w10, w11, w12⟩ := hW
  have hK : 0 ≤ S 0 0 ∧ S 0 0 ≤ 300 := ⟨w1, w2⟩
  unfold okc at hc
  refine E_s 2 (i' := 2) (ls' := [some (.inr (.inr 9)), some (.inl c1), some (.inl c2), some (.inl c3), none]) (sk' := [.inl (h 9 16)]) (h' := h) rfl ?_
  refine E_b (x := (.ifCond .ne 10, 8, [], [])) rfl rfl (fun cb2 => ?_) (fun cb2 => ?_)
  · rw [c_ne (by first | exact ⟨by omega, by omega⟩ | (rw [a4]; exact ⟨by omega, by omega⟩)) (by first | exact ⟨by omega, by omega⟩ | (rw [a4]; exact ⟨by omega, by omega⟩))] at cb2
    simp only [decide_eq_true_eq, decide_eq_false_iff_not, Decidable.not_not] at cb2
    show xEx G0 cdX3_offer (some .boolean) (xRn G0 MT (d + 3)) Q b 8 [some (.inr (.inr 9)), some (.inl c1), some (.inl c2), some (.inl c3), none] [] h
    have h3 : S 0 3 ≠ 0 := by rw [← a4]; exact cb2
    refine E_s 16 (i' := 24) (ls' := [some (.inr (.inr 9)), some (.inl c1), some (.inl c2), some (.inl c3), none]) (sk' := [.inl c3, .inl c2, .inl c1, .inr (.inr 9)]) (h' := (xup (xup h 9 16 ((h 9 16) - 1)) 9 12 ((h 9 12) + 1))) rfl ?_
    refine E_cv (x := (.invokevirtual 119, 3, [(1, 11), (7, 83)], [1])) (q := fun h9 => RK (xup (xup h 9 16 ((h 9 16) - 1)) 9 12 ((h 9 12) + 1)) h9 (fun e => if c1 = 10 then rwf (xup (xup h 9 16 ((h 9 16) - 1)) 9 12 ((h 9 12) + 1)) c2 e else if c1 = 11 then c2 else ap c1 ((xup (xup h 9 16 ((h 9 16) - 1)) 9 12 ((h 9 12) + 1)) 24 (c2 * 12 + e)) ((xup (xup h 9 16 ((h 9 16) - 1)) 9 12 ((h 9 12) + 1)) 24 (c3 * 12 + e)))) rfl rfl (Nat.le_of_ble_eq_true rfl) (c_reckon d 0 (xup (xup h 9 16 ((h 9 16) - 1)) 9 12 ((h 9 12) + 1)) c1 c2 c3 (S 0 0) a1 hn hK (fun k e h1 h2 h3 h4 => by rw [show (xup (xup h 9 16 ((h 9 16) - 1)) 9 12 ((h 9 12) + 1)) 24 (k * 12 + e) = h 24 (k * 12 + e) from rfl, a7 k e h1 h2 h3 h4]; exact w3 k e h1 h2 h3 h4) hc (fun h9 h8 => ⟨rfl, h8⟩)) (fun h1 hk => ?_)
    have hk : RK (xup (xup h 9 16 (h 9 16 - 1)) 9 12 (h 9 12 + 1)) h1 (fun e => if c1 = 10 then rwf h c2 e else if c1 = 11 then c2 else ap c1 (h 24 (c2 * 12 + e)) (h 24 (c3 * 12 + e))) := hk
    have hR1 := L_rk hR hn hk
    have hF1 : FG h h1 := FG.tr (FG.up (FG.up (FG.rf h) (a := 9) (j := 16) (z := h 9 16 - 1) (by decide) (by decide)) (a := 9) (j := 12) (z := h 9 12 + 1) (by decide) (by decide)) (FG.rk hk)
    obtain ⟨k1, k2, k3, k4', k5'⟩ := hk
    have k4 : ∀ e, 0 ≤ e → e < h 1 2 → h1 24 (S 0 0 * 12 + e) = if c1 = 10 then rwf h c2 e else if c1 = 11 then c2 else ap c1 (h 24 (c2 * 12 + e)) (h 24 (c3 * 12 + e)) := by
      intro e z1 z2
      have z3 := k4' e z1 z2
      rw [show (xup (xup h 9 16 (h 9 16 - 1)) 9 12 (h 9 12 + 1)) 9 9 = S 0 0 from a1] at z3
      exact z3
    have k5 : h1 9 23 = HS (h 1 2) (fun e => if c1 = 10 then rwf h c2 e else if c1 = 11 then c2 else ap c1 (h 24 (c2 * 12 + e)) (h 24 (c3 * 12 + e))) := k5'
    have hex : h1 1 = h 1 := k1 1 (by decide) (by decide)
    have hK1 : h1 9 9 = S 0 0 := hR1.1
    have ho1 : ∀ e, 0 ≤ e → e < h 1 2 → h1 24 (S 0 0 * 12 + e) = oE (rwf h) S c1 c2 c3 e := by
      intro e he0 he9
      rw [k4 e he0 he9]
      unfold oE
      by_cases z1 : c1 = 10
      · rw [if_pos z1, if_pos z1]
      · rw [if_neg z1, if_neg z1]
        by_cases z2 : c1 = 11
        · rw [if_pos z2, if_pos z2]
        · rw [if_neg z2, if_neg z2]
          rcases hc with hc | hc | ⟨q1, q2, q3, q4, q5, q6⟩
          · exact absurd hc.1 z1
          · exact absurd hc.1 z2
          · rw [a7 c2 e q3 q4 he0 he9, a7 c3 e q5 q6 he0 he9]
    have hro : ∀ e, 0 ≤ e → e < h 1 2 → xr (oE (rwf h) S c1 c2 c3 e) := by
      intro e he0 he9
      unfold oE
      split
      · exact (hrw e he0 he9).2 c2
      · split
        · rcases hc with hc | hc | hc
          · omega
          · exact ⟨by omega, by omega⟩
          · omega
        · rcases hc with hc | hc | ⟨q1, q2, q3, q4, q5, q6⟩
          · exact absurd hc.1 (by assumption)
          · exact absurd hc.1 (by assumption)
          · exact ap_r (w3 c2 e q3 q4 he0 he9) (w3 c3 e q5 q6 he0 he9)
    have hsr : h1 9 23 = HS (h 1 2) (oE (rwf h) S c1 c2 c3) := by
      rw [k5]
      refine HS_congr (fun e he0 he9 => ?_)
      exact (k4 e he0 he9).symm.trans (ho1 e he0 he9)
    show xEx G0 cdX3_offer (some .boolean) (xRn G0 MT (d + 3)) Q b 25 [some (.inr (.inr 9)), some (.inl c1), some (.inl c2), some (.inl c3), none] [] h1
    refine E_s 1 (i' := 26) (ls' := [some (.inr (.inr 9)), some (.inl c1), some (.inl c2), some (.inl c3), none]) (sk' := [.inr (.inr 9)]) (h' := h1) rfl ?_
    refine E_ci (x := (.invokevirtual 123, 0, [(1, 13), (7, 85)], [1])) (r := 0) (h' := h1) rfl rfl (Nat.le_of_ble_eq_true rfl) (c_saysNothing (d + 2) 0 h1 ⟨rfl, rfl⟩) ?_
    show xEx G0 cdX3_offer (some .boolean) (xRn G0 MT (d + 3)) Q b 27 [some (.inr (.inr 9)), some (.inl c1), some (.inl c2), some (.inl c3), none] [.inl 0] h1
    refine E_b (x := (.ifCond .eq 15, 36, [], [])) rfl rfl (fun cb27 => ?_) (fun cb27 => ?_)
    · rw [c_eq (by first | assumption | (refine ⟨?_, ?_⟩ <;> omega) | (simp only [xr] at *; omega)) (by first | assumption | (refine ⟨?_, ?_⟩ <;> omega) | (simp only [xr] at *; omega))] at cb27
      simp only [decide_eq_true_eq, decide_eq_false_iff_not, Decidable.not_not] at cb27
      show xEx G0 cdX3_offer (some .boolean) (xRn G0 MT (d + 3)) Q b 36 [some (.inr (.inr 9)), some (.inl c1), some (.inl c2), some (.inl c3), none] [] h1
      refine E_s 1 (i' := 37) (ls' := [some (.inr (.inr 9)), some (.inl c1), some (.inl c2), some (.inl c3), none]) (sk' := [.inr (.inr 9)]) (h' := h1) rfl ?_
      have hrr : ∀ k e, 0 ≤ k → k ≤ h1 9 9 → 0 ≤ e → e < h1 1 2 → xr (h1 24 (k * 12 + e)) := by
        intro k e z1 z2 z3 z4
        rw [hex] at z4
        rw [hK1] at z2
        rcases Int.lt_or_eq_of_le z2 with z | z
        · rw [hR1.2.2.2.2.2.2.1 k e z1 z z3 (by rw [hex]; exact z4)]
          exact w3 k e z1 z z3 z4
        · rw [z, ho1 e z3 z4]
          exact hro e z3 z4
      have hsame : ∀ k, 0 ≤ k → k < S 0 0 → ((∀ e, 0 ≤ e → e < h1 1 2 → h1 24 (k * 12 + e) = h1 24 (h1 9 9 * 12 + e)) ↔ eqr (h 1 2) S (oE (rwf h) S c1 c2 c3) k) := by
        intro k z1 z2
        rw [hK1, hex]
        constructor
        · intro hh e z3 z4
          have := hh e z3 z4
          rw [hR1.2.2.2.2.2.2.1 k e z1 z2 z3 (by rw [hex]; exact z4), ho1 e z3 z4] at this
          exact this
        · intro hh e z3 z4
          rw [hR1.2.2.2.2.2.2.1 k e z1 z2 z3 (by rw [hex]; exact z4), ho1 e z3 z4]
          exact hh e z3 z4
      refine E_cp (x := (.invokevirtual 127, 0, [(1, 14), (7, 86)], [1])) (q := fun r h9 => ((r = -1 ∧ ∀ k, 0 ≤ k → k < S 0 0 → ¬ eqr (h 1 2) S (oE (rwf h) S c1 c2 c3) k) ∨ (0 ≤ r ∧ r < S 0 0 ∧ eqr (h 1 2) S (oE (rwf h) S c1 c2 c3) r)) ∧ h1 = h9) rfl rfl (Nat.le_of_ble_eq_true rfl) (c_holder (d + 1) 0 h1 (by rw [hex]; exact hn) (by rw [hK1]; exact hK) (by rw [hK1]; exact hR1.2.2.2.2.2.2.2.1) (by rw [hsr]; exact HS_r _ _) hrr (fun k z1 z2 z3 => by
        rw [hK1] at z2
        rw [hR1.2.2.2.2.2.2.2.2 k z1 z2, hsr, hex]
        exact HS_congr (fun e z4 z5 => (hsame k z1 z2).mp z3 e z4 z5)) (fun k z1 z2 z3 => ⟨k, rfl, Or.inr ⟨z1, by rw [hK1] at z2; exact z2, (hsame k z1 (by rw [hK1] at z2; exact z2)).mp z3⟩, rfl⟩) (fun z1 => ⟨-1, rfl, Or.inl ⟨rfl, fun k z2 z3 z4 => z1 k z2 (by rw [hK1]; exact z3) ((hsame k z2 z3).mpr z4)⟩, rfl⟩)) (fun r h9 hq => ?_)
      obtain ⟨hq, rfl⟩ := hq
      show xEx G0 cdX3_offer (some .boolean) (xRn G0 MT (d + 3)) Q b 38 [some (.inr (.inr 9)), some (.inl c1), some (.inl c2), some (.inl c3), none] [.inl r] h1
      refine E_s 3 (i' := 41) (ls' := [some (.inr (.inr 9)), some (.inl c1), some (.inl c2), some (.inl c3), some (.inl r)]) (sk' := [.inl (-1), .inl r]) (h' := h1) rfl ?_
      refine E_b (x := (.if_icmp .eq 14, 50, [], [])) rfl rfl (fun cb41 => ?_) (fun cb41 => ?_)
      · rw [c_eq (by first | exact ⟨by omega, by omega⟩ | (rcases hq with hq | hq <;> exact ⟨by omega, by omega⟩)) (by first | exact ⟨by omega, by omega⟩ | (rcases hq with hq | hq <;> exact ⟨by omega, by omega⟩))] at cb41
        simp only [decide_eq_true_eq, decide_eq_false_iff_not, Decidable.not_not] at cb41
        show xEx G0 cdX3_offer (some .boolean) (xRn G0 MT (d + 3)) Q b 50 [some (.inr (.inr 9)), some (.inl c1), some (.inl c2), some (.inl c3), some (.inl r)] [] h1
        have hfn : fnd (eqr (h 1 2) S (oE (rwf h) S c1 c2 c3)) (S 0 0).toNat = -1 := by
          refine fnd_no ?_
          rcases hq with hq | hq
          · exact hq.2
          · omega
        refine E_s 5 (i' := 55) (ls' := [some (.inr (.inr 9)), some (.inl c1), some (.inl c2), some (.inl c3), some (.inl r)]) (sk' := [.inl 300, .inl (h1 9 9)]) (h' := h1) rfl ?_
        refine E_b (x := (.if_icmp .lt 10, 61, [], [])) rfl rfl (fun cb55 => ?_) (fun cb55 => ?_)
        · rw [c_lt (by exact ⟨by omega, by omega⟩) (by exact ⟨by omega, by omega⟩)] at cb55
          simp only [decide_eq_true_eq, decide_eq_false_iff_not, Decidable.not_not] at cb55
          show xEx G0 cdX3_offer (some .boolean) (xRn G0 MT (d + 3)) Q b 61 [some (.inr (.inr 9)), some (.inl c1), some (.inl c2), some (.inl c3), some (.inl r)] [] h1
          refine E_s 7 (i' := 68) (ls' := [some (.inr (.inr 9)), some (.inl c1), some (.inl c2), some (.inl c3), some (.inl r)]) (sk' := [.inl c3, .inl c2, .inl c1, .inl (h1 9 9), .inr (.inr 10)]) (h' := h1) rfl ?_
          refine E_cv (x := (.invokevirtual 134, 4, [(2, 23)], [0])) (q := fun h9 => h9 = xup (xup (xup h1 11 (h1 9 9) c1) 12 (h1 9 9) c2) 13 (h1 9 9) c3) rfl rfl (Nat.le_of_ble_eq_true rfl) (c_put_gef (d + 2) 0 h1 (h1 9 9) c1 c2 c3 (by omega) ⟨rfl, rfl⟩) (fun h9 e9 => ?_)
          subst e9
          show xEx G0 cdX3_offer (some .boolean) (xRn G0 MT (d + 3)) Q b 69 [some (.inr (.inr 9)), some (.inl c1), some (.inl c2), some (.inl c3), some (.inl r)] [] (xup (xup (xup h1 11 (h1 9 9) c1) 12 (h1 9 9) c2) 13 (h1 9 9) c3)
          refine E_s 6 (i' := 75) (ls' := [some (.inr (.inr 9)), some (.inl c1), some (.inl c2), some (.inl c3), some (.inl r)]) (sk' := [.inl (h1 9 15), .inl (h1 9 9), .inr (.inr 18)]) (h' := (xup (xup (xup h1 11 (h1 9 9) c1) 12 (h1 9 9) c2) 13 (h1 9 9) c3)) rfl ?_
          refine E_sd (x := (.iastore, 0, [], [])) (ty := .int) (n := 300) (y := (h1 9 15)) rfl rfl rfl (by omega) (by omega) (trivial) ?_
          show xEx G0 cdX3_offer (some .boolean) (xRn G0 MT (d + 3)) Q b 76 [some (.inr (.inr 9)), some (.inl c1), some (.inl c2), some (.inl c3), some (.inl r)] [] (xup (xup (xup (xup h1 11 (h1 9 9) c1) 12 (h1 9 9) c2) 13 (h1 9 9) c3) 18 (h1 9 9) (h1 9 15))
          refine E_s 8 (i' := 84) (ls' := [some (.inr (.inr 9)), some (.inl c1), some (.inl c2), some (.inl c3), some (.inl r)]) (sk' := [.inl c3, .inl c2, .inl c1, .inr (.inr 9), .inl (h1 9 9), .inr (.inr 19)]) (h' := (xup (xup (xup (xup h1 11 (h1 9 9) c1) 12 (h1 9 9) c2) 13 (h1 9 9) c3) 18 (h1 9 9) (h1 9 15))) rfl ?_
          have eus : (if 10 ≤ c1 then 0 else if c1 = 5 ∨ c1 = 8 ∨ c1 = 9 then 16 ^ c1.toNat + h1 19 c2 else 16 ^ c1.toNat + h1 19 c2 + h1 19 c3) = usE S c1 c2 c3 := by
            unfold usE
            by_cases z1 : 10 ≤ c1
            · rw [if_pos z1, if_pos z1]
            · rw [if_neg z1, if_neg z1]
              rcases hc with hc | hc | ⟨q1, q2, q3, q4, q5, q6⟩
              · omega
              · omega
              · rw [(hR1.2.2.2.2.2.1 c2 q3 q4).2.2.2.2.2.2.1, (hR1.2.2.2.2.2.1 c3 q5 q6).2.2.2.2.2.2.1]; rfl
          refine E_cl (x := (.invokevirtual 137, 3, [(1, 18), (7, 89)], [1])) (r := usE S c1 c2 c3) (h' := xup (xup (xup (xup h1 11 (h1 9 9) c1) 12 (h1 9 9) c2) 13 (h1 9 9) c3) 18 (h1 9 9) (h1 9 15)) rfl rfl (Nat.le_of_ble_eq_true rfl) (c_usageOf (d + 1) 0 (xup (xup (xup (xup h1 11 (h1 9 9) c1) 12 (h1 9 9) c2) 13 (h1 9 9) c3) 18 (h1 9 9) (h1 9 15)) c1 c2 c3 (by rcases hc with hc | hc | hc; exact Or.inl (by omega); exact Or.inl (by omega); exact Or.inr (by omega)) ⟨by rw [← eus]; rfl, rfl⟩) ?_
          show xEx G0 cdX3_offer (some .boolean) (xRn G0 MT (d + 3)) Q b 85 [some (.inr (.inr 9)), some (.inl c1), some (.inl c2), some (.inl c3), some (.inl r)] [.inr (.inl (usE S c1 c2 c3)), .inl (h1 9 9), .inr (.inr 19)] (xup (xup (xup (xup h1 11 (h1 9 9) c1) 12 (h1 9 9) c2) 13 (h1 9 9) c3) 18 (h1 9 9) (h1 9 15))
          refine E_sd (x := (.lastore, 0, [], [])) (ty := .long) (n := 300) (y := (usE S c1 c2 c3)) rfl rfl rfl (by omega) (by omega) (trivial) ?_
          show xEx G0 cdX3_offer (some .boolean) (xRn G0 MT (d + 3)) Q b 86 [some (.inr (.inr 9)), some (.inl c1), some (.inl c2), some (.inl c3), some (.inl r)] [] (xup (xup (xup (xup (xup h1 11 (h1 9 9) c1) 12 (h1 9 9) c2) 13 (h1 9 9) c3) 18 (h1 9 9) (h1 9 15)) 19 (h1 9 9) (usE S c1 c2 c3))
          refine E_s 5 (i' := 91) (ls' := [some (.inr (.inr 9)), some (.inl c1), some (.inl c2), some (.inl c3), some (.inl r)]) (sk' := [.inl 0, .inl (h1 9 9), .inr (.inr 21)]) (h' := (xup (xup (xup (xup (xup h1 11 (h1 9 9) c1) 12 (h1 9 9) c2) 13 (h1 9 9) c3) 18 (h1 9 9) (h1 9 15)) 19 (h1 9 9) (usE S c1 c2 c3))) rfl ?_
          refine E_sd (x := (.iastore, 0, [], [])) (ty := .int) (n := 300) (y := 0) rfl rfl rfl (by omega) (by omega) (trivial) ?_
          show xEx G0 cdX3_offer (some .boolean) (xRn G0 MT (d + 3)) Q b 92 [some (.inr (.inr 9)), some (.inl c1), some (.inl c2), some (.inl c3), some (.inl r)] [] (xup (xup (xup (xup (xup (xup h1 11 (h1 9 9) c1) 12 (h1 9 9) c2) 13 (h1 9 9) c3) 18 (h1 9 9) (h1 9 15)) 19 (h1 9 9) (usE S c1 c2 c3)) 21 (h1 9 9) 0)
          refine E_s 3 (i' := 95) (ls' := [some (.inr (.inr 9)), some (.inl c1), some (.inl c2), some (.inl c3), some (.inl r)]) (sk' := [.inl (h1 9 9), .inr (.inr 9)]) (h' := (xup (xup (xup (xup (xup (xup h1 11 (h1 9 9) c1) 12 (h1 9 9) c2) 13 (h1 9 9) c3) 18 (h1 9 9) (h1 9 15)) 19 (h1 9 9) (usE S c1 c2 c3)) 21 (h1 9 9) 0)) rfl ?_
          refine E_cv (x := (.invokevirtual 141, 1, [(1, 16), (7, 87)], [1])) (q := fun h9 => h9 = xup (xup (xup (xup (xup (xup (xup (xup (xup (xup h1 11 (h1 9 9) c1) 12 (h1 9 9) c2) 13 (h1 9 9) c3) 18 (h1 9 9) (h1 9 15)) 19 (h1 9 9) (usE S c1 c2 c3)) 21 (h1 9 9) 0) 27 (h1 9 9) (h1 9 23)) 26 (h1 9 9) (h1 25 (h1 9 23))) 25 (h1 9 23) (h1 9 9)) 20 (h1 9 9) ((cv (fun e => h1 24 (h1 9 9 * 12 + e) = h1 6 e) (h1 1 2).toNat : Nat) : Int)) rfl rfl (Nat.le_of_ble_eq_true rfl) (c_settle (d + 1) 0 (xup (xup (xup (xup (xup (xup h1 11 (h1 9 9) c1) 12 (h1 9 9) c2) 13 (h1 9 9) c3) 18 (h1 9 9) (h1 9 15)) 19 (h1 9 9) (usE S c1 c2 c3)) 21 (h1 9 9) 0) (h1 9 9) (by show 0 ≤ h1 1 2 ∧ h1 1 2 ≤ 12; rw [hex]; exact hn) (by omega) (by show 0 ≤ h1 9 23 ∧ h1 9 23 ≤ 511; rw [hsr]; exact HS_r _ _) (fun e z1 z2 => ⟨by show xr (h1 24 (h1 9 9 * 12 + e)); exact hrr _ e (by omega) (by omega) z1 z2, by show xr (h1 6 e); rw [k1 6 (by decide) (by decide)]; exact (hrw e z1 (by have z3 : e < h1 1 2 := z2; rw [hex] at z3; exact z3)).1⟩) ⟨rfl, rfl⟩) (fun h9 e9 => ?_)
          subst e9
          show xEx G0 cdX3_offer (some .boolean) (xRn G0 MT (d + 3)) Q b 96 [some (.inr (.inr 9)), some (.inl c1), some (.inl c2), some (.inl c3), some (.inl r)] [] (xup (xup (xup (xup (xup (xup (xup (xup (xup (xup h1 11 (h1 9 9) c1) 12 (h1 9 9) c2) 13 (h1 9 9) c3) 18 (h1 9 9) (h1 9 15)) 19 (h1 9 9) (usE S c1 c2 c3)) 21 (h1 9 9) 0) 27 (h1 9 9) (h1 9 23)) 26 (h1 9 9) (h1 25 (h1 9 23))) 25 (h1 9 23) (h1 9 9)) 20 (h1 9 9) ((cv (fun e => h1 24 (h1 9 9 * 12 + e) = h1 6 e) (h1 1 2).toNat : Nat) : Int))
          refine E_s 7 (i' := 103) (ls' := [some (.inr (.inr 9)), some (.inl c1), some (.inl c2), some (.inl c3), some (.inl r)]) (sk' := [.inl 1]) (h' := (xup (xup (xup (xup (xup (xup (xup (xup (xup (xup (xup h1 11 (h1 9 9) c1) 12 (h1 9 9) c2) 13 (h1 9 9) c3) 18 (h1 9 9) (h1 9 15)) 19 (h1 9 9) (usE S c1 c2 c3)) 21 (h1 9 9) 0) 27 (h1 9 9) (h1 9 23)) 26 (h1 9 9) (h1 25 (h1 9 23))) 25 (h1 9 23) (h1 9 9)) 20 (h1 9 9) ((cv (fun e => h1 24 (h1 9 9 * 12 + e) = h1 6 e) (h1 1 2).toNat : Nat) : Int)) 9 9 ((h1 9 9) + 1))) rfl ?_
          exact E_ret (x := (.ireturn, 0, [], [])) (v := some (.inl 1)) rfl (Or.inr ⟨rfl, Or.inr rfl⟩) (by
            rw [offE_a ho h3 hfn (by rw [← hK1]; omega)] at hQ
            have hrow : h1 6 = h 6 := k1 6 (by decide) (by decide)
            have hsz : h1 9 15 = h 9 15 := hF1.2.2.2.2
            have key := L_a (c1 := c1) (c2 := c2) (c3 := c3) (us := usE S c1 c2 c3) (o := oE (rwf h) S c1 c2 c3) hR1 hK.1 (by rw [hex]; exact hsr) (fun e z1 z2 => by rw [hK1]; exact ho1 e z1 (by rw [hex] at z2; exact z2)) rfl rfl (by rw [hex]; exact hn)
            have hS4 : appE (mad S) (h 1 2) (h 9 15) c1 c2 c3 (oE (rwf h) S c1 c2 c3) (cv (fun e => oE (rwf h) S c1 c2 c3 e = h 6 e) (h 1 2).toNat) (usE S c1 c2 c3) 0 4 = 0 := ho
            rw [hS4] at hQ
            refine hQ _ ?_ (FG.up (FG.up (FG.up (FG.up (FG.up (FG.up (FG.up (FG.up (FG.up (FG.up (FG.up hF1 (by decide) (fun z => absurd z (by decide))) (by decide) (fun z => absurd z (by decide))) (by decide) (fun z => absurd z (by decide))) (by decide) (fun z => absurd z (by decide))) (by decide) (fun z => absurd z (by decide))) (by decide) (fun z => absurd z (by decide))) (by decide) (fun z => absurd z (by decide))) (by decide) (fun z => absurd z (by decide))) (by decide) (fun z => absurd z (by decide))) (by decide) (fun z => absurd z (by decide))) (by decide) (by decide))
            rw [hex, hrow, hsz] at key
            rw [hex, hrow, hsz]
            exact key)
        · rw [c_lt (by exact ⟨by omega, by omega⟩) (by exact ⟨by omega, by omega⟩)] at cb55
          simp only [decide_eq_true_eq, decide_eq_false_iff_not, Decidable.not_not] at cb55
          show xEx G0 cdX3_offer (some .boolean) (xRn G0 MT (d + 3)) Q b 56 [some (.inr (.inr 9)), some (.inl c1), some (.inl c2), some (.inl c3), some (.inl r)] [] h1
          refine E_s 4 (i' := 60) (ls' := [some (.inr (.inr 9)), some (.inl c1), some (.inl c2), some (.inl c3), some (.inl r)]) (sk' := [.inl 0]) (h' := (xup h1 9 17 1)) rfl ?_
          exact E_ret (x := (.ireturn, 0, [], [])) (v := some (.inl 0)) rfl (Or.inr ⟨rfl, Or.inl rfl⟩) (by
            rw [offE_f ho h3 hfn (by rw [← hK1]; omega)] at hQ
            exact hQ _ (L_o hR1) (FG.up hF1 (by decide) (by decide)))
      · rw [c_eq (by first | exact ⟨by omega, by omega⟩ | (rcases hq with hq | hq <;> exact ⟨by omega, by omega⟩)) (by first | exact ⟨by omega, by omega⟩ | (rcases hq with hq | hq <;> exact ⟨by omega, by omega⟩))] at cb41
        simp only [decide_eq_true_eq, decide_eq_false_iff_not, Decidable.not_not] at cb41
        show xEx G0 cdX3_offer (some .boolean) (xRn G0 MT (d + 3)) Q b 42 [some (.inr (.inr 9)), some (.inl c1), some (.inl c2), some (.inl c3), some (.inl r)] [] h1
        refine E_s 5 (i' := 47) (ls' := [some (.inr (.inr 9)), some (.inl c1), some (.inl c2), some (.inl c3), some (.inl r)]) (sk' := [.inl c3, .inl c2, .inl c1, .inl r, .inr (.inr 9)]) (h' := h1) rfl ?_
        have hq1 : 0 ≤ r ∧ r < S 0 0 ∧ eqr (h 1 2) S (oE (rwf h) S c1 c2 c3) r := by
          rcases hq with hq | hq
          · exact absurd hq.1 cb41
          · exact hq
        have hfr : fnd (eqr (h 1 2) S (oE (rwf h) S c1 c2 c3)) (S 0 0).toNat = r := fnd_is hq1.1 hq1.2.1 hq1.2.2 (fun j z1 z2 z3 => w4 j r z1 z2 hq1.2.1 (fun e z4 z5 => (z3 e z4 z5).trans (hq1.2.2 e z4 z5).symm))
        have hm7 : h1 21 r = S 7 r := (hR1.2.2.2.2.2.1 r hq1.1 hq1.2.1).2.2.2.2.2.1
        have hw5 := w5 r hq1.1 hq1.2.1
        refine E_cv (x := (.invokevirtual 130, 4, [(1, 36), (7, 36)], [1])) (q := fun h9 => h9 = xup (xup (if h1 21 r = 0 then xup (xup (xup h1 15 r c1) 16 r c2) 17 r c3 else h1) 21 r (h1 21 r + 1)) 9 10 (h1 9 10 + 1)) rfl rfl (Nat.le_of_ble_eq_true rfl) (c_merge_ge (d + 1) 0 h1 r c1 c2 c3 (by omega) (by rw [hm7]; omega) ⟨rfl, rfl⟩) (fun h9 e9 => ?_)
        subst e9
        show xEx G0 cdX3_offer (some .boolean) (xRn G0 MT (d + 3)) Q b 48 [some (.inr (.inr 9)), some (.inl c1), some (.inl c2), some (.inl c3), some (.inl r)] [] (xup (xup (if h1 21 r = 0 then xup (xup (xup h1 15 r c1) 16 r c2) 17 r c3 else h1) 21 r (h1 21 r + 1)) 9 10 (h1 9 10 + 1))
        refine E_s 1 (i' := 49) (ls' := [some (.inr (.inr 9)), some (.inl c1), some (.inl c2), some (.inl c3), some (.inl r)]) (sk' := [.inl 1]) (h' := (xup (xup (if h1 21 r = 0 then xup (xup (xup h1 15 r c1) 16 r c2) 17 r c3 else h1) 21 r (h1 21 r + 1)) 9 10 (h1 9 10 + 1))) rfl ?_
        exact E_ret (x := (.ireturn, 0, [], [])) (v := some (.inl 1)) rfl (Or.inr ⟨rfl, Or.inr rfl⟩) (by
          rw [offE_m ho h3 hfr (by omega)] at hQ
          have hS4 : mrgS (mad S) r c1 c2 c3 0 4 = 0 := by unfold mrgS; split <;> exact ho
          rw [hS4] at hQ
          refine hQ _ (L_m hR1 ⟨hq1.1, hq1.2.1⟩) (FG.up (FG.up ?_ (by decide) (fun z => absurd z (by decide))) (by decide) (by decide))
          split
          · exact FG.up (FG.up (FG.up hF1 (by decide) (fun z => absurd z (by decide))) (by decide) (fun z => absurd z (by decide))) (by decide) (fun z => absurd z (by decide))
          · exact hF1)
    · rw [c_eq (by first | assumption | (refine ⟨?_, ?_⟩ <;> omega) | (simp only [xr] at *; omega)) (by first | assumption | (refine ⟨?_, ?_⟩ <;> omega) | (simp only [xr] at *; omega))] at cb27
      simp only [decide_eq_true_eq, decide_eq_false_iff_not, Decidable.not_not] at cb27
      show xEx G0 cdX3_offer (some .boolean) (xRn G0 MT (d + 3)) Q b 28 [some (.inr (.inr 9)), some (.inl c1), some (.inl c2), some (.inl c3), none] [] h1
      exact absurd trivial cb27
  · rw [c_ne (by first | exact ⟨by omega, by omega⟩ | (rw [a4]; exact ⟨by omega, by omega⟩)) (by first | exact ⟨by omega, by omega⟩ | (rw [a4]; exact ⟨by omega, by omega⟩))] at cb2
    simp only [decide_eq_true_eq, decide_eq_false_iff_not, Decidable.not_not] at cb2
    show xEx G0 cdX3_offer (some .boolean) (xRn G0 MT (d + 3)) Q b 3 [some (.inr (.inr 9)), some (.inl c1), some (.inl c2), some (.inl c3), none] [] h
    refine E_s 4 (i' := 7) (ls' := [some (.inr (.inr 9)), some (.inl c1), some (.inl c2), some (.inl c3), none]) (sk' := [.inl 0]) (h' := (xup h 9 17 2)) rfl ?_
    exact E_ret (x := (.ireturn, 0, [], [])) (v := some (.inl 0)) rfl (Or.inr ⟨rfl, Or.inl rfl⟩) (by
      rw [offE_b ho (by rw [← a4]; exact cb2)] at hQ
      exact hQ _ (L_o hR) (FG.up (FG.rf h) (by decide) (by decide)))
