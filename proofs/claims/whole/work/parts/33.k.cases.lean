/-! the law's cases -/
def LSx (i : Int) : xL := [some (.inr (.inr 3000)), some (.inr (.inr 0)), some (.inr (.inr 66)), some (.inr (.inr 112)), some (.inl i), none, none]
abbrev LCl (cd : List xI) (L : Nat) (xs : Int → Int) (Q : xO → xH → Prop) (P : xPr) : Prop := xClL G0 cd (some .boolean) (xRn2 G0 MT 40) (xHl HT 40) hkL 7 (0, []) (some (L, xs)) Q P
theorem wvb_e {t : Bool} {r1 r2 : Int} (h : w32 r1 = w32 r2) : wvb t r1 = wvb t r2 := by unfold wvb bz; rw [h]
theorem xup_self (h : xH) (a : Nat) (j : Int) : xup h a j (h a j) = h := by
  funext a' j'
  unfold xup
  split
  · rename_i e
    split
    · rename_i e2
      rw [e, e2]
    · rfl
  · rfl
theorem xcc_eqs (a : Int) : xcc .eq a a = true := by simp [xcc]
theorem xcc_eqw {a b : Int} (h : w32 a = w32 b) : xcc .eq a b = true := by simp [xcc, h]
theorem xcc_v {v : Int} (h : 0 ≤ v ∧ v ≤ 2) (hf : xcc .ne v 0 = false) : v = 0 := by
  have h3 : v = 0 ∨ v = 1 ∨ v = 2 := by omega
  rcases h3 with rfl | rfl | rfl
  · rfl
  · exact absurd hf (by decide)
  · exact absurd hf (by decide)
theorem xcmp_e {a b : Int} (h : a = b) : xcc .eq (xcmp a b) 0 = true := by
  subst h
  have e : xcmp a a = 0 := by unfold xcmp; rw [if_neg (Int.lt_irrefl _), if_pos rfl]
  rw [e]
  decide
/-- what a helper leaves, and what the reference's call makes of it -/
def HQ2 (mr : Nat) (t : Bool) (zs : List Int) (v : Int) (h' : xH) : Prop := (0 ≤ v ∧ v ≤ 2) ∧ xRn2 G0 MT 40 0 mr (.inr (.inr 66) :: zs.map .inl) h' (fun o2 h2 => Inv h2 ∧ ∃ r2, o2 = .inl (some (.inl r2)) ∧ h2 66 0 = v ∧ (v = 0 → h2 112 0 = wvb t r2))
theorem CO2_h {b mc mr hn : Nat} {zs : List Int} {ex : List String} {t : Bool} {h : xH} (hT : HT[hn]? = some (mc, ex, zs.length, t)) (hnd : ex.Nodup) (hl : ex.length ≤ 2) (c : CO2 40 b mc mr (zs.map .inl) ex h) : xHl HT 40 b hn (.inr (.inr 0) :: (zs.map .inl ++ [.inr (.inr 112)])) h (HQ2 mr t zs) := by
  refine ⟨_, zs, hT, rfl, rfl, xRn2_q (fun o h1 hF => ?_) c⟩
  obtain ⟨o2, h2, -, -, r2, -, hag⟩ := xRn2_ex _ _ _ _ _ _ (hF 0)
  rcases hag with ⟨r1, rfl, -, -⟩ | ⟨k, E, rfl, hE, -⟩
  · refine Or.inl ⟨r1, rfl, ⟨by decide, by decide⟩, xRn2_q (fun o2 h2 hz => ?_) (hF (wvb t r1))⟩
    obtain ⟨hI, hw, r2, ho2, hag⟩ := hz
    rcases hag with ⟨r1', e, h0, hww⟩ | ⟨k, E, e, -⟩
    · cases e
      exact ⟨hI, r2, ho2, h0, fun _ => by rw [hw]; exact wvb_e hww⟩
    · cases e
  · have hk : k < ex.length := (List.getElem?_eq_some_iff.mp hE).1
    have hF1 := hF (h1 112 0)
    rw [xup_self] at hF1
    refine Or.inr ⟨k, E, rfl, hE, ⟨by omega, by omega⟩, xRn2_q (fun o2 h2 hz => ?_) hF1⟩
    obtain ⟨hI, hw, r2, ho2, hag⟩ := hz
    rcases hag with ⟨r1', e, -⟩ | ⟨k', E', e, hE', hk'⟩
    · cases e
    · cases e
      have ek : k' = k := (List.getElem?_inj (List.getElem?_eq_some_iff.mp hE').1 hnd).mp (hE'.trans hE.symm)
      subst ek
      exact ⟨hI, r2, ho2, hk', fun hv => by omega⟩
theorem CO2_t {h : xH} {d b mc mr : Nat} {as : List xV} {ex : List String} {t : Int} (ht : t = 0 ∨ t = 1) (h0 : CO2 d b mc mr (.inl 0 :: as) ex h) (h1 : CO2 d b mc mr (.inl 1 :: as) ex h) : CO2 d b mc mr (.inl t :: as) ex h := by
  rcases ht with rfl | rfl
  · exact h0
  · exact h1
theorem CO2_v {d mr : Nat} {as : List xV} {o : xO} {h1 : xH} (hF : ∀ w : Int, xRn2 G0 MT d 0 mr as (xup h1 112 0 w) (fun o2 h2 => Inv h2 ∧ h2 112 0 = w ∧ AG [] o o2 h2)) : ∃ r1, o = .inl (some (.inl r1)) := by
  obtain ⟨o2, h2, -, -, r2, -, hag⟩ := xRn2_ex _ _ _ _ _ _ (hF 0)
  rcases hag with ⟨r1, rfl, -, -⟩ | ⟨k, E, rfl, hE, -⟩
  · exact ⟨r1, rfl⟩
  · cases hE
theorem m_thr2 (d : Nat) (h : xH) : xRn2 G0 MT (d + 1) 0 154 [.inr (.inr 66)] h (fun o h9 => o = .inl (some (.inl (h 66 0))) ∧ h9 = h) :=
  R2_of (M := mX12_thrown) rfl (by decide) (E2_s 2 (i' := 2) (ls' := [some (.inr (.inr 66))]) (sk' := [.inl (h 66 0)]) (h' := h) rfl (E2_ret (v := some (.inl (h 66 0))) rfl (Or.inl rfl) ⟨rfl, rfl⟩))

theorem sg_0 {P : xPr} {L : Nat} {xs : Int → Int} {Q : xO → xH → Prop} (hP : LCl cdS0 L xs Q P) {i : Int} (h0 : 0 ≤ i) (h1 : i + 6 ≤ L) (hxs : ∀ j, xr (xs j)) {b : Nat} {h : xH} (hI : Inv h) (kk : ∀ h' : xH, Inv h' → P b 35 (LSx i) [] h') : P (b + 4) 0 (LSx i) [] h := by
  refine EL_mono hP (b := 1 + b) (by omega) ?_
  refine EL_s hP 1 (i' := 1) (ls' := [some (.inr (.inr 3000)), some (.inr (.inr 0)), some (.inr (.inr 66)), some (.inr (.inr 112)), some (.inl i), none, none]) (sk' := [.inr (.inr 0)]) (h' := h) rfl ?_
  refine EL_s hP 4 (i' := 5) (ls' := [some (.inr (.inr 3000)), some (.inr (.inr 0)), some (.inr (.inr 66)), some (.inr (.inr 112)), some (.inl i), none, none]) (sk' := [.inl (i + 1), .inr (.inr 3000), .inr (.inr 0)]) (h' := h) rfl ?_
  refine EL_sl hP rfl rfl rfl (by omega) (by omega) ?_
  refine EL_s hP 1 (i' := 7) (ls' := [some (.inr (.inr 3000)), some (.inr (.inr 0)), some (.inr (.inr 66)), some (.inr (.inr 112)), some (.inl i), none, none]) (sk' := [.inr (.inr 112), .inl (xs (i + 1)), .inr (.inr 0)]) (h' := h) rfl ?_
  refine EL_hc hP (b1 := 1) (hn := 0) (as := .inr (.inr 0) :: (([xs (i + 1)] : List Int).map .inl ++ [.inr (.inr 112)])) (rest := []) rfl rfl (by decide) rfl (Nat.zero_le _) (CO2_h (zs := [xs (i + 1)]) rfl (by decide) (by decide) (CO.two (CO_many 34 hI (xs (i + 1)) (hxs _)))) (fun v h' hq => ?_)
  obtain ⟨hv, hq⟩ := hq
  refine EL_s hP 2 (i' := 10) (ls' := [some (.inr (.inr 3000)), some (.inr (.inr 0)), some (.inr (.inr 66)), some (.inr (.inr 112)), some (.inl i), some (.inl v), none]) (sk' := [.inr (.inr 66)]) (h' := h') rfl ?_
  refine EL_s hP 4 (i' := 14) (ls' := [some (.inr (.inr 3000)), some (.inr (.inr 0)), some (.inr (.inr 66)), some (.inr (.inr 112)), some (.inl i), some (.inl v), none]) (sk' := [.inl (i + 1), .inr (.inr 3000), .inr (.inr 66)]) (h' := h') rfl ?_
  refine EL_sl hP rfl rfl rfl (by omega) (by omega) ?_
  rw [← Nat.zero_add b]
  refine EL_call (b1 := 0) (b2 := b) (rest := []) hP rfl rfl (Nat.zero_le _) (fun e => absurd e (by decide)) hq (fun v2 h2 hz => ?_) (fun E h2 hz => by obtain ⟨-, r2, e, -⟩ := hz; cases e)
  obtain ⟨hI2, r2, e, hth, hout⟩ := hz
  cases e
  refine EL_s hP 2 (i' := 18) (ls' := [some (.inr (.inr 3000)), some (.inr (.inr 0)), some (.inr (.inr 66)), some (.inr (.inr 112)), some (.inl i), some (.inl v), some (.inl r2)]) (sk' := [.inr (.inr 66)]) (h' := h2) rfl ?_
  rw [← Nat.zero_add b]
  refine EL_call (b1 := 0) (b2 := b) (rest := []) hP rfl rfl (Nat.zero_le _) (fun e => absurd e (by decide)) (m_thr2 39 h2) (fun v3 h3 hz => ?_) (fun E h3 hz => by cases hz.1)
  obtain ⟨e, rfl⟩ := hz
  cases e
  refine EL_s hP 1 (i' := 20) (ls' := [some (.inr (.inr 3000)), some (.inr (.inr 0)), some (.inr (.inr 66)), some (.inr (.inr 112)), some (.inl i), some (.inl v), some (.inl r2)]) (sk' := [.inl v, .inl (h3 66 0)]) (h' := h3) rfl ?_
  have fin : P b 34 [some (.inr (.inr 3000)), some (.inr (.inr 0)), some (.inr (.inr 66)), some (.inr (.inr 112)), some (.inl i), some (.inl v), some (.inl r2)] [] h3 := EL_s hP 1 (i' := 35) (ls' := [some (.inr (.inr 3000)), some (.inr (.inr 0)), some (.inr (.inr 66)), some (.inr (.inr 112)), some (.inl i), some (.inl v), some (.inl r2)]) (sk' := []) (h' := h3) rfl (EL_fg hP (ls' := LSx i) rfl (fun j w hj => by
    match j, hj with
    | 0, hj => exact hj
    | 1, hj => exact hj
    | 2, hj => exact hj
    | 3, hj => exact hj
    | 4, hj => exact hj
    | 5, hj => cases hj
    | 6, hj => cases hj
    | _ + 7, hj => cases hj) (kk h3 hI2))
  refine EL_b hP rfl rfl (fun _ => ?_) (fun hf => by rw [hth, xcc_eqs] at hf; cases hf)
  refine EL_s hP 1 (i' := 24) (ls' := [some (.inr (.inr 3000)), some (.inr (.inr 0)), some (.inr (.inr 66)), some (.inr (.inr 112)), some (.inl i), some (.inl v), some (.inl r2)]) (sk' := [.inl v]) (h' := h3) rfl ?_
  refine EL_b hP rfl rfl (fun _ => fin) (fun hf => ?_)
  have hv0 := xcc_v hv hf
  refine EL_s hP 2 (i' := 27) (ls' := [some (.inr (.inr 3000)), some (.inr (.inr 0)), some (.inr (.inr 66)), some (.inr (.inr 112)), some (.inl i), some (.inl v), some (.inl r2)]) (sk' := [.inl 0, .inr (.inr 112)]) (h' := h3) rfl ?_
  refine EL_ld hP (ty := .long) (n := 1) (a := 112) (z := 0) (sk := []) rfl rfl rfl (by decide) (by decide) ?_
  refine EL_s hP 2 (i' := 30) (ls' := [some (.inr (.inr 3000)), some (.inr (.inr 0)), some (.inr (.inr 66)), some (.inr (.inr 112)), some (.inl i), some (.inl v), some (.inl r2)]) (sk' := [.inr (.inl (w32 r2)), .inr (.inl (h3 112 0))]) (h' := h3) rfl ?_
  refine EL_s hP 1 (i' := 31) (ls' := [some (.inr (.inr 3000)), some (.inr (.inr 0)), some (.inr (.inr 66)), some (.inr (.inr 112)), some (.inl i), some (.inl v), some (.inl r2)]) (sk' := [.inl (xcmp (h3 112 0) (w32 r2))]) (h' := h3) rfl ?_
  exact EL_b hP rfl rfl (fun _ => fin) (fun hf => by rw [xcmp_e (show h3 112 0 = w32 r2 from hout hv0)] at hf; cases hf)
theorem sg_1 {P : xPr} {L : Nat} {xs : Int → Int} {Q : xO → xH → Prop} (hP : LCl cdS1 L xs Q P) {i : Int} (h0 : 0 ≤ i) (h1 : i + 6 ≤ L) (hxs : ∀ j, xr (xs j)) {b : Nat} {h : xH} (hI : Inv h) (kk : ∀ h' : xH, Inv h' → P b 65 (LSx i) [] h') : P (b + 4) 0 (LSx i) [] h := by
  refine EL_mono hP (b := 2 + b) (by omega) ?_
  refine EL_s hP 1 (i' := 1) (ls' := [some (.inr (.inr 3000)), some (.inr (.inr 0)), some (.inr (.inr 66)), some (.inr (.inr 112)), some (.inl i), none, none]) (sk' := [.inr (.inr 0)]) (h' := h) rfl ?_
  refine EL_s hP 4 (i' := 5) (ls' := [some (.inr (.inr 3000)), some (.inr (.inr 0)), some (.inr (.inr 66)), some (.inr (.inr 112)), some (.inl i), none, none]) (sk' := [.inl (i + 1), .inr (.inr 3000), .inr (.inr 0)]) (h' := h) rfl ?_
  refine EL_sl hP rfl rfl rfl (by omega) (by omega) ?_
  refine EL_s hP 4 (i' := 10) (ls' := [some (.inr (.inr 3000)), some (.inr (.inr 0)), some (.inr (.inr 66)), some (.inr (.inr 112)), some (.inl i), none, none]) (sk' := [.inl (i + 2), .inr (.inr 3000), .inl (xs (i + 1)), .inr (.inr 0)]) (h' := h) rfl ?_
  refine EL_sl hP rfl rfl rfl (by omega) (by omega) ?_
  refine EL_s hP 4 (i' := 15) (ls' := [some (.inr (.inr 3000)), some (.inr (.inr 0)), some (.inr (.inr 66)), some (.inr (.inr 112)), some (.inl i), none, none]) (sk' := [.inl (i + 3), .inr (.inr 3000), .inl (xs (i + 2)), .inl (xs (i + 1)), .inr (.inr 0)]) (h' := h) rfl ?_
  refine EL_sl hP rfl rfl rfl (by omega) (by omega) ?_
  refine EL_s hP 4 (i' := 20) (ls' := [some (.inr (.inr 3000)), some (.inr (.inr 0)), some (.inr (.inr 66)), some (.inr (.inr 112)), some (.inl i), none, none]) (sk' := [.inl (i + 4), .inr (.inr 3000), .inl (xs (i + 3)), .inl (xs (i + 2)), .inl (xs (i + 1)), .inr (.inr 0)]) (h' := h) rfl ?_
  refine EL_sl hP rfl rfl rfl (by omega) (by omega) ?_
  refine EL_s hP 1 (i' := 22) (ls' := [some (.inr (.inr 3000)), some (.inr (.inr 0)), some (.inr (.inr 66)), some (.inr (.inr 112)), some (.inl i), none, none]) (sk' := [.inr (.inr 112), .inl (xs (i + 4)), .inl (xs (i + 3)), .inl (xs (i + 2)), .inl (xs (i + 1)), .inr (.inr 0)]) (h' := h) rfl ?_
  refine EL_hc hP (b1 := 2) (hn := 1) (as := .inr (.inr 0) :: (([xs (i + 1), xs (i + 2), xs (i + 3), xs (i + 4)] : List Int).map .inl ++ [.inr (.inr 112)])) (rest := []) rfl rfl (by decide) rfl (Nat.zero_le _) (CO2_h (zs := [xs (i + 1), xs (i + 2), xs (i + 3), xs (i + 4)]) rfl (by decide) (by decide) (CO.two (CO_example 34 hI (xs (i + 1)) (xs (i + 2)) (xs (i + 3)) (xs (i + 4)) (hxs _) (hxs _) (hxs _) (hxs _)))) (fun v h' hq => ?_)
  obtain ⟨hv, hq⟩ := hq
  refine EL_s hP 2 (i' := 25) (ls' := [some (.inr (.inr 3000)), some (.inr (.inr 0)), some (.inr (.inr 66)), some (.inr (.inr 112)), some (.inl i), some (.inl v), none]) (sk' := [.inr (.inr 66)]) (h' := h') rfl ?_
  refine EL_s hP 4 (i' := 29) (ls' := [some (.inr (.inr 3000)), some (.inr (.inr 0)), some (.inr (.inr 66)), some (.inr (.inr 112)), some (.inl i), some (.inl v), none]) (sk' := [.inl (i + 1), .inr (.inr 3000), .inr (.inr 66)]) (h' := h') rfl ?_
  refine EL_sl hP rfl rfl rfl (by omega) (by omega) ?_
  refine EL_s hP 4 (i' := 34) (ls' := [some (.inr (.inr 3000)), some (.inr (.inr 0)), some (.inr (.inr 66)), some (.inr (.inr 112)), some (.inl i), some (.inl v), none]) (sk' := [.inl (i + 2), .inr (.inr 3000), .inl (xs (i + 1)), .inr (.inr 66)]) (h' := h') rfl ?_
  refine EL_sl hP rfl rfl rfl (by omega) (by omega) ?_
  refine EL_s hP 4 (i' := 39) (ls' := [some (.inr (.inr 3000)), some (.inr (.inr 0)), some (.inr (.inr 66)), some (.inr (.inr 112)), some (.inl i), some (.inl v), none]) (sk' := [.inl (i + 3), .inr (.inr 3000), .inl (xs (i + 2)), .inl (xs (i + 1)), .inr (.inr 66)]) (h' := h') rfl ?_
  refine EL_sl hP rfl rfl rfl (by omega) (by omega) ?_
  refine EL_s hP 4 (i' := 44) (ls' := [some (.inr (.inr 3000)), some (.inr (.inr 0)), some (.inr (.inr 66)), some (.inr (.inr 112)), some (.inl i), some (.inl v), none]) (sk' := [.inl (i + 4), .inr (.inr 3000), .inl (xs (i + 3)), .inl (xs (i + 2)), .inl (xs (i + 1)), .inr (.inr 66)]) (h' := h') rfl ?_
  refine EL_sl hP rfl rfl rfl (by omega) (by omega) ?_
  rw [← Nat.zero_add b]
  refine EL_call (b1 := 0) (b2 := b) (rest := []) hP rfl rfl (Nat.zero_le _) (fun e => absurd e (by decide)) hq (fun v2 h2 hz => ?_) (fun E h2 hz => by obtain ⟨-, r2, e, -⟩ := hz; cases e)
  obtain ⟨hI2, r2, e, hth, hout⟩ := hz
  cases e
  refine EL_s hP 2 (i' := 48) (ls' := [some (.inr (.inr 3000)), some (.inr (.inr 0)), some (.inr (.inr 66)), some (.inr (.inr 112)), some (.inl i), some (.inl v), some (.inl r2)]) (sk' := [.inr (.inr 66)]) (h' := h2) rfl ?_
  rw [← Nat.zero_add b]
  refine EL_call (b1 := 0) (b2 := b) (rest := []) hP rfl rfl (Nat.zero_le _) (fun e => absurd e (by decide)) (m_thr2 39 h2) (fun v3 h3 hz => ?_) (fun E h3 hz => by cases hz.1)
  obtain ⟨e, rfl⟩ := hz
  cases e
  refine EL_s hP 1 (i' := 50) (ls' := [some (.inr (.inr 3000)), some (.inr (.inr 0)), some (.inr (.inr 66)), some (.inr (.inr 112)), some (.inl i), some (.inl v), some (.inl r2)]) (sk' := [.inl v, .inl (h3 66 0)]) (h' := h3) rfl ?_
  have fin : P b 64 [some (.inr (.inr 3000)), some (.inr (.inr 0)), some (.inr (.inr 66)), some (.inr (.inr 112)), some (.inl i), some (.inl v), some (.inl r2)] [] h3 := EL_s hP 1 (i' := 65) (ls' := [some (.inr (.inr 3000)), some (.inr (.inr 0)), some (.inr (.inr 66)), some (.inr (.inr 112)), some (.inl i), some (.inl v), some (.inl r2)]) (sk' := []) (h' := h3) rfl (EL_fg hP (ls' := LSx i) rfl (fun j w hj => by
    match j, hj with
    | 0, hj => exact hj
    | 1, hj => exact hj
    | 2, hj => exact hj
    | 3, hj => exact hj
    | 4, hj => exact hj
    | 5, hj => cases hj
    | 6, hj => cases hj
    | _ + 7, hj => cases hj) (kk h3 hI2))
  refine EL_b hP rfl rfl (fun _ => ?_) (fun hf => by rw [hth, xcc_eqs] at hf; cases hf)
  refine EL_s hP 1 (i' := 54) (ls' := [some (.inr (.inr 3000)), some (.inr (.inr 0)), some (.inr (.inr 66)), some (.inr (.inr 112)), some (.inl i), some (.inl v), some (.inl r2)]) (sk' := [.inl v]) (h' := h3) rfl ?_
  refine EL_b hP rfl rfl (fun _ => fin) (fun hf => ?_)
  have hv0 := xcc_v hv hf
  refine EL_s hP 2 (i' := 57) (ls' := [some (.inr (.inr 3000)), some (.inr (.inr 0)), some (.inr (.inr 66)), some (.inr (.inr 112)), some (.inl i), some (.inl v), some (.inl r2)]) (sk' := [.inl 0, .inr (.inr 112)]) (h' := h3) rfl ?_
  refine EL_ld hP (ty := .long) (n := 1) (a := 112) (z := 0) (sk := []) rfl rfl rfl (by decide) (by decide) ?_
  refine EL_s hP 2 (i' := 60) (ls' := [some (.inr (.inr 3000)), some (.inr (.inr 0)), some (.inr (.inr 66)), some (.inr (.inr 112)), some (.inl i), some (.inl v), some (.inl r2)]) (sk' := [.inr (.inl (w32 r2)), .inr (.inl (h3 112 0))]) (h' := h3) rfl ?_
  refine EL_s hP 1 (i' := 61) (ls' := [some (.inr (.inr 3000)), some (.inr (.inr 0)), some (.inr (.inr 66)), some (.inr (.inr 112)), some (.inl i), some (.inl v), some (.inl r2)]) (sk' := [.inl (xcmp (h3 112 0) (w32 r2))]) (h' := h3) rfl ?_
  exact EL_b hP rfl rfl (fun _ => fin) (fun hf => by rw [xcmp_e (show h3 112 0 = w32 r2 from hout hv0)] at hf; cases hf)
theorem sg_2 {P : xPr} {L : Nat} {xs : Int → Int} {Q : xO → xH → Prop} (hP : LCl cdS2 L xs Q P) {i : Int} (h0 : 0 ≤ i) (h1 : i + 6 ≤ L) (hxs : ∀ j, xr (xs j)) {b : Nat} {h : xH} (hI : Inv h) (kk : ∀ h' : xH, Inv h' → P b 35 (LSx i) [] h') : P (b + 4) 0 (LSx i) [] h := by
  refine EL_mono hP (b := 1 + b) (by omega) ?_
  refine EL_s hP 1 (i' := 1) (ls' := [some (.inr (.inr 3000)), some (.inr (.inr 0)), some (.inr (.inr 66)), some (.inr (.inr 112)), some (.inl i), none, none]) (sk' := [.inr (.inr 0)]) (h' := h) rfl ?_
  refine EL_s hP 4 (i' := 5) (ls' := [some (.inr (.inr 3000)), some (.inr (.inr 0)), some (.inr (.inr 66)), some (.inr (.inr 112)), some (.inl i), none, none]) (sk' := [.inl (i + 1), .inr (.inr 3000), .inr (.inr 0)]) (h' := h) rfl ?_
  refine EL_sl hP rfl rfl rfl (by omega) (by omega) ?_
  refine EL_s hP 1 (i' := 7) (ls' := [some (.inr (.inr 3000)), some (.inr (.inr 0)), some (.inr (.inr 66)), some (.inr (.inr 112)), some (.inl i), none, none]) (sk' := [.inr (.inr 112), .inl (xs (i + 1)), .inr (.inr 0)]) (h' := h) rfl ?_
  refine EL_hc hP (b1 := 1) (hn := 2) (as := .inr (.inr 0) :: (([xs (i + 1)] : List Int).map .inl ++ [.inr (.inr 112)])) (rest := []) rfl rfl (by decide) rfl (Nat.zero_le _) (CO2_h (zs := [xs (i + 1)]) rfl (by decide) (by decide) (CO.two (CO_drop 34 hI (xs (i + 1)) (hxs _)))) (fun v h' hq => ?_)
  obtain ⟨hv, hq⟩ := hq
  refine EL_s hP 2 (i' := 10) (ls' := [some (.inr (.inr 3000)), some (.inr (.inr 0)), some (.inr (.inr 66)), some (.inr (.inr 112)), some (.inl i), some (.inl v), none]) (sk' := [.inr (.inr 66)]) (h' := h') rfl ?_
  refine EL_s hP 4 (i' := 14) (ls' := [some (.inr (.inr 3000)), some (.inr (.inr 0)), some (.inr (.inr 66)), some (.inr (.inr 112)), some (.inl i), some (.inl v), none]) (sk' := [.inl (i + 1), .inr (.inr 3000), .inr (.inr 66)]) (h' := h') rfl ?_
  refine EL_sl hP rfl rfl rfl (by omega) (by omega) ?_
  rw [← Nat.zero_add b]
  refine EL_call (b1 := 0) (b2 := b) (rest := []) hP rfl rfl (Nat.zero_le _) (fun e => absurd e (by decide)) hq (fun v2 h2 hz => ?_) (fun E h2 hz => by obtain ⟨-, r2, e, -⟩ := hz; cases e)
  obtain ⟨hI2, r2, e, hth, hout⟩ := hz
  cases e
  refine EL_s hP 2 (i' := 18) (ls' := [some (.inr (.inr 3000)), some (.inr (.inr 0)), some (.inr (.inr 66)), some (.inr (.inr 112)), some (.inl i), some (.inl v), some (.inl r2)]) (sk' := [.inr (.inr 66)]) (h' := h2) rfl ?_
  rw [← Nat.zero_add b]
  refine EL_call (b1 := 0) (b2 := b) (rest := []) hP rfl rfl (Nat.zero_le _) (fun e => absurd e (by decide)) (m_thr2 39 h2) (fun v3 h3 hz => ?_) (fun E h3 hz => by cases hz.1)
  obtain ⟨e, rfl⟩ := hz
  cases e
  refine EL_s hP 1 (i' := 20) (ls' := [some (.inr (.inr 3000)), some (.inr (.inr 0)), some (.inr (.inr 66)), some (.inr (.inr 112)), some (.inl i), some (.inl v), some (.inl r2)]) (sk' := [.inl v, .inl (h3 66 0)]) (h' := h3) rfl ?_
  have fin : P b 34 [some (.inr (.inr 3000)), some (.inr (.inr 0)), some (.inr (.inr 66)), some (.inr (.inr 112)), some (.inl i), some (.inl v), some (.inl r2)] [] h3 := EL_s hP 1 (i' := 35) (ls' := [some (.inr (.inr 3000)), some (.inr (.inr 0)), some (.inr (.inr 66)), some (.inr (.inr 112)), some (.inl i), some (.inl v), some (.inl r2)]) (sk' := []) (h' := h3) rfl (EL_fg hP (ls' := LSx i) rfl (fun j w hj => by
    match j, hj with
    | 0, hj => exact hj
    | 1, hj => exact hj
    | 2, hj => exact hj
    | 3, hj => exact hj
    | 4, hj => exact hj
    | 5, hj => cases hj
    | 6, hj => cases hj
    | _ + 7, hj => cases hj) (kk h3 hI2))
  refine EL_b hP rfl rfl (fun _ => ?_) (fun hf => by rw [hth, xcc_eqs] at hf; cases hf)
  refine EL_s hP 1 (i' := 24) (ls' := [some (.inr (.inr 3000)), some (.inr (.inr 0)), some (.inr (.inr 66)), some (.inr (.inr 112)), some (.inl i), some (.inl v), some (.inl r2)]) (sk' := [.inl v]) (h' := h3) rfl ?_
  refine EL_b hP rfl rfl (fun _ => fin) (fun hf => ?_)
  have hv0 := xcc_v hv hf
  refine EL_s hP 2 (i' := 27) (ls' := [some (.inr (.inr 3000)), some (.inr (.inr 0)), some (.inr (.inr 66)), some (.inr (.inr 112)), some (.inl i), some (.inl v), some (.inl r2)]) (sk' := [.inl 0, .inr (.inr 112)]) (h' := h3) rfl ?_
  refine EL_ld hP (ty := .long) (n := 1) (a := 112) (z := 0) (sk := []) rfl rfl rfl (by decide) (by decide) ?_
  refine EL_s hP 2 (i' := 30) (ls' := [some (.inr (.inr 3000)), some (.inr (.inr 0)), some (.inr (.inr 66)), some (.inr (.inr 112)), some (.inl i), some (.inl v), some (.inl r2)]) (sk' := [.inr (.inl (w32 r2)), .inr (.inl (h3 112 0))]) (h' := h3) rfl ?_
  refine EL_s hP 1 (i' := 31) (ls' := [some (.inr (.inr 3000)), some (.inr (.inr 0)), some (.inr (.inr 66)), some (.inr (.inr 112)), some (.inl i), some (.inl v), some (.inl r2)]) (sk' := [.inl (xcmp (h3 112 0) (w32 r2))]) (h' := h3) rfl ?_
  exact EL_b hP rfl rfl (fun _ => fin) (fun hf => by rw [xcmp_e (show h3 112 0 = w32 r2 from hout hv0)] at hf; cases hf)
theorem sg_3 {P : xPr} {L : Nat} {xs : Int → Int} {Q : xO → xH → Prop} (hP : LCl cdS3 L xs Q P) {i : Int} (h0 : 0 ≤ i) (h1 : i + 6 ≤ L) (hxs : ∀ j, xr (xs j)) {b : Nat} {h : xH} (hI : Inv h) (kk : ∀ h' : xH, Inv h' → P b 56 (LSx i) [] h') : P (b + 4) 0 (LSx i) [] h := by
  refine EL_mono hP (b := 1 + b) (by omega) ?_
  refine EL_s hP 1 (i' := 1) (ls' := [some (.inr (.inr 3000)), some (.inr (.inr 0)), some (.inr (.inr 66)), some (.inr (.inr 112)), some (.inl i), none, none]) (sk' := [.inr (.inr 0)]) (h' := h) rfl ?_
  refine EL_s hP 4 (i' := 5) (ls' := [some (.inr (.inr 3000)), some (.inr (.inr 0)), some (.inr (.inr 66)), some (.inr (.inr 112)), some (.inl i), none, none]) (sk' := [.inl (i + 1), .inr (.inr 3000), .inr (.inr 0)]) (h' := h) rfl ?_
  refine EL_sl hP rfl rfl rfl (by omega) (by omega) ?_
  refine EL_s hP 4 (i' := 10) (ls' := [some (.inr (.inr 3000)), some (.inr (.inr 0)), some (.inr (.inr 66)), some (.inr (.inr 112)), some (.inl i), none, none]) (sk' := [.inl (i + 2), .inr (.inr 3000), .inl (xs (i + 1)), .inr (.inr 0)]) (h' := h) rfl ?_
  refine EL_sl hP rfl rfl rfl (by omega) (by omega) ?_
  refine EL_bz hP rfl rfl rfl rfl ?_
  refine EL_s hP 1 (i' := 16) (ls' := [some (.inr (.inr 3000)), some (.inr (.inr 0)), some (.inr (.inr 66)), some (.inr (.inr 112)), some (.inl i), none, none]) (sk' := [.inr (.inr 112), .inl (bz (xs (i + 2))), .inl (xs (i + 1)), .inr (.inr 0)]) (h' := h) rfl ?_
  refine EL_hc hP (b1 := 1) (hn := 3) (as := .inr (.inr 0) :: (([xs (i + 1), bz (xs (i + 2))] : List Int).map .inl ++ [.inr (.inr 112)])) (rest := []) rfl rfl (by decide) rfl (Nat.zero_le _) (CO2_h (zs := [xs (i + 1), bz (xs (i + 2))]) rfl (by decide) (by decide) (CO.two (CO_part 34 hI (xs (i + 1)) (bz (xs (i + 2))) (hxs _) (bz_01 _)))) (fun v h' hq => ?_)
  obtain ⟨hv, hq⟩ := hq
  refine EL_s hP 2 (i' := 19) (ls' := [some (.inr (.inr 3000)), some (.inr (.inr 0)), some (.inr (.inr 66)), some (.inr (.inr 112)), some (.inl i), some (.inl v), none]) (sk' := [.inr (.inr 66)]) (h' := h') rfl ?_
  refine EL_s hP 4 (i' := 23) (ls' := [some (.inr (.inr 3000)), some (.inr (.inr 0)), some (.inr (.inr 66)), some (.inr (.inr 112)), some (.inl i), some (.inl v), none]) (sk' := [.inl (i + 1), .inr (.inr 3000), .inr (.inr 66)]) (h' := h') rfl ?_
  refine EL_sl hP rfl rfl rfl (by omega) (by omega) ?_
  refine EL_s hP 4 (i' := 28) (ls' := [some (.inr (.inr 3000)), some (.inr (.inr 0)), some (.inr (.inr 66)), some (.inr (.inr 112)), some (.inl i), some (.inl v), none]) (sk' := [.inl (i + 2), .inr (.inr 3000), .inl (xs (i + 1)), .inr (.inr 66)]) (h' := h') rfl ?_
  refine EL_sl hP rfl rfl rfl (by omega) (by omega) ?_
  refine EL_bz hP rfl rfl rfl rfl ?_
  rw [← Nat.zero_add b]
  refine EL_call (b1 := 0) (b2 := b) (rest := []) hP rfl rfl (Nat.zero_le _) (fun e => absurd e (by decide)) hq (fun v2 h2 hz => ?_) (fun E h2 hz => by obtain ⟨-, r2, e, -⟩ := hz; cases e)
  obtain ⟨hI2, r2, e, hth, hout⟩ := hz
  cases e
  refine EL_s hP 2 (i' := 36) (ls' := [some (.inr (.inr 3000)), some (.inr (.inr 0)), some (.inr (.inr 66)), some (.inr (.inr 112)), some (.inl i), some (.inl v), some (.inl r2)]) (sk' := [.inr (.inr 66)]) (h' := h2) rfl ?_
  rw [← Nat.zero_add b]
  refine EL_call (b1 := 0) (b2 := b) (rest := []) hP rfl rfl (Nat.zero_le _) (fun e => absurd e (by decide)) (m_thr2 39 h2) (fun v3 h3 hz => ?_) (fun E h3 hz => by cases hz.1)
  obtain ⟨e, rfl⟩ := hz
  cases e
  refine EL_s hP 1 (i' := 38) (ls' := [some (.inr (.inr 3000)), some (.inr (.inr 0)), some (.inr (.inr 66)), some (.inr (.inr 112)), some (.inl i), some (.inl v), some (.inl r2)]) (sk' := [.inl v, .inl (h3 66 0)]) (h' := h3) rfl ?_
  have fin : P b 55 [some (.inr (.inr 3000)), some (.inr (.inr 0)), some (.inr (.inr 66)), some (.inr (.inr 112)), some (.inl i), some (.inl v), some (.inl r2)] [] h3 := EL_s hP 1 (i' := 56) (ls' := [some (.inr (.inr 3000)), some (.inr (.inr 0)), some (.inr (.inr 66)), some (.inr (.inr 112)), some (.inl i), some (.inl v), some (.inl r2)]) (sk' := []) (h' := h3) rfl (EL_fg hP (ls' := LSx i) rfl (fun j w hj => by
    match j, hj with
    | 0, hj => exact hj
    | 1, hj => exact hj
    | 2, hj => exact hj
    | 3, hj => exact hj
    | 4, hj => exact hj
    | 5, hj => cases hj
    | 6, hj => cases hj
    | _ + 7, hj => cases hj) (kk h3 hI2))
  refine EL_b hP rfl rfl (fun _ => ?_) (fun hf => by rw [hth, xcc_eqs] at hf; cases hf)
  refine EL_s hP 1 (i' := 42) (ls' := [some (.inr (.inr 3000)), some (.inr (.inr 0)), some (.inr (.inr 66)), some (.inr (.inr 112)), some (.inl i), some (.inl v), some (.inl r2)]) (sk' := [.inl v]) (h' := h3) rfl ?_
  refine EL_b hP rfl rfl (fun _ => fin) (fun hf => ?_)
  have hv0 := xcc_v hv hf
  refine EL_s hP 2 (i' := 45) (ls' := [some (.inr (.inr 3000)), some (.inr (.inr 0)), some (.inr (.inr 66)), some (.inr (.inr 112)), some (.inl i), some (.inl v), some (.inl r2)]) (sk' := [.inl 0, .inr (.inr 112)]) (h' := h3) rfl ?_
  refine EL_ld hP (ty := .long) (n := 1) (a := 112) (z := 0) (sk := []) rfl rfl rfl (by decide) (by decide) ?_
  refine EL_s hP 1 (i' := 47) (ls' := [some (.inr (.inr 3000)), some (.inr (.inr 0)), some (.inr (.inr 66)), some (.inr (.inr 112)), some (.inl i), some (.inl v), some (.inl r2)]) (sk' := [.inl r2, .inr (.inl (h3 112 0))]) (h' := h3) rfl ?_
  refine EL_bzl hP rfl rfl rfl rfl ?_
  refine EL_s hP 1 (i' := 52) (ls' := [some (.inr (.inr 3000)), some (.inr (.inr 0)), some (.inr (.inr 66)), some (.inr (.inr 112)), some (.inl i), some (.inl v), some (.inl r2)]) (sk' := [.inl (xcmp (h3 112 0) (bz r2))]) (h' := h3) rfl ?_
  exact EL_b hP rfl rfl (fun _ => fin) (fun hf => by rw [xcmp_e (show h3 112 0 = bz r2 from hout hv0)] at hf; cases hf)
theorem sg_4 {P : xPr} {L : Nat} {xs : Int → Int} {Q : xO → xH → Prop} (hP : LCl cdS4 L xs Q P) {i : Int} (h0 : 0 ≤ i) (h1 : i + 6 ≤ L) (hxs : ∀ j, xr (xs j)) {b : Nat} {h : xH} (hI : Inv h) (kk : ∀ h' : xH, Inv h' → P b 38 (LSx i) [] h') : P (b + 4) 0 (LSx i) [] h := by
  refine EL_mono hP (b := 1 + b) (by omega) ?_
  refine EL_s hP 1 (i' := 1) (ls' := [some (.inr (.inr 3000)), some (.inr (.inr 0)), some (.inr (.inr 66)), some (.inr (.inr 112)), some (.inl i), none, none]) (sk' := [.inr (.inr 0)]) (h' := h) rfl ?_
  refine EL_s hP 4 (i' := 5) (ls' := [some (.inr (.inr 3000)), some (.inr (.inr 0)), some (.inr (.inr 66)), some (.inr (.inr 112)), some (.inl i), none, none]) (sk' := [.inl (i + 1), .inr (.inr 3000), .inr (.inr 0)]) (h' := h) rfl ?_
  refine EL_sl hP rfl rfl rfl (by omega) (by omega) ?_
  refine EL_s hP 1 (i' := 7) (ls' := [some (.inr (.inr 3000)), some (.inr (.inr 0)), some (.inr (.inr 66)), some (.inr (.inr 112)), some (.inl i), none, none]) (sk' := [.inr (.inr 112), .inl (xs (i + 1)), .inr (.inr 0)]) (h' := h) rfl ?_
  refine EL_hc hP (b1 := 1) (hn := 4) (as := .inr (.inr 0) :: (([xs (i + 1)] : List Int).map .inl ++ [.inr (.inr 112)])) (rest := []) rfl rfl (by decide) rfl (Nat.zero_le _) (CO2_h (zs := [xs (i + 1)]) rfl (by decide) (by decide) (CO.two (CO_constant 34 hI (xs (i + 1)) (hxs _)))) (fun v h' hq => ?_)
  obtain ⟨hv, hq⟩ := hq
  refine EL_s hP 2 (i' := 10) (ls' := [some (.inr (.inr 3000)), some (.inr (.inr 0)), some (.inr (.inr 66)), some (.inr (.inr 112)), some (.inl i), some (.inl v), none]) (sk' := [.inr (.inr 66)]) (h' := h') rfl ?_
  refine EL_s hP 4 (i' := 14) (ls' := [some (.inr (.inr 3000)), some (.inr (.inr 0)), some (.inr (.inr 66)), some (.inr (.inr 112)), some (.inl i), some (.inl v), none]) (sk' := [.inl (i + 1), .inr (.inr 3000), .inr (.inr 66)]) (h' := h') rfl ?_
  refine EL_sl hP rfl rfl rfl (by omega) (by omega) ?_
  rw [← Nat.zero_add b]
  refine EL_call (b1 := 0) (b2 := b) (rest := []) hP rfl rfl (Nat.zero_le _) (fun e => absurd e (by decide)) hq (fun v2 h2 hz => ?_) (fun E h2 hz => by obtain ⟨-, r2, e, -⟩ := hz; cases e)
  obtain ⟨hI2, r2, e, hth, hout⟩ := hz
  cases e
  refine EL_s hP 2 (i' := 18) (ls' := [some (.inr (.inr 3000)), some (.inr (.inr 0)), some (.inr (.inr 66)), some (.inr (.inr 112)), some (.inl i), some (.inl v), some (.inl r2)]) (sk' := [.inr (.inr 66)]) (h' := h2) rfl ?_
  rw [← Nat.zero_add b]
  refine EL_call (b1 := 0) (b2 := b) (rest := []) hP rfl rfl (Nat.zero_le _) (fun e => absurd e (by decide)) (m_thr2 39 h2) (fun v3 h3 hz => ?_) (fun E h3 hz => by cases hz.1)
  obtain ⟨e, rfl⟩ := hz
  cases e
  refine EL_s hP 1 (i' := 20) (ls' := [some (.inr (.inr 3000)), some (.inr (.inr 0)), some (.inr (.inr 66)), some (.inr (.inr 112)), some (.inl i), some (.inl v), some (.inl r2)]) (sk' := [.inl v, .inl (h3 66 0)]) (h' := h3) rfl ?_
  have fin : P b 37 [some (.inr (.inr 3000)), some (.inr (.inr 0)), some (.inr (.inr 66)), some (.inr (.inr 112)), some (.inl i), some (.inl v), some (.inl r2)] [] h3 := EL_s hP 1 (i' := 38) (ls' := [some (.inr (.inr 3000)), some (.inr (.inr 0)), some (.inr (.inr 66)), some (.inr (.inr 112)), some (.inl i), some (.inl v), some (.inl r2)]) (sk' := []) (h' := h3) rfl (EL_fg hP (ls' := LSx i) rfl (fun j w hj => by
    match j, hj with
    | 0, hj => exact hj
    | 1, hj => exact hj
    | 2, hj => exact hj
    | 3, hj => exact hj
    | 4, hj => exact hj
    | 5, hj => cases hj
    | 6, hj => cases hj
    | _ + 7, hj => cases hj) (kk h3 hI2))
  refine EL_b hP rfl rfl (fun _ => ?_) (fun hf => by rw [hth, xcc_eqs] at hf; cases hf)
  refine EL_s hP 1 (i' := 24) (ls' := [some (.inr (.inr 3000)), some (.inr (.inr 0)), some (.inr (.inr 66)), some (.inr (.inr 112)), some (.inl i), some (.inl v), some (.inl r2)]) (sk' := [.inl v]) (h' := h3) rfl ?_
  refine EL_b hP rfl rfl (fun _ => fin) (fun hf => ?_)
  have hv0 := xcc_v hv hf
  refine EL_s hP 2 (i' := 27) (ls' := [some (.inr (.inr 3000)), some (.inr (.inr 0)), some (.inr (.inr 66)), some (.inr (.inr 112)), some (.inl i), some (.inl v), some (.inl r2)]) (sk' := [.inl 0, .inr (.inr 112)]) (h' := h3) rfl ?_
  refine EL_ld hP (ty := .long) (n := 1) (a := 112) (z := 0) (sk := []) rfl rfl rfl (by decide) (by decide) ?_
  refine EL_s hP 1 (i' := 29) (ls' := [some (.inr (.inr 3000)), some (.inr (.inr 0)), some (.inr (.inr 66)), some (.inr (.inr 112)), some (.inl i), some (.inl v), some (.inl r2)]) (sk' := [.inl r2, .inr (.inl (h3 112 0))]) (h' := h3) rfl ?_
  refine EL_bzl hP rfl rfl rfl rfl ?_
  refine EL_s hP 1 (i' := 34) (ls' := [some (.inr (.inr 3000)), some (.inr (.inr 0)), some (.inr (.inr 66)), some (.inr (.inr 112)), some (.inl i), some (.inl v), some (.inl r2)]) (sk' := [.inl (xcmp (h3 112 0) (bz r2))]) (h' := h3) rfl ?_
  exact EL_b hP rfl rfl (fun _ => fin) (fun hf => by rw [xcmp_e (show h3 112 0 = bz r2 from hout hv0)] at hf; cases hf)
theorem sg_5 {P : xPr} {L : Nat} {xs : Int → Int} {Q : xO → xH → Prop} (hP : LCl cdS5 L xs Q P) {i : Int} (h0 : 0 ≤ i) (h1 : i + 6 ≤ L) (hxs : ∀ j, xr (xs j)) {b : Nat} {h : xH} (hI : Inv h) (kk : ∀ h' : xH, Inv h' → P b 7 (LSx i) [] h') : P (b + 4) 0 (LSx i) [] h := by
  refine EL_mono hP (b := 0 + b) (by omega) ?_
  refine EL_s hP 1 (i' := 1) (ls' := [some (.inr (.inr 3000)), some (.inr (.inr 0)), some (.inr (.inr 66)), some (.inr (.inr 112)), some (.inl i), none, none]) (sk' := [.inr (.inr 0)]) (h' := h) rfl ?_
  refine EL_call (b1 := 0) (b2 := b) (rest := []) hP rfl rfl (Nat.zero_le _) (fun e => absurd e (by decide)) (CO.two (CO_constants 34 hI  )) (fun v h1 hF => ?_) (fun E h1 hF => by obtain ⟨r1, e⟩ := CO2_v hF; cases e)
  obtain ⟨r1, e⟩ := CO2_v hF
  cases e
  refine EL_s hP 1 (i' := 3) (ls' := [some (.inr (.inr 3000)), some (.inr (.inr 0)), some (.inr (.inr 66)), some (.inr (.inr 112)), some (.inl i), none, none]) (sk' := [.inr (.inr 66), .inl r1]) (h' := h1) rfl ?_
  have hF1 := hF (h1 112 0)
  rw [xup_self] at hF1
  rw [← Nat.zero_add b]
  refine EL_call (b1 := 0) (b2 := b) (rest := [.inl r1]) hP rfl rfl (Nat.le_of_ble_eq_true rfl) (fun e => absurd e (by decide)) hF1 (fun v2 h2 hz => ?_) (fun E h2 hz => by obtain ⟨-, -, r2, e, -⟩ := hz; cases e)
  obtain ⟨hI2, -, r2, e, hag⟩ := hz
  cases e
  have hw : w32 r1 = w32 r2 := by
    rcases hag with ⟨r9, e, -, hw⟩ | ⟨k, E, e, -⟩
    · cases e; exact hw
    · cases e
  exact EL_b hP rfl rfl (fun _ => kk h2 hI2) (fun hf => by rw [xcc_eqw hw] at hf; cases hf)
theorem sg_6 {P : xPr} {L : Nat} {xs : Int → Int} {Q : xO → xH → Prop} (hP : LCl cdS6 L xs Q P) {i : Int} (h0 : 0 ≤ i) (h1 : i + 6 ≤ L) (hxs : ∀ j, xr (xs j)) {b : Nat} {h : xH} (hI : Inv h) (kk : ∀ h' : xH, Inv h' → P b 35 (LSx i) [] h') : P (b + 4) 0 (LSx i) [] h := by
  refine EL_mono hP (b := 1 + b) (by omega) ?_
  refine EL_s hP 1 (i' := 1) (ls' := [some (.inr (.inr 3000)), some (.inr (.inr 0)), some (.inr (.inr 66)), some (.inr (.inr 112)), some (.inl i), none, none]) (sk' := [.inr (.inr 0)]) (h' := h) rfl ?_
  refine EL_s hP 4 (i' := 5) (ls' := [some (.inr (.inr 3000)), some (.inr (.inr 0)), some (.inr (.inr 66)), some (.inr (.inr 112)), some (.inl i), none, none]) (sk' := [.inl (i + 1), .inr (.inr 3000), .inr (.inr 0)]) (h' := h) rfl ?_
  refine EL_sl hP rfl rfl rfl (by omega) (by omega) ?_
  refine EL_s hP 1 (i' := 7) (ls' := [some (.inr (.inr 3000)), some (.inr (.inr 0)), some (.inr (.inr 66)), some (.inr (.inr 112)), some (.inl i), none, none]) (sk' := [.inr (.inr 112), .inl (xs (i + 1)), .inr (.inr 0)]) (h' := h) rfl ?_
  refine EL_hc hP (b1 := 1) (hn := 5) (as := .inr (.inr 0) :: (([xs (i + 1)] : List Int).map .inl ++ [.inr (.inr 112)])) (rest := []) rfl rfl (by decide) rfl (Nat.zero_le _) (CO2_h (zs := [xs (i + 1)]) rfl (by decide) (by decide) (CO.two (CO_budget 34 hI (xs (i + 1)) (hxs _)))) (fun v h' hq => ?_)
  obtain ⟨hv, hq⟩ := hq
  refine EL_s hP 2 (i' := 10) (ls' := [some (.inr (.inr 3000)), some (.inr (.inr 0)), some (.inr (.inr 66)), some (.inr (.inr 112)), some (.inl i), some (.inl v), none]) (sk' := [.inr (.inr 66)]) (h' := h') rfl ?_
  refine EL_s hP 4 (i' := 14) (ls' := [some (.inr (.inr 3000)), some (.inr (.inr 0)), some (.inr (.inr 66)), some (.inr (.inr 112)), some (.inl i), some (.inl v), none]) (sk' := [.inl (i + 1), .inr (.inr 3000), .inr (.inr 66)]) (h' := h') rfl ?_
  refine EL_sl hP rfl rfl rfl (by omega) (by omega) ?_
  rw [← Nat.zero_add b]
  refine EL_call (b1 := 0) (b2 := b) (rest := []) hP rfl rfl (Nat.zero_le _) (fun e => absurd e (by decide)) hq (fun v2 h2 hz => ?_) (fun E h2 hz => by obtain ⟨-, r2, e, -⟩ := hz; cases e)
  obtain ⟨hI2, r2, e, hth, hout⟩ := hz
  cases e
  refine EL_s hP 2 (i' := 18) (ls' := [some (.inr (.inr 3000)), some (.inr (.inr 0)), some (.inr (.inr 66)), some (.inr (.inr 112)), some (.inl i), some (.inl v), some (.inl r2)]) (sk' := [.inr (.inr 66)]) (h' := h2) rfl ?_
  rw [← Nat.zero_add b]
  refine EL_call (b1 := 0) (b2 := b) (rest := []) hP rfl rfl (Nat.zero_le _) (fun e => absurd e (by decide)) (m_thr2 39 h2) (fun v3 h3 hz => ?_) (fun E h3 hz => by cases hz.1)
  obtain ⟨e, rfl⟩ := hz
  cases e
  refine EL_s hP 1 (i' := 20) (ls' := [some (.inr (.inr 3000)), some (.inr (.inr 0)), some (.inr (.inr 66)), some (.inr (.inr 112)), some (.inl i), some (.inl v), some (.inl r2)]) (sk' := [.inl v, .inl (h3 66 0)]) (h' := h3) rfl ?_
  have fin : P b 34 [some (.inr (.inr 3000)), some (.inr (.inr 0)), some (.inr (.inr 66)), some (.inr (.inr 112)), some (.inl i), some (.inl v), some (.inl r2)] [] h3 := EL_s hP 1 (i' := 35) (ls' := [some (.inr (.inr 3000)), some (.inr (.inr 0)), some (.inr (.inr 66)), some (.inr (.inr 112)), some (.inl i), some (.inl v), some (.inl r2)]) (sk' := []) (h' := h3) rfl (EL_fg hP (ls' := LSx i) rfl (fun j w hj => by
    match j, hj with
    | 0, hj => exact hj
    | 1, hj => exact hj
    | 2, hj => exact hj
    | 3, hj => exact hj
    | 4, hj => exact hj
    | 5, hj => cases hj
    | 6, hj => cases hj
    | _ + 7, hj => cases hj) (kk h3 hI2))
  refine EL_b hP rfl rfl (fun _ => ?_) (fun hf => by rw [hth, xcc_eqs] at hf; cases hf)
  refine EL_s hP 1 (i' := 24) (ls' := [some (.inr (.inr 3000)), some (.inr (.inr 0)), some (.inr (.inr 66)), some (.inr (.inr 112)), some (.inl i), some (.inl v), some (.inl r2)]) (sk' := [.inl v]) (h' := h3) rfl ?_
  refine EL_b hP rfl rfl (fun _ => fin) (fun hf => ?_)
  have hv0 := xcc_v hv hf
  refine EL_s hP 2 (i' := 27) (ls' := [some (.inr (.inr 3000)), some (.inr (.inr 0)), some (.inr (.inr 66)), some (.inr (.inr 112)), some (.inl i), some (.inl v), some (.inl r2)]) (sk' := [.inl 0, .inr (.inr 112)]) (h' := h3) rfl ?_
  refine EL_ld hP (ty := .long) (n := 1) (a := 112) (z := 0) (sk := []) rfl rfl rfl (by decide) (by decide) ?_
  refine EL_s hP 2 (i' := 30) (ls' := [some (.inr (.inr 3000)), some (.inr (.inr 0)), some (.inr (.inr 66)), some (.inr (.inr 112)), some (.inl i), some (.inl v), some (.inl r2)]) (sk' := [.inr (.inl (w32 r2)), .inr (.inl (h3 112 0))]) (h' := h3) rfl ?_
  refine EL_s hP 1 (i' := 31) (ls' := [some (.inr (.inr 3000)), some (.inr (.inr 0)), some (.inr (.inr 66)), some (.inr (.inr 112)), some (.inl i), some (.inl v), some (.inl r2)]) (sk' := [.inl (xcmp (h3 112 0) (w32 r2))]) (h' := h3) rfl ?_
  exact EL_b hP rfl rfl (fun _ => fin) (fun hf => by rw [xcmp_e (show h3 112 0 = w32 r2 from hout hv0)] at hf; cases hf)
theorem sg_7 {P : xPr} {L : Nat} {xs : Int → Int} {Q : xO → xH → Prop} (hP : LCl cdS7 L xs Q P) {i : Int} (h0 : 0 ≤ i) (h1 : i + 6 ≤ L) (hxs : ∀ j, xr (xs j)) {b : Nat} {h : xH} (hI : Inv h) (kk : ∀ h' : xH, Inv h' → P b 25 (LSx i) [] h') : P (b + 4) 0 (LSx i) [] h := by
  refine EL_mono hP (b := 0 + b) (by omega) ?_
  refine EL_s hP 1 (i' := 1) (ls' := [some (.inr (.inr 3000)), some (.inr (.inr 0)), some (.inr (.inr 66)), some (.inr (.inr 112)), some (.inl i), none, none]) (sk' := [.inr (.inr 0)]) (h' := h) rfl ?_
  refine EL_s hP 4 (i' := 5) (ls' := [some (.inr (.inr 3000)), some (.inr (.inr 0)), some (.inr (.inr 66)), some (.inr (.inr 112)), some (.inl i), none, none]) (sk' := [.inl (i + 1), .inr (.inr 3000), .inr (.inr 0)]) (h' := h) rfl ?_
  refine EL_sl hP rfl rfl rfl (by omega) (by omega) ?_
  refine EL_bz hP rfl rfl rfl rfl ?_
  refine EL_call (b1 := 0) (b2 := b) (rest := []) hP rfl rfl (Nat.zero_le _) (fun e => absurd e (by decide)) (CO2_t (bz_01 _) (CO.two (CO_grow0 31 hI  )) (CO.two (CO_grow1 31 hI  ))) (fun v h1 hF => ?_) (fun E h1 hF => by obtain ⟨r1, e⟩ := CO2_v hF; cases e)
  obtain ⟨r1, e⟩ := CO2_v hF
  cases e
  refine EL_s hP 1 (i' := 12) (ls' := [some (.inr (.inr 3000)), some (.inr (.inr 0)), some (.inr (.inr 66)), some (.inr (.inr 112)), some (.inl i), none, none]) (sk' := [.inr (.inr 66), .inl r1]) (h' := h1) rfl ?_
  refine EL_s hP 4 (i' := 16) (ls' := [some (.inr (.inr 3000)), some (.inr (.inr 0)), some (.inr (.inr 66)), some (.inr (.inr 112)), some (.inl i), none, none]) (sk' := [.inl (i + 1), .inr (.inr 3000), .inr (.inr 66), .inl r1]) (h' := h1) rfl ?_
  refine EL_sl hP rfl rfl rfl (by omega) (by omega) ?_
  refine EL_bz hP rfl rfl rfl rfl ?_
  have hF1 := hF (h1 112 0)
  rw [xup_self] at hF1
  rw [← Nat.zero_add b]
  refine EL_call (b1 := 0) (b2 := b) (rest := [.inl r1]) hP rfl rfl (Nat.le_of_ble_eq_true rfl) (fun e => absurd e (by decide)) hF1 (fun v2 h2 hz => ?_) (fun E h2 hz => by obtain ⟨-, -, r2, e, -⟩ := hz; cases e)
  obtain ⟨hI2, -, r2, e, hag⟩ := hz
  cases e
  have hw : w32 r1 = w32 r2 := by
    rcases hag with ⟨r9, e, -, hw⟩ | ⟨k, E, e, -⟩
    · cases e; exact hw
    · cases e
  exact EL_b hP rfl rfl (fun _ => kk h2 hI2) (fun hf => by rw [xcc_eqw hw] at hf; cases hf)
theorem sg_8 {P : xPr} {L : Nat} {xs : Int → Int} {Q : xO → xH → Prop} (hP : LCl cdS8 L xs Q P) {i : Int} (h0 : 0 ≤ i) (h1 : i + 6 ≤ L) (hxs : ∀ j, xr (xs j)) {b : Nat} {h : xH} (hI : Inv h) (kk : ∀ h' : xH, Inv h' → P b 53 (LSx i) [] h') : P (b + 4) 0 (LSx i) [] h := by
  refine EL_mono hP (b := 1 + b) (by omega) ?_
  refine EL_s hP 1 (i' := 1) (ls' := [some (.inr (.inr 3000)), some (.inr (.inr 0)), some (.inr (.inr 66)), some (.inr (.inr 112)), some (.inl i), none, none]) (sk' := [.inr (.inr 0)]) (h' := h) rfl ?_
  refine EL_s hP 4 (i' := 5) (ls' := [some (.inr (.inr 3000)), some (.inr (.inr 0)), some (.inr (.inr 66)), some (.inr (.inr 112)), some (.inl i), none, none]) (sk' := [.inl (i + 1), .inr (.inr 3000), .inr (.inr 0)]) (h' := h) rfl ?_
  refine EL_sl hP rfl rfl rfl (by omega) (by omega) ?_
  refine EL_bz hP rfl rfl rfl rfl ?_
  refine EL_s hP 4 (i' := 14) (ls' := [some (.inr (.inr 3000)), some (.inr (.inr 0)), some (.inr (.inr 66)), some (.inr (.inr 112)), some (.inl i), none, none]) (sk' := [.inl (i + 2), .inr (.inr 3000), .inl (bz (xs (i + 1))), .inr (.inr 0)]) (h' := h) rfl ?_
  refine EL_sl hP rfl rfl rfl (by omega) (by omega) ?_
  refine EL_s hP 1 (i' := 16) (ls' := [some (.inr (.inr 3000)), some (.inr (.inr 0)), some (.inr (.inr 66)), some (.inr (.inr 112)), some (.inl i), none, none]) (sk' := [.inr (.inr 112), .inl (xs (i + 2)), .inl (bz (xs (i + 1))), .inr (.inr 0)]) (h' := h) rfl ?_
  refine EL_hc hP (b1 := 1) (hn := 6) (as := .inr (.inr 0) :: (([bz (xs (i + 1)), xs (i + 2)] : List Int).map .inl ++ [.inr (.inr 112)])) (rest := []) rfl rfl (by decide) rfl (Nat.zero_le _) (CO2_h (zs := [bz (xs (i + 1)), xs (i + 2)]) rfl (by decide) (by decide) (CO2_t (bz_01 _) (CO.two (CO_grown0 34 hI (xs (i + 2)) (hxs _))) (CO.two (CO_grown1 34 hI (xs (i + 2)) (hxs _))))) (fun v h' hq => ?_)
  obtain ⟨hv, hq⟩ := hq
  refine EL_s hP 2 (i' := 19) (ls' := [some (.inr (.inr 3000)), some (.inr (.inr 0)), some (.inr (.inr 66)), some (.inr (.inr 112)), some (.inl i), some (.inl v), none]) (sk' := [.inr (.inr 66)]) (h' := h') rfl ?_
  refine EL_s hP 4 (i' := 23) (ls' := [some (.inr (.inr 3000)), some (.inr (.inr 0)), some (.inr (.inr 66)), some (.inr (.inr 112)), some (.inl i), some (.inl v), none]) (sk' := [.inl (i + 1), .inr (.inr 3000), .inr (.inr 66)]) (h' := h') rfl ?_
  refine EL_sl hP rfl rfl rfl (by omega) (by omega) ?_
  refine EL_bz hP rfl rfl rfl rfl ?_
  refine EL_s hP 4 (i' := 32) (ls' := [some (.inr (.inr 3000)), some (.inr (.inr 0)), some (.inr (.inr 66)), some (.inr (.inr 112)), some (.inl i), some (.inl v), none]) (sk' := [.inl (i + 2), .inr (.inr 3000), .inl (bz (xs (i + 1))), .inr (.inr 66)]) (h' := h') rfl ?_
  refine EL_sl hP rfl rfl rfl (by omega) (by omega) ?_
  rw [← Nat.zero_add b]
  refine EL_call (b1 := 0) (b2 := b) (rest := []) hP rfl rfl (Nat.zero_le _) (fun e => absurd e (by decide)) hq (fun v2 h2 hz => ?_) (fun E h2 hz => by obtain ⟨-, r2, e, -⟩ := hz; cases e)
  obtain ⟨hI2, r2, e, hth, hout⟩ := hz
  cases e
  refine EL_s hP 2 (i' := 36) (ls' := [some (.inr (.inr 3000)), some (.inr (.inr 0)), some (.inr (.inr 66)), some (.inr (.inr 112)), some (.inl i), some (.inl v), some (.inl r2)]) (sk' := [.inr (.inr 66)]) (h' := h2) rfl ?_
  rw [← Nat.zero_add b]
  refine EL_call (b1 := 0) (b2 := b) (rest := []) hP rfl rfl (Nat.zero_le _) (fun e => absurd e (by decide)) (m_thr2 39 h2) (fun v3 h3 hz => ?_) (fun E h3 hz => by cases hz.1)
  obtain ⟨e, rfl⟩ := hz
  cases e
  refine EL_s hP 1 (i' := 38) (ls' := [some (.inr (.inr 3000)), some (.inr (.inr 0)), some (.inr (.inr 66)), some (.inr (.inr 112)), some (.inl i), some (.inl v), some (.inl r2)]) (sk' := [.inl v, .inl (h3 66 0)]) (h' := h3) rfl ?_
  have fin : P b 52 [some (.inr (.inr 3000)), some (.inr (.inr 0)), some (.inr (.inr 66)), some (.inr (.inr 112)), some (.inl i), some (.inl v), some (.inl r2)] [] h3 := EL_s hP 1 (i' := 53) (ls' := [some (.inr (.inr 3000)), some (.inr (.inr 0)), some (.inr (.inr 66)), some (.inr (.inr 112)), some (.inl i), some (.inl v), some (.inl r2)]) (sk' := []) (h' := h3) rfl (EL_fg hP (ls' := LSx i) rfl (fun j w hj => by
    match j, hj with
    | 0, hj => exact hj
    | 1, hj => exact hj
    | 2, hj => exact hj
    | 3, hj => exact hj
    | 4, hj => exact hj
    | 5, hj => cases hj
    | 6, hj => cases hj
    | _ + 7, hj => cases hj) (kk h3 hI2))
  refine EL_b hP rfl rfl (fun _ => ?_) (fun hf => by rw [hth, xcc_eqs] at hf; cases hf)
  refine EL_s hP 1 (i' := 42) (ls' := [some (.inr (.inr 3000)), some (.inr (.inr 0)), some (.inr (.inr 66)), some (.inr (.inr 112)), some (.inl i), some (.inl v), some (.inl r2)]) (sk' := [.inl v]) (h' := h3) rfl ?_
  refine EL_b hP rfl rfl (fun _ => fin) (fun hf => ?_)
  have hv0 := xcc_v hv hf
  refine EL_s hP 2 (i' := 45) (ls' := [some (.inr (.inr 3000)), some (.inr (.inr 0)), some (.inr (.inr 66)), some (.inr (.inr 112)), some (.inl i), some (.inl v), some (.inl r2)]) (sk' := [.inl 0, .inr (.inr 112)]) (h' := h3) rfl ?_
  refine EL_ld hP (ty := .long) (n := 1) (a := 112) (z := 0) (sk := []) rfl rfl rfl (by decide) (by decide) ?_
  refine EL_s hP 2 (i' := 48) (ls' := [some (.inr (.inr 3000)), some (.inr (.inr 0)), some (.inr (.inr 66)), some (.inr (.inr 112)), some (.inl i), some (.inl v), some (.inl r2)]) (sk' := [.inr (.inl (w32 r2)), .inr (.inl (h3 112 0))]) (h' := h3) rfl ?_
  refine EL_s hP 1 (i' := 49) (ls' := [some (.inr (.inr 3000)), some (.inr (.inr 0)), some (.inr (.inr 66)), some (.inr (.inr 112)), some (.inl i), some (.inl v), some (.inl r2)]) (sk' := [.inl (xcmp (h3 112 0) (w32 r2))]) (h' := h3) rfl ?_
  exact EL_b hP rfl rfl (fun _ => fin) (fun hf => by rw [xcmp_e (show h3 112 0 = w32 r2 from hout hv0)] at hf; cases hf)
theorem sg_9 {P : xPr} {L : Nat} {xs : Int → Int} {Q : xO → xH → Prop} (hP : LCl cdS9 L xs Q P) {i : Int} (h0 : 0 ≤ i) (h1 : i + 6 ≤ L) (hxs : ∀ j, xr (xs j)) {b : Nat} {h : xH} (hI : Inv h) (kk : ∀ h' : xH, Inv h' → P b 63 (LSx i) [] h') : P (b + 4) 0 (LSx i) [] h := by
  refine EL_mono hP (b := 2 + b) (by omega) ?_
  refine EL_s hP 1 (i' := 1) (ls' := [some (.inr (.inr 3000)), some (.inr (.inr 0)), some (.inr (.inr 66)), some (.inr (.inr 112)), some (.inl i), none, none]) (sk' := [.inr (.inr 0)]) (h' := h) rfl ?_
  refine EL_s hP 4 (i' := 5) (ls' := [some (.inr (.inr 3000)), some (.inr (.inr 0)), some (.inr (.inr 66)), some (.inr (.inr 112)), some (.inl i), none, none]) (sk' := [.inl (i + 1), .inr (.inr 3000), .inr (.inr 0)]) (h' := h) rfl ?_
  refine EL_sl hP rfl rfl rfl (by omega) (by omega) ?_
  refine EL_bz hP rfl rfl rfl rfl ?_
  refine EL_s hP 4 (i' := 14) (ls' := [some (.inr (.inr 3000)), some (.inr (.inr 0)), some (.inr (.inr 66)), some (.inr (.inr 112)), some (.inl i), none, none]) (sk' := [.inl (i + 2), .inr (.inr 3000), .inl (bz (xs (i + 1))), .inr (.inr 0)]) (h' := h) rfl ?_
  refine EL_sl hP rfl rfl rfl (by omega) (by omega) ?_
  refine EL_s hP 4 (i' := 19) (ls' := [some (.inr (.inr 3000)), some (.inr (.inr 0)), some (.inr (.inr 66)), some (.inr (.inr 112)), some (.inl i), none, none]) (sk' := [.inl (i + 3), .inr (.inr 3000), .inl (xs (i + 2)), .inl (bz (xs (i + 1))), .inr (.inr 0)]) (h' := h) rfl ?_
  refine EL_sl hP rfl rfl rfl (by omega) (by omega) ?_
  refine EL_s hP 1 (i' := 21) (ls' := [some (.inr (.inr 3000)), some (.inr (.inr 0)), some (.inr (.inr 66)), some (.inr (.inr 112)), some (.inl i), none, none]) (sk' := [.inr (.inr 112), .inl (xs (i + 3)), .inl (xs (i + 2)), .inl (bz (xs (i + 1))), .inr (.inr 0)]) (h' := h) rfl ?_
  refine EL_hc hP (b1 := 2) (hn := 7) (as := .inr (.inr 0) :: (([bz (xs (i + 1)), xs (i + 2), xs (i + 3)] : List Int).map .inl ++ [.inr (.inr 112)])) (rest := []) rfl rfl (by decide) rfl (Nat.zero_le _) (CO2_h (zs := [bz (xs (i + 1)), xs (i + 2), xs (i + 3)]) rfl (by decide) (by decide) (CO2_t (bz_01 _) (CO.two (CO_kept0 34 hI (xs (i + 2)) (xs (i + 3)) (hxs _) (hxs _))) (CO.two (CO_kept1 34 hI (xs (i + 2)) (xs (i + 3)) (hxs _) (hxs _))))) (fun v h' hq => ?_)
  obtain ⟨hv, hq⟩ := hq
  refine EL_s hP 2 (i' := 24) (ls' := [some (.inr (.inr 3000)), some (.inr (.inr 0)), some (.inr (.inr 66)), some (.inr (.inr 112)), some (.inl i), some (.inl v), none]) (sk' := [.inr (.inr 66)]) (h' := h') rfl ?_
  refine EL_s hP 4 (i' := 28) (ls' := [some (.inr (.inr 3000)), some (.inr (.inr 0)), some (.inr (.inr 66)), some (.inr (.inr 112)), some (.inl i), some (.inl v), none]) (sk' := [.inl (i + 1), .inr (.inr 3000), .inr (.inr 66)]) (h' := h') rfl ?_
  refine EL_sl hP rfl rfl rfl (by omega) (by omega) ?_
  refine EL_bz hP rfl rfl rfl rfl ?_
  refine EL_s hP 4 (i' := 37) (ls' := [some (.inr (.inr 3000)), some (.inr (.inr 0)), some (.inr (.inr 66)), some (.inr (.inr 112)), some (.inl i), some (.inl v), none]) (sk' := [.inl (i + 2), .inr (.inr 3000), .inl (bz (xs (i + 1))), .inr (.inr 66)]) (h' := h') rfl ?_
  refine EL_sl hP rfl rfl rfl (by omega) (by omega) ?_
  refine EL_s hP 4 (i' := 42) (ls' := [some (.inr (.inr 3000)), some (.inr (.inr 0)), some (.inr (.inr 66)), some (.inr (.inr 112)), some (.inl i), some (.inl v), none]) (sk' := [.inl (i + 3), .inr (.inr 3000), .inl (xs (i + 2)), .inl (bz (xs (i + 1))), .inr (.inr 66)]) (h' := h') rfl ?_
  refine EL_sl hP rfl rfl rfl (by omega) (by omega) ?_
  rw [← Nat.zero_add b]
  refine EL_call (b1 := 0) (b2 := b) (rest := []) hP rfl rfl (Nat.zero_le _) (fun e => absurd e (by decide)) hq (fun v2 h2 hz => ?_) (fun E h2 hz => by obtain ⟨-, r2, e, -⟩ := hz; cases e)
  obtain ⟨hI2, r2, e, hth, hout⟩ := hz
  cases e
  refine EL_s hP 2 (i' := 46) (ls' := [some (.inr (.inr 3000)), some (.inr (.inr 0)), some (.inr (.inr 66)), some (.inr (.inr 112)), some (.inl i), some (.inl v), some (.inl r2)]) (sk' := [.inr (.inr 66)]) (h' := h2) rfl ?_
  rw [← Nat.zero_add b]
  refine EL_call (b1 := 0) (b2 := b) (rest := []) hP rfl rfl (Nat.zero_le _) (fun e => absurd e (by decide)) (m_thr2 39 h2) (fun v3 h3 hz => ?_) (fun E h3 hz => by cases hz.1)
  obtain ⟨e, rfl⟩ := hz
  cases e
  refine EL_s hP 1 (i' := 48) (ls' := [some (.inr (.inr 3000)), some (.inr (.inr 0)), some (.inr (.inr 66)), some (.inr (.inr 112)), some (.inl i), some (.inl v), some (.inl r2)]) (sk' := [.inl v, .inl (h3 66 0)]) (h' := h3) rfl ?_
  have fin : P b 62 [some (.inr (.inr 3000)), some (.inr (.inr 0)), some (.inr (.inr 66)), some (.inr (.inr 112)), some (.inl i), some (.inl v), some (.inl r2)] [] h3 := EL_s hP 1 (i' := 63) (ls' := [some (.inr (.inr 3000)), some (.inr (.inr 0)), some (.inr (.inr 66)), some (.inr (.inr 112)), some (.inl i), some (.inl v), some (.inl r2)]) (sk' := []) (h' := h3) rfl (EL_fg hP (ls' := LSx i) rfl (fun j w hj => by
    match j, hj with
    | 0, hj => exact hj
    | 1, hj => exact hj
    | 2, hj => exact hj
    | 3, hj => exact hj
    | 4, hj => exact hj
    | 5, hj => cases hj
    | 6, hj => cases hj
    | _ + 7, hj => cases hj) (kk h3 hI2))
  refine EL_b hP rfl rfl (fun _ => ?_) (fun hf => by rw [hth, xcc_eqs] at hf; cases hf)
  refine EL_s hP 1 (i' := 52) (ls' := [some (.inr (.inr 3000)), some (.inr (.inr 0)), some (.inr (.inr 66)), some (.inr (.inr 112)), some (.inl i), some (.inl v), some (.inl r2)]) (sk' := [.inl v]) (h' := h3) rfl ?_
  refine EL_b hP rfl rfl (fun _ => fin) (fun hf => ?_)
  have hv0 := xcc_v hv hf
  refine EL_s hP 2 (i' := 55) (ls' := [some (.inr (.inr 3000)), some (.inr (.inr 0)), some (.inr (.inr 66)), some (.inr (.inr 112)), some (.inl i), some (.inl v), some (.inl r2)]) (sk' := [.inl 0, .inr (.inr 112)]) (h' := h3) rfl ?_
  refine EL_ld hP (ty := .long) (n := 1) (a := 112) (z := 0) (sk := []) rfl rfl rfl (by decide) (by decide) ?_
  refine EL_s hP 2 (i' := 58) (ls' := [some (.inr (.inr 3000)), some (.inr (.inr 0)), some (.inr (.inr 66)), some (.inr (.inr 112)), some (.inl i), some (.inl v), some (.inl r2)]) (sk' := [.inr (.inl (w32 r2)), .inr (.inl (h3 112 0))]) (h' := h3) rfl ?_
  refine EL_s hP 1 (i' := 59) (ls' := [some (.inr (.inr 3000)), some (.inr (.inr 0)), some (.inr (.inr 66)), some (.inr (.inr 112)), some (.inl i), some (.inl v), some (.inl r2)]) (sk' := [.inl (xcmp (h3 112 0) (w32 r2))]) (h' := h3) rfl ?_
  exact EL_b hP rfl rfl (fun _ => fin) (fun hf => by rw [xcmp_e (show h3 112 0 = w32 r2 from hout hv0)] at hf; cases hf)
theorem sg_10 {P : xPr} {L : Nat} {xs : Int → Int} {Q : xO → xH → Prop} (hP : LCl cdS10 L xs Q P) {i : Int} (h0 : 0 ≤ i) (h1 : i + 6 ≤ L) (hxs : ∀ j, xr (xs j)) {b : Nat} {h : xH} (hI : Inv h) (kk : ∀ h' : xH, Inv h' → P b 63 (LSx i) [] h') : P (b + 4) 0 (LSx i) [] h := by
  refine EL_mono hP (b := 2 + b) (by omega) ?_
  refine EL_s hP 1 (i' := 1) (ls' := [some (.inr (.inr 3000)), some (.inr (.inr 0)), some (.inr (.inr 66)), some (.inr (.inr 112)), some (.inl i), none, none]) (sk' := [.inr (.inr 0)]) (h' := h) rfl ?_
  refine EL_s hP 4 (i' := 5) (ls' := [some (.inr (.inr 3000)), some (.inr (.inr 0)), some (.inr (.inr 66)), some (.inr (.inr 112)), some (.inl i), none, none]) (sk' := [.inl (i + 1), .inr (.inr 3000), .inr (.inr 0)]) (h' := h) rfl ?_
  refine EL_sl hP rfl rfl rfl (by omega) (by omega) ?_
  refine EL_bz hP rfl rfl rfl rfl ?_
  refine EL_s hP 4 (i' := 14) (ls' := [some (.inr (.inr 3000)), some (.inr (.inr 0)), some (.inr (.inr 66)), some (.inr (.inr 112)), some (.inl i), none, none]) (sk' := [.inl (i + 2), .inr (.inr 3000), .inl (bz (xs (i + 1))), .inr (.inr 0)]) (h' := h) rfl ?_
  refine EL_sl hP rfl rfl rfl (by omega) (by omega) ?_
  refine EL_s hP 4 (i' := 19) (ls' := [some (.inr (.inr 3000)), some (.inr (.inr 0)), some (.inr (.inr 66)), some (.inr (.inr 112)), some (.inl i), none, none]) (sk' := [.inl (i + 3), .inr (.inr 3000), .inl (xs (i + 2)), .inl (bz (xs (i + 1))), .inr (.inr 0)]) (h' := h) rfl ?_
  refine EL_sl hP rfl rfl rfl (by omega) (by omega) ?_
  refine EL_s hP 1 (i' := 21) (ls' := [some (.inr (.inr 3000)), some (.inr (.inr 0)), some (.inr (.inr 66)), some (.inr (.inr 112)), some (.inl i), none, none]) (sk' := [.inr (.inr 112), .inl (xs (i + 3)), .inl (xs (i + 2)), .inl (bz (xs (i + 1))), .inr (.inr 0)]) (h' := h) rfl ?_
  refine EL_hc hP (b1 := 2) (hn := 8) (as := .inr (.inr 0) :: (([bz (xs (i + 1)), xs (i + 2), xs (i + 3)] : List Int).map .inl ++ [.inr (.inr 112)])) (rest := []) rfl rfl (by decide) rfl (Nat.zero_le _) (CO2_h (zs := [bz (xs (i + 1)), xs (i + 2), xs (i + 3)]) rfl (by decide) (by decide) (CO2_t (bz_01 _) (CO.two (CO_output0 34 hI (xs (i + 2)) (xs (i + 3)) (hxs _) (hxs _))) (CO.two (CO_output1 34 hI (xs (i + 2)) (xs (i + 3)) (hxs _) (hxs _))))) (fun v h' hq => ?_)
  obtain ⟨hv, hq⟩ := hq
  refine EL_s hP 2 (i' := 24) (ls' := [some (.inr (.inr 3000)), some (.inr (.inr 0)), some (.inr (.inr 66)), some (.inr (.inr 112)), some (.inl i), some (.inl v), none]) (sk' := [.inr (.inr 66)]) (h' := h') rfl ?_
  refine EL_s hP 4 (i' := 28) (ls' := [some (.inr (.inr 3000)), some (.inr (.inr 0)), some (.inr (.inr 66)), some (.inr (.inr 112)), some (.inl i), some (.inl v), none]) (sk' := [.inl (i + 1), .inr (.inr 3000), .inr (.inr 66)]) (h' := h') rfl ?_
  refine EL_sl hP rfl rfl rfl (by omega) (by omega) ?_
  refine EL_bz hP rfl rfl rfl rfl ?_
  refine EL_s hP 4 (i' := 37) (ls' := [some (.inr (.inr 3000)), some (.inr (.inr 0)), some (.inr (.inr 66)), some (.inr (.inr 112)), some (.inl i), some (.inl v), none]) (sk' := [.inl (i + 2), .inr (.inr 3000), .inl (bz (xs (i + 1))), .inr (.inr 66)]) (h' := h') rfl ?_
  refine EL_sl hP rfl rfl rfl (by omega) (by omega) ?_
  refine EL_s hP 4 (i' := 42) (ls' := [some (.inr (.inr 3000)), some (.inr (.inr 0)), some (.inr (.inr 66)), some (.inr (.inr 112)), some (.inl i), some (.inl v), none]) (sk' := [.inl (i + 3), .inr (.inr 3000), .inl (xs (i + 2)), .inl (bz (xs (i + 1))), .inr (.inr 66)]) (h' := h') rfl ?_
  refine EL_sl hP rfl rfl rfl (by omega) (by omega) ?_
  rw [← Nat.zero_add b]
  refine EL_call (b1 := 0) (b2 := b) (rest := []) hP rfl rfl (Nat.zero_le _) (fun e => absurd e (by decide)) hq (fun v2 h2 hz => ?_) (fun E h2 hz => by obtain ⟨-, r2, e, -⟩ := hz; cases e)
  obtain ⟨hI2, r2, e, hth, hout⟩ := hz
  cases e
  refine EL_s hP 2 (i' := 46) (ls' := [some (.inr (.inr 3000)), some (.inr (.inr 0)), some (.inr (.inr 66)), some (.inr (.inr 112)), some (.inl i), some (.inl v), some (.inl r2)]) (sk' := [.inr (.inr 66)]) (h' := h2) rfl ?_
  rw [← Nat.zero_add b]
  refine EL_call (b1 := 0) (b2 := b) (rest := []) hP rfl rfl (Nat.zero_le _) (fun e => absurd e (by decide)) (m_thr2 39 h2) (fun v3 h3 hz => ?_) (fun E h3 hz => by cases hz.1)
  obtain ⟨e, rfl⟩ := hz
  cases e
  refine EL_s hP 1 (i' := 48) (ls' := [some (.inr (.inr 3000)), some (.inr (.inr 0)), some (.inr (.inr 66)), some (.inr (.inr 112)), some (.inl i), some (.inl v), some (.inl r2)]) (sk' := [.inl v, .inl (h3 66 0)]) (h' := h3) rfl ?_
  have fin : P b 62 [some (.inr (.inr 3000)), some (.inr (.inr 0)), some (.inr (.inr 66)), some (.inr (.inr 112)), some (.inl i), some (.inl v), some (.inl r2)] [] h3 := EL_s hP 1 (i' := 63) (ls' := [some (.inr (.inr 3000)), some (.inr (.inr 0)), some (.inr (.inr 66)), some (.inr (.inr 112)), some (.inl i), some (.inl v), some (.inl r2)]) (sk' := []) (h' := h3) rfl (EL_fg hP (ls' := LSx i) rfl (fun j w hj => by
    match j, hj with
    | 0, hj => exact hj
    | 1, hj => exact hj
    | 2, hj => exact hj
    | 3, hj => exact hj
    | 4, hj => exact hj
    | 5, hj => cases hj
    | 6, hj => cases hj
    | _ + 7, hj => cases hj) (kk h3 hI2))
  refine EL_b hP rfl rfl (fun _ => ?_) (fun hf => by rw [hth, xcc_eqs] at hf; cases hf)
  refine EL_s hP 1 (i' := 52) (ls' := [some (.inr (.inr 3000)), some (.inr (.inr 0)), some (.inr (.inr 66)), some (.inr (.inr 112)), some (.inl i), some (.inl v), some (.inl r2)]) (sk' := [.inl v]) (h' := h3) rfl ?_
  refine EL_b hP rfl rfl (fun _ => fin) (fun hf => ?_)
  have hv0 := xcc_v hv hf
  refine EL_s hP 2 (i' := 55) (ls' := [some (.inr (.inr 3000)), some (.inr (.inr 0)), some (.inr (.inr 66)), some (.inr (.inr 112)), some (.inl i), some (.inl v), some (.inl r2)]) (sk' := [.inl 0, .inr (.inr 112)]) (h' := h3) rfl ?_
  refine EL_ld hP (ty := .long) (n := 1) (a := 112) (z := 0) (sk := []) rfl rfl rfl (by decide) (by decide) ?_
  refine EL_s hP 2 (i' := 58) (ls' := [some (.inr (.inr 3000)), some (.inr (.inr 0)), some (.inr (.inr 66)), some (.inr (.inr 112)), some (.inl i), some (.inl v), some (.inl r2)]) (sk' := [.inr (.inl (w32 r2)), .inr (.inl (h3 112 0))]) (h' := h3) rfl ?_
  refine EL_s hP 1 (i' := 59) (ls' := [some (.inr (.inr 3000)), some (.inr (.inr 0)), some (.inr (.inr 66)), some (.inr (.inr 112)), some (.inl i), some (.inl v), some (.inl r2)]) (sk' := [.inl (xcmp (h3 112 0) (w32 r2))]) (h' := h3) rfl ?_
  exact EL_b hP rfl rfl (fun _ => fin) (fun hf => by rw [xcmp_e (show h3 112 0 = w32 r2 from hout hv0)] at hf; cases hf)
theorem sg_11 {P : xPr} {L : Nat} {xs : Int → Int} {Q : xO → xH → Prop} (hP : LCl cdS11 L xs Q P) {i : Int} (h0 : 0 ≤ i) (h1 : i + 6 ≤ L) (hxs : ∀ j, xr (xs j)) {b : Nat} {h : xH} (hI : Inv h) (kk : ∀ h' : xH, Inv h' → P b 83 (LSx i) [] h') : P (b + 4) 0 (LSx i) [] h := by
  refine EL_mono hP (b := 2 + b) (by omega) ?_
  refine EL_s hP 1 (i' := 1) (ls' := [some (.inr (.inr 3000)), some (.inr (.inr 0)), some (.inr (.inr 66)), some (.inr (.inr 112)), some (.inl i), none, none]) (sk' := [.inr (.inr 0)]) (h' := h) rfl ?_
  refine EL_s hP 4 (i' := 5) (ls' := [some (.inr (.inr 3000)), some (.inr (.inr 0)), some (.inr (.inr 66)), some (.inr (.inr 112)), some (.inl i), none, none]) (sk' := [.inl (i + 1), .inr (.inr 3000), .inr (.inr 0)]) (h' := h) rfl ?_
  refine EL_sl hP rfl rfl rfl (by omega) (by omega) ?_
  refine EL_bz hP rfl rfl rfl rfl ?_
  refine EL_s hP 4 (i' := 14) (ls' := [some (.inr (.inr 3000)), some (.inr (.inr 0)), some (.inr (.inr 66)), some (.inr (.inr 112)), some (.inl i), none, none]) (sk' := [.inl (i + 2), .inr (.inr 3000), .inl (bz (xs (i + 1))), .inr (.inr 0)]) (h' := h) rfl ?_
  refine EL_sl hP rfl rfl rfl (by omega) (by omega) ?_
  refine EL_s hP 4 (i' := 19) (ls' := [some (.inr (.inr 3000)), some (.inr (.inr 0)), some (.inr (.inr 66)), some (.inr (.inr 112)), some (.inl i), none, none]) (sk' := [.inl (i + 3), .inr (.inr 3000), .inl (xs (i + 2)), .inl (bz (xs (i + 1))), .inr (.inr 0)]) (h' := h) rfl ?_
  refine EL_sl hP rfl rfl rfl (by omega) (by omega) ?_
  refine EL_s hP 4 (i' := 24) (ls' := [some (.inr (.inr 3000)), some (.inr (.inr 0)), some (.inr (.inr 66)), some (.inr (.inr 112)), some (.inl i), none, none]) (sk' := [.inl (i + 4), .inr (.inr 3000), .inl (xs (i + 3)), .inl (xs (i + 2)), .inl (bz (xs (i + 1))), .inr (.inr 0)]) (h' := h) rfl ?_
  refine EL_sl hP rfl rfl rfl (by omega) (by omega) ?_
  refine EL_s hP 4 (i' := 29) (ls' := [some (.inr (.inr 3000)), some (.inr (.inr 0)), some (.inr (.inr 66)), some (.inr (.inr 112)), some (.inl i), none, none]) (sk' := [.inl (i + 5), .inr (.inr 3000), .inl (xs (i + 4)), .inl (xs (i + 3)), .inl (xs (i + 2)), .inl (bz (xs (i + 1))), .inr (.inr 0)]) (h' := h) rfl ?_
  refine EL_sl hP rfl rfl rfl (by omega) (by omega) ?_
  refine EL_s hP 1 (i' := 31) (ls' := [some (.inr (.inr 3000)), some (.inr (.inr 0)), some (.inr (.inr 66)), some (.inr (.inr 112)), some (.inl i), none, none]) (sk' := [.inr (.inr 112), .inl (xs (i + 5)), .inl (xs (i + 4)), .inl (xs (i + 3)), .inl (xs (i + 2)), .inl (bz (xs (i + 1))), .inr (.inr 0)]) (h' := h) rfl ?_
  refine EL_hc hP (b1 := 2) (hn := 9) (as := .inr (.inr 0) :: (([bz (xs (i + 1)), xs (i + 2), xs (i + 3), xs (i + 4), xs (i + 5)] : List Int).map .inl ++ [.inr (.inr 112)])) (rest := []) rfl rfl (by decide) rfl (Nat.zero_le _) (CO2_h (zs := [bz (xs (i + 1)), xs (i + 2), xs (i + 3), xs (i + 4), xs (i + 5)]) rfl (by decide) (by decide) (CO2_t (bz_01 _) (CO.two (CO_value0 15 hI (xs (i + 2)) (xs (i + 3)) (xs (i + 4)) (xs (i + 5)) (hxs _) (hxs _) (hxs _) (hxs _))) (CO.two (CO_value1 15 hI (xs (i + 2)) (xs (i + 3)) (xs (i + 4)) (xs (i + 5)) (hxs _) (hxs _) (hxs _) (hxs _))))) (fun v h' hq => ?_)
  obtain ⟨hv, hq⟩ := hq
  refine EL_s hP 2 (i' := 34) (ls' := [some (.inr (.inr 3000)), some (.inr (.inr 0)), some (.inr (.inr 66)), some (.inr (.inr 112)), some (.inl i), some (.inl v), none]) (sk' := [.inr (.inr 66)]) (h' := h') rfl ?_
  refine EL_s hP 4 (i' := 38) (ls' := [some (.inr (.inr 3000)), some (.inr (.inr 0)), some (.inr (.inr 66)), some (.inr (.inr 112)), some (.inl i), some (.inl v), none]) (sk' := [.inl (i + 1), .inr (.inr 3000), .inr (.inr 66)]) (h' := h') rfl ?_
  refine EL_sl hP rfl rfl rfl (by omega) (by omega) ?_
  refine EL_bz hP rfl rfl rfl rfl ?_
  refine EL_s hP 4 (i' := 47) (ls' := [some (.inr (.inr 3000)), some (.inr (.inr 0)), some (.inr (.inr 66)), some (.inr (.inr 112)), some (.inl i), some (.inl v), none]) (sk' := [.inl (i + 2), .inr (.inr 3000), .inl (bz (xs (i + 1))), .inr (.inr 66)]) (h' := h') rfl ?_
  refine EL_sl hP rfl rfl rfl (by omega) (by omega) ?_
  refine EL_s hP 4 (i' := 52) (ls' := [some (.inr (.inr 3000)), some (.inr (.inr 0)), some (.inr (.inr 66)), some (.inr (.inr 112)), some (.inl i), some (.inl v), none]) (sk' := [.inl (i + 3), .inr (.inr 3000), .inl (xs (i + 2)), .inl (bz (xs (i + 1))), .inr (.inr 66)]) (h' := h') rfl ?_
  refine EL_sl hP rfl rfl rfl (by omega) (by omega) ?_
  refine EL_s hP 4 (i' := 57) (ls' := [some (.inr (.inr 3000)), some (.inr (.inr 0)), some (.inr (.inr 66)), some (.inr (.inr 112)), some (.inl i), some (.inl v), none]) (sk' := [.inl (i + 4), .inr (.inr 3000), .inl (xs (i + 3)), .inl (xs (i + 2)), .inl (bz (xs (i + 1))), .inr (.inr 66)]) (h' := h') rfl ?_
  refine EL_sl hP rfl rfl rfl (by omega) (by omega) ?_
  refine EL_s hP 4 (i' := 62) (ls' := [some (.inr (.inr 3000)), some (.inr (.inr 0)), some (.inr (.inr 66)), some (.inr (.inr 112)), some (.inl i), some (.inl v), none]) (sk' := [.inl (i + 5), .inr (.inr 3000), .inl (xs (i + 4)), .inl (xs (i + 3)), .inl (xs (i + 2)), .inl (bz (xs (i + 1))), .inr (.inr 66)]) (h' := h') rfl ?_
  refine EL_sl hP rfl rfl rfl (by omega) (by omega) ?_
  rw [← Nat.zero_add b]
  refine EL_call (b1 := 0) (b2 := b) (rest := []) hP rfl rfl (Nat.zero_le _) (fun e => absurd e (by decide)) hq (fun v2 h2 hz => ?_) (fun E h2 hz => by obtain ⟨-, r2, e, -⟩ := hz; cases e)
  obtain ⟨hI2, r2, e, hth, hout⟩ := hz
  cases e
  refine EL_s hP 2 (i' := 66) (ls' := [some (.inr (.inr 3000)), some (.inr (.inr 0)), some (.inr (.inr 66)), some (.inr (.inr 112)), some (.inl i), some (.inl v), some (.inl r2)]) (sk' := [.inr (.inr 66)]) (h' := h2) rfl ?_
  rw [← Nat.zero_add b]
  refine EL_call (b1 := 0) (b2 := b) (rest := []) hP rfl rfl (Nat.zero_le _) (fun e => absurd e (by decide)) (m_thr2 39 h2) (fun v3 h3 hz => ?_) (fun E h3 hz => by cases hz.1)
  obtain ⟨e, rfl⟩ := hz
  cases e
  refine EL_s hP 1 (i' := 68) (ls' := [some (.inr (.inr 3000)), some (.inr (.inr 0)), some (.inr (.inr 66)), some (.inr (.inr 112)), some (.inl i), some (.inl v), some (.inl r2)]) (sk' := [.inl v, .inl (h3 66 0)]) (h' := h3) rfl ?_
  have fin : P b 82 [some (.inr (.inr 3000)), some (.inr (.inr 0)), some (.inr (.inr 66)), some (.inr (.inr 112)), some (.inl i), some (.inl v), some (.inl r2)] [] h3 := EL_s hP 1 (i' := 83) (ls' := [some (.inr (.inr 3000)), some (.inr (.inr 0)), some (.inr (.inr 66)), some (.inr (.inr 112)), some (.inl i), some (.inl v), some (.inl r2)]) (sk' := []) (h' := h3) rfl (EL_fg hP (ls' := LSx i) rfl (fun j w hj => by
    match j, hj with
    | 0, hj => exact hj
    | 1, hj => exact hj
    | 2, hj => exact hj
    | 3, hj => exact hj
    | 4, hj => exact hj
    | 5, hj => cases hj
    | 6, hj => cases hj
    | _ + 7, hj => cases hj) (kk h3 hI2))
  refine EL_b hP rfl rfl (fun _ => ?_) (fun hf => by rw [hth, xcc_eqs] at hf; cases hf)
  refine EL_s hP 1 (i' := 72) (ls' := [some (.inr (.inr 3000)), some (.inr (.inr 0)), some (.inr (.inr 66)), some (.inr (.inr 112)), some (.inl i), some (.inl v), some (.inl r2)]) (sk' := [.inl v]) (h' := h3) rfl ?_
  refine EL_b hP rfl rfl (fun _ => fin) (fun hf => ?_)
  have hv0 := xcc_v hv hf
  refine EL_s hP 2 (i' := 75) (ls' := [some (.inr (.inr 3000)), some (.inr (.inr 0)), some (.inr (.inr 66)), some (.inr (.inr 112)), some (.inl i), some (.inl v), some (.inl r2)]) (sk' := [.inl 0, .inr (.inr 112)]) (h' := h3) rfl ?_
  refine EL_ld hP (ty := .long) (n := 1) (a := 112) (z := 0) (sk := []) rfl rfl rfl (by decide) (by decide) ?_
  refine EL_s hP 2 (i' := 78) (ls' := [some (.inr (.inr 3000)), some (.inr (.inr 0)), some (.inr (.inr 66)), some (.inr (.inr 112)), some (.inl i), some (.inl v), some (.inl r2)]) (sk' := [.inr (.inl (w32 r2)), .inr (.inl (h3 112 0))]) (h' := h3) rfl ?_
  refine EL_s hP 1 (i' := 79) (ls' := [some (.inr (.inr 3000)), some (.inr (.inr 0)), some (.inr (.inr 66)), some (.inr (.inr 112)), some (.inl i), some (.inl v), some (.inl r2)]) (sk' := [.inl (xcmp (h3 112 0) (w32 r2))]) (h' := h3) rfl ?_
  exact EL_b hP rfl rfl (fun _ => fin) (fun hf => by rw [xcmp_e (show h3 112 0 = w32 r2 from hout hv0)] at hf; cases hf)
theorem sg_12 {P : xPr} {L : Nat} {xs : Int → Int} {Q : xO → xH → Prop} (hP : LCl cdS12 L xs Q P) {i : Int} (h0 : 0 ≤ i) (h1 : i + 6 ≤ L) (hxs : ∀ j, xr (xs j)) {b : Nat} {h : xH} (hI : Inv h) (kk : ∀ h' : xH, Inv h' → P b 53 (LSx i) [] h') : P (b + 4) 0 (LSx i) [] h := by
  refine EL_mono hP (b := 1 + b) (by omega) ?_
  refine EL_s hP 1 (i' := 1) (ls' := [some (.inr (.inr 3000)), some (.inr (.inr 0)), some (.inr (.inr 66)), some (.inr (.inr 112)), some (.inl i), none, none]) (sk' := [.inr (.inr 0)]) (h' := h) rfl ?_
  refine EL_s hP 4 (i' := 5) (ls' := [some (.inr (.inr 3000)), some (.inr (.inr 0)), some (.inr (.inr 66)), some (.inr (.inr 112)), some (.inl i), none, none]) (sk' := [.inl (i + 1), .inr (.inr 3000), .inr (.inr 0)]) (h' := h) rfl ?_
  refine EL_sl hP rfl rfl rfl (by omega) (by omega) ?_
  refine EL_bz hP rfl rfl rfl rfl ?_
  refine EL_s hP 4 (i' := 14) (ls' := [some (.inr (.inr 3000)), some (.inr (.inr 0)), some (.inr (.inr 66)), some (.inr (.inr 112)), some (.inl i), none, none]) (sk' := [.inl (i + 2), .inr (.inr 3000), .inl (bz (xs (i + 1))), .inr (.inr 0)]) (h' := h) rfl ?_
  refine EL_sl hP rfl rfl rfl (by omega) (by omega) ?_
  refine EL_s hP 1 (i' := 16) (ls' := [some (.inr (.inr 3000)), some (.inr (.inr 0)), some (.inr (.inr 66)), some (.inr (.inr 112)), some (.inl i), none, none]) (sk' := [.inr (.inr 112), .inl (xs (i + 2)), .inl (bz (xs (i + 1))), .inr (.inr 0)]) (h' := h) rfl ?_
  refine EL_hc hP (b1 := 1) (hn := 10) (as := .inr (.inr 0) :: (([bz (xs (i + 1)), xs (i + 2)] : List Int).map .inl ++ [.inr (.inr 112)])) (rest := []) rfl rfl (by decide) rfl (Nat.zero_le _) (CO2_h (zs := [bz (xs (i + 1)), xs (i + 2)]) rfl (by decide) (by decide) (CO2_t (bz_01 _) (CO2_write0 13 hI (xs (i + 2)) (hxs _)) (CO2_write1 13 hI (xs (i + 2)) (hxs _)))) (fun v h' hq => ?_)
  obtain ⟨hv, hq⟩ := hq
  refine EL_s hP 2 (i' := 19) (ls' := [some (.inr (.inr 3000)), some (.inr (.inr 0)), some (.inr (.inr 66)), some (.inr (.inr 112)), some (.inl i), some (.inl v), none]) (sk' := [.inr (.inr 66)]) (h' := h') rfl ?_
  refine EL_s hP 4 (i' := 23) (ls' := [some (.inr (.inr 3000)), some (.inr (.inr 0)), some (.inr (.inr 66)), some (.inr (.inr 112)), some (.inl i), some (.inl v), none]) (sk' := [.inl (i + 1), .inr (.inr 3000), .inr (.inr 66)]) (h' := h') rfl ?_
  refine EL_sl hP rfl rfl rfl (by omega) (by omega) ?_
  refine EL_bz hP rfl rfl rfl rfl ?_
  refine EL_s hP 4 (i' := 32) (ls' := [some (.inr (.inr 3000)), some (.inr (.inr 0)), some (.inr (.inr 66)), some (.inr (.inr 112)), some (.inl i), some (.inl v), none]) (sk' := [.inl (i + 2), .inr (.inr 3000), .inl (bz (xs (i + 1))), .inr (.inr 66)]) (h' := h') rfl ?_
  refine EL_sl hP rfl rfl rfl (by omega) (by omega) ?_
  rw [← Nat.zero_add b]
  refine EL_call (b1 := 0) (b2 := b) (rest := []) hP rfl rfl (Nat.zero_le _) (fun e => absurd e (by decide)) hq (fun v2 h2 hz => ?_) (fun E h2 hz => by obtain ⟨-, r2, e, -⟩ := hz; cases e)
  obtain ⟨hI2, r2, e, hth, hout⟩ := hz
  cases e
  refine EL_s hP 2 (i' := 36) (ls' := [some (.inr (.inr 3000)), some (.inr (.inr 0)), some (.inr (.inr 66)), some (.inr (.inr 112)), some (.inl i), some (.inl v), some (.inl r2)]) (sk' := [.inr (.inr 66)]) (h' := h2) rfl ?_
  rw [← Nat.zero_add b]
  refine EL_call (b1 := 0) (b2 := b) (rest := []) hP rfl rfl (Nat.zero_le _) (fun e => absurd e (by decide)) (m_thr2 39 h2) (fun v3 h3 hz => ?_) (fun E h3 hz => by cases hz.1)
  obtain ⟨e, rfl⟩ := hz
  cases e
  refine EL_s hP 1 (i' := 38) (ls' := [some (.inr (.inr 3000)), some (.inr (.inr 0)), some (.inr (.inr 66)), some (.inr (.inr 112)), some (.inl i), some (.inl v), some (.inl r2)]) (sk' := [.inl v, .inl (h3 66 0)]) (h' := h3) rfl ?_
  have fin : P b 52 [some (.inr (.inr 3000)), some (.inr (.inr 0)), some (.inr (.inr 66)), some (.inr (.inr 112)), some (.inl i), some (.inl v), some (.inl r2)] [] h3 := EL_s hP 1 (i' := 53) (ls' := [some (.inr (.inr 3000)), some (.inr (.inr 0)), some (.inr (.inr 66)), some (.inr (.inr 112)), some (.inl i), some (.inl v), some (.inl r2)]) (sk' := []) (h' := h3) rfl (EL_fg hP (ls' := LSx i) rfl (fun j w hj => by
    match j, hj with
    | 0, hj => exact hj
    | 1, hj => exact hj
    | 2, hj => exact hj
    | 3, hj => exact hj
    | 4, hj => exact hj
    | 5, hj => cases hj
    | 6, hj => cases hj
    | _ + 7, hj => cases hj) (kk h3 hI2))
  refine EL_b hP rfl rfl (fun _ => ?_) (fun hf => by rw [hth, xcc_eqs] at hf; cases hf)
  refine EL_s hP 1 (i' := 42) (ls' := [some (.inr (.inr 3000)), some (.inr (.inr 0)), some (.inr (.inr 66)), some (.inr (.inr 112)), some (.inl i), some (.inl v), some (.inl r2)]) (sk' := [.inl v]) (h' := h3) rfl ?_
  refine EL_b hP rfl rfl (fun _ => fin) (fun hf => ?_)
  have hv0 := xcc_v hv hf
  refine EL_s hP 2 (i' := 45) (ls' := [some (.inr (.inr 3000)), some (.inr (.inr 0)), some (.inr (.inr 66)), some (.inr (.inr 112)), some (.inl i), some (.inl v), some (.inl r2)]) (sk' := [.inl 0, .inr (.inr 112)]) (h' := h3) rfl ?_
  refine EL_ld hP (ty := .long) (n := 1) (a := 112) (z := 0) (sk := []) rfl rfl rfl (by decide) (by decide) ?_
  refine EL_s hP 2 (i' := 48) (ls' := [some (.inr (.inr 3000)), some (.inr (.inr 0)), some (.inr (.inr 66)), some (.inr (.inr 112)), some (.inl i), some (.inl v), some (.inl r2)]) (sk' := [.inr (.inl (w32 r2)), .inr (.inl (h3 112 0))]) (h' := h3) rfl ?_
  refine EL_s hP 1 (i' := 49) (ls' := [some (.inr (.inr 3000)), some (.inr (.inr 0)), some (.inr (.inr 66)), some (.inr (.inr 112)), some (.inl i), some (.inl v), some (.inl r2)]) (sk' := [.inl (xcmp (h3 112 0) (w32 r2))]) (h' := h3) rfl ?_
  exact EL_b hP rfl rfl (fun _ => fin) (fun hf => by rw [xcmp_e (show h3 112 0 = w32 r2 from hout hv0)] at hf; cases hf)
theorem sg_13 {P : xPr} {L : Nat} {xs : Int → Int} {Q : xO → xH → Prop} (hP : LCl cdS13 L xs Q P) {i : Int} (h0 : 0 ≤ i) (h1 : i + 6 ≤ L) (hxs : ∀ j, xr (xs j)) {b : Nat} {h : xH} (hI : Inv h) (kk : ∀ h' : xH, Inv h' → P b 17 (LSx i) [] h') : P (b + 4) 0 (LSx i) [] h := by
  refine EL_mono hP (b := 0 + b) (by omega) ?_
  refine EL_s hP 1 (i' := 1) (ls' := [some (.inr (.inr 3000)), some (.inr (.inr 0)), some (.inr (.inr 66)), some (.inr (.inr 112)), some (.inl i), none, none]) (sk' := [.inr (.inr 0)]) (h' := h) rfl ?_
  refine EL_s hP 4 (i' := 5) (ls' := [some (.inr (.inr 3000)), some (.inr (.inr 0)), some (.inr (.inr 66)), some (.inr (.inr 112)), some (.inl i), none, none]) (sk' := [.inl (i + 1), .inr (.inr 3000), .inr (.inr 0)]) (h' := h) rfl ?_
  refine EL_sl hP rfl rfl rfl (by omega) (by omega) ?_
  refine EL_call (b1 := 0) (b2 := b) (rest := []) hP rfl rfl (Nat.zero_le _) (fun e => absurd e (by decide)) (CO.two (CO_octet 34 hI (xs (i + 1)) (hxs _))) (fun v h1 hF => ?_) (fun E h1 hF => by obtain ⟨r1, e⟩ := CO2_v hF; cases e)
  obtain ⟨r1, e⟩ := CO2_v hF
  cases e
  refine EL_s hP 1 (i' := 8) (ls' := [some (.inr (.inr 3000)), some (.inr (.inr 0)), some (.inr (.inr 66)), some (.inr (.inr 112)), some (.inl i), none, none]) (sk' := [.inr (.inr 66), .inl r1]) (h' := h1) rfl ?_
  refine EL_s hP 4 (i' := 12) (ls' := [some (.inr (.inr 3000)), some (.inr (.inr 0)), some (.inr (.inr 66)), some (.inr (.inr 112)), some (.inl i), none, none]) (sk' := [.inl (i + 1), .inr (.inr 3000), .inr (.inr 66), .inl r1]) (h' := h1) rfl ?_
  refine EL_sl hP rfl rfl rfl (by omega) (by omega) ?_
  have hF1 := hF (h1 112 0)
  rw [xup_self] at hF1
  rw [← Nat.zero_add b]
  refine EL_call (b1 := 0) (b2 := b) (rest := [.inl r1]) hP rfl rfl (Nat.le_of_ble_eq_true rfl) (fun e => absurd e (by decide)) hF1 (fun v2 h2 hz => ?_) (fun E h2 hz => by obtain ⟨-, -, r2, e, -⟩ := hz; cases e)
  obtain ⟨hI2, -, r2, e, hag⟩ := hz
  cases e
  have hw : w32 r1 = w32 r2 := by
    rcases hag with ⟨r9, e, -, hw⟩ | ⟨k, E, e, -⟩
    · cases e; exact hw
    · cases e
  exact EL_b hP rfl rfl (fun _ => kk h2 hI2) (fun hf => by rw [xcc_eqw hw] at hf; cases hf)
theorem sg_14 {P : xPr} {L : Nat} {xs : Int → Int} {Q : xO → xH → Prop} (hP : LCl cdS14 L xs Q P) {i : Int} (h0 : 0 ≤ i) (h1 : i + 6 ≤ L) (hxs : ∀ j, xr (xs j)) {b : Nat} {h : xH} (hI : Inv h) (kk : ∀ h' : xH, Inv h' → P b 35 (LSx i) [] h') : P (b + 4) 0 (LSx i) [] h := by
  refine EL_mono hP (b := 1 + b) (by omega) ?_
  refine EL_s hP 1 (i' := 1) (ls' := [some (.inr (.inr 3000)), some (.inr (.inr 0)), some (.inr (.inr 66)), some (.inr (.inr 112)), some (.inl i), none, none]) (sk' := [.inr (.inr 0)]) (h' := h) rfl ?_
  refine EL_s hP 4 (i' := 5) (ls' := [some (.inr (.inr 3000)), some (.inr (.inr 0)), some (.inr (.inr 66)), some (.inr (.inr 112)), some (.inl i), none, none]) (sk' := [.inl (i + 1), .inr (.inr 3000), .inr (.inr 0)]) (h' := h) rfl ?_
  refine EL_sl hP rfl rfl rfl (by omega) (by omega) ?_
  refine EL_s hP 1 (i' := 7) (ls' := [some (.inr (.inr 3000)), some (.inr (.inr 0)), some (.inr (.inr 66)), some (.inr (.inr 112)), some (.inl i), none, none]) (sk' := [.inr (.inr 112), .inl (xs (i + 1)), .inr (.inr 0)]) (h' := h) rfl ?_
  refine EL_hc hP (b1 := 1) (hn := 11) (as := .inr (.inr 0) :: (([xs (i + 1)] : List Int).map .inl ++ [.inr (.inr 112)])) (rest := []) rfl rfl (by decide) rfl (Nat.zero_le _) (CO2_h (zs := [xs (i + 1)]) rfl (by decide) (by decide) (CO.two (CO_testOf 34 hI (xs (i + 1)) (hxs _)))) (fun v h' hq => ?_)
  obtain ⟨hv, hq⟩ := hq
  refine EL_s hP 2 (i' := 10) (ls' := [some (.inr (.inr 3000)), some (.inr (.inr 0)), some (.inr (.inr 66)), some (.inr (.inr 112)), some (.inl i), some (.inl v), none]) (sk' := [.inr (.inr 66)]) (h' := h') rfl ?_
  refine EL_s hP 4 (i' := 14) (ls' := [some (.inr (.inr 3000)), some (.inr (.inr 0)), some (.inr (.inr 66)), some (.inr (.inr 112)), some (.inl i), some (.inl v), none]) (sk' := [.inl (i + 1), .inr (.inr 3000), .inr (.inr 66)]) (h' := h') rfl ?_
  refine EL_sl hP rfl rfl rfl (by omega) (by omega) ?_
  rw [← Nat.zero_add b]
  refine EL_call (b1 := 0) (b2 := b) (rest := []) hP rfl rfl (Nat.zero_le _) (fun e => absurd e (by decide)) hq (fun v2 h2 hz => ?_) (fun E h2 hz => by obtain ⟨-, r2, e, -⟩ := hz; cases e)
  obtain ⟨hI2, r2, e, hth, hout⟩ := hz
  cases e
  refine EL_s hP 2 (i' := 18) (ls' := [some (.inr (.inr 3000)), some (.inr (.inr 0)), some (.inr (.inr 66)), some (.inr (.inr 112)), some (.inl i), some (.inl v), some (.inl r2)]) (sk' := [.inr (.inr 66)]) (h' := h2) rfl ?_
  rw [← Nat.zero_add b]
  refine EL_call (b1 := 0) (b2 := b) (rest := []) hP rfl rfl (Nat.zero_le _) (fun e => absurd e (by decide)) (m_thr2 39 h2) (fun v3 h3 hz => ?_) (fun E h3 hz => by cases hz.1)
  obtain ⟨e, rfl⟩ := hz
  cases e
  refine EL_s hP 1 (i' := 20) (ls' := [some (.inr (.inr 3000)), some (.inr (.inr 0)), some (.inr (.inr 66)), some (.inr (.inr 112)), some (.inl i), some (.inl v), some (.inl r2)]) (sk' := [.inl v, .inl (h3 66 0)]) (h' := h3) rfl ?_
  have fin : P b 34 [some (.inr (.inr 3000)), some (.inr (.inr 0)), some (.inr (.inr 66)), some (.inr (.inr 112)), some (.inl i), some (.inl v), some (.inl r2)] [] h3 := EL_s hP 1 (i' := 35) (ls' := [some (.inr (.inr 3000)), some (.inr (.inr 0)), some (.inr (.inr 66)), some (.inr (.inr 112)), some (.inl i), some (.inl v), some (.inl r2)]) (sk' := []) (h' := h3) rfl (EL_fg hP (ls' := LSx i) rfl (fun j w hj => by
    match j, hj with
    | 0, hj => exact hj
    | 1, hj => exact hj
    | 2, hj => exact hj
    | 3, hj => exact hj
    | 4, hj => exact hj
    | 5, hj => cases hj
    | 6, hj => cases hj
    | _ + 7, hj => cases hj) (kk h3 hI2))
  refine EL_b hP rfl rfl (fun _ => ?_) (fun hf => by rw [hth, xcc_eqs] at hf; cases hf)
  refine EL_s hP 1 (i' := 24) (ls' := [some (.inr (.inr 3000)), some (.inr (.inr 0)), some (.inr (.inr 66)), some (.inr (.inr 112)), some (.inl i), some (.inl v), some (.inl r2)]) (sk' := [.inl v]) (h' := h3) rfl ?_
  refine EL_b hP rfl rfl (fun _ => fin) (fun hf => ?_)
  have hv0 := xcc_v hv hf
  refine EL_s hP 2 (i' := 27) (ls' := [some (.inr (.inr 3000)), some (.inr (.inr 0)), some (.inr (.inr 66)), some (.inr (.inr 112)), some (.inl i), some (.inl v), some (.inl r2)]) (sk' := [.inl 0, .inr (.inr 112)]) (h' := h3) rfl ?_
  refine EL_ld hP (ty := .long) (n := 1) (a := 112) (z := 0) (sk := []) rfl rfl rfl (by decide) (by decide) ?_
  refine EL_s hP 2 (i' := 30) (ls' := [some (.inr (.inr 3000)), some (.inr (.inr 0)), some (.inr (.inr 66)), some (.inr (.inr 112)), some (.inl i), some (.inl v), some (.inl r2)]) (sk' := [.inr (.inl (w32 r2)), .inr (.inl (h3 112 0))]) (h' := h3) rfl ?_
  refine EL_s hP 1 (i' := 31) (ls' := [some (.inr (.inr 3000)), some (.inr (.inr 0)), some (.inr (.inr 66)), some (.inr (.inr 112)), some (.inl i), some (.inl v), some (.inl r2)]) (sk' := [.inl (xcmp (h3 112 0) (w32 r2))]) (h' := h3) rfl ?_
  exact EL_b hP rfl rfl (fun _ => fin) (fun hf => by rw [xcmp_e (show h3 112 0 = w32 r2 from hout hv0)] at hf; cases hf)
theorem sg_15 {P : xPr} {L : Nat} {xs : Int → Int} {Q : xO → xH → Prop} (hP : LCl cdS15 L xs Q P) {i : Int} (h0 : 0 ≤ i) (h1 : i + 6 ≤ L) (hxs : ∀ j, xr (xs j)) {b : Nat} {h : xH} (hI : Inv h) (kk : ∀ h' : xH, Inv h' → P b 55 (LSx i) [] h') : P (b + 4) 0 (LSx i) [] h := by
  refine EL_mono hP (b := 3 + b) (by omega) ?_
  refine EL_s hP 1 (i' := 1) (ls' := [some (.inr (.inr 3000)), some (.inr (.inr 0)), some (.inr (.inr 66)), some (.inr (.inr 112)), some (.inl i), none, none]) (sk' := [.inr (.inr 0)]) (h' := h) rfl ?_
  refine EL_s hP 4 (i' := 5) (ls' := [some (.inr (.inr 3000)), some (.inr (.inr 0)), some (.inr (.inr 66)), some (.inr (.inr 112)), some (.inl i), none, none]) (sk' := [.inl (i + 1), .inr (.inr 3000), .inr (.inr 0)]) (h' := h) rfl ?_
  refine EL_sl hP rfl rfl rfl (by omega) (by omega) ?_
  refine EL_s hP 4 (i' := 10) (ls' := [some (.inr (.inr 3000)), some (.inr (.inr 0)), some (.inr (.inr 66)), some (.inr (.inr 112)), some (.inl i), none, none]) (sk' := [.inl (i + 2), .inr (.inr 3000), .inl (xs (i + 1)), .inr (.inr 0)]) (h' := h) rfl ?_
  refine EL_sl hP rfl rfl rfl (by omega) (by omega) ?_
  refine EL_s hP 4 (i' := 15) (ls' := [some (.inr (.inr 3000)), some (.inr (.inr 0)), some (.inr (.inr 66)), some (.inr (.inr 112)), some (.inl i), none, none]) (sk' := [.inl (i + 3), .inr (.inr 3000), .inl (xs (i + 2)), .inl (xs (i + 1)), .inr (.inr 0)]) (h' := h) rfl ?_
  refine EL_sl hP rfl rfl rfl (by omega) (by omega) ?_
  refine EL_s hP 1 (i' := 17) (ls' := [some (.inr (.inr 3000)), some (.inr (.inr 0)), some (.inr (.inr 66)), some (.inr (.inr 112)), some (.inl i), none, none]) (sk' := [.inr (.inr 112), .inl (xs (i + 3)), .inl (xs (i + 2)), .inl (xs (i + 1)), .inr (.inr 0)]) (h' := h) rfl ?_
  refine EL_hc hP (b1 := 3) (hn := 12) (as := .inr (.inr 0) :: (([xs (i + 1), xs (i + 2), xs (i + 3)] : List Int).map .inl ++ [.inr (.inr 112)])) (rest := []) rfl rfl (by decide) rfl (Nat.zero_le _) (CO2_h (zs := [xs (i + 1), xs (i + 2), xs (i + 3)]) rfl (by decide) (by decide) (CO.two (CO_joins 34 hI (xs (i + 1)) (xs (i + 2)) (xs (i + 3)) (hxs _) (hxs _) (hxs _)))) (fun v h' hq => ?_)
  obtain ⟨hv, hq⟩ := hq
  refine EL_s hP 2 (i' := 20) (ls' := [some (.inr (.inr 3000)), some (.inr (.inr 0)), some (.inr (.inr 66)), some (.inr (.inr 112)), some (.inl i), some (.inl v), none]) (sk' := [.inr (.inr 66)]) (h' := h') rfl ?_
  refine EL_s hP 4 (i' := 24) (ls' := [some (.inr (.inr 3000)), some (.inr (.inr 0)), some (.inr (.inr 66)), some (.inr (.inr 112)), some (.inl i), some (.inl v), none]) (sk' := [.inl (i + 1), .inr (.inr 3000), .inr (.inr 66)]) (h' := h') rfl ?_
  refine EL_sl hP rfl rfl rfl (by omega) (by omega) ?_
  refine EL_s hP 4 (i' := 29) (ls' := [some (.inr (.inr 3000)), some (.inr (.inr 0)), some (.inr (.inr 66)), some (.inr (.inr 112)), some (.inl i), some (.inl v), none]) (sk' := [.inl (i + 2), .inr (.inr 3000), .inl (xs (i + 1)), .inr (.inr 66)]) (h' := h') rfl ?_
  refine EL_sl hP rfl rfl rfl (by omega) (by omega) ?_
  refine EL_s hP 4 (i' := 34) (ls' := [some (.inr (.inr 3000)), some (.inr (.inr 0)), some (.inr (.inr 66)), some (.inr (.inr 112)), some (.inl i), some (.inl v), none]) (sk' := [.inl (i + 3), .inr (.inr 3000), .inl (xs (i + 2)), .inl (xs (i + 1)), .inr (.inr 66)]) (h' := h') rfl ?_
  refine EL_sl hP rfl rfl rfl (by omega) (by omega) ?_
  rw [← Nat.zero_add b]
  refine EL_call (b1 := 0) (b2 := b) (rest := []) hP rfl rfl (Nat.zero_le _) (fun e => absurd e (by decide)) hq (fun v2 h2 hz => ?_) (fun E h2 hz => by obtain ⟨-, r2, e, -⟩ := hz; cases e)
  obtain ⟨hI2, r2, e, hth, hout⟩ := hz
  cases e
  refine EL_s hP 2 (i' := 38) (ls' := [some (.inr (.inr 3000)), some (.inr (.inr 0)), some (.inr (.inr 66)), some (.inr (.inr 112)), some (.inl i), some (.inl v), some (.inl r2)]) (sk' := [.inr (.inr 66)]) (h' := h2) rfl ?_
  rw [← Nat.zero_add b]
  refine EL_call (b1 := 0) (b2 := b) (rest := []) hP rfl rfl (Nat.zero_le _) (fun e => absurd e (by decide)) (m_thr2 39 h2) (fun v3 h3 hz => ?_) (fun E h3 hz => by cases hz.1)
  obtain ⟨e, rfl⟩ := hz
  cases e
  refine EL_s hP 1 (i' := 40) (ls' := [some (.inr (.inr 3000)), some (.inr (.inr 0)), some (.inr (.inr 66)), some (.inr (.inr 112)), some (.inl i), some (.inl v), some (.inl r2)]) (sk' := [.inl v, .inl (h3 66 0)]) (h' := h3) rfl ?_
  have fin : P b 54 [some (.inr (.inr 3000)), some (.inr (.inr 0)), some (.inr (.inr 66)), some (.inr (.inr 112)), some (.inl i), some (.inl v), some (.inl r2)] [] h3 := EL_s hP 1 (i' := 55) (ls' := [some (.inr (.inr 3000)), some (.inr (.inr 0)), some (.inr (.inr 66)), some (.inr (.inr 112)), some (.inl i), some (.inl v), some (.inl r2)]) (sk' := []) (h' := h3) rfl (EL_fg hP (ls' := LSx i) rfl (fun j w hj => by
    match j, hj with
    | 0, hj => exact hj
    | 1, hj => exact hj
    | 2, hj => exact hj
    | 3, hj => exact hj
    | 4, hj => exact hj
    | 5, hj => cases hj
    | 6, hj => cases hj
    | _ + 7, hj => cases hj) (kk h3 hI2))
  refine EL_b hP rfl rfl (fun _ => ?_) (fun hf => by rw [hth, xcc_eqs] at hf; cases hf)
  refine EL_s hP 1 (i' := 44) (ls' := [some (.inr (.inr 3000)), some (.inr (.inr 0)), some (.inr (.inr 66)), some (.inr (.inr 112)), some (.inl i), some (.inl v), some (.inl r2)]) (sk' := [.inl v]) (h' := h3) rfl ?_
  refine EL_b hP rfl rfl (fun _ => fin) (fun hf => ?_)
  have hv0 := xcc_v hv hf
  refine EL_s hP 2 (i' := 47) (ls' := [some (.inr (.inr 3000)), some (.inr (.inr 0)), some (.inr (.inr 66)), some (.inr (.inr 112)), some (.inl i), some (.inl v), some (.inl r2)]) (sk' := [.inl 0, .inr (.inr 112)]) (h' := h3) rfl ?_
  refine EL_ld hP (ty := .long) (n := 1) (a := 112) (z := 0) (sk := []) rfl rfl rfl (by decide) (by decide) ?_
  refine EL_s hP 2 (i' := 50) (ls' := [some (.inr (.inr 3000)), some (.inr (.inr 0)), some (.inr (.inr 66)), some (.inr (.inr 112)), some (.inl i), some (.inl v), some (.inl r2)]) (sk' := [.inr (.inl (w32 r2)), .inr (.inl (h3 112 0))]) (h' := h3) rfl ?_
  refine EL_s hP 1 (i' := 51) (ls' := [some (.inr (.inr 3000)), some (.inr (.inr 0)), some (.inr (.inr 66)), some (.inr (.inr 112)), some (.inl i), some (.inl v), some (.inl r2)]) (sk' := [.inl (xcmp (h3 112 0) (w32 r2))]) (h' := h3) rfl ?_
  exact EL_b hP rfl rfl (fun _ => fin) (fun hf => by rw [xcmp_e (show h3 112 0 = w32 r2 from hout hv0)] at hf; cases hf)
theorem sg_16 {P : xPr} {L : Nat} {xs : Int → Int} {Q : xO → xH → Prop} (hP : LCl cdS16 L xs Q P) {i : Int} (h0 : 0 ≤ i) (h1 : i + 6 ≤ L) (hxs : ∀ j, xr (xs j)) {b : Nat} {h : xH} (hI : Inv h) (kk : ∀ h' : xH, Inv h' → P b 35 (LSx i) [] h') : P (b + 4) 0 (LSx i) [] h := by
  refine EL_mono hP (b := 0 + b) (by omega) ?_
  refine EL_s hP 1 (i' := 1) (ls' := [some (.inr (.inr 3000)), some (.inr (.inr 0)), some (.inr (.inr 66)), some (.inr (.inr 112)), some (.inl i), none, none]) (sk' := [.inr (.inr 0)]) (h' := h) rfl ?_
  refine EL_s hP 4 (i' := 5) (ls' := [some (.inr (.inr 3000)), some (.inr (.inr 0)), some (.inr (.inr 66)), some (.inr (.inr 112)), some (.inl i), none, none]) (sk' := [.inl (i + 1), .inr (.inr 3000), .inr (.inr 0)]) (h' := h) rfl ?_
  refine EL_sl hP rfl rfl rfl (by omega) (by omega) ?_
  refine EL_bz hP rfl rfl rfl rfl ?_
  refine EL_s hP 4 (i' := 14) (ls' := [some (.inr (.inr 3000)), some (.inr (.inr 0)), some (.inr (.inr 66)), some (.inr (.inr 112)), some (.inl i), none, none]) (sk' := [.inl (i + 2), .inr (.inr 3000), .inl (bz (xs (i + 1))), .inr (.inr 0)]) (h' := h) rfl ?_
  refine EL_sl hP rfl rfl rfl (by omega) (by omega) ?_
  refine EL_call (b1 := 0) (b2 := b) (rest := []) hP rfl rfl (Nat.zero_le _) (fun e => absurd e (by decide)) (CO2_t (bz_01 _) (CO.two (CO_ofSize0 34 hI (xs (i + 2)) (hxs _))) (CO.two (CO_ofSize1 34 hI (xs (i + 2)) (hxs _)))) (fun v h1 hF => ?_) (fun E h1 hF => by obtain ⟨r1, e⟩ := CO2_v hF; cases e)
  obtain ⟨r1, e⟩ := CO2_v hF
  cases e
  refine EL_s hP 1 (i' := 17) (ls' := [some (.inr (.inr 3000)), some (.inr (.inr 0)), some (.inr (.inr 66)), some (.inr (.inr 112)), some (.inl i), none, none]) (sk' := [.inr (.inr 66), .inl r1]) (h' := h1) rfl ?_
  refine EL_s hP 4 (i' := 21) (ls' := [some (.inr (.inr 3000)), some (.inr (.inr 0)), some (.inr (.inr 66)), some (.inr (.inr 112)), some (.inl i), none, none]) (sk' := [.inl (i + 1), .inr (.inr 3000), .inr (.inr 66), .inl r1]) (h' := h1) rfl ?_
  refine EL_sl hP rfl rfl rfl (by omega) (by omega) ?_
  refine EL_bz hP rfl rfl rfl rfl ?_
  refine EL_s hP 4 (i' := 30) (ls' := [some (.inr (.inr 3000)), some (.inr (.inr 0)), some (.inr (.inr 66)), some (.inr (.inr 112)), some (.inl i), none, none]) (sk' := [.inl (i + 2), .inr (.inr 3000), .inl (bz (xs (i + 1))), .inr (.inr 66), .inl r1]) (h' := h1) rfl ?_
  refine EL_sl hP rfl rfl rfl (by omega) (by omega) ?_
  have hF1 := hF (h1 112 0)
  rw [xup_self] at hF1
  rw [← Nat.zero_add b]
  refine EL_call (b1 := 0) (b2 := b) (rest := [.inl r1]) hP rfl rfl (Nat.le_of_ble_eq_true rfl) (fun e => absurd e (by decide)) hF1 (fun v2 h2 hz => ?_) (fun E h2 hz => by obtain ⟨-, -, r2, e, -⟩ := hz; cases e)
  obtain ⟨hI2, -, r2, e, hag⟩ := hz
  cases e
  have hw : w32 r1 = w32 r2 := by
    rcases hag with ⟨r9, e, -, hw⟩ | ⟨k, E, e, -⟩
    · cases e; exact hw
    · cases e
  exact EL_b hP rfl rfl (fun _ => kk h2 hI2) (fun hf => by rw [xcc_eqw hw] at hf; cases hf)
theorem sg_17 {P : xPr} {L : Nat} {xs : Int → Int} {Q : xO → xH → Prop} (hP : LCl cdS17 L xs Q P) {i : Int} (h0 : 0 ≤ i) (h1 : i + 6 ≤ L) (hxs : ∀ j, xr (xs j)) {b : Nat} {h : xH} (hI : Inv h) (kk : ∀ h' : xH, Inv h' → P b 63 (LSx i) [] h') : P (b + 4) 0 (LSx i) [] h := by
  refine EL_mono hP (b := 2 + b) (by omega) ?_
  refine EL_s hP 1 (i' := 1) (ls' := [some (.inr (.inr 3000)), some (.inr (.inr 0)), some (.inr (.inr 66)), some (.inr (.inr 112)), some (.inl i), none, none]) (sk' := [.inr (.inr 0)]) (h' := h) rfl ?_
  refine EL_s hP 4 (i' := 5) (ls' := [some (.inr (.inr 3000)), some (.inr (.inr 0)), some (.inr (.inr 66)), some (.inr (.inr 112)), some (.inl i), none, none]) (sk' := [.inl (i + 1), .inr (.inr 3000), .inr (.inr 0)]) (h' := h) rfl ?_
  refine EL_sl hP rfl rfl rfl (by omega) (by omega) ?_
  refine EL_bz hP rfl rfl rfl rfl ?_
  refine EL_s hP 4 (i' := 14) (ls' := [some (.inr (.inr 3000)), some (.inr (.inr 0)), some (.inr (.inr 66)), some (.inr (.inr 112)), some (.inl i), none, none]) (sk' := [.inl (i + 2), .inr (.inr 3000), .inl (bz (xs (i + 1))), .inr (.inr 0)]) (h' := h) rfl ?_
  refine EL_sl hP rfl rfl rfl (by omega) (by omega) ?_
  refine EL_s hP 4 (i' := 19) (ls' := [some (.inr (.inr 3000)), some (.inr (.inr 0)), some (.inr (.inr 66)), some (.inr (.inr 112)), some (.inl i), none, none]) (sk' := [.inl (i + 3), .inr (.inr 3000), .inl (xs (i + 2)), .inl (bz (xs (i + 1))), .inr (.inr 0)]) (h' := h) rfl ?_
  refine EL_sl hP rfl rfl rfl (by omega) (by omega) ?_
  refine EL_s hP 1 (i' := 21) (ls' := [some (.inr (.inr 3000)), some (.inr (.inr 0)), some (.inr (.inr 66)), some (.inr (.inr 112)), some (.inl i), none, none]) (sk' := [.inr (.inr 112), .inl (xs (i + 3)), .inl (xs (i + 2)), .inl (bz (xs (i + 1))), .inr (.inr 0)]) (h' := h) rfl ?_
  refine EL_hc hP (b1 := 2) (hn := 13) (as := .inr (.inr 0) :: (([bz (xs (i + 1)), xs (i + 2), xs (i + 3)] : List Int).map .inl ++ [.inr (.inr 112)])) (rest := []) rfl rfl (by decide) rfl (Nat.zero_le _) (CO2_h (zs := [bz (xs (i + 1)), xs (i + 2), xs (i + 3)]) rfl (by decide) (by decide) (CO2_t (bz_01 _) (CO.two (CO_unlike0 34 hI (xs (i + 2)) (xs (i + 3)) (hxs _) (hxs _))) (CO.two (CO_unlike1 34 hI (xs (i + 2)) (xs (i + 3)) (hxs _) (hxs _))))) (fun v h' hq => ?_)
  obtain ⟨hv, hq⟩ := hq
  refine EL_s hP 2 (i' := 24) (ls' := [some (.inr (.inr 3000)), some (.inr (.inr 0)), some (.inr (.inr 66)), some (.inr (.inr 112)), some (.inl i), some (.inl v), none]) (sk' := [.inr (.inr 66)]) (h' := h') rfl ?_
  refine EL_s hP 4 (i' := 28) (ls' := [some (.inr (.inr 3000)), some (.inr (.inr 0)), some (.inr (.inr 66)), some (.inr (.inr 112)), some (.inl i), some (.inl v), none]) (sk' := [.inl (i + 1), .inr (.inr 3000), .inr (.inr 66)]) (h' := h') rfl ?_
  refine EL_sl hP rfl rfl rfl (by omega) (by omega) ?_
  refine EL_bz hP rfl rfl rfl rfl ?_
  refine EL_s hP 4 (i' := 37) (ls' := [some (.inr (.inr 3000)), some (.inr (.inr 0)), some (.inr (.inr 66)), some (.inr (.inr 112)), some (.inl i), some (.inl v), none]) (sk' := [.inl (i + 2), .inr (.inr 3000), .inl (bz (xs (i + 1))), .inr (.inr 66)]) (h' := h') rfl ?_
  refine EL_sl hP rfl rfl rfl (by omega) (by omega) ?_
  refine EL_s hP 4 (i' := 42) (ls' := [some (.inr (.inr 3000)), some (.inr (.inr 0)), some (.inr (.inr 66)), some (.inr (.inr 112)), some (.inl i), some (.inl v), none]) (sk' := [.inl (i + 3), .inr (.inr 3000), .inl (xs (i + 2)), .inl (bz (xs (i + 1))), .inr (.inr 66)]) (h' := h') rfl ?_
  refine EL_sl hP rfl rfl rfl (by omega) (by omega) ?_
  rw [← Nat.zero_add b]
  refine EL_call (b1 := 0) (b2 := b) (rest := []) hP rfl rfl (Nat.zero_le _) (fun e => absurd e (by decide)) hq (fun v2 h2 hz => ?_) (fun E h2 hz => by obtain ⟨-, r2, e, -⟩ := hz; cases e)
  obtain ⟨hI2, r2, e, hth, hout⟩ := hz
  cases e
  refine EL_s hP 2 (i' := 46) (ls' := [some (.inr (.inr 3000)), some (.inr (.inr 0)), some (.inr (.inr 66)), some (.inr (.inr 112)), some (.inl i), some (.inl v), some (.inl r2)]) (sk' := [.inr (.inr 66)]) (h' := h2) rfl ?_
  rw [← Nat.zero_add b]
  refine EL_call (b1 := 0) (b2 := b) (rest := []) hP rfl rfl (Nat.zero_le _) (fun e => absurd e (by decide)) (m_thr2 39 h2) (fun v3 h3 hz => ?_) (fun E h3 hz => by cases hz.1)
  obtain ⟨e, rfl⟩ := hz
  cases e
  refine EL_s hP 1 (i' := 48) (ls' := [some (.inr (.inr 3000)), some (.inr (.inr 0)), some (.inr (.inr 66)), some (.inr (.inr 112)), some (.inl i), some (.inl v), some (.inl r2)]) (sk' := [.inl v, .inl (h3 66 0)]) (h' := h3) rfl ?_
  have fin : P b 62 [some (.inr (.inr 3000)), some (.inr (.inr 0)), some (.inr (.inr 66)), some (.inr (.inr 112)), some (.inl i), some (.inl v), some (.inl r2)] [] h3 := EL_s hP 1 (i' := 63) (ls' := [some (.inr (.inr 3000)), some (.inr (.inr 0)), some (.inr (.inr 66)), some (.inr (.inr 112)), some (.inl i), some (.inl v), some (.inl r2)]) (sk' := []) (h' := h3) rfl (EL_fg hP (ls' := LSx i) rfl (fun j w hj => by
    match j, hj with
    | 0, hj => exact hj
    | 1, hj => exact hj
    | 2, hj => exact hj
    | 3, hj => exact hj
    | 4, hj => exact hj
    | 5, hj => cases hj
    | 6, hj => cases hj
    | _ + 7, hj => cases hj) (kk h3 hI2))
  refine EL_b hP rfl rfl (fun _ => ?_) (fun hf => by rw [hth, xcc_eqs] at hf; cases hf)
  refine EL_s hP 1 (i' := 52) (ls' := [some (.inr (.inr 3000)), some (.inr (.inr 0)), some (.inr (.inr 66)), some (.inr (.inr 112)), some (.inl i), some (.inl v), some (.inl r2)]) (sk' := [.inl v]) (h' := h3) rfl ?_
  refine EL_b hP rfl rfl (fun _ => fin) (fun hf => ?_)
  have hv0 := xcc_v hv hf
  refine EL_s hP 2 (i' := 55) (ls' := [some (.inr (.inr 3000)), some (.inr (.inr 0)), some (.inr (.inr 66)), some (.inr (.inr 112)), some (.inl i), some (.inl v), some (.inl r2)]) (sk' := [.inl 0, .inr (.inr 112)]) (h' := h3) rfl ?_
  refine EL_ld hP (ty := .long) (n := 1) (a := 112) (z := 0) (sk := []) rfl rfl rfl (by decide) (by decide) ?_
  refine EL_s hP 2 (i' := 58) (ls' := [some (.inr (.inr 3000)), some (.inr (.inr 0)), some (.inr (.inr 66)), some (.inr (.inr 112)), some (.inl i), some (.inl v), some (.inl r2)]) (sk' := [.inr (.inl (w32 r2)), .inr (.inl (h3 112 0))]) (h' := h3) rfl ?_
  refine EL_s hP 1 (i' := 59) (ls' := [some (.inr (.inr 3000)), some (.inr (.inr 0)), some (.inr (.inr 66)), some (.inr (.inr 112)), some (.inl i), some (.inl v), some (.inl r2)]) (sk' := [.inl (xcmp (h3 112 0) (w32 r2))]) (h' := h3) rfl ?_
  exact EL_b hP rfl rfl (fun _ => fin) (fun hf => by rw [xcmp_e (show h3 112 0 = w32 r2 from hout hv0)] at hf; cases hf)
theorem sg_18 {P : xPr} {L : Nat} {xs : Int → Int} {Q : xO → xH → Prop} (hP : LCl cdS18 L xs Q P) {i : Int} (h0 : 0 ≤ i) (h1 : i + 6 ≤ L) (hxs : ∀ j, xr (xs j)) {b : Nat} {h : xH} (hI : Inv h) (kk : ∀ h' : xH, Inv h' → P b 63 (LSx i) [] h') : P (b + 4) 0 (LSx i) [] h := by
  refine EL_mono hP (b := 2 + b) (by omega) ?_
  refine EL_s hP 1 (i' := 1) (ls' := [some (.inr (.inr 3000)), some (.inr (.inr 0)), some (.inr (.inr 66)), some (.inr (.inr 112)), some (.inl i), none, none]) (sk' := [.inr (.inr 0)]) (h' := h) rfl ?_
  refine EL_s hP 4 (i' := 5) (ls' := [some (.inr (.inr 3000)), some (.inr (.inr 0)), some (.inr (.inr 66)), some (.inr (.inr 112)), some (.inl i), none, none]) (sk' := [.inl (i + 1), .inr (.inr 3000), .inr (.inr 0)]) (h' := h) rfl ?_
  refine EL_sl hP rfl rfl rfl (by omega) (by omega) ?_
  refine EL_bz hP rfl rfl rfl rfl ?_
  refine EL_s hP 4 (i' := 14) (ls' := [some (.inr (.inr 3000)), some (.inr (.inr 0)), some (.inr (.inr 66)), some (.inr (.inr 112)), some (.inl i), none, none]) (sk' := [.inl (i + 2), .inr (.inr 3000), .inl (bz (xs (i + 1))), .inr (.inr 0)]) (h' := h) rfl ?_
  refine EL_sl hP rfl rfl rfl (by omega) (by omega) ?_
  refine EL_s hP 4 (i' := 19) (ls' := [some (.inr (.inr 3000)), some (.inr (.inr 0)), some (.inr (.inr 66)), some (.inr (.inr 112)), some (.inl i), none, none]) (sk' := [.inl (i + 3), .inr (.inr 3000), .inl (xs (i + 2)), .inl (bz (xs (i + 1))), .inr (.inr 0)]) (h' := h) rfl ?_
  refine EL_sl hP rfl rfl rfl (by omega) (by omega) ?_
  refine EL_s hP 1 (i' := 21) (ls' := [some (.inr (.inr 3000)), some (.inr (.inr 0)), some (.inr (.inr 66)), some (.inr (.inr 112)), some (.inl i), none, none]) (sk' := [.inr (.inr 112), .inl (xs (i + 3)), .inl (xs (i + 2)), .inl (bz (xs (i + 1))), .inr (.inr 0)]) (h' := h) rfl ?_
  refine EL_hc hP (b1 := 2) (hn := 14) (as := .inr (.inr 0) :: (([bz (xs (i + 1)), xs (i + 2), xs (i + 3)] : List Int).map .inl ++ [.inr (.inr 112)])) (rest := []) rfl rfl (by decide) rfl (Nat.zero_le _) (CO2_h (zs := [bz (xs (i + 1)), xs (i + 2), xs (i + 3)]) rfl (by decide) (by decide) (CO2_t (bz_01 _) (CO.two (CO_uses0 34 hI (xs (i + 2)) (xs (i + 3)) (hxs _) (hxs _))) (CO.two (CO_uses1 34 hI (xs (i + 2)) (xs (i + 3)) (hxs _) (hxs _))))) (fun v h' hq => ?_)
  obtain ⟨hv, hq⟩ := hq
  refine EL_s hP 2 (i' := 24) (ls' := [some (.inr (.inr 3000)), some (.inr (.inr 0)), some (.inr (.inr 66)), some (.inr (.inr 112)), some (.inl i), some (.inl v), none]) (sk' := [.inr (.inr 66)]) (h' := h') rfl ?_
  refine EL_s hP 4 (i' := 28) (ls' := [some (.inr (.inr 3000)), some (.inr (.inr 0)), some (.inr (.inr 66)), some (.inr (.inr 112)), some (.inl i), some (.inl v), none]) (sk' := [.inl (i + 1), .inr (.inr 3000), .inr (.inr 66)]) (h' := h') rfl ?_
  refine EL_sl hP rfl rfl rfl (by omega) (by omega) ?_
  refine EL_bz hP rfl rfl rfl rfl ?_
  refine EL_s hP 4 (i' := 37) (ls' := [some (.inr (.inr 3000)), some (.inr (.inr 0)), some (.inr (.inr 66)), some (.inr (.inr 112)), some (.inl i), some (.inl v), none]) (sk' := [.inl (i + 2), .inr (.inr 3000), .inl (bz (xs (i + 1))), .inr (.inr 66)]) (h' := h') rfl ?_
  refine EL_sl hP rfl rfl rfl (by omega) (by omega) ?_
  refine EL_s hP 4 (i' := 42) (ls' := [some (.inr (.inr 3000)), some (.inr (.inr 0)), some (.inr (.inr 66)), some (.inr (.inr 112)), some (.inl i), some (.inl v), none]) (sk' := [.inl (i + 3), .inr (.inr 3000), .inl (xs (i + 2)), .inl (bz (xs (i + 1))), .inr (.inr 66)]) (h' := h') rfl ?_
  refine EL_sl hP rfl rfl rfl (by omega) (by omega) ?_
  rw [← Nat.zero_add b]
  refine EL_call (b1 := 0) (b2 := b) (rest := []) hP rfl rfl (Nat.zero_le _) (fun e => absurd e (by decide)) hq (fun v2 h2 hz => ?_) (fun E h2 hz => by obtain ⟨-, r2, e, -⟩ := hz; cases e)
  obtain ⟨hI2, r2, e, hth, hout⟩ := hz
  cases e
  refine EL_s hP 2 (i' := 46) (ls' := [some (.inr (.inr 3000)), some (.inr (.inr 0)), some (.inr (.inr 66)), some (.inr (.inr 112)), some (.inl i), some (.inl v), some (.inl r2)]) (sk' := [.inr (.inr 66)]) (h' := h2) rfl ?_
  rw [← Nat.zero_add b]
  refine EL_call (b1 := 0) (b2 := b) (rest := []) hP rfl rfl (Nat.zero_le _) (fun e => absurd e (by decide)) (m_thr2 39 h2) (fun v3 h3 hz => ?_) (fun E h3 hz => by cases hz.1)
  obtain ⟨e, rfl⟩ := hz
  cases e
  refine EL_s hP 1 (i' := 48) (ls' := [some (.inr (.inr 3000)), some (.inr (.inr 0)), some (.inr (.inr 66)), some (.inr (.inr 112)), some (.inl i), some (.inl v), some (.inl r2)]) (sk' := [.inl v, .inl (h3 66 0)]) (h' := h3) rfl ?_
  have fin : P b 62 [some (.inr (.inr 3000)), some (.inr (.inr 0)), some (.inr (.inr 66)), some (.inr (.inr 112)), some (.inl i), some (.inl v), some (.inl r2)] [] h3 := EL_s hP 1 (i' := 63) (ls' := [some (.inr (.inr 3000)), some (.inr (.inr 0)), some (.inr (.inr 66)), some (.inr (.inr 112)), some (.inl i), some (.inl v), some (.inl r2)]) (sk' := []) (h' := h3) rfl (EL_fg hP (ls' := LSx i) rfl (fun j w hj => by
    match j, hj with
    | 0, hj => exact hj
    | 1, hj => exact hj
    | 2, hj => exact hj
    | 3, hj => exact hj
    | 4, hj => exact hj
    | 5, hj => cases hj
    | 6, hj => cases hj
    | _ + 7, hj => cases hj) (kk h3 hI2))
  refine EL_b hP rfl rfl (fun _ => ?_) (fun hf => by rw [hth, xcc_eqs] at hf; cases hf)
  refine EL_s hP 1 (i' := 52) (ls' := [some (.inr (.inr 3000)), some (.inr (.inr 0)), some (.inr (.inr 66)), some (.inr (.inr 112)), some (.inl i), some (.inl v), some (.inl r2)]) (sk' := [.inl v]) (h' := h3) rfl ?_
  refine EL_b hP rfl rfl (fun _ => fin) (fun hf => ?_)
  have hv0 := xcc_v hv hf
  refine EL_s hP 2 (i' := 55) (ls' := [some (.inr (.inr 3000)), some (.inr (.inr 0)), some (.inr (.inr 66)), some (.inr (.inr 112)), some (.inl i), some (.inl v), some (.inl r2)]) (sk' := [.inl 0, .inr (.inr 112)]) (h' := h3) rfl ?_
  refine EL_ld hP (ty := .long) (n := 1) (a := 112) (z := 0) (sk := []) rfl rfl rfl (by decide) (by decide) ?_
  refine EL_s hP 2 (i' := 58) (ls' := [some (.inr (.inr 3000)), some (.inr (.inr 0)), some (.inr (.inr 66)), some (.inr (.inr 112)), some (.inl i), some (.inl v), some (.inl r2)]) (sk' := [.inr (.inl (w32 r2)), .inr (.inl (h3 112 0))]) (h' := h3) rfl ?_
  refine EL_s hP 1 (i' := 59) (ls' := [some (.inr (.inr 3000)), some (.inr (.inr 0)), some (.inr (.inr 66)), some (.inr (.inr 112)), some (.inl i), some (.inl v), some (.inl r2)]) (sk' := [.inl (xcmp (h3 112 0) (w32 r2))]) (h' := h3) rfl ?_
  exact EL_b hP rfl rfl (fun _ => fin) (fun hf => by rw [xcmp_e (show h3 112 0 = w32 r2 from hout hv0)] at hf; cases hf)
theorem sg_19 {P : xPr} {L : Nat} {xs : Int → Int} {Q : xO → xH → Prop} (hP : LCl cdS19 L xs Q P) {i : Int} (h0 : 0 ≤ i) (h1 : i + 6 ≤ L) (hxs : ∀ j, xr (xs j)) {b : Nat} {h : xH} (hI : Inv h) (kk : ∀ h' : xH, Inv h' → P b 35 (LSx i) [] h') : P (b + 4) 0 (LSx i) [] h := by
  refine EL_mono hP (b := 1 + b) (by omega) ?_
  refine EL_s hP 1 (i' := 1) (ls' := [some (.inr (.inr 3000)), some (.inr (.inr 0)), some (.inr (.inr 66)), some (.inr (.inr 112)), some (.inl i), none, none]) (sk' := [.inr (.inr 0)]) (h' := h) rfl ?_
  refine EL_s hP 4 (i' := 5) (ls' := [some (.inr (.inr 3000)), some (.inr (.inr 0)), some (.inr (.inr 66)), some (.inr (.inr 112)), some (.inl i), none, none]) (sk' := [.inl (i + 1), .inr (.inr 3000), .inr (.inr 0)]) (h' := h) rfl ?_
  refine EL_sl hP rfl rfl rfl (by omega) (by omega) ?_
  refine EL_s hP 1 (i' := 7) (ls' := [some (.inr (.inr 3000)), some (.inr (.inr 0)), some (.inr (.inr 66)), some (.inr (.inr 112)), some (.inl i), none, none]) (sk' := [.inr (.inr 112), .inl (xs (i + 1)), .inr (.inr 0)]) (h' := h) rfl ?_
  refine EL_hc hP (b1 := 1) (hn := 15) (as := .inr (.inr 0) :: (([xs (i + 1)] : List Int).map .inl ++ [.inr (.inr 112)])) (rest := []) rfl rfl (by decide) rfl (Nat.zero_le _) (CO2_h (zs := [xs (i + 1)]) rfl (by decide) (by decide) (CO.two (CO_far 34 hI (xs (i + 1)) (hxs _)))) (fun v h' hq => ?_)
  obtain ⟨hv, hq⟩ := hq
  refine EL_s hP 2 (i' := 10) (ls' := [some (.inr (.inr 3000)), some (.inr (.inr 0)), some (.inr (.inr 66)), some (.inr (.inr 112)), some (.inl i), some (.inl v), none]) (sk' := [.inr (.inr 66)]) (h' := h') rfl ?_
  refine EL_s hP 4 (i' := 14) (ls' := [some (.inr (.inr 3000)), some (.inr (.inr 0)), some (.inr (.inr 66)), some (.inr (.inr 112)), some (.inl i), some (.inl v), none]) (sk' := [.inl (i + 1), .inr (.inr 3000), .inr (.inr 66)]) (h' := h') rfl ?_
  refine EL_sl hP rfl rfl rfl (by omega) (by omega) ?_
  rw [← Nat.zero_add b]
  refine EL_call (b1 := 0) (b2 := b) (rest := []) hP rfl rfl (Nat.zero_le _) (fun e => absurd e (by decide)) hq (fun v2 h2 hz => ?_) (fun E h2 hz => by obtain ⟨-, r2, e, -⟩ := hz; cases e)
  obtain ⟨hI2, r2, e, hth, hout⟩ := hz
  cases e
  refine EL_s hP 2 (i' := 18) (ls' := [some (.inr (.inr 3000)), some (.inr (.inr 0)), some (.inr (.inr 66)), some (.inr (.inr 112)), some (.inl i), some (.inl v), some (.inl r2)]) (sk' := [.inr (.inr 66)]) (h' := h2) rfl ?_
  rw [← Nat.zero_add b]
  refine EL_call (b1 := 0) (b2 := b) (rest := []) hP rfl rfl (Nat.zero_le _) (fun e => absurd e (by decide)) (m_thr2 39 h2) (fun v3 h3 hz => ?_) (fun E h3 hz => by cases hz.1)
  obtain ⟨e, rfl⟩ := hz
  cases e
  refine EL_s hP 1 (i' := 20) (ls' := [some (.inr (.inr 3000)), some (.inr (.inr 0)), some (.inr (.inr 66)), some (.inr (.inr 112)), some (.inl i), some (.inl v), some (.inl r2)]) (sk' := [.inl v, .inl (h3 66 0)]) (h' := h3) rfl ?_
  have fin : P b 34 [some (.inr (.inr 3000)), some (.inr (.inr 0)), some (.inr (.inr 66)), some (.inr (.inr 112)), some (.inl i), some (.inl v), some (.inl r2)] [] h3 := EL_s hP 1 (i' := 35) (ls' := [some (.inr (.inr 3000)), some (.inr (.inr 0)), some (.inr (.inr 66)), some (.inr (.inr 112)), some (.inl i), some (.inl v), some (.inl r2)]) (sk' := []) (h' := h3) rfl (EL_fg hP (ls' := LSx i) rfl (fun j w hj => by
    match j, hj with
    | 0, hj => exact hj
    | 1, hj => exact hj
    | 2, hj => exact hj
    | 3, hj => exact hj
    | 4, hj => exact hj
    | 5, hj => cases hj
    | 6, hj => cases hj
    | _ + 7, hj => cases hj) (kk h3 hI2))
  refine EL_b hP rfl rfl (fun _ => ?_) (fun hf => by rw [hth, xcc_eqs] at hf; cases hf)
  refine EL_s hP 1 (i' := 24) (ls' := [some (.inr (.inr 3000)), some (.inr (.inr 0)), some (.inr (.inr 66)), some (.inr (.inr 112)), some (.inl i), some (.inl v), some (.inl r2)]) (sk' := [.inl v]) (h' := h3) rfl ?_
  refine EL_b hP rfl rfl (fun _ => fin) (fun hf => ?_)
  have hv0 := xcc_v hv hf
  refine EL_s hP 2 (i' := 27) (ls' := [some (.inr (.inr 3000)), some (.inr (.inr 0)), some (.inr (.inr 66)), some (.inr (.inr 112)), some (.inl i), some (.inl v), some (.inl r2)]) (sk' := [.inl 0, .inr (.inr 112)]) (h' := h3) rfl ?_
  refine EL_ld hP (ty := .long) (n := 1) (a := 112) (z := 0) (sk := []) rfl rfl rfl (by decide) (by decide) ?_
  refine EL_s hP 2 (i' := 30) (ls' := [some (.inr (.inr 3000)), some (.inr (.inr 0)), some (.inr (.inr 66)), some (.inr (.inr 112)), some (.inl i), some (.inl v), some (.inl r2)]) (sk' := [.inr (.inl (w32 r2)), .inr (.inl (h3 112 0))]) (h' := h3) rfl ?_
  refine EL_s hP 1 (i' := 31) (ls' := [some (.inr (.inr 3000)), some (.inr (.inr 0)), some (.inr (.inr 66)), some (.inr (.inr 112)), some (.inl i), some (.inl v), some (.inl r2)]) (sk' := [.inl (xcmp (h3 112 0) (w32 r2))]) (h' := h3) rfl ?_
  exact EL_b hP rfl rfl (fun _ => fin) (fun hf => by rw [xcmp_e (show h3 112 0 = w32 r2 from hout hv0)] at hf; cases hf)
theorem sg_20 {P : xPr} {L : Nat} {xs : Int → Int} {Q : xO → xH → Prop} (hP : LCl cdS20 L xs Q P) {i : Int} (h0 : 0 ≤ i) (h1 : i + 6 ≤ L) (hxs : ∀ j, xr (xs j)) {b : Nat} {h : xH} (hI : Inv h) (kk : ∀ h' : xH, Inv h' → P b 7 (LSx i) [] h') : P (b + 4) 0 (LSx i) [] h := by
  refine EL_mono hP (b := 0 + b) (by omega) ?_
  refine EL_s hP 1 (i' := 1) (ls' := [some (.inr (.inr 3000)), some (.inr (.inr 0)), some (.inr (.inr 66)), some (.inr (.inr 112)), some (.inl i), none, none]) (sk' := [.inr (.inr 0)]) (h' := h) rfl ?_
  refine EL_call (b1 := 0) (b2 := b) (rest := []) hP rfl rfl (Nat.zero_le _) (fun e => absurd e (by decide)) (CO.two (CO_nearest 34 hI  )) (fun v h1 hF => ?_) (fun E h1 hF => by obtain ⟨r1, e⟩ := CO2_v hF; cases e)
  obtain ⟨r1, e⟩ := CO2_v hF
  cases e
  refine EL_s hP 1 (i' := 3) (ls' := [some (.inr (.inr 3000)), some (.inr (.inr 0)), some (.inr (.inr 66)), some (.inr (.inr 112)), some (.inl i), none, none]) (sk' := [.inr (.inr 66), .inl r1]) (h' := h1) rfl ?_
  have hF1 := hF (h1 112 0)
  rw [xup_self] at hF1
  rw [← Nat.zero_add b]
  refine EL_call (b1 := 0) (b2 := b) (rest := [.inl r1]) hP rfl rfl (Nat.le_of_ble_eq_true rfl) (fun e => absurd e (by decide)) hF1 (fun v2 h2 hz => ?_) (fun E h2 hz => by obtain ⟨-, -, r2, e, -⟩ := hz; cases e)
  obtain ⟨hI2, -, r2, e, hag⟩ := hz
  cases e
  have hw : w32 r1 = w32 r2 := by
    rcases hag with ⟨r9, e, -, hw⟩ | ⟨k, E, e, -⟩
    · cases e; exact hw
    · cases e
  exact EL_b hP rfl rfl (fun _ => kk h2 hI2) (fun hf => by rw [xcc_eqw hw] at hf; cases hf)
theorem sg_21 {P : xPr} {L : Nat} {xs : Int → Int} {Q : xO → xH → Prop} (hP : LCl cdS21 L xs Q P) {i : Int} (h0 : 0 ≤ i) (h1 : i + 6 ≤ L) (hxs : ∀ j, xr (xs j)) {b : Nat} {h : xH} (hI : Inv h) (kk : ∀ h' : xH, Inv h' → P b 53 (LSx i) [] h') : P (b + 4) 0 (LSx i) [] h := by
  refine EL_mono hP (b := 1 + b) (by omega) ?_
  refine EL_s hP 1 (i' := 1) (ls' := [some (.inr (.inr 3000)), some (.inr (.inr 0)), some (.inr (.inr 66)), some (.inr (.inr 112)), some (.inl i), none, none]) (sk' := [.inr (.inr 0)]) (h' := h) rfl ?_
  refine EL_s hP 4 (i' := 5) (ls' := [some (.inr (.inr 3000)), some (.inr (.inr 0)), some (.inr (.inr 66)), some (.inr (.inr 112)), some (.inl i), none, none]) (sk' := [.inl (i + 1), .inr (.inr 3000), .inr (.inr 0)]) (h' := h) rfl ?_
  refine EL_sl hP rfl rfl rfl (by omega) (by omega) ?_
  refine EL_bz hP rfl rfl rfl rfl ?_
  refine EL_s hP 4 (i' := 14) (ls' := [some (.inr (.inr 3000)), some (.inr (.inr 0)), some (.inr (.inr 66)), some (.inr (.inr 112)), some (.inl i), none, none]) (sk' := [.inl (i + 2), .inr (.inr 3000), .inl (bz (xs (i + 1))), .inr (.inr 0)]) (h' := h) rfl ?_
  refine EL_sl hP rfl rfl rfl (by omega) (by omega) ?_
  refine EL_s hP 1 (i' := 16) (ls' := [some (.inr (.inr 3000)), some (.inr (.inr 0)), some (.inr (.inr 66)), some (.inr (.inr 112)), some (.inl i), none, none]) (sk' := [.inr (.inr 112), .inl (xs (i + 2)), .inl (bz (xs (i + 1))), .inr (.inr 0)]) (h' := h) rfl ?_
  refine EL_hc hP (b1 := 1) (hn := 16) (as := .inr (.inr 0) :: (([bz (xs (i + 1)), xs (i + 2)] : List Int).map .inl ++ [.inr (.inr 112)])) (rest := []) rfl rfl (by decide) rfl (Nat.zero_le _) (CO2_h (zs := [bz (xs (i + 1)), xs (i + 2)]) rfl (by decide) (by decide) (CO2_t (bz_01 _) (CO2_wm0 13 hI (xs (i + 2)) (hxs _)) (CO2_wm1 13 hI (xs (i + 2)) (hxs _)))) (fun v h' hq => ?_)
  obtain ⟨hv, hq⟩ := hq
  refine EL_s hP 2 (i' := 19) (ls' := [some (.inr (.inr 3000)), some (.inr (.inr 0)), some (.inr (.inr 66)), some (.inr (.inr 112)), some (.inl i), some (.inl v), none]) (sk' := [.inr (.inr 66)]) (h' := h') rfl ?_
  refine EL_s hP 4 (i' := 23) (ls' := [some (.inr (.inr 3000)), some (.inr (.inr 0)), some (.inr (.inr 66)), some (.inr (.inr 112)), some (.inl i), some (.inl v), none]) (sk' := [.inl (i + 1), .inr (.inr 3000), .inr (.inr 66)]) (h' := h') rfl ?_
  refine EL_sl hP rfl rfl rfl (by omega) (by omega) ?_
  refine EL_bz hP rfl rfl rfl rfl ?_
  refine EL_s hP 4 (i' := 32) (ls' := [some (.inr (.inr 3000)), some (.inr (.inr 0)), some (.inr (.inr 66)), some (.inr (.inr 112)), some (.inl i), some (.inl v), none]) (sk' := [.inl (i + 2), .inr (.inr 3000), .inl (bz (xs (i + 1))), .inr (.inr 66)]) (h' := h') rfl ?_
  refine EL_sl hP rfl rfl rfl (by omega) (by omega) ?_
  rw [← Nat.zero_add b]
  refine EL_call (b1 := 0) (b2 := b) (rest := []) hP rfl rfl (Nat.zero_le _) (fun e => absurd e (by decide)) hq (fun v2 h2 hz => ?_) (fun E h2 hz => by obtain ⟨-, r2, e, -⟩ := hz; cases e)
  obtain ⟨hI2, r2, e, hth, hout⟩ := hz
  cases e
  refine EL_s hP 2 (i' := 36) (ls' := [some (.inr (.inr 3000)), some (.inr (.inr 0)), some (.inr (.inr 66)), some (.inr (.inr 112)), some (.inl i), some (.inl v), some (.inl r2)]) (sk' := [.inr (.inr 66)]) (h' := h2) rfl ?_
  rw [← Nat.zero_add b]
  refine EL_call (b1 := 0) (b2 := b) (rest := []) hP rfl rfl (Nat.zero_le _) (fun e => absurd e (by decide)) (m_thr2 39 h2) (fun v3 h3 hz => ?_) (fun E h3 hz => by cases hz.1)
  obtain ⟨e, rfl⟩ := hz
  cases e
  refine EL_s hP 1 (i' := 38) (ls' := [some (.inr (.inr 3000)), some (.inr (.inr 0)), some (.inr (.inr 66)), some (.inr (.inr 112)), some (.inl i), some (.inl v), some (.inl r2)]) (sk' := [.inl v, .inl (h3 66 0)]) (h' := h3) rfl ?_
  have fin : P b 52 [some (.inr (.inr 3000)), some (.inr (.inr 0)), some (.inr (.inr 66)), some (.inr (.inr 112)), some (.inl i), some (.inl v), some (.inl r2)] [] h3 := EL_s hP 1 (i' := 53) (ls' := [some (.inr (.inr 3000)), some (.inr (.inr 0)), some (.inr (.inr 66)), some (.inr (.inr 112)), some (.inl i), some (.inl v), some (.inl r2)]) (sk' := []) (h' := h3) rfl (EL_fg hP (ls' := LSx i) rfl (fun j w hj => by
    match j, hj with
    | 0, hj => exact hj
    | 1, hj => exact hj
    | 2, hj => exact hj
    | 3, hj => exact hj
    | 4, hj => exact hj
    | 5, hj => cases hj
    | 6, hj => cases hj
    | _ + 7, hj => cases hj) (kk h3 hI2))
  refine EL_b hP rfl rfl (fun _ => ?_) (fun hf => by rw [hth, xcc_eqs] at hf; cases hf)
  refine EL_s hP 1 (i' := 42) (ls' := [some (.inr (.inr 3000)), some (.inr (.inr 0)), some (.inr (.inr 66)), some (.inr (.inr 112)), some (.inl i), some (.inl v), some (.inl r2)]) (sk' := [.inl v]) (h' := h3) rfl ?_
  refine EL_b hP rfl rfl (fun _ => fin) (fun hf => ?_)
  have hv0 := xcc_v hv hf
  refine EL_s hP 2 (i' := 45) (ls' := [some (.inr (.inr 3000)), some (.inr (.inr 0)), some (.inr (.inr 66)), some (.inr (.inr 112)), some (.inl i), some (.inl v), some (.inl r2)]) (sk' := [.inl 0, .inr (.inr 112)]) (h' := h3) rfl ?_
  refine EL_ld hP (ty := .long) (n := 1) (a := 112) (z := 0) (sk := []) rfl rfl rfl (by decide) (by decide) ?_
  refine EL_s hP 2 (i' := 48) (ls' := [some (.inr (.inr 3000)), some (.inr (.inr 0)), some (.inr (.inr 66)), some (.inr (.inr 112)), some (.inl i), some (.inl v), some (.inl r2)]) (sk' := [.inr (.inl (w32 r2)), .inr (.inl (h3 112 0))]) (h' := h3) rfl ?_
  refine EL_s hP 1 (i' := 49) (ls' := [some (.inr (.inr 3000)), some (.inr (.inr 0)), some (.inr (.inr 66)), some (.inr (.inr 112)), some (.inl i), some (.inl v), some (.inl r2)]) (sk' := [.inl (xcmp (h3 112 0) (w32 r2))]) (h' := h3) rfl ?_
  exact EL_b hP rfl rfl (fun _ => fin) (fun hf => by rw [xcmp_e (show h3 112 0 = w32 r2 from hout hv0)] at hf; cases hf)
theorem sg_22 {P : xPr} {L : Nat} {xs : Int → Int} {Q : xO → xH → Prop} (hP : LCl cdS22 L xs Q P) {i : Int} (h0 : 0 ≤ i) (h1 : i + 6 ≤ L) (hxs : ∀ j, xr (xs j)) {b : Nat} {h : xH} (hI : Inv h) (kk : ∀ h' : xH, Inv h' → P b 63 (LSx i) [] h') : P (b + 4) 0 (LSx i) [] h := by
  refine EL_mono hP (b := 2 + b) (by omega) ?_
  refine EL_s hP 1 (i' := 1) (ls' := [some (.inr (.inr 3000)), some (.inr (.inr 0)), some (.inr (.inr 66)), some (.inr (.inr 112)), some (.inl i), none, none]) (sk' := [.inr (.inr 0)]) (h' := h) rfl ?_
  refine EL_s hP 4 (i' := 5) (ls' := [some (.inr (.inr 3000)), some (.inr (.inr 0)), some (.inr (.inr 66)), some (.inr (.inr 112)), some (.inl i), none, none]) (sk' := [.inl (i + 1), .inr (.inr 3000), .inr (.inr 0)]) (h' := h) rfl ?_
  refine EL_sl hP rfl rfl rfl (by omega) (by omega) ?_
  refine EL_bz hP rfl rfl rfl rfl ?_
  refine EL_s hP 4 (i' := 14) (ls' := [some (.inr (.inr 3000)), some (.inr (.inr 0)), some (.inr (.inr 66)), some (.inr (.inr 112)), some (.inl i), none, none]) (sk' := [.inl (i + 2), .inr (.inr 3000), .inl (bz (xs (i + 1))), .inr (.inr 0)]) (h' := h) rfl ?_
  refine EL_sl hP rfl rfl rfl (by omega) (by omega) ?_
  refine EL_s hP 4 (i' := 19) (ls' := [some (.inr (.inr 3000)), some (.inr (.inr 0)), some (.inr (.inr 66)), some (.inr (.inr 112)), some (.inl i), none, none]) (sk' := [.inl (i + 3), .inr (.inr 3000), .inl (xs (i + 2)), .inl (bz (xs (i + 1))), .inr (.inr 0)]) (h' := h) rfl ?_
  refine EL_sl hP rfl rfl rfl (by omega) (by omega) ?_
  refine EL_s hP 1 (i' := 21) (ls' := [some (.inr (.inr 3000)), some (.inr (.inr 0)), some (.inr (.inr 66)), some (.inr (.inr 112)), some (.inl i), none, none]) (sk' := [.inr (.inr 112), .inl (xs (i + 3)), .inl (xs (i + 2)), .inl (bz (xs (i + 1))), .inr (.inr 0)]) (h' := h) rfl ?_
  refine EL_hc hP (b1 := 2) (hn := 17) (as := .inr (.inr 0) :: (([bz (xs (i + 1)), xs (i + 2), xs (i + 3)] : List Int).map .inl ++ [.inr (.inr 112)])) (rest := []) rfl rfl (by decide) rfl (Nat.zero_le _) (CO2_h (zs := [bz (xs (i + 1)), xs (i + 2), xs (i + 3)]) rfl (by decide) (by decide) (CO2_t (bz_01 _) (CO.two (CO_mapart0 15 hI (xs (i + 2)) (xs (i + 3)) (hxs _) (hxs _))) (CO.two (CO_mapart1 15 hI (xs (i + 2)) (xs (i + 3)) (hxs _) (hxs _))))) (fun v h' hq => ?_)
  obtain ⟨hv, hq⟩ := hq
  refine EL_s hP 2 (i' := 24) (ls' := [some (.inr (.inr 3000)), some (.inr (.inr 0)), some (.inr (.inr 66)), some (.inr (.inr 112)), some (.inl i), some (.inl v), none]) (sk' := [.inr (.inr 66)]) (h' := h') rfl ?_
  refine EL_s hP 4 (i' := 28) (ls' := [some (.inr (.inr 3000)), some (.inr (.inr 0)), some (.inr (.inr 66)), some (.inr (.inr 112)), some (.inl i), some (.inl v), none]) (sk' := [.inl (i + 1), .inr (.inr 3000), .inr (.inr 66)]) (h' := h') rfl ?_
  refine EL_sl hP rfl rfl rfl (by omega) (by omega) ?_
  refine EL_bz hP rfl rfl rfl rfl ?_
  refine EL_s hP 4 (i' := 37) (ls' := [some (.inr (.inr 3000)), some (.inr (.inr 0)), some (.inr (.inr 66)), some (.inr (.inr 112)), some (.inl i), some (.inl v), none]) (sk' := [.inl (i + 2), .inr (.inr 3000), .inl (bz (xs (i + 1))), .inr (.inr 66)]) (h' := h') rfl ?_
  refine EL_sl hP rfl rfl rfl (by omega) (by omega) ?_
  refine EL_s hP 4 (i' := 42) (ls' := [some (.inr (.inr 3000)), some (.inr (.inr 0)), some (.inr (.inr 66)), some (.inr (.inr 112)), some (.inl i), some (.inl v), none]) (sk' := [.inl (i + 3), .inr (.inr 3000), .inl (xs (i + 2)), .inl (bz (xs (i + 1))), .inr (.inr 66)]) (h' := h') rfl ?_
  refine EL_sl hP rfl rfl rfl (by omega) (by omega) ?_
  rw [← Nat.zero_add b]
  refine EL_call (b1 := 0) (b2 := b) (rest := []) hP rfl rfl (Nat.zero_le _) (fun e => absurd e (by decide)) hq (fun v2 h2 hz => ?_) (fun E h2 hz => by obtain ⟨-, r2, e, -⟩ := hz; cases e)
  obtain ⟨hI2, r2, e, hth, hout⟩ := hz
  cases e
  refine EL_s hP 2 (i' := 46) (ls' := [some (.inr (.inr 3000)), some (.inr (.inr 0)), some (.inr (.inr 66)), some (.inr (.inr 112)), some (.inl i), some (.inl v), some (.inl r2)]) (sk' := [.inr (.inr 66)]) (h' := h2) rfl ?_
  rw [← Nat.zero_add b]
  refine EL_call (b1 := 0) (b2 := b) (rest := []) hP rfl rfl (Nat.zero_le _) (fun e => absurd e (by decide)) (m_thr2 39 h2) (fun v3 h3 hz => ?_) (fun E h3 hz => by cases hz.1)
  obtain ⟨e, rfl⟩ := hz
  cases e
  refine EL_s hP 1 (i' := 48) (ls' := [some (.inr (.inr 3000)), some (.inr (.inr 0)), some (.inr (.inr 66)), some (.inr (.inr 112)), some (.inl i), some (.inl v), some (.inl r2)]) (sk' := [.inl v, .inl (h3 66 0)]) (h' := h3) rfl ?_
  have fin : P b 62 [some (.inr (.inr 3000)), some (.inr (.inr 0)), some (.inr (.inr 66)), some (.inr (.inr 112)), some (.inl i), some (.inl v), some (.inl r2)] [] h3 := EL_s hP 1 (i' := 63) (ls' := [some (.inr (.inr 3000)), some (.inr (.inr 0)), some (.inr (.inr 66)), some (.inr (.inr 112)), some (.inl i), some (.inl v), some (.inl r2)]) (sk' := []) (h' := h3) rfl (EL_fg hP (ls' := LSx i) rfl (fun j w hj => by
    match j, hj with
    | 0, hj => exact hj
    | 1, hj => exact hj
    | 2, hj => exact hj
    | 3, hj => exact hj
    | 4, hj => exact hj
    | 5, hj => cases hj
    | 6, hj => cases hj
    | _ + 7, hj => cases hj) (kk h3 hI2))
  refine EL_b hP rfl rfl (fun _ => ?_) (fun hf => by rw [hth, xcc_eqs] at hf; cases hf)
  refine EL_s hP 1 (i' := 52) (ls' := [some (.inr (.inr 3000)), some (.inr (.inr 0)), some (.inr (.inr 66)), some (.inr (.inr 112)), some (.inl i), some (.inl v), some (.inl r2)]) (sk' := [.inl v]) (h' := h3) rfl ?_
  refine EL_b hP rfl rfl (fun _ => fin) (fun hf => ?_)
  have hv0 := xcc_v hv hf
  refine EL_s hP 2 (i' := 55) (ls' := [some (.inr (.inr 3000)), some (.inr (.inr 0)), some (.inr (.inr 66)), some (.inr (.inr 112)), some (.inl i), some (.inl v), some (.inl r2)]) (sk' := [.inl 0, .inr (.inr 112)]) (h' := h3) rfl ?_
  refine EL_ld hP (ty := .long) (n := 1) (a := 112) (z := 0) (sk := []) rfl rfl rfl (by decide) (by decide) ?_
  refine EL_s hP 2 (i' := 58) (ls' := [some (.inr (.inr 3000)), some (.inr (.inr 0)), some (.inr (.inr 66)), some (.inr (.inr 112)), some (.inl i), some (.inl v), some (.inl r2)]) (sk' := [.inr (.inl (w32 r2)), .inr (.inl (h3 112 0))]) (h' := h3) rfl ?_
  refine EL_s hP 1 (i' := 59) (ls' := [some (.inr (.inr 3000)), some (.inr (.inr 0)), some (.inr (.inr 66)), some (.inr (.inr 112)), some (.inl i), some (.inl v), some (.inl r2)]) (sk' := [.inl (xcmp (h3 112 0) (w32 r2))]) (h' := h3) rfl ?_
  exact EL_b hP rfl rfl (fun _ => fin) (fun hf => by rw [xcmp_e (show h3 112 0 = w32 r2 from hout hv0)] at hf; cases hf)
theorem sg_23 {P : xPr} {L : Nat} {xs : Int → Int} {Q : xO → xH → Prop} (hP : LCl cdS23 L xs Q P) {i : Int} (h0 : 0 ≤ i) (h1 : i + 6 ≤ L) (hxs : ∀ j, xr (xs j)) {b : Nat} {h : xH} (hI : Inv h) (kk : ∀ h' : xH, Inv h' → P b 63 (LSx i) [] h') : P (b + 4) 0 (LSx i) [] h := by
  refine EL_mono hP (b := 2 + b) (by omega) ?_
  refine EL_s hP 1 (i' := 1) (ls' := [some (.inr (.inr 3000)), some (.inr (.inr 0)), some (.inr (.inr 66)), some (.inr (.inr 112)), some (.inl i), none, none]) (sk' := [.inr (.inr 0)]) (h' := h) rfl ?_
  refine EL_s hP 4 (i' := 5) (ls' := [some (.inr (.inr 3000)), some (.inr (.inr 0)), some (.inr (.inr 66)), some (.inr (.inr 112)), some (.inl i), none, none]) (sk' := [.inl (i + 1), .inr (.inr 3000), .inr (.inr 0)]) (h' := h) rfl ?_
  refine EL_sl hP rfl rfl rfl (by omega) (by omega) ?_
  refine EL_bz hP rfl rfl rfl rfl ?_
  refine EL_s hP 4 (i' := 14) (ls' := [some (.inr (.inr 3000)), some (.inr (.inr 0)), some (.inr (.inr 66)), some (.inr (.inr 112)), some (.inl i), none, none]) (sk' := [.inl (i + 2), .inr (.inr 3000), .inl (bz (xs (i + 1))), .inr (.inr 0)]) (h' := h) rfl ?_
  refine EL_sl hP rfl rfl rfl (by omega) (by omega) ?_
  refine EL_s hP 4 (i' := 19) (ls' := [some (.inr (.inr 3000)), some (.inr (.inr 0)), some (.inr (.inr 66)), some (.inr (.inr 112)), some (.inl i), none, none]) (sk' := [.inl (i + 3), .inr (.inr 3000), .inl (xs (i + 2)), .inl (bz (xs (i + 1))), .inr (.inr 0)]) (h' := h) rfl ?_
  refine EL_sl hP rfl rfl rfl (by omega) (by omega) ?_
  refine EL_s hP 1 (i' := 21) (ls' := [some (.inr (.inr 3000)), some (.inr (.inr 0)), some (.inr (.inr 66)), some (.inr (.inr 112)), some (.inl i), none, none]) (sk' := [.inr (.inr 112), .inl (xs (i + 3)), .inl (xs (i + 2)), .inl (bz (xs (i + 1))), .inr (.inr 0)]) (h' := h) rfl ?_
  refine EL_hc hP (b1 := 2) (hn := 18) (as := .inr (.inr 0) :: (([bz (xs (i + 1)), xs (i + 2), xs (i + 3)] : List Int).map .inl ++ [.inr (.inr 112)])) (rest := []) rfl rfl (by decide) rfl (Nat.zero_le _) (CO2_h (zs := [bz (xs (i + 1)), xs (i + 2), xs (i + 3)]) rfl (by decide) (by decide) (CO2_t (bz_01 _) (CO.two (CO_differs0 15 hI (xs (i + 2)) (xs (i + 3)) (hxs _) (hxs _))) (CO.two (CO_differs1 15 hI (xs (i + 2)) (xs (i + 3)) (hxs _) (hxs _))))) (fun v h' hq => ?_)
  obtain ⟨hv, hq⟩ := hq
  refine EL_s hP 2 (i' := 24) (ls' := [some (.inr (.inr 3000)), some (.inr (.inr 0)), some (.inr (.inr 66)), some (.inr (.inr 112)), some (.inl i), some (.inl v), none]) (sk' := [.inr (.inr 66)]) (h' := h') rfl ?_
  refine EL_s hP 4 (i' := 28) (ls' := [some (.inr (.inr 3000)), some (.inr (.inr 0)), some (.inr (.inr 66)), some (.inr (.inr 112)), some (.inl i), some (.inl v), none]) (sk' := [.inl (i + 1), .inr (.inr 3000), .inr (.inr 66)]) (h' := h') rfl ?_
  refine EL_sl hP rfl rfl rfl (by omega) (by omega) ?_
  refine EL_bz hP rfl rfl rfl rfl ?_
  refine EL_s hP 4 (i' := 37) (ls' := [some (.inr (.inr 3000)), some (.inr (.inr 0)), some (.inr (.inr 66)), some (.inr (.inr 112)), some (.inl i), some (.inl v), none]) (sk' := [.inl (i + 2), .inr (.inr 3000), .inl (bz (xs (i + 1))), .inr (.inr 66)]) (h' := h') rfl ?_
  refine EL_sl hP rfl rfl rfl (by omega) (by omega) ?_
  refine EL_s hP 4 (i' := 42) (ls' := [some (.inr (.inr 3000)), some (.inr (.inr 0)), some (.inr (.inr 66)), some (.inr (.inr 112)), some (.inl i), some (.inl v), none]) (sk' := [.inl (i + 3), .inr (.inr 3000), .inl (xs (i + 2)), .inl (bz (xs (i + 1))), .inr (.inr 66)]) (h' := h') rfl ?_
  refine EL_sl hP rfl rfl rfl (by omega) (by omega) ?_
  rw [← Nat.zero_add b]
  refine EL_call (b1 := 0) (b2 := b) (rest := []) hP rfl rfl (Nat.zero_le _) (fun e => absurd e (by decide)) hq (fun v2 h2 hz => ?_) (fun E h2 hz => by obtain ⟨-, r2, e, -⟩ := hz; cases e)
  obtain ⟨hI2, r2, e, hth, hout⟩ := hz
  cases e
  refine EL_s hP 2 (i' := 46) (ls' := [some (.inr (.inr 3000)), some (.inr (.inr 0)), some (.inr (.inr 66)), some (.inr (.inr 112)), some (.inl i), some (.inl v), some (.inl r2)]) (sk' := [.inr (.inr 66)]) (h' := h2) rfl ?_
  rw [← Nat.zero_add b]
  refine EL_call (b1 := 0) (b2 := b) (rest := []) hP rfl rfl (Nat.zero_le _) (fun e => absurd e (by decide)) (m_thr2 39 h2) (fun v3 h3 hz => ?_) (fun E h3 hz => by cases hz.1)
  obtain ⟨e, rfl⟩ := hz
  cases e
  refine EL_s hP 1 (i' := 48) (ls' := [some (.inr (.inr 3000)), some (.inr (.inr 0)), some (.inr (.inr 66)), some (.inr (.inr 112)), some (.inl i), some (.inl v), some (.inl r2)]) (sk' := [.inl v, .inl (h3 66 0)]) (h' := h3) rfl ?_
  have fin : P b 62 [some (.inr (.inr 3000)), some (.inr (.inr 0)), some (.inr (.inr 66)), some (.inr (.inr 112)), some (.inl i), some (.inl v), some (.inl r2)] [] h3 := EL_s hP 1 (i' := 63) (ls' := [some (.inr (.inr 3000)), some (.inr (.inr 0)), some (.inr (.inr 66)), some (.inr (.inr 112)), some (.inl i), some (.inl v), some (.inl r2)]) (sk' := []) (h' := h3) rfl (EL_fg hP (ls' := LSx i) rfl (fun j w hj => by
    match j, hj with
    | 0, hj => exact hj
    | 1, hj => exact hj
    | 2, hj => exact hj
    | 3, hj => exact hj
    | 4, hj => exact hj
    | 5, hj => cases hj
    | 6, hj => cases hj
    | _ + 7, hj => cases hj) (kk h3 hI2))
  refine EL_b hP rfl rfl (fun _ => ?_) (fun hf => by rw [hth, xcc_eqs] at hf; cases hf)
  refine EL_s hP 1 (i' := 52) (ls' := [some (.inr (.inr 3000)), some (.inr (.inr 0)), some (.inr (.inr 66)), some (.inr (.inr 112)), some (.inl i), some (.inl v), some (.inl r2)]) (sk' := [.inl v]) (h' := h3) rfl ?_
  refine EL_b hP rfl rfl (fun _ => fin) (fun hf => ?_)
  have hv0 := xcc_v hv hf
  refine EL_s hP 2 (i' := 55) (ls' := [some (.inr (.inr 3000)), some (.inr (.inr 0)), some (.inr (.inr 66)), some (.inr (.inr 112)), some (.inl i), some (.inl v), some (.inl r2)]) (sk' := [.inl 0, .inr (.inr 112)]) (h' := h3) rfl ?_
  refine EL_ld hP (ty := .long) (n := 1) (a := 112) (z := 0) (sk := []) rfl rfl rfl (by decide) (by decide) ?_
  refine EL_s hP 2 (i' := 58) (ls' := [some (.inr (.inr 3000)), some (.inr (.inr 0)), some (.inr (.inr 66)), some (.inr (.inr 112)), some (.inl i), some (.inl v), some (.inl r2)]) (sk' := [.inr (.inl (w32 r2)), .inr (.inl (h3 112 0))]) (h' := h3) rfl ?_
  refine EL_s hP 1 (i' := 59) (ls' := [some (.inr (.inr 3000)), some (.inr (.inr 0)), some (.inr (.inr 66)), some (.inr (.inr 112)), some (.inl i), some (.inl v), some (.inl r2)]) (sk' := [.inl (xcmp (h3 112 0) (w32 r2))]) (h' := h3) rfl ?_
  exact EL_b hP rfl rfl (fun _ => fin) (fun hf => by rw [xcmp_e (show h3 112 0 = w32 r2 from hout hv0)] at hf; cases hf)
theorem sg_24 {P : xPr} {L : Nat} {xs : Int → Int} {Q : xO → xH → Prop} (hP : LCl cdS24 L xs Q P) {i : Int} (h0 : 0 ≤ i) (h1 : i + 6 ≤ L) (hxs : ∀ j, xr (xs j)) {b : Nat} {h : xH} (hI : Inv h) (kk : ∀ h' : xH, Inv h' → P b 35 (LSx i) [] h') : P (b + 4) 0 (LSx i) [] h := by
  refine EL_mono hP (b := 2 + b) (by omega) ?_
  refine EL_s hP 1 (i' := 1) (ls' := [some (.inr (.inr 3000)), some (.inr (.inr 0)), some (.inr (.inr 66)), some (.inr (.inr 112)), some (.inl i), none, none]) (sk' := [.inr (.inr 0)]) (h' := h) rfl ?_
  refine EL_s hP 4 (i' := 5) (ls' := [some (.inr (.inr 3000)), some (.inr (.inr 0)), some (.inr (.inr 66)), some (.inr (.inr 112)), some (.inl i), none, none]) (sk' := [.inl (i + 1), .inr (.inr 3000), .inr (.inr 0)]) (h' := h) rfl ?_
  refine EL_sl hP rfl rfl rfl (by omega) (by omega) ?_
  refine EL_s hP 1 (i' := 7) (ls' := [some (.inr (.inr 3000)), some (.inr (.inr 0)), some (.inr (.inr 66)), some (.inr (.inr 112)), some (.inl i), none, none]) (sk' := [.inr (.inr 112), .inl (xs (i + 1)), .inr (.inr 0)]) (h' := h) rfl ?_
  refine EL_hc hP (b1 := 2) (hn := 19) (as := .inr (.inr 0) :: (([xs (i + 1)] : List Int).map .inl ++ [.inr (.inr 112)])) (rest := []) rfl rfl (by decide) rfl (Nat.zero_le _) (CO2_h (zs := [xs (i + 1)]) rfl (by decide) (by decide) (CO.two (CO_solve 30 hI (xs (i + 1)) (hxs _)))) (fun v h' hq => ?_)
  obtain ⟨hv, hq⟩ := hq
  refine EL_s hP 2 (i' := 10) (ls' := [some (.inr (.inr 3000)), some (.inr (.inr 0)), some (.inr (.inr 66)), some (.inr (.inr 112)), some (.inl i), some (.inl v), none]) (sk' := [.inr (.inr 66)]) (h' := h') rfl ?_
  refine EL_s hP 4 (i' := 14) (ls' := [some (.inr (.inr 3000)), some (.inr (.inr 0)), some (.inr (.inr 66)), some (.inr (.inr 112)), some (.inl i), some (.inl v), none]) (sk' := [.inl (i + 1), .inr (.inr 3000), .inr (.inr 66)]) (h' := h') rfl ?_
  refine EL_sl hP rfl rfl rfl (by omega) (by omega) ?_
  rw [← Nat.zero_add b]
  refine EL_call (b1 := 0) (b2 := b) (rest := []) hP rfl rfl (Nat.zero_le _) (fun e => absurd e (by decide)) hq (fun v2 h2 hz => ?_) (fun E h2 hz => by obtain ⟨-, r2, e, -⟩ := hz; cases e)
  obtain ⟨hI2, r2, e, hth, hout⟩ := hz
  cases e
  refine EL_s hP 2 (i' := 18) (ls' := [some (.inr (.inr 3000)), some (.inr (.inr 0)), some (.inr (.inr 66)), some (.inr (.inr 112)), some (.inl i), some (.inl v), some (.inl r2)]) (sk' := [.inr (.inr 66)]) (h' := h2) rfl ?_
  rw [← Nat.zero_add b]
  refine EL_call (b1 := 0) (b2 := b) (rest := []) hP rfl rfl (Nat.zero_le _) (fun e => absurd e (by decide)) (m_thr2 39 h2) (fun v3 h3 hz => ?_) (fun E h3 hz => by cases hz.1)
  obtain ⟨e, rfl⟩ := hz
  cases e
  refine EL_s hP 1 (i' := 20) (ls' := [some (.inr (.inr 3000)), some (.inr (.inr 0)), some (.inr (.inr 66)), some (.inr (.inr 112)), some (.inl i), some (.inl v), some (.inl r2)]) (sk' := [.inl v, .inl (h3 66 0)]) (h' := h3) rfl ?_
  have fin : P b 34 [some (.inr (.inr 3000)), some (.inr (.inr 0)), some (.inr (.inr 66)), some (.inr (.inr 112)), some (.inl i), some (.inl v), some (.inl r2)] [] h3 := EL_s hP 1 (i' := 35) (ls' := [some (.inr (.inr 3000)), some (.inr (.inr 0)), some (.inr (.inr 66)), some (.inr (.inr 112)), some (.inl i), some (.inl v), some (.inl r2)]) (sk' := []) (h' := h3) rfl (EL_fg hP (ls' := LSx i) rfl (fun j w hj => by
    match j, hj with
    | 0, hj => exact hj
    | 1, hj => exact hj
    | 2, hj => exact hj
    | 3, hj => exact hj
    | 4, hj => exact hj
    | 5, hj => cases hj
    | 6, hj => cases hj
    | _ + 7, hj => cases hj) (kk h3 hI2))
  refine EL_b hP rfl rfl (fun _ => ?_) (fun hf => by rw [hth, xcc_eqs] at hf; cases hf)
  refine EL_s hP 1 (i' := 24) (ls' := [some (.inr (.inr 3000)), some (.inr (.inr 0)), some (.inr (.inr 66)), some (.inr (.inr 112)), some (.inl i), some (.inl v), some (.inl r2)]) (sk' := [.inl v]) (h' := h3) rfl ?_
  refine EL_b hP rfl rfl (fun _ => fin) (fun hf => ?_)
  have hv0 := xcc_v hv hf
  refine EL_s hP 2 (i' := 27) (ls' := [some (.inr (.inr 3000)), some (.inr (.inr 0)), some (.inr (.inr 66)), some (.inr (.inr 112)), some (.inl i), some (.inl v), some (.inl r2)]) (sk' := [.inl 0, .inr (.inr 112)]) (h' := h3) rfl ?_
  refine EL_ld hP (ty := .long) (n := 1) (a := 112) (z := 0) (sk := []) rfl rfl rfl (by decide) (by decide) ?_
  refine EL_s hP 2 (i' := 30) (ls' := [some (.inr (.inr 3000)), some (.inr (.inr 0)), some (.inr (.inr 66)), some (.inr (.inr 112)), some (.inl i), some (.inl v), some (.inl r2)]) (sk' := [.inr (.inl (w32 r2)), .inr (.inl (h3 112 0))]) (h' := h3) rfl ?_
  refine EL_s hP 1 (i' := 31) (ls' := [some (.inr (.inr 3000)), some (.inr (.inr 0)), some (.inr (.inr 66)), some (.inr (.inr 112)), some (.inl i), some (.inl v), some (.inl r2)]) (sk' := [.inl (xcmp (h3 112 0) (w32 r2))]) (h' := h3) rfl ?_
  exact EL_b hP rfl rfl (fun _ => fin) (fun hf => by rw [xcmp_e (show h3 112 0 = w32 r2 from hout hv0)] at hf; cases hf)
theorem sg_25 {P : xPr} {L : Nat} {xs : Int → Int} {Q : xO → xH → Prop} (hP : LCl cdS25 L xs Q P) {i : Int} (h0 : 0 ≤ i) (h1 : i + 6 ≤ L) (hxs : ∀ j, xr (xs j)) {b : Nat} {h : xH} (hI : Inv h) (kk : ∀ h' : xH, Inv h' → P b 35 (LSx i) [] h') : P (b + 4) 0 (LSx i) [] h := by
  refine EL_mono hP (b := 2 + b) (by omega) ?_
  refine EL_s hP 1 (i' := 1) (ls' := [some (.inr (.inr 3000)), some (.inr (.inr 0)), some (.inr (.inr 66)), some (.inr (.inr 112)), some (.inl i), none, none]) (sk' := [.inr (.inr 0)]) (h' := h) rfl ?_
  refine EL_s hP 4 (i' := 5) (ls' := [some (.inr (.inr 3000)), some (.inr (.inr 0)), some (.inr (.inr 66)), some (.inr (.inr 112)), some (.inl i), none, none]) (sk' := [.inl (i + 1), .inr (.inr 3000), .inr (.inr 0)]) (h' := h) rfl ?_
  refine EL_sl hP rfl rfl rfl (by omega) (by omega) ?_
  refine EL_s hP 1 (i' := 7) (ls' := [some (.inr (.inr 3000)), some (.inr (.inr 0)), some (.inr (.inr 66)), some (.inr (.inr 112)), some (.inl i), none, none]) (sk' := [.inr (.inr 112), .inl (xs (i + 1)), .inr (.inr 0)]) (h' := h) rfl ?_
  refine EL_hc hP (b1 := 2) (hn := 20) (as := .inr (.inr 0) :: (([xs (i + 1)] : List Int).map .inl ++ [.inr (.inr 112)])) (rest := []) rfl rfl (by decide) rfl (Nat.zero_le _) (CO2_h (zs := [xs (i + 1)]) rfl (by decide) (by decide) (CO.two (CO_make 30 hI (xs (i + 1)) (hxs _)))) (fun v h' hq => ?_)
  obtain ⟨hv, hq⟩ := hq
  refine EL_s hP 2 (i' := 10) (ls' := [some (.inr (.inr 3000)), some (.inr (.inr 0)), some (.inr (.inr 66)), some (.inr (.inr 112)), some (.inl i), some (.inl v), none]) (sk' := [.inr (.inr 66)]) (h' := h') rfl ?_
  refine EL_s hP 4 (i' := 14) (ls' := [some (.inr (.inr 3000)), some (.inr (.inr 0)), some (.inr (.inr 66)), some (.inr (.inr 112)), some (.inl i), some (.inl v), none]) (sk' := [.inl (i + 1), .inr (.inr 3000), .inr (.inr 66)]) (h' := h') rfl ?_
  refine EL_sl hP rfl rfl rfl (by omega) (by omega) ?_
  rw [← Nat.zero_add b]
  refine EL_call (b1 := 0) (b2 := b) (rest := []) hP rfl rfl (Nat.zero_le _) (fun e => absurd e (by decide)) hq (fun v2 h2 hz => ?_) (fun E h2 hz => by obtain ⟨-, r2, e, -⟩ := hz; cases e)
  obtain ⟨hI2, r2, e, hth, hout⟩ := hz
  cases e
  refine EL_s hP 2 (i' := 18) (ls' := [some (.inr (.inr 3000)), some (.inr (.inr 0)), some (.inr (.inr 66)), some (.inr (.inr 112)), some (.inl i), some (.inl v), some (.inl r2)]) (sk' := [.inr (.inr 66)]) (h' := h2) rfl ?_
  rw [← Nat.zero_add b]
  refine EL_call (b1 := 0) (b2 := b) (rest := []) hP rfl rfl (Nat.zero_le _) (fun e => absurd e (by decide)) (m_thr2 39 h2) (fun v3 h3 hz => ?_) (fun E h3 hz => by cases hz.1)
  obtain ⟨e, rfl⟩ := hz
  cases e
  refine EL_s hP 1 (i' := 20) (ls' := [some (.inr (.inr 3000)), some (.inr (.inr 0)), some (.inr (.inr 66)), some (.inr (.inr 112)), some (.inl i), some (.inl v), some (.inl r2)]) (sk' := [.inl v, .inl (h3 66 0)]) (h' := h3) rfl ?_
  have fin : P b 34 [some (.inr (.inr 3000)), some (.inr (.inr 0)), some (.inr (.inr 66)), some (.inr (.inr 112)), some (.inl i), some (.inl v), some (.inl r2)] [] h3 := EL_s hP 1 (i' := 35) (ls' := [some (.inr (.inr 3000)), some (.inr (.inr 0)), some (.inr (.inr 66)), some (.inr (.inr 112)), some (.inl i), some (.inl v), some (.inl r2)]) (sk' := []) (h' := h3) rfl (EL_fg hP (ls' := LSx i) rfl (fun j w hj => by
    match j, hj with
    | 0, hj => exact hj
    | 1, hj => exact hj
    | 2, hj => exact hj
    | 3, hj => exact hj
    | 4, hj => exact hj
    | 5, hj => cases hj
    | 6, hj => cases hj
    | _ + 7, hj => cases hj) (kk h3 hI2))
  refine EL_b hP rfl rfl (fun _ => ?_) (fun hf => by rw [hth, xcc_eqs] at hf; cases hf)
  refine EL_s hP 1 (i' := 24) (ls' := [some (.inr (.inr 3000)), some (.inr (.inr 0)), some (.inr (.inr 66)), some (.inr (.inr 112)), some (.inl i), some (.inl v), some (.inl r2)]) (sk' := [.inl v]) (h' := h3) rfl ?_
  refine EL_b hP rfl rfl (fun _ => fin) (fun hf => ?_)
  have hv0 := xcc_v hv hf
  refine EL_s hP 2 (i' := 27) (ls' := [some (.inr (.inr 3000)), some (.inr (.inr 0)), some (.inr (.inr 66)), some (.inr (.inr 112)), some (.inl i), some (.inl v), some (.inl r2)]) (sk' := [.inl 0, .inr (.inr 112)]) (h' := h3) rfl ?_
  refine EL_ld hP (ty := .long) (n := 1) (a := 112) (z := 0) (sk := []) rfl rfl rfl (by decide) (by decide) ?_
  refine EL_s hP 2 (i' := 30) (ls' := [some (.inr (.inr 3000)), some (.inr (.inr 0)), some (.inr (.inr 66)), some (.inr (.inr 112)), some (.inl i), some (.inl v), some (.inl r2)]) (sk' := [.inr (.inl (w32 r2)), .inr (.inl (h3 112 0))]) (h' := h3) rfl ?_
  refine EL_s hP 1 (i' := 31) (ls' := [some (.inr (.inr 3000)), some (.inr (.inr 0)), some (.inr (.inr 66)), some (.inr (.inr 112)), some (.inl i), some (.inl v), some (.inl r2)]) (sk' := [.inl (xcmp (h3 112 0) (w32 r2))]) (h' := h3) rfl ?_
  exact EL_b hP rfl rfl (fun _ => fin) (fun hf => by rw [xcmp_e (show h3 112 0 = w32 r2 from hout hv0)] at hf; cases hf)
theorem sg_26 {P : xPr} {L : Nat} {xs : Int → Int} {Q : xO → xH → Prop} (hP : LCl cdS26 L xs Q P) {i : Int} (h0 : 0 ≤ i) (h1 : i + 6 ≤ L) (hxs : ∀ j, xr (xs j)) {b : Nat} {h : xH} (hI : Inv h) (kk : ∀ h' : xH, Inv h' → P b 35 (LSx i) [] h') : P (b + 4) 0 (LSx i) [] h := by
  refine EL_mono hP (b := 2 + b) (by omega) ?_
  refine EL_s hP 1 (i' := 1) (ls' := [some (.inr (.inr 3000)), some (.inr (.inr 0)), some (.inr (.inr 66)), some (.inr (.inr 112)), some (.inl i), none, none]) (sk' := [.inr (.inr 0)]) (h' := h) rfl ?_
  refine EL_s hP 4 (i' := 5) (ls' := [some (.inr (.inr 3000)), some (.inr (.inr 0)), some (.inr (.inr 66)), some (.inr (.inr 112)), some (.inl i), none, none]) (sk' := [.inl (i + 1), .inr (.inr 3000), .inr (.inr 0)]) (h' := h) rfl ?_
  refine EL_sl hP rfl rfl rfl (by omega) (by omega) ?_
  refine EL_s hP 1 (i' := 7) (ls' := [some (.inr (.inr 3000)), some (.inr (.inr 0)), some (.inr (.inr 66)), some (.inr (.inr 112)), some (.inl i), none, none]) (sk' := [.inr (.inr 112), .inl (xs (i + 1)), .inr (.inr 0)]) (h' := h) rfl ?_
  refine EL_hc hP (b1 := 2) (hn := 21) (as := .inr (.inr 0) :: (([xs (i + 1)] : List Int).map .inl ++ [.inr (.inr 112)])) (rest := []) rfl rfl (by decide) rfl (Nat.zero_le _) (CO2_h (zs := [xs (i + 1)]) rfl (by decide) (by decide) (CO.two (CO_solved 32 hI (xs (i + 1)) (hxs _)))) (fun v h' hq => ?_)
  obtain ⟨hv, hq⟩ := hq
  refine EL_s hP 2 (i' := 10) (ls' := [some (.inr (.inr 3000)), some (.inr (.inr 0)), some (.inr (.inr 66)), some (.inr (.inr 112)), some (.inl i), some (.inl v), none]) (sk' := [.inr (.inr 66)]) (h' := h') rfl ?_
  refine EL_s hP 4 (i' := 14) (ls' := [some (.inr (.inr 3000)), some (.inr (.inr 0)), some (.inr (.inr 66)), some (.inr (.inr 112)), some (.inl i), some (.inl v), none]) (sk' := [.inl (i + 1), .inr (.inr 3000), .inr (.inr 66)]) (h' := h') rfl ?_
  refine EL_sl hP rfl rfl rfl (by omega) (by omega) ?_
  rw [← Nat.zero_add b]
  refine EL_call (b1 := 0) (b2 := b) (rest := []) hP rfl rfl (Nat.zero_le _) (fun e => absurd e (by decide)) hq (fun v2 h2 hz => ?_) (fun E h2 hz => by obtain ⟨-, r2, e, -⟩ := hz; cases e)
  obtain ⟨hI2, r2, e, hth, hout⟩ := hz
  cases e
  refine EL_s hP 2 (i' := 18) (ls' := [some (.inr (.inr 3000)), some (.inr (.inr 0)), some (.inr (.inr 66)), some (.inr (.inr 112)), some (.inl i), some (.inl v), some (.inl r2)]) (sk' := [.inr (.inr 66)]) (h' := h2) rfl ?_
  rw [← Nat.zero_add b]
  refine EL_call (b1 := 0) (b2 := b) (rest := []) hP rfl rfl (Nat.zero_le _) (fun e => absurd e (by decide)) (m_thr2 39 h2) (fun v3 h3 hz => ?_) (fun E h3 hz => by cases hz.1)
  obtain ⟨e, rfl⟩ := hz
  cases e
  refine EL_s hP 1 (i' := 20) (ls' := [some (.inr (.inr 3000)), some (.inr (.inr 0)), some (.inr (.inr 66)), some (.inr (.inr 112)), some (.inl i), some (.inl v), some (.inl r2)]) (sk' := [.inl v, .inl (h3 66 0)]) (h' := h3) rfl ?_
  have fin : P b 34 [some (.inr (.inr 3000)), some (.inr (.inr 0)), some (.inr (.inr 66)), some (.inr (.inr 112)), some (.inl i), some (.inl v), some (.inl r2)] [] h3 := EL_s hP 1 (i' := 35) (ls' := [some (.inr (.inr 3000)), some (.inr (.inr 0)), some (.inr (.inr 66)), some (.inr (.inr 112)), some (.inl i), some (.inl v), some (.inl r2)]) (sk' := []) (h' := h3) rfl (EL_fg hP (ls' := LSx i) rfl (fun j w hj => by
    match j, hj with
    | 0, hj => exact hj
    | 1, hj => exact hj
    | 2, hj => exact hj
    | 3, hj => exact hj
    | 4, hj => exact hj
    | 5, hj => cases hj
    | 6, hj => cases hj
    | _ + 7, hj => cases hj) (kk h3 hI2))
  refine EL_b hP rfl rfl (fun _ => ?_) (fun hf => by rw [hth, xcc_eqs] at hf; cases hf)
  refine EL_s hP 1 (i' := 24) (ls' := [some (.inr (.inr 3000)), some (.inr (.inr 0)), some (.inr (.inr 66)), some (.inr (.inr 112)), some (.inl i), some (.inl v), some (.inl r2)]) (sk' := [.inl v]) (h' := h3) rfl ?_
  refine EL_b hP rfl rfl (fun _ => fin) (fun hf => ?_)
  have hv0 := xcc_v hv hf
  refine EL_s hP 2 (i' := 27) (ls' := [some (.inr (.inr 3000)), some (.inr (.inr 0)), some (.inr (.inr 66)), some (.inr (.inr 112)), some (.inl i), some (.inl v), some (.inl r2)]) (sk' := [.inl 0, .inr (.inr 112)]) (h' := h3) rfl ?_
  refine EL_ld hP (ty := .long) (n := 1) (a := 112) (z := 0) (sk := []) rfl rfl rfl (by decide) (by decide) ?_
  refine EL_s hP 2 (i' := 30) (ls' := [some (.inr (.inr 3000)), some (.inr (.inr 0)), some (.inr (.inr 66)), some (.inr (.inr 112)), some (.inl i), some (.inl v), some (.inl r2)]) (sk' := [.inr (.inl (w32 r2)), .inr (.inl (h3 112 0))]) (h' := h3) rfl ?_
  refine EL_s hP 1 (i' := 31) (ls' := [some (.inr (.inr 3000)), some (.inr (.inr 0)), some (.inr (.inr 66)), some (.inr (.inr 112)), some (.inl i), some (.inl v), some (.inl r2)]) (sk' := [.inl (xcmp (h3 112 0) (w32 r2))]) (h' := h3) rfl ?_
  exact EL_b hP rfl rfl (fun _ => fin) (fun hf => by rw [xcmp_e (show h3 112 0 = w32 r2 from hout hv0)] at hf; cases hf)
theorem sg_27 {P : xPr} {L : Nat} {xs : Int → Int} {Q : xO → xH → Prop} (hP : LCl cdS27 L xs Q P) {i : Int} (h0 : 0 ≤ i) (h1 : i + 6 ≤ L) (hxs : ∀ j, xr (xs j)) {b : Nat} {h : xH} (hI : Inv h) (kk : ∀ h' : xH, Inv h' → P b 55 (LSx i) [] h') : P (b + 4) 0 (LSx i) [] h := by
  refine EL_mono hP (b := 2 + b) (by omega) ?_
  refine EL_s hP 1 (i' := 1) (ls' := [some (.inr (.inr 3000)), some (.inr (.inr 0)), some (.inr (.inr 66)), some (.inr (.inr 112)), some (.inl i), none, none]) (sk' := [.inr (.inr 0)]) (h' := h) rfl ?_
  refine EL_s hP 4 (i' := 5) (ls' := [some (.inr (.inr 3000)), some (.inr (.inr 0)), some (.inr (.inr 66)), some (.inr (.inr 112)), some (.inl i), none, none]) (sk' := [.inl (i + 1), .inr (.inr 3000), .inr (.inr 0)]) (h' := h) rfl ?_
  refine EL_sl hP rfl rfl rfl (by omega) (by omega) ?_
  refine EL_s hP 4 (i' := 10) (ls' := [some (.inr (.inr 3000)), some (.inr (.inr 0)), some (.inr (.inr 66)), some (.inr (.inr 112)), some (.inl i), none, none]) (sk' := [.inl (i + 2), .inr (.inr 3000), .inl (xs (i + 1)), .inr (.inr 0)]) (h' := h) rfl ?_
  refine EL_sl hP rfl rfl rfl (by omega) (by omega) ?_
  refine EL_s hP 4 (i' := 15) (ls' := [some (.inr (.inr 3000)), some (.inr (.inr 0)), some (.inr (.inr 66)), some (.inr (.inr 112)), some (.inl i), none, none]) (sk' := [.inl (i + 3), .inr (.inr 3000), .inl (xs (i + 2)), .inl (xs (i + 1)), .inr (.inr 0)]) (h' := h) rfl ?_
  refine EL_sl hP rfl rfl rfl (by omega) (by omega) ?_
  refine EL_s hP 1 (i' := 17) (ls' := [some (.inr (.inr 3000)), some (.inr (.inr 0)), some (.inr (.inr 66)), some (.inr (.inr 112)), some (.inl i), none, none]) (sk' := [.inr (.inr 112), .inl (xs (i + 3)), .inl (xs (i + 2)), .inl (xs (i + 1)), .inr (.inr 0)]) (h' := h) rfl ?_
  refine EL_hc hP (b1 := 2) (hn := 22) (as := .inr (.inr 0) :: (([xs (i + 1), xs (i + 2), xs (i + 3)] : List Int).map .inl ++ [.inr (.inr 112)])) (rest := []) rfl rfl (by decide) rfl (Nat.zero_le _) (CO2_h (zs := [xs (i + 1), xs (i + 2), xs (i + 3)]) rfl (by decide) (by decide) (CO.two (CO_comes 14 hI (xs (i + 1)) (xs (i + 2)) (xs (i + 3)) (hxs _) (hxs _) (hxs _)))) (fun v h' hq => ?_)
  obtain ⟨hv, hq⟩ := hq
  refine EL_s hP 2 (i' := 20) (ls' := [some (.inr (.inr 3000)), some (.inr (.inr 0)), some (.inr (.inr 66)), some (.inr (.inr 112)), some (.inl i), some (.inl v), none]) (sk' := [.inr (.inr 66)]) (h' := h') rfl ?_
  refine EL_s hP 4 (i' := 24) (ls' := [some (.inr (.inr 3000)), some (.inr (.inr 0)), some (.inr (.inr 66)), some (.inr (.inr 112)), some (.inl i), some (.inl v), none]) (sk' := [.inl (i + 1), .inr (.inr 3000), .inr (.inr 66)]) (h' := h') rfl ?_
  refine EL_sl hP rfl rfl rfl (by omega) (by omega) ?_
  refine EL_s hP 4 (i' := 29) (ls' := [some (.inr (.inr 3000)), some (.inr (.inr 0)), some (.inr (.inr 66)), some (.inr (.inr 112)), some (.inl i), some (.inl v), none]) (sk' := [.inl (i + 2), .inr (.inr 3000), .inl (xs (i + 1)), .inr (.inr 66)]) (h' := h') rfl ?_
  refine EL_sl hP rfl rfl rfl (by omega) (by omega) ?_
  refine EL_s hP 4 (i' := 34) (ls' := [some (.inr (.inr 3000)), some (.inr (.inr 0)), some (.inr (.inr 66)), some (.inr (.inr 112)), some (.inl i), some (.inl v), none]) (sk' := [.inl (i + 3), .inr (.inr 3000), .inl (xs (i + 2)), .inl (xs (i + 1)), .inr (.inr 66)]) (h' := h') rfl ?_
  refine EL_sl hP rfl rfl rfl (by omega) (by omega) ?_
  rw [← Nat.zero_add b]
  refine EL_call (b1 := 0) (b2 := b) (rest := []) hP rfl rfl (Nat.zero_le _) (fun e => absurd e (by decide)) hq (fun v2 h2 hz => ?_) (fun E h2 hz => by obtain ⟨-, r2, e, -⟩ := hz; cases e)
  obtain ⟨hI2, r2, e, hth, hout⟩ := hz
  cases e
  refine EL_s hP 2 (i' := 38) (ls' := [some (.inr (.inr 3000)), some (.inr (.inr 0)), some (.inr (.inr 66)), some (.inr (.inr 112)), some (.inl i), some (.inl v), some (.inl r2)]) (sk' := [.inr (.inr 66)]) (h' := h2) rfl ?_
  rw [← Nat.zero_add b]
  refine EL_call (b1 := 0) (b2 := b) (rest := []) hP rfl rfl (Nat.zero_le _) (fun e => absurd e (by decide)) (m_thr2 39 h2) (fun v3 h3 hz => ?_) (fun E h3 hz => by cases hz.1)
  obtain ⟨e, rfl⟩ := hz
  cases e
  refine EL_s hP 1 (i' := 40) (ls' := [some (.inr (.inr 3000)), some (.inr (.inr 0)), some (.inr (.inr 66)), some (.inr (.inr 112)), some (.inl i), some (.inl v), some (.inl r2)]) (sk' := [.inl v, .inl (h3 66 0)]) (h' := h3) rfl ?_
  have fin : P b 54 [some (.inr (.inr 3000)), some (.inr (.inr 0)), some (.inr (.inr 66)), some (.inr (.inr 112)), some (.inl i), some (.inl v), some (.inl r2)] [] h3 := EL_s hP 1 (i' := 55) (ls' := [some (.inr (.inr 3000)), some (.inr (.inr 0)), some (.inr (.inr 66)), some (.inr (.inr 112)), some (.inl i), some (.inl v), some (.inl r2)]) (sk' := []) (h' := h3) rfl (EL_fg hP (ls' := LSx i) rfl (fun j w hj => by
    match j, hj with
    | 0, hj => exact hj
    | 1, hj => exact hj
    | 2, hj => exact hj
    | 3, hj => exact hj
    | 4, hj => exact hj
    | 5, hj => cases hj
    | 6, hj => cases hj
    | _ + 7, hj => cases hj) (kk h3 hI2))
  refine EL_b hP rfl rfl (fun _ => ?_) (fun hf => by rw [hth, xcc_eqs] at hf; cases hf)
  refine EL_s hP 1 (i' := 44) (ls' := [some (.inr (.inr 3000)), some (.inr (.inr 0)), some (.inr (.inr 66)), some (.inr (.inr 112)), some (.inl i), some (.inl v), some (.inl r2)]) (sk' := [.inl v]) (h' := h3) rfl ?_
  refine EL_b hP rfl rfl (fun _ => fin) (fun hf => ?_)
  have hv0 := xcc_v hv hf
  refine EL_s hP 2 (i' := 47) (ls' := [some (.inr (.inr 3000)), some (.inr (.inr 0)), some (.inr (.inr 66)), some (.inr (.inr 112)), some (.inl i), some (.inl v), some (.inl r2)]) (sk' := [.inl 0, .inr (.inr 112)]) (h' := h3) rfl ?_
  refine EL_ld hP (ty := .long) (n := 1) (a := 112) (z := 0) (sk := []) rfl rfl rfl (by decide) (by decide) ?_
  refine EL_s hP 2 (i' := 50) (ls' := [some (.inr (.inr 3000)), some (.inr (.inr 0)), some (.inr (.inr 66)), some (.inr (.inr 112)), some (.inl i), some (.inl v), some (.inl r2)]) (sk' := [.inr (.inl (w32 r2)), .inr (.inl (h3 112 0))]) (h' := h3) rfl ?_
  refine EL_s hP 1 (i' := 51) (ls' := [some (.inr (.inr 3000)), some (.inr (.inr 0)), some (.inr (.inr 66)), some (.inr (.inr 112)), some (.inl i), some (.inl v), some (.inl r2)]) (sk' := [.inl (xcmp (h3 112 0) (w32 r2))]) (h' := h3) rfl ?_
  exact EL_b hP rfl rfl (fun _ => fin) (fun hf => by rw [xcmp_e (show h3 112 0 = w32 r2 from hout hv0)] at hf; cases hf)
theorem sg_28 {P : xPr} {L : Nat} {xs : Int → Int} {Q : xO → xH → Prop} (hP : LCl cdS28 L xs Q P) {i : Int} (h0 : 0 ≤ i) (h1 : i + 6 ≤ L) (hxs : ∀ j, xr (xs j)) {b : Nat} {h : xH} (hI : Inv h) (kk : ∀ h' : xH, Inv h' → P b 25 (LSx i) [] h') : P (b + 4) 0 (LSx i) [] h := by
  refine EL_mono hP (b := 1 + b) (by omega) ?_
  refine EL_s hP 1 (i' := 1) (ls' := [some (.inr (.inr 3000)), some (.inr (.inr 0)), some (.inr (.inr 66)), some (.inr (.inr 112)), some (.inl i), none, none]) (sk' := [.inr (.inr 0)]) (h' := h) rfl ?_
  refine EL_s hP 1 (i' := 2) (ls' := [some (.inr (.inr 3000)), some (.inr (.inr 0)), some (.inr (.inr 66)), some (.inr (.inr 112)), some (.inl i), none, none]) (sk' := [.inr (.inr 112), .inr (.inr 0)]) (h' := h) rfl ?_
  refine EL_hc hP (b1 := 1) (hn := 23) (as := .inr (.inr 0) :: (([] : List Int).map .inl ++ [.inr (.inr 112)])) (rest := []) rfl rfl (by decide) rfl (Nat.zero_le _) (CO2_h (zs := []) rfl (by decide) (by decide) (CO2_ws 10 hI  )) (fun v h' hq => ?_)
  obtain ⟨hv, hq⟩ := hq
  refine EL_s hP 2 (i' := 5) (ls' := [some (.inr (.inr 3000)), some (.inr (.inr 0)), some (.inr (.inr 66)), some (.inr (.inr 112)), some (.inl i), some (.inl v), none]) (sk' := [.inr (.inr 66)]) (h' := h') rfl ?_
  rw [← Nat.zero_add b]
  refine EL_call (b1 := 0) (b2 := b) (rest := []) hP rfl rfl (Nat.zero_le _) (fun e => absurd e (by decide)) hq (fun v2 h2 hz => ?_) (fun E h2 hz => by obtain ⟨-, r2, e, -⟩ := hz; cases e)
  obtain ⟨hI2, r2, e, hth, hout⟩ := hz
  cases e
  refine EL_s hP 2 (i' := 8) (ls' := [some (.inr (.inr 3000)), some (.inr (.inr 0)), some (.inr (.inr 66)), some (.inr (.inr 112)), some (.inl i), some (.inl v), some (.inl r2)]) (sk' := [.inr (.inr 66)]) (h' := h2) rfl ?_
  rw [← Nat.zero_add b]
  refine EL_call (b1 := 0) (b2 := b) (rest := []) hP rfl rfl (Nat.zero_le _) (fun e => absurd e (by decide)) (m_thr2 39 h2) (fun v3 h3 hz => ?_) (fun E h3 hz => by cases hz.1)
  obtain ⟨e, rfl⟩ := hz
  cases e
  refine EL_s hP 1 (i' := 10) (ls' := [some (.inr (.inr 3000)), some (.inr (.inr 0)), some (.inr (.inr 66)), some (.inr (.inr 112)), some (.inl i), some (.inl v), some (.inl r2)]) (sk' := [.inl v, .inl (h3 66 0)]) (h' := h3) rfl ?_
  have fin : P b 24 [some (.inr (.inr 3000)), some (.inr (.inr 0)), some (.inr (.inr 66)), some (.inr (.inr 112)), some (.inl i), some (.inl v), some (.inl r2)] [] h3 := EL_s hP 1 (i' := 25) (ls' := [some (.inr (.inr 3000)), some (.inr (.inr 0)), some (.inr (.inr 66)), some (.inr (.inr 112)), some (.inl i), some (.inl v), some (.inl r2)]) (sk' := []) (h' := h3) rfl (EL_fg hP (ls' := LSx i) rfl (fun j w hj => by
    match j, hj with
    | 0, hj => exact hj
    | 1, hj => exact hj
    | 2, hj => exact hj
    | 3, hj => exact hj
    | 4, hj => exact hj
    | 5, hj => cases hj
    | 6, hj => cases hj
    | _ + 7, hj => cases hj) (kk h3 hI2))
  refine EL_b hP rfl rfl (fun _ => ?_) (fun hf => by rw [hth, xcc_eqs] at hf; cases hf)
  refine EL_s hP 1 (i' := 14) (ls' := [some (.inr (.inr 3000)), some (.inr (.inr 0)), some (.inr (.inr 66)), some (.inr (.inr 112)), some (.inl i), some (.inl v), some (.inl r2)]) (sk' := [.inl v]) (h' := h3) rfl ?_
  refine EL_b hP rfl rfl (fun _ => fin) (fun hf => ?_)
  have hv0 := xcc_v hv hf
  refine EL_s hP 2 (i' := 17) (ls' := [some (.inr (.inr 3000)), some (.inr (.inr 0)), some (.inr (.inr 66)), some (.inr (.inr 112)), some (.inl i), some (.inl v), some (.inl r2)]) (sk' := [.inl 0, .inr (.inr 112)]) (h' := h3) rfl ?_
  refine EL_ld hP (ty := .long) (n := 1) (a := 112) (z := 0) (sk := []) rfl rfl rfl (by decide) (by decide) ?_
  refine EL_s hP 2 (i' := 20) (ls' := [some (.inr (.inr 3000)), some (.inr (.inr 0)), some (.inr (.inr 66)), some (.inr (.inr 112)), some (.inl i), some (.inl v), some (.inl r2)]) (sk' := [.inr (.inl (w32 r2)), .inr (.inl (h3 112 0))]) (h' := h3) rfl ?_
  refine EL_s hP 1 (i' := 21) (ls' := [some (.inr (.inr 3000)), some (.inr (.inr 0)), some (.inr (.inr 66)), some (.inr (.inr 112)), some (.inl i), some (.inl v), some (.inl r2)]) (sk' := [.inl (xcmp (h3 112 0) (w32 r2))]) (h' := h3) rfl ?_
  exact EL_b hP rfl rfl (fun _ => fin) (fun hf => by rw [xcmp_e (show h3 112 0 = w32 r2 from hout hv0)] at hf; cases hf)
theorem sg_29 {P : xPr} {L : Nat} {xs : Int → Int} {Q : xO → xH → Prop} (hP : LCl cdS29 L xs Q P) {i : Int} (h0 : 0 ≤ i) (h1 : i + 6 ≤ L) (hxs : ∀ j, xr (xs j)) {b : Nat} {h : xH} (hI : Inv h) (kk : ∀ h' : xH, Inv h' → P b 35 (LSx i) [] h') : P (b + 4) 0 (LSx i) [] h := by
  refine EL_mono hP (b := 2 + b) (by omega) ?_
  refine EL_s hP 1 (i' := 1) (ls' := [some (.inr (.inr 3000)), some (.inr (.inr 0)), some (.inr (.inr 66)), some (.inr (.inr 112)), some (.inl i), none, none]) (sk' := [.inr (.inr 0)]) (h' := h) rfl ?_
  refine EL_s hP 4 (i' := 5) (ls' := [some (.inr (.inr 3000)), some (.inr (.inr 0)), some (.inr (.inr 66)), some (.inr (.inr 112)), some (.inl i), none, none]) (sk' := [.inl (i + 1), .inr (.inr 3000), .inr (.inr 0)]) (h' := h) rfl ?_
  refine EL_sl hP rfl rfl rfl (by omega) (by omega) ?_
  refine EL_s hP 1 (i' := 7) (ls' := [some (.inr (.inr 3000)), some (.inr (.inr 0)), some (.inr (.inr 66)), some (.inr (.inr 112)), some (.inl i), none, none]) (sk' := [.inr (.inr 112), .inl (xs (i + 1)), .inr (.inr 0)]) (h' := h) rfl ?_
  refine EL_hc hP (b1 := 2) (hn := 24) (as := .inr (.inr 0) :: (([xs (i + 1)] : List Int).map .inl ++ [.inr (.inr 112)])) (rest := []) rfl rfl (by decide) rfl (Nat.zero_le _) (CO2_h (zs := [xs (i + 1)]) rfl (by decide) (by decide) (CO.two (CO_leaf 32 hI (xs (i + 1)) (hxs _)))) (fun v h' hq => ?_)
  obtain ⟨hv, hq⟩ := hq
  refine EL_s hP 2 (i' := 10) (ls' := [some (.inr (.inr 3000)), some (.inr (.inr 0)), some (.inr (.inr 66)), some (.inr (.inr 112)), some (.inl i), some (.inl v), none]) (sk' := [.inr (.inr 66)]) (h' := h') rfl ?_
  refine EL_s hP 4 (i' := 14) (ls' := [some (.inr (.inr 3000)), some (.inr (.inr 0)), some (.inr (.inr 66)), some (.inr (.inr 112)), some (.inl i), some (.inl v), none]) (sk' := [.inl (i + 1), .inr (.inr 3000), .inr (.inr 66)]) (h' := h') rfl ?_
  refine EL_sl hP rfl rfl rfl (by omega) (by omega) ?_
  rw [← Nat.zero_add b]
  refine EL_call (b1 := 0) (b2 := b) (rest := []) hP rfl rfl (Nat.zero_le _) (fun e => absurd e (by decide)) hq (fun v2 h2 hz => ?_) (fun E h2 hz => by obtain ⟨-, r2, e, -⟩ := hz; cases e)
  obtain ⟨hI2, r2, e, hth, hout⟩ := hz
  cases e
  refine EL_s hP 2 (i' := 18) (ls' := [some (.inr (.inr 3000)), some (.inr (.inr 0)), some (.inr (.inr 66)), some (.inr (.inr 112)), some (.inl i), some (.inl v), some (.inl r2)]) (sk' := [.inr (.inr 66)]) (h' := h2) rfl ?_
  rw [← Nat.zero_add b]
  refine EL_call (b1 := 0) (b2 := b) (rest := []) hP rfl rfl (Nat.zero_le _) (fun e => absurd e (by decide)) (m_thr2 39 h2) (fun v3 h3 hz => ?_) (fun E h3 hz => by cases hz.1)
  obtain ⟨e, rfl⟩ := hz
  cases e
  refine EL_s hP 1 (i' := 20) (ls' := [some (.inr (.inr 3000)), some (.inr (.inr 0)), some (.inr (.inr 66)), some (.inr (.inr 112)), some (.inl i), some (.inl v), some (.inl r2)]) (sk' := [.inl v, .inl (h3 66 0)]) (h' := h3) rfl ?_
  have fin : P b 34 [some (.inr (.inr 3000)), some (.inr (.inr 0)), some (.inr (.inr 66)), some (.inr (.inr 112)), some (.inl i), some (.inl v), some (.inl r2)] [] h3 := EL_s hP 1 (i' := 35) (ls' := [some (.inr (.inr 3000)), some (.inr (.inr 0)), some (.inr (.inr 66)), some (.inr (.inr 112)), some (.inl i), some (.inl v), some (.inl r2)]) (sk' := []) (h' := h3) rfl (EL_fg hP (ls' := LSx i) rfl (fun j w hj => by
    match j, hj with
    | 0, hj => exact hj
    | 1, hj => exact hj
    | 2, hj => exact hj
    | 3, hj => exact hj
    | 4, hj => exact hj
    | 5, hj => cases hj
    | 6, hj => cases hj
    | _ + 7, hj => cases hj) (kk h3 hI2))
  refine EL_b hP rfl rfl (fun _ => ?_) (fun hf => by rw [hth, xcc_eqs] at hf; cases hf)
  refine EL_s hP 1 (i' := 24) (ls' := [some (.inr (.inr 3000)), some (.inr (.inr 0)), some (.inr (.inr 66)), some (.inr (.inr 112)), some (.inl i), some (.inl v), some (.inl r2)]) (sk' := [.inl v]) (h' := h3) rfl ?_
  refine EL_b hP rfl rfl (fun _ => fin) (fun hf => ?_)
  have hv0 := xcc_v hv hf
  refine EL_s hP 2 (i' := 27) (ls' := [some (.inr (.inr 3000)), some (.inr (.inr 0)), some (.inr (.inr 66)), some (.inr (.inr 112)), some (.inl i), some (.inl v), some (.inl r2)]) (sk' := [.inl 0, .inr (.inr 112)]) (h' := h3) rfl ?_
  refine EL_ld hP (ty := .long) (n := 1) (a := 112) (z := 0) (sk := []) rfl rfl rfl (by decide) (by decide) ?_
  refine EL_s hP 2 (i' := 30) (ls' := [some (.inr (.inr 3000)), some (.inr (.inr 0)), some (.inr (.inr 66)), some (.inr (.inr 112)), some (.inl i), some (.inl v), some (.inl r2)]) (sk' := [.inr (.inl (w32 r2)), .inr (.inl (h3 112 0))]) (h' := h3) rfl ?_
  refine EL_s hP 1 (i' := 31) (ls' := [some (.inr (.inr 3000)), some (.inr (.inr 0)), some (.inr (.inr 66)), some (.inr (.inr 112)), some (.inl i), some (.inl v), some (.inl r2)]) (sk' := [.inl (xcmp (h3 112 0) (w32 r2))]) (h' := h3) rfl ?_
  exact EL_b hP rfl rfl (fun _ => fin) (fun hf => by rw [xcmp_e (show h3 112 0 = w32 r2 from hout hv0)] at hf; cases hf)
theorem sg_30 {P : xPr} {L : Nat} {xs : Int → Int} {Q : xO → xH → Prop} (hP : LCl cdS30 L xs Q P) {i : Int} (h0 : 0 ≤ i) (h1 : i + 6 ≤ L) (hxs : ∀ j, xr (xs j)) {b : Nat} {h : xH} (hI : Inv h) (kk : ∀ h' : xH, Inv h' → P b 45 (LSx i) [] h') : P (b + 4) 0 (LSx i) [] h := by
  refine EL_mono hP (b := 3 + b) (by omega) ?_
  refine EL_s hP 1 (i' := 1) (ls' := [some (.inr (.inr 3000)), some (.inr (.inr 0)), some (.inr (.inr 66)), some (.inr (.inr 112)), some (.inl i), none, none]) (sk' := [.inr (.inr 0)]) (h' := h) rfl ?_
  refine EL_s hP 4 (i' := 5) (ls' := [some (.inr (.inr 3000)), some (.inr (.inr 0)), some (.inr (.inr 66)), some (.inr (.inr 112)), some (.inl i), none, none]) (sk' := [.inl (i + 1), .inr (.inr 3000), .inr (.inr 0)]) (h' := h) rfl ?_
  refine EL_sl hP rfl rfl rfl (by omega) (by omega) ?_
  refine EL_s hP 4 (i' := 10) (ls' := [some (.inr (.inr 3000)), some (.inr (.inr 0)), some (.inr (.inr 66)), some (.inr (.inr 112)), some (.inl i), none, none]) (sk' := [.inl (i + 2), .inr (.inr 3000), .inl (xs (i + 1)), .inr (.inr 0)]) (h' := h) rfl ?_
  refine EL_sl hP rfl rfl rfl (by omega) (by omega) ?_
  refine EL_s hP 1 (i' := 12) (ls' := [some (.inr (.inr 3000)), some (.inr (.inr 0)), some (.inr (.inr 66)), some (.inr (.inr 112)), some (.inl i), none, none]) (sk' := [.inr (.inr 112), .inl (xs (i + 2)), .inl (xs (i + 1)), .inr (.inr 0)]) (h' := h) rfl ?_
  refine EL_hc hP (b1 := 3) (hn := 25) (as := .inr (.inr 0) :: (([xs (i + 1), xs (i + 2)] : List Int).map .inl ++ [.inr (.inr 112)])) (rest := []) rfl rfl (by decide) rfl (Nat.zero_le _) (CO2_h (zs := [xs (i + 1), xs (i + 2)]) rfl (by decide) (by decide) (CO.two (CO_apart 14 hI (xs (i + 1)) (xs (i + 2)) (hxs _) (hxs _)))) (fun v h' hq => ?_)
  obtain ⟨hv, hq⟩ := hq
  refine EL_s hP 2 (i' := 15) (ls' := [some (.inr (.inr 3000)), some (.inr (.inr 0)), some (.inr (.inr 66)), some (.inr (.inr 112)), some (.inl i), some (.inl v), none]) (sk' := [.inr (.inr 66)]) (h' := h') rfl ?_
  refine EL_s hP 4 (i' := 19) (ls' := [some (.inr (.inr 3000)), some (.inr (.inr 0)), some (.inr (.inr 66)), some (.inr (.inr 112)), some (.inl i), some (.inl v), none]) (sk' := [.inl (i + 1), .inr (.inr 3000), .inr (.inr 66)]) (h' := h') rfl ?_
  refine EL_sl hP rfl rfl rfl (by omega) (by omega) ?_
  refine EL_s hP 4 (i' := 24) (ls' := [some (.inr (.inr 3000)), some (.inr (.inr 0)), some (.inr (.inr 66)), some (.inr (.inr 112)), some (.inl i), some (.inl v), none]) (sk' := [.inl (i + 2), .inr (.inr 3000), .inl (xs (i + 1)), .inr (.inr 66)]) (h' := h') rfl ?_
  refine EL_sl hP rfl rfl rfl (by omega) (by omega) ?_
  rw [← Nat.zero_add b]
  refine EL_call (b1 := 0) (b2 := b) (rest := []) hP rfl rfl (Nat.zero_le _) (fun e => absurd e (by decide)) hq (fun v2 h2 hz => ?_) (fun E h2 hz => by obtain ⟨-, r2, e, -⟩ := hz; cases e)
  obtain ⟨hI2, r2, e, hth, hout⟩ := hz
  cases e
  refine EL_s hP 2 (i' := 28) (ls' := [some (.inr (.inr 3000)), some (.inr (.inr 0)), some (.inr (.inr 66)), some (.inr (.inr 112)), some (.inl i), some (.inl v), some (.inl r2)]) (sk' := [.inr (.inr 66)]) (h' := h2) rfl ?_
  rw [← Nat.zero_add b]
  refine EL_call (b1 := 0) (b2 := b) (rest := []) hP rfl rfl (Nat.zero_le _) (fun e => absurd e (by decide)) (m_thr2 39 h2) (fun v3 h3 hz => ?_) (fun E h3 hz => by cases hz.1)
  obtain ⟨e, rfl⟩ := hz
  cases e
  refine EL_s hP 1 (i' := 30) (ls' := [some (.inr (.inr 3000)), some (.inr (.inr 0)), some (.inr (.inr 66)), some (.inr (.inr 112)), some (.inl i), some (.inl v), some (.inl r2)]) (sk' := [.inl v, .inl (h3 66 0)]) (h' := h3) rfl ?_
  have fin : P b 44 [some (.inr (.inr 3000)), some (.inr (.inr 0)), some (.inr (.inr 66)), some (.inr (.inr 112)), some (.inl i), some (.inl v), some (.inl r2)] [] h3 := EL_s hP 1 (i' := 45) (ls' := [some (.inr (.inr 3000)), some (.inr (.inr 0)), some (.inr (.inr 66)), some (.inr (.inr 112)), some (.inl i), some (.inl v), some (.inl r2)]) (sk' := []) (h' := h3) rfl (EL_fg hP (ls' := LSx i) rfl (fun j w hj => by
    match j, hj with
    | 0, hj => exact hj
    | 1, hj => exact hj
    | 2, hj => exact hj
    | 3, hj => exact hj
    | 4, hj => exact hj
    | 5, hj => cases hj
    | 6, hj => cases hj
    | _ + 7, hj => cases hj) (kk h3 hI2))
  refine EL_b hP rfl rfl (fun _ => ?_) (fun hf => by rw [hth, xcc_eqs] at hf; cases hf)
  refine EL_s hP 1 (i' := 34) (ls' := [some (.inr (.inr 3000)), some (.inr (.inr 0)), some (.inr (.inr 66)), some (.inr (.inr 112)), some (.inl i), some (.inl v), some (.inl r2)]) (sk' := [.inl v]) (h' := h3) rfl ?_
  refine EL_b hP rfl rfl (fun _ => fin) (fun hf => ?_)
  have hv0 := xcc_v hv hf
  refine EL_s hP 2 (i' := 37) (ls' := [some (.inr (.inr 3000)), some (.inr (.inr 0)), some (.inr (.inr 66)), some (.inr (.inr 112)), some (.inl i), some (.inl v), some (.inl r2)]) (sk' := [.inl 0, .inr (.inr 112)]) (h' := h3) rfl ?_
  refine EL_ld hP (ty := .long) (n := 1) (a := 112) (z := 0) (sk := []) rfl rfl rfl (by decide) (by decide) ?_
  refine EL_s hP 2 (i' := 40) (ls' := [some (.inr (.inr 3000)), some (.inr (.inr 0)), some (.inr (.inr 66)), some (.inr (.inr 112)), some (.inl i), some (.inl v), some (.inl r2)]) (sk' := [.inr (.inl (w32 r2)), .inr (.inl (h3 112 0))]) (h' := h3) rfl ?_
  refine EL_s hP 1 (i' := 41) (ls' := [some (.inr (.inr 3000)), some (.inr (.inr 0)), some (.inr (.inr 66)), some (.inr (.inr 112)), some (.inl i), some (.inl v), some (.inl r2)]) (sk' := [.inl (xcmp (h3 112 0) (w32 r2))]) (h' := h3) rfl ?_
  exact EL_b hP rfl rfl (fun _ => fin) (fun hf => by rw [xcmp_e (show h3 112 0 = w32 r2 from hout hv0)] at hf; cases hf)
theorem sg_31 {P : xPr} {L : Nat} {xs : Int → Int} {Q : xO → xH → Prop} (hP : LCl cdS31 L xs Q P) {i : Int} (h0 : 0 ≤ i) (h1 : i + 6 ≤ L) (hxs : ∀ j, xr (xs j)) {b : Nat} {h : xH} (hI : Inv h) (kk : ∀ h' : xH, Inv h' → P b 45 (LSx i) [] h') : P (b + 4) 0 (LSx i) [] h := by
  refine EL_mono hP (b := 3 + b) (by omega) ?_
  refine EL_s hP 1 (i' := 1) (ls' := [some (.inr (.inr 3000)), some (.inr (.inr 0)), some (.inr (.inr 66)), some (.inr (.inr 112)), some (.inl i), none, none]) (sk' := [.inr (.inr 0)]) (h' := h) rfl ?_
  refine EL_s hP 4 (i' := 5) (ls' := [some (.inr (.inr 3000)), some (.inr (.inr 0)), some (.inr (.inr 66)), some (.inr (.inr 112)), some (.inl i), none, none]) (sk' := [.inl (i + 1), .inr (.inr 3000), .inr (.inr 0)]) (h' := h) rfl ?_
  refine EL_sl hP rfl rfl rfl (by omega) (by omega) ?_
  refine EL_s hP 4 (i' := 10) (ls' := [some (.inr (.inr 3000)), some (.inr (.inr 0)), some (.inr (.inr 66)), some (.inr (.inr 112)), some (.inl i), none, none]) (sk' := [.inl (i + 2), .inr (.inr 3000), .inl (xs (i + 1)), .inr (.inr 0)]) (h' := h) rfl ?_
  refine EL_sl hP rfl rfl rfl (by omega) (by omega) ?_
  refine EL_s hP 1 (i' := 12) (ls' := [some (.inr (.inr 3000)), some (.inr (.inr 0)), some (.inr (.inr 66)), some (.inr (.inr 112)), some (.inl i), none, none]) (sk' := [.inr (.inr 112), .inl (xs (i + 2)), .inl (xs (i + 1)), .inr (.inr 0)]) (h' := h) rfl ?_
  refine EL_hc hP (b1 := 3) (hn := 26) (as := .inr (.inr 0) :: (([xs (i + 1), xs (i + 2)] : List Int).map .inl ++ [.inr (.inr 112)])) (rest := []) rfl rfl (by decide) rfl (Nat.zero_le _) (CO2_h (zs := [xs (i + 1), xs (i + 2)]) rfl (by decide) (by decide) (CO.two (CO_without 30 hI (xs (i + 1)) (xs (i + 2)) (hxs _) (hxs _)))) (fun v h' hq => ?_)
  obtain ⟨hv, hq⟩ := hq
  refine EL_s hP 2 (i' := 15) (ls' := [some (.inr (.inr 3000)), some (.inr (.inr 0)), some (.inr (.inr 66)), some (.inr (.inr 112)), some (.inl i), some (.inl v), none]) (sk' := [.inr (.inr 66)]) (h' := h') rfl ?_
  refine EL_s hP 4 (i' := 19) (ls' := [some (.inr (.inr 3000)), some (.inr (.inr 0)), some (.inr (.inr 66)), some (.inr (.inr 112)), some (.inl i), some (.inl v), none]) (sk' := [.inl (i + 1), .inr (.inr 3000), .inr (.inr 66)]) (h' := h') rfl ?_
  refine EL_sl hP rfl rfl rfl (by omega) (by omega) ?_
  refine EL_s hP 4 (i' := 24) (ls' := [some (.inr (.inr 3000)), some (.inr (.inr 0)), some (.inr (.inr 66)), some (.inr (.inr 112)), some (.inl i), some (.inl v), none]) (sk' := [.inl (i + 2), .inr (.inr 3000), .inl (xs (i + 1)), .inr (.inr 66)]) (h' := h') rfl ?_
  refine EL_sl hP rfl rfl rfl (by omega) (by omega) ?_
  rw [← Nat.zero_add b]
  refine EL_call (b1 := 0) (b2 := b) (rest := []) hP rfl rfl (Nat.zero_le _) (fun e => absurd e (by decide)) hq (fun v2 h2 hz => ?_) (fun E h2 hz => by obtain ⟨-, r2, e, -⟩ := hz; cases e)
  obtain ⟨hI2, r2, e, hth, hout⟩ := hz
  cases e
  refine EL_s hP 2 (i' := 28) (ls' := [some (.inr (.inr 3000)), some (.inr (.inr 0)), some (.inr (.inr 66)), some (.inr (.inr 112)), some (.inl i), some (.inl v), some (.inl r2)]) (sk' := [.inr (.inr 66)]) (h' := h2) rfl ?_
  rw [← Nat.zero_add b]
  refine EL_call (b1 := 0) (b2 := b) (rest := []) hP rfl rfl (Nat.zero_le _) (fun e => absurd e (by decide)) (m_thr2 39 h2) (fun v3 h3 hz => ?_) (fun E h3 hz => by cases hz.1)
  obtain ⟨e, rfl⟩ := hz
  cases e
  refine EL_s hP 1 (i' := 30) (ls' := [some (.inr (.inr 3000)), some (.inr (.inr 0)), some (.inr (.inr 66)), some (.inr (.inr 112)), some (.inl i), some (.inl v), some (.inl r2)]) (sk' := [.inl v, .inl (h3 66 0)]) (h' := h3) rfl ?_
  have fin : P b 44 [some (.inr (.inr 3000)), some (.inr (.inr 0)), some (.inr (.inr 66)), some (.inr (.inr 112)), some (.inl i), some (.inl v), some (.inl r2)] [] h3 := EL_s hP 1 (i' := 45) (ls' := [some (.inr (.inr 3000)), some (.inr (.inr 0)), some (.inr (.inr 66)), some (.inr (.inr 112)), some (.inl i), some (.inl v), some (.inl r2)]) (sk' := []) (h' := h3) rfl (EL_fg hP (ls' := LSx i) rfl (fun j w hj => by
    match j, hj with
    | 0, hj => exact hj
    | 1, hj => exact hj
    | 2, hj => exact hj
    | 3, hj => exact hj
    | 4, hj => exact hj
    | 5, hj => cases hj
    | 6, hj => cases hj
    | _ + 7, hj => cases hj) (kk h3 hI2))
  refine EL_b hP rfl rfl (fun _ => ?_) (fun hf => by rw [hth, xcc_eqs] at hf; cases hf)
  refine EL_s hP 1 (i' := 34) (ls' := [some (.inr (.inr 3000)), some (.inr (.inr 0)), some (.inr (.inr 66)), some (.inr (.inr 112)), some (.inl i), some (.inl v), some (.inl r2)]) (sk' := [.inl v]) (h' := h3) rfl ?_
  refine EL_b hP rfl rfl (fun _ => fin) (fun hf => ?_)
  have hv0 := xcc_v hv hf
  refine EL_s hP 2 (i' := 37) (ls' := [some (.inr (.inr 3000)), some (.inr (.inr 0)), some (.inr (.inr 66)), some (.inr (.inr 112)), some (.inl i), some (.inl v), some (.inl r2)]) (sk' := [.inl 0, .inr (.inr 112)]) (h' := h3) rfl ?_
  refine EL_ld hP (ty := .long) (n := 1) (a := 112) (z := 0) (sk := []) rfl rfl rfl (by decide) (by decide) ?_
  refine EL_s hP 2 (i' := 40) (ls' := [some (.inr (.inr 3000)), some (.inr (.inr 0)), some (.inr (.inr 66)), some (.inr (.inr 112)), some (.inl i), some (.inl v), some (.inl r2)]) (sk' := [.inr (.inl (w32 r2)), .inr (.inl (h3 112 0))]) (h' := h3) rfl ?_
  refine EL_s hP 1 (i' := 41) (ls' := [some (.inr (.inr 3000)), some (.inr (.inr 0)), some (.inr (.inr 66)), some (.inr (.inr 112)), some (.inl i), some (.inl v), some (.inl r2)]) (sk' := [.inl (xcmp (h3 112 0) (w32 r2))]) (h' := h3) rfl ?_
  exact EL_b hP rfl rfl (fun _ => fin) (fun hf => by rw [xcmp_e (show h3 112 0 = w32 r2 from hout hv0)] at hf; cases hf)
theorem sg_32 {P : xPr} {L : Nat} {xs : Int → Int} {Q : xO → xH → Prop} (hP : LCl cdS32 L xs Q P) {i : Int} (h0 : 0 ≤ i) (h1 : i + 6 ≤ L) (hxs : ∀ j, xr (xs j)) {b : Nat} {h : xH} (hI : Inv h) (kk : ∀ h' : xH, Inv h' → P b 35 (LSx i) [] h') : P (b + 4) 0 (LSx i) [] h := by
  refine EL_mono hP (b := 2 + b) (by omega) ?_
  refine EL_s hP 1 (i' := 1) (ls' := [some (.inr (.inr 3000)), some (.inr (.inr 0)), some (.inr (.inr 66)), some (.inr (.inr 112)), some (.inl i), none, none]) (sk' := [.inr (.inr 0)]) (h' := h) rfl ?_
  refine EL_s hP 4 (i' := 5) (ls' := [some (.inr (.inr 3000)), some (.inr (.inr 0)), some (.inr (.inr 66)), some (.inr (.inr 112)), some (.inl i), none, none]) (sk' := [.inl (i + 1), .inr (.inr 3000), .inr (.inr 0)]) (h' := h) rfl ?_
  refine EL_sl hP rfl rfl rfl (by omega) (by omega) ?_
  refine EL_s hP 1 (i' := 7) (ls' := [some (.inr (.inr 3000)), some (.inr (.inr 0)), some (.inr (.inr 66)), some (.inr (.inr 112)), some (.inl i), none, none]) (sk' := [.inr (.inr 112), .inl (xs (i + 1)), .inr (.inr 0)]) (h' := h) rfl ?_
  refine EL_hc hP (b1 := 2) (hn := 27) (as := .inr (.inr 0) :: (([xs (i + 1)] : List Int).map .inl ++ [.inr (.inr 112)])) (rest := []) rfl rfl (by decide) rfl (Nat.zero_le _) (CO2_h (zs := [xs (i + 1)]) rfl (by decide) (by decide) (CO.two (CO_ties 29 hI (xs (i + 1)) (hxs _)))) (fun v h' hq => ?_)
  obtain ⟨hv, hq⟩ := hq
  refine EL_s hP 2 (i' := 10) (ls' := [some (.inr (.inr 3000)), some (.inr (.inr 0)), some (.inr (.inr 66)), some (.inr (.inr 112)), some (.inl i), some (.inl v), none]) (sk' := [.inr (.inr 66)]) (h' := h') rfl ?_
  refine EL_s hP 4 (i' := 14) (ls' := [some (.inr (.inr 3000)), some (.inr (.inr 0)), some (.inr (.inr 66)), some (.inr (.inr 112)), some (.inl i), some (.inl v), none]) (sk' := [.inl (i + 1), .inr (.inr 3000), .inr (.inr 66)]) (h' := h') rfl ?_
  refine EL_sl hP rfl rfl rfl (by omega) (by omega) ?_
  rw [← Nat.zero_add b]
  refine EL_call (b1 := 0) (b2 := b) (rest := []) hP rfl rfl (Nat.zero_le _) (fun e => absurd e (by decide)) hq (fun v2 h2 hz => ?_) (fun E h2 hz => by obtain ⟨-, r2, e, -⟩ := hz; cases e)
  obtain ⟨hI2, r2, e, hth, hout⟩ := hz
  cases e
  refine EL_s hP 2 (i' := 18) (ls' := [some (.inr (.inr 3000)), some (.inr (.inr 0)), some (.inr (.inr 66)), some (.inr (.inr 112)), some (.inl i), some (.inl v), some (.inl r2)]) (sk' := [.inr (.inr 66)]) (h' := h2) rfl ?_
  rw [← Nat.zero_add b]
  refine EL_call (b1 := 0) (b2 := b) (rest := []) hP rfl rfl (Nat.zero_le _) (fun e => absurd e (by decide)) (m_thr2 39 h2) (fun v3 h3 hz => ?_) (fun E h3 hz => by cases hz.1)
  obtain ⟨e, rfl⟩ := hz
  cases e
  refine EL_s hP 1 (i' := 20) (ls' := [some (.inr (.inr 3000)), some (.inr (.inr 0)), some (.inr (.inr 66)), some (.inr (.inr 112)), some (.inl i), some (.inl v), some (.inl r2)]) (sk' := [.inl v, .inl (h3 66 0)]) (h' := h3) rfl ?_
  have fin : P b 34 [some (.inr (.inr 3000)), some (.inr (.inr 0)), some (.inr (.inr 66)), some (.inr (.inr 112)), some (.inl i), some (.inl v), some (.inl r2)] [] h3 := EL_s hP 1 (i' := 35) (ls' := [some (.inr (.inr 3000)), some (.inr (.inr 0)), some (.inr (.inr 66)), some (.inr (.inr 112)), some (.inl i), some (.inl v), some (.inl r2)]) (sk' := []) (h' := h3) rfl (EL_fg hP (ls' := LSx i) rfl (fun j w hj => by
    match j, hj with
    | 0, hj => exact hj
    | 1, hj => exact hj
    | 2, hj => exact hj
    | 3, hj => exact hj
    | 4, hj => exact hj
    | 5, hj => cases hj
    | 6, hj => cases hj
    | _ + 7, hj => cases hj) (kk h3 hI2))
  refine EL_b hP rfl rfl (fun _ => ?_) (fun hf => by rw [hth, xcc_eqs] at hf; cases hf)
  refine EL_s hP 1 (i' := 24) (ls' := [some (.inr (.inr 3000)), some (.inr (.inr 0)), some (.inr (.inr 66)), some (.inr (.inr 112)), some (.inl i), some (.inl v), some (.inl r2)]) (sk' := [.inl v]) (h' := h3) rfl ?_
  refine EL_b hP rfl rfl (fun _ => fin) (fun hf => ?_)
  have hv0 := xcc_v hv hf
  refine EL_s hP 2 (i' := 27) (ls' := [some (.inr (.inr 3000)), some (.inr (.inr 0)), some (.inr (.inr 66)), some (.inr (.inr 112)), some (.inl i), some (.inl v), some (.inl r2)]) (sk' := [.inl 0, .inr (.inr 112)]) (h' := h3) rfl ?_
  refine EL_ld hP (ty := .long) (n := 1) (a := 112) (z := 0) (sk := []) rfl rfl rfl (by decide) (by decide) ?_
  refine EL_s hP 2 (i' := 30) (ls' := [some (.inr (.inr 3000)), some (.inr (.inr 0)), some (.inr (.inr 66)), some (.inr (.inr 112)), some (.inl i), some (.inl v), some (.inl r2)]) (sk' := [.inr (.inl (w32 r2)), .inr (.inl (h3 112 0))]) (h' := h3) rfl ?_
  refine EL_s hP 1 (i' := 31) (ls' := [some (.inr (.inr 3000)), some (.inr (.inr 0)), some (.inr (.inr 66)), some (.inr (.inr 112)), some (.inl i), some (.inl v), some (.inl r2)]) (sk' := [.inl (xcmp (h3 112 0) (w32 r2))]) (h' := h3) rfl ?_
  exact EL_b hP rfl rfl (fun _ => fin) (fun hf => by rw [xcmp_e (show h3 112 0 = w32 r2 from hout hv0)] at hf; cases hf)
theorem sg_33 {P : xPr} {L : Nat} {xs : Int → Int} {Q : xO → xH → Prop} (hP : LCl cdS33 L xs Q P) {i : Int} (h0 : 0 ≤ i) (h1 : i + 6 ≤ L) (hxs : ∀ j, xr (xs j)) {b : Nat} {h : xH} (hI : Inv h) (kk : ∀ h' : xH, Inv h' → P b 25 (LSx i) [] h') : P (b + 4) 0 (LSx i) [] h := by
  refine EL_mono hP (b := 1 + b) (by omega) ?_
  refine EL_s hP 1 (i' := 1) (ls' := [some (.inr (.inr 3000)), some (.inr (.inr 0)), some (.inr (.inr 66)), some (.inr (.inr 112)), some (.inl i), none, none]) (sk' := [.inr (.inr 0)]) (h' := h) rfl ?_
  refine EL_s hP 1 (i' := 2) (ls' := [some (.inr (.inr 3000)), some (.inr (.inr 0)), some (.inr (.inr 66)), some (.inr (.inr 112)), some (.inl i), none, none]) (sk' := [.inr (.inr 112), .inr (.inr 0)]) (h' := h) rfl ?_
  refine EL_hc hP (b1 := 1) (hn := 28) (as := .inr (.inr 0) :: (([] : List Int).map .inl ++ [.inr (.inr 112)])) (rest := []) rfl rfl (by decide) rfl (Nat.zero_le _) (CO2_h (zs := []) rfl (by decide) (by decide) (CO.two (CO_needed 30 hI  ))) (fun v h' hq => ?_)
  obtain ⟨hv, hq⟩ := hq
  refine EL_s hP 2 (i' := 5) (ls' := [some (.inr (.inr 3000)), some (.inr (.inr 0)), some (.inr (.inr 66)), some (.inr (.inr 112)), some (.inl i), some (.inl v), none]) (sk' := [.inr (.inr 66)]) (h' := h') rfl ?_
  rw [← Nat.zero_add b]
  refine EL_call (b1 := 0) (b2 := b) (rest := []) hP rfl rfl (Nat.zero_le _) (fun e => absurd e (by decide)) hq (fun v2 h2 hz => ?_) (fun E h2 hz => by obtain ⟨-, r2, e, -⟩ := hz; cases e)
  obtain ⟨hI2, r2, e, hth, hout⟩ := hz
  cases e
  refine EL_s hP 2 (i' := 8) (ls' := [some (.inr (.inr 3000)), some (.inr (.inr 0)), some (.inr (.inr 66)), some (.inr (.inr 112)), some (.inl i), some (.inl v), some (.inl r2)]) (sk' := [.inr (.inr 66)]) (h' := h2) rfl ?_
  rw [← Nat.zero_add b]
  refine EL_call (b1 := 0) (b2 := b) (rest := []) hP rfl rfl (Nat.zero_le _) (fun e => absurd e (by decide)) (m_thr2 39 h2) (fun v3 h3 hz => ?_) (fun E h3 hz => by cases hz.1)
  obtain ⟨e, rfl⟩ := hz
  cases e
  refine EL_s hP 1 (i' := 10) (ls' := [some (.inr (.inr 3000)), some (.inr (.inr 0)), some (.inr (.inr 66)), some (.inr (.inr 112)), some (.inl i), some (.inl v), some (.inl r2)]) (sk' := [.inl v, .inl (h3 66 0)]) (h' := h3) rfl ?_
  have fin : P b 24 [some (.inr (.inr 3000)), some (.inr (.inr 0)), some (.inr (.inr 66)), some (.inr (.inr 112)), some (.inl i), some (.inl v), some (.inl r2)] [] h3 := EL_s hP 1 (i' := 25) (ls' := [some (.inr (.inr 3000)), some (.inr (.inr 0)), some (.inr (.inr 66)), some (.inr (.inr 112)), some (.inl i), some (.inl v), some (.inl r2)]) (sk' := []) (h' := h3) rfl (EL_fg hP (ls' := LSx i) rfl (fun j w hj => by
    match j, hj with
    | 0, hj => exact hj
    | 1, hj => exact hj
    | 2, hj => exact hj
    | 3, hj => exact hj
    | 4, hj => exact hj
    | 5, hj => cases hj
    | 6, hj => cases hj
    | _ + 7, hj => cases hj) (kk h3 hI2))
  refine EL_b hP rfl rfl (fun _ => ?_) (fun hf => by rw [hth, xcc_eqs] at hf; cases hf)
  refine EL_s hP 1 (i' := 14) (ls' := [some (.inr (.inr 3000)), some (.inr (.inr 0)), some (.inr (.inr 66)), some (.inr (.inr 112)), some (.inl i), some (.inl v), some (.inl r2)]) (sk' := [.inl v]) (h' := h3) rfl ?_
  refine EL_b hP rfl rfl (fun _ => fin) (fun hf => ?_)
  have hv0 := xcc_v hv hf
  refine EL_s hP 2 (i' := 17) (ls' := [some (.inr (.inr 3000)), some (.inr (.inr 0)), some (.inr (.inr 66)), some (.inr (.inr 112)), some (.inl i), some (.inl v), some (.inl r2)]) (sk' := [.inl 0, .inr (.inr 112)]) (h' := h3) rfl ?_
  refine EL_ld hP (ty := .long) (n := 1) (a := 112) (z := 0) (sk := []) rfl rfl rfl (by decide) (by decide) ?_
  refine EL_s hP 2 (i' := 20) (ls' := [some (.inr (.inr 3000)), some (.inr (.inr 0)), some (.inr (.inr 66)), some (.inr (.inr 112)), some (.inl i), some (.inl v), some (.inl r2)]) (sk' := [.inr (.inl (w32 r2)), .inr (.inl (h3 112 0))]) (h' := h3) rfl ?_
  refine EL_s hP 1 (i' := 21) (ls' := [some (.inr (.inr 3000)), some (.inr (.inr 0)), some (.inr (.inr 66)), some (.inr (.inr 112)), some (.inl i), some (.inl v), some (.inl r2)]) (sk' := [.inl (xcmp (h3 112 0) (w32 r2))]) (h' := h3) rfl ?_
  exact EL_b hP rfl rfl (fun _ => fin) (fun hf => by rw [xcmp_e (show h3 112 0 = w32 r2 from hout hv0)] at hf; cases hf)
theorem sg_34 {P : xPr} {L : Nat} {xs : Int → Int} {Q : xO → xH → Prop} (hP : LCl cdS34 L xs Q P) {i : Int} (h0 : 0 ≤ i) (h1 : i + 6 ≤ L) (hxs : ∀ j, xr (xs j)) {b : Nat} {h : xH} (hI : Inv h) (kk : ∀ h' : xH, Inv h' → P b 35 (LSx i) [] h') : P (b + 4) 0 (LSx i) [] h := by
  refine EL_mono hP (b := 2 + b) (by omega) ?_
  refine EL_s hP 1 (i' := 1) (ls' := [some (.inr (.inr 3000)), some (.inr (.inr 0)), some (.inr (.inr 66)), some (.inr (.inr 112)), some (.inl i), none, none]) (sk' := [.inr (.inr 0)]) (h' := h) rfl ?_
  refine EL_s hP 4 (i' := 5) (ls' := [some (.inr (.inr 3000)), some (.inr (.inr 0)), some (.inr (.inr 66)), some (.inr (.inr 112)), some (.inl i), none, none]) (sk' := [.inl (i + 1), .inr (.inr 3000), .inr (.inr 0)]) (h' := h) rfl ?_
  refine EL_sl hP rfl rfl rfl (by omega) (by omega) ?_
  refine EL_s hP 1 (i' := 7) (ls' := [some (.inr (.inr 3000)), some (.inr (.inr 0)), some (.inr (.inr 66)), some (.inr (.inr 112)), some (.inl i), none, none]) (sk' := [.inr (.inr 112), .inl (xs (i + 1)), .inr (.inr 0)]) (h' := h) rfl ?_
  refine EL_hc hP (b1 := 2) (hn := 29) (as := .inr (.inr 0) :: (([xs (i + 1)] : List Int).map .inl ++ [.inr (.inr 112)])) (rest := []) rfl rfl (by decide) rfl (Nat.zero_le _) (CO2_h (zs := [xs (i + 1)]) rfl (by decide) (by decide) (CO.two (CO_solvedUses 32 hI (xs (i + 1)) (hxs _)))) (fun v h' hq => ?_)
  obtain ⟨hv, hq⟩ := hq
  refine EL_s hP 2 (i' := 10) (ls' := [some (.inr (.inr 3000)), some (.inr (.inr 0)), some (.inr (.inr 66)), some (.inr (.inr 112)), some (.inl i), some (.inl v), none]) (sk' := [.inr (.inr 66)]) (h' := h') rfl ?_
  refine EL_s hP 4 (i' := 14) (ls' := [some (.inr (.inr 3000)), some (.inr (.inr 0)), some (.inr (.inr 66)), some (.inr (.inr 112)), some (.inl i), some (.inl v), none]) (sk' := [.inl (i + 1), .inr (.inr 3000), .inr (.inr 66)]) (h' := h') rfl ?_
  refine EL_sl hP rfl rfl rfl (by omega) (by omega) ?_
  rw [← Nat.zero_add b]
  refine EL_call (b1 := 0) (b2 := b) (rest := []) hP rfl rfl (Nat.zero_le _) (fun e => absurd e (by decide)) hq (fun v2 h2 hz => ?_) (fun E h2 hz => by obtain ⟨-, r2, e, -⟩ := hz; cases e)
  obtain ⟨hI2, r2, e, hth, hout⟩ := hz
  cases e
  refine EL_s hP 2 (i' := 18) (ls' := [some (.inr (.inr 3000)), some (.inr (.inr 0)), some (.inr (.inr 66)), some (.inr (.inr 112)), some (.inl i), some (.inl v), some (.inl r2)]) (sk' := [.inr (.inr 66)]) (h' := h2) rfl ?_
  rw [← Nat.zero_add b]
  refine EL_call (b1 := 0) (b2 := b) (rest := []) hP rfl rfl (Nat.zero_le _) (fun e => absurd e (by decide)) (m_thr2 39 h2) (fun v3 h3 hz => ?_) (fun E h3 hz => by cases hz.1)
  obtain ⟨e, rfl⟩ := hz
  cases e
  refine EL_s hP 1 (i' := 20) (ls' := [some (.inr (.inr 3000)), some (.inr (.inr 0)), some (.inr (.inr 66)), some (.inr (.inr 112)), some (.inl i), some (.inl v), some (.inl r2)]) (sk' := [.inl v, .inl (h3 66 0)]) (h' := h3) rfl ?_
  have fin : P b 34 [some (.inr (.inr 3000)), some (.inr (.inr 0)), some (.inr (.inr 66)), some (.inr (.inr 112)), some (.inl i), some (.inl v), some (.inl r2)] [] h3 := EL_s hP 1 (i' := 35) (ls' := [some (.inr (.inr 3000)), some (.inr (.inr 0)), some (.inr (.inr 66)), some (.inr (.inr 112)), some (.inl i), some (.inl v), some (.inl r2)]) (sk' := []) (h' := h3) rfl (EL_fg hP (ls' := LSx i) rfl (fun j w hj => by
    match j, hj with
    | 0, hj => exact hj
    | 1, hj => exact hj
    | 2, hj => exact hj
    | 3, hj => exact hj
    | 4, hj => exact hj
    | 5, hj => cases hj
    | 6, hj => cases hj
    | _ + 7, hj => cases hj) (kk h3 hI2))
  refine EL_b hP rfl rfl (fun _ => ?_) (fun hf => by rw [hth, xcc_eqs] at hf; cases hf)
  refine EL_s hP 1 (i' := 24) (ls' := [some (.inr (.inr 3000)), some (.inr (.inr 0)), some (.inr (.inr 66)), some (.inr (.inr 112)), some (.inl i), some (.inl v), some (.inl r2)]) (sk' := [.inl v]) (h' := h3) rfl ?_
  refine EL_b hP rfl rfl (fun _ => fin) (fun hf => ?_)
  have hv0 := xcc_v hv hf
  refine EL_s hP 2 (i' := 27) (ls' := [some (.inr (.inr 3000)), some (.inr (.inr 0)), some (.inr (.inr 66)), some (.inr (.inr 112)), some (.inl i), some (.inl v), some (.inl r2)]) (sk' := [.inl 0, .inr (.inr 112)]) (h' := h3) rfl ?_
  refine EL_ld hP (ty := .long) (n := 1) (a := 112) (z := 0) (sk := []) rfl rfl rfl (by decide) (by decide) ?_
  refine EL_s hP 2 (i' := 30) (ls' := [some (.inr (.inr 3000)), some (.inr (.inr 0)), some (.inr (.inr 66)), some (.inr (.inr 112)), some (.inl i), some (.inl v), some (.inl r2)]) (sk' := [.inr (.inl (w32 r2)), .inr (.inl (h3 112 0))]) (h' := h3) rfl ?_
  refine EL_s hP 1 (i' := 31) (ls' := [some (.inr (.inr 3000)), some (.inr (.inr 0)), some (.inr (.inr 66)), some (.inr (.inr 112)), some (.inl i), some (.inl v), some (.inl r2)]) (sk' := [.inl (xcmp (h3 112 0) (w32 r2))]) (h' := h3) rfl ?_
  exact EL_b hP rfl rfl (fun _ => fin) (fun hf => by rw [xcmp_e (show h3 112 0 = w32 r2 from hout hv0)] at hf; cases hf)
theorem sg_35 {P : xPr} {L : Nat} {xs : Int → Int} {Q : xO → xH → Prop} (hP : LCl cdS35 L xs Q P) {i : Int} (h0 : 0 ≤ i) (h1 : i + 6 ≤ L) (hxs : ∀ j, xr (xs j)) {b : Nat} {h : xH} (hI : Inv h) (kk : ∀ h' : xH, Inv h' → P b 65 (LSx i) [] h') : P (b + 4) 0 (LSx i) [] h := by
  refine EL_mono hP (b := 2 + b) (by omega) ?_
  refine EL_s hP 1 (i' := 1) (ls' := [some (.inr (.inr 3000)), some (.inr (.inr 0)), some (.inr (.inr 66)), some (.inr (.inr 112)), some (.inl i), none, none]) (sk' := [.inr (.inr 0)]) (h' := h) rfl ?_
  refine EL_s hP 4 (i' := 5) (ls' := [some (.inr (.inr 3000)), some (.inr (.inr 0)), some (.inr (.inr 66)), some (.inr (.inr 112)), some (.inl i), none, none]) (sk' := [.inl (i + 1), .inr (.inr 3000), .inr (.inr 0)]) (h' := h) rfl ?_
  refine EL_sl hP rfl rfl rfl (by omega) (by omega) ?_
  refine EL_s hP 4 (i' := 10) (ls' := [some (.inr (.inr 3000)), some (.inr (.inr 0)), some (.inr (.inr 66)), some (.inr (.inr 112)), some (.inl i), none, none]) (sk' := [.inl (i + 2), .inr (.inr 3000), .inl (xs (i + 1)), .inr (.inr 0)]) (h' := h) rfl ?_
  refine EL_sl hP rfl rfl rfl (by omega) (by omega) ?_
  refine EL_s hP 4 (i' := 15) (ls' := [some (.inr (.inr 3000)), some (.inr (.inr 0)), some (.inr (.inr 66)), some (.inr (.inr 112)), some (.inl i), none, none]) (sk' := [.inl (i + 3), .inr (.inr 3000), .inl (xs (i + 2)), .inl (xs (i + 1)), .inr (.inr 0)]) (h' := h) rfl ?_
  refine EL_sl hP rfl rfl rfl (by omega) (by omega) ?_
  refine EL_s hP 4 (i' := 20) (ls' := [some (.inr (.inr 3000)), some (.inr (.inr 0)), some (.inr (.inr 66)), some (.inr (.inr 112)), some (.inl i), none, none]) (sk' := [.inl (i + 4), .inr (.inr 3000), .inl (xs (i + 3)), .inl (xs (i + 2)), .inl (xs (i + 1)), .inr (.inr 0)]) (h' := h) rfl ?_
  refine EL_sl hP rfl rfl rfl (by omega) (by omega) ?_
  refine EL_s hP 1 (i' := 22) (ls' := [some (.inr (.inr 3000)), some (.inr (.inr 0)), some (.inr (.inr 66)), some (.inr (.inr 112)), some (.inl i), none, none]) (sk' := [.inr (.inr 112), .inl (xs (i + 4)), .inl (xs (i + 3)), .inl (xs (i + 2)), .inl (xs (i + 1)), .inr (.inr 0)]) (h' := h) rfl ?_
  refine EL_hc hP (b1 := 2) (hn := 30) (as := .inr (.inr 0) :: (([xs (i + 1), xs (i + 2), xs (i + 3), xs (i + 4)] : List Int).map .inl ++ [.inr (.inr 112)])) (rest := []) rfl rfl (by decide) rfl (Nat.zero_le _) (CO2_h (zs := [xs (i + 1), xs (i + 2), xs (i + 3), xs (i + 4)]) rfl (by decide) (by decide) (CO.two (CO_way 14 hI (xs (i + 1)) (xs (i + 2)) (xs (i + 3)) (xs (i + 4)) (hxs _) (hxs _) (hxs _) (hxs _)))) (fun v h' hq => ?_)
  obtain ⟨hv, hq⟩ := hq
  refine EL_s hP 2 (i' := 25) (ls' := [some (.inr (.inr 3000)), some (.inr (.inr 0)), some (.inr (.inr 66)), some (.inr (.inr 112)), some (.inl i), some (.inl v), none]) (sk' := [.inr (.inr 66)]) (h' := h') rfl ?_
  refine EL_s hP 4 (i' := 29) (ls' := [some (.inr (.inr 3000)), some (.inr (.inr 0)), some (.inr (.inr 66)), some (.inr (.inr 112)), some (.inl i), some (.inl v), none]) (sk' := [.inl (i + 1), .inr (.inr 3000), .inr (.inr 66)]) (h' := h') rfl ?_
  refine EL_sl hP rfl rfl rfl (by omega) (by omega) ?_
  refine EL_s hP 4 (i' := 34) (ls' := [some (.inr (.inr 3000)), some (.inr (.inr 0)), some (.inr (.inr 66)), some (.inr (.inr 112)), some (.inl i), some (.inl v), none]) (sk' := [.inl (i + 2), .inr (.inr 3000), .inl (xs (i + 1)), .inr (.inr 66)]) (h' := h') rfl ?_
  refine EL_sl hP rfl rfl rfl (by omega) (by omega) ?_
  refine EL_s hP 4 (i' := 39) (ls' := [some (.inr (.inr 3000)), some (.inr (.inr 0)), some (.inr (.inr 66)), some (.inr (.inr 112)), some (.inl i), some (.inl v), none]) (sk' := [.inl (i + 3), .inr (.inr 3000), .inl (xs (i + 2)), .inl (xs (i + 1)), .inr (.inr 66)]) (h' := h') rfl ?_
  refine EL_sl hP rfl rfl rfl (by omega) (by omega) ?_
  refine EL_s hP 4 (i' := 44) (ls' := [some (.inr (.inr 3000)), some (.inr (.inr 0)), some (.inr (.inr 66)), some (.inr (.inr 112)), some (.inl i), some (.inl v), none]) (sk' := [.inl (i + 4), .inr (.inr 3000), .inl (xs (i + 3)), .inl (xs (i + 2)), .inl (xs (i + 1)), .inr (.inr 66)]) (h' := h') rfl ?_
  refine EL_sl hP rfl rfl rfl (by omega) (by omega) ?_
  rw [← Nat.zero_add b]
  refine EL_call (b1 := 0) (b2 := b) (rest := []) hP rfl rfl (Nat.zero_le _) (fun e => absurd e (by decide)) hq (fun v2 h2 hz => ?_) (fun E h2 hz => by obtain ⟨-, r2, e, -⟩ := hz; cases e)
  obtain ⟨hI2, r2, e, hth, hout⟩ := hz
  cases e
  refine EL_s hP 2 (i' := 48) (ls' := [some (.inr (.inr 3000)), some (.inr (.inr 0)), some (.inr (.inr 66)), some (.inr (.inr 112)), some (.inl i), some (.inl v), some (.inl r2)]) (sk' := [.inr (.inr 66)]) (h' := h2) rfl ?_
  rw [← Nat.zero_add b]
  refine EL_call (b1 := 0) (b2 := b) (rest := []) hP rfl rfl (Nat.zero_le _) (fun e => absurd e (by decide)) (m_thr2 39 h2) (fun v3 h3 hz => ?_) (fun E h3 hz => by cases hz.1)
  obtain ⟨e, rfl⟩ := hz
  cases e
  refine EL_s hP 1 (i' := 50) (ls' := [some (.inr (.inr 3000)), some (.inr (.inr 0)), some (.inr (.inr 66)), some (.inr (.inr 112)), some (.inl i), some (.inl v), some (.inl r2)]) (sk' := [.inl v, .inl (h3 66 0)]) (h' := h3) rfl ?_
  have fin : P b 64 [some (.inr (.inr 3000)), some (.inr (.inr 0)), some (.inr (.inr 66)), some (.inr (.inr 112)), some (.inl i), some (.inl v), some (.inl r2)] [] h3 := EL_s hP 1 (i' := 65) (ls' := [some (.inr (.inr 3000)), some (.inr (.inr 0)), some (.inr (.inr 66)), some (.inr (.inr 112)), some (.inl i), some (.inl v), some (.inl r2)]) (sk' := []) (h' := h3) rfl (EL_fg hP (ls' := LSx i) rfl (fun j w hj => by
    match j, hj with
    | 0, hj => exact hj
    | 1, hj => exact hj
    | 2, hj => exact hj
    | 3, hj => exact hj
    | 4, hj => exact hj
    | 5, hj => cases hj
    | 6, hj => cases hj
    | _ + 7, hj => cases hj) (kk h3 hI2))
  refine EL_b hP rfl rfl (fun _ => ?_) (fun hf => by rw [hth, xcc_eqs] at hf; cases hf)
  refine EL_s hP 1 (i' := 54) (ls' := [some (.inr (.inr 3000)), some (.inr (.inr 0)), some (.inr (.inr 66)), some (.inr (.inr 112)), some (.inl i), some (.inl v), some (.inl r2)]) (sk' := [.inl v]) (h' := h3) rfl ?_
  refine EL_b hP rfl rfl (fun _ => fin) (fun hf => ?_)
  have hv0 := xcc_v hv hf
  refine EL_s hP 2 (i' := 57) (ls' := [some (.inr (.inr 3000)), some (.inr (.inr 0)), some (.inr (.inr 66)), some (.inr (.inr 112)), some (.inl i), some (.inl v), some (.inl r2)]) (sk' := [.inl 0, .inr (.inr 112)]) (h' := h3) rfl ?_
  refine EL_ld hP (ty := .long) (n := 1) (a := 112) (z := 0) (sk := []) rfl rfl rfl (by decide) (by decide) ?_
  refine EL_s hP 2 (i' := 60) (ls' := [some (.inr (.inr 3000)), some (.inr (.inr 0)), some (.inr (.inr 66)), some (.inr (.inr 112)), some (.inl i), some (.inl v), some (.inl r2)]) (sk' := [.inr (.inl (w32 r2)), .inr (.inl (h3 112 0))]) (h' := h3) rfl ?_
  refine EL_s hP 1 (i' := 61) (ls' := [some (.inr (.inr 3000)), some (.inr (.inr 0)), some (.inr (.inr 66)), some (.inr (.inr 112)), some (.inl i), some (.inl v), some (.inl r2)]) (sk' := [.inl (xcmp (h3 112 0) (w32 r2))]) (h' := h3) rfl ?_
  exact EL_b hP rfl rfl (fun _ => fin) (fun hf => by rw [xcmp_e (show h3 112 0 = w32 r2 from hout hv0)] at hf; cases hf)
theorem sg_36 {P : xPr} {L : Nat} {xs : Int → Int} {Q : xO → xH → Prop} (hP : LCl cdS36 L xs Q P) {i : Int} (h0 : 0 ≤ i) (h1 : i + 6 ≤ L) (hxs : ∀ j, xr (xs j)) {b : Nat} {h : xH} (hI : Inv h) (kk : ∀ h' : xH, Inv h' → P b 38 (LSx i) [] h') : P (b + 4) 0 (LSx i) [] h := by
  refine EL_mono hP (b := 2 + b) (by omega) ?_
  refine EL_s hP 1 (i' := 1) (ls' := [some (.inr (.inr 3000)), some (.inr (.inr 0)), some (.inr (.inr 66)), some (.inr (.inr 112)), some (.inl i), none, none]) (sk' := [.inr (.inr 0)]) (h' := h) rfl ?_
  refine EL_s hP 4 (i' := 5) (ls' := [some (.inr (.inr 3000)), some (.inr (.inr 0)), some (.inr (.inr 66)), some (.inr (.inr 112)), some (.inl i), none, none]) (sk' := [.inl (i + 1), .inr (.inr 3000), .inr (.inr 0)]) (h' := h) rfl ?_
  refine EL_sl hP rfl rfl rfl (by omega) (by omega) ?_
  refine EL_s hP 1 (i' := 7) (ls' := [some (.inr (.inr 3000)), some (.inr (.inr 0)), some (.inr (.inr 66)), some (.inr (.inr 112)), some (.inl i), none, none]) (sk' := [.inr (.inr 112), .inl (xs (i + 1)), .inr (.inr 0)]) (h' := h) rfl ?_
  refine EL_hc hP (b1 := 2) (hn := 31) (as := .inr (.inr 0) :: (([xs (i + 1)] : List Int).map .inl ++ [.inr (.inr 112)])) (rest := []) rfl rfl (by decide) rfl (Nat.zero_le _) (CO2_h (zs := [xs (i + 1)]) rfl (by decide) (by decide) (CO.two (CO_isIdle 30 hI (xs (i + 1)) (hxs _)))) (fun v h' hq => ?_)
  obtain ⟨hv, hq⟩ := hq
  refine EL_s hP 2 (i' := 10) (ls' := [some (.inr (.inr 3000)), some (.inr (.inr 0)), some (.inr (.inr 66)), some (.inr (.inr 112)), some (.inl i), some (.inl v), none]) (sk' := [.inr (.inr 66)]) (h' := h') rfl ?_
  refine EL_s hP 4 (i' := 14) (ls' := [some (.inr (.inr 3000)), some (.inr (.inr 0)), some (.inr (.inr 66)), some (.inr (.inr 112)), some (.inl i), some (.inl v), none]) (sk' := [.inl (i + 1), .inr (.inr 3000), .inr (.inr 66)]) (h' := h') rfl ?_
  refine EL_sl hP rfl rfl rfl (by omega) (by omega) ?_
  rw [← Nat.zero_add b]
  refine EL_call (b1 := 0) (b2 := b) (rest := []) hP rfl rfl (Nat.zero_le _) (fun e => absurd e (by decide)) hq (fun v2 h2 hz => ?_) (fun E h2 hz => by obtain ⟨-, r2, e, -⟩ := hz; cases e)
  obtain ⟨hI2, r2, e, hth, hout⟩ := hz
  cases e
  refine EL_s hP 2 (i' := 18) (ls' := [some (.inr (.inr 3000)), some (.inr (.inr 0)), some (.inr (.inr 66)), some (.inr (.inr 112)), some (.inl i), some (.inl v), some (.inl r2)]) (sk' := [.inr (.inr 66)]) (h' := h2) rfl ?_
  rw [← Nat.zero_add b]
  refine EL_call (b1 := 0) (b2 := b) (rest := []) hP rfl rfl (Nat.zero_le _) (fun e => absurd e (by decide)) (m_thr2 39 h2) (fun v3 h3 hz => ?_) (fun E h3 hz => by cases hz.1)
  obtain ⟨e, rfl⟩ := hz
  cases e
  refine EL_s hP 1 (i' := 20) (ls' := [some (.inr (.inr 3000)), some (.inr (.inr 0)), some (.inr (.inr 66)), some (.inr (.inr 112)), some (.inl i), some (.inl v), some (.inl r2)]) (sk' := [.inl v, .inl (h3 66 0)]) (h' := h3) rfl ?_
  have fin : P b 37 [some (.inr (.inr 3000)), some (.inr (.inr 0)), some (.inr (.inr 66)), some (.inr (.inr 112)), some (.inl i), some (.inl v), some (.inl r2)] [] h3 := EL_s hP 1 (i' := 38) (ls' := [some (.inr (.inr 3000)), some (.inr (.inr 0)), some (.inr (.inr 66)), some (.inr (.inr 112)), some (.inl i), some (.inl v), some (.inl r2)]) (sk' := []) (h' := h3) rfl (EL_fg hP (ls' := LSx i) rfl (fun j w hj => by
    match j, hj with
    | 0, hj => exact hj
    | 1, hj => exact hj
    | 2, hj => exact hj
    | 3, hj => exact hj
    | 4, hj => exact hj
    | 5, hj => cases hj
    | 6, hj => cases hj
    | _ + 7, hj => cases hj) (kk h3 hI2))
  refine EL_b hP rfl rfl (fun _ => ?_) (fun hf => by rw [hth, xcc_eqs] at hf; cases hf)
  refine EL_s hP 1 (i' := 24) (ls' := [some (.inr (.inr 3000)), some (.inr (.inr 0)), some (.inr (.inr 66)), some (.inr (.inr 112)), some (.inl i), some (.inl v), some (.inl r2)]) (sk' := [.inl v]) (h' := h3) rfl ?_
  refine EL_b hP rfl rfl (fun _ => fin) (fun hf => ?_)
  have hv0 := xcc_v hv hf
  refine EL_s hP 2 (i' := 27) (ls' := [some (.inr (.inr 3000)), some (.inr (.inr 0)), some (.inr (.inr 66)), some (.inr (.inr 112)), some (.inl i), some (.inl v), some (.inl r2)]) (sk' := [.inl 0, .inr (.inr 112)]) (h' := h3) rfl ?_
  refine EL_ld hP (ty := .long) (n := 1) (a := 112) (z := 0) (sk := []) rfl rfl rfl (by decide) (by decide) ?_
  refine EL_s hP 1 (i' := 29) (ls' := [some (.inr (.inr 3000)), some (.inr (.inr 0)), some (.inr (.inr 66)), some (.inr (.inr 112)), some (.inl i), some (.inl v), some (.inl r2)]) (sk' := [.inl r2, .inr (.inl (h3 112 0))]) (h' := h3) rfl ?_
  refine EL_bzl hP rfl rfl rfl rfl ?_
  refine EL_s hP 1 (i' := 34) (ls' := [some (.inr (.inr 3000)), some (.inr (.inr 0)), some (.inr (.inr 66)), some (.inr (.inr 112)), some (.inl i), some (.inl v), some (.inl r2)]) (sk' := [.inl (xcmp (h3 112 0) (bz r2))]) (h' := h3) rfl ?_
  exact EL_b hP rfl rfl (fun _ => fin) (fun hf => by rw [xcmp_e (show h3 112 0 = bz r2 from hout hv0)] at hf; cases hf)
theorem sg_37 {P : xPr} {L : Nat} {xs : Int → Int} {Q : xO → xH → Prop} (hP : LCl cdS37 L xs Q P) {i : Int} (h0 : 0 ≤ i) (h1 : i + 6 ≤ L) (hxs : ∀ j, xr (xs j)) {b : Nat} {h : xH} (hI : Inv h) (kk : ∀ h' : xH, Inv h' → P b 45 (LSx i) [] h') : P (b + 4) 0 (LSx i) [] h := by
  refine EL_mono hP (b := 3 + b) (by omega) ?_
  refine EL_s hP 1 (i' := 1) (ls' := [some (.inr (.inr 3000)), some (.inr (.inr 0)), some (.inr (.inr 66)), some (.inr (.inr 112)), some (.inl i), none, none]) (sk' := [.inr (.inr 0)]) (h' := h) rfl ?_
  refine EL_s hP 4 (i' := 5) (ls' := [some (.inr (.inr 3000)), some (.inr (.inr 0)), some (.inr (.inr 66)), some (.inr (.inr 112)), some (.inl i), none, none]) (sk' := [.inl (i + 1), .inr (.inr 3000), .inr (.inr 0)]) (h' := h) rfl ?_
  refine EL_sl hP rfl rfl rfl (by omega) (by omega) ?_
  refine EL_s hP 4 (i' := 10) (ls' := [some (.inr (.inr 3000)), some (.inr (.inr 0)), some (.inr (.inr 66)), some (.inr (.inr 112)), some (.inl i), none, none]) (sk' := [.inl (i + 2), .inr (.inr 3000), .inl (xs (i + 1)), .inr (.inr 0)]) (h' := h) rfl ?_
  refine EL_sl hP rfl rfl rfl (by omega) (by omega) ?_
  refine EL_s hP 1 (i' := 12) (ls' := [some (.inr (.inr 3000)), some (.inr (.inr 0)), some (.inr (.inr 66)), some (.inr (.inr 112)), some (.inl i), none, none]) (sk' := [.inr (.inr 112), .inl (xs (i + 2)), .inl (xs (i + 1)), .inr (.inr 0)]) (h' := h) rfl ?_
  refine EL_hc hP (b1 := 3) (hn := 32) (as := .inr (.inr 0) :: (([xs (i + 1), xs (i + 2)] : List Int).map .inl ++ [.inr (.inr 112)])) (rest := []) rfl rfl (by decide) rfl (Nat.zero_le _) (CO2_h (zs := [xs (i + 1), xs (i + 2)]) rfl (by decide) (by decide) (CO.two (CO_fits 34 hI (xs (i + 1)) (xs (i + 2)) (hxs _) (hxs _)))) (fun v h' hq => ?_)
  obtain ⟨hv, hq⟩ := hq
  refine EL_s hP 2 (i' := 15) (ls' := [some (.inr (.inr 3000)), some (.inr (.inr 0)), some (.inr (.inr 66)), some (.inr (.inr 112)), some (.inl i), some (.inl v), none]) (sk' := [.inr (.inr 66)]) (h' := h') rfl ?_
  refine EL_s hP 4 (i' := 19) (ls' := [some (.inr (.inr 3000)), some (.inr (.inr 0)), some (.inr (.inr 66)), some (.inr (.inr 112)), some (.inl i), some (.inl v), none]) (sk' := [.inl (i + 1), .inr (.inr 3000), .inr (.inr 66)]) (h' := h') rfl ?_
  refine EL_sl hP rfl rfl rfl (by omega) (by omega) ?_
  refine EL_s hP 4 (i' := 24) (ls' := [some (.inr (.inr 3000)), some (.inr (.inr 0)), some (.inr (.inr 66)), some (.inr (.inr 112)), some (.inl i), some (.inl v), none]) (sk' := [.inl (i + 2), .inr (.inr 3000), .inl (xs (i + 1)), .inr (.inr 66)]) (h' := h') rfl ?_
  refine EL_sl hP rfl rfl rfl (by omega) (by omega) ?_
  rw [← Nat.zero_add b]
  refine EL_call (b1 := 0) (b2 := b) (rest := []) hP rfl rfl (Nat.zero_le _) (fun e => absurd e (by decide)) hq (fun v2 h2 hz => ?_) (fun E h2 hz => by obtain ⟨-, r2, e, -⟩ := hz; cases e)
  obtain ⟨hI2, r2, e, hth, hout⟩ := hz
  cases e
  refine EL_s hP 2 (i' := 28) (ls' := [some (.inr (.inr 3000)), some (.inr (.inr 0)), some (.inr (.inr 66)), some (.inr (.inr 112)), some (.inl i), some (.inl v), some (.inl r2)]) (sk' := [.inr (.inr 66)]) (h' := h2) rfl ?_
  rw [← Nat.zero_add b]
  refine EL_call (b1 := 0) (b2 := b) (rest := []) hP rfl rfl (Nat.zero_le _) (fun e => absurd e (by decide)) (m_thr2 39 h2) (fun v3 h3 hz => ?_) (fun E h3 hz => by cases hz.1)
  obtain ⟨e, rfl⟩ := hz
  cases e
  refine EL_s hP 1 (i' := 30) (ls' := [some (.inr (.inr 3000)), some (.inr (.inr 0)), some (.inr (.inr 66)), some (.inr (.inr 112)), some (.inl i), some (.inl v), some (.inl r2)]) (sk' := [.inl v, .inl (h3 66 0)]) (h' := h3) rfl ?_
  have fin : P b 44 [some (.inr (.inr 3000)), some (.inr (.inr 0)), some (.inr (.inr 66)), some (.inr (.inr 112)), some (.inl i), some (.inl v), some (.inl r2)] [] h3 := EL_s hP 1 (i' := 45) (ls' := [some (.inr (.inr 3000)), some (.inr (.inr 0)), some (.inr (.inr 66)), some (.inr (.inr 112)), some (.inl i), some (.inl v), some (.inl r2)]) (sk' := []) (h' := h3) rfl (EL_fg hP (ls' := LSx i) rfl (fun j w hj => by
    match j, hj with
    | 0, hj => exact hj
    | 1, hj => exact hj
    | 2, hj => exact hj
    | 3, hj => exact hj
    | 4, hj => exact hj
    | 5, hj => cases hj
    | 6, hj => cases hj
    | _ + 7, hj => cases hj) (kk h3 hI2))
  refine EL_b hP rfl rfl (fun _ => ?_) (fun hf => by rw [hth, xcc_eqs] at hf; cases hf)
  refine EL_s hP 1 (i' := 34) (ls' := [some (.inr (.inr 3000)), some (.inr (.inr 0)), some (.inr (.inr 66)), some (.inr (.inr 112)), some (.inl i), some (.inl v), some (.inl r2)]) (sk' := [.inl v]) (h' := h3) rfl ?_
  refine EL_b hP rfl rfl (fun _ => fin) (fun hf => ?_)
  have hv0 := xcc_v hv hf
  refine EL_s hP 2 (i' := 37) (ls' := [some (.inr (.inr 3000)), some (.inr (.inr 0)), some (.inr (.inr 66)), some (.inr (.inr 112)), some (.inl i), some (.inl v), some (.inl r2)]) (sk' := [.inl 0, .inr (.inr 112)]) (h' := h3) rfl ?_
  refine EL_ld hP (ty := .long) (n := 1) (a := 112) (z := 0) (sk := []) rfl rfl rfl (by decide) (by decide) ?_
  refine EL_s hP 2 (i' := 40) (ls' := [some (.inr (.inr 3000)), some (.inr (.inr 0)), some (.inr (.inr 66)), some (.inr (.inr 112)), some (.inl i), some (.inl v), some (.inl r2)]) (sk' := [.inr (.inl (w32 r2)), .inr (.inl (h3 112 0))]) (h' := h3) rfl ?_
  refine EL_s hP 1 (i' := 41) (ls' := [some (.inr (.inr 3000)), some (.inr (.inr 0)), some (.inr (.inr 66)), some (.inr (.inr 112)), some (.inl i), some (.inl v), some (.inl r2)]) (sk' := [.inl (xcmp (h3 112 0) (w32 r2))]) (h' := h3) rfl ?_
  exact EL_b hP rfl rfl (fun _ => fin) (fun hf => by rw [xcmp_e (show h3 112 0 = w32 r2 from hout hv0)] at hf; cases hf)
theorem sg_38 {P : xPr} {L : Nat} {xs : Int → Int} {Q : xO → xH → Prop} (hP : LCl cdS38 L xs Q P) {i : Int} (h0 : 0 ≤ i) (h1 : i + 6 ≤ L) (hxs : ∀ j, xr (xs j)) {b : Nat} {h : xH} (hI : Inv h) (kk : ∀ h' : xH, Inv h' → P b 7 (LSx i) [] h') : P (b + 4) 0 (LSx i) [] h := by
  refine EL_mono hP (b := 0 + b) (by omega) ?_
  refine EL_s hP 1 (i' := 1) (ls' := [some (.inr (.inr 3000)), some (.inr (.inr 0)), some (.inr (.inr 66)), some (.inr (.inr 112)), some (.inl i), none, none]) (sk' := [.inr (.inr 0)]) (h' := h) rfl ?_
  refine EL_call (b1 := 0) (b2 := b) (rest := []) hP rfl rfl (Nat.zero_le _) (fun e => absurd e (by decide)) (CO.two (CO_fewest 25 hI  )) (fun v h1 hF => ?_) (fun E h1 hF => by obtain ⟨r1, e⟩ := CO2_v hF; cases e)
  obtain ⟨r1, e⟩ := CO2_v hF
  cases e
  refine EL_s hP 1 (i' := 3) (ls' := [some (.inr (.inr 3000)), some (.inr (.inr 0)), some (.inr (.inr 66)), some (.inr (.inr 112)), some (.inl i), none, none]) (sk' := [.inr (.inr 66), .inl r1]) (h' := h1) rfl ?_
  have hF1 := hF (h1 112 0)
  rw [xup_self] at hF1
  rw [← Nat.zero_add b]
  refine EL_call (b1 := 0) (b2 := b) (rest := [.inl r1]) hP rfl rfl (Nat.le_of_ble_eq_true rfl) (fun e => absurd e (by decide)) hF1 (fun v2 h2 hz => ?_) (fun E h2 hz => by obtain ⟨-, -, r2, e, -⟩ := hz; cases e)
  obtain ⟨hI2, -, r2, e, hag⟩ := hz
  cases e
  have hw : w32 r1 = w32 r2 := by
    rcases hag with ⟨r9, e, -, hw⟩ | ⟨k, E, e, -⟩
    · cases e; exact hw
    · cases e
  exact EL_b hP rfl rfl (fun _ => kk h2 hI2) (fun hf => by rw [xcc_eqw hw] at hf; cases hf)
theorem sg_39 {P : xPr} {L : Nat} {xs : Int → Int} {Q : xO → xH → Prop} (hP : LCl cdS39 L xs Q P) {i : Int} (h0 : 0 ≤ i) (h1 : i + 6 ≤ L) (hxs : ∀ j, xr (xs j)) {b : Nat} {h : xH} (hI : Inv h) (kk : ∀ h' : xH, Inv h' → P b 45 (LSx i) [] h') : P (b + 4) 0 (LSx i) [] h := by
  refine EL_mono hP (b := 4 + b) (by omega) ?_
  refine EL_s hP 1 (i' := 1) (ls' := [some (.inr (.inr 3000)), some (.inr (.inr 0)), some (.inr (.inr 66)), some (.inr (.inr 112)), some (.inl i), none, none]) (sk' := [.inr (.inr 0)]) (h' := h) rfl ?_
  refine EL_s hP 4 (i' := 5) (ls' := [some (.inr (.inr 3000)), some (.inr (.inr 0)), some (.inr (.inr 66)), some (.inr (.inr 112)), some (.inl i), none, none]) (sk' := [.inl (i + 1), .inr (.inr 3000), .inr (.inr 0)]) (h' := h) rfl ?_
  refine EL_sl hP rfl rfl rfl (by omega) (by omega) ?_
  refine EL_s hP 4 (i' := 10) (ls' := [some (.inr (.inr 3000)), some (.inr (.inr 0)), some (.inr (.inr 66)), some (.inr (.inr 112)), some (.inl i), none, none]) (sk' := [.inl (i + 2), .inr (.inr 3000), .inl (xs (i + 1)), .inr (.inr 0)]) (h' := h) rfl ?_
  refine EL_sl hP rfl rfl rfl (by omega) (by omega) ?_
  refine EL_s hP 1 (i' := 12) (ls' := [some (.inr (.inr 3000)), some (.inr (.inr 0)), some (.inr (.inr 66)), some (.inr (.inr 112)), some (.inl i), none, none]) (sk' := [.inr (.inr 112), .inl (xs (i + 2)), .inl (xs (i + 1)), .inr (.inr 0)]) (h' := h) rfl ?_
  refine EL_hc hP (b1 := 4) (hn := 33) (as := .inr (.inr 0) :: (([xs (i + 1), xs (i + 2)] : List Int).map .inl ++ [.inr (.inr 112)])) (rest := []) rfl rfl (by decide) rfl (Nat.zero_le _) (CO2_h (zs := [xs (i + 1), xs (i + 2)]) rfl (by decide) (by decide) (CO.two (CO_splits 34 hI (xs (i + 1)) (xs (i + 2)) (hxs _) (hxs _)))) (fun v h' hq => ?_)
  obtain ⟨hv, hq⟩ := hq
  refine EL_s hP 2 (i' := 15) (ls' := [some (.inr (.inr 3000)), some (.inr (.inr 0)), some (.inr (.inr 66)), some (.inr (.inr 112)), some (.inl i), some (.inl v), none]) (sk' := [.inr (.inr 66)]) (h' := h') rfl ?_
  refine EL_s hP 4 (i' := 19) (ls' := [some (.inr (.inr 3000)), some (.inr (.inr 0)), some (.inr (.inr 66)), some (.inr (.inr 112)), some (.inl i), some (.inl v), none]) (sk' := [.inl (i + 1), .inr (.inr 3000), .inr (.inr 66)]) (h' := h') rfl ?_
  refine EL_sl hP rfl rfl rfl (by omega) (by omega) ?_
  refine EL_s hP 4 (i' := 24) (ls' := [some (.inr (.inr 3000)), some (.inr (.inr 0)), some (.inr (.inr 66)), some (.inr (.inr 112)), some (.inl i), some (.inl v), none]) (sk' := [.inl (i + 2), .inr (.inr 3000), .inl (xs (i + 1)), .inr (.inr 66)]) (h' := h') rfl ?_
  refine EL_sl hP rfl rfl rfl (by omega) (by omega) ?_
  rw [← Nat.zero_add b]
  refine EL_call (b1 := 0) (b2 := b) (rest := []) hP rfl rfl (Nat.zero_le _) (fun e => absurd e (by decide)) hq (fun v2 h2 hz => ?_) (fun E h2 hz => by obtain ⟨-, r2, e, -⟩ := hz; cases e)
  obtain ⟨hI2, r2, e, hth, hout⟩ := hz
  cases e
  refine EL_s hP 2 (i' := 28) (ls' := [some (.inr (.inr 3000)), some (.inr (.inr 0)), some (.inr (.inr 66)), some (.inr (.inr 112)), some (.inl i), some (.inl v), some (.inl r2)]) (sk' := [.inr (.inr 66)]) (h' := h2) rfl ?_
  rw [← Nat.zero_add b]
  refine EL_call (b1 := 0) (b2 := b) (rest := []) hP rfl rfl (Nat.zero_le _) (fun e => absurd e (by decide)) (m_thr2 39 h2) (fun v3 h3 hz => ?_) (fun E h3 hz => by cases hz.1)
  obtain ⟨e, rfl⟩ := hz
  cases e
  refine EL_s hP 1 (i' := 30) (ls' := [some (.inr (.inr 3000)), some (.inr (.inr 0)), some (.inr (.inr 66)), some (.inr (.inr 112)), some (.inl i), some (.inl v), some (.inl r2)]) (sk' := [.inl v, .inl (h3 66 0)]) (h' := h3) rfl ?_
  have fin : P b 44 [some (.inr (.inr 3000)), some (.inr (.inr 0)), some (.inr (.inr 66)), some (.inr (.inr 112)), some (.inl i), some (.inl v), some (.inl r2)] [] h3 := EL_s hP 1 (i' := 45) (ls' := [some (.inr (.inr 3000)), some (.inr (.inr 0)), some (.inr (.inr 66)), some (.inr (.inr 112)), some (.inl i), some (.inl v), some (.inl r2)]) (sk' := []) (h' := h3) rfl (EL_fg hP (ls' := LSx i) rfl (fun j w hj => by
    match j, hj with
    | 0, hj => exact hj
    | 1, hj => exact hj
    | 2, hj => exact hj
    | 3, hj => exact hj
    | 4, hj => exact hj
    | 5, hj => cases hj
    | 6, hj => cases hj
    | _ + 7, hj => cases hj) (kk h3 hI2))
  refine EL_b hP rfl rfl (fun _ => ?_) (fun hf => by rw [hth, xcc_eqs] at hf; cases hf)
  refine EL_s hP 1 (i' := 34) (ls' := [some (.inr (.inr 3000)), some (.inr (.inr 0)), some (.inr (.inr 66)), some (.inr (.inr 112)), some (.inl i), some (.inl v), some (.inl r2)]) (sk' := [.inl v]) (h' := h3) rfl ?_
  refine EL_b hP rfl rfl (fun _ => fin) (fun hf => ?_)
  have hv0 := xcc_v hv hf
  refine EL_s hP 2 (i' := 37) (ls' := [some (.inr (.inr 3000)), some (.inr (.inr 0)), some (.inr (.inr 66)), some (.inr (.inr 112)), some (.inl i), some (.inl v), some (.inl r2)]) (sk' := [.inl 0, .inr (.inr 112)]) (h' := h3) rfl ?_
  refine EL_ld hP (ty := .long) (n := 1) (a := 112) (z := 0) (sk := []) rfl rfl rfl (by decide) (by decide) ?_
  refine EL_s hP 2 (i' := 40) (ls' := [some (.inr (.inr 3000)), some (.inr (.inr 0)), some (.inr (.inr 66)), some (.inr (.inr 112)), some (.inl i), some (.inl v), some (.inl r2)]) (sk' := [.inr (.inl (w32 r2)), .inr (.inl (h3 112 0))]) (h' := h3) rfl ?_
  refine EL_s hP 1 (i' := 41) (ls' := [some (.inr (.inr 3000)), some (.inr (.inr 0)), some (.inr (.inr 66)), some (.inr (.inr 112)), some (.inl i), some (.inl v), some (.inl r2)]) (sk' := [.inl (xcmp (h3 112 0) (w32 r2))]) (h' := h3) rfl ?_
  exact EL_b hP rfl rfl (fun _ => fin) (fun hf => by rw [xcmp_e (show h3 112 0 = w32 r2 from hout hv0)] at hf; cases hf)
theorem sg_40 {P : xPr} {L : Nat} {xs : Int → Int} {Q : xO → xH → Prop} (hP : LCl cdS40 L xs Q P) {i : Int} (h0 : 0 ≤ i) (h1 : i + 6 ≤ L) (hxs : ∀ j, xr (xs j)) {b : Nat} {h : xH} (hI : Inv h) (kk : ∀ h' : xH, Inv h' → P b 17 (LSx i) [] h') : P (b + 4) 0 (LSx i) [] h := by
  refine EL_mono hP (b := 0 + b) (by omega) ?_
  refine EL_s hP 1 (i' := 1) (ls' := [some (.inr (.inr 3000)), some (.inr (.inr 0)), some (.inr (.inr 66)), some (.inr (.inr 112)), some (.inl i), none, none]) (sk' := [.inr (.inr 0)]) (h' := h) rfl ?_
  refine EL_s hP 4 (i' := 5) (ls' := [some (.inr (.inr 3000)), some (.inr (.inr 0)), some (.inr (.inr 66)), some (.inr (.inr 112)), some (.inl i), none, none]) (sk' := [.inl (i + 1), .inr (.inr 3000), .inr (.inr 0)]) (h' := h) rfl ?_
  refine EL_sl hP rfl rfl rfl (by omega) (by omega) ?_
  refine EL_call (b1 := 0) (b2 := b) (rest := []) hP rfl rfl (Nat.zero_le _) (fun e => absurd e (by decide)) (CO.two (CO_count 34 hI (xs (i + 1)) (hxs _))) (fun v h1 hF => ?_) (fun E h1 hF => by obtain ⟨r1, e⟩ := CO2_v hF; cases e)
  obtain ⟨r1, e⟩ := CO2_v hF
  cases e
  refine EL_s hP 1 (i' := 8) (ls' := [some (.inr (.inr 3000)), some (.inr (.inr 0)), some (.inr (.inr 66)), some (.inr (.inr 112)), some (.inl i), none, none]) (sk' := [.inr (.inr 66), .inl r1]) (h' := h1) rfl ?_
  refine EL_s hP 4 (i' := 12) (ls' := [some (.inr (.inr 3000)), some (.inr (.inr 0)), some (.inr (.inr 66)), some (.inr (.inr 112)), some (.inl i), none, none]) (sk' := [.inl (i + 1), .inr (.inr 3000), .inr (.inr 66), .inl r1]) (h' := h1) rfl ?_
  refine EL_sl hP rfl rfl rfl (by omega) (by omega) ?_
  have hF1 := hF (h1 112 0)
  rw [xup_self] at hF1
  rw [← Nat.zero_add b]
  refine EL_call (b1 := 0) (b2 := b) (rest := [.inl r1]) hP rfl rfl (Nat.le_of_ble_eq_true rfl) (fun e => absurd e (by decide)) hF1 (fun v2 h2 hz => ?_) (fun E h2 hz => by obtain ⟨-, -, r2, e, -⟩ := hz; cases e)
  obtain ⟨hI2, -, r2, e, hag⟩ := hz
  cases e
  have hw : w32 r1 = w32 r2 := by
    rcases hag with ⟨r9, e, -, hw⟩ | ⟨k, E, e, -⟩
    · cases e; exact hw
    · cases e
  exact EL_b hP rfl rfl (fun _ => kk h2 hI2) (fun hf => by rw [xcc_eqw hw] at hf; cases hf)
theorem sg_41 {P : xPr} {L : Nat} {xs : Int → Int} {Q : xO → xH → Prop} (hP : LCl cdS41 L xs Q P) {i : Int} (h0 : 0 ≤ i) (h1 : i + 6 ≤ L) (hxs : ∀ j, xr (xs j)) {b : Nat} {h : xH} (hI : Inv h) (kk : ∀ h' : xH, Inv h' → P b 45 (LSx i) [] h') : P (b + 4) 0 (LSx i) [] h := by
  refine EL_mono hP (b := 2 + b) (by omega) ?_
  refine EL_s hP 1 (i' := 1) (ls' := [some (.inr (.inr 3000)), some (.inr (.inr 0)), some (.inr (.inr 66)), some (.inr (.inr 112)), some (.inl i), none, none]) (sk' := [.inr (.inr 0)]) (h' := h) rfl ?_
  refine EL_s hP 4 (i' := 5) (ls' := [some (.inr (.inr 3000)), some (.inr (.inr 0)), some (.inr (.inr 66)), some (.inr (.inr 112)), some (.inl i), none, none]) (sk' := [.inl (i + 1), .inr (.inr 3000), .inr (.inr 0)]) (h' := h) rfl ?_
  refine EL_sl hP rfl rfl rfl (by omega) (by omega) ?_
  refine EL_s hP 4 (i' := 10) (ls' := [some (.inr (.inr 3000)), some (.inr (.inr 0)), some (.inr (.inr 66)), some (.inr (.inr 112)), some (.inl i), none, none]) (sk' := [.inl (i + 2), .inr (.inr 3000), .inl (xs (i + 1)), .inr (.inr 0)]) (h' := h) rfl ?_
  refine EL_sl hP rfl rfl rfl (by omega) (by omega) ?_
  refine EL_s hP 1 (i' := 12) (ls' := [some (.inr (.inr 3000)), some (.inr (.inr 0)), some (.inr (.inr 66)), some (.inr (.inr 112)), some (.inl i), none, none]) (sk' := [.inr (.inr 112), .inl (xs (i + 2)), .inl (xs (i + 1)), .inr (.inr 0)]) (h' := h) rfl ?_
  refine EL_hc hP (b1 := 2) (hn := 34) (as := .inr (.inr 0) :: (([xs (i + 1), xs (i + 2)] : List Int).map .inl ++ [.inr (.inr 112)])) (rest := []) rfl rfl (by decide) rfl (Nat.zero_le _) (CO2_h (zs := [xs (i + 1), xs (i + 2)]) rfl (by decide) (by decide) (CO.two (CO_told 34 hI (xs (i + 1)) (xs (i + 2)) (hxs _) (hxs _)))) (fun v h' hq => ?_)
  obtain ⟨hv, hq⟩ := hq
  refine EL_s hP 2 (i' := 15) (ls' := [some (.inr (.inr 3000)), some (.inr (.inr 0)), some (.inr (.inr 66)), some (.inr (.inr 112)), some (.inl i), some (.inl v), none]) (sk' := [.inr (.inr 66)]) (h' := h') rfl ?_
  refine EL_s hP 4 (i' := 19) (ls' := [some (.inr (.inr 3000)), some (.inr (.inr 0)), some (.inr (.inr 66)), some (.inr (.inr 112)), some (.inl i), some (.inl v), none]) (sk' := [.inl (i + 1), .inr (.inr 3000), .inr (.inr 66)]) (h' := h') rfl ?_
  refine EL_sl hP rfl rfl rfl (by omega) (by omega) ?_
  refine EL_s hP 4 (i' := 24) (ls' := [some (.inr (.inr 3000)), some (.inr (.inr 0)), some (.inr (.inr 66)), some (.inr (.inr 112)), some (.inl i), some (.inl v), none]) (sk' := [.inl (i + 2), .inr (.inr 3000), .inl (xs (i + 1)), .inr (.inr 66)]) (h' := h') rfl ?_
  refine EL_sl hP rfl rfl rfl (by omega) (by omega) ?_
  rw [← Nat.zero_add b]
  refine EL_call (b1 := 0) (b2 := b) (rest := []) hP rfl rfl (Nat.zero_le _) (fun e => absurd e (by decide)) hq (fun v2 h2 hz => ?_) (fun E h2 hz => by obtain ⟨-, r2, e, -⟩ := hz; cases e)
  obtain ⟨hI2, r2, e, hth, hout⟩ := hz
  cases e
  refine EL_s hP 2 (i' := 28) (ls' := [some (.inr (.inr 3000)), some (.inr (.inr 0)), some (.inr (.inr 66)), some (.inr (.inr 112)), some (.inl i), some (.inl v), some (.inl r2)]) (sk' := [.inr (.inr 66)]) (h' := h2) rfl ?_
  rw [← Nat.zero_add b]
  refine EL_call (b1 := 0) (b2 := b) (rest := []) hP rfl rfl (Nat.zero_le _) (fun e => absurd e (by decide)) (m_thr2 39 h2) (fun v3 h3 hz => ?_) (fun E h3 hz => by cases hz.1)
  obtain ⟨e, rfl⟩ := hz
  cases e
  refine EL_s hP 1 (i' := 30) (ls' := [some (.inr (.inr 3000)), some (.inr (.inr 0)), some (.inr (.inr 66)), some (.inr (.inr 112)), some (.inl i), some (.inl v), some (.inl r2)]) (sk' := [.inl v, .inl (h3 66 0)]) (h' := h3) rfl ?_
  have fin : P b 44 [some (.inr (.inr 3000)), some (.inr (.inr 0)), some (.inr (.inr 66)), some (.inr (.inr 112)), some (.inl i), some (.inl v), some (.inl r2)] [] h3 := EL_s hP 1 (i' := 45) (ls' := [some (.inr (.inr 3000)), some (.inr (.inr 0)), some (.inr (.inr 66)), some (.inr (.inr 112)), some (.inl i), some (.inl v), some (.inl r2)]) (sk' := []) (h' := h3) rfl (EL_fg hP (ls' := LSx i) rfl (fun j w hj => by
    match j, hj with
    | 0, hj => exact hj
    | 1, hj => exact hj
    | 2, hj => exact hj
    | 3, hj => exact hj
    | 4, hj => exact hj
    | 5, hj => cases hj
    | 6, hj => cases hj
    | _ + 7, hj => cases hj) (kk h3 hI2))
  refine EL_b hP rfl rfl (fun _ => ?_) (fun hf => by rw [hth, xcc_eqs] at hf; cases hf)
  refine EL_s hP 1 (i' := 34) (ls' := [some (.inr (.inr 3000)), some (.inr (.inr 0)), some (.inr (.inr 66)), some (.inr (.inr 112)), some (.inl i), some (.inl v), some (.inl r2)]) (sk' := [.inl v]) (h' := h3) rfl ?_
  refine EL_b hP rfl rfl (fun _ => fin) (fun hf => ?_)
  have hv0 := xcc_v hv hf
  refine EL_s hP 2 (i' := 37) (ls' := [some (.inr (.inr 3000)), some (.inr (.inr 0)), some (.inr (.inr 66)), some (.inr (.inr 112)), some (.inl i), some (.inl v), some (.inl r2)]) (sk' := [.inl 0, .inr (.inr 112)]) (h' := h3) rfl ?_
  refine EL_ld hP (ty := .long) (n := 1) (a := 112) (z := 0) (sk := []) rfl rfl rfl (by decide) (by decide) ?_
  refine EL_s hP 2 (i' := 40) (ls' := [some (.inr (.inr 3000)), some (.inr (.inr 0)), some (.inr (.inr 66)), some (.inr (.inr 112)), some (.inl i), some (.inl v), some (.inl r2)]) (sk' := [.inr (.inl (w32 r2)), .inr (.inl (h3 112 0))]) (h' := h3) rfl ?_
  refine EL_s hP 1 (i' := 41) (ls' := [some (.inr (.inr 3000)), some (.inr (.inr 0)), some (.inr (.inr 66)), some (.inr (.inr 112)), some (.inl i), some (.inl v), some (.inl r2)]) (sk' := [.inl (xcmp (h3 112 0) (w32 r2))]) (h' := h3) rfl ?_
  exact EL_b hP rfl rfl (fun _ => fin) (fun hf => by rw [xcmp_e (show h3 112 0 = w32 r2 from hout hv0)] at hf; cases hf)
theorem sg_42 {P : xPr} {L : Nat} {xs : Int → Int} {Q : xO → xH → Prop} (hP : LCl cdS42 L xs Q P) {i : Int} (h0 : 0 ≤ i) (h1 : i + 6 ≤ L) (hxs : ∀ j, xr (xs j)) {b : Nat} {h : xH} (hI : Inv h) (kk : ∀ h' : xH, Inv h' → P b 35 (LSx i) [] h') : P (b + 4) 0 (LSx i) [] h := by
  refine EL_mono hP (b := 1 + b) (by omega) ?_
  refine EL_s hP 1 (i' := 1) (ls' := [some (.inr (.inr 3000)), some (.inr (.inr 0)), some (.inr (.inr 66)), some (.inr (.inr 112)), some (.inl i), none, none]) (sk' := [.inr (.inr 0)]) (h' := h) rfl ?_
  refine EL_s hP 4 (i' := 5) (ls' := [some (.inr (.inr 3000)), some (.inr (.inr 0)), some (.inr (.inr 66)), some (.inr (.inr 112)), some (.inl i), none, none]) (sk' := [.inl (i + 1), .inr (.inr 3000), .inr (.inr 0)]) (h' := h) rfl ?_
  refine EL_sl hP rfl rfl rfl (by omega) (by omega) ?_
  refine EL_s hP 1 (i' := 7) (ls' := [some (.inr (.inr 3000)), some (.inr (.inr 0)), some (.inr (.inr 66)), some (.inr (.inr 112)), some (.inl i), none, none]) (sk' := [.inr (.inr 112), .inl (xs (i + 1)), .inr (.inr 0)]) (h' := h) rfl ?_
  refine EL_hc hP (b1 := 1) (hn := 35) (as := .inr (.inr 0) :: (([xs (i + 1)] : List Int).map .inl ++ [.inr (.inr 112)])) (rest := []) rfl rfl (by decide) rfl (Nat.zero_le _) (CO2_h (zs := [xs (i + 1)]) rfl (by decide) (by decide) (CO.two (CO_constantAt 34 hI (xs (i + 1)) (hxs _)))) (fun v h' hq => ?_)
  obtain ⟨hv, hq⟩ := hq
  refine EL_s hP 2 (i' := 10) (ls' := [some (.inr (.inr 3000)), some (.inr (.inr 0)), some (.inr (.inr 66)), some (.inr (.inr 112)), some (.inl i), some (.inl v), none]) (sk' := [.inr (.inr 66)]) (h' := h') rfl ?_
  refine EL_s hP 4 (i' := 14) (ls' := [some (.inr (.inr 3000)), some (.inr (.inr 0)), some (.inr (.inr 66)), some (.inr (.inr 112)), some (.inl i), some (.inl v), none]) (sk' := [.inl (i + 1), .inr (.inr 3000), .inr (.inr 66)]) (h' := h') rfl ?_
  refine EL_sl hP rfl rfl rfl (by omega) (by omega) ?_
  rw [← Nat.zero_add b]
  refine EL_call (b1 := 0) (b2 := b) (rest := []) hP rfl rfl (Nat.zero_le _) (fun e => absurd e (by decide)) hq (fun v2 h2 hz => ?_) (fun E h2 hz => by obtain ⟨-, r2, e, -⟩ := hz; cases e)
  obtain ⟨hI2, r2, e, hth, hout⟩ := hz
  cases e
  refine EL_s hP 2 (i' := 18) (ls' := [some (.inr (.inr 3000)), some (.inr (.inr 0)), some (.inr (.inr 66)), some (.inr (.inr 112)), some (.inl i), some (.inl v), some (.inl r2)]) (sk' := [.inr (.inr 66)]) (h' := h2) rfl ?_
  rw [← Nat.zero_add b]
  refine EL_call (b1 := 0) (b2 := b) (rest := []) hP rfl rfl (Nat.zero_le _) (fun e => absurd e (by decide)) (m_thr2 39 h2) (fun v3 h3 hz => ?_) (fun E h3 hz => by cases hz.1)
  obtain ⟨e, rfl⟩ := hz
  cases e
  refine EL_s hP 1 (i' := 20) (ls' := [some (.inr (.inr 3000)), some (.inr (.inr 0)), some (.inr (.inr 66)), some (.inr (.inr 112)), some (.inl i), some (.inl v), some (.inl r2)]) (sk' := [.inl v, .inl (h3 66 0)]) (h' := h3) rfl ?_
  have fin : P b 34 [some (.inr (.inr 3000)), some (.inr (.inr 0)), some (.inr (.inr 66)), some (.inr (.inr 112)), some (.inl i), some (.inl v), some (.inl r2)] [] h3 := EL_s hP 1 (i' := 35) (ls' := [some (.inr (.inr 3000)), some (.inr (.inr 0)), some (.inr (.inr 66)), some (.inr (.inr 112)), some (.inl i), some (.inl v), some (.inl r2)]) (sk' := []) (h' := h3) rfl (EL_fg hP (ls' := LSx i) rfl (fun j w hj => by
    match j, hj with
    | 0, hj => exact hj
    | 1, hj => exact hj
    | 2, hj => exact hj
    | 3, hj => exact hj
    | 4, hj => exact hj
    | 5, hj => cases hj
    | 6, hj => cases hj
    | _ + 7, hj => cases hj) (kk h3 hI2))
  refine EL_b hP rfl rfl (fun _ => ?_) (fun hf => by rw [hth, xcc_eqs] at hf; cases hf)
  refine EL_s hP 1 (i' := 24) (ls' := [some (.inr (.inr 3000)), some (.inr (.inr 0)), some (.inr (.inr 66)), some (.inr (.inr 112)), some (.inl i), some (.inl v), some (.inl r2)]) (sk' := [.inl v]) (h' := h3) rfl ?_
  refine EL_b hP rfl rfl (fun _ => fin) (fun hf => ?_)
  have hv0 := xcc_v hv hf
  refine EL_s hP 2 (i' := 27) (ls' := [some (.inr (.inr 3000)), some (.inr (.inr 0)), some (.inr (.inr 66)), some (.inr (.inr 112)), some (.inl i), some (.inl v), some (.inl r2)]) (sk' := [.inl 0, .inr (.inr 112)]) (h' := h3) rfl ?_
  refine EL_ld hP (ty := .long) (n := 1) (a := 112) (z := 0) (sk := []) rfl rfl rfl (by decide) (by decide) ?_
  refine EL_s hP 2 (i' := 30) (ls' := [some (.inr (.inr 3000)), some (.inr (.inr 0)), some (.inr (.inr 66)), some (.inr (.inr 112)), some (.inl i), some (.inl v), some (.inl r2)]) (sk' := [.inr (.inl (w32 r2)), .inr (.inl (h3 112 0))]) (h' := h3) rfl ?_
  refine EL_s hP 1 (i' := 31) (ls' := [some (.inr (.inr 3000)), some (.inr (.inr 0)), some (.inr (.inr 66)), some (.inr (.inr 112)), some (.inl i), some (.inl v), some (.inl r2)]) (sk' := [.inl (xcmp (h3 112 0) (w32 r2))]) (h' := h3) rfl ?_
  exact EL_b hP rfl rfl (fun _ => fin) (fun hf => by rw [xcmp_e (show h3 112 0 = w32 r2 from hout hv0)] at hf; cases hf)
