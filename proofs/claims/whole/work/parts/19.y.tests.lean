theorem WT_off {h0 T : xH} {c1 c2 c3 : Int} (hB : BT h0) (hW : WT (h0 1 2) T) (hc : okt h0 T c1 c2 c3) : WT (h0 1 2) (offT h0 T c1 c2 c3) ∧ STB T (offT h0 T c1 c2 c3) ∧ (offT h0 T c1 c2 c3) 0 2 + (offT h0 T c1 c2 c3) 0 3 = T 0 2 + T 0 3 := by
  have hor := oT_r hB hW hc
  have hW0 := hW
  obtain ⟨w1, w2, w3, w4, w5, w6, w7, w8, w9, w10, w11, w12, w13, w14⟩ := hW
  have stb0 : ∀ k, 0 ≤ k → k < T 0 0 → T 1 k = T 1 k ∧ T 2 k = T 2 k ∧ T 3 k = T 3 k ∧ T 4 k = T 4 k ∧ T 6 k = T 6 k ∧ T 11 k = T 11 k ∧ (∀ e, 0 ≤ e → e < 12 → T 5 (k * 12 + e) = T 5 (k * 12 + e)) ∧ T 7 k ≤ T 7 k ∧ (T 7 k ≠ 0 → T 8 k = T 8 k ∧ T 9 k = T 9 k ∧ T 10 k = T 10 k) := fun k _ _ => ⟨rfl, rfl, rfl, rfl, rfl, rfl, fun _ _ _ => rfl, Int.le_refl _, fun _ => ⟨rfl, rfl, rfl⟩⟩
  by_cases h4 : T 0 4 ≠ 0
  · rw [offT_s h4]; exact ⟨hW0, STB.rf T, rfl⟩
  have h4 : T 0 4 = 0 := by omega
  by_cases h3 : T 0 3 = 0
  · rw [offT_b h4 h3]
    exact ⟨⟨w1, w2, w3, w4, w5, w6, w7, w8, w9, w10, by show (0 : Int) ≤ 2; omega, by show (2 : Int) ≤ 2; omega, w13, w14⟩, ⟨Int.le_refl _, stb0⟩, rfl⟩
  have q7 : T 0 1 ≤ T 0 2 + 1 := by omega
  have q8 : T 0 2 + 1 + (T 0 3 - 1) ≤ 400000 := by omega
  have q9 : 0 ≤ T 0 3 - 1 := by omega
  have q10 : T 0 3 - 1 ≤ 20000 := by omega
  have q14 : T 0 5 ≤ T 0 2 + 1 := by omega
  have qs : T 0 2 + 1 + (T 0 3 - 1) = T 0 2 + T 0 3 := by omega
  by_cases hi : oT h0 T c1 c2 c3 = 0 ∨ oT h0 T c1 c2 c3 = xshl 1 (h0 1 2) - 1
  · rw [offT_i h4 h3 hi]
    exact ⟨⟨w1, w2, w3, w4, w5, w6, q7, q8, q9, q10, w11, w12, by show 0 ≤ T 0 5 + 1; omega, by show T 0 5 + 1 ≤ T 0 2 + 1; omega⟩, ⟨Int.le_refl _, stb0⟩, qs⟩
  rcases fnd_spec (fun k => T 6 k = oT h0 T c1 c2 c3) (T 0 0).toNat with ⟨f1, f2⟩ | ⟨f1, f2, f3, f4⟩
  · by_cases hK : 150 ≤ T 0 0
    · rw [offT_f h4 h3 hi f1 hK]
      exact ⟨⟨w1, w2, w3, w4, w5, w6, q7, q8, q9, q10, by show (0 : Int) ≤ 1; omega, by show (1 : Int) ≤ 2; omega, w13, q14⟩, ⟨Int.le_refl _, stb0⟩, qs⟩
    · rw [offT_a h4 h3 hi f1 (by omega)]
      generalize usT h0 T c1 c2 c3 = us
      generalize oT h0 T c1 c2 c3 = v at *
      generalize h0 28 15 = sz
      have e6 : ∀ k, put0 (mad T) sz c1 c2 c3 v us 6 k = if k = T 0 0 then v else T 6 k := fun k => by simp [put0, xup, mad]
      have e7 : ∀ k, put0 (mad T) sz c1 c2 c3 v us 7 k = if k = T 0 0 then 0 else T 7 k := fun k => by simp [put0, xup, mad]
      refine ⟨⟨by show 0 ≤ T 0 0 + 1; omega, by show T 0 0 + 1 ≤ 150; omega, fun k z1 z2 => ?_, fun j k z1 z2 z3 => ?_, fun k z1 z2 => ?_, w6, q7, q8, q9, q10, w11, w12, w13, q14⟩, ⟨by show T 0 0 ≤ T 0 0 + 1; omega, fun k z1 z2 => ?_⟩, qs⟩
      · have z2 : k < T 0 0 + 1 := z2
        rw [e6]
        split
        · exact hor
        · exact w3 k z1 (by omega)
      · have z3 : k < T 0 0 + 1 := z3
        rw [e6, e6, if_neg (by omega)]
        split
        · exact f2 j z1 (by omega)
        · exact w4 j k z1 z2 (by omega)
      · have z2 : k < T 0 0 + 1 := z2
        rw [e7]
        show _ ∧ _ ≤ T 0 1
        split
        · exact ⟨Int.le_refl _, w6⟩
        · exact w5 k z1 (by omega)
      · have hne : k ≠ T 0 0 := by omega
        have hne2 : k ≠ (mad T) 0 0 := hne
        simp [put0, xup, hne2, mad, hne]
  · generalize hr9 : fnd (fun k => T 6 k = oT h0 T c1 c2 c3) (T 0 0).toNat = r at *
    rw [offT_m h4 h3 hi hr9 (by omega)]
    have hr1 : r < T 0 0 := by omega
    have h01 : mrgS (mad T) r c1 c2 c3 0 1 = T 0 1 + 1 := by unfold mrgS; rw [xup_s]; rfl
    have e0 : mrgS (mad T) r c1 c2 c3 0 0 = T 0 0 := (mrg_0 T r c1 c2 c3 (by decide)).trans rfl
    have e2 : mrgS (mad T) r c1 c2 c3 0 2 = T 0 2 + 1 := (mrg_0 T r c1 c2 c3 (by decide)).trans rfl
    have e3 : mrgS (mad T) r c1 c2 c3 0 3 = T 0 3 - 1 := (mrg_0 T r c1 c2 c3 (by decide)).trans rfl
    have e4 : mrgS (mad T) r c1 c2 c3 0 4 = T 0 4 := (mrg_0 T r c1 c2 c3 (by decide)).trans rfl
    have e5 : mrgS (mad T) r c1 c2 c3 0 5 = T 0 5 := (mrg_0 T r c1 c2 c3 (by decide)).trans rfl
    have es : ∀ (a : Nat) j, a ≠ 7 → a ≠ 8 → a ≠ 9 → a ≠ 10 → a ≠ 0 → mrgS (mad T) r c1 c2 c3 a j = T a j := fun a j q1 q2 q3 q4 q5 => mrg_o T r c1 c2 c3 j q1 q2 q3 q4 q5
    have h6 : ∀ j, mrgS (mad T) r c1 c2 c3 6 j = T 6 j := fun j => es 6 j (by decide) (by decide) (by decide) (by decide) (by decide)
    refine ⟨?_, ⟨by rw [e0]; exact Int.le_refl _, fun k z1 z2 => ?_⟩, by rw [e2, e3]; omega⟩
    · unfold WT
      rw [e0, e2, e3, e4, e5, h01]
      refine ⟨w1, w2, fun k z1 z2 => by rw [h6]; exact w3 k z1 z2, fun j k z1 z2 z3 => by rw [h6, h6]; exact w4 j k z1 z2 z3, fun k z1 z2 => ?_, by omega, by omega, by omega, by omega, by omega, w11, w12, w13, by omega⟩
      rw [mrg_7]
      have := w5 k z1 z2
      have := w5 r f1 hr1
      split <;> omega
    · refine ⟨es 1 k (by decide) (by decide) (by decide) (by decide) (by decide), es 2 k (by decide) (by decide) (by decide) (by decide) (by decide), es 3 k (by decide) (by decide) (by decide) (by decide) (by decide), es 4 k (by decide) (by decide) (by decide) (by decide) (by decide), h6 k, es 11 k (by decide) (by decide) (by decide) (by decide) (by decide), fun e _ _ => es 5 _ (by decide) (by decide) (by decide) (by decide) (by decide), ?_, fun hne => ?_⟩
      · rw [mrg_7]
        split
        · rename_i q; rw [q]; omega
        · exact Int.le_refl _
      · obtain ⟨q1, q2, q3⟩ := mrg_f T r c1 c2 c3 k
        rw [q1, q2, q3]
        have hq : ¬ (k = r ∧ T 7 r = 0) := fun z => hne (by rw [z.1]; exact z.2)
        rw [if_neg hq, if_neg hq, if_neg hq]
        exact ⟨rfl, rfl, rfl⟩
def GIT (h0 h T : xH) : Prop := RCT h T ∧ WT (h0 1 2) T ∧ FT h0 h
theorem FT.par {h0 h : xH} (f : FT h0 h) : (∀ a, a < 28 → h a = h0 a) ∧ offT h = offT h0 := by
  have e : ∀ a, a < 28 → h a = h0 a := fun a ha => f.1 a (Or.inl ha)
  refine ⟨e, ?_⟩
  funext T c1 c2 c3
  have ec : cmpT h = cmpT h0 := by funext c1 c2 c3 x; unfold cmpT; rw [e 24 (by decide)]
  unfold offT oT usT
  rw [ec, e 1 (by decide), e 19 (by decide), f.2.2.2]
theorem c_offT (d b : Nat) (h0 h T : xH) (c1 c2 c3 : Int) (hB : BT h0) (hG : GIT h0 h T) (ho : T 0 4 = 0) (hc : okt h0 T c1 c2 c3) {Q : xO → xH → Prop} (hQ : ∀ h', GIT h0 h' (offT h0 T c1 c2 c3) → Q (.inl (some (.inl (if offT h0 T c1 c2 c3 0 4 = 0 then 1 else 0)))) h') : xRn G0 MT (d + 4) b 34 [.inr (.inr 28), .inl c1, .inl c2, .inl c3] h Q := by
  obtain ⟨hR, hW, hF⟩ := hG
  obtain ⟨e, eo⟩ := hF.par
  have e1 := e 1 (by decide)
  have e2 := e 9 (by decide)
  have e3 := e 24 (by decide)
  refine c_offerT d b h T c1 c2 c3 (by unfold BT; rw [e1, e2, e3]; exact hB) hR (by rw [e1]; exact hW) ho (by unfold okt; rw [e2]; exact hc) ?_
  rw [eo]
  intro h' hR' hF'
  exact hQ h' ⟨hR', (WT_off hB hW hc).1, FT.tr hF hF'⟩
theorem fT_w {h0 : xH} {g : xH → Int → xH} {T : xH} {lo : Int} (hW : WT (h0 1 2) T) : ∀ (m : Nat), (∀ (T' : xH) (i : Int), lo ≤ i → i < lo + m → WT (h0 1 2) T' → STB T T' → WT (h0 1 2) (g T' i) ∧ STB T' (g T' i) ∧ g T' i 0 2 + g T' i 0 3 = T' 0 2 + T' 0 3) → WT (h0 1 2) (fR g T lo m) ∧ STB T (fR g T lo m) ∧ fR g T lo m 0 2 + fR g T lo m 0 3 = T 0 2 + T 0 3
  | 0, _ => ⟨hW, STB.rf T, rfl⟩
  | m + 1, hg => by
    obtain ⟨a, b, c⟩ := fT_w hW m (fun T' i h1 h2 => hg T' i h1 (by omega))
    obtain ⟨a2, b2, c2⟩ := hg _ (lo + m) (by omega) (by omega) a b
    rw [fR_s]
    exact ⟨a2, STB.tr (fun k z1 z2 => (hW.2.2.2.2.1 k z1 z2).1) b b2, c2.trans c⟩
theorem stp_t (h0 : xH) (p a : Int) : stp (fun T y => offT h0 T p a y) := fun _ h _ => offT_s h
theorem stp_t1 (h0 : xH) (p : Int) : stp (fun T y => offT h0 T p y 0) := fun _ h _ => offT_s h
set_option maxHeartbeats 1000000 in
theorem c_offerEachT (d b : Nat) (h0 h T : xH) (p x fr be : Int) (hB : BT h0) (hG : GIT h0 h T) (ho : T 0 4 = 0) (hok0 : ∀ T' i, STB T T' → fr ≤ i → i < be → okt h0 T' p x i) (hf : 0 ≤ fr ∧ fr ≤ 301) (hb : be ≤ 300 ∧ -1 ≤ be) {Q : xO → xH → Prop} (hQ : ∀ h', GIT h0 h' (fR (fun T y => offT h0 T p x y) T fr (be - fr).toNat) → Q (.inl (some (.inl (if (fR (fun T y => offT h0 T p x y) T fr (be - fr).toNat) 0 4 = 0 then 1 else 0)))) h') : xRn G0 MT (d + 5) b 35 [.inr (.inr 28), .inl p, .inl x, .inl fr, .inl be] h Q := by
  refine R_of (M := mX3_offerEach) rfl (Nat.le_of_ble_eq_true rfl) ?_
  show xEx G0 cdX3_offerEach (some .boolean) (xRn G0 MT (d + 4)) Q b 0 [some (.inr (.inr 28)), some (.inl p), some (.inl x), some (.inl fr), some (.inl be), none] [] h
  refine E_s 2 (i' := 2) (ls' := [some (.inr (.inr 28)), some (.inl p), some (.inl x), some (.inl fr), some (.inl be), some (.inl fr)]) (sk' := []) (h' := h) rfl ?_
  have key2 : ∀ (n : Nat) (hh : xH) (i : Int), (fr ≤ i) → (i = fr ∨ i ≤ be) → (GIT h0 hh (fR (fun T y => offT h0 T p x y) T fr (i - fr).toNat)) → (STB T (fR (fun T y => offT h0 T p x y) T fr (i - fr).toNat)) → ((fR (fun T y => offT h0 T p x y) T fr (i - fr).toNat) 0 4 = 0) → ((be - i).toNat) < n → xEx G0 cdX3_offerEach (some .boolean) (xRn G0 MT (d + 4)) Q b 2 [some (.inr (.inr 28)), some (.inl p), some (.inl x), some (.inl fr), some (.inl be), some (.inl i)] [] hh := by
    intro n
    induction n with
    | zero => intro hh i _ _ _ _ _ hm; exact absurd hm (Nat.not_lt_zero _)
    | succ n ih2 =>
      intro hh i hi0 hi9 hGi hst hoi hm2
      refine E_s 2 (i' := 4) (ls' := [some (.inr (.inr 28)), some (.inl p), some (.inl x), some (.inl fr), some (.inl be), some (.inl i)]) (sk' := [.inl be, .inl i]) (h' := hh) rfl ?_
      refine E_b (x := (.if_icmp .ge 22, 15, [], [])) rfl rfl (fun cb4 => ?_) (fun cb4 => ?_)
      · rw [c_ge ⟨by omega, by omega⟩ ⟨by omega, by omega⟩] at cb4
        simp only [decide_eq_true_eq, decide_eq_false_iff_not, Decidable.not_not] at cb4
        show xEx G0 cdX3_offerEach (some .boolean) (xRn G0 MT (d + 4)) Q b 15 [some (.inr (.inr 28)), some (.inl p), some (.inl x), some (.inl fr), some (.inl be), some (.inl i)] [] hh
        refine E_s 1 (i' := 16) (ls' := [some (.inr (.inr 28)), some (.inl p), some (.inl x), some (.inl fr), some (.inl be), some (.inl i)]) (sk' := [.inl 1]) (h' := hh) rfl ?_
        exact E_ret (x := (.ireturn, 0, [], [])) (v := some (.inl 1)) rfl (Or.inr ⟨rfl, Or.inr rfl⟩) (by
          by_cases z : be ≤ fr
          · have e8 : i = fr := by omega
            subst e8
            have e7 : (be - i).toNat = 0 := by omega
            rw [e7] at hQ
            rw [Int.sub_self, Int.toNat_zero] at hGi hoi
            have := hQ hh hGi
            rw [if_pos hoi] at this
            exact this
          · have e8 : i = be := by omega
            subst e8
            have := hQ hh hGi
            rw [if_pos hoi] at this
            exact this)
      · rw [c_ge ⟨by omega, by omega⟩ ⟨by omega, by omega⟩] at cb4
        simp only [decide_eq_true_eq, decide_eq_false_iff_not, Decidable.not_not] at cb4
        show xEx G0 cdX3_offerEach (some .boolean) (xRn G0 MT (d + 4)) Q b 5 [some (.inr (.inr 28)), some (.inl p), some (.inl x), some (.inl fr), some (.inl be), some (.inl i)] [] hh
        refine E_s 4 (i' := 9) (ls' := [some (.inr (.inr 28)), some (.inl p), some (.inl x), some (.inl fr), some (.inl be), some (.inl i)]) (sk' := [.inl i, .inl x, .inl p, .inr (.inr 28)]) (h' := hh) rfl ?_
        have hok : okt h0 (fR (fun T y => offT h0 T p x y) T fr (i - fr).toNat) p x i := hok0 _ i hst hi0 (by omega)
        refine E_cp (x := (.invokevirtual 144, 3, [(1, 34), (7, 34)], [1])) (q := fun r h9 => r = (if offT h0 (fR (fun T y => offT h0 T p x y) T fr (i - fr).toNat) p x i 0 4 = 0 then 1 else 0) ∧ GIT h0 h9 (offT h0 (fR (fun T y => offT h0 T p x y) T fr (i - fr).toNat) p x i)) rfl rfl (Nat.le_of_ble_eq_true rfl) (c_offT d 0 h0 hh _ p x i hB hGi hoi hok (fun h9 h8 => ⟨_, rfl, rfl, h8⟩)) (fun r hh2 hq => ?_)
        obtain ⟨hr, hGn⟩ := hq
        have hsn := STB.tr (fun k z1 z2 => (hG.2.1.2.2.2.2.1 k z1 z2).1) hst (WT_off hB hGi.2.1 hok).2.1
        show xEx G0 cdX3_offerEach (some .boolean) (xRn G0 MT (d + 4)) Q b 10 [some (.inr (.inr 28)), some (.inl p), some (.inl x), some (.inl fr), some (.inl be), some (.inl i)] [.inl r] hh2
        refine E_b (x := (.ifCond .ne 5, 13, [], [])) rfl rfl (fun cb10 => ?_) (fun cb10 => ?_)
        · rw [c_ne (by first | exact ⟨by omega, by omega⟩ | (rw [hr]; split <;> exact ⟨by omega, by omega⟩)) (by first | exact ⟨by omega, by omega⟩ | (rw [hr]; split <;> exact ⟨by omega, by omega⟩))] at cb10
          simp only [decide_eq_true_eq, decide_eq_false_iff_not, Decidable.not_not] at cb10
          show xEx G0 cdX3_offerEach (some .boolean) (xRn G0 MT (d + 4)) Q b 13 [some (.inr (.inr 28)), some (.inl p), some (.inl x), some (.inl fr), some (.inl be), some (.inl i)] [] hh2
          have hon : offT h0 (fR (fun T y => offT h0 T p x y) T fr (i - fr).toNat) p x i 0 4 = 0 := by
            by_cases z : offT h0 (fR (fun T y => offT h0 T p x y) T fr (i - fr).toNat) p x i 0 4 = 0
            · exact z
            · rw [hr, if_neg z] at cb10; exact absurd rfl cb10
          refine E_s 2 (i' := 2) (ls' := [some (.inr (.inr 28)), some (.inl p), some (.inl x), some (.inl fr), some (.inl be), some (.inl (i + 1))]) (sk' := []) (h' := hh2) rfl ?_
          exact ih2 _ (i + 1) (by omega) (Or.inr (by omega)) (by rw [fR_n hi0]; exact hGn) (by rw [fR_n hi0]; exact hsn) (by rw [fR_n hi0]; exact hon) (by omega)
        · rw [c_ne (by first | exact ⟨by omega, by omega⟩ | (rw [hr]; split <;> exact ⟨by omega, by omega⟩)) (by first | exact ⟨by omega, by omega⟩ | (rw [hr]; split <;> exact ⟨by omega, by omega⟩))] at cb10
          simp only [decide_eq_true_eq, decide_eq_false_iff_not, Decidable.not_not] at cb10
          show xEx G0 cdX3_offerEach (some .boolean) (xRn G0 MT (d + 4)) Q b 11 [some (.inr (.inr 28)), some (.inl p), some (.inl x), some (.inl fr), some (.inl be), some (.inl i)] [] hh2
          refine E_s 1 (i' := 12) (ls' := [some (.inr (.inr 28)), some (.inl p), some (.inl x), some (.inl fr), some (.inl be), some (.inl i)]) (sk' := [.inl 0]) (h' := hh2) rfl ?_
          exact E_ret (x := (.ireturn, 0, [], [])) (v := some (.inl 0)) rfl (Or.inr ⟨rfl, Or.inl rfl⟩) (by
            have hne : (fR (fun T y => offT h0 T p x y) T fr (i + 1 - fr).toNat) 0 4 ≠ 0 := by
              rw [fR_n hi0]
              intro z
              rw [hr, if_pos z] at cb10
              exact absurd cb10 (by decide)
            have he := fR_end (hi := be) (stp_t h0 p x) hi0 (by omega) hne
            have := hQ hh2 (by rw [he, fR_n hi0]; exact hGn)
            rw [he, if_neg hne] at this
            exact this)
  exact key2 _ h fr (Int.le_refl _) (Or.inl rfl) (by rw [Int.sub_self]; exact hG) (by rw [Int.sub_self]; exact STB.rf T) (by rw [Int.sub_self]; exact ho) (Nat.lt_succ_self _)
def tbg (h0 : xH) (s : Int) : Int := if 1 ≤ s ∧ s < 8 then h0 42 (s - 1) else 0
def ten (h0 : xH) (s : Int) : Int := if 1 ≤ s ∧ s < 8 then h0 42 s else 0
def ENT (h0 : xH) (K : Int) : Prop := ∀ s, 1 ≤ s → s ≤ 7 → 0 ≤ h0 42 (s - 1) ∧ h0 42 (s - 1) ≤ h0 42 s ∧ h0 42 s ≤ K
theorem tbe {h0 : xH} {K : Int} (h : ENT h0 K) (hK : 0 ≤ K) (s : Int) : 0 ≤ tbg h0 s ∧ tbg h0 s ≤ ten h0 s ∧ ten h0 s ≤ K := by
  unfold tbg ten
  by_cases z : 1 ≤ s ∧ s < 8
  · rw [if_pos z, if_pos z]
    exact h s z.1 (by omega)
  · rw [if_neg z, if_neg z]
    omega
theorem ENT_up {h0 : xH} {K K' : Int} (h : K ≤ K') (e : ENT h0 K) : ENT h0 K' := fun s h1 h2 => by
  have := e s h1 h2
  omega
set_option maxHeartbeats 1000000 in
theorem c_makeNots (d b : Nat) (h0 h T : xH) (hB : BT h0) (hG : GIT h0 h T) (ho : T 0 4 = 0) (hE : ENT h0 (T 0 0)) (z : Int) (hz : 3 ≤ z ∧ z ≤ 7) {Q : xO → xH → Prop} (hQ : ∀ h', GIT h0 h' (fR (fun T i => offT h0 T 2 i 0) T (tbg h0 (z - 1)) (ten h0 (z - 1) - (tbg h0 (z - 1))).toNat) → Q (.inl (some (.inl (if (fR (fun T i => offT h0 T 2 i 0) T (tbg h0 (z - 1)) (ten h0 (z - 1) - (tbg h0 (z - 1))).toNat) 0 4 = 0 then 1 else 0)))) h') : xRn G0 MT (d + 5) b 81 [.inr (.inr 28), .inl z] h Q := by
  refine R_of (M := mX9_makeNots) rfl (Nat.le_of_ble_eq_true rfl) ?_
  show xEx G0 cdX9_makeNots (some .boolean) (xRn G0 MT (d + 4)) Q b 0 [some (.inr (.inr 28)), some (.inl z), none] [] h
  have hS0 := hG.2.1.1
  have hS3 := hG.2.1.2.1
  have hed : h 42 = h0 42 := hG.2.2.1 42 (by decide)
  have hbe := tbe hE hS0 (z - 1)
  refine E_s 4 (i' := 4) (ls' := [some (.inr (.inr 28)), some (.inl z), none]) (sk' := [.inl (z - 1), .inr (.inr 28)]) (h' := h) rfl ?_
  refine E_ci (x := (.invokevirtual 51, 1, [(7, 30)], [1])) (r := (tbg h0 (z - 1))) (h' := h) rfl rfl (Nat.le_of_ble_eq_true rfl) (c_begin_gt (d + 3) 0 h (z - 1) ⟨by omega, by omega⟩ ⟨by unfold tbg; rw [hed], rfl⟩) ?_
  show xEx G0 cdX9_makeNots (some .boolean) (xRn G0 MT (d + 4)) Q b 5 [some (.inr (.inr 28)), some (.inl z), none] [.inl (tbg h0 (z - 1))] h
  refine E_s 1 (i' := 6) (ls' := [some (.inr (.inr 28)), some (.inl z), some (.inl (tbg h0 (z - 1)))]) (sk' := []) (h' := h) rfl ?_
  have key6 : ∀ (n : Nat) (hh : xH) (i : Int), (tbg h0 (z - 1) ≤ i) → (i = tbg h0 (z - 1) ∨ i ≤ ten h0 (z - 1)) → (GIT h0 hh (fR (fun T i => offT h0 T 2 i 0) T (tbg h0 (z - 1)) (i - (tbg h0 (z - 1))).toNat)) → (STB T (fR (fun T i => offT h0 T 2 i 0) T (tbg h0 (z - 1)) (i - (tbg h0 (z - 1))).toNat)) → ((fR (fun T i => offT h0 T 2 i 0) T (tbg h0 (z - 1)) (i - (tbg h0 (z - 1))).toNat) 0 4 = 0) → ((ten h0 (z - 1) - i).toNat) < n → xEx G0 cdX9_makeNots (some .boolean) (xRn G0 MT (d + 4)) Q b 6 [some (.inr (.inr 28)), some (.inl z), some (.inl i)] [] hh := by
    intro n
    induction n with
    | zero => intro hh i _ _ _ _ _ hm; exact absurd hm (Nat.not_lt_zero _)
    | succ n ih6 =>
      intro hh i hi0 hi9 hGi hst hoi hm6
      have hed : hh 42 = h0 42 := hGi.2.2.1 42 (by decide)
      refine E_s 5 (i' := 11) (ls' := [some (.inr (.inr 28)), some (.inl z), some (.inl i)]) (sk' := [.inl (z - 1), .inr (.inr 28), .inl i]) (h' := hh) rfl ?_
      refine E_ci (x := (.invokevirtual 52, 1, [(7, 31)], [1])) (r := (ten h0 (z - 1))) (h' := hh) rfl rfl (Nat.le_of_ble_eq_true rfl) (c_end_gt (d + 3) 0 hh (z - 1) ⟨by omega, by omega⟩ ⟨by unfold ten; rw [hed], rfl⟩) ?_
      show xEx G0 cdX9_makeNots (some .boolean) (xRn G0 MT (d + 4)) Q b 12 [some (.inr (.inr 28)), some (.inl z), some (.inl i)] [.inl (ten h0 (z - 1)), .inl i] hh
      refine E_b (x := (.if_icmp .ge 21, 23, [], [])) rfl rfl (fun cb12 => ?_) (fun cb12 => ?_)
      · rw [c_ge ⟨by omega, by omega⟩ ⟨by omega, by omega⟩] at cb12
        simp only [decide_eq_true_eq, decide_eq_false_iff_not, Decidable.not_not] at cb12
        show xEx G0 cdX9_makeNots (some .boolean) (xRn G0 MT (d + 4)) Q b 23 [some (.inr (.inr 28)), some (.inl z), some (.inl i)] [] hh
        refine E_s 1 (i' := 24) (ls' := [some (.inr (.inr 28)), some (.inl z), some (.inl i)]) (sk' := [.inl 1]) (h' := hh) rfl ?_
        exact E_ret (x := (.ireturn, 0, [], [])) (v := some (.inl 1)) rfl (Or.inr ⟨rfl, Or.inr rfl⟩) (by
          have e8 : i = ten h0 (z - 1) := by omega
          rw [e8] at hGi hoi
          have := hQ hh hGi
          rw [if_pos hoi] at this
          exact this)
      · rw [c_ge ⟨by omega, by omega⟩ ⟨by omega, by omega⟩] at cb12
        simp only [decide_eq_true_eq, decide_eq_false_iff_not, Decidable.not_not] at cb12
        show xEx G0 cdX9_makeNots (some .boolean) (xRn G0 MT (d + 4)) Q b 13 [some (.inr (.inr 28)), some (.inl z), some (.inl i)] [] hh
        refine E_s 4 (i' := 17) (ls' := [some (.inr (.inr 28)), some (.inl z), some (.inl i)]) (sk' := [.inl 0, .inl i, .inl 2, .inr (.inr 28)]) (h' := hh) rfl ?_
        have hok : okt h0 (fR (fun T i => offT h0 T 2 i 0) T (tbg h0 (z - 1)) (i - (tbg h0 (z - 1))).toNat) 2 i 0 := by unfold okt; have := hst.1; exact Or.inr (Or.inl ⟨rfl, by omega, by omega, rfl⟩)
        refine E_cp (x := (.invokevirtual 53, 3, [(7, 34)], [1])) (q := fun r h9 => r = (if offT h0 (fR (fun T i => offT h0 T 2 i 0) T (tbg h0 (z - 1)) (i - (tbg h0 (z - 1))).toNat) 2 i 0 0 4 = 0 then 1 else 0) ∧ GIT h0 h9 (offT h0 (fR (fun T i => offT h0 T 2 i 0) T (tbg h0 (z - 1)) (i - (tbg h0 (z - 1))).toNat) 2 i 0)) rfl rfl (Nat.le_of_ble_eq_true rfl) (c_offT d 0 h0 hh _ 2 i 0 hB hGi hoi hok (fun h9 h8 => ⟨_, rfl, rfl, h8⟩)) (fun r hh2 hq => ?_)
        obtain ⟨hr, hGn⟩ := hq
        have hsn := STB.tr (fun k z1 z2 => (hG.2.1.2.2.2.2.1 k z1 z2).1) hst (WT_off hB hGi.2.1 hok).2.1
        show xEx G0 cdX9_makeNots (some .boolean) (xRn G0 MT (d + 4)) Q b 18 [some (.inr (.inr 28)), some (.inl z), some (.inl i)] [.inl r] hh2
        refine E_b (x := (.ifCond .ne 5, 21, [], [])) rfl rfl (fun cb18 => ?_) (fun cb18 => ?_)
        · rw [c_ne (by first | exact ⟨by omega, by omega⟩ | (rw [hr]; split <;> exact ⟨by omega, by omega⟩)) (by first | exact ⟨by omega, by omega⟩ | (rw [hr]; split <;> exact ⟨by omega, by omega⟩))] at cb18
          simp only [decide_eq_true_eq, decide_eq_false_iff_not, Decidable.not_not] at cb18
          show xEx G0 cdX9_makeNots (some .boolean) (xRn G0 MT (d + 4)) Q b 21 [some (.inr (.inr 28)), some (.inl z), some (.inl i)] [] hh2
          have hon : offT h0 (fR (fun T i => offT h0 T 2 i 0) T (tbg h0 (z - 1)) (i - (tbg h0 (z - 1))).toNat) 2 i 0 0 4 = 0 := by
            by_cases z : offT h0 (fR (fun T i => offT h0 T 2 i 0) T (tbg h0 (z - 1)) (i - (tbg h0 (z - 1))).toNat) 2 i 0 0 4 = 0
            · exact z
            · rw [hr, if_neg z] at cb18; exact absurd rfl cb18
          refine E_s 2 (i' := 6) (ls' := [some (.inr (.inr 28)), some (.inl z), some (.inl (i + 1))]) (sk' := []) (h' := hh2) rfl ?_
          exact ih6 _ (i + 1) (by omega) (Or.inr (by omega)) (by rw [fR_n hi0]; exact hGn) (by rw [fR_n hi0]; exact hsn) (by rw [fR_n hi0]; exact hon) (by omega)
        · rw [c_ne (by first | exact ⟨by omega, by omega⟩ | (rw [hr]; split <;> exact ⟨by omega, by omega⟩)) (by first | exact ⟨by omega, by omega⟩ | (rw [hr]; split <;> exact ⟨by omega, by omega⟩))] at cb18
          simp only [decide_eq_true_eq, decide_eq_false_iff_not, Decidable.not_not] at cb18
          show xEx G0 cdX9_makeNots (some .boolean) (xRn G0 MT (d + 4)) Q b 19 [some (.inr (.inr 28)), some (.inl z), some (.inl i)] [] hh2
          refine E_s 1 (i' := 20) (ls' := [some (.inr (.inr 28)), some (.inl z), some (.inl i)]) (sk' := [.inl 0]) (h' := hh2) rfl ?_
          exact E_ret (x := (.ireturn, 0, [], [])) (v := some (.inl 0)) rfl (Or.inr ⟨rfl, Or.inl rfl⟩) (by
            have hne : (fR (fun T i => offT h0 T 2 i 0) T (tbg h0 (z - 1)) (i + 1 - (tbg h0 (z - 1))).toNat) 0 4 ≠ 0 := by
              rw [fR_n hi0]
              intro z
              rw [hr, if_pos z] at cb18
              exact absurd cb18 (by decide)
            have he := fR_end (hi := ten h0 (z - 1)) (stp_t1 h0 2) hi0 (by omega) hne
            have := hQ hh2 (by rw [he, fR_n hi0]; exact hGn)
            rw [he, if_neg hne] at this
            exact this)
  exact key6 _ h (tbg h0 (z - 1)) (Int.le_refl _) (Or.inl rfl) (by rw [Int.sub_self]; exact hG) (by rw [Int.sub_self]; exact STB.rf T) (by rw [Int.sub_self]; exact ho) (Nat.lt_succ_self _)
