noncomputable def offP (h0 S : xH) (c1 c2 c3 : Int) : xH := offE (h0 1 2) (rwf h0) (h0 6) (h0 9 15) S c1 c2 c3
/-- what holds as EXPRESSIONS of one SIZE are MADE, h0 as it began -/
def GI (h0 h S : xH) : Prop := RC h S ∧ WE (h0 1 2) S ∧ FG h0 h
def B0 (h0 : xH) : Prop := (0 ≤ h0 1 2 ∧ h0 1 2 ≤ 12) ∧ ∀ e, 0 ≤ e → e < h0 1 2 → xr (h0 6 e) ∧ ∀ j, xr (rwf h0 j e)
theorem FG.par {h0 h : xH} (f : FG h0 h) : h 1 = h0 1 ∧ rwf h = rwf h0 ∧ h 6 = h0 6 ∧ h 9 15 = h0 9 15 := by
  have e : ∀ a, a < 9 → h a = h0 a := fun a ha => f.1 a (Or.inl ha)
  refine ⟨e 1 (by decide), ?_, e 6 (by decide), f.2.2.2.2⟩
  funext j x
  unfold rwf
  rw [e 3 (by decide), e 4 (by decide), e 5 (by decide)]
theorem c_off (d b : Nat) (h0 h S : xH) (c1 c2 c3 : Int) (hB : B0 h0) (hG : GI h0 h S) (ho : S 0 4 = 0) (hc : okc S c1 c2 c3) {Q : xO → xH → Prop} (hQ : ∀ h', GI h0 h' (offP h0 S c1 c2 c3) → Q (.inl (some (.inl (if offP h0 S c1 c2 c3 0 4 = 0 then 1 else 0)))) h') : xRn G0 MT (d + 4) b 34 [.inr (.inr 9), .inl c1, .inl c2, .inl c3] h Q := by
  obtain ⟨hR, hW, hF⟩ := hG
  obtain ⟨e1, e2, e3, e4⟩ := hF.par
  refine c_offer d b h S c1 c2 c3 (by rw [e1]; exact hB.1) hR (by rw [e1]; exact hW) ho hc (by rw [e1, e2, e3]; exact hB.2) ?_
  rw [e1, e2, e3, e4]
  intro h' hR' hF'
  exact hQ h' ⟨hR', (WE_off hB.1 hW (fun e z1 z2 => (hB.2 e z1 z2).2) hc).1, FG.tr hF hF'⟩
theorem offP_s {h0 S : xH} (h : S 0 4 ≠ 0) (c1 c2 c3 : Int) : offP h0 S c1 c2 c3 = S := offE_s h
theorem offP_w {h0 S : xH} {c1 c2 c3 : Int} (hB : B0 h0) (hW : WE (h0 1 2) S) (hc : okc S c1 c2 c3) : WE (h0 1 2) (offP h0 S c1 c2 c3) ∧ STB S (offP h0 S c1 c2 c3) ∧ (offP h0 S c1 c2 c3) 0 2 + (offP h0 S c1 c2 c3) 0 3 = S 0 2 + S 0 3 := WE_off hB.1 hW (fun e z1 z2 => (hB.2 e z1 z2).2) hc
/-- a step that stands still once it is stopped -/
def stp (g : xH → Int → xH) : Prop := ∀ S, S 0 4 ≠ 0 → ∀ i, g S i = S
theorem fR_stop {g : xH → Int → xH} (hg : stp g) {S : xH} (h : S 0 4 ≠ 0) (lo : Int) (m : Nat) : fR g S lo m = S := fR_id m lo (fun i _ _ => hg S h i)
theorem stp_fR {g : xH → Int → Int → xH} {lo : Int → Int} {m : Int → Nat} (hg : ∀ j, stp (fun S i => g S j i)) : stp (fun S j => fR (fun S i => g S j i) S (lo j) (m j)) := fun S h j => fR_stop (hg j) h _ _
/-- the rest of a stopped run -/
theorem fR_end {g : xH → Int → xH} (hg : stp g) {S : xH} {lo i hi : Int} (h1 : lo ≤ i) (h2 : i < hi) (h : fR g S lo (i + 1 - lo).toNat 0 4 ≠ 0) : fR g S lo (hi - lo).toNat = fR g S lo (i + 1 - lo).toNat := by
  have e : (hi - lo).toNat = (i + 1 - lo).toNat + (hi - (i + 1)).toNat := by omega
  rw [e, fR_add]
  exact fR_stop hg h _ _
theorem fR_n {g : xH → Int → xH} {S : xH} {lo i : Int} (h1 : lo ≤ i) : fR g S lo (i + 1 - lo).toNat = g (fR g S lo (i - lo).toNat) i := by
  have e : (i + 1 - lo).toNat = (i - lo).toNat + 1 := by omega
  rw [e, fR_s]
  congr 1
  omega
set_option maxHeartbeats 1000000 in
theorem c_offerEach (d b : Nat) (h0 h S : xH) (p x fr be : Int) (hB : B0 h0) (hG : GI h0 h S) (ho : S 0 4 = 0) (hp : 0 ≤ p ∧ p ≤ 9) (hx : 0 ≤ x ∧ x < S 0 0) (hf : 0 ≤ fr ∧ fr ≤ 300) (hb : be ≤ S 0 0 ∧ -1 ≤ be) {Q : xO → xH → Prop} (hQ : ∀ h', GI h0 h' (fR (fun S y => offP h0 S p x y) S fr (be - fr).toNat) → Q (.inl (some (.inl (if (fR (fun S y => offP h0 S p x y) S fr (be - fr).toNat) 0 4 = 0 then 1 else 0)))) h') : xRn G0 MT (d + 5) b 35 [.inr (.inr 9), .inl p, .inl x, .inl fr, .inl be] h Q := by
  refine R_of (M := mX3_offerEach) rfl (Nat.le_of_ble_eq_true rfl) ?_
  show xEx G0 cdX3_offerEach (some .boolean) (xRn G0 MT (d + 4)) Q b 0 [some (.inr (.inr 9)), some (.inl p), some (.inl x), some (.inl fr), some (.inl be), none] [] h
  have hS0 := hG.2.1.1
  have hS3 := hG.2.1.2.1
  refine E_s 2 (i' := 2) (ls' := [some (.inr (.inr 9)), some (.inl p), some (.inl x), some (.inl fr), some (.inl be), some (.inl fr)]) (sk' := []) (h' := h) rfl ?_
  have key2 : ∀ (n : Nat) (hh : xH) (i : Int), (fr ≤ i) → (i = fr ∨ i ≤ be) → (GI h0 hh (fR (fun S y => offP h0 S p x y) S fr (i - fr).toNat)) → (STB S (fR (fun S y => offP h0 S p x y) S fr (i - fr).toNat)) → ((fR (fun S y => offP h0 S p x y) S fr (i - fr).toNat) 0 4 = 0) → ((be - i).toNat) < n → xEx G0 cdX3_offerEach (some .boolean) (xRn G0 MT (d + 4)) Q b 2 [some (.inr (.inr 9)), some (.inl p), some (.inl x), some (.inl fr), some (.inl be), some (.inl i)] [] hh := by
    intro n
    induction n with
    | zero => intro hh i _ _ _ _ _ hm; exact absurd hm (Nat.not_lt_zero _)
    | succ n ih2 =>
      intro hh i hi0 hi9 hGi hst hoi hm2
      refine E_s 2 (i' := 4) (ls' := [some (.inr (.inr 9)), some (.inl p), some (.inl x), some (.inl fr), some (.inl be), some (.inl i)]) (sk' := [.inl be, .inl i]) (h' := hh) rfl ?_
      refine E_b (x := (.if_icmp .ge 22, 15, [], [])) rfl rfl (fun cb4 => ?_) (fun cb4 => ?_)
      · rw [c_ge ⟨by omega, by omega⟩ ⟨by omega, by omega⟩] at cb4
        simp only [decide_eq_true_eq, decide_eq_false_iff_not, Decidable.not_not] at cb4
        show xEx G0 cdX3_offerEach (some .boolean) (xRn G0 MT (d + 4)) Q b 15 [some (.inr (.inr 9)), some (.inl p), some (.inl x), some (.inl fr), some (.inl be), some (.inl i)] [] hh
        refine E_s 1 (i' := 16) (ls' := [some (.inr (.inr 9)), some (.inl p), some (.inl x), some (.inl fr), some (.inl be), some (.inl i)]) (sk' := [.inl 1]) (h' := hh) rfl ?_
        exact E_ret (x := (.ireturn, 0, [], [])) (v := some (.inl 1)) rfl (Or.inr ⟨rfl, Or.inr rfl⟩) (by
          have e9 : (i - fr).toNat = (be - fr).toNat + (i - fr).toNat - (be - fr).toNat := by omega
          by_cases z : be ≤ fr
          · have e8 : i = fr := by omega
            subst e8
            have e7 : (be - i).toNat = 0 := by omega
            rw [e7] at hQ
            rw [Int.sub_self, Int.toNat_zero] at hGi hoi
            have := hQ hh hGi
            rw [if_pos hoi] at this
            exact this
          · have e8 : i = be := by omega
            subst e8
            have := hQ hh hGi
            rw [if_pos hoi] at this
            exact this)
      · rw [c_ge ⟨by omega, by omega⟩ ⟨by omega, by omega⟩] at cb4
        simp only [decide_eq_true_eq, decide_eq_false_iff_not, Decidable.not_not] at cb4
        show xEx G0 cdX3_offerEach (some .boolean) (xRn G0 MT (d + 4)) Q b 5 [some (.inr (.inr 9)), some (.inl p), some (.inl x), some (.inl fr), some (.inl be), some (.inl i)] [] hh
        refine E_s 4 (i' := 9) (ls' := [some (.inr (.inr 9)), some (.inl p), some (.inl x), some (.inl fr), some (.inl be), some (.inl i)]) (sk' := [.inl i, .inl x, .inl p, .inr (.inr 9)]) (h' := hh) rfl ?_
        have hok : okc (fR (fun S y => offP h0 S p x y) S fr (i - fr).toNat) p x i := by unfold okc; have := hst.1; omega
        refine E_cp (x := (.invokevirtual 144, 3, [(1, 34), (7, 34)], [1])) (q := fun r h9 => r = (if offP h0 (fR (fun S y => offP h0 S p x y) S fr (i - fr).toNat) p x i 0 4 = 0 then 1 else 0) ∧ GI h0 h9 (offP h0 (fR (fun S y => offP h0 S p x y) S fr (i - fr).toNat) p x i)) rfl rfl (Nat.le_of_ble_eq_true rfl) (c_off d 0 h0 hh _ p x i hB hGi hoi hok (fun h9 h8 => ⟨_, rfl, rfl, h8⟩)) (fun r hh2 hq => ?_)
        obtain ⟨hr, hGn⟩ := hq
        have hsn := STB.tr (fun k z1 z2 => (hG.2.1.2.2.2.2.1 k z1 z2).1) hst (offP_w hB hGi.2.1 hok).2.1
        show xEx G0 cdX3_offerEach (some .boolean) (xRn G0 MT (d + 4)) Q b 10 [some (.inr (.inr 9)), some (.inl p), some (.inl x), some (.inl fr), some (.inl be), some (.inl i)] [.inl r] hh2
        refine E_b (x := (.ifCond .ne 5, 13, [], [])) rfl rfl (fun cb10 => ?_) (fun cb10 => ?_)
        · rw [c_ne (by first | exact ⟨by omega, by omega⟩ | (rw [hr]; split <;> exact ⟨by omega, by omega⟩)) (by first | exact ⟨by omega, by omega⟩ | (rw [hr]; split <;> exact ⟨by omega, by omega⟩))] at cb10
          simp only [decide_eq_true_eq, decide_eq_false_iff_not, Decidable.not_not] at cb10
          show xEx G0 cdX3_offerEach (some .boolean) (xRn G0 MT (d + 4)) Q b 13 [some (.inr (.inr 9)), some (.inl p), some (.inl x), some (.inl fr), some (.inl be), some (.inl i)] [] hh2
          have hon : (offP h0 (fR (fun S y => offP h0 S p x y) S fr (i - fr).toNat) p x i) 0 4 = 0 := by
            by_cases z : (offP h0 (fR (fun S y => offP h0 S p x y) S fr (i - fr).toNat) p x i) 0 4 = 0
            · exact z
            · rw [hr, if_neg z] at cb10; exact absurd rfl cb10
          refine E_s 2 (i' := 2) (ls' := [some (.inr (.inr 9)), some (.inl p), some (.inl x), some (.inl fr), some (.inl be), some (.inl (i + 1))]) (sk' := []) (h' := hh2) rfl ?_
          exact ih2 _ (i + 1) (by omega) (Or.inr (by omega)) (by rw [fR_n hi0]; exact hGn) (by rw [fR_n hi0]; exact hsn) (by rw [fR_n hi0]; exact hon) (by omega)
        · rw [c_ne (by first | exact ⟨by omega, by omega⟩ | (rw [hr]; split <;> exact ⟨by omega, by omega⟩)) (by first | exact ⟨by omega, by omega⟩ | (rw [hr]; split <;> exact ⟨by omega, by omega⟩))] at cb10
          simp only [decide_eq_true_eq, decide_eq_false_iff_not, Decidable.not_not] at cb10
          show xEx G0 cdX3_offerEach (some .boolean) (xRn G0 MT (d + 4)) Q b 11 [some (.inr (.inr 9)), some (.inl p), some (.inl x), some (.inl fr), some (.inl be), some (.inl i)] [] hh2
          refine E_s 1 (i' := 12) (ls' := [some (.inr (.inr 9)), some (.inl p), some (.inl x), some (.inl fr), some (.inl be), some (.inl i)]) (sk' := [.inl 0]) (h' := hh2) rfl ?_
          exact E_ret (x := (.ireturn, 0, [], [])) (v := some (.inl 0)) rfl (Or.inr ⟨rfl, Or.inl rfl⟩) (by
            have hne : (fR (fun S y => offP h0 S p x y) S fr (i + 1 - fr).toNat) 0 4 ≠ 0 := by
              rw [fR_n hi0]
              intro z
              rw [hr, if_pos z] at cb10
              exact absurd cb10 (by decide)
            have he := fR_end (hi := be) (fun S h _ => by first | exact offP_s h _ _ _ | exact offP_s h _ _ _) hi0 (by omega) hne
            have := hQ hh2 (by rw [he, fR_n hi0]; exact hGn)
            rw [he, if_neg hne] at this
            exact this)
  exact key2 _ h fr (Int.le_refl _) (Or.inl rfl) (by rw [Int.sub_self]; exact hG) (by rw [Int.sub_self]; exact STB.rf S) (by rw [Int.sub_self]; exact ho) (Nat.lt_succ_self _)
set_option maxHeartbeats 1000000 in
theorem c_makeInputs (d b : Nat) (h0 h S : xH) (hB : B0 h0) (hG : GI h0 h S) (ho : S 0 4 = 0) (hm : 1 ≤ h0 1 1 ∧ h0 1 1 ≤ 3) {Q : xO → xH → Prop} (hQ : ∀ h', GI h0 h' (fR (fun S i => offP h0 S 10 i 0) S 0 (h0 1 1 - 0).toNat) → Q (.inl (some (.inl (if (fR (fun S i => offP h0 S 10 i 0) S 0 (h0 1 1 - 0).toNat) 0 4 = 0 then 1 else 0)))) h') : xRn G0 MT (d + 5) b 7 [.inr (.inr 9)] h Q := by
  refine R_of (M := mX1_makeInputs) rfl (Nat.le_of_ble_eq_true rfl) ?_
  show xEx G0 cdX1_makeInputs (some .boolean) (xRn G0 MT (d + 4)) Q b 0 [some (.inr (.inr 9)), none] [] h
  have hS0 := hG.2.1.1
  have hS3 := hG.2.1.2.1
  refine E_s 2 (i' := 2) (ls' := [some (.inr (.inr 9)), some (.inl 0)]) (sk' := []) (h' := h) rfl ?_
  have key2 : ∀ (n : Nat) (hh : xH) (i : Int), (0 ≤ i) → (i = 0 ∨ i ≤ h0 1 1) → (GI h0 hh (fR (fun S i => offP h0 S 10 i 0) S 0 (i - 0).toNat)) → (STB S (fR (fun S i => offP h0 S 10 i 0) S 0 (i - 0).toNat)) → ((fR (fun S i => offP h0 S 10 i 0) S 0 (i - 0).toNat) 0 4 = 0) → ((h0 1 1 - i).toNat) < n → xEx G0 cdX1_makeInputs (some .boolean) (xRn G0 MT (d + 4)) Q b 2 [some (.inr (.inr 9)), some (.inl i)] [] hh := by
    intro n
    induction n with
    | zero => intro hh i _ _ _ _ _ hm; exact absurd hm (Nat.not_lt_zero _)
    | succ n ih2 =>
      intro hh i hi0 hi9 hGi hst hoi hm2
      have hex : hh 1 = h0 1 := hGi.2.2.par.1
      have hmm : hh 1 1 = h0 1 1 := by rw [hex]
      refine E_s 4 (i' := 6) (ls' := [some (.inr (.inr 9)), some (.inl i)]) (sk' := [.inl (hh 1 1), .inl i]) (h' := hh) rfl ?_
      refine E_b (x := (.if_icmp .ge 22, 17, [], [])) rfl rfl (fun cb6 => ?_) (fun cb6 => ?_)
      · rw [c_ge ⟨by omega, by omega⟩ ⟨by omega, by omega⟩] at cb6
        simp only [decide_eq_true_eq, decide_eq_false_iff_not, Decidable.not_not] at cb6
        show xEx G0 cdX1_makeInputs (some .boolean) (xRn G0 MT (d + 4)) Q b 17 [some (.inr (.inr 9)), some (.inl i)] [] hh
        refine E_s 1 (i' := 18) (ls' := [some (.inr (.inr 9)), some (.inl i)]) (sk' := [.inl 1]) (h' := hh) rfl ?_
        exact E_ret (x := (.ireturn, 0, [], [])) (v := some (.inl 1)) rfl (Or.inr ⟨rfl, Or.inr rfl⟩) (by
          have e8 : i = h0 1 1 := by omega
          rw [e8] at hGi hoi
          have := hQ hh hGi
          rw [if_pos hoi] at this
          exact this)
      · rw [c_ge ⟨by omega, by omega⟩ ⟨by omega, by omega⟩] at cb6
        simp only [decide_eq_true_eq, decide_eq_false_iff_not, Decidable.not_not] at cb6
        show xEx G0 cdX1_makeInputs (some .boolean) (xRn G0 MT (d + 4)) Q b 7 [some (.inr (.inr 9)), some (.inl i)] [] hh
        refine E_s 4 (i' := 11) (ls' := [some (.inr (.inr 9)), some (.inl i)]) (sk' := [.inl 0, .inl i, .inl 10, .inr (.inr 9)]) (h' := hh) rfl ?_
        have hok : okc (fR (fun S i => offP h0 S 10 i 0) S 0 (i - 0).toNat) 10 i 0 := by unfold okc; exact Or.inl ⟨rfl, hi0, by omega, rfl⟩
        refine E_cp (x := (.invokevirtual 69, 3, [(1, 34)], [1])) (q := fun r h9 => r = (if offP h0 (fR (fun S i => offP h0 S 10 i 0) S 0 (i - 0).toNat) 10 i 0 0 4 = 0 then 1 else 0) ∧ GI h0 h9 (offP h0 (fR (fun S i => offP h0 S 10 i 0) S 0 (i - 0).toNat) 10 i 0)) rfl rfl (Nat.le_of_ble_eq_true rfl) (c_off d 0 h0 hh _ 10 i 0 hB hGi hoi hok (fun h9 h8 => ⟨_, rfl, rfl, h8⟩)) (fun r hh2 hq => ?_)
        obtain ⟨hr, hGn⟩ := hq
        have hsn := STB.tr (fun k z1 z2 => (hG.2.1.2.2.2.2.1 k z1 z2).1) hst (offP_w hB hGi.2.1 hok).2.1
        show xEx G0 cdX1_makeInputs (some .boolean) (xRn G0 MT (d + 4)) Q b 12 [some (.inr (.inr 9)), some (.inl i)] [.inl r] hh2
        refine E_b (x := (.ifCond .ne 5, 15, [], [])) rfl rfl (fun cb12 => ?_) (fun cb12 => ?_)
        · rw [c_ne (by first | exact ⟨by omega, by omega⟩ | (rw [hr]; split <;> exact ⟨by omega, by omega⟩)) (by first | exact ⟨by omega, by omega⟩ | (rw [hr]; split <;> exact ⟨by omega, by omega⟩))] at cb12
          simp only [decide_eq_true_eq, decide_eq_false_iff_not, Decidable.not_not] at cb12
          show xEx G0 cdX1_makeInputs (some .boolean) (xRn G0 MT (d + 4)) Q b 15 [some (.inr (.inr 9)), some (.inl i)] [] hh2
          have hon : (offP h0 (fR (fun S i => offP h0 S 10 i 0) S 0 (i - 0).toNat) 10 i 0) 0 4 = 0 := by
            by_cases z : (offP h0 (fR (fun S i => offP h0 S 10 i 0) S 0 (i - 0).toNat) 10 i 0) 0 4 = 0
            · exact z
            · rw [hr, if_neg z] at cb12; exact absurd rfl cb12
          refine E_s 2 (i' := 2) (ls' := [some (.inr (.inr 9)), some (.inl (i + 1))]) (sk' := []) (h' := hh2) rfl ?_
          exact ih2 _ (i + 1) (by omega) (Or.inr (by omega)) (by rw [fR_n hi0]; exact hGn) (by rw [fR_n hi0]; exact hsn) (by rw [fR_n hi0]; exact hon) (by omega)
        · rw [c_ne (by first | exact ⟨by omega, by omega⟩ | (rw [hr]; split <;> exact ⟨by omega, by omega⟩)) (by first | exact ⟨by omega, by omega⟩ | (rw [hr]; split <;> exact ⟨by omega, by omega⟩))] at cb12
          simp only [decide_eq_true_eq, decide_eq_false_iff_not, Decidable.not_not] at cb12
          show xEx G0 cdX1_makeInputs (some .boolean) (xRn G0 MT (d + 4)) Q b 13 [some (.inr (.inr 9)), some (.inl i)] [] hh2
          refine E_s 1 (i' := 14) (ls' := [some (.inr (.inr 9)), some (.inl i)]) (sk' := [.inl 0]) (h' := hh2) rfl ?_
          exact E_ret (x := (.ireturn, 0, [], [])) (v := some (.inl 0)) rfl (Or.inr ⟨rfl, Or.inl rfl⟩) (by
            have hne : (fR (fun S i => offP h0 S 10 i 0) S 0 (i + 1 - 0).toNat) 0 4 ≠ 0 := by
              rw [fR_n hi0]
              intro z
              rw [hr, if_pos z] at cb12
              exact absurd cb12 (by decide)
            have he := fR_end (hi := h0 1 1) (fun S h _ => by first | exact offP_s h _ _ _ | exact offP_s h _ _ _) hi0 (by omega) hne
            have := hQ hh2 (by rw [he, fR_n hi0]; exact hGn)
            rw [he, if_neg hne] at this
            exact this)
  exact key2 _ h 0 (Int.le_refl _) (Or.inl rfl) (by rw [Int.sub_self]; exact hG) (by rw [Int.sub_self]; exact STB.rf S) (by rw [Int.sub_self]; exact ho) (Nat.lt_succ_self _)
set_option maxHeartbeats 1000000 in
theorem c_makeConstants (d b : Nat) (h0 h S : xH) (hB : B0 h0) (hG : GI h0 h S) (ho : S 0 4 = 0) (hm : 2 ≤ h0 7 1 ∧ h0 7 1 ≤ 10) (hcr : ∀ i, 0 ≤ i → i < h0 7 1 → -99 ≤ h0 8 i ∧ h0 8 i ≤ 99) {Q : xO → xH → Prop} (hQ : ∀ h', GI h0 h' (fR (fun S i => offP h0 S 11 (h0 8 i) 0) S 0 (h0 7 1 - 0).toNat) → Q (.inl (some (.inl (if (fR (fun S i => offP h0 S 11 (h0 8 i) 0) S 0 (h0 7 1 - 0).toNat) 0 4 = 0 then 1 else 0)))) h') : xRn G0 MT (d + 5) b 8 [.inr (.inr 9)] h Q := by
  refine R_of (M := mX1_makeConstants) rfl (Nat.le_of_ble_eq_true rfl) ?_
  show xEx G0 cdX1_makeConstants (some .boolean) (xRn G0 MT (d + 4)) Q b 0 [some (.inr (.inr 9)), none] [] h
  have hS0 := hG.2.1.1
  have hS3 := hG.2.1.2.1
  refine E_s 2 (i' := 2) (ls' := [some (.inr (.inr 9)), some (.inl 0)]) (sk' := []) (h' := h) rfl ?_
  have key2 : ∀ (n : Nat) (hh : xH) (i : Int), (0 ≤ i) → (i = 0 ∨ i ≤ h0 7 1) → (GI h0 hh (fR (fun S i => offP h0 S 11 (h0 8 i) 0) S 0 (i - 0).toNat)) → (STB S (fR (fun S i => offP h0 S 11 (h0 8 i) 0) S 0 (i - 0).toNat)) → ((fR (fun S i => offP h0 S 11 (h0 8 i) 0) S 0 (i - 0).toNat) 0 4 = 0) → ((h0 7 1 - i).toNat) < n → xEx G0 cdX1_makeConstants (some .boolean) (xRn G0 MT (d + 4)) Q b 2 [some (.inr (.inr 9)), some (.inl i)] [] hh := by
    intro n
    induction n with
    | zero => intro hh i _ _ _ _ _ hm; exact absurd hm (Nat.not_lt_zero _)
    | succ n ih2 =>
      intro hh i hi0 hi9 hGi hst hoi hm2
      have hsu : hh 7 = h0 7 := hGi.2.2.1 7 (by decide)
      have hsc : hh 8 = h0 8 := hGi.2.2.1 8 (by decide)
      have hmm : hh 7 1 = h0 7 1 := by rw [hsu]
      refine E_s 4 (i' := 6) (ls' := [some (.inr (.inr 9)), some (.inl i)]) (sk' := [.inl (hh 7 1), .inl i]) (h' := hh) rfl ?_
      refine E_b (x := (.if_icmp .ge 30, 21, [], [])) rfl rfl (fun cb6 => ?_) (fun cb6 => ?_)
      · rw [c_ge ⟨by omega, by omega⟩ ⟨by omega, by omega⟩] at cb6
        simp only [decide_eq_true_eq, decide_eq_false_iff_not, Decidable.not_not] at cb6
        show xEx G0 cdX1_makeConstants (some .boolean) (xRn G0 MT (d + 4)) Q b 21 [some (.inr (.inr 9)), some (.inl i)] [] hh
        refine E_s 1 (i' := 22) (ls' := [some (.inr (.inr 9)), some (.inl i)]) (sk' := [.inl 1]) (h' := hh) rfl ?_
        exact E_ret (x := (.ireturn, 0, [], [])) (v := some (.inl 1)) rfl (Or.inr ⟨rfl, Or.inr rfl⟩) (by
          have e8 : i = h0 7 1 := by omega
          rw [e8] at hGi hoi
          have := hQ hh hGi
          rw [if_pos hoi] at this
          exact this)
      · rw [c_ge ⟨by omega, by omega⟩ ⟨by omega, by omega⟩] at cb6
        simp only [decide_eq_true_eq, decide_eq_false_iff_not, Decidable.not_not] at cb6
        show xEx G0 cdX1_makeConstants (some .boolean) (xRn G0 MT (d + 4)) Q b 7 [some (.inr (.inr 9)), some (.inl i)] [] hh
        refine E_s 6 (i' := 13) (ls' := [some (.inr (.inr 9)), some (.inl i)]) (sk' := [.inl i, .inr (.inr 8), .inl 11, .inr (.inr 9)]) (h' := hh) rfl ?_
        refine E_ld (x := (.iaload, 0, [], [])) (ty := .int) (n := 10) rfl rfl rfl (by omega) (by omega) ?_
        show xEx G0 cdX1_makeConstants (some .boolean) (xRn G0 MT (d + 4)) Q b 14 [some (.inr (.inr 9)), some (.inl i)] [.inl (hh 8 i), .inl 11, .inr (.inr 9)] hh
        rw [hsc]
        refine E_s 1 (i' := 15) (ls' := [some (.inr (.inr 9)), some (.inl i)]) (sk' := [.inl 0, .inl (h0 8 i), .inl 11, .inr (.inr 9)]) (h' := hh) rfl ?_
        have hok : okc (fR (fun S i => offP h0 S 11 (h0 8 i) 0) S 0 (i - 0).toNat) 11 (h0 8 i) 0 := by unfold okc; have := hcr i hi0 (by omega); exact Or.inr (Or.inl ⟨rfl, this.1, this.2, rfl⟩)
        refine E_cp (x := (.invokevirtual 69, 3, [(1, 34)], [1])) (q := fun r h9 => r = (if offP h0 (fR (fun S i => offP h0 S 11 (h0 8 i) 0) S 0 (i - 0).toNat) 11 (h0 8 i) 0 0 4 = 0 then 1 else 0) ∧ GI h0 h9 (offP h0 (fR (fun S i => offP h0 S 11 (h0 8 i) 0) S 0 (i - 0).toNat) 11 (h0 8 i) 0)) rfl rfl (Nat.le_of_ble_eq_true rfl) (c_off d 0 h0 hh _ 11 (h0 8 i) 0 hB hGi hoi hok (fun h9 h8 => ⟨_, rfl, rfl, h8⟩)) (fun r hh2 hq => ?_)
        obtain ⟨hr, hGn⟩ := hq
        have hsn := STB.tr (fun k z1 z2 => (hG.2.1.2.2.2.2.1 k z1 z2).1) hst (offP_w hB hGi.2.1 hok).2.1
        show xEx G0 cdX1_makeConstants (some .boolean) (xRn G0 MT (d + 4)) Q b 16 [some (.inr (.inr 9)), some (.inl i)] [.inl r] hh2
        refine E_b (x := (.ifCond .ne 5, 19, [], [])) rfl rfl (fun cb16 => ?_) (fun cb16 => ?_)
        · rw [c_ne (by first | exact ⟨by omega, by omega⟩ | (rw [hr]; split <;> exact ⟨by omega, by omega⟩)) (by first | exact ⟨by omega, by omega⟩ | (rw [hr]; split <;> exact ⟨by omega, by omega⟩))] at cb16
          simp only [decide_eq_true_eq, decide_eq_false_iff_not, Decidable.not_not] at cb16
          show xEx G0 cdX1_makeConstants (some .boolean) (xRn G0 MT (d + 4)) Q b 19 [some (.inr (.inr 9)), some (.inl i)] [] hh2
          have hon : (offP h0 (fR (fun S i => offP h0 S 11 (h0 8 i) 0) S 0 (i - 0).toNat) 11 (h0 8 i) 0) 0 4 = 0 := by
            by_cases z : (offP h0 (fR (fun S i => offP h0 S 11 (h0 8 i) 0) S 0 (i - 0).toNat) 11 (h0 8 i) 0) 0 4 = 0
            · exact z
            · rw [hr, if_neg z] at cb16; exact absurd rfl cb16
          refine E_s 2 (i' := 2) (ls' := [some (.inr (.inr 9)), some (.inl (i + 1))]) (sk' := []) (h' := hh2) rfl ?_
          exact ih2 _ (i + 1) (by omega) (Or.inr (by omega)) (by rw [fR_n hi0]; exact hGn) (by rw [fR_n hi0]; exact hsn) (by rw [fR_n hi0]; exact hon) (by omega)
        · rw [c_ne (by first | exact ⟨by omega, by omega⟩ | (rw [hr]; split <;> exact ⟨by omega, by omega⟩)) (by first | exact ⟨by omega, by omega⟩ | (rw [hr]; split <;> exact ⟨by omega, by omega⟩))] at cb16
          simp only [decide_eq_true_eq, decide_eq_false_iff_not, Decidable.not_not] at cb16
          show xEx G0 cdX1_makeConstants (some .boolean) (xRn G0 MT (d + 4)) Q b 17 [some (.inr (.inr 9)), some (.inl i)] [] hh2
          refine E_s 1 (i' := 18) (ls' := [some (.inr (.inr 9)), some (.inl i)]) (sk' := [.inl 0]) (h' := hh2) rfl ?_
          exact E_ret (x := (.ireturn, 0, [], [])) (v := some (.inl 0)) rfl (Or.inr ⟨rfl, Or.inl rfl⟩) (by
            have hne : (fR (fun S i => offP h0 S 11 (h0 8 i) 0) S 0 (i + 1 - 0).toNat) 0 4 ≠ 0 := by
              rw [fR_n hi0]
              intro z
              rw [hr, if_pos z] at cb16
              exact absurd cb16 (by decide)
            have he := fR_end (hi := h0 7 1) (fun S h _ => by first | exact offP_s h _ _ _ | exact offP_s h _ _ _) hi0 (by omega) hne
            have := hQ hh2 (by rw [he, fR_n hi0]; exact hGn)
            rw [he, if_neg hne] at this
            exact this)
  exact key2 _ h 0 (Int.le_refl _) (Or.inl rfl) (by rw [Int.sub_self]; exact hG) (by rw [Int.sub_self]; exact STB.rf S) (by rw [Int.sub_self]; exact ho) (Nat.lt_succ_self _)
def xbg (h0 : xH) (s : Int) : Int := if 1 ≤ s ∧ s < 10 then h0 23 (s - 1) else 0
def xen (h0 : xH) (s : Int) : Int := if 1 ≤ s ∧ s < 10 then h0 23 s else 0
/-- the numbers behind each SIZE, as a SIZE begins, K KEPT -/
def ENS (h0 : xH) (K : Int) : Prop := ∀ s, 1 ≤ s → s ≤ 9 → 0 ≤ h0 23 (s - 1) ∧ h0 23 (s - 1) ≤ h0 23 s ∧ h0 23 s ≤ K
theorem xbe {h0 : xH} {K : Int} (h : ENS h0 K) (hK : 0 ≤ K) (s : Int) : 0 ≤ xbg h0 s ∧ xbg h0 s ≤ xen h0 s ∧ xen h0 s ≤ K := by
  unfold xbg xen
  by_cases z : 1 ≤ s ∧ s < 10
  · rw [if_pos z, if_pos z]
    exact h s z.1 (by omega)
  · rw [if_neg z, if_neg z]
    omega
set_option maxHeartbeats 1000000 in
theorem c_makeOfOne (d b : Nat) (h0 h S : xH) (hB : B0 h0) (hG : GI h0 h S) (ho : S 0 4 = 0) (hE : ENS h0 (S 0 0)) (p s : Int) (hp : 0 ≤ p ∧ p ≤ 9) (hs : 2 ≤ s ∧ s ≤ 9) {Q : xO → xH → Prop} (hQ : ∀ h', GI h0 h' (fR (fun S i => offP h0 S p i 0) S (xbg h0 (s - 1)) (xen h0 (s - 1) - (xbg h0 (s - 1))).toNat) → Q (.inl (some (.inl (if (fR (fun S i => offP h0 S p i 0) S (xbg h0 (s - 1)) (xen h0 (s - 1) - (xbg h0 (s - 1))).toNat) 0 4 = 0 then 1 else 0)))) h') : xRn G0 MT (d + 5) b 9 [.inr (.inr 9), .inl p, .inl s] h Q := by
  refine R_of (M := mX1_makeOfOne) rfl (Nat.le_of_ble_eq_true rfl) ?_
  show xEx G0 cdX1_makeOfOne (some .boolean) (xRn G0 MT (d + 4)) Q b 0 [some (.inr (.inr 9)), some (.inl p), some (.inl s), none] [] h
  have hed : h 23 = h0 23 := hG.2.2.1 23 (by decide)
  have hbe := xbe hE hG.2.1.1 (s - 1)
  have hS0 := hG.2.1.1
  have hS3 := hG.2.1.2.1
  refine E_s 4 (i' := 4) (ls' := [some (.inr (.inr 9)), some (.inl p), some (.inl s), none]) (sk' := [.inl (s - 1), .inr (.inr 9)]) (h' := h) rfl ?_
  refine E_ci (x := (.invokevirtual 79, 1, [(1, 30)], [1])) (r := (xbg h0 (s - 1))) (h' := h) rfl rfl (Nat.le_of_ble_eq_true rfl) (c_begin_ge (d + 3) 0 h (s - 1) ⟨by omega, by omega⟩ ⟨by unfold xbg; rw [hed], rfl⟩) ?_
  show xEx G0 cdX1_makeOfOne (some .boolean) (xRn G0 MT (d + 4)) Q b 5 [some (.inr (.inr 9)), some (.inl p), some (.inl s), none] [.inl (xbg h0 (s - 1))] h
  refine E_s 1 (i' := 6) (ls' := [some (.inr (.inr 9)), some (.inl p), some (.inl s), some (.inl (xbg h0 (s - 1)))]) (sk' := []) (h' := h) rfl ?_
  have key6 : ∀ (n : Nat) (hh : xH) (i : Int), (xbg h0 (s - 1) ≤ i) → (i = xbg h0 (s - 1) ∨ i ≤ xen h0 (s - 1)) → (GI h0 hh (fR (fun S i => offP h0 S p i 0) S (xbg h0 (s - 1)) (i - (xbg h0 (s - 1))).toNat)) → (STB S (fR (fun S i => offP h0 S p i 0) S (xbg h0 (s - 1)) (i - (xbg h0 (s - 1))).toNat)) → ((fR (fun S i => offP h0 S p i 0) S (xbg h0 (s - 1)) (i - (xbg h0 (s - 1))).toNat) 0 4 = 0) → ((xen h0 (s - 1) - i).toNat) < n → xEx G0 cdX1_makeOfOne (some .boolean) (xRn G0 MT (d + 4)) Q b 6 [some (.inr (.inr 9)), some (.inl p), some (.inl s), some (.inl i)] [] hh := by
    intro n
    induction n with
    | zero => intro hh i _ _ _ _ _ hm; exact absurd hm (Nat.not_lt_zero _)
    | succ n ih6 =>
      intro hh i hi0 hi9 hGi hst hoi hm6
      have hed : hh 23 = h0 23 := hGi.2.2.1 23 (by decide)
      refine E_s 5 (i' := 11) (ls' := [some (.inr (.inr 9)), some (.inl p), some (.inl s), some (.inl i)]) (sk' := [.inl (s - 1), .inr (.inr 9), .inl i]) (h' := hh) rfl ?_
      refine E_ci (x := (.invokevirtual 83, 1, [(1, 31)], [1])) (r := (xen h0 (s - 1))) (h' := hh) rfl rfl (Nat.le_of_ble_eq_true rfl) (c_end_ge (d + 3) 0 hh (s - 1) ⟨by omega, by omega⟩ ⟨by unfold xen; rw [hed], rfl⟩) ?_
      show xEx G0 cdX1_makeOfOne (some .boolean) (xRn G0 MT (d + 4)) Q b 12 [some (.inr (.inr 9)), some (.inl p), some (.inl s), some (.inl i)] [.inl (xen h0 (s - 1)), .inl i] hh
      refine E_b (x := (.if_icmp .ge 21, 23, [], [])) rfl rfl (fun cb12 => ?_) (fun cb12 => ?_)
      · rw [c_ge ⟨by omega, by omega⟩ ⟨by omega, by omega⟩] at cb12
        simp only [decide_eq_true_eq, decide_eq_false_iff_not, Decidable.not_not] at cb12
        show xEx G0 cdX1_makeOfOne (some .boolean) (xRn G0 MT (d + 4)) Q b 23 [some (.inr (.inr 9)), some (.inl p), some (.inl s), some (.inl i)] [] hh
        refine E_s 1 (i' := 24) (ls' := [some (.inr (.inr 9)), some (.inl p), some (.inl s), some (.inl i)]) (sk' := [.inl 1]) (h' := hh) rfl ?_
        exact E_ret (x := (.ireturn, 0, [], [])) (v := some (.inl 1)) rfl (Or.inr ⟨rfl, Or.inr rfl⟩) (by
          have e8 : i = xen h0 (s - 1) := by omega
          rw [e8] at hGi hoi
          have := hQ hh hGi
          rw [if_pos hoi] at this
          exact this)
      · rw [c_ge ⟨by omega, by omega⟩ ⟨by omega, by omega⟩] at cb12
        simp only [decide_eq_true_eq, decide_eq_false_iff_not, Decidable.not_not] at cb12
        show xEx G0 cdX1_makeOfOne (some .boolean) (xRn G0 MT (d + 4)) Q b 13 [some (.inr (.inr 9)), some (.inl p), some (.inl s), some (.inl i)] [] hh
        refine E_s 4 (i' := 17) (ls' := [some (.inr (.inr 9)), some (.inl p), some (.inl s), some (.inl i)]) (sk' := [.inl 0, .inl i, .inl p, .inr (.inr 9)]) (h' := hh) rfl ?_
        have hok : okc (fR (fun S i => offP h0 S p i 0) S (xbg h0 (s - 1)) (i - (xbg h0 (s - 1))).toNat) p i 0 := by unfold okc; have := hst.1; exact Or.inr (Or.inr ⟨hp.1, hp.2, by omega, by omega, by omega, by omega⟩)
        refine E_cp (x := (.invokevirtual 69, 3, [(1, 34)], [1])) (q := fun r h9 => r = (if offP h0 (fR (fun S i => offP h0 S p i 0) S (xbg h0 (s - 1)) (i - (xbg h0 (s - 1))).toNat) p i 0 0 4 = 0 then 1 else 0) ∧ GI h0 h9 (offP h0 (fR (fun S i => offP h0 S p i 0) S (xbg h0 (s - 1)) (i - (xbg h0 (s - 1))).toNat) p i 0)) rfl rfl (Nat.le_of_ble_eq_true rfl) (c_off d 0 h0 hh _ p i 0 hB hGi hoi hok (fun h9 h8 => ⟨_, rfl, rfl, h8⟩)) (fun r hh2 hq => ?_)
        obtain ⟨hr, hGn⟩ := hq
        have hsn := STB.tr (fun k z1 z2 => (hG.2.1.2.2.2.2.1 k z1 z2).1) hst (offP_w hB hGi.2.1 hok).2.1
        show xEx G0 cdX1_makeOfOne (some .boolean) (xRn G0 MT (d + 4)) Q b 18 [some (.inr (.inr 9)), some (.inl p), some (.inl s), some (.inl i)] [.inl r] hh2
        refine E_b (x := (.ifCond .ne 5, 21, [], [])) rfl rfl (fun cb18 => ?_) (fun cb18 => ?_)
        · rw [c_ne (by first | exact ⟨by omega, by omega⟩ | (rw [hr]; split <;> exact ⟨by omega, by omega⟩)) (by first | exact ⟨by omega, by omega⟩ | (rw [hr]; split <;> exact ⟨by omega, by omega⟩))] at cb18
          simp only [decide_eq_true_eq, decide_eq_false_iff_not, Decidable.not_not] at cb18
          show xEx G0 cdX1_makeOfOne (some .boolean) (xRn G0 MT (d + 4)) Q b 21 [some (.inr (.inr 9)), some (.inl p), some (.inl s), some (.inl i)] [] hh2
          have hon : (offP h0 (fR (fun S i => offP h0 S p i 0) S (xbg h0 (s - 1)) (i - (xbg h0 (s - 1))).toNat) p i 0) 0 4 = 0 := by
            by_cases z : (offP h0 (fR (fun S i => offP h0 S p i 0) S (xbg h0 (s - 1)) (i - (xbg h0 (s - 1))).toNat) p i 0) 0 4 = 0
            · exact z
            · rw [hr, if_neg z] at cb18; exact absurd rfl cb18
          refine E_s 2 (i' := 6) (ls' := [some (.inr (.inr 9)), some (.inl p), some (.inl s), some (.inl (i + 1))]) (sk' := []) (h' := hh2) rfl ?_
          exact ih6 _ (i + 1) (by omega) (Or.inr (by omega)) (by rw [fR_n hi0]; exact hGn) (by rw [fR_n hi0]; exact hsn) (by rw [fR_n hi0]; exact hon) (by omega)
        · rw [c_ne (by first | exact ⟨by omega, by omega⟩ | (rw [hr]; split <;> exact ⟨by omega, by omega⟩)) (by first | exact ⟨by omega, by omega⟩ | (rw [hr]; split <;> exact ⟨by omega, by omega⟩))] at cb18
          simp only [decide_eq_true_eq, decide_eq_false_iff_not, Decidable.not_not] at cb18
          show xEx G0 cdX1_makeOfOne (some .boolean) (xRn G0 MT (d + 4)) Q b 19 [some (.inr (.inr 9)), some (.inl p), some (.inl s), some (.inl i)] [] hh2
          refine E_s 1 (i' := 20) (ls' := [some (.inr (.inr 9)), some (.inl p), some (.inl s), some (.inl i)]) (sk' := [.inl 0]) (h' := hh2) rfl ?_
          exact E_ret (x := (.ireturn, 0, [], [])) (v := some (.inl 0)) rfl (Or.inr ⟨rfl, Or.inl rfl⟩) (by
            have hne : (fR (fun S i => offP h0 S p i 0) S (xbg h0 (s - 1)) (i + 1 - (xbg h0 (s - 1))).toNat) 0 4 ≠ 0 := by
              rw [fR_n hi0]
              intro z
              rw [hr, if_pos z] at cb18
              exact absurd cb18 (by decide)
            have he := fR_end (hi := xen h0 (s - 1)) (fun S h _ => by first | exact offP_s h _ _ _ | exact offP_s h _ _ _) hi0 (by omega) hne
            have := hQ hh2 (by rw [he, fR_n hi0]; exact hGn)
            rw [he, if_neg hne] at this
            exact this)
  exact key6 _ h (xbg h0 (s - 1)) (Int.le_refl _) (Or.inl rfl) (by rw [Int.sub_self]; exact hG) (by rw [Int.sub_self]; exact STB.rf S) (by rw [Int.sub_self]; exact ho) (Nat.lt_succ_self _)
