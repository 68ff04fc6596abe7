noncomputable def offP (h0 S : xH) (c1 c2 c3 : Int) : xH := offE (h0 1 2) (rwf h0) (h0 6) (h0 9 15) S c1 c2 c3
/-- what holds as EXPRESSIONS of one SIZE are MADE, h0 as it began -/
def GI (h0 h S : xH) : Prop := RC h S ∧ WE (h0 1 2) S ∧ FG h0 h
def B0 (h0 : xH) : Prop := (0 ≤ h0 1 2 ∧ h0 1 2 ≤ 12) ∧ ∀ e, 0 ≤ e → e < h0 1 2 → xr (h0 6 e) ∧ ∀ j, xr (rwf h0 j e)
theorem FG.par {h0 h : xH} (f : FG h0 h) : h 1 = h0 1 ∧ rwf h = rwf h0 ∧ h 6 = h0 6 ∧ h 9 15 = h0 9 15 := by
  have e : ∀ a, a < 9 → h a = h0 a := fun a ha => f.1 a (Or.inl ha)
  refine ⟨e 1 (by decide), ?_, e 6 (by decide), f.2.2.2.2⟩
  funext j x
  unfold rwf
  rw [e 3 (by decide), e 4 (by decide), e 5 (by decide)]
theorem c_off (d b : Nat) (h0 h S : xH) (c1 c2 c3 : Int) (hB : B0 h0) (hG : GI h0 h S) (ho : S 0 4 = 0) (hc : okc S c1 c2 c3) {Q : xO → xH → Prop} (hQ : ∀ h', GI h0 h' (offP h0 S c1 c2 c3) → Q (.inl (some (.inl (if offP h0 S c1 c2 c3 0 4 = 0 then 1 else 0)))) h') : xRn G0 MT (d + 4) b 34 [.inr (.inr 9), .inl c1, .inl c2, .inl c3] h Q := by
  obtain ⟨hR, hW, hF⟩ := hG
  obtain ⟨e1, e2, e3, e4⟩ := hF.par
  refine c_offer d b h S c1 c2 c3 (by rw [e1]; exact hB.1) hR (by rw [e1]; exact hW) ho hc (by rw [e1, e2, e3]; exact hB.2) ?_
  rw [e1, e2, e3, e4]
  intro h' hR' hF'
  exact hQ h' ⟨hR', (WE_off hB.1 hW (fun e z1 z2 => (hB.2 e z1 z2).2) hc).1, FG.tr hF hF'⟩
theorem offP_s {h0 S : xH} (h : S 0 4 ≠ 0) (c1 c2 c3 : Int) : offP h0 S c1 c2 c3 = S := offE_s h
theorem offP_w {h0 S : xH} {c1 c2 c3 : Int} (hB : B0 h0) (hW : WE (h0 1 2) S) (hc : okc S c1 c2 c3) : WE (h0 1 2) (offP h0 S c1 c2 c3) ∧ STB S (offP h0 S c1 c2 c3) ∧ (offP h0 S c1 c2 c3) 0 2 + (offP h0 S c1 c2 c3) 0 3 = S 0 2 + S 0 3 := WE_off hB.1 hW (fun e z1 z2 => (hB.2 e z1 z2).2) hc
/-- a step that stands still once it is stopped -/
def stp (g : xH → Int → xH) : Prop := ∀ S, S 0 4 ≠ 0 → ∀ i, g S i = S
theorem fR_stop {g : xH → Int → xH} (hg : stp g) {S : xH} (h : S 0 4 ≠ 0) (lo : Int) (m : Nat) : fR g S lo m = S := fR_id m lo (fun i _ _ => hg S h i)
theorem stp_fR {g : xH → Int → Int → xH} {lo : Int → Int} {m : Int → Nat} (hg : ∀ j, stp (fun S i => g S j i)) : stp (fun S j => fR (fun S i => g S j i) S (lo j) (m j)) := fun S h j => fR_stop (hg j) h _ _
/-- the rest of a stopped run -/
theorem fR_end {g : xH → Int → xH} (hg : stp g) {S : xH} {lo i hi : Int} (h1 : lo ≤ i) (h2 : i < hi) (h : fR g S lo (i + 1 - lo).toNat 0 4 ≠ 0) : fR g S lo (hi - lo).toNat = fR g S lo (i + 1 - lo).toNat := by
  have e : (hi - lo).toNat = (i + 1 - lo).toNat + (hi - (i + 1)).toNat := by omega
  rw [e, fR_add]
  exact fR_stop hg h _ _
theorem fR_n {g : xH → Int → xH} {S : xH} {lo i : Int} (h1 : lo ≤ i) : fR g S lo (i + 1 - lo).toNat = g (fR g S lo (i - lo).toNat) i := by
  have e : (i + 1 - lo).toNat = (i - lo).toNat + 1 := by omega
  rw [e, fR_s]
  congr 1
  omega
set_option maxHeartbeats 1000000 in
theorem c_offerEach (d b : Nat) (h0 h S : xH) (p x fr be : Int) (hB : B0 h0) (hG : GI h0 h S) (ho : S 0 4 = 0) (hp : 0 ≤ p ∧ p ≤ 9) (hx : 0 ≤ x ∧ x < S 0 0) (hf : 0 ≤ fr ∧ fr ≤ 300) (hb : be ≤ S 0 0 ∧ -1 ≤ be) {Q : xO → xH → Prop} (hQ : ∀ h', GI h0 h' (fR (fun S y => offP h0 S p x y) S fr (be - fr).toNat) → Q (.inl (some (.inl (if (fR (fun S y => offP h0 S p x y) S fr (be - fr).toNat) 0 4 = 0 then 1 else 0)))) h') : xRn G0 MT (d + 5) b 35 [.inr (.inr 9), .inl p, .inl x, .inl fr, .inl be] h Q := by
  refine R_of (M := mX3_offerEach) rfl (Nat.le_of_ble_eq_true rfl) ?_
  show xEx G0 cdX3_offerEach (some .boolean) (xRn G0 MT (d + 4)) Q b 0 [some (.inr (.inr 9)), some (.inl p), some (.inl x), some (.inl fr), some (.inl be), none] [] h
  have hS0 := hG.2.1.1
  have hS3 := hG.2.1.2.1
  refine E_s 2 (i' := 2) (ls' := [some (.inr (.inr 9)), some (.inl p), some (.inl x), some (.inl fr), some (.inl be), some (.inl fr)]) (sk' := []) (h' := h) rfl ?_
  have key2 : ∀ (n : Nat) (hh : xH) (i : Int), (fr ≤ i) → (i = fr ∨ i ≤ be) → (GI h0 hh (fR (fun S y => offP h0 S p x y) S fr (i - fr).toNat)) → (STB S (fR (fun S y => offP h0 S p x y) S fr (i - fr).toNat)) → ((fR (fun S y => offP h0 S p x y) S fr (i - fr).toNat) 0 4 = 0) → ((be - i).toNat) < n → xEx G0 cdX3_offerEach (some .boolean) (xRn G0 MT (d + 4)) Q b 2 [some (.inr (.inr 9)), some (.inl p), some (.inl x), some (.inl fr), some (.inl be), some (.inl i)] [] hh := by
    intro n
    induction n with
    | zero => intro hh i _ _ _ _ _ hm; exact absurd hm (Nat.not_lt_zero _)
    | succ n ih2 =>
      intro hh i hi0 hi9 hGi hst hoi hm2
      refine E_s 2 (i' := 4) (ls' := [some (.inr (.inr 9)), some (.inl p), some (.inl x), some (.inl fr), some (.inl be), some (.inl i)]) (sk' := [.inl be, .inl i]) (h' := hh) rfl ?_
      refine E_b (x := (.if_icmp .ge 22, 15, [], [])) rfl rfl (fun cb4 => ?_) (fun cb4 => ?_)
      · rw [c_ge ⟨by omega, by omega⟩ ⟨by omega, by omega⟩] at cb4
        simp only [decide_eq_true_eq, decide_eq_false_iff_not, Decidable.not_not] at cb4
        show xEx G0 cdX3_offerEach (some .boolean) (xRn G0 MT (d + 4)) Q b 15 [some (.inr (.inr 9)), some (.inl p), some (.inl x), some (.inl fr), some (.inl be), some (.inl i)] [] hh
        refine E_s 1 (i' := 16) (ls' := [some (.inr (.inr 9)), some (.inl p), some (.inl x), some (.inl fr), some (.inl be), some (.inl i)]) (sk' := [.inl 1]) (h' := hh) rfl ?_
        exact E_ret (x := (.ireturn, 0, [], [])) (v := some (.inl 1)) rfl (Or.inr ⟨rfl, Or.inr rfl⟩) (by
          have e9 : (i - fr).toNat = (be - fr).toNat + (i - fr).toNat - (be - fr).toNat := by omega
          by_cases z : be ≤ fr
          · have e8 : i = fr := by omega
            subst e8
            have e7 : (be - i).toNat = 0 := by omega
            rw [e7] at hQ
            rw [Int.sub_self, Int.toNat_zero] at hGi hoi
            have := hQ hh hGi
            rw [if_pos hoi] at this
            exact this
          · have e8 : i = be := by omega
            subst e8
            have := hQ hh hGi
            rw [if_pos hoi] at this
            exact this)
      · rw [c_ge ⟨by omega, by omega⟩ ⟨by omega, by omega⟩] at cb4
        simp only [decide_eq_true_eq, decide_eq_false_iff_not, Decidable.not_not] at cb4
        show xEx G0 cdX3_offerEach (some .boolean) (xRn G0 MT (d + 4)) Q b 5 [some (.inr (.inr 9)), some (.inl p), some (.inl x), some (.inl fr), some (.inl be), some (.inl i)] [] hh
        refine E_s 4 (i' := 9) (ls' := [some (.inr (.inr 9)), some (.inl p), some (.inl x), some (.inl fr), some (.inl be), some (.inl i)]) (sk' := [.inl i, .inl x, .inl p, .inr (.inr 9)]) (h' := hh) rfl ?_
        have hok : okc (fR (fun S y => offP h0 S p x y) S fr (i - fr).toNat) p x i := by unfold okc; have := hst.1; omega
        refine E_cp (x := (.invokevirtual 144, 3, [(1, 34), (7, 34)], [1])) (q := fun r h9 => r = (if offP h0 (fR (fun S y => offP h0 S p x y) S fr (i - fr).toNat) p x i 0 4 = 0 then 1 else 0) ∧ GI h0 h9 (offP h0 (fR (fun S y => offP h0 S p x y) S fr (i - fr).toNat) p x i)) rfl rfl (Nat.le_of_ble_eq_true rfl) (c_off d 0 h0 hh _ p x i hB hGi hoi hok (fun h9 h8 => ⟨_, rfl, rfl, h8⟩)) (fun r hh2 hq => ?_)
        obtain ⟨hr, hGn⟩ := hq
        have hsn := STB.tr (fun k z1 z2 => (hG.2.1.2.2.2.2.1 k z1 z2).1) hst (offP_w hB hGi.2.1 hok).2.1
        show xEx G0 cdX3_offerEach (some .boolean) (xRn G0 MT (d + 4)) Q b 10 [some (.inr (.inr 9)), some (.inl p), some (.inl x), some (.inl fr), some (.inl be), some (.inl i)] [.inl r] hh2
        refine E_b (x := (.ifCond .ne 5, 13, [], [])) rfl rfl (fun cb10 => ?_) (fun cb10 => ?_)
        · rw [c_ne (by first | exact ⟨by omega, by omega⟩ | (rw [hr]; split <;> exact ⟨by omega, by omega⟩)) (by first | exact ⟨by omega, by omega⟩ | (rw [hr]; split <;> exact ⟨by omega, by omega⟩))] at cb10
          simp only [decide_eq_true_eq, decide_eq_false_iff_not, Decidable.not_not] at cb10
          show xEx G0 cdX3_offerEach (some .boolean) (xRn G0 MT (d + 4)) Q b 13 [some (.inr (.inr 9)), some (.inl p), some (.inl x), some (.inl fr), some (.inl be), some (.inl i)] [] hh2
          have hon : (offP h0 (fR (fun S y => offP h0 S p x y) S fr (i - fr).toNat) p x i) 0 4 = 0 := by
            by_cases z : (offP h0 (fR (fun S y => offP h0 S p x y) S fr (i - fr).toNat) p x i) 0 4 = 0
            · exact z
            · rw [hr, if_neg z] at cb10; exact absurd rfl cb10
          refine E_s 2 (i' := 2) (ls' := [some (.inr (.inr 9)), some (.inl p), some (.inl x), some (.inl fr), some (.inl be), some (.inl (i + 1))]) (sk' := []) (h' := hh2) rfl ?_
          exact ih2 _ (i + 1) (by omega) (Or.inr (by omega)) (by rw [fR_n hi0]; exact hGn) (by rw [fR_n hi0]; exact hsn) (by rw [fR_n hi0]; exact hon) (by omega)
        · rw [c_ne (by first | exact ⟨by omega, by omega⟩ | (rw [hr]; split <;> exact ⟨by omega, by omega⟩)) (by first | exact ⟨by omega, by omega⟩ | (rw [hr]; split <;> exact ⟨by omega, by omega⟩))] at cb10
          simp only [decide_eq_true_eq, decide_eq_false_iff_not, Decidable.not_not] at cb10
          show xEx G0 cdX3_offerEach (some .boolean) (xRn G0 MT (d + 4)) Q b 11 [some (.inr (.inr 9)), some (.inl p), some (.inl x), some (.inl fr), some (.inl be), some (.inl i)] [] hh2
          refine E_s 1 (i' := 12) (ls' := [some (.inr (.inr 9)), some (.inl p), some (.inl x), some (.inl fr), some (.inl be), some (.inl i)]) (sk' := [.inl 0]) (h' := hh2) rfl ?_
          exact E_ret (x := (.ireturn, 0, [], [])) (v := some (.inl 0)) rfl (Or.inr ⟨rfl, Or.inl rfl⟩) (by
            have hne : (fR (fun S y => offP h0 S p x y) S fr (i + 1 - fr).toNat) 0 4 ≠ 0 := by
              rw [fR_n hi0]
              intro z
              rw [hr, if_pos z] at cb10
              exact absurd cb10 (by decide)
            have he := fR_end (hi := be) (fun S h _ => by first | exact offP_s h _ _ _ | exact offP_s h _ _ _) hi0 (by omega) hne
            have := hQ hh2 (by rw [he, fR_n hi0]; exact hGn)
            rw [he, if_neg hne] at this
            exact this)
  exact key2 _ h fr (Int.le_refl _) (Or.inl rfl) (by rw [Int.sub_self]; exact hG) (by rw [Int.sub_self]; exact STB.rf S) (by rw [Int.sub_self]; exact ho) (Nat.lt_succ_self _)
