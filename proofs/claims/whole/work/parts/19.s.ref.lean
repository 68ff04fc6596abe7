noncomputable def rgb (h0 : xH) (p z a : Int) (S : xH) (b : Int) : xH := if S 4 a + S 4 b = z - 1 then offP h0 S p a b else S
def rlo (p a : Int) : Int := if p = 0 ∨ p = 2 ∨ p = 3 ∨ p = 4 then a else 0
noncomputable def rga (h0 : xH) (p z had : Int) (S : xH) (a : Int) : xH := if p = 5 ∨ p = 8 ∨ p = 9 then (if S 4 a = z - 1 then offP h0 S p a 0 else S) else fR (rgb h0 p z a) S (rlo p a) (had - rlo p a).toNat
noncomputable def rgp (h0 : xH) (z had : Int) (S : xH) (p : Int) : xH := if xand (xshr (h0 7 2) p) 1 = 1 then fR (rga h0 p z had) S 0 (had - 0).toNat else S
theorem stp_rb (h0 : xH) (p z a : Int) : stp (rgb h0 p z a) := by
  intro S h b
  unfold rgb
  split
  · exact offP_s h _ _ _
  · rfl
theorem stp_ra (h0 : xH) (p z had : Int) : stp (rga h0 p z had) := by
  intro S h a
  unfold rga
  split
  · split
    · exact offP_s h _ _ _
    · rfl
  · exact fR_stop (stp_rb h0 p z a) h _ _
theorem stp_rp (h0 : xH) (z had : Int) : stp (rgp h0 z had) := by
  intro S h p
  unfold rgp
  split
  · exact fR_stop (stp_ra h0 p z had) h _ _
  · rfl
theorem rgb_w {h0 S : xH} {p z a b : Int} (hB : B0 h0) (hW : WE (h0 1 2) S) (hp : 0 ≤ p ∧ p ≤ 9) (ha : 0 ≤ a ∧ a < S 0 0) (hb : 0 ≤ b ∧ b < S 0 0) : WE (h0 1 2) (rgb h0 p z a S b) ∧ STB S (rgb h0 p z a S b) := by
  unfold rgb
  split
  · have := offP_w hB hW (c1 := p) (c2 := a) (c3 := b) (Or.inr (Or.inr ⟨hp.1, hp.2, ha.1, ha.2, hb.1, hb.2⟩))
    exact ⟨this.1, this.2.1⟩
  · exact ⟨hW, STB.rf S⟩
/-- GROWTH by a step leaves what is KEPT -/
theorem fR_v {n : Int} {g : xH → Int → xH} {S : xH} {lo : Int} (hW : WE n S) : ∀ (m : Nat), (∀ (S' : xH) (i : Int), lo ≤ i → i < lo + m → WE n S' → STB S S' → WE n (g S' i) ∧ STB S' (g S' i)) → WE n (fR g S lo m) ∧ STB S (fR g S lo m)
  | 0, _ => ⟨hW, STB.rf S⟩
  | m + 1, hg => by
    obtain ⟨a, b⟩ := fR_v hW m (fun S' i h1 h2 => hg S' i h1 (by omega))
    obtain ⟨a2, b2⟩ := hg _ (lo + m) (by omega) (by omega) a b
    rw [fR_s]
    exact ⟨a2, STB.tr (fun k z1 z2 => (hW.2.2.2.2.1 k z1 z2).1) b b2⟩
theorem rga_w {h0 S : xH} {p z had a : Int} (hB : B0 h0) (hW : WE (h0 1 2) S) (hp : 0 ≤ p ∧ p ≤ 9) (hh : had ≤ S 0 0) (ha : 0 ≤ a ∧ a < had) : WE (h0 1 2) (rga h0 p z had S a) ∧ STB S (rga h0 p z had S a) := by
  have hl : 0 ≤ rlo p a := by unfold rlo; split <;> omega
  unfold rga
  split
  · split
    · have := offP_w hB hW (c1 := p) (c2 := a) (c3 := 0) (Or.inr (Or.inr ⟨hp.1, hp.2, ha.1, by omega, Int.le_refl _, by omega⟩))
      exact ⟨this.1, this.2.1⟩
    · exact ⟨hW, STB.rf S⟩
  · refine fR_v hW _ (fun S' i q1 q2 q3 q4 => rgb_w hB q3 hp ?_ ?_)
    · have := q4.1; omega
    · have := q4.1; omega
theorem rgp_w {h0 S : xH} {p z had : Int} (hB : B0 h0) (hW : WE (h0 1 2) S) (hp : 0 ≤ p ∧ p ≤ 9) (hh : had ≤ S 0 0) : WE (h0 1 2) (rgp h0 z had S p) ∧ STB S (rgp h0 z had S p) := by
  unfold rgp
  split
  · exact fR_v hW _ (fun S' i q1 q2 q3 q4 => rga_w hB q3 hp (Int.le_trans hh q4.1) (by omega))
  · exact ⟨hW, STB.rf S⟩
set_option maxHeartbeats 1000000 in
theorem r_makesBy (d b : Nat) (M0 : Int) (h0 h S : xH) (p z had : Int) (hB : B0 h0) (hzz : h0 9 15 = z) (hz : 2 ≤ z ∧ z ≤ 9) (hp : 0 ≤ p ∧ p ≤ 9) (hhad : 0 ≤ had ∧ had ≤ S 0 0) (hs4 : ∀ k, 0 ≤ k → k < had → 0 ≤ S 4 k ∧ S 4 k ≤ 9) (hG : RG M0 h0 h S) (ho : S 0 4 = 0) {Q : xO → xH → Prop} (hQ : ∀ h', RG M0 h0 h' (fR (rga h0 p z had) S 0 (had - 0).toNat) → FR h h' → Q (.inl (some (.inl (if (fR (rga h0 p z had) S 0 (had - 0).toNat) 0 4 = 0 then 1 else 0)))) h') : xRn G0 MT (d + 4) b 182 [.inr (.inr 66), .inl p, .inl z, .inl had] h Q := by
  refine R_of (M := mX12_makesBy) rfl (Nat.le_of_ble_eq_true rfl) ?_
  show xEx G0 cdX12_makesBy (some .boolean) (xRn G0 MT (d + 3)) Q b 0 [some (.inr (.inr 66)), some (.inl p), some (.inl z), some (.inl had), none, none] [] h
  have hn := hB.1
  have hK300 := hG.2.1.2.1
  refine E_s 2 (i' := 2) (ls' := [some (.inr (.inr 66)), some (.inl p), some (.inl z), some (.inl had), some (.inl 0), none]) (sk' := []) (h' := h) rfl ?_
  have key2 : ∀ (n : Nat) (hj : xH) (a : Int) (v5 : Option xV), (0 ≤ a) → (a ≤ had) → (RG M0 h0 hj (fR (rga h0 p z had) S 0 (a - 0).toNat)) → (STB S (fR (rga h0 p z had) S 0 (a - 0).toNat)) → (FR h hj) → ((fR (rga h0 p z had) S 0 (a - 0).toNat) 0 4 = 0) → ((had - a).toNat) < n → xEx G0 cdX12_makesBy (some .boolean) (xRn G0 MT (d + 3)) Q b 2 [some (.inr (.inr 66)), some (.inl p), some (.inl z), some (.inl had), some (.inl a), v5] [] hj := by
    intro n
    induction n with
    | zero => intro hj a v5 _ _ _ _ _ _ hm; exact absurd hm (Nat.not_lt_zero _)
    | succ n ih2 =>
      intro hj a v5 ha0 ha9 hGa hsa hFa hoa hm2
      generalize hSX : fR (rga h0 p z had) S 0 (a - 0).toNat = SX at hGa hsa hoa
      refine E_s 2 (i' := 4) (ls' := [some (.inr (.inr 66)), some (.inl p), some (.inl z), some (.inl had), some (.inl a), v5]) (sk' := [.inl had, .inl a]) (h' := hj) rfl ?_
      refine E_b (x := (.if_icmp .ge 106, 61, [], [])) rfl rfl (fun c4 => ?_) (fun c4 => ?_)
      · rw [c_ge (by first | assumption | (refine ⟨?_, ?_⟩ <;> omega) | (simp only [xr] at *; omega)) (by first | assumption | (refine ⟨?_, ?_⟩ <;> omega) | (simp only [xr] at *; omega))] at c4
        simp only [decide_eq_true_eq, decide_eq_false_iff_not, Decidable.not_not] at c4
        show xEx G0 cdX12_makesBy (some .boolean) (xRn G0 MT (d + 3)) Q b 61 [some (.inr (.inr 66)), some (.inl p), some (.inl z), some (.inl had), some (.inl a), v5] [] hj
        refine E_s 1 (i' := 62) (ls' := [some (.inr (.inr 66)), some (.inl p), some (.inl z), some (.inl had), some (.inl a), v5]) (sk' := [.inl 1]) (h' := hj) rfl ?_
        exact E_ret (x := (.ireturn, 0, [], [])) (v := some (.inl 1)) rfl (Or.inr ⟨rfl, Or.inr rfl⟩) (by
          have e8 : a = had := by omega
          rw [e8] at hSX
          rw [← hSX] at hGa hoa
          have h4 := hQ hj hGa hFa
          rw [if_pos hoa] at h4
          exact h4)
      · rw [c_ge (by first | assumption | (refine ⟨?_, ?_⟩ <;> omega) | (simp only [xr] at *; omega)) (by first | assumption | (refine ⟨?_, ?_⟩ <;> omega) | (simp only [xr] at *; omega))] at c4
        simp only [decide_eq_true_eq, decide_eq_false_iff_not, Decidable.not_not] at c4
        show xEx G0 cdX12_makesBy (some .boolean) (xRn G0 MT (d + 3)) Q b 5 [some (.inr (.inr 66)), some (.inl p), some (.inl z), some (.inl had), some (.inl a), v5] [] hj
        have hza : hj 75 a = SX 4 a := (hGa.1.1.2.2.1 a ha0 (by have := hsa.1; omega)).2.2.2.1
        have hzS : SX 4 a = S 4 a := (hsa.2 a ha0 (by omega)).2.2.2.1
        have hs4a := hs4 a ha0 (by omega)
        refine E_s 1 (i' := 6) (ls' := [some (.inr (.inr 66)), some (.inl p), some (.inl z), some (.inl had), some (.inl a), v5]) (sk' := [.inl p]) (h' := hj) rfl ?_
        refine E_cp (x := (.invokestatic 242, 1, [(0, 174)], [])) (q := fun r1 h9 => ((r1 = 1 ∧ (p = 5 ∨ p = 8 ∨ p = 9)) ∨ (r1 = 0 ∧ ¬ (p = 5 ∨ p = 8 ∨ p = 9))) ∧ hj = h9) rfl rfl (Nat.le_of_ble_eq_true rfl) (m_isOfOne (d + 2) 0 hj p ⟨by omega, by omega⟩ (fun z9 => ⟨1, rfl, Or.inl ⟨rfl, z9⟩, rfl⟩) (fun z9 => ⟨0, rfl, Or.inr ⟨rfl, z9⟩, rfl⟩)) (fun r1 h9 hr1 => ?_)
        obtain ⟨hr1, rfl⟩ := hr1
        show xEx G0 cdX12_makesBy (some .boolean) (xRn G0 MT (d + 3)) Q b 7 [some (.inr (.inr 66)), some (.inl p), some (.inl z), some (.inl had), some (.inl a), v5] [.inl r1] hj
        refine E_b (x := (.ifCond .eq 30, 25, [], [])) rfl rfl (fun c7 => ?_) (fun c7 => ?_)
        · rw [c_eq (by first | exact ⟨by omega, by omega⟩ | (rcases hr1 with q | q <;> exact ⟨by omega, by omega⟩)) (by first | exact ⟨by omega, by omega⟩ | (rcases hr1 with q | q <;> exact ⟨by omega, by omega⟩))] at c7
          simp only [decide_eq_true_eq, decide_eq_false_iff_not, Decidable.not_not] at c7
          show xEx G0 cdX12_makesBy (some .boolean) (xRn G0 MT (d + 3)) Q b 25 [some (.inr (.inr 66)), some (.inl p), some (.inl z), some (.inl had), some (.inl a), v5] [] hj
          have hone : ¬ (p = 5 ∨ p = 8 ∨ p = 9) := by
            rcases hr1 with q | q
            · omega
            · exact q.2
          refine E_s 1 (i' := 26) (ls' := [some (.inr (.inr 66)), some (.inl p), some (.inl z), some (.inl had), some (.inl a), v5]) (sk' := [.inl p]) (h' := hj) rfl ?_
          refine E_cp (x := (.invokestatic 248, 1, [(0, 175)], [])) (q := fun ev h9 => ((ev = 1 ∧ (p = 0 ∨ p = 2 ∨ p = 3 ∨ p = 4)) ∨ (ev = 0 ∧ ¬ (p = 0 ∨ p = 2 ∨ p = 3 ∨ p = 4))) ∧ hj = h9) rfl rfl (Nat.le_of_ble_eq_true rfl) (m_isAlikeRound (d + 2) 0 hj p hp (fun z9 => ⟨1, rfl, Or.inl ⟨rfl, z9⟩, rfl⟩) (fun z9 => ⟨0, rfl, Or.inr ⟨rfl, z9⟩, rfl⟩)) (fun ev h9 hev => ?_)
          obtain ⟨hev, rfl⟩ := hev
          show xEx G0 cdX12_makesBy (some .boolean) (xRn G0 MT (d + 3)) Q b 27 [some (.inr (.inr 66)), some (.inl p), some (.inl z), some (.inl had), some (.inl a), v5] [.inl ev] hj
          refine E_b (x := (.ifCond .eq 8, 30, [], [])) rfl rfl (fun c27 => ?_) (fun c27 => ?_)
          · rw [c_eq (by first | exact ⟨by omega, by omega⟩ | (rcases hev with q | q <;> exact ⟨by omega, by omega⟩)) (by first | exact ⟨by omega, by omega⟩ | (rcases hev with q | q <;> exact ⟨by omega, by omega⟩))] at c27
            simp only [decide_eq_true_eq, decide_eq_false_iff_not, Decidable.not_not] at c27
            show xEx G0 cdX12_makesBy (some .boolean) (xRn G0 MT (d + 3)) Q b 30 [some (.inr (.inr 66)), some (.inl p), some (.inl z), some (.inl had), some (.inl a), v5] [] hj
            refine E_s 2 (i' := 32) (ls' := [some (.inr (.inr 66)), some (.inl p), some (.inl z), some (.inl had), some (.inl a), some (.inl 0)]) (sk' := []) (h' := hj) rfl ?_
            have key32 : ∀ (n : Nat) (hb : xH) (y : Int), (rlo p a ≤ y) → (y ≤ had) → (RG M0 h0 hb (fR (rgb h0 p z a) SX (rlo p a) (y - rlo p a).toNat)) → (STB S (fR (rgb h0 p z a) SX (rlo p a) (y - rlo p a).toNat)) → (FR h hb) → ((fR (rgb h0 p z a) SX (rlo p a) (y - rlo p a).toNat) 0 4 = 0) → ((had - y).toNat) < n → xEx G0 cdX12_makesBy (some .boolean) (xRn G0 MT (d + 3)) Q b 32 [some (.inr (.inr 66)), some (.inl p), some (.inl z), some (.inl had), some (.inl a), some (.inl y)] [] hb := by
              intro n
              induction n with
              | zero => intro hb y _ _ _ _ _ _ hm; exact absurd hm (Nat.not_lt_zero _)
              | succ n ih32 =>
                intro hb y hy0 hy9 hGb hsb hFb hob hm32
                have hy00 : 0 ≤ y := by have h9 : 0 ≤ rlo p a := by { unfold rlo; split <;> omega }; omega
                generalize hSY : fR (rgb h0 p z a) SX (rlo p a) (y - rlo p a).toNat = SY at hGb hsb hob
                refine E_s 2 (i' := 34) (ls' := [some (.inr (.inr 66)), some (.inl p), some (.inl z), some (.inl had), some (.inl a), some (.inl y)]) (sk' := [.inl had, .inl y]) (h' := hb) rfl ?_
                refine E_b (x := (.if_icmp .ge 45, 59, [], [])) rfl rfl (fun c34 => ?_) (fun c34 => ?_)
                · rw [c_ge (by first | assumption | (refine ⟨?_, ?_⟩ <;> omega) | (simp only [xr] at *; omega)) (by first | assumption | (refine ⟨?_, ?_⟩ <;> omega) | (simp only [xr] at *; omega))] at c34
                  simp only [decide_eq_true_eq, decide_eq_false_iff_not, Decidable.not_not] at c34
                  show xEx G0 cdX12_makesBy (some .boolean) (xRn G0 MT (d + 3)) Q b 59 [some (.inr (.inr 66)), some (.inl p), some (.inl z), some (.inl had), some (.inl a), some (.inl y)] [] hb
                  have hX : rga h0 p z had SX a = SY := by unfold rga; rw [if_neg hone, ← hSY, show y = had by omega]
                  have hGx := hGb
                  rw [← hX] at hGx
                  have hFx := hFb
                  have hox := hob
                  rw [← hX] at hox
                  refine E_s 2 (i' := 2) (ls' := [some (.inr (.inr 66)), some (.inl p), some (.inl z), some (.inl had), some (.inl (a + 1)), some (.inl y)]) (sk' := []) (h' := hb) rfl ?_
                  exact ih2 hb (a + 1) _ (by omega) (by omega) (by rw [fR_n ha0, hSX]; exact hGx) (by rw [fR_n ha0, hSX]; exact STB.tr (fun k z1 z2 => (hG.2.1.2.2.2.2.1 k z1 z2).1) hsa (rga_w hB hGa.2.1 hp (by have := hsa.1; omega) (by omega)).2) hFx (by rw [fR_n ha0, hSX]; exact hox) (by omega)
                · rw [c_ge (by first | assumption | (refine ⟨?_, ?_⟩ <;> omega) | (simp only [xr] at *; omega)) (by first | assumption | (refine ⟨?_, ?_⟩ <;> omega) | (simp only [xr] at *; omega))] at c34
                  simp only [decide_eq_true_eq, decide_eq_false_iff_not, Decidable.not_not] at c34
                  show xEx G0 cdX12_makesBy (some .boolean) (xRn G0 MT (d + 3)) Q b 35 [some (.inr (.inr 66)), some (.inl p), some (.inl z), some (.inl had), some (.inl a), some (.inl y)] [] hb
                  have hza2 : hb 75 a = SY 4 a := (hGb.1.1.2.2.1 a ha0 (by have := hsb.1; omega)).2.2.2.1
                  have hzb2 : hb 75 y = SY 4 y := (hGb.1.1.2.2.1 y hy00 (by have := hsb.1; omega)).2.2.2.1
                  have hzS2 : SY 4 a = S 4 a := (hsb.2 a ha0 (by omega)).2.2.2.1
                  have hzS3 : SY 4 y = S 4 y := (hsb.2 y hy00 (by omega)).2.2.2.1
                  have hs4y := hs4 y hy00 (by omega)
                  refine E_s 3 (i' := 38) (ls' := [some (.inr (.inr 66)), some (.inl p), some (.inl z), some (.inl had), some (.inl a), some (.inl y)]) (sk' := [.inl a, .inr (.inr 75)]) (h' := hb) rfl ?_
                  refine E_ld (x := (.iaload, 0, [], [])) (ty := .int) (n := 300) rfl rfl rfl (by omega) (by omega) ?_
                  show xEx G0 cdX12_makesBy (some .boolean) (xRn G0 MT (d + 3)) Q b 39 [some (.inr (.inr 66)), some (.inl p), some (.inl z), some (.inl had), some (.inl a), some (.inl y)] [.inl (hb 75 a)] hb
                  refine E_s 3 (i' := 42) (ls' := [some (.inr (.inr 66)), some (.inl p), some (.inl z), some (.inl had), some (.inl a), some (.inl y)]) (sk' := [.inl y, .inr (.inr 75), .inl (hb 75 a)]) (h' := hb) rfl ?_
                  refine E_ld (x := (.iaload, 0, [], [])) (ty := .int) (n := 300) rfl rfl rfl (by omega) (by omega) ?_
                  show xEx G0 cdX12_makesBy (some .boolean) (xRn G0 MT (d + 3)) Q b 43 [some (.inr (.inr 66)), some (.inl p), some (.inl z), some (.inl had), some (.inl a), some (.inl y)] [.inl (hb 75 y), .inl (hb 75 a)] hb
                  refine E_s 4 (i' := 47) (ls' := [some (.inr (.inr 66)), some (.inl p), some (.inl z), some (.inl had), some (.inl a), some (.inl y)]) (sk' := [.inl (z - 1), .inl ((hb 75 a) + (hb 75 y))]) (h' := hb) rfl ?_
                  refine E_b (x := (.if_icmp .ne 18, 57, [], [])) rfl rfl (fun c47 => ?_) (fun c47 => ?_)
                  · rw [c_ne (by first | exact ⟨by omega, by omega⟩ | (rw [hza2, hzb2, hzS2, hzS3]; exact ⟨by omega, by omega⟩)) (by first | exact ⟨by omega, by omega⟩ | (rw [hza2, hzb2, hzS2, hzS3]; exact ⟨by omega, by omega⟩))] at c47
                    simp only [decide_eq_true_eq, decide_eq_false_iff_not, Decidable.not_not] at c47
                    show xEx G0 cdX12_makesBy (some .boolean) (xRn G0 MT (d + 3)) Q b 57 [some (.inr (.inr 66)), some (.inl p), some (.inl z), some (.inl had), some (.inl a), some (.inl y)] [] hb
                    have hX : rgb h0 p z a SY y = SY := by unfold rgb; rw [if_neg (by rw [← hza2, ← hzb2]; exact c47)]
                    have hGy := hGb
                    rw [← hX] at hGy
                    have hFy := hFb
                    have hoy := hob
                    rw [← hX] at hoy
                    refine E_s 2 (i' := 32) (ls' := [some (.inr (.inr 66)), some (.inl p), some (.inl z), some (.inl had), some (.inl a), some (.inl (y + 1))]) (sk' := []) (h' := hb) rfl ?_
                    exact ih32 hb (y + 1) (by omega) (by omega) (by rw [fR_n hy0, hSY]; exact hGy) (by rw [fR_n hy0, hSY]; exact STB.tr (fun k z1 z2 => (hG.2.1.2.2.2.2.1 k z1 z2).1) hsb (rgb_w hB hGb.2.1 hp (by have := hsb.1; omega) (by have := hsb.1; omega)).2) hFy (by rw [fR_n hy0, hSY]; exact hoy) (by omega)
                  · rw [c_ne (by first | exact ⟨by omega, by omega⟩ | (rw [hza2, hzb2, hzS2, hzS3]; exact ⟨by omega, by omega⟩)) (by first | exact ⟨by omega, by omega⟩ | (rw [hza2, hzb2, hzS2, hzS3]; exact ⟨by omega, by omega⟩))] at c47
                    simp only [decide_eq_true_eq, decide_eq_false_iff_not, Decidable.not_not] at c47
                    show xEx G0 cdX12_makesBy (some .boolean) (xRn G0 MT (d + 3)) Q b 48 [some (.inr (.inr 66)), some (.inl p), some (.inl z), some (.inl had), some (.inl a), some (.inl y)] [] hb
                    refine E_s 5 (i' := 53) (ls' := [some (.inr (.inr 66)), some (.inl p), some (.inl z), some (.inl had), some (.inl a), some (.inl y)]) (sk' := [.inl z, .inl y, .inl a, .inl p, .inr (.inr 66)]) (h' := hb) rfl ?_
                    have hoth : oth p y = y := by unfold oth; rw [if_neg (by omega)]
                    have hX : rgb h0 p z a SY y = offP h0 SY p a y := by unfold rgb; rw [if_pos (by rw [← hza2, ← hzb2]; exact c47)]
                    refine E_cp (x := (.invokevirtual 245, 4, [(10, 181)], [0])) (q := fun r h9 => r = (if rgb h0 p z a SY y 0 4 = 0 then 1 else 0) ∧ RG M0 h0 h9 (rgb h0 p z a SY y) ∧ FR h h9) rfl rfl (Nat.le_of_ble_eq_true rfl) ((by have h5 := r_makesOf d 0 M0 h0 hb SY p a y hB hGb hob hp ⟨ha0, by have := hsb.1; omega⟩ ⟨by omega, by have := hsb.1; omega⟩ (Q := fun o h9 => ∃ r, o = .inl (some (.inl r)) ∧ (r = (if rgb h0 p z a SY y 0 4 = 0 then 1 else 0) ∧ RG M0 h0 h9 (rgb h0 p z a SY y) ∧ FR h h9)) (fun h9 q1 q2 => ⟨_, rfl, by rw [hX], by rw [hX]; exact q1, FR.tr hFb q2⟩); rw [hoth, hzz] at h5; exact h5)) (fun r hb2 hq => ?_)
                    obtain ⟨hr, hGn, hFn⟩ := hq
                    show xEx G0 cdX12_makesBy (some .boolean) (xRn G0 MT (d + 3)) Q b 54 [some (.inr (.inr 66)), some (.inl p), some (.inl z), some (.inl had), some (.inl a), some (.inl y)] [.inl r] hb2
                    refine E_b (x := (.ifCond .ne 5, 57, [], [])) rfl rfl (fun c54 => ?_) (fun c54 => ?_)
                    · rw [c_ne (by first | exact ⟨by omega, by omega⟩ | (rw [hr]; split <;> exact ⟨by omega, by omega⟩)) (by first | exact ⟨by omega, by omega⟩ | (rw [hr]; split <;> exact ⟨by omega, by omega⟩))] at c54
                      simp only [decide_eq_true_eq, decide_eq_false_iff_not, Decidable.not_not] at c54
                      show xEx G0 cdX12_makesBy (some .boolean) (xRn G0 MT (d + 3)) Q b 57 [some (.inr (.inr 66)), some (.inl p), some (.inl z), some (.inl had), some (.inl a), some (.inl y)] [] hb2
                      have hGy := hGn
                      have hFy := hFn
                      have hoy : rgb h0 p z a SY y 0 4 = 0 := by
                        by_cases q : rgb h0 p z a SY y 0 4 = 0
                        · exact q
                        · rw [hr, if_neg q] at c54; exact absurd rfl c54
                      refine E_s 2 (i' := 32) (ls' := [some (.inr (.inr 66)), some (.inl p), some (.inl z), some (.inl had), some (.inl a), some (.inl (y + 1))]) (sk' := []) (h' := hb2) rfl ?_
                      exact ih32 hb2 (y + 1) (by omega) (by omega) (by rw [fR_n hy0, hSY]; exact hGy) (by rw [fR_n hy0, hSY]; exact STB.tr (fun k z1 z2 => (hG.2.1.2.2.2.2.1 k z1 z2).1) hsb (rgb_w hB hGb.2.1 hp (by have := hsb.1; omega) (by have := hsb.1; omega)).2) hFy (by rw [fR_n hy0, hSY]; exact hoy) (by omega)
                    · rw [c_ne (by first | exact ⟨by omega, by omega⟩ | (rw [hr]; split <;> exact ⟨by omega, by omega⟩)) (by first | exact ⟨by omega, by omega⟩ | (rw [hr]; split <;> exact ⟨by omega, by omega⟩))] at c54
                      simp only [decide_eq_true_eq, decide_eq_false_iff_not, Decidable.not_not] at c54
                      show xEx G0 cdX12_makesBy (some .boolean) (xRn G0 MT (d + 3)) Q b 55 [some (.inr (.inr 66)), some (.inl p), some (.inl z), some (.inl had), some (.inl a), some (.inl y)] [] hb2
                      refine E_s 1 (i' := 56) (ls' := [some (.inr (.inr 66)), some (.inl p), some (.inl z), some (.inl had), some (.inl a), some (.inl y)]) (sk' := [.inl 0]) (h' := hb2) rfl ?_
                      exact E_ret (x := (.ireturn, 0, [], [])) (v := some (.inl 0)) rfl (Or.inr ⟨rfl, Or.inl rfl⟩) (by
                        have hne0 : (fR (rgb h0 p z a) SX (rlo p a) (y + 1 - rlo p a).toNat) 0 4 ≠ 0 := by
                          rw [fR_n hy0, hSY]
                          intro q
                          rw [hr, if_pos q] at c54
                          exact absurd c54 (by decide)
                        have h0e := fR_end (hi := had) (stp_rb h0 p z a) hy0 (by omega) hne0
                        have hXa : rga h0 p z had SX a = rgb h0 p z a SY y := by unfold rga; rw [if_neg hone, h0e, fR_n hy0, hSY]
                        have hne : (fR (rga h0 p z had) S 0 (a + 1 - 0).toNat) 0 4 ≠ 0 := by
                          rw [fR_n ha0, hSX, hXa]
                          rw [fR_n hy0, hSY] at hne0
                          exact hne0
                        have h1 := fR_end (hi := had) (stp_ra h0 p z had) ha0 (by omega) hne
                        have h4 := hQ hb2 (by rw [h1, fR_n ha0, hSX]; exact (by rw [hXa]; exact hGn)) hFn
                        rw [h1, if_neg hne] at h4
                        exact h4)
            exact key32 _ hj 0 (by unfold rlo; first | (rw [if_pos (by omega)]; omega) | (rw [if_neg (by omega)]; omega)) (by omega) (by rw [show 0 - rlo p a = 0 by unfold rlo; first | (rw [if_pos (by omega)]; omega) | (rw [if_neg (by omega)]; omega)]; exact hGa) (by rw [show 0 - rlo p a = 0 by unfold rlo; first | (rw [if_pos (by omega)]; omega) | (rw [if_neg (by omega)]; omega)]; exact hsa) hFa (by rw [show 0 - rlo p a = 0 by unfold rlo; first | (rw [if_pos (by omega)]; omega) | (rw [if_neg (by omega)]; omega)]; exact hoa) (Nat.lt_succ_self _)
          · rw [c_eq (by first | exact ⟨by omega, by omega⟩ | (rcases hev with q | q <;> exact ⟨by omega, by omega⟩)) (by first | exact ⟨by omega, by omega⟩ | (rcases hev with q | q <;> exact ⟨by omega, by omega⟩))] at c27
            simp only [decide_eq_true_eq, decide_eq_false_iff_not, Decidable.not_not] at c27
            show xEx G0 cdX12_makesBy (some .boolean) (xRn G0 MT (d + 3)) Q b 28 [some (.inr (.inr 66)), some (.inl p), some (.inl z), some (.inl had), some (.inl a), v5] [] hj
            refine E_s 3 (i' := 32) (ls' := [some (.inr (.inr 66)), some (.inl p), some (.inl z), some (.inl had), some (.inl a), some (.inl a)]) (sk' := []) (h' := hj) rfl ?_
            have key32 : ∀ (n : Nat) (hb : xH) (y : Int), (rlo p a ≤ y) → (y ≤ had) → (RG M0 h0 hb (fR (rgb h0 p z a) SX (rlo p a) (y - rlo p a).toNat)) → (STB S (fR (rgb h0 p z a) SX (rlo p a) (y - rlo p a).toNat)) → (FR h hb) → ((fR (rgb h0 p z a) SX (rlo p a) (y - rlo p a).toNat) 0 4 = 0) → ((had - y).toNat) < n → xEx G0 cdX12_makesBy (some .boolean) (xRn G0 MT (d + 3)) Q b 32 [some (.inr (.inr 66)), some (.inl p), some (.inl z), some (.inl had), some (.inl a), some (.inl y)] [] hb := by
              intro n
              induction n with
              | zero => intro hb y _ _ _ _ _ _ hm; exact absurd hm (Nat.not_lt_zero _)
              | succ n ih32 =>
                intro hb y hy0 hy9 hGb hsb hFb hob hm32
                have hy00 : 0 ≤ y := by have h9 : 0 ≤ rlo p a := by { unfold rlo; split <;> omega }; omega
                generalize hSY : fR (rgb h0 p z a) SX (rlo p a) (y - rlo p a).toNat = SY at hGb hsb hob
                refine E_s 2 (i' := 34) (ls' := [some (.inr (.inr 66)), some (.inl p), some (.inl z), some (.inl had), some (.inl a), some (.inl y)]) (sk' := [.inl had, .inl y]) (h' := hb) rfl ?_
                refine E_b (x := (.if_icmp .ge 45, 59, [], [])) rfl rfl (fun c34 => ?_) (fun c34 => ?_)
                · rw [c_ge (by first | assumption | (refine ⟨?_, ?_⟩ <;> omega) | (simp only [xr] at *; omega)) (by first | assumption | (refine ⟨?_, ?_⟩ <;> omega) | (simp only [xr] at *; omega))] at c34
                  simp only [decide_eq_true_eq, decide_eq_false_iff_not, Decidable.not_not] at c34
                  show xEx G0 cdX12_makesBy (some .boolean) (xRn G0 MT (d + 3)) Q b 59 [some (.inr (.inr 66)), some (.inl p), some (.inl z), some (.inl had), some (.inl a), some (.inl y)] [] hb
                  have hX : rga h0 p z had SX a = SY := by unfold rga; rw [if_neg hone, ← hSY, show y = had by omega]
                  have hGx := hGb
                  rw [← hX] at hGx
                  have hFx := hFb
                  have hox := hob
                  rw [← hX] at hox
                  refine E_s 2 (i' := 2) (ls' := [some (.inr (.inr 66)), some (.inl p), some (.inl z), some (.inl had), some (.inl (a + 1)), some (.inl y)]) (sk' := []) (h' := hb) rfl ?_
                  exact ih2 hb (a + 1) _ (by omega) (by omega) (by rw [fR_n ha0, hSX]; exact hGx) (by rw [fR_n ha0, hSX]; exact STB.tr (fun k z1 z2 => (hG.2.1.2.2.2.2.1 k z1 z2).1) hsa (rga_w hB hGa.2.1 hp (by have := hsa.1; omega) (by omega)).2) hFx (by rw [fR_n ha0, hSX]; exact hox) (by omega)
                · rw [c_ge (by first | assumption | (refine ⟨?_, ?_⟩ <;> omega) | (simp only [xr] at *; omega)) (by first | assumption | (refine ⟨?_, ?_⟩ <;> omega) | (simp only [xr] at *; omega))] at c34
                  simp only [decide_eq_true_eq, decide_eq_false_iff_not, Decidable.not_not] at c34
                  show xEx G0 cdX12_makesBy (some .boolean) (xRn G0 MT (d + 3)) Q b 35 [some (.inr (.inr 66)), some (.inl p), some (.inl z), some (.inl had), some (.inl a), some (.inl y)] [] hb
                  have hza2 : hb 75 a = SY 4 a := (hGb.1.1.2.2.1 a ha0 (by have := hsb.1; omega)).2.2.2.1
                  have hzb2 : hb 75 y = SY 4 y := (hGb.1.1.2.2.1 y hy00 (by have := hsb.1; omega)).2.2.2.1
                  have hzS2 : SY 4 a = S 4 a := (hsb.2 a ha0 (by omega)).2.2.2.1
                  have hzS3 : SY 4 y = S 4 y := (hsb.2 y hy00 (by omega)).2.2.2.1
                  have hs4y := hs4 y hy00 (by omega)
                  refine E_s 3 (i' := 38) (ls' := [some (.inr (.inr 66)), some (.inl p), some (.inl z), some (.inl had), some (.inl a), some (.inl y)]) (sk' := [.inl a, .inr (.inr 75)]) (h' := hb) rfl ?_
                  refine E_ld (x := (.iaload, 0, [], [])) (ty := .int) (n := 300) rfl rfl rfl (by omega) (by omega) ?_
                  show xEx G0 cdX12_makesBy (some .boolean) (xRn G0 MT (d + 3)) Q b 39 [some (.inr (.inr 66)), some (.inl p), some (.inl z), some (.inl had), some (.inl a), some (.inl y)] [.inl (hb 75 a)] hb
                  refine E_s 3 (i' := 42) (ls' := [some (.inr (.inr 66)), some (.inl p), some (.inl z), some (.inl had), some (.inl a), some (.inl y)]) (sk' := [.inl y, .inr (.inr 75), .inl (hb 75 a)]) (h' := hb) rfl ?_
                  refine E_ld (x := (.iaload, 0, [], [])) (ty := .int) (n := 300) rfl rfl rfl (by omega) (by omega) ?_
                  show xEx G0 cdX12_makesBy (some .boolean) (xRn G0 MT (d + 3)) Q b 43 [some (.inr (.inr 66)), some (.inl p), some (.inl z), some (.inl had), some (.inl a), some (.inl y)] [.inl (hb 75 y), .inl (hb 75 a)] hb
                  refine E_s 4 (i' := 47) (ls' := [some (.inr (.inr 66)), some (.inl p), some (.inl z), some (.inl had), some (.inl a), some (.inl y)]) (sk' := [.inl (z - 1), .inl ((hb 75 a) + (hb 75 y))]) (h' := hb) rfl ?_
                  refine E_b (x := (.if_icmp .ne 18, 57, [], [])) rfl rfl (fun c47 => ?_) (fun c47 => ?_)
                  · rw [c_ne (by first | exact ⟨by omega, by omega⟩ | (rw [hza2, hzb2, hzS2, hzS3]; exact ⟨by omega, by omega⟩)) (by first | exact ⟨by omega, by omega⟩ | (rw [hza2, hzb2, hzS2, hzS3]; exact ⟨by omega, by omega⟩))] at c47
                    simp only [decide_eq_true_eq, decide_eq_false_iff_not, Decidable.not_not] at c47
                    show xEx G0 cdX12_makesBy (some .boolean) (xRn G0 MT (d + 3)) Q b 57 [some (.inr (.inr 66)), some (.inl p), some (.inl z), some (.inl had), some (.inl a), some (.inl y)] [] hb
                    have hX : rgb h0 p z a SY y = SY := by unfold rgb; rw [if_neg (by rw [← hza2, ← hzb2]; exact c47)]
                    have hGy := hGb
                    rw [← hX] at hGy
                    have hFy := hFb
                    have hoy := hob
                    rw [← hX] at hoy
                    refine E_s 2 (i' := 32) (ls' := [some (.inr (.inr 66)), some (.inl p), some (.inl z), some (.inl had), some (.inl a), some (.inl (y + 1))]) (sk' := []) (h' := hb) rfl ?_
                    exact ih32 hb (y + 1) (by omega) (by omega) (by rw [fR_n hy0, hSY]; exact hGy) (by rw [fR_n hy0, hSY]; exact STB.tr (fun k z1 z2 => (hG.2.1.2.2.2.2.1 k z1 z2).1) hsb (rgb_w hB hGb.2.1 hp (by have := hsb.1; omega) (by have := hsb.1; omega)).2) hFy (by rw [fR_n hy0, hSY]; exact hoy) (by omega)
                  · rw [c_ne (by first | exact ⟨by omega, by omega⟩ | (rw [hza2, hzb2, hzS2, hzS3]; exact ⟨by omega, by omega⟩)) (by first | exact ⟨by omega, by omega⟩ | (rw [hza2, hzb2, hzS2, hzS3]; exact ⟨by omega, by omega⟩))] at c47
                    simp only [decide_eq_true_eq, decide_eq_false_iff_not, Decidable.not_not] at c47
                    show xEx G0 cdX12_makesBy (some .boolean) (xRn G0 MT (d + 3)) Q b 48 [some (.inr (.inr 66)), some (.inl p), some (.inl z), some (.inl had), some (.inl a), some (.inl y)] [] hb
                    refine E_s 5 (i' := 53) (ls' := [some (.inr (.inr 66)), some (.inl p), some (.inl z), some (.inl had), some (.inl a), some (.inl y)]) (sk' := [.inl z, .inl y, .inl a, .inl p, .inr (.inr 66)]) (h' := hb) rfl ?_
                    have hoth : oth p y = y := by unfold oth; rw [if_neg (by omega)]
                    have hX : rgb h0 p z a SY y = offP h0 SY p a y := by unfold rgb; rw [if_pos (by rw [← hza2, ← hzb2]; exact c47)]
                    refine E_cp (x := (.invokevirtual 245, 4, [(10, 181)], [0])) (q := fun r h9 => r = (if rgb h0 p z a SY y 0 4 = 0 then 1 else 0) ∧ RG M0 h0 h9 (rgb h0 p z a SY y) ∧ FR h h9) rfl rfl (Nat.le_of_ble_eq_true rfl) ((by have h5 := r_makesOf d 0 M0 h0 hb SY p a y hB hGb hob hp ⟨ha0, by have := hsb.1; omega⟩ ⟨by omega, by have := hsb.1; omega⟩ (Q := fun o h9 => ∃ r, o = .inl (some (.inl r)) ∧ (r = (if rgb h0 p z a SY y 0 4 = 0 then 1 else 0) ∧ RG M0 h0 h9 (rgb h0 p z a SY y) ∧ FR h h9)) (fun h9 q1 q2 => ⟨_, rfl, by rw [hX], by rw [hX]; exact q1, FR.tr hFb q2⟩); rw [hoth, hzz] at h5; exact h5)) (fun r hb2 hq => ?_)
                    obtain ⟨hr, hGn, hFn⟩ := hq
                    show xEx G0 cdX12_makesBy (some .boolean) (xRn G0 MT (d + 3)) Q b 54 [some (.inr (.inr 66)), some (.inl p), some (.inl z), some (.inl had), some (.inl a), some (.inl y)] [.inl r] hb2
                    refine E_b (x := (.ifCond .ne 5, 57, [], [])) rfl rfl (fun c54 => ?_) (fun c54 => ?_)
                    · rw [c_ne (by first | exact ⟨by omega, by omega⟩ | (rw [hr]; split <;> exact ⟨by omega, by omega⟩)) (by first | exact ⟨by omega, by omega⟩ | (rw [hr]; split <;> exact ⟨by omega, by omega⟩))] at c54
                      simp only [decide_eq_true_eq, decide_eq_false_iff_not, Decidable.not_not] at c54
                      show xEx G0 cdX12_makesBy (some .boolean) (xRn G0 MT (d + 3)) Q b 57 [some (.inr (.inr 66)), some (.inl p), some (.inl z), some (.inl had), some (.inl a), some (.inl y)] [] hb2
                      have hGy := hGn
                      have hFy := hFn
                      have hoy : rgb h0 p z a SY y 0 4 = 0 := by
                        by_cases q : rgb h0 p z a SY y 0 4 = 0
                        · exact q
                        · rw [hr, if_neg q] at c54; exact absurd rfl c54
                      refine E_s 2 (i' := 32) (ls' := [some (.inr (.inr 66)), some (.inl p), some (.inl z), some (.inl had), some (.inl a), some (.inl (y + 1))]) (sk' := []) (h' := hb2) rfl ?_
                      exact ih32 hb2 (y + 1) (by omega) (by omega) (by rw [fR_n hy0, hSY]; exact hGy) (by rw [fR_n hy0, hSY]; exact STB.tr (fun k z1 z2 => (hG.2.1.2.2.2.2.1 k z1 z2).1) hsb (rgb_w hB hGb.2.1 hp (by have := hsb.1; omega) (by have := hsb.1; omega)).2) hFy (by rw [fR_n hy0, hSY]; exact hoy) (by omega)
                    · rw [c_ne (by first | exact ⟨by omega, by omega⟩ | (rw [hr]; split <;> exact ⟨by omega, by omega⟩)) (by first | exact ⟨by omega, by omega⟩ | (rw [hr]; split <;> exact ⟨by omega, by omega⟩))] at c54
                      simp only [decide_eq_true_eq, decide_eq_false_iff_not, Decidable.not_not] at c54
                      show xEx G0 cdX12_makesBy (some .boolean) (xRn G0 MT (d + 3)) Q b 55 [some (.inr (.inr 66)), some (.inl p), some (.inl z), some (.inl had), some (.inl a), some (.inl y)] [] hb2
                      refine E_s 1 (i' := 56) (ls' := [some (.inr (.inr 66)), some (.inl p), some (.inl z), some (.inl had), some (.inl a), some (.inl y)]) (sk' := [.inl 0]) (h' := hb2) rfl ?_
                      exact E_ret (x := (.ireturn, 0, [], [])) (v := some (.inl 0)) rfl (Or.inr ⟨rfl, Or.inl rfl⟩) (by
                        have hne0 : (fR (rgb h0 p z a) SX (rlo p a) (y + 1 - rlo p a).toNat) 0 4 ≠ 0 := by
                          rw [fR_n hy0, hSY]
                          intro q
                          rw [hr, if_pos q] at c54
                          exact absurd c54 (by decide)
                        have h0e := fR_end (hi := had) (stp_rb h0 p z a) hy0 (by omega) hne0
                        have hXa : rga h0 p z had SX a = rgb h0 p z a SY y := by unfold rga; rw [if_neg hone, h0e, fR_n hy0, hSY]
                        have hne : (fR (rga h0 p z had) S 0 (a + 1 - 0).toNat) 0 4 ≠ 0 := by
                          rw [fR_n ha0, hSX, hXa]
                          rw [fR_n hy0, hSY] at hne0
                          exact hne0
                        have h1 := fR_end (hi := had) (stp_ra h0 p z had) ha0 (by omega) hne
                        have h4 := hQ hb2 (by rw [h1, fR_n ha0, hSX]; exact (by rw [hXa]; exact hGn)) hFn
                        rw [h1, if_neg hne] at h4
                        exact h4)
            exact key32 _ hj a (by unfold rlo; first | (rw [if_pos (by omega)]; omega) | (rw [if_neg (by omega)]; omega)) (by omega) (by rw [show a - rlo p a = 0 by unfold rlo; first | (rw [if_pos (by omega)]; omega) | (rw [if_neg (by omega)]; omega)]; exact hGa) (by rw [show a - rlo p a = 0 by unfold rlo; first | (rw [if_pos (by omega)]; omega) | (rw [if_neg (by omega)]; omega)]; exact hsa) hFa (by rw [show a - rlo p a = 0 by unfold rlo; first | (rw [if_pos (by omega)]; omega) | (rw [if_neg (by omega)]; omega)]; exact hoa) (Nat.lt_succ_self _)
        · rw [c_eq (by first | exact ⟨by omega, by omega⟩ | (rcases hr1 with q | q <;> exact ⟨by omega, by omega⟩)) (by first | exact ⟨by omega, by omega⟩ | (rcases hr1 with q | q <;> exact ⟨by omega, by omega⟩))] at c7
          simp only [decide_eq_true_eq, decide_eq_false_iff_not, Decidable.not_not] at c7
          show xEx G0 cdX12_makesBy (some .boolean) (xRn G0 MT (d + 3)) Q b 8 [some (.inr (.inr 66)), some (.inl p), some (.inl z), some (.inl had), some (.inl a), v5] [] hj
          have hone : p = 5 ∨ p = 8 ∨ p = 9 := by
            rcases hr1 with q | q
            · exact q.2
            · omega
          refine E_s 3 (i' := 11) (ls' := [some (.inr (.inr 66)), some (.inl p), some (.inl z), some (.inl had), some (.inl a), v5]) (sk' := [.inl a, .inr (.inr 75)]) (h' := hj) rfl ?_
          refine E_ld (x := (.iaload, 0, [], [])) (ty := .int) (n := 300) rfl rfl rfl (by omega) (by omega) ?_
          show xEx G0 cdX12_makesBy (some .boolean) (xRn G0 MT (d + 3)) Q b 12 [some (.inr (.inr 66)), some (.inl p), some (.inl z), some (.inl had), some (.inl a), v5] [.inl (hj 75 a)] hj
          refine E_s 3 (i' := 15) (ls' := [some (.inr (.inr 66)), some (.inl p), some (.inl z), some (.inl had), some (.inl a), v5]) (sk' := [.inl (z - 1), .inl (hj 75 a)]) (h' := hj) rfl ?_
          refine E_b (x := (.if_icmp .ne 80, 59, [], [])) rfl rfl (fun c15 => ?_) (fun c15 => ?_)
          · rw [c_ne (by first | exact ⟨by omega, by omega⟩ | (rw [hza, hzS]; exact ⟨by omega, by omega⟩)) (by first | exact ⟨by omega, by omega⟩ | (rw [hza, hzS]; exact ⟨by omega, by omega⟩))] at c15
            simp only [decide_eq_true_eq, decide_eq_false_iff_not, Decidable.not_not] at c15
            show xEx G0 cdX12_makesBy (some .boolean) (xRn G0 MT (d + 3)) Q b 59 [some (.inr (.inr 66)), some (.inl p), some (.inl z), some (.inl had), some (.inl a), v5] [] hj
            have hX : rga h0 p z had SX a = SX := by unfold rga; rw [if_pos hone, if_neg (by rw [← hza]; exact c15)]
            have hGx := hGa
            rw [← hX] at hGx
            have hFx := hFa
            have hox := hoa
            rw [← hX] at hox
            refine E_s 2 (i' := 2) (ls' := [some (.inr (.inr 66)), some (.inl p), some (.inl z), some (.inl had), some (.inl (a + 1)), v5]) (sk' := []) (h' := hj) rfl ?_
            exact ih2 hj (a + 1) _ (by omega) (by omega) (by rw [fR_n ha0, hSX]; exact hGx) (by rw [fR_n ha0, hSX]; exact STB.tr (fun k z1 z2 => (hG.2.1.2.2.2.2.1 k z1 z2).1) hsa (rga_w hB hGa.2.1 hp (by have := hsa.1; omega) (by omega)).2) hFx (by rw [fR_n ha0, hSX]; exact hox) (by omega)
          · rw [c_ne (by first | exact ⟨by omega, by omega⟩ | (rw [hza, hzS]; exact ⟨by omega, by omega⟩)) (by first | exact ⟨by omega, by omega⟩ | (rw [hza, hzS]; exact ⟨by omega, by omega⟩))] at c15
            simp only [decide_eq_true_eq, decide_eq_false_iff_not, Decidable.not_not] at c15
            show xEx G0 cdX12_makesBy (some .boolean) (xRn G0 MT (d + 3)) Q b 16 [some (.inr (.inr 66)), some (.inl p), some (.inl z), some (.inl had), some (.inl a), v5] [] hj
            refine E_s 5 (i' := 21) (ls' := [some (.inr (.inr 66)), some (.inl p), some (.inl z), some (.inl had), some (.inl a), v5]) (sk' := [.inl z, .inl (-1), .inl a, .inl p, .inr (.inr 66)]) (h' := hj) rfl ?_
            have hoth : (-1 : Int) = oth p 0 := by unfold oth; rw [if_pos (Or.inr hone)]
            have hX : rga h0 p z had SX a = offP h0 SX p a 0 := by unfold rga; rw [if_pos hone, if_pos (by rw [← hza]; exact c15)]
            refine E_cp (x := (.invokevirtual 245, 4, [(10, 181)], [0])) (q := fun r h9 => r = (if rga h0 p z had SX a 0 4 = 0 then 1 else 0) ∧ RG M0 h0 h9 (rga h0 p z had SX a) ∧ FR h h9) rfl rfl (Nat.le_of_ble_eq_true rfl) ((by have h5 := r_makesOf d 0 M0 h0 hj SX p a 0 hB hGa hoa hp ⟨ha0, by have := hsa.1; omega⟩ ⟨Int.le_refl _, by have := hsa.1; omega⟩ (Q := fun o h9 => ∃ r, o = .inl (some (.inl r)) ∧ (r = (if rga h0 p z had SX a 0 4 = 0 then 1 else 0) ∧ RG M0 h0 h9 (rga h0 p z had SX a) ∧ FR h h9)) (fun h9 q1 q2 => ⟨_, rfl, by rw [hX], by rw [hX]; exact q1, FR.tr hFa q2⟩); rw [← hoth, hzz] at h5; exact h5)) (fun r hj2 hq => ?_)
            obtain ⟨hr, hGn, hFn⟩ := hq
            show xEx G0 cdX12_makesBy (some .boolean) (xRn G0 MT (d + 3)) Q b 22 [some (.inr (.inr 66)), some (.inl p), some (.inl z), some (.inl had), some (.inl a), v5] [.inl r] hj2
            refine E_b (x := (.ifCond .ne 68, 59, [], [])) rfl rfl (fun c22 => ?_) (fun c22 => ?_)
            · rw [c_ne (by first | exact ⟨by omega, by omega⟩ | (rw [hr]; split <;> exact ⟨by omega, by omega⟩)) (by first | exact ⟨by omega, by omega⟩ | (rw [hr]; split <;> exact ⟨by omega, by omega⟩))] at c22
              simp only [decide_eq_true_eq, decide_eq_false_iff_not, Decidable.not_not] at c22
              show xEx G0 cdX12_makesBy (some .boolean) (xRn G0 MT (d + 3)) Q b 59 [some (.inr (.inr 66)), some (.inl p), some (.inl z), some (.inl had), some (.inl a), v5] [] hj2
              have hGx := hGn
              have hFx := hFn
              have hox : rga h0 p z had SX a 0 4 = 0 := by
                by_cases q : rga h0 p z had SX a 0 4 = 0
                · exact q
                · rw [hr, if_neg q] at c22; exact absurd rfl c22
              refine E_s 2 (i' := 2) (ls' := [some (.inr (.inr 66)), some (.inl p), some (.inl z), some (.inl had), some (.inl (a + 1)), v5]) (sk' := []) (h' := hj2) rfl ?_
              exact ih2 hj2 (a + 1) _ (by omega) (by omega) (by rw [fR_n ha0, hSX]; exact hGx) (by rw [fR_n ha0, hSX]; exact STB.tr (fun k z1 z2 => (hG.2.1.2.2.2.2.1 k z1 z2).1) hsa (rga_w hB hGa.2.1 hp (by have := hsa.1; omega) (by omega)).2) hFx (by rw [fR_n ha0, hSX]; exact hox) (by omega)
            · rw [c_ne (by first | exact ⟨by omega, by omega⟩ | (rw [hr]; split <;> exact ⟨by omega, by omega⟩)) (by first | exact ⟨by omega, by omega⟩ | (rw [hr]; split <;> exact ⟨by omega, by omega⟩))] at c22
              simp only [decide_eq_true_eq, decide_eq_false_iff_not, Decidable.not_not] at c22
              show xEx G0 cdX12_makesBy (some .boolean) (xRn G0 MT (d + 3)) Q b 23 [some (.inr (.inr 66)), some (.inl p), some (.inl z), some (.inl had), some (.inl a), v5] [] hj2
              refine E_s 1 (i' := 24) (ls' := [some (.inr (.inr 66)), some (.inl p), some (.inl z), some (.inl had), some (.inl a), v5]) (sk' := [.inl 0]) (h' := hj2) rfl ?_
              exact E_ret (x := (.ireturn, 0, [], [])) (v := some (.inl 0)) rfl (Or.inr ⟨rfl, Or.inl rfl⟩) (by
                have hne : (fR (rga h0 p z had) S 0 (a + 1 - 0).toNat) 0 4 ≠ 0 := by
                  rw [fR_n ha0, hSX]
                  intro q
                  rw [hr, if_pos q] at c22
                  exact absurd c22 (by decide)
                have h1 := fR_end (hi := had) (stp_ra h0 p z had) ha0 (by omega) hne
                have h4 := hQ hj2 (by rw [h1, fR_n ha0, hSX]; exact hGn) hFn
                rw [h1, if_neg hne] at h4
                exact h4)
  exact key2 _ h 0 none (by omega) (by omega) (by exact hG) (by exact STB.rf S) (FR.rf h) (by exact ho) (Nat.lt_succ_self _)
noncomputable def mkR (h0 : xH) (z : Int) (S : xH) : xH := if z = 1 then (fR (fun S i => offP h0 S 11 (h0 8 i) 0) (fR (fun S i => offP h0 S 10 i 0) S 0 (h0 1 1 - 0).toNat) 0 (h0 7 1 - 0).toNat) else fR (rgp h0 z (S 0 0)) S 0 ((10 : Int) - 0).toNat
set_option maxHeartbeats 1000000 in
theorem r_makesSize (d b : Nat) (M0 : Int) (h0 h S : xH) (z : Int) (hB : B0 h0) (hm : 1 ≤ h0 1 1 ∧ h0 1 1 ≤ 3) (hcc : 2 ≤ h0 7 1 ∧ h0 7 1 ≤ 10) (hcr : ∀ i, 0 ≤ i → i < h0 7 1 → -99 ≤ h0 8 i ∧ h0 8 i ≤ 99) (hzz : h0 9 15 = z) (hz : 1 ≤ z ∧ z ≤ 9) (hs4 : ∀ k, 0 ≤ k → k < S 0 0 → 0 ≤ S 4 k ∧ S 4 k ≤ 9) (hG : RG M0 h0 h S) (ho : S 0 4 = 0) {Q : xO → xH → Prop} (hQ : ∀ h', RG M0 h0 h' (mkR h0 z S) → FR h h' → Q (.inl (some (.inl (if mkR h0 z S 0 4 = 0 then 1 else 0)))) h') : xRn G0 MT (d + 5) b 183 [.inr (.inr 66), .inl z] h Q := by
  refine R_of (M := mX12_makesSize) rfl (Nat.le_of_ble_eq_true rfl) ?_
  show xEx G0 cdX12_makesSize (some .boolean) (xRn G0 MT (d + 4)) Q b 0 [some (.inr (.inr 66)), some (.inl z), none, none] [] h
  have hn := hB.1
  have hS0 := hG.2.1.1
  have hK300 := hG.2.1.2.1
  have hk0 : h 66 8 = S 0 0 := hG.1.1.1
  refine E_s 2 (i' := 2) (ls' := [some (.inr (.inr 66)), some (.inl z), none, none]) (sk' := [.inl 1, .inl z]) (h' := h) rfl ?_
  refine E_b (x := (.if_icmp .ne 8, 6, [], [])) rfl rfl (fun c2 => ?_) (fun c2 => ?_)
  · rw [c_ne (by first | assumption | (refine ⟨?_, ?_⟩ <;> omega) | (simp only [xr] at *; omega)) (by first | assumption | (refine ⟨?_, ?_⟩ <;> omega) | (simp only [xr] at *; omega))] at c2
    simp only [decide_eq_true_eq, decide_eq_false_iff_not, Decidable.not_not] at c2
    show xEx G0 cdX12_makesSize (some .boolean) (xRn G0 MT (d + 4)) Q b 6 [some (.inr (.inr 66)), some (.inl z), none, none] [] h
    refine E_s 5 (i' := 11) (ls' := [some (.inr (.inr 66)), some (.inl z), some (.inl (h 66 8)), some (.inl 0)]) (sk' := []) (h' := h) rfl ?_
    have key11 : ∀ (n : Nat) (hh : xH) (p : Int), (0 ≤ p) → (p ≤ 10) → (RG M0 h0 hh (fR (rgp h0 z (S 0 0)) S 0 (p - 0).toNat)) → (STB S (fR (rgp h0 z (S 0 0)) S 0 (p - 0).toNat)) → (FR h hh) → ((fR (rgp h0 z (S 0 0)) S 0 (p - 0).toNat) 0 4 = 0) → ((10 - p).toNat) < n → xEx G0 cdX12_makesSize (some .boolean) (xRn G0 MT (d + 4)) Q b 11 [some (.inr (.inr 66)), some (.inl z), some (.inl (h 66 8)), some (.inl p)] [] hh := by
      intro n
      induction n with
      | zero => intro hh p _ _ _ _ _ _ hm; exact absurd hm (Nat.not_lt_zero _)
      | succ n ih11 =>
        intro hh p hi0 hi9 hGi hst hFi hoi hm11
        have hpa : hh 66 3 = h0 7 2 := hGi.2.2.2.2.2.1
        refine E_s 2 (i' := 13) (ls' := [some (.inr (.inr 66)), some (.inl z), some (.inl (h 66 8)), some (.inl p)]) (sk' := [.inl 10, .inl p]) (h' := hh) rfl ?_
        refine E_b (x := (.if_icmp .ge 33, 32, [], [])) rfl rfl (fun c13 => ?_) (fun c13 => ?_)
        · rw [c_ge (by first | assumption | (refine ⟨?_, ?_⟩ <;> omega) | (simp only [xr] at *; omega)) (by first | assumption | (refine ⟨?_, ?_⟩ <;> omega) | (simp only [xr] at *; omega))] at c13
          simp only [decide_eq_true_eq, decide_eq_false_iff_not, Decidable.not_not] at c13
          show xEx G0 cdX12_makesSize (some .boolean) (xRn G0 MT (d + 4)) Q b 32 [some (.inr (.inr 66)), some (.inl z), some (.inl (h 66 8)), some (.inl p)] [] hh
          refine E_s 1 (i' := 33) (ls' := [some (.inr (.inr 66)), some (.inl z), some (.inl (h 66 8)), some (.inl p)]) (sk' := [.inl 1]) (h' := hh) rfl ?_
          exact E_ret (x := (.ireturn, 0, [], [])) (v := some (.inl 1)) rfl (Or.inr ⟨rfl, Or.inr rfl⟩) (by
            have e8 : p = 10 := by omega
            rw [e8] at hGi hoi
            have e : mkR h0 z S = fR (rgp h0 z (S 0 0)) S 0 ((10 : Int) - 0).toNat := by unfold mkR; rw [if_neg c2]
            rw [e, if_pos hoi] at hQ
            exact hQ hh hGi hFi)
        · rw [c_ge (by first | assumption | (refine ⟨?_, ?_⟩ <;> omega) | (simp only [xr] at *; omega)) (by first | assumption | (refine ⟨?_, ?_⟩ <;> omega) | (simp only [xr] at *; omega))] at c13
          simp only [decide_eq_true_eq, decide_eq_false_iff_not, Decidable.not_not] at c13
          show xEx G0 cdX12_makesSize (some .boolean) (xRn G0 MT (d + 4)) Q b 14 [some (.inr (.inr 66)), some (.inl z), some (.inl (h 66 8)), some (.inl p)] [] hh
          
          refine E_s 7 (i' := 21) (ls' := [some (.inr (.inr 66)), some (.inl z), some (.inl (h 66 8)), some (.inl p)]) (sk' := [.inl 1, .inl (xand (xshr (hh 66 3) p) 1)]) (h' := hh) rfl ?_
          refine E_b (x := (.if_icmp .ne 15, 30, [], [])) rfl rfl (fun c21 => ?_) (fun c21 => ?_)
          · rw [c_ne (by first | exact ⟨by omega, by omega⟩ | exact xand_r _ _) (by first | exact ⟨by omega, by omega⟩ | exact xand_r _ _)] at c21
            simp only [decide_eq_true_eq, decide_eq_false_iff_not, Decidable.not_not] at c21
            show xEx G0 cdX12_makesSize (some .boolean) (xRn G0 MT (d + 4)) Q b 30 [some (.inr (.inr 66)), some (.inl z), some (.inl (h 66 8)), some (.inl p)] [] hh
            have hX : (rgp h0 z (S 0 0) (fR (rgp h0 z (S 0 0)) S 0 (p - 0).toNat) p) = (fR (rgp h0 z (S 0 0)) S 0 (p - 0).toNat) := by unfold rgp; rw [if_neg (by rw [← hpa]; exact c21)]
            have hGx := hGi
            rw [← hX] at hGx
            have hFx := hFi
            have hox := hoi
            rw [← hX] at hox
            refine E_s 2 (i' := 11) (ls' := [some (.inr (.inr 66)), some (.inl z), some (.inl (h 66 8)), some (.inl (p + 1))]) (sk' := []) (h' := hh) rfl ?_
            exact ih11 hh (p + 1) (by omega) (by omega) (by rw [fR_n hi0]; exact hGx) (by rw [fR_n hi0]; exact STB.tr (fun k z1 z2 => (hG.2.1.2.2.2.2.1 k z1 z2).1) hst (rgp_w hB hGi.2.1 (by omega) hst.1).2) hFx (by rw [fR_n hi0]; exact hox) (by omega)
          · rw [c_ne (by first | exact ⟨by omega, by omega⟩ | exact xand_r _ _) (by first | exact ⟨by omega, by omega⟩ | exact xand_r _ _)] at c21
            simp only [decide_eq_true_eq, decide_eq_false_iff_not, Decidable.not_not] at c21
            show xEx G0 cdX12_makesSize (some .boolean) (xRn G0 MT (d + 4)) Q b 22 [some (.inr (.inr 66)), some (.inl z), some (.inl (h 66 8)), some (.inl p)] [] hh
            have hmay : xand (xshr (h0 7 2) p) 1 = 1 := by rw [← hpa]; exact c21
            refine E_s 4 (i' := 26) (ls' := [some (.inr (.inr 66)), some (.inl z), some (.inl (h 66 8)), some (.inl p)]) (sk' := [.inl (h 66 8), .inl z, .inl p, .inr (.inr 66)]) (h' := hh) rfl ?_
            have hX : rgp h0 z (S 0 0) (fR (rgp h0 z (S 0 0)) S 0 (p - 0).toNat) p = fR (rga h0 p z (S 0 0)) (fR (rgp h0 z (S 0 0)) S 0 (p - 0).toNat) 0 (S 0 0 - 0).toNat := by unfold rgp; rw [if_pos hmay]
            refine E_cp (x := (.invokevirtual 254, 3, [(10, 182)], [0])) (q := fun r h9 => r = (if rgp h0 z (S 0 0) (fR (rgp h0 z (S 0 0)) S 0 (p - 0).toNat) p 0 4 = 0 then 1 else 0) ∧ RG M0 h0 h9 (rgp h0 z (S 0 0) (fR (rgp h0 z (S 0 0)) S 0 (p - 0).toNat) p) ∧ FR h h9) rfl rfl (Nat.le_of_ble_eq_true rfl) ((by rw [hk0]; exact r_makesBy d 0 M0 h0 hh (fR (rgp h0 z (S 0 0)) S 0 (p - 0).toNat) p z (S 0 0) hB hzz (by omega) (by omega) ⟨hS0, hst.1⟩ (fun k q1 q2 => by rw [(hst.2 k q1 q2).2.2.2.1]; exact hs4 k q1 q2) hGi hoi (fun h9 q1 q2 => ⟨_, rfl, by rw [hX], by rw [hX]; exact q1, FR.tr hFi q2⟩))) (fun r hh2 hq => ?_)
            obtain ⟨hr, hGn, hFn⟩ := hq
            show xEx G0 cdX12_makesSize (some .boolean) (xRn G0 MT (d + 4)) Q b 27 [some (.inr (.inr 66)), some (.inl z), some (.inl (h 66 8)), some (.inl p)] [.inl r] hh2
            refine E_b (x := (.ifCond .ne 5, 30, [], [])) rfl rfl (fun c27 => ?_) (fun c27 => ?_)
            · rw [c_ne (by first | exact ⟨by omega, by omega⟩ | (rw [hr]; split <;> exact ⟨by omega, by omega⟩)) (by first | exact ⟨by omega, by omega⟩ | (rw [hr]; split <;> exact ⟨by omega, by omega⟩))] at c27
              simp only [decide_eq_true_eq, decide_eq_false_iff_not, Decidable.not_not] at c27
              show xEx G0 cdX12_makesSize (some .boolean) (xRn G0 MT (d + 4)) Q b 30 [some (.inr (.inr 66)), some (.inl z), some (.inl (h 66 8)), some (.inl p)] [] hh2
              have hGx := hGn
              have hFx := hFn
              have hox : (rgp h0 z (S 0 0) (fR (rgp h0 z (S 0 0)) S 0 (p - 0).toNat) p) 0 4 = 0 := by
                by_cases q : (rgp h0 z (S 0 0) (fR (rgp h0 z (S 0 0)) S 0 (p - 0).toNat) p) 0 4 = 0
                · exact q
                · rw [hr, if_neg q] at c27; exact absurd rfl c27
              refine E_s 2 (i' := 11) (ls' := [some (.inr (.inr 66)), some (.inl z), some (.inl (h 66 8)), some (.inl (p + 1))]) (sk' := []) (h' := hh2) rfl ?_
              exact ih11 hh2 (p + 1) (by omega) (by omega) (by rw [fR_n hi0]; exact hGx) (by rw [fR_n hi0]; exact STB.tr (fun k z1 z2 => (hG.2.1.2.2.2.2.1 k z1 z2).1) hst (rgp_w hB hGi.2.1 (by omega) hst.1).2) hFx (by rw [fR_n hi0]; exact hox) (by omega)
            · rw [c_ne (by first | exact ⟨by omega, by omega⟩ | (rw [hr]; split <;> exact ⟨by omega, by omega⟩)) (by first | exact ⟨by omega, by omega⟩ | (rw [hr]; split <;> exact ⟨by omega, by omega⟩))] at c27
              simp only [decide_eq_true_eq, decide_eq_false_iff_not, Decidable.not_not] at c27
              show xEx G0 cdX12_makesSize (some .boolean) (xRn G0 MT (d + 4)) Q b 28 [some (.inr (.inr 66)), some (.inl z), some (.inl (h 66 8)), some (.inl p)] [] hh2
              refine E_s 1 (i' := 29) (ls' := [some (.inr (.inr 66)), some (.inl z), some (.inl (h 66 8)), some (.inl p)]) (sk' := [.inl 0]) (h' := hh2) rfl ?_
              exact E_ret (x := (.ireturn, 0, [], [])) (v := some (.inl 0)) rfl (Or.inr ⟨rfl, Or.inl rfl⟩) (by
                have hne : (fR (rgp h0 z (S 0 0)) S 0 (p + 1 - 0).toNat) 0 4 ≠ 0 := by
                  rw [fR_n hi0]
                  intro q
                  rw [hr, if_pos q] at c27
                  exact absurd c27 (by decide)
                have h1 := fR_end (hi := 10) (stp_rp h0 z (S 0 0)) hi0 (by omega) hne
                have e : mkR h0 z S = fR (rgp h0 z (S 0 0)) S 0 (p + 1 - 0).toNat := by unfold mkR; rw [if_neg c2, h1]
                rw [e, if_neg hne] at hQ
                exact hQ hh2 (by rw [fR_n hi0]; exact hGn) hFn)
    exact key11 _ h 0 (by omega) (by omega) (by exact hG) (by exact STB.rf S) (FR.rf h) (by exact ho) (Nat.lt_succ_self _)
  · rw [c_ne (by first | assumption | (refine ⟨?_, ?_⟩ <;> omega) | (simp only [xr] at *; omega)) (by first | assumption | (refine ⟨?_, ?_⟩ <;> omega) | (simp only [xr] at *; omega))] at c2
    simp only [decide_eq_true_eq, decide_eq_false_iff_not, Decidable.not_not] at c2
    show xEx G0 cdX12_makesSize (some .boolean) (xRn G0 MT (d + 4)) Q b 3 [some (.inr (.inr 66)), some (.inl z), none, none] [] h
    refine E_s 1 (i' := 4) (ls' := [some (.inr (.inr 66)), some (.inl z), none, none]) (sk' := [.inr (.inr 66)]) (h' := h) rfl ?_
    refine E_cp (x := (.invokevirtual 251, 0, [(10, 180)], [0])) (q := fun r h9 => r = (if (fR (fun S i => offP h0 S 11 (h0 8 i) 0) (fR (fun S i => offP h0 S 10 i 0) S 0 (h0 1 1 - 0).toNat) 0 (h0 7 1 - 0).toNat) 0 4 = 0 then 1 else 0) ∧ RG M0 h0 h9 (fR (fun S i => offP h0 S 11 (h0 8 i) 0) (fR (fun S i => offP h0 S 10 i 0) S 0 (h0 1 1 - 0).toNat) 0 (h0 7 1 - 0).toNat) ∧ FR h h9) rfl rfl (Nat.le_of_ble_eq_true rfl) (r_makesLeaves (d + 1) 0 M0 h0 h S (by rw [hzz]; exact c2) hB hm hcc hcr hG ho (fun h9 q1 q2 => ⟨_, rfl, rfl, q1, q2⟩)) (fun r h1 hq => ?_)
    obtain ⟨hr, hG1, hF1⟩ := hq
    show xEx G0 cdX12_makesSize (some .boolean) (xRn G0 MT (d + 4)) Q b 5 [some (.inr (.inr 66)), some (.inl z), none, none] [.inl r] h1
    exact E_ret (x := (.ireturn, 0, [], [])) (v := some (.inl r)) rfl (Or.inr ⟨rfl, by rw [hr]; split; exact Or.inr rfl; exact Or.inl rfl⟩) (by
      have e : mkR h0 z S = (fR (fun S i => offP h0 S 11 (h0 8 i) 0) (fR (fun S i => offP h0 S 10 i 0) S 0 (h0 1 1 - 0).toNat) 0 (h0 7 1 - 0).toNat) := by unfold mkR; rw [if_pos c2]
      rw [e] at hQ
      rw [hr]
      exact hQ h1 hG1 hF1)
