theorem ENS_up {h0 : xH} {K K' : Int} (h : K ≤ K') (e : ENS h0 K) : ENS h0 K' := fun s h1 h2 => by
  have := e s h1 h2
  omega
noncomputable def xg1 (h0 : xH) (p z : Int) (S : xH) : xH := fR (fun S i => offP h0 S p i 0) S (xbg h0 (z - 1)) (xen h0 (z - 1) - xbg h0 (z - 1)).toNat
/-- all of a PART -/
noncomputable def xgp (h0 : xH) (z : Int) (S : xH) (p : Int) : xH := if xand (xshr (h0 7 2) p) 1 = 1 then (if p = 5 ∨ p = 8 ∨ p = 9 then xg1 h0 p z S else fR (xgs h0 p z) S 1 (z - 1 - 1).toNat) else S
theorem stp_1 (h0 : xH) (p : Int) : stp (fun S i => offP h0 S p i 0) := fun _ h _ => offP_s h _ _ _
theorem stp_i (h0 : xH) : stp (fun S i => offP h0 S 10 i 0) := fun _ h _ => offP_s h _ _ _
theorem stp_c (h0 : xH) (f : Int → Int) : stp (fun S i => offP h0 S 11 (f i) 0) := fun _ h _ => offP_s h _ _ _
theorem stp_p (h0 : xH) (z : Int) : stp (xgp h0 z) := by
  intro S h p
  unfold xgp
  split
  · split
    · exact fR_stop (stp_1 h0 p) h _ _
    · exact fR_stop (stp_gs h0 p z) h _ _
  · rfl
theorem xga_w {h0 S : xH} {p s z a : Int} (hB : B0 h0) (hW : WE (h0 1 2) S) (hE : ENS h0 (S 0 0)) (hp : 0 ≤ p ∧ p ≤ 9) (ha : 0 ≤ a ∧ a < S 0 0) : WE (h0 1 2) (xga h0 p s z S a) ∧ STB S (xga h0 p s z S a) ∧ xga h0 p s z S a 0 2 + xga h0 p s z S a 0 3 = S 0 2 + S 0 3 := by
  have hbt := xbe hE hW.1 (z - 1 - s)
  have hf : 0 ≤ xfr h0 p a (z - 1 - s) := by unfold xfr; split <;> omega
  refine fR_w hW _ (fun S' i q1 q2 q3 q4 => offP_w hB q3 ?_)
  unfold okc
  have := q4.1
  exact Or.inr (Or.inr ⟨hp.1, hp.2, by omega, by omega, by omega, by omega⟩)
theorem xgs_w {h0 S : xH} {p s z : Int} (hB : B0 h0) (hW : WE (h0 1 2) S) (hE : ENS h0 (S 0 0)) (hp : 0 ≤ p ∧ p ≤ 9) : WE (h0 1 2) (xgs h0 p z S s) ∧ STB S (xgs h0 p z S s) ∧ xgs h0 p z S s 0 2 + xgs h0 p z S s 0 3 = S 0 2 + S 0 3 := by
  have hbt := xbe hE hW.1 s
  refine fR_w hW _ (fun S' i q1 q2 q3 q4 => ?_)
  have := q4.1
  exact xga_w hB q3 (ENS_up q4.1 hE) hp (by omega)
theorem xgp_w {h0 S : xH} {p z : Int} (hB : B0 h0) (hW : WE (h0 1 2) S) (hE : ENS h0 (S 0 0)) (hp : 0 ≤ p ∧ p ≤ 9) : WE (h0 1 2) (xgp h0 z S p) ∧ STB S (xgp h0 z S p) ∧ xgp h0 z S p 0 2 + xgp h0 z S p 0 3 = S 0 2 + S 0 3 := by
  unfold xgp
  split
  · split
    · have hbt := xbe hE hW.1 (z - 1)
      refine fR_w hW _ (fun S' i q1 q2 q3 q4 => offP_w hB q3 ?_)
      unfold okc
      have := q4.1
      exact Or.inr (Or.inr ⟨hp.1, hp.2, by omega, by omega, by omega, by omega⟩)
    · exact fR_w hW _ (fun S' i q1 q2 q3 q4 => xgs_w hB q3 (ENS_up q4.1 hE) hp)
  · exact ⟨hW, STB.rf S, rfl⟩
set_option maxHeartbeats 1000000 in
theorem c_makeAll1 (d b : Nat) (h0 h S : xH) (hB : B0 h0) (hG : GI h0 h S) (ho : S 0 4 = 0) (hm : 1 ≤ h0 1 1 ∧ h0 1 1 ≤ 3) (hcc : 2 ≤ h0 7 1 ∧ h0 7 1 ≤ 10) (hcr : ∀ i, 0 ≤ i → i < h0 7 1 → -99 ≤ h0 8 i ∧ h0 8 i ≤ 99) {Q : xO → xH → Prop} (hQ : ∀ h', GI h0 h' (fR (fun S i => offP h0 S 11 (h0 8 i) 0) (fR (fun S i => offP h0 S 10 i 0) S 0 (h0 1 1 - 0).toNat) 0 (h0 7 1 - 0).toNat) → Q (.inl (some (.inl (if (fR (fun S i => offP h0 S 11 (h0 8 i) 0) (fR (fun S i => offP h0 S 10 i 0) S 0 (h0 1 1 - 0).toNat) 0 (h0 7 1 - 0).toNat) 0 4 = 0 then 1 else 0)))) h') : xRn G0 MT (d + 6) b 6 [.inr (.inr 9), .inl 1] h Q := by
  refine R_of (M := mX1_makeAll) rfl (Nat.le_of_ble_eq_true rfl) ?_
  show xEx G0 cdX1_makeAll (some .boolean) (xRn G0 MT (d + 5)) Q b 0 [some (.inr (.inr 9)), some (.inl 1), none, none] [] h
  refine E_s 2 (i' := 2) (ls' := [some (.inr (.inr 9)), some (.inl 1), none, none]) (sk' := [.inl 1, .inl 1]) (h' := h) rfl ?_
  refine E_b (x := (.if_icmp .ne 23, 13, [], [])) rfl rfl (fun c2 => ?_) (fun c2 => ?_)
  · rw [c_ne (by first | assumption | (refine ⟨?_, ?_⟩ <;> omega) | (simp only [xr] at *; omega)) (by first | assumption | (refine ⟨?_, ?_⟩ <;> omega) | (simp only [xr] at *; omega))] at c2
    simp only [decide_eq_true_eq, decide_eq_false_iff_not, Decidable.not_not] at c2
    show xEx G0 cdX1_makeAll (some .boolean) (xRn G0 MT (d + 5)) Q b 13 [some (.inr (.inr 9)), some (.inl 1), none, none] [] h
    exact absurd c2 (by decide)
  · rw [c_ne (by first | assumption | (refine ⟨?_, ?_⟩ <;> omega) | (simp only [xr] at *; omega)) (by first | assumption | (refine ⟨?_, ?_⟩ <;> omega) | (simp only [xr] at *; omega))] at c2
    simp only [decide_eq_true_eq, decide_eq_false_iff_not, Decidable.not_not] at c2
    show xEx G0 cdX1_makeAll (some .boolean) (xRn G0 MT (d + 5)) Q b 3 [some (.inr (.inr 9)), some (.inl 1), none, none] [] h
    refine E_s 1 (i' := 4) (ls' := [some (.inr (.inr 9)), some (.inl 1), none, none]) (sk' := [.inr (.inr 9)]) (h' := h) rfl ?_
    refine E_cp (x := (.invokevirtual 38, 0, [(1, 7)], [0])) (q := fun r h9 => r = (if (fR (fun S i => offP h0 S 10 i 0) S 0 (h0 1 1 - 0).toNat) 0 4 = 0 then 1 else 0) ∧ GI h0 h9 (fR (fun S i => offP h0 S 10 i 0) S 0 (h0 1 1 - 0).toNat)) rfl rfl (Nat.le_of_ble_eq_true rfl) (c_makeInputs d 0 h0 h S hB hG ho hm (fun h9 h8 => ⟨_, rfl, rfl, h8⟩)) (fun r h1 hq => ?_)
    obtain ⟨hr, hG1⟩ := hq
    show xEx G0 cdX1_makeAll (some .boolean) (xRn G0 MT (d + 5)) Q b 5 [some (.inr (.inr 9)), some (.inl 1), none, none] [.inl r] h1
    refine E_b (x := (.ifCond .eq 14, 11, [], [])) rfl rfl (fun c5 => ?_) (fun c5 => ?_)
    · rw [c_eq (by first | exact ⟨by omega, by omega⟩ | (rw [hr]; split <;> exact ⟨by omega, by omega⟩)) (by first | exact ⟨by omega, by omega⟩ | (rw [hr]; split <;> exact ⟨by omega, by omega⟩))] at c5
      simp only [decide_eq_true_eq, decide_eq_false_iff_not, Decidable.not_not] at c5
      show xEx G0 cdX1_makeAll (some .boolean) (xRn G0 MT (d + 5)) Q b 11 [some (.inr (.inr 9)), some (.inl 1), none, none] [] h1
      refine E_s 1 (i' := 12) (ls' := [some (.inr (.inr 9)), some (.inl 1), none, none]) (sk' := [.inl 0]) (h' := h1) rfl ?_
      exact E_ret (x := (.ireturn, 0, [], [])) (v := some (.inl 0)) rfl (Or.inr ⟨rfl, by omega⟩) (by
        have q : (fR (fun S i => offP h0 S 10 i 0) S 0 (h0 1 1 - 0).toNat) 0 4 ≠ 0 := by
          intro q
          rw [hr, if_pos q] at c5; exact absurd c5 (by decide)
        have e := fR_stop (stp_c h0 (h0 8)) q 0 (h0 7 1 - 0).toNat
        have h4 := hQ h1 (by rw [e]; exact hG1)
        rw [e, if_neg q] at h4
        exact h4)
    · rw [c_eq (by first | exact ⟨by omega, by omega⟩ | (rw [hr]; split <;> exact ⟨by omega, by omega⟩)) (by first | exact ⟨by omega, by omega⟩ | (rw [hr]; split <;> exact ⟨by omega, by omega⟩))] at c5
      simp only [decide_eq_true_eq, decide_eq_false_iff_not, Decidable.not_not] at c5
      show xEx G0 cdX1_makeAll (some .boolean) (xRn G0 MT (d + 5)) Q b 6 [some (.inr (.inr 9)), some (.inl 1), none, none] [] h1
      refine E_s 1 (i' := 7) (ls' := [some (.inr (.inr 9)), some (.inl 1), none, none]) (sk' := [.inr (.inr 9)]) (h' := h1) rfl ?_
      have ho1 : (fR (fun S i => offP h0 S 10 i 0) S 0 (h0 1 1 - 0).toNat) 0 4 = 0 := by
        by_cases q : (fR (fun S i => offP h0 S 10 i 0) S 0 (h0 1 1 - 0).toNat) 0 4 = 0
        · exact q
        · rw [hr, if_neg q] at c5; exact absurd rfl c5
      refine E_cp (x := (.invokevirtual 42, 0, [(1, 8)], [0])) (q := fun r h9 => r = (if (fR (fun S i => offP h0 S 11 (h0 8 i) 0) (fR (fun S i => offP h0 S 10 i 0) S 0 (h0 1 1 - 0).toNat) 0 (h0 7 1 - 0).toNat) 0 4 = 0 then 1 else 0) ∧ GI h0 h9 (fR (fun S i => offP h0 S 11 (h0 8 i) 0) (fR (fun S i => offP h0 S 10 i 0) S 0 (h0 1 1 - 0).toNat) 0 (h0 7 1 - 0).toNat)) rfl rfl (Nat.le_of_ble_eq_true rfl) (c_makeConstants d 0 h0 h1 _ hB hG1 ho1 hcc hcr (fun h9 h8 => ⟨_, rfl, rfl, h8⟩)) (fun r2 h2 hq => ?_)
      obtain ⟨hr2, hG2⟩ := hq
      show xEx G0 cdX1_makeAll (some .boolean) (xRn G0 MT (d + 5)) Q b 8 [some (.inr (.inr 9)), some (.inl 1), none, none] [.inl r2] h2
      refine E_b (x := (.ifCond .eq 7, 11, [], [])) rfl rfl (fun c8 => ?_) (fun c8 => ?_)
      · rw [c_eq (by first | exact ⟨by omega, by omega⟩ | (rw [hr2]; split <;> exact ⟨by omega, by omega⟩)) (by first | exact ⟨by omega, by omega⟩ | (rw [hr2]; split <;> exact ⟨by omega, by omega⟩))] at c8
        simp only [decide_eq_true_eq, decide_eq_false_iff_not, Decidable.not_not] at c8
        show xEx G0 cdX1_makeAll (some .boolean) (xRn G0 MT (d + 5)) Q b 11 [some (.inr (.inr 9)), some (.inl 1), none, none] [] h2
        refine E_s 1 (i' := 12) (ls' := [some (.inr (.inr 9)), some (.inl 1), none, none]) (sk' := [.inl 0]) (h' := h2) rfl ?_
        exact E_ret (x := (.ireturn, 0, [], [])) (v := some (.inl 0)) rfl (Or.inr ⟨rfl, by omega⟩) (by
          have q : (fR (fun S i => offP h0 S 11 (h0 8 i) 0) (fR (fun S i => offP h0 S 10 i 0) S 0 (h0 1 1 - 0).toNat) 0 (h0 7 1 - 0).toNat) 0 4 ≠ 0 := by
            intro q
            rw [hr2, if_pos q] at c8; exact absurd c8 (by decide)
          have h4 := hQ h2 hG2
          rw [if_neg q] at h4
          exact h4)
      · rw [c_eq (by first | exact ⟨by omega, by omega⟩ | (rw [hr2]; split <;> exact ⟨by omega, by omega⟩)) (by first | exact ⟨by omega, by omega⟩ | (rw [hr2]; split <;> exact ⟨by omega, by omega⟩))] at c8
        simp only [decide_eq_true_eq, decide_eq_false_iff_not, Decidable.not_not] at c8
        show xEx G0 cdX1_makeAll (some .boolean) (xRn G0 MT (d + 5)) Q b 9 [some (.inr (.inr 9)), some (.inl 1), none, none] [] h2
        refine E_s 2 (i' := 12) (ls' := [some (.inr (.inr 9)), some (.inl 1), none, none]) (sk' := [.inl 1]) (h' := h2) rfl ?_
        exact E_ret (x := (.ireturn, 0, [], [])) (v := some (.inl 1)) rfl (Or.inr ⟨rfl, by omega⟩) (by
          have q : (fR (fun S i => offP h0 S 11 (h0 8 i) 0) (fR (fun S i => offP h0 S 10 i 0) S 0 (h0 1 1 - 0).toNat) 0 (h0 7 1 - 0).toNat) 0 4 = 0 := by
            by_cases q : (fR (fun S i => offP h0 S 11 (h0 8 i) 0) (fR (fun S i => offP h0 S 10 i 0) S 0 (h0 1 1 - 0).toNat) 0 (h0 7 1 - 0).toNat) 0 4 = 0
            · exact q
            · rw [hr2, if_neg q] at c8; exact absurd rfl c8
          have h4 := hQ h2 hG2
          rw [if_pos q] at h4
          exact h4)
set_option maxHeartbeats 1000000 in
theorem c_makeAllN (d b : Nat) (h0 h S : xH) (hB : B0 h0) (hG : GI h0 h S) (ho : S 0 4 = 0) (hE : ENS h0 (S 0 0)) (z : Int) (hz : 2 ≤ z ∧ z ≤ 9) {Q : xO → xH → Prop} (hQ : ∀ h', GI h0 h' (fR (xgp h0 z) S 0 ((10 : Int) - 0).toNat) → Q (.inl (some (.inl (if (fR (xgp h0 z) S 0 ((10 : Int) - 0).toNat) 0 4 = 0 then 1 else 0)))) h') : xRn G0 MT (d + 7) b 6 [.inr (.inr 9), .inl z] h Q := by
  refine R_of (M := mX1_makeAll) rfl (Nat.le_of_ble_eq_true rfl) ?_
  show xEx G0 cdX1_makeAll (some .boolean) (xRn G0 MT (d + 6)) Q b 0 [some (.inr (.inr 9)), some (.inl z), none, none] [] h
  refine E_s 2 (i' := 2) (ls' := [some (.inr (.inr 9)), some (.inl z), none, none]) (sk' := [.inl 1, .inl z]) (h' := h) rfl ?_
  refine E_b (x := (.if_icmp .ne 23, 13, [], [])) rfl rfl (fun c2 => ?_) (fun c2 => ?_)
  · rw [c_ne (by first | assumption | (refine ⟨?_, ?_⟩ <;> omega) | (simp only [xr] at *; omega)) (by first | assumption | (refine ⟨?_, ?_⟩ <;> omega) | (simp only [xr] at *; omega))] at c2
    simp only [decide_eq_true_eq, decide_eq_false_iff_not, Decidable.not_not] at c2
    show xEx G0 cdX1_makeAll (some .boolean) (xRn G0 MT (d + 6)) Q b 13 [some (.inr (.inr 9)), some (.inl z), none, none] [] h
    refine E_s 2 (i' := 15) (ls' := [some (.inr (.inr 9)), some (.inl z), some (.inl 0), none]) (sk' := []) (h' := h) rfl ?_
    have key15 : ∀ (n : Nat) (hh : xH) (p : Int) (v3 : Option xV), (0 ≤ p) → (p ≤ 10) → (GI h0 hh (fR (xgp h0 z) S 0 (p - 0).toNat)) → (STB S (fR (xgp h0 z) S 0 (p - 0).toNat)) → ((fR (xgp h0 z) S 0 (p - 0).toNat) 0 4 = 0) → ((10 - p).toNat) < n → xEx G0 cdX1_makeAll (some .boolean) (xRn G0 MT (d + 6)) Q b 15 [some (.inr (.inr 9)), some (.inl z), some (.inl p), v3] [] hh := by
      intro n
      induction n with
      | zero => intro hh p v3 _ _ _ _ _ hm; exact absurd hm (Nat.not_lt_zero _)
      | succ n ih15 =>
        intro hh p v3 hi0 hi9 hGi hst hoi hm15
        have hsu : hh 7 2 = h0 7 2 := by rw [hGi.2.2.1 7 (by decide)]
        refine E_s 2 (i' := 17) (ls' := [some (.inr (.inr 9)), some (.inl z), some (.inl p), v3]) (sk' := [.inl 10, .inl p]) (h' := hh) rfl ?_
        refine E_b (x := (.if_icmp .ge 52, 43, [], [])) rfl rfl (fun c17 => ?_) (fun c17 => ?_)
        · rw [c_ge ⟨by omega, by omega⟩ ⟨by omega, by omega⟩] at c17
          simp only [decide_eq_true_eq, decide_eq_false_iff_not, Decidable.not_not] at c17
          show xEx G0 cdX1_makeAll (some .boolean) (xRn G0 MT (d + 6)) Q b 43 [some (.inr (.inr 9)), some (.inl z), some (.inl p), v3] [] hh
          refine E_s 1 (i' := 44) (ls' := [some (.inr (.inr 9)), some (.inl z), some (.inl p), v3]) (sk' := [.inl 1]) (h' := hh) rfl ?_
          exact E_ret (x := (.ireturn, 0, [], [])) (v := some (.inl 1)) rfl (Or.inr ⟨rfl, Or.inr rfl⟩) (by
            have e8 : p = 10 := by omega
            rw [e8] at hGi hoi
            have h4 := hQ hh hGi
            rw [if_pos hoi] at h4
            exact h4)
        · rw [c_ge ⟨by omega, by omega⟩ ⟨by omega, by omega⟩] at c17
          simp only [decide_eq_true_eq, decide_eq_false_iff_not, Decidable.not_not] at c17
          show xEx G0 cdX1_makeAll (some .boolean) (xRn G0 MT (d + 6)) Q b 18 [some (.inr (.inr 9)), some (.inl z), some (.inl p), v3] [] hh
          have hp9 : 0 ≤ p ∧ p ≤ 9 := by omega
          refine E_s 3 (i' := 21) (ls' := [some (.inr (.inr 9)), some (.inl z), some (.inl p), v3]) (sk' := [.inl p, .inr (.inr 7)]) (h' := hh) rfl ?_
          refine E_ci (x := (.invokevirtual 45, 1, [(6, 73)], [0])) (r := (if xand (xshr (h0 7 2) p) 1 = 1 then 1 else 0)) (h' := hh) rfl rfl (Nat.le_of_ble_eq_true rfl) (c_mayUse (d + 5) 0 hh p ⟨by rw [hsu], rfl⟩) ?_
          show xEx G0 cdX1_makeAll (some .boolean) (xRn G0 MT (d + 6)) Q b 22 [some (.inr (.inr 9)), some (.inl z), some (.inl p), v3] [.inl (if xand (xshr (h0 7 2) p) 1 = 1 then 1 else 0)] hh
          refine E_b (x := (.ifCond .ne 6, 24, [], [])) rfl rfl (fun c22 => ?_) (fun c22 => ?_)
          · rw [c_ne (by first | exact ⟨by omega, by omega⟩ | (split <;> exact ⟨by omega, by omega⟩)) (by first | exact ⟨by omega, by omega⟩ | (split <;> exact ⟨by omega, by omega⟩))] at c22
            simp only [decide_eq_true_eq, decide_eq_false_iff_not, Decidable.not_not] at c22
            show xEx G0 cdX1_makeAll (some .boolean) (xRn G0 MT (d + 6)) Q b 24 [some (.inr (.inr 9)), some (.inl z), some (.inl p), v3] [] hh
            have hmay : xand (xshr (h0 7 2) p) 1 = 1 := by
              by_cases q : xand (xshr (h0 7 2) p) 1 = 1
              · exact q
              · rw [if_neg q] at c22; exact absurd rfl c22
            refine E_s 1 (i' := 25) (ls' := [some (.inr (.inr 9)), some (.inl z), some (.inl p), v3]) (sk' := [.inl p]) (h' := hh) rfl ?_
            refine E_cp (x := (.invokestatic 51, 1, [(0, 38)], [])) (q := fun r1 h9 => ((r1 = 1 ∧ (p = 5 ∨ p = 8 ∨ p = 9)) ∨ (r1 = 0 ∧ ¬ (p = 5 ∨ p = 8 ∨ p = 9))) ∧ hh = h9) rfl rfl (Nat.le_of_ble_eq_true rfl) (c_isOfOne (d + 5) 0 hh p ⟨by omega, by omega⟩ (fun z9 => ⟨1, rfl, Or.inl ⟨rfl, z9⟩, rfl⟩) (fun z9 => ⟨0, rfl, Or.inr ⟨rfl, z9⟩, rfl⟩)) (fun r1 h9 hr1 => ?_)
            obtain ⟨hr1, rfl⟩ := hr1
            show xEx G0 cdX1_makeAll (some .boolean) (xRn G0 MT (d + 6)) Q b 26 [some (.inr (.inr 9)), some (.inl z), some (.inl p), v3] [.inl r1] hh
            refine E_b (x := (.ifCond .eq 12, 32, [], [])) rfl rfl (fun c26 => ?_) (fun c26 => ?_)
            · rw [c_eq (by first | exact ⟨by omega, by omega⟩ | (rcases hr1 with q | q <;> exact ⟨by omega, by omega⟩)) (by first | exact ⟨by omega, by omega⟩ | (rcases hr1 with q | q <;> exact ⟨by omega, by omega⟩))] at c26
              simp only [decide_eq_true_eq, decide_eq_false_iff_not, Decidable.not_not] at c26
              show xEx G0 cdX1_makeAll (some .boolean) (xRn G0 MT (d + 6)) Q b 32 [some (.inr (.inr 9)), some (.inl z), some (.inl p), v3] [] hh
              refine E_s 3 (i' := 35) (ls' := [some (.inr (.inr 9)), some (.inl z), some (.inl p), v3]) (sk' := [.inl z, .inl p, .inr (.inr 9)]) (h' := hh) rfl ?_
              have hXp : (xgp h0 z (fR (xgp h0 z) S 0 (p - 0).toNat) p) = fR (xgs h0 p z) (fR (xgp h0 z) S 0 (p - 0).toNat) 1 (z - 1 - 1).toNat := by
                unfold xgp
                rw [if_pos hmay]
                first | (rw [if_pos (by omega)]; done) | (rw [if_neg (by omega)]; done)
              refine E_cp (x := (.invokevirtual 58, 2, [(1, 10)], [0])) (q := fun r h9 => r = (if (xgp h0 z (fR (xgp h0 z) S 0 (p - 0).toNat) p) 0 4 = 0 then 1 else 0) ∧ GI h0 h9 (xgp h0 z (fR (xgp h0 z) S 0 (p - 0).toNat) p)) rfl rfl (Nat.le_of_ble_eq_true rfl) (c_makeOfTwo d 0 h0 hh _ hB hGi hoi (ENS_up hst.1 hE) p z hp9 hz (fun h9 h8 => ⟨_, rfl, by rw [hXp]; first | done | rfl, by rw [hXp]; exact h8⟩)) (fun r hh2 hq => ?_)
              obtain ⟨hr, hGn⟩ := hq
              show xEx G0 cdX1_makeAll (some .boolean) (xRn G0 MT (d + 6)) Q b 36 [some (.inr (.inr 9)), some (.inl z), some (.inl p), v3] [.inl r] hh2
              refine E_s 2 (i' := 38) (ls' := [some (.inr (.inr 9)), some (.inl z), some (.inl p), some (.inl r)]) (sk' := [.inl r]) (h' := hh2) rfl ?_
              refine E_b (x := (.ifCond .ne 5, 41, [], [])) rfl rfl (fun c38 => ?_) (fun c38 => ?_)
              · rw [c_ne (by first | exact ⟨by omega, by omega⟩ | (rw [hr]; split <;> exact ⟨by omega, by omega⟩)) (by first | exact ⟨by omega, by omega⟩ | (rw [hr]; split <;> exact ⟨by omega, by omega⟩))] at c38
                simp only [decide_eq_true_eq, decide_eq_false_iff_not, Decidable.not_not] at c38
                show xEx G0 cdX1_makeAll (some .boolean) (xRn G0 MT (d + 6)) Q b 41 [some (.inr (.inr 9)), some (.inl z), some (.inl p), some (.inl r)] [] hh2
                have hon : (xgp h0 z (fR (xgp h0 z) S 0 (p - 0).toNat) p) 0 4 = 0 := by
                  by_cases q : (xgp h0 z (fR (xgp h0 z) S 0 (p - 0).toNat) p) 0 4 = 0
                  · exact q
                  · rw [hr, if_neg q] at c38; exact absurd rfl c38
                refine E_s 2 (i' := 15) (ls' := [some (.inr (.inr 9)), some (.inl z), some (.inl (p + 1)), some (.inl r)]) (sk' := []) (h' := hh2) rfl ?_
                exact ih15 hh2 (p + 1) _ (by omega) (by omega) (by rw [fR_n hi0]; exact hGn) (by rw [fR_n hi0]; exact STB.tr (fun k z1 z2 => (hG.2.1.2.2.2.2.1 k z1 z2).1) hst (xgp_w hB hGi.2.1 (ENS_up hst.1 hE) hp9).2.1) (by rw [fR_n hi0]; exact hon) (by omega)
              · rw [c_ne (by first | exact ⟨by omega, by omega⟩ | (rw [hr]; split <;> exact ⟨by omega, by omega⟩)) (by first | exact ⟨by omega, by omega⟩ | (rw [hr]; split <;> exact ⟨by omega, by omega⟩))] at c38
                simp only [decide_eq_true_eq, decide_eq_false_iff_not, Decidable.not_not] at c38
                show xEx G0 cdX1_makeAll (some .boolean) (xRn G0 MT (d + 6)) Q b 39 [some (.inr (.inr 9)), some (.inl z), some (.inl p), some (.inl r)] [] hh2
                refine E_s 1 (i' := 40) (ls' := [some (.inr (.inr 9)), some (.inl z), some (.inl p), some (.inl r)]) (sk' := [.inl 0]) (h' := hh2) rfl ?_
                exact E_ret (x := (.ireturn, 0, [], [])) (v := some (.inl 0)) rfl (Or.inr ⟨rfl, Or.inl rfl⟩) (by
                  have hne : (fR (xgp h0 z) S 0 (p + 1 - 0).toNat) 0 4 ≠ 0 := by
                    rw [fR_n hi0]
                    intro q
                    rw [hr, if_pos q] at c38
                    exact absurd c38 (by decide)
                  have h1 := fR_end (hi := 10) (stp_p h0 z) hi0 (by omega) hne
                  have h4 := hQ hh2 (by rw [h1, fR_n hi0]; exact hGn)
                  rw [h1, if_neg hne] at h4
                  exact h4)
            · rw [c_eq (by first | exact ⟨by omega, by omega⟩ | (rcases hr1 with q | q <;> exact ⟨by omega, by omega⟩)) (by first | exact ⟨by omega, by omega⟩ | (rcases hr1 with q | q <;> exact ⟨by omega, by omega⟩))] at c26
              simp only [decide_eq_true_eq, decide_eq_false_iff_not, Decidable.not_not] at c26
              show xEx G0 cdX1_makeAll (some .boolean) (xRn G0 MT (d + 6)) Q b 27 [some (.inr (.inr 9)), some (.inl z), some (.inl p), v3] [] hh
              refine E_s 3 (i' := 30) (ls' := [some (.inr (.inr 9)), some (.inl z), some (.inl p), v3]) (sk' := [.inl z, .inl p, .inr (.inr 9)]) (h' := hh) rfl ?_
              have hXp : (xgp h0 z (fR (xgp h0 z) S 0 (p - 0).toNat) p) = xg1 h0 p z (fR (xgp h0 z) S 0 (p - 0).toNat) := by
                unfold xgp
                rw [if_pos hmay]
                first | (rw [if_pos (by omega)]; done) | (rw [if_neg (by omega)]; done)
              refine E_cp (x := (.invokevirtual 54, 2, [(1, 9)], [0])) (q := fun r h9 => r = (if (xgp h0 z (fR (xgp h0 z) S 0 (p - 0).toNat) p) 0 4 = 0 then 1 else 0) ∧ GI h0 h9 (xgp h0 z (fR (xgp h0 z) S 0 (p - 0).toNat) p)) rfl rfl (Nat.le_of_ble_eq_true rfl) (c_makeOfOne (d + 1) 0 h0 hh _ hB hGi hoi (ENS_up hst.1 hE) p z hp9 hz (fun h9 h8 => ⟨_, rfl, by rw [hXp]; first | done | rfl, by rw [hXp]; exact h8⟩)) (fun r hh2 hq => ?_)
              obtain ⟨hr, hGn⟩ := hq
              show xEx G0 cdX1_makeAll (some .boolean) (xRn G0 MT (d + 6)) Q b 31 [some (.inr (.inr 9)), some (.inl z), some (.inl p), v3] [.inl r] hh2
              refine E_s 3 (i' := 38) (ls' := [some (.inr (.inr 9)), some (.inl z), some (.inl p), some (.inl r)]) (sk' := [.inl r]) (h' := hh2) rfl ?_
              refine E_b (x := (.ifCond .ne 5, 41, [], [])) rfl rfl (fun c38 => ?_) (fun c38 => ?_)
              · rw [c_ne (by first | exact ⟨by omega, by omega⟩ | (rw [hr]; split <;> exact ⟨by omega, by omega⟩)) (by first | exact ⟨by omega, by omega⟩ | (rw [hr]; split <;> exact ⟨by omega, by omega⟩))] at c38
                simp only [decide_eq_true_eq, decide_eq_false_iff_not, Decidable.not_not] at c38
                show xEx G0 cdX1_makeAll (some .boolean) (xRn G0 MT (d + 6)) Q b 41 [some (.inr (.inr 9)), some (.inl z), some (.inl p), some (.inl r)] [] hh2
                have hon : (xgp h0 z (fR (xgp h0 z) S 0 (p - 0).toNat) p) 0 4 = 0 := by
                  by_cases q : (xgp h0 z (fR (xgp h0 z) S 0 (p - 0).toNat) p) 0 4 = 0
                  · exact q
                  · rw [hr, if_neg q] at c38; exact absurd rfl c38
                refine E_s 2 (i' := 15) (ls' := [some (.inr (.inr 9)), some (.inl z), some (.inl (p + 1)), some (.inl r)]) (sk' := []) (h' := hh2) rfl ?_
                exact ih15 hh2 (p + 1) _ (by omega) (by omega) (by rw [fR_n hi0]; exact hGn) (by rw [fR_n hi0]; exact STB.tr (fun k z1 z2 => (hG.2.1.2.2.2.2.1 k z1 z2).1) hst (xgp_w hB hGi.2.1 (ENS_up hst.1 hE) hp9).2.1) (by rw [fR_n hi0]; exact hon) (by omega)
              · rw [c_ne (by first | exact ⟨by omega, by omega⟩ | (rw [hr]; split <;> exact ⟨by omega, by omega⟩)) (by first | exact ⟨by omega, by omega⟩ | (rw [hr]; split <;> exact ⟨by omega, by omega⟩))] at c38
                simp only [decide_eq_true_eq, decide_eq_false_iff_not, Decidable.not_not] at c38
                show xEx G0 cdX1_makeAll (some .boolean) (xRn G0 MT (d + 6)) Q b 39 [some (.inr (.inr 9)), some (.inl z), some (.inl p), some (.inl r)] [] hh2
                refine E_s 1 (i' := 40) (ls' := [some (.inr (.inr 9)), some (.inl z), some (.inl p), some (.inl r)]) (sk' := [.inl 0]) (h' := hh2) rfl ?_
                exact E_ret (x := (.ireturn, 0, [], [])) (v := some (.inl 0)) rfl (Or.inr ⟨rfl, Or.inl rfl⟩) (by
                  have hne : (fR (xgp h0 z) S 0 (p + 1 - 0).toNat) 0 4 ≠ 0 := by
                    rw [fR_n hi0]
                    intro q
                    rw [hr, if_pos q] at c38
                    exact absurd c38 (by decide)
                  have h1 := fR_end (hi := 10) (stp_p h0 z) hi0 (by omega) hne
                  have h4 := hQ hh2 (by rw [h1, fR_n hi0]; exact hGn)
                  rw [h1, if_neg hne] at h4
                  exact h4)
          · rw [c_ne (by first | exact ⟨by omega, by omega⟩ | (split <;> exact ⟨by omega, by omega⟩)) (by first | exact ⟨by omega, by omega⟩ | (split <;> exact ⟨by omega, by omega⟩))] at c22
            simp only [decide_eq_true_eq, decide_eq_false_iff_not, Decidable.not_not] at c22
            show xEx G0 cdX1_makeAll (some .boolean) (xRn G0 MT (d + 6)) Q b 23 [some (.inr (.inr 9)), some (.inl z), some (.inl p), v3] [] hh
            have hXe : (xgp h0 z (fR (xgp h0 z) S 0 (p - 0).toNat) p) = (fR (xgp h0 z) S 0 (p - 0).toNat) := by
              unfold xgp
              rw [if_neg (fun q => by rw [if_pos q] at c22; exact absurd c22 (by decide))]
            refine E_s 1 (i' := 41) (ls' := [some (.inr (.inr 9)), some (.inl z), some (.inl p), v3]) (sk' := []) (h' := hh) rfl ?_
            
            refine E_s 2 (i' := 15) (ls' := [some (.inr (.inr 9)), some (.inl z), some (.inl (p + 1)), v3]) (sk' := []) (h' := hh) rfl ?_
            exact ih15 hh (p + 1) _ (by omega) (by omega) (by rw [fR_n hi0, hXe]; exact hGi) (by rw [fR_n hi0, hXe]; exact hst) (by rw [fR_n hi0, hXe]; exact hoi) (by omega)
    exact key15 _ h 0 none (by omega) (by omega) (by exact hG) (by exact STB.rf S) (by exact ho) (Nat.lt_succ_self _)
  · rw [c_ne (by first | assumption | (refine ⟨?_, ?_⟩ <;> omega) | (simp only [xr] at *; omega)) (by first | assumption | (refine ⟨?_, ?_⟩ <;> omega) | (simp only [xr] at *; omega))] at c2
    simp only [decide_eq_true_eq, decide_eq_false_iff_not, Decidable.not_not] at c2
    show xEx G0 cdX1_makeAll (some .boolean) (xRn G0 MT (d + 6)) Q b 3 [some (.inr (.inr 9)), some (.inl z), none, none] [] h
    exact absurd c2 (by omega)
