/-- with which second one begins -/
def xfr (h0 : xH) (p a t : Int) : Int := if (p = 0 ∨ p = 2 ∨ p = 3 ∨ p = 4) ∧ xbg h0 t < a then a else xbg h0 t
noncomputable def xga (h0 : xH) (p s z : Int) (S : xH) (a : Int) : xH := fR (fun S y => offP h0 S p a y) S (xfr h0 p a (z - 1 - s)) (xen h0 (z - 1 - s) - xfr h0 p a (z - 1 - s)).toNat
noncomputable def xgs (h0 : xH) (p z : Int) (S : xH) (s : Int) : xH := fR (xga h0 p s z) S (xbg h0 s) (xen h0 s - xbg h0 s).toNat
theorem stp_o (h0 : xH) (p a : Int) : stp (fun S y => offP h0 S p a y) := fun _ h _ => offP_s h _ _ _
theorem stp_a (h0 : xH) (p s z : Int) : stp (xga h0 p s z) := fun _ h _ => fR_stop (stp_o h0 p _) h _ _
theorem stp_gs (h0 : xH) (p z : Int) : stp (xgs h0 p z) := fun _ h _ => fR_stop (stp_a h0 p _ z) h _ _
/-- GROWTH by a step leaves what is KEPT -/
theorem fR_w {h0 : xH} {g : xH → Int → xH} {S : xH} {lo : Int} (hW : WE (h0 1 2) S) : ∀ (m : Nat), (∀ (S' : xH) (i : Int), lo ≤ i → i < lo + m → WE (h0 1 2) S' → STB S S' → WE (h0 1 2) (g S' i) ∧ STB S' (g S' i) ∧ g S' i 0 2 + g S' i 0 3 = S' 0 2 + S' 0 3) → WE (h0 1 2) (fR g S lo m) ∧ STB S (fR g S lo m) ∧ fR g S lo m 0 2 + fR g S lo m 0 3 = S 0 2 + S 0 3
  | 0, _ => ⟨hW, STB.rf S, rfl⟩
  | m + 1, hg => by
    obtain ⟨a, b, c⟩ := fR_w hW m (fun S' i h1 h2 => hg S' i h1 (by omega))
    obtain ⟨a2, b2, c2⟩ := hg _ (lo + m) (by omega) (by omega) a b
    rw [fR_s]
    exact ⟨a2, STB.tr (fun k z1 z2 => (hW.2.2.2.2.1 k z1 z2).1) b b2, c2.trans c⟩
set_option maxHeartbeats 1000000 in
theorem c_makeOfTwo (d b : Nat) (h0 h S : xH) (hB : B0 h0) (hG : GI h0 h S) (ho : S 0 4 = 0) (hE : ENS h0 (S 0 0)) (p z : Int) (hp : 0 ≤ p ∧ p ≤ 9) (hz : 2 ≤ z ∧ z ≤ 9) {Q : xO → xH → Prop} (hQ : ∀ h', GI h0 h' (fR (xgs h0 p z) S 1 (z - 1 - 1).toNat) → Q (.inl (some (.inl (if (fR (xgs h0 p z) S 1 (z - 1 - 1).toNat) 0 4 = 0 then 1 else 0)))) h') : xRn G0 MT (d + 6) b 10 [.inr (.inr 9), .inl p, .inl z] h Q := by
  refine R_of (M := mX1_makeOfTwo) rfl (Nat.le_of_ble_eq_true rfl) ?_
  show xEx G0 cdX1_makeOfTwo (some .boolean) (xRn G0 MT (d + 5)) Q b 0 [some (.inr (.inr 9)), some (.inl p), some (.inl z), none, none, none, none, none] [] h
  have hS0 := hG.2.1.1
  have hS3 := hG.2.1.2.1
  have hed : h 23 = h0 23 := hG.2.2.1 23 (by decide)
  refine E_s 1 (i' := 1) (ls' := [some (.inr (.inr 9)), some (.inl p), some (.inl z), none, none, none, none, none]) (sk' := [.inl p]) (h' := h) rfl ?_
  refine E_cp (x := (.invokestatic 86, 1, [(0, 39)], [])) (q := fun ev h9 => ((ev = 1 ∧ (p = 0 ∨ p = 2 ∨ p = 3 ∨ p = 4)) ∨ (ev = 0 ∧ ¬ (p = 0 ∨ p = 2 ∨ p = 3 ∨ p = 4))) ∧ h = h9) rfl rfl (Nat.le_of_ble_eq_true rfl) (c_isEvenHanded (d + 4) 0 h p hp (fun z9 => ⟨1, rfl, Or.inl ⟨rfl, z9⟩, rfl⟩) (fun z9 => ⟨0, rfl, Or.inr ⟨rfl, z9⟩, rfl⟩)) (fun ev h9 hev => ?_)
  obtain ⟨hev, rfl⟩ := hev
  show xEx G0 cdX1_makeOfTwo (some .boolean) (xRn G0 MT (d + 5)) Q b 2 [some (.inr (.inr 9)), some (.inl p), some (.inl z), none, none, none, none, none] [.inl ev] h
  refine E_s 3 (i' := 5) (ls' := [some (.inr (.inr 9)), some (.inl p), some (.inl z), some (.inl ev), some (.inl 1), none, none, none]) (sk' := []) (h' := h) rfl ?_
  have key5 : ∀ (n : Nat) (hh : xH) (s : Int) (v5 v6 v7 : Option xV), (1 ≤ s) → (s ≤ z - 1) → (GI h0 hh (fR (xgs h0 p z) S 1 (s - 1).toNat)) → (STB S (fR (xgs h0 p z) S 1 (s - 1).toNat)) → ((fR (xgs h0 p z) S 1 (s - 1).toNat) 0 4 = 0) → ((z - 1 - s).toNat) < n → xEx G0 cdX1_makeOfTwo (some .boolean) (xRn G0 MT (d + 5)) Q b 5 [some (.inr (.inr 9)), some (.inl p), some (.inl z), some (.inl ev), some (.inl s), v5, v6, v7] [] hh := by
    intro n
    induction n with
    | zero => intro hh s v5 v6 v7 _ _ _ _ _ hm; exact absurd hm (Nat.not_lt_zero _)
    | succ n ih5 =>
      intro hh s v5 v6 v7 hs0 hs9 hGs hss hos hm5
      have hed : hh 23 = h0 23 := hGs.2.2.1 23 (by decide)
      generalize hS1 : fR (xgs h0 p z) S 1 (s - 1).toNat = S1 at hGs hss hos
      refine E_s 4 (i' := 9) (ls' := [some (.inr (.inr 9)), some (.inl p), some (.inl z), some (.inl ev), some (.inl s), v5, v6, v7]) (sk' := [.inl (z - 1), .inl s]) (h' := hh) rfl ?_
      refine E_b (x := (.if_icmp .ge 90, 55, [], [])) rfl rfl (fun c9 => ?_) (fun c9 => ?_)
      · rw [c_ge ⟨by omega, by omega⟩ ⟨by omega, by omega⟩] at c9
        simp only [decide_eq_true_eq, decide_eq_false_iff_not, Decidable.not_not] at c9
        show xEx G0 cdX1_makeOfTwo (some .boolean) (xRn G0 MT (d + 5)) Q b 55 [some (.inr (.inr 9)), some (.inl p), some (.inl z), some (.inl ev), some (.inl s), v5, v6, v7] [] hh
        refine E_s 1 (i' := 56) (ls' := [some (.inr (.inr 9)), some (.inl p), some (.inl z), some (.inl ev), some (.inl s), v5, v6, v7]) (sk' := [.inl 1]) (h' := hh) rfl ?_
        exact E_ret (x := (.ireturn, 0, [], [])) (v := some (.inl 1)) rfl (Or.inr ⟨rfl, Or.inr rfl⟩) (by
          have e8 : s = z - 1 := by omega
          rw [e8] at hS1
          have h4 := hQ hh (by rw [hS1]; exact hGs)
          rw [hS1, if_pos hos] at h4
          exact h4)
      · rw [c_ge ⟨by omega, by omega⟩ ⟨by omega, by omega⟩] at c9
        simp only [decide_eq_true_eq, decide_eq_false_iff_not, Decidable.not_not] at c9
        show xEx G0 cdX1_makeOfTwo (some .boolean) (xRn G0 MT (d + 5)) Q b 10 [some (.inr (.inr 9)), some (.inl p), some (.inl z), some (.inl ev), some (.inl s), v5, v6, v7] [] hh
        refine E_s 6 (i' := 16) (ls' := [some (.inr (.inr 9)), some (.inl p), some (.inl z), some (.inl ev), some (.inl s), v5, v6, v7]) (sk' := [.inl ((z - 1) - s), .inr (.inr 9)]) (h' := hh) rfl ?_
        refine E_ci (x := (.invokevirtual 83, 1, [(1, 31)], [1])) (r := (xen h0 (z - 1 - s))) (h' := hh) rfl rfl (Nat.le_of_ble_eq_true rfl) (c_end_ge (d + 4) 0 hh (z - 1 - s) ⟨by omega, by omega⟩ ⟨by unfold xen; rw [hed], rfl⟩) ?_
        show xEx G0 cdX1_makeOfTwo (some .boolean) (xRn G0 MT (d + 5)) Q b 17 [some (.inr (.inr 9)), some (.inl p), some (.inl z), some (.inl ev), some (.inl s), v5, v6, v7] [.inl (xen h0 (z - 1 - s))] hh
        refine E_s 1 (i' := 18) (ls' := [some (.inr (.inr 9)), some (.inl p), some (.inl z), some (.inl ev), some (.inl s), some (.inl (xen h0 (z - 1 - s))), v6, v7]) (sk' := []) (h' := hh) rfl ?_
        have hbe := xbe hE hS0 s
        refine E_s 2 (i' := 20) (ls' := [some (.inr (.inr 9)), some (.inl p), some (.inl z), some (.inl ev), some (.inl s), some (.inl (xen h0 (z - 1 - s))), v6, v7]) (sk' := [.inl s, .inr (.inr 9)]) (h' := hh) rfl ?_
        refine E_ci (x := (.invokevirtual 79, 1, [(1, 30)], [1])) (r := (xbg h0 (s))) (h' := hh) rfl rfl (Nat.le_of_ble_eq_true rfl) (c_begin_ge (d + 4) 0 hh (s) ⟨by omega, by omega⟩ ⟨by unfold xbg; rw [hed], rfl⟩) ?_
        show xEx G0 cdX1_makeOfTwo (some .boolean) (xRn G0 MT (d + 5)) Q b 21 [some (.inr (.inr 9)), some (.inl p), some (.inl z), some (.inl ev), some (.inl s), some (.inl (xen h0 (z - 1 - s))), v6, v7] [.inl (xbg h0 (s))] hh
        refine E_s 1 (i' := 22) (ls' := [some (.inr (.inr 9)), some (.inl p), some (.inl z), some (.inl ev), some (.inl s), some (.inl (xen h0 (z - 1 - s))), some (.inl (xbg h0 (s))), v7]) (sk' := []) (h' := hh) rfl ?_
        have key22 : ∀ (n : Nat) (hj : xH) (a : Int) (v7 : Option xV), (xbg h0 s ≤ a) → (a ≤ xen h0 s) → (GI h0 hj (fR (xga h0 p s z) S1 (xbg h0 s) (a - xbg h0 s).toNat)) → (STB S (fR (xga h0 p s z) S1 (xbg h0 s) (a - xbg h0 s).toNat)) → ((fR (xga h0 p s z) S1 (xbg h0 s) (a - xbg h0 s).toNat) 0 4 = 0) → ((xen h0 s - a).toNat) < n → xEx G0 cdX1_makeOfTwo (some .boolean) (xRn G0 MT (d + 5)) Q b 22 [some (.inr (.inr 9)), some (.inl p), some (.inl z), some (.inl ev), some (.inl s), some (.inl (xen h0 (z - 1 - s))), some (.inl a), v7] [] hj := by
          intro n
          induction n with
          | zero => intro hj a v7 _ _ _ _ _ hm; exact absurd hm (Nat.not_lt_zero _)
          | succ n ih22 =>
            intro hj a v7 ha0 ha9 hGa hsa hoa hm22
            have hed : hj 23 = h0 23 := hGa.2.2.1 23 (by decide)
            refine E_s 3 (i' := 25) (ls' := [some (.inr (.inr 9)), some (.inl p), some (.inl z), some (.inl ev), some (.inl s), some (.inl (xen h0 (z - 1 - s))), some (.inl a), v7]) (sk' := [.inl s, .inr (.inr 9), .inl a]) (h' := hj) rfl ?_
            refine E_ci (x := (.invokevirtual 83, 1, [(1, 31)], [1])) (r := (xen h0 (s))) (h' := hj) rfl rfl (Nat.le_of_ble_eq_true rfl) (c_end_ge (d + 4) 0 hj (s) ⟨by omega, by omega⟩ ⟨by unfold xen; rw [hed], rfl⟩) ?_
            show xEx G0 cdX1_makeOfTwo (some .boolean) (xRn G0 MT (d + 5)) Q b 26 [some (.inr (.inr 9)), some (.inl p), some (.inl z), some (.inl ev), some (.inl s), some (.inl (xen h0 (z - 1 - s))), some (.inl a), v7] [.inl (xen h0 (s)), .inl a] hj
            refine E_b (x := (.if_icmp .ge 53, 53, [], [])) rfl rfl (fun c26 => ?_) (fun c26 => ?_)
            · rw [c_ge (by have := xbe hE hS0 s; exact ⟨by omega, by omega⟩) (by have := xbe hE hS0 s; exact ⟨by omega, by omega⟩)] at c26
              simp only [decide_eq_true_eq, decide_eq_false_iff_not, Decidable.not_not] at c26
              show xEx G0 cdX1_makeOfTwo (some .boolean) (xRn G0 MT (d + 5)) Q b 53 [some (.inr (.inr 9)), some (.inl p), some (.inl z), some (.inl ev), some (.inl s), some (.inl (xen h0 (z - 1 - s))), some (.inl a), v7] [] hj
              have hae : a = xen h0 s := by omega
              refine E_s 2 (i' := 5) (ls' := [some (.inr (.inr 9)), some (.inl p), some (.inl z), some (.inl ev), some (.inl (s + 1)), some (.inl (xen h0 (z - 1 - s))), some (.inl a), v7]) (sk' := []) (h' := hj) rfl ?_
              exact ih5 hj (s + 1) _ _ _ (by omega) (by omega) (by rw [fR_n hs0, hS1]; rw [hae] at hGa; exact hGa) (by rw [fR_n hs0, hS1]; rw [hae] at hsa; exact hsa) (by rw [fR_n hs0, hS1]; rw [hae] at hoa; exact hoa) (by omega)
            · rw [c_ge (by have := xbe hE hS0 s; exact ⟨by omega, by omega⟩) (by have := xbe hE hS0 s; exact ⟨by omega, by omega⟩)] at c26
              simp only [decide_eq_true_eq, decide_eq_false_iff_not, Decidable.not_not] at c26
              show xEx G0 cdX1_makeOfTwo (some .boolean) (xRn G0 MT (d + 5)) Q b 27 [some (.inr (.inr 9)), some (.inl p), some (.inl z), some (.inl ev), some (.inl s), some (.inl (xen h0 (z - 1 - s))), some (.inl a), v7] [] hj
              refine E_s 6 (i' := 33) (ls' := [some (.inr (.inr 9)), some (.inl p), some (.inl z), some (.inl ev), some (.inl s), some (.inl (xen h0 (z - 1 - s))), some (.inl a), v7]) (sk' := [.inl ((z - 1) - s), .inr (.inr 9)]) (h' := hj) rfl ?_
              refine E_ci (x := (.invokevirtual 79, 1, [(1, 30)], [1])) (r := (xbg h0 (z - 1 - s))) (h' := hj) rfl rfl (Nat.le_of_ble_eq_true rfl) (c_begin_ge (d + 4) 0 hj (z - 1 - s) ⟨by omega, by omega⟩ ⟨by unfold xbg; rw [hed], rfl⟩) ?_
              show xEx G0 cdX1_makeOfTwo (some .boolean) (xRn G0 MT (d + 5)) Q b 34 [some (.inr (.inr 9)), some (.inl p), some (.inl z), some (.inl ev), some (.inl s), some (.inl (xen h0 (z - 1 - s))), some (.inl a), v7] [.inl (xbg h0 (z - 1 - s))] hj
              refine E_s 5 (i' := 39) (ls' := [some (.inr (.inr 9)), some (.inl p), some (.inl z), some (.inl ev), some (.inl s), some (.inl (xen h0 (z - 1 - s))), some (.inl a), some (.inl (xbg h0 (z - 1 - s)))]) (sk' := [.inl ev, .inl a, .inl p, .inr (.inr 9)]) (h' := hj) rfl ?_
              refine E_b (x := (.ifCond .eq 15, 45, [], [])) rfl rfl (fun c39 => ?_) (fun c39 => ?_)
              · rw [c_eq (by first | exact ⟨by omega, by omega⟩ | (rcases hev with q | q <;> exact ⟨by omega, by omega⟩)) (by first | exact ⟨by omega, by omega⟩ | (rcases hev with q | q <;> exact ⟨by omega, by omega⟩))] at c39
                simp only [decide_eq_true_eq, decide_eq_false_iff_not, Decidable.not_not] at c39
                show xEx G0 cdX1_makeOfTwo (some .boolean) (xRn G0 MT (d + 5)) Q b 45 [some (.inr (.inr 9)), some (.inl p), some (.inl z), some (.inl ev), some (.inl s), some (.inl (xen h0 (z - 1 - s))), some (.inl a), some (.inl (xbg h0 (z - 1 - s)))] [.inl a, .inl p, .inr (.inr 9)] hj
                refine E_s 1 (i' := 46) (ls' := [some (.inr (.inr 9)), some (.inl p), some (.inl z), some (.inl ev), some (.inl s), some (.inl (xen h0 (z - 1 - s))), some (.inl a), some (.inl (xbg h0 (z - 1 - s)))]) (sk' := [.inl (xbg h0 (z - 1 - s)), .inl a, .inl p, .inr (.inr 9)]) (h' := hj) rfl ?_
                have hfr : xfr h0 p a (z - 1 - s) = xbg h0 (z - 1 - s) := by unfold xfr; first | (rw [if_pos (by omega)]) | (rw [if_neg (by omega)])
                have hbt := xbe hE hS0 (z - 1 - s)
                refine E_s 1 (i' := 47) (ls' := [some (.inr (.inr 9)), some (.inl p), some (.inl z), some (.inl ev), some (.inl s), some (.inl (xen h0 (z - 1 - s))), some (.inl a), some (.inl (xbg h0 (z - 1 - s)))]) (sk' := [.inl (xen h0 (z - 1 - s)), .inl (xbg h0 (z - 1 - s)), .inl a, .inl p, .inr (.inr 9)]) (h' := hj) rfl ?_
                refine E_cp (x := (.invokevirtual 89, 4, [(1, 35)], [1])) (q := fun r h9 => r = (if (fR (fun S y => offP h0 S p a y) (fR (xga h0 p s z) S1 (xbg h0 s) (a - xbg h0 s).toNat) (xbg h0 (z - 1 - s)) (xen h0 (z - 1 - s) - (xbg h0 (z - 1 - s))).toNat) 0 4 = 0 then 1 else 0) ∧ GI h0 h9 (fR (fun S y => offP h0 S p a y) (fR (xga h0 p s z) S1 (xbg h0 s) (a - xbg h0 s).toNat) (xbg h0 (z - 1 - s)) (xen h0 (z - 1 - s) - (xbg h0 (z - 1 - s))).toNat)) rfl rfl (Nat.le_of_ble_eq_true rfl) (c_offerEach d 0 h0 hj (fR (xga h0 p s z) S1 (xbg h0 s) (a - xbg h0 s).toNat) p a (xbg h0 (z - 1 - s)) (xen h0 (z - 1 - s)) hB hGa hoa hp (by have := hsa.1; omega) (by omega) (by have := hsa.1; omega) (fun h9 h8 => ⟨_, rfl, rfl, h8⟩)) (fun r hj2 hq2 => ?_)
                obtain ⟨hr, hGn⟩ := hq2
                have hX : xga h0 p s z (fR (xga h0 p s z) S1 (xbg h0 s) (a - xbg h0 s).toNat) a = fR (fun S y => offP h0 S p a y) (fR (xga h0 p s z) S1 (xbg h0 s) (a - xbg h0 s).toNat) (xbg h0 (z - 1 - s)) (xen h0 (z - 1 - s) - (xbg h0 (z - 1 - s))).toNat := by unfold xga; rw [hfr]
                rw [← hX] at hr hGn
                have hsn : STB S (xga h0 p s z (fR (xga h0 p s z) S1 (xbg h0 s) (a - xbg h0 s).toNat) a) := by
                  refine STB.tr (fun k z1 z2 => (hG.2.1.2.2.2.2.1 k z1 z2).1) hsa ?_
                  exact (fR_w hGa.2.1 _ (fun S' i q1 q2 q3 q4 => offP_w hB q3 (by unfold okc; have := hsa.1; have := q4.1; exact Or.inr (Or.inr ⟨hp.1, hp.2, by omega, by omega, by omega, by omega⟩)))).2.1
                show xEx G0 cdX1_makeOfTwo (some .boolean) (xRn G0 MT (d + 5)) Q b 48 [some (.inr (.inr 9)), some (.inl p), some (.inl z), some (.inl ev), some (.inl s), some (.inl (xen h0 (z - 1 - s))), some (.inl a), some (.inl (xbg h0 (z - 1 - s)))] [.inl r] hj2
                refine E_b (x := (.ifCond .ne 5, 51, [], [])) rfl rfl (fun c48 => ?_) (fun c48 => ?_)
                · rw [c_ne (by first | exact ⟨by omega, by omega⟩ | (rw [hr]; split <;> exact ⟨by omega, by omega⟩)) (by first | exact ⟨by omega, by omega⟩ | (rw [hr]; split <;> exact ⟨by omega, by omega⟩))] at c48
                  simp only [decide_eq_true_eq, decide_eq_false_iff_not, Decidable.not_not] at c48
                  show xEx G0 cdX1_makeOfTwo (some .boolean) (xRn G0 MT (d + 5)) Q b 51 [some (.inr (.inr 9)), some (.inl p), some (.inl z), some (.inl ev), some (.inl s), some (.inl (xen h0 (z - 1 - s))), some (.inl a), some (.inl (xbg h0 (z - 1 - s)))] [] hj2
                  have hon : (xga h0 p s z (fR (xga h0 p s z) S1 (xbg h0 s) (a - xbg h0 s).toNat) a) 0 4 = 0 := by
                    by_cases q : (xga h0 p s z (fR (xga h0 p s z) S1 (xbg h0 s) (a - xbg h0 s).toNat) a) 0 4 = 0
                    · exact q
                    · rw [hr, if_neg q] at c48; exact absurd rfl c48
                  refine E_s 2 (i' := 22) (ls' := [some (.inr (.inr 9)), some (.inl p), some (.inl z), some (.inl ev), some (.inl s), some (.inl (xen h0 (z - 1 - s))), some (.inl (a + 1)), some (.inl (xbg h0 (z - 1 - s)))]) (sk' := []) (h' := hj2) rfl ?_
                  exact ih22 hj2 (a + 1) _ (by omega) (by omega) (by rw [fR_n ha0]; exact hGn) (by rw [fR_n ha0]; exact hsn) (by rw [fR_n ha0]; exact hon) (by omega)
                · rw [c_ne (by first | exact ⟨by omega, by omega⟩ | (rw [hr]; split <;> exact ⟨by omega, by omega⟩)) (by first | exact ⟨by omega, by omega⟩ | (rw [hr]; split <;> exact ⟨by omega, by omega⟩))] at c48
                  simp only [decide_eq_true_eq, decide_eq_false_iff_not, Decidable.not_not] at c48
                  show xEx G0 cdX1_makeOfTwo (some .boolean) (xRn G0 MT (d + 5)) Q b 49 [some (.inr (.inr 9)), some (.inl p), some (.inl z), some (.inl ev), some (.inl s), some (.inl (xen h0 (z - 1 - s))), some (.inl a), some (.inl (xbg h0 (z - 1 - s)))] [] hj2
                  refine E_s 1 (i' := 50) (ls' := [some (.inr (.inr 9)), some (.inl p), some (.inl z), some (.inl ev), some (.inl s), some (.inl (xen h0 (z - 1 - s))), some (.inl a), some (.inl (xbg h0 (z - 1 - s)))]) (sk' := [.inl 0]) (h' := hj2) rfl ?_
                  exact E_ret (x := (.ireturn, 0, [], [])) (v := some (.inl 0)) rfl (Or.inr ⟨rfl, Or.inl rfl⟩) (by
                    have hne : (fR (xga h0 p s z) S1 (xbg h0 s) (a + 1 - xbg h0 s).toNat) 0 4 ≠ 0 := by
                      rw [fR_n ha0]
                      intro q
                      rw [hr, if_pos q] at c48
                      exact absurd c48 (by decide)
                    have h1 := fR_end (hi := xen h0 s) (stp_a h0 p s z) ha0 (by omega) hne
                    have h2 : fR (xgs h0 p z) S 1 (s + 1 - 1).toNat = fR (xga h0 p s z) S1 (xbg h0 s) (a + 1 - xbg h0 s).toNat := by rw [fR_n hs0, hS1]; exact h1
                    have hne2 : fR (xgs h0 p z) S 1 (s + 1 - 1).toNat 0 4 ≠ 0 := by rw [h2]; exact hne
                    have h3 := fR_end (hi := z - 1) (stp_gs h0 p z) hs0 (by omega) hne2
                    have h4 := hQ hj2 (by rw [h3, h2, fR_n ha0]; exact hGn)
                    rw [h3, if_neg hne2] at h4
                    exact h4)
              · rw [c_eq (by first | exact ⟨by omega, by omega⟩ | (rcases hev with q | q <;> exact ⟨by omega, by omega⟩)) (by first | exact ⟨by omega, by omega⟩ | (rcases hev with q | q <;> exact ⟨by omega, by omega⟩))] at c39
                simp only [decide_eq_true_eq, decide_eq_false_iff_not, Decidable.not_not] at c39
                show xEx G0 cdX1_makeOfTwo (some .boolean) (xRn G0 MT (d + 5)) Q b 40 [some (.inr (.inr 9)), some (.inl p), some (.inl z), some (.inl ev), some (.inl s), some (.inl (xen h0 (z - 1 - s))), some (.inl a), some (.inl (xbg h0 (z - 1 - s)))] [.inl a, .inl p, .inr (.inr 9)] hj
                refine E_s 2 (i' := 42) (ls' := [some (.inr (.inr 9)), some (.inl p), some (.inl z), some (.inl ev), some (.inl s), some (.inl (xen h0 (z - 1 - s))), some (.inl a), some (.inl (xbg h0 (z - 1 - s)))]) (sk' := [.inl a, .inl (xbg h0 (z - 1 - s)), .inl a, .inl p, .inr (.inr 9)]) (h' := hj) rfl ?_
                refine E_b (x := (.if_icmp .ge 8, 45, [], [])) rfl rfl (fun c42 => ?_) (fun c42 => ?_)
                · rw [c_ge (by have := xbe hE hS0 s; have := xbe hE hS0 (z - 1 - s); exact ⟨by omega, by omega⟩) (by have := xbe hE hS0 s; have := xbe hE hS0 (z - 1 - s); exact ⟨by omega, by omega⟩)] at c42
                  simp only [decide_eq_true_eq, decide_eq_false_iff_not, Decidable.not_not] at c42
                  show xEx G0 cdX1_makeOfTwo (some .boolean) (xRn G0 MT (d + 5)) Q b 45 [some (.inr (.inr 9)), some (.inl p), some (.inl z), some (.inl ev), some (.inl s), some (.inl (xen h0 (z - 1 - s))), some (.inl a), some (.inl (xbg h0 (z - 1 - s)))] [.inl a, .inl p, .inr (.inr 9)] hj
                  refine E_s 1 (i' := 46) (ls' := [some (.inr (.inr 9)), some (.inl p), some (.inl z), some (.inl ev), some (.inl s), some (.inl (xen h0 (z - 1 - s))), some (.inl a), some (.inl (xbg h0 (z - 1 - s)))]) (sk' := [.inl (xbg h0 (z - 1 - s)), .inl a, .inl p, .inr (.inr 9)]) (h' := hj) rfl ?_
                  have hfr : xfr h0 p a (z - 1 - s) = xbg h0 (z - 1 - s) := by unfold xfr; first | (rw [if_pos (by omega)]) | (rw [if_neg (by omega)])
                  have hbt := xbe hE hS0 (z - 1 - s)
                  refine E_s 1 (i' := 47) (ls' := [some (.inr (.inr 9)), some (.inl p), some (.inl z), some (.inl ev), some (.inl s), some (.inl (xen h0 (z - 1 - s))), some (.inl a), some (.inl (xbg h0 (z - 1 - s)))]) (sk' := [.inl (xen h0 (z - 1 - s)), .inl (xbg h0 (z - 1 - s)), .inl a, .inl p, .inr (.inr 9)]) (h' := hj) rfl ?_
                  refine E_cp (x := (.invokevirtual 89, 4, [(1, 35)], [1])) (q := fun r h9 => r = (if (fR (fun S y => offP h0 S p a y) (fR (xga h0 p s z) S1 (xbg h0 s) (a - xbg h0 s).toNat) (xbg h0 (z - 1 - s)) (xen h0 (z - 1 - s) - (xbg h0 (z - 1 - s))).toNat) 0 4 = 0 then 1 else 0) ∧ GI h0 h9 (fR (fun S y => offP h0 S p a y) (fR (xga h0 p s z) S1 (xbg h0 s) (a - xbg h0 s).toNat) (xbg h0 (z - 1 - s)) (xen h0 (z - 1 - s) - (xbg h0 (z - 1 - s))).toNat)) rfl rfl (Nat.le_of_ble_eq_true rfl) (c_offerEach d 0 h0 hj (fR (xga h0 p s z) S1 (xbg h0 s) (a - xbg h0 s).toNat) p a (xbg h0 (z - 1 - s)) (xen h0 (z - 1 - s)) hB hGa hoa hp (by have := hsa.1; omega) (by omega) (by have := hsa.1; omega) (fun h9 h8 => ⟨_, rfl, rfl, h8⟩)) (fun r hj2 hq2 => ?_)
                  obtain ⟨hr, hGn⟩ := hq2
                  have hX : xga h0 p s z (fR (xga h0 p s z) S1 (xbg h0 s) (a - xbg h0 s).toNat) a = fR (fun S y => offP h0 S p a y) (fR (xga h0 p s z) S1 (xbg h0 s) (a - xbg h0 s).toNat) (xbg h0 (z - 1 - s)) (xen h0 (z - 1 - s) - (xbg h0 (z - 1 - s))).toNat := by unfold xga; rw [hfr]
                  rw [← hX] at hr hGn
                  have hsn : STB S (xga h0 p s z (fR (xga h0 p s z) S1 (xbg h0 s) (a - xbg h0 s).toNat) a) := by
                    refine STB.tr (fun k z1 z2 => (hG.2.1.2.2.2.2.1 k z1 z2).1) hsa ?_
                    exact (fR_w hGa.2.1 _ (fun S' i q1 q2 q3 q4 => offP_w hB q3 (by unfold okc; have := hsa.1; have := q4.1; exact Or.inr (Or.inr ⟨hp.1, hp.2, by omega, by omega, by omega, by omega⟩)))).2.1
                  show xEx G0 cdX1_makeOfTwo (some .boolean) (xRn G0 MT (d + 5)) Q b 48 [some (.inr (.inr 9)), some (.inl p), some (.inl z), some (.inl ev), some (.inl s), some (.inl (xen h0 (z - 1 - s))), some (.inl a), some (.inl (xbg h0 (z - 1 - s)))] [.inl r] hj2
                  refine E_b (x := (.ifCond .ne 5, 51, [], [])) rfl rfl (fun c48 => ?_) (fun c48 => ?_)
                  · rw [c_ne (by first | exact ⟨by omega, by omega⟩ | (rw [hr]; split <;> exact ⟨by omega, by omega⟩)) (by first | exact ⟨by omega, by omega⟩ | (rw [hr]; split <;> exact ⟨by omega, by omega⟩))] at c48
                    simp only [decide_eq_true_eq, decide_eq_false_iff_not, Decidable.not_not] at c48
                    show xEx G0 cdX1_makeOfTwo (some .boolean) (xRn G0 MT (d + 5)) Q b 51 [some (.inr (.inr 9)), some (.inl p), some (.inl z), some (.inl ev), some (.inl s), some (.inl (xen h0 (z - 1 - s))), some (.inl a), some (.inl (xbg h0 (z - 1 - s)))] [] hj2
                    have hon : (xga h0 p s z (fR (xga h0 p s z) S1 (xbg h0 s) (a - xbg h0 s).toNat) a) 0 4 = 0 := by
                      by_cases q : (xga h0 p s z (fR (xga h0 p s z) S1 (xbg h0 s) (a - xbg h0 s).toNat) a) 0 4 = 0
                      · exact q
                      · rw [hr, if_neg q] at c48; exact absurd rfl c48
                    refine E_s 2 (i' := 22) (ls' := [some (.inr (.inr 9)), some (.inl p), some (.inl z), some (.inl ev), some (.inl s), some (.inl (xen h0 (z - 1 - s))), some (.inl (a + 1)), some (.inl (xbg h0 (z - 1 - s)))]) (sk' := []) (h' := hj2) rfl ?_
                    exact ih22 hj2 (a + 1) _ (by omega) (by omega) (by rw [fR_n ha0]; exact hGn) (by rw [fR_n ha0]; exact hsn) (by rw [fR_n ha0]; exact hon) (by omega)
                  · rw [c_ne (by first | exact ⟨by omega, by omega⟩ | (rw [hr]; split <;> exact ⟨by omega, by omega⟩)) (by first | exact ⟨by omega, by omega⟩ | (rw [hr]; split <;> exact ⟨by omega, by omega⟩))] at c48
                    simp only [decide_eq_true_eq, decide_eq_false_iff_not, Decidable.not_not] at c48
                    show xEx G0 cdX1_makeOfTwo (some .boolean) (xRn G0 MT (d + 5)) Q b 49 [some (.inr (.inr 9)), some (.inl p), some (.inl z), some (.inl ev), some (.inl s), some (.inl (xen h0 (z - 1 - s))), some (.inl a), some (.inl (xbg h0 (z - 1 - s)))] [] hj2
                    refine E_s 1 (i' := 50) (ls' := [some (.inr (.inr 9)), some (.inl p), some (.inl z), some (.inl ev), some (.inl s), some (.inl (xen h0 (z - 1 - s))), some (.inl a), some (.inl (xbg h0 (z - 1 - s)))]) (sk' := [.inl 0]) (h' := hj2) rfl ?_
                    exact E_ret (x := (.ireturn, 0, [], [])) (v := some (.inl 0)) rfl (Or.inr ⟨rfl, Or.inl rfl⟩) (by
                      have hne : (fR (xga h0 p s z) S1 (xbg h0 s) (a + 1 - xbg h0 s).toNat) 0 4 ≠ 0 := by
                        rw [fR_n ha0]
                        intro q
                        rw [hr, if_pos q] at c48
                        exact absurd c48 (by decide)
                      have h1 := fR_end (hi := xen h0 s) (stp_a h0 p s z) ha0 (by omega) hne
                      have h2 : fR (xgs h0 p z) S 1 (s + 1 - 1).toNat = fR (xga h0 p s z) S1 (xbg h0 s) (a + 1 - xbg h0 s).toNat := by rw [fR_n hs0, hS1]; exact h1
                      have hne2 : fR (xgs h0 p z) S 1 (s + 1 - 1).toNat 0 4 ≠ 0 := by rw [h2]; exact hne
                      have h3 := fR_end (hi := z - 1) (stp_gs h0 p z) hs0 (by omega) hne2
                      have h4 := hQ hj2 (by rw [h3, h2, fR_n ha0]; exact hGn)
                      rw [h3, if_neg hne2] at h4
                      exact h4)
                · rw [c_ge (by have := xbe hE hS0 s; have := xbe hE hS0 (z - 1 - s); exact ⟨by omega, by omega⟩) (by have := xbe hE hS0 s; have := xbe hE hS0 (z - 1 - s); exact ⟨by omega, by omega⟩)] at c42
                  simp only [decide_eq_true_eq, decide_eq_false_iff_not, Decidable.not_not] at c42
                  show xEx G0 cdX1_makeOfTwo (some .boolean) (xRn G0 MT (d + 5)) Q b 43 [some (.inr (.inr 9)), some (.inl p), some (.inl z), some (.inl ev), some (.inl s), some (.inl (xen h0 (z - 1 - s))), some (.inl a), some (.inl (xbg h0 (z - 1 - s)))] [.inl a, .inl p, .inr (.inr 9)] hj
                  refine E_s 2 (i' := 46) (ls' := [some (.inr (.inr 9)), some (.inl p), some (.inl z), some (.inl ev), some (.inl s), some (.inl (xen h0 (z - 1 - s))), some (.inl a), some (.inl (xbg h0 (z - 1 - s)))]) (sk' := [.inl a, .inl a, .inl p, .inr (.inr 9)]) (h' := hj) rfl ?_
                  have hfr : xfr h0 p a (z - 1 - s) = a := by unfold xfr; first | (rw [if_pos (by omega)]) | (rw [if_neg (by omega)])
                  have hbt := xbe hE hS0 (z - 1 - s)
                  refine E_s 1 (i' := 47) (ls' := [some (.inr (.inr 9)), some (.inl p), some (.inl z), some (.inl ev), some (.inl s), some (.inl (xen h0 (z - 1 - s))), some (.inl a), some (.inl (xbg h0 (z - 1 - s)))]) (sk' := [.inl (xen h0 (z - 1 - s)), .inl a, .inl a, .inl p, .inr (.inr 9)]) (h' := hj) rfl ?_
                  refine E_cp (x := (.invokevirtual 89, 4, [(1, 35)], [1])) (q := fun r h9 => r = (if (fR (fun S y => offP h0 S p a y) (fR (xga h0 p s z) S1 (xbg h0 s) (a - xbg h0 s).toNat) a (xen h0 (z - 1 - s) - a).toNat) 0 4 = 0 then 1 else 0) ∧ GI h0 h9 (fR (fun S y => offP h0 S p a y) (fR (xga h0 p s z) S1 (xbg h0 s) (a - xbg h0 s).toNat) a (xen h0 (z - 1 - s) - a).toNat)) rfl rfl (Nat.le_of_ble_eq_true rfl) (c_offerEach d 0 h0 hj (fR (xga h0 p s z) S1 (xbg h0 s) (a - xbg h0 s).toNat) p a a (xen h0 (z - 1 - s)) hB hGa hoa hp (by have := hsa.1; omega) (by omega) (by have := hsa.1; omega) (fun h9 h8 => ⟨_, rfl, rfl, h8⟩)) (fun r hj2 hq2 => ?_)
                  obtain ⟨hr, hGn⟩ := hq2
                  have hX : xga h0 p s z (fR (xga h0 p s z) S1 (xbg h0 s) (a - xbg h0 s).toNat) a = fR (fun S y => offP h0 S p a y) (fR (xga h0 p s z) S1 (xbg h0 s) (a - xbg h0 s).toNat) a (xen h0 (z - 1 - s) - a).toNat := by unfold xga; rw [hfr]
                  rw [← hX] at hr hGn
                  have hsn : STB S (xga h0 p s z (fR (xga h0 p s z) S1 (xbg h0 s) (a - xbg h0 s).toNat) a) := by
                    refine STB.tr (fun k z1 z2 => (hG.2.1.2.2.2.2.1 k z1 z2).1) hsa ?_
                    exact (fR_w hGa.2.1 _ (fun S' i q1 q2 q3 q4 => offP_w hB q3 (by unfold okc; have := hsa.1; have := q4.1; exact Or.inr (Or.inr ⟨hp.1, hp.2, by omega, by omega, by omega, by omega⟩)))).2.1
                  show xEx G0 cdX1_makeOfTwo (some .boolean) (xRn G0 MT (d + 5)) Q b 48 [some (.inr (.inr 9)), some (.inl p), some (.inl z), some (.inl ev), some (.inl s), some (.inl (xen h0 (z - 1 - s))), some (.inl a), some (.inl (xbg h0 (z - 1 - s)))] [.inl r] hj2
                  refine E_b (x := (.ifCond .ne 5, 51, [], [])) rfl rfl (fun c48 => ?_) (fun c48 => ?_)
                  · rw [c_ne (by first | exact ⟨by omega, by omega⟩ | (rw [hr]; split <;> exact ⟨by omega, by omega⟩)) (by first | exact ⟨by omega, by omega⟩ | (rw [hr]; split <;> exact ⟨by omega, by omega⟩))] at c48
                    simp only [decide_eq_true_eq, decide_eq_false_iff_not, Decidable.not_not] at c48
                    show xEx G0 cdX1_makeOfTwo (some .boolean) (xRn G0 MT (d + 5)) Q b 51 [some (.inr (.inr 9)), some (.inl p), some (.inl z), some (.inl ev), some (.inl s), some (.inl (xen h0 (z - 1 - s))), some (.inl a), some (.inl (xbg h0 (z - 1 - s)))] [] hj2
                    have hon : (xga h0 p s z (fR (xga h0 p s z) S1 (xbg h0 s) (a - xbg h0 s).toNat) a) 0 4 = 0 := by
                      by_cases q : (xga h0 p s z (fR (xga h0 p s z) S1 (xbg h0 s) (a - xbg h0 s).toNat) a) 0 4 = 0
                      · exact q
                      · rw [hr, if_neg q] at c48; exact absurd rfl c48
                    refine E_s 2 (i' := 22) (ls' := [some (.inr (.inr 9)), some (.inl p), some (.inl z), some (.inl ev), some (.inl s), some (.inl (xen h0 (z - 1 - s))), some (.inl (a + 1)), some (.inl (xbg h0 (z - 1 - s)))]) (sk' := []) (h' := hj2) rfl ?_
                    exact ih22 hj2 (a + 1) _ (by omega) (by omega) (by rw [fR_n ha0]; exact hGn) (by rw [fR_n ha0]; exact hsn) (by rw [fR_n ha0]; exact hon) (by omega)
                  · rw [c_ne (by first | exact ⟨by omega, by omega⟩ | (rw [hr]; split <;> exact ⟨by omega, by omega⟩)) (by first | exact ⟨by omega, by omega⟩ | (rw [hr]; split <;> exact ⟨by omega, by omega⟩))] at c48
                    simp only [decide_eq_true_eq, decide_eq_false_iff_not, Decidable.not_not] at c48
                    show xEx G0 cdX1_makeOfTwo (some .boolean) (xRn G0 MT (d + 5)) Q b 49 [some (.inr (.inr 9)), some (.inl p), some (.inl z), some (.inl ev), some (.inl s), some (.inl (xen h0 (z - 1 - s))), some (.inl a), some (.inl (xbg h0 (z - 1 - s)))] [] hj2
                    refine E_s 1 (i' := 50) (ls' := [some (.inr (.inr 9)), some (.inl p), some (.inl z), some (.inl ev), some (.inl s), some (.inl (xen h0 (z - 1 - s))), some (.inl a), some (.inl (xbg h0 (z - 1 - s)))]) (sk' := [.inl 0]) (h' := hj2) rfl ?_
                    exact E_ret (x := (.ireturn, 0, [], [])) (v := some (.inl 0)) rfl (Or.inr ⟨rfl, Or.inl rfl⟩) (by
                      have hne : (fR (xga h0 p s z) S1 (xbg h0 s) (a + 1 - xbg h0 s).toNat) 0 4 ≠ 0 := by
                        rw [fR_n ha0]
                        intro q
                        rw [hr, if_pos q] at c48
                        exact absurd c48 (by decide)
                      have h1 := fR_end (hi := xen h0 s) (stp_a h0 p s z) ha0 (by omega) hne
                      have h2 : fR (xgs h0 p z) S 1 (s + 1 - 1).toNat = fR (xga h0 p s z) S1 (xbg h0 s) (a + 1 - xbg h0 s).toNat := by rw [fR_n hs0, hS1]; exact h1
                      have hne2 : fR (xgs h0 p z) S 1 (s + 1 - 1).toNat 0 4 ≠ 0 := by rw [h2]; exact hne
                      have h3 := fR_end (hi := z - 1) (stp_gs h0 p z) hs0 (by omega) hne2
                      have h4 := hQ hj2 (by rw [h3, h2, fR_n ha0]; exact hGn)
                      rw [h3, if_neg hne2] at h4
                      exact h4)
        exact key22 _ hh (xbg h0 s) v7 (Int.le_refl _) hbe.2.1 (by rw [Int.sub_self]; exact hGs) (by rw [Int.sub_self]; exact hss) (by rw [Int.sub_self]; exact hos) (Nat.lt_succ_self _)
  exact key5 _ h 1 none none none (by omega) (by omega) (by exact hG) (by exact STB.rf S) (by exact ho) (Nat.lt_succ_self _)
