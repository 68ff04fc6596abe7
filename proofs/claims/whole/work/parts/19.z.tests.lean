def xft (h0 : xH) (kd a t : Int) : Int := if kd = 1 ∧ xbg h0 t ≤ a then a + 1 else xbg h0 t
def xbh (h0 : xH) (t : Int) : Int := if t ≤ 2 then xen h0 t else 0
noncomputable def xca (h0 : xH) (kd s z : Int) (T : xH) (a : Int) : xH := fR (fun T y => offT h0 T kd a y) T (xft h0 kd a (z - 1 - s)) (xbh h0 (z - 1 - s) - xft h0 kd a (z - 1 - s)).toNat
noncomputable def xcs (h0 : xH) (kd z : Int) (T : xH) (s : Int) : xH := fR (xca h0 kd s z) T (xbg h0 s) (xen h0 s - xbg h0 s).toNat
noncomputable def xnt (h0 : xH) (z : Int) (T : xH) : xH := fR (fun T i => offT h0 T 2 i 0) T (tbg h0 (z - 1)) (ten h0 (z - 1) - tbg h0 (z - 1)).toNat
def tfr (h0 : xH) (a t : Int) : Int := if tbg h0 t ≤ a then a + 1 else tbg h0 t
noncomputable def xaa (h0 : xH) (s z : Int) (T : xH) (a : Int) : xH := fR (fun T y => offT h0 T 3 a y) T (tfr h0 a (z - 1 - s)) (ten h0 (z - 1 - s) - tfr h0 a (z - 1 - s)).toNat
noncomputable def xas (h0 : xH) (z : Int) (T : xH) (s : Int) : xH := fR (xaa h0 s z) T (tbg h0 s) (ten h0 s - tbg h0 s).toNat
/-- all TESTS of SIZE z -/
noncomputable def mkT (h0 : xH) (z : Int) (T : xH) : xH := fR (xas h0 z) (xnt h0 z (fR (xcs h0 1 z) (fR (xcs h0 0 z) T 1 (2 + 1 - 1 : Int).toNat) 1 (2 + 1 - 1 : Int).toNat)) 3 (z - 1 - 3).toNat
theorem stp_ca (h0 : xH) (kd s z : Int) : stp (xca h0 kd s z) := fun _ h _ => fR_stop (stp_t h0 kd _) h _ _
theorem stp_cs (h0 : xH) (kd z : Int) : stp (xcs h0 kd z) := fun _ h _ => fR_stop (stp_ca h0 kd _ z) h _ _
theorem stp_aa (h0 : xH) (s z : Int) : stp (xaa h0 s z) := fun _ h _ => fR_stop (stp_t h0 3 _) h _ _
theorem stp_as (h0 : xH) (z : Int) : stp (xas h0 z) := fun _ h _ => fR_stop (stp_aa h0 _ z) h _ _
theorem xbh_e {h0 : xH} {K : Int} (h : ENS h0 K) (hK : 0 ≤ K) (t : Int) : 0 ≤ xbh h0 t ∧ xbh h0 t ≤ K := by
  have := xbe h hK t
  unfold xbh
  split <;> omega
theorem xft_e {h0 : xH} {K : Int} (h : ENS h0 K) (hK : 0 ≤ K) (kd a t : Int) (ha : 0 ≤ a ∧ a < K) : 0 ≤ xft h0 kd a t ∧ xft h0 kd a t ≤ K := by
  have := xbe h hK t
  unfold xft
  split <;> omega
theorem tfr_e {h0 : xH} {K : Int} (h : ENT h0 K) (hK : 0 ≤ K) (a t : Int) (ha : 0 ≤ a ∧ a < K) : 0 ≤ tfr h0 a t ∧ tfr h0 a t ≤ K := by
  have := tbe h hK t
  unfold tfr
  split <;> omega
/-- a step by TESTS leaves what is KEPT -/
def wtp (h0 T T' : xH) : Prop := WT (h0 1 2) T' ∧ STB T T' ∧ T' 0 2 + T' 0 3 = T 0 2 + T 0 3
theorem xca_w {h0 T : xH} {kd s z a : Int} (hB : BT h0) (hW : WT (h0 1 2) T) (hE : ENS h0 (h0 9 9)) (hk : 0 ≤ kd ∧ kd ≤ 1) (ha : 0 ≤ a ∧ a < h0 9 9) : wtp h0 T (xca h0 kd s z T a) := by
  have h1 := xbh_e hE hB.2.1.1 (z - 1 - s)
  have h2 := xft_e hE hB.2.1.1 kd a (z - 1 - s) ha
  exact fT_w hW _ (fun T' i q1 q2 q3 q4 => WT_off hB q3 (Or.inl ⟨hk.1, hk.2, ha.1, ha.2, by omega, by omega⟩))
theorem xcs_w {h0 T : xH} {kd s z : Int} (hB : BT h0) (hW : WT (h0 1 2) T) (hE : ENS h0 (h0 9 9)) (hk : 0 ≤ kd ∧ kd ≤ 1) : wtp h0 T (xcs h0 kd z T s) := by
  have h1 := xbe hE hB.2.1.1 s
  exact fT_w hW _ (fun T' i q1 q2 q3 q4 => xca_w hB q3 hE hk (by omega))
theorem xnt_w {h0 T : xH} {z : Int} (hB : BT h0) (hW : WT (h0 1 2) T) (hE : ENT h0 (T 0 0)) : wtp h0 T (xnt h0 z T) := by
  have h1 := tbe hE hW.1 (z - 1)
  exact fT_w hW _ (fun T' i q1 q2 q3 q4 => WT_off hB q3 (Or.inr (Or.inl ⟨rfl, by omega, by have := q4.1; omega, rfl⟩)))
theorem xaa_w {h0 T : xH} {s z a : Int} (hB : BT h0) (hW : WT (h0 1 2) T) (hE : ENT h0 (T 0 0)) (ha : 0 ≤ a ∧ a < T 0 0) : wtp h0 T (xaa h0 s z T a) := by
  have h1 := tbe hE hW.1 (z - 1 - s)
  have h2 := tfr_e hE hW.1 a (z - 1 - s) ha
  exact fT_w hW _ (fun T' i q1 q2 q3 q4 => WT_off hB q3 (Or.inr (Or.inr ⟨rfl, ha.1, by have := q4.1; omega, by omega, by have := q4.1; omega⟩)))
theorem xas_w {h0 T : xH} {s z : Int} (hB : BT h0) (hW : WT (h0 1 2) T) (hE : ENT h0 (T 0 0)) : wtp h0 T (xas h0 z T s) := by
  have h1 := tbe hE hW.1 s
  exact fT_w hW _ (fun T' i q1 q2 q3 q4 => xaa_w hB q3 (ENT_up q4.1 hE) (by have := q4.1; omega))
set_option maxHeartbeats 1000000 in
theorem c_makeCompared (d b : Nat) (h0 h T : xH) (hB : BT h0) (hG : GIT h0 h T) (ho : T 0 4 = 0) (hE : ENS h0 (h0 9 9)) (kd z : Int) (hkd : 0 ≤ kd ∧ kd ≤ 1) (hz : 3 ≤ z ∧ z ≤ 7) {Q : xO → xH → Prop} (hQ : ∀ h', GIT h0 h' (fR (xcs h0 kd z) T 1 (2 + 1 - 1 : Int).toNat) → Q (.inl (some (.inl (if (fR (xcs h0 kd z) T 1 (2 + 1 - 1 : Int).toNat) 0 4 = 0 then 1 else 0)))) h') : xRn G0 MT (d + 6) b 80 [.inr (.inr 28), .inl kd, .inl z] h Q := by
  refine R_of (M := mX9_makeCompared) rfl (Nat.le_of_ble_eq_true rfl) ?_
  show xEx G0 cdX9_makeCompared (some .boolean) (xRn G0 MT (d + 5)) Q b 0 [some (.inr (.inr 28)), some (.inl kd), some (.inl z), none, none, none, none, none] [] h
  have hS0 := hG.2.1.1
  have hS3 := hG.2.1.2.1
  have hKe := hB.2.1
  have hed : h 23 = h0 23 := hG.2.2.1 23 (by decide)
  refine E_s 2 (i' := 2) (ls' := [some (.inr (.inr 28)), some (.inl kd), some (.inl z), some (.inl 1), none, none, none, none]) (sk' := []) (h' := h) rfl ?_
  have key2 : ∀ (n : Nat) (hh : xH) (s : Int) (v4 v5 v6 v7 : Option xV), (1 ≤ s) → (s ≤ 3) → (GIT h0 hh (fR (xcs h0 kd z) T 1 (s - 1).toNat)) → (STB T (fR (xcs h0 kd z) T 1 (s - 1).toNat)) → ((fR (xcs h0 kd z) T 1 (s - 1).toNat) 0 4 = 0) → ((3 - s).toNat) < n → xEx G0 cdX9_makeCompared (some .boolean) (xRn G0 MT (d + 5)) Q b 2 [some (.inr (.inr 28)), some (.inl kd), some (.inl z), some (.inl s), v4, v5, v6, v7] [] hh := by
    intro n
    induction n with
    | zero => intro hh s v4 v5 v6 v7 _ _ _ _ _ hm; exact absurd hm (Nat.not_lt_zero _)
    | succ n ih2 =>
      intro hh s v4 v5 v6 v7 hs0 hs9 hGs hss hos hm2
      have hed : hh 23 = h0 23 := hGs.2.2.1 23 (by decide)
      generalize hS1 : fR (xcs h0 kd z) T 1 (s - 1).toNat = T1 at hGs hss hos
      refine E_s 2 (i' := 4) (ls' := [some (.inr (.inr 28)), some (.inl kd), some (.inl z), some (.inl s), v4, v5, v6, v7]) (sk' := [.inl 2, .inl s]) (h' := hh) rfl ?_
      refine E_b (x := (.if_icmp .gt 112, 60, [], [])) rfl rfl (fun c4 => ?_) (fun c4 => ?_)
      · rw [c_gt (by first | assumption | (refine ⟨?_, ?_⟩ <;> omega) | (simp only [xr] at *; omega)) (by first | assumption | (refine ⟨?_, ?_⟩ <;> omega) | (simp only [xr] at *; omega))] at c4
        simp only [decide_eq_true_eq, decide_eq_false_iff_not, Decidable.not_not] at c4
        show xEx G0 cdX9_makeCompared (some .boolean) (xRn G0 MT (d + 5)) Q b 60 [some (.inr (.inr 28)), some (.inl kd), some (.inl z), some (.inl s), v4, v5, v6, v7] [] hh
        refine E_s 1 (i' := 61) (ls' := [some (.inr (.inr 28)), some (.inl kd), some (.inl z), some (.inl s), v4, v5, v6, v7]) (sk' := [.inl 1]) (h' := hh) rfl ?_
        exact E_ret (x := (.ireturn, 0, [], [])) (v := some (.inl 1)) rfl (Or.inr ⟨rfl, Or.inr rfl⟩) (by
          have e8 : s = 2 + 1 := by omega
          rw [e8] at hS1
          have h4 := hQ hh (by rw [hS1]; exact hGs)
          rw [hS1, if_pos hos] at h4
          exact h4)
      · rw [c_gt (by first | assumption | (refine ⟨?_, ?_⟩ <;> omega) | (simp only [xr] at *; omega)) (by first | assumption | (refine ⟨?_, ?_⟩ <;> omega) | (simp only [xr] at *; omega))] at c4
        simp only [decide_eq_true_eq, decide_eq_false_iff_not, Decidable.not_not] at c4
        show xEx G0 cdX9_makeCompared (some .boolean) (xRn G0 MT (d + 5)) Q b 5 [some (.inr (.inr 28)), some (.inl kd), some (.inl z), some (.inl s), v4, v5, v6, v7] [] hh
        refine E_s 8 (i' := 13) (ls' := [some (.inr (.inr 28)), some (.inl kd), some (.inl z), some (.inl s), some (.inl ((z - 1) - s)), v5, v6, v7]) (sk' := [.inl 2, .inl ((z - 1) - s)]) (h' := hh) rfl ?_
        refine E_b (x := (.if_icmp .le 7, 16, [], [])) rfl rfl (fun c13 => ?_) (fun c13 => ?_)
        · rw [c_le (by first | assumption | (refine ⟨?_, ?_⟩ <;> omega) | (simp only [xr] at *; omega)) (by first | assumption | (refine ⟨?_, ?_⟩ <;> omega) | (simp only [xr] at *; omega))] at c13
          simp only [decide_eq_true_eq, decide_eq_false_iff_not, Decidable.not_not] at c13
          show xEx G0 cdX9_makeCompared (some .boolean) (xRn G0 MT (d + 5)) Q b 16 [some (.inr (.inr 28)), some (.inl kd), some (.inl z), some (.inl s), some (.inl ((z - 1) - s)), v5, v6, v7] [] hh
          refine E_s 3 (i' := 19) (ls' := [some (.inr (.inr 28)), some (.inl kd), some (.inl z), some (.inl s), some (.inl ((z - 1) - s)), v5, v6, v7]) (sk' := [.inl ((z - 1) - s), .inr (.inr 9)]) (h' := hh) rfl ?_
          refine E_ci (x := (.invokevirtual 38, 1, [(1, 31)], [1])) (r := (xen h0 (z - 1 - s))) (h' := hh) rfl rfl (Nat.le_of_ble_eq_true rfl) (c_end_ge (d + 4) 0 hh (z - 1 - s) ⟨by omega, by omega⟩ ⟨by unfold xen; rw [hed], rfl⟩) ?_
          show xEx G0 cdX9_makeCompared (some .boolean) (xRn G0 MT (d + 5)) Q b 20 [some (.inr (.inr 28)), some (.inl kd), some (.inl z), some (.inl s), some (.inl ((z - 1) - s)), v5, v6, v7] [.inl (xen h0 (z - 1 - s))] hh
          refine E_s 1 (i' := 21) (ls' := [some (.inr (.inr 28)), some (.inl kd), some (.inl z), some (.inl s), some (.inl ((z - 1) - s)), some (.inl (xen h0 (z - 1 - s))), v6, v7]) (sk' := []) (h' := hh) rfl ?_
          have hbe := xbe hE hB.2.1.1 s
          refine E_s 3 (i' := 24) (ls' := [some (.inr (.inr 28)), some (.inl kd), some (.inl z), some (.inl s), some (.inl ((z - 1) - s)), some (.inl (xen h0 (z - 1 - s))), v6, v7]) (sk' := [.inl s, .inr (.inr 9)]) (h' := hh) rfl ?_
          refine E_ci (x := (.invokevirtual 44, 1, [(1, 30)], [1])) (r := (xbg h0 (s))) (h' := hh) rfl rfl (Nat.le_of_ble_eq_true rfl) (c_begin_ge (d + 4) 0 hh (s) ⟨by omega, by omega⟩ ⟨by unfold xbg; rw [hed], rfl⟩) ?_
          show xEx G0 cdX9_makeCompared (some .boolean) (xRn G0 MT (d + 5)) Q b 25 [some (.inr (.inr 28)), some (.inl kd), some (.inl z), some (.inl s), some (.inl ((z - 1) - s)), some (.inl (xen h0 (z - 1 - s))), v6, v7] [.inl (xbg h0 (s))] hh
          refine E_s 1 (i' := 26) (ls' := [some (.inr (.inr 28)), some (.inl kd), some (.inl z), some (.inl s), some (.inl ((z - 1) - s)), some (.inl (xen h0 (z - 1 - s))), some (.inl (xbg h0 (s))), v7]) (sk' := []) (h' := hh) rfl ?_
          have key26 : ∀ (n : Nat) (hj : xH) (a : Int) (v7 : Option xV), (xbg h0 s ≤ a) → (a ≤ xen h0 s) → (GIT h0 hj (fR (xca h0 kd s z) T1 (xbg h0 s) (a - xbg h0 s).toNat)) → (STB T (fR (xca h0 kd s z) T1 (xbg h0 s) (a - xbg h0 s).toNat)) → ((fR (xca h0 kd s z) T1 (xbg h0 s) (a - xbg h0 s).toNat) 0 4 = 0) → ((xen h0 s - a).toNat) < n → xEx G0 cdX9_makeCompared (some .boolean) (xRn G0 MT (d + 5)) Q b 26 [some (.inr (.inr 28)), some (.inl kd), some (.inl z), some (.inl s), some (.inl ((z - 1) - s)), some (.inl (xen h0 (z - 1 - s))), some (.inl a), v7] [] hj := by
            intro n
            induction n with
            | zero => intro hj a v7 _ _ _ _ _ hm; exact absurd hm (Nat.not_lt_zero _)
            | succ n ih26 =>
              intro hj a v7 ha0 ha9 hGa hsa hoa hm26
              have hed : hj 23 = h0 23 := hGa.2.2.1 23 (by decide)
              refine E_s 4 (i' := 30) (ls' := [some (.inr (.inr 28)), some (.inl kd), some (.inl z), some (.inl s), some (.inl ((z - 1) - s)), some (.inl (xen h0 (z - 1 - s))), some (.inl a), v7]) (sk' := [.inl s, .inr (.inr 9), .inl a]) (h' := hj) rfl ?_
              refine E_ci (x := (.invokevirtual 38, 1, [(1, 31)], [1])) (r := (xen h0 (s))) (h' := hj) rfl rfl (Nat.le_of_ble_eq_true rfl) (c_end_ge (d + 4) 0 hj (s) ⟨by omega, by omega⟩ ⟨by unfold xen; rw [hed], rfl⟩) ?_
              show xEx G0 cdX9_makeCompared (some .boolean) (xRn G0 MT (d + 5)) Q b 31 [some (.inr (.inr 28)), some (.inl kd), some (.inl z), some (.inl s), some (.inl ((z - 1) - s)), some (.inl (xen h0 (z - 1 - s))), some (.inl a), v7] [.inl (xen h0 (s)), .inl a] hj
              refine E_b (x := (.if_icmp .ge 55, 58, [], [])) rfl rfl (fun c31 => ?_) (fun c31 => ?_)
              · rw [c_ge (by have := xbe hE hB.2.1.1 s; exact ⟨by omega, by omega⟩) (by have := xbe hE hB.2.1.1 s; exact ⟨by omega, by omega⟩)] at c31
                simp only [decide_eq_true_eq, decide_eq_false_iff_not, Decidable.not_not] at c31
                show xEx G0 cdX9_makeCompared (some .boolean) (xRn G0 MT (d + 5)) Q b 58 [some (.inr (.inr 28)), some (.inl kd), some (.inl z), some (.inl s), some (.inl ((z - 1) - s)), some (.inl (xen h0 (z - 1 - s))), some (.inl a), v7] [] hj
                have hae : a = xen h0 s := by omega
                refine E_s 2 (i' := 2) (ls' := [some (.inr (.inr 28)), some (.inl kd), some (.inl z), some (.inl (s + 1)), some (.inl ((z - 1) - s)), some (.inl (xen h0 (z - 1 - s))), some (.inl a), v7]) (sk' := []) (h' := hj) rfl ?_
                exact ih2 hj (s + 1) _ _ _ _ (by omega) (by omega) (by rw [fR_n hs0, hS1]; rw [hae] at hGa; exact hGa) (by rw [fR_n hs0, hS1]; rw [hae] at hsa; exact hsa) (by rw [fR_n hs0, hS1]; rw [hae] at hoa; exact hoa) (by omega)
              · rw [c_ge (by have := xbe hE hB.2.1.1 s; exact ⟨by omega, by omega⟩) (by have := xbe hE hB.2.1.1 s; exact ⟨by omega, by omega⟩)] at c31
                simp only [decide_eq_true_eq, decide_eq_false_iff_not, Decidable.not_not] at c31
                show xEx G0 cdX9_makeCompared (some .boolean) (xRn G0 MT (d + 5)) Q b 32 [some (.inr (.inr 28)), some (.inl kd), some (.inl z), some (.inl s), some (.inl ((z - 1) - s)), some (.inl (xen h0 (z - 1 - s))), some (.inl a), v7] [] hj
                refine E_s 3 (i' := 35) (ls' := [some (.inr (.inr 28)), some (.inl kd), some (.inl z), some (.inl s), some (.inl ((z - 1) - s)), some (.inl (xen h0 (z - 1 - s))), some (.inl a), v7]) (sk' := [.inl ((z - 1) - s), .inr (.inr 9)]) (h' := hj) rfl ?_
                refine E_ci (x := (.invokevirtual 44, 1, [(1, 30)], [1])) (r := (xbg h0 (z - 1 - s))) (h' := hj) rfl rfl (Nat.le_of_ble_eq_true rfl) (c_begin_ge (d + 4) 0 hj (z - 1 - s) ⟨by omega, by omega⟩ ⟨by unfold xbg; rw [hed], rfl⟩) ?_
                show xEx G0 cdX9_makeCompared (some .boolean) (xRn G0 MT (d + 5)) Q b 36 [some (.inr (.inr 28)), some (.inl kd), some (.inl z), some (.inl s), some (.inl ((z - 1) - s)), some (.inl (xen h0 (z - 1 - s))), some (.inl a), v7] [.inl (xbg h0 (z - 1 - s))] hj
                refine E_s 6 (i' := 42) (ls' := [some (.inr (.inr 28)), some (.inl kd), some (.inl z), some (.inl s), some (.inl ((z - 1) - s)), some (.inl (xen h0 (z - 1 - s))), some (.inl a), some (.inl (xbg h0 (z - 1 - s)))]) (sk' := [.inl 1, .inl kd, .inl a, .inl kd, .inr (.inr 28)]) (h' := hj) rfl ?_
                refine E_b (x := (.if_icmp .ne 17, 50, [], [])) rfl rfl (fun c42 => ?_) (fun c42 => ?_)
                · rw [c_ne (by first | assumption | (refine ⟨?_, ?_⟩ <;> omega) | (simp only [xr] at *; omega)) (by first | assumption | (refine ⟨?_, ?_⟩ <;> omega) | (simp only [xr] at *; omega))] at c42
                  simp only [decide_eq_true_eq, decide_eq_false_iff_not, Decidable.not_not] at c42
                  show xEx G0 cdX9_makeCompared (some .boolean) (xRn G0 MT (d + 5)) Q b 50 [some (.inr (.inr 28)), some (.inl kd), some (.inl z), some (.inl s), some (.inl ((z - 1) - s)), some (.inl (xen h0 (z - 1 - s))), some (.inl a), some (.inl (xbg h0 (z - 1 - s)))] [.inl a, .inl kd, .inr (.inr 28)] hj
                  refine E_s 2 (i' := 52) (ls' := [some (.inr (.inr 28)), some (.inl kd), some (.inl z), some (.inl s), some (.inl ((z - 1) - s)), some (.inl (xen h0 (z - 1 - s))), some (.inl a), some (.inl (xbg h0 (z - 1 - s)))]) (sk' := [.inl (xen h0 (z - 1 - s)), .inl (xbg h0 (z - 1 - s)), .inl a, .inl kd, .inr (.inr 28)]) (h' := hj) rfl ?_
                  have hfr : xft h0 kd a (z - 1 - s) = xbg h0 (z - 1 - s) := by unfold xft; first | (rw [if_pos (by omega)]) | (rw [if_neg (by omega)])
                  have hbh : xbh h0 (z - 1 - s) = xen h0 (z - 1 - s) := by unfold xbh; first | (rw [if_pos (by omega)]) | (rw [if_neg (by omega)])
                  have h1b := xbh_e hE hB.2.1.1 (z - 1 - s)
                  have h2b := xft_e hE hB.2.1.1 kd a (z - 1 - s) (by omega)
                  rw [hfr] at h2b
                  rw [hbh] at h1b
                  refine E_cp (x := (.invokevirtual 47, 4, [(7, 35)], [1])) (q := fun r h9 => r = (if (fR (fun T y => offT h0 T kd a y) (fR (xca h0 kd s z) T1 (xbg h0 s) (a - xbg h0 s).toNat) (xbg h0 (z - 1 - s)) (xen h0 (z - 1 - s) - (xbg h0 (z - 1 - s))).toNat) 0 4 = 0 then 1 else 0) ∧ GIT h0 h9 (fR (fun T y => offT h0 T kd a y) (fR (xca h0 kd s z) T1 (xbg h0 s) (a - xbg h0 s).toNat) (xbg h0 (z - 1 - s)) (xen h0 (z - 1 - s) - (xbg h0 (z - 1 - s))).toNat)) rfl rfl (Nat.le_of_ble_eq_true rfl) (c_offerEachT d 0 h0 hj (fR (xca h0 kd s z) T1 (xbg h0 s) (a - xbg h0 s).toNat) kd a (xbg h0 (z - 1 - s)) (xen h0 (z - 1 - s)) hB hGa hoa (fun T9 i9 z1 z2 z3 => Or.inl ⟨by omega, by omega, by omega, by omega, by omega, by omega⟩) (by omega) (by omega) (fun h9 h8 => ⟨_, rfl, rfl, h8⟩)) (fun r hj2 hq2 => ?_)
                  obtain ⟨hr, hGn⟩ := hq2
                  have hX : xca h0 kd s z (fR (xca h0 kd s z) T1 (xbg h0 s) (a - xbg h0 s).toNat) a = fR (fun T y => offT h0 T kd a y) (fR (xca h0 kd s z) T1 (xbg h0 s) (a - xbg h0 s).toNat) (xbg h0 (z - 1 - s)) (xen h0 (z - 1 - s) - (xbg h0 (z - 1 - s))).toNat := by unfold xca; rw [hfr, hbh]
                  rw [← hX] at hr hGn
                  have hsn : STB T (xca h0 kd s z (fR (xca h0 kd s z) T1 (xbg h0 s) (a - xbg h0 s).toNat) a) := STB.tr (fun k z1 z2 => (hG.2.1.2.2.2.2.1 k z1 z2).1) hsa (xca_w hB hGa.2.1 hE hkd (by omega)).2.1
                  show xEx G0 cdX9_makeCompared (some .boolean) (xRn G0 MT (d + 5)) Q b 53 [some (.inr (.inr 28)), some (.inl kd), some (.inl z), some (.inl s), some (.inl ((z - 1) - s)), some (.inl (xen h0 (z - 1 - s))), some (.inl a), some (.inl (xbg h0 (z - 1 - s)))] [.inl r] hj2
                  refine E_b (x := (.ifCond .ne 5, 56, [], [])) rfl rfl (fun c53 => ?_) (fun c53 => ?_)
                  · rw [c_ne (by first | exact ⟨by omega, by omega⟩ | (rw [hr]; split <;> exact ⟨by omega, by omega⟩)) (by first | exact ⟨by omega, by omega⟩ | (rw [hr]; split <;> exact ⟨by omega, by omega⟩))] at c53
                    simp only [decide_eq_true_eq, decide_eq_false_iff_not, Decidable.not_not] at c53
                    show xEx G0 cdX9_makeCompared (some .boolean) (xRn G0 MT (d + 5)) Q b 56 [some (.inr (.inr 28)), some (.inl kd), some (.inl z), some (.inl s), some (.inl ((z - 1) - s)), some (.inl (xen h0 (z - 1 - s))), some (.inl a), some (.inl (xbg h0 (z - 1 - s)))] [] hj2
                    have hon : (xca h0 kd s z (fR (xca h0 kd s z) T1 (xbg h0 s) (a - xbg h0 s).toNat) a) 0 4 = 0 := by
                      by_cases q : (xca h0 kd s z (fR (xca h0 kd s z) T1 (xbg h0 s) (a - xbg h0 s).toNat) a) 0 4 = 0
                      · exact q
                      · rw [hr, if_neg q] at c53; exact absurd rfl c53
                    refine E_s 2 (i' := 26) (ls' := [some (.inr (.inr 28)), some (.inl kd), some (.inl z), some (.inl s), some (.inl ((z - 1) - s)), some (.inl (xen h0 (z - 1 - s))), some (.inl (a + 1)), some (.inl (xbg h0 (z - 1 - s)))]) (sk' := []) (h' := hj2) rfl ?_
                    exact ih26 hj2 (a + 1) _ (by omega) (by omega) (by rw [fR_n ha0]; exact hGn) (by rw [fR_n ha0]; exact hsn) (by rw [fR_n ha0]; exact hon) (by omega)
                  · rw [c_ne (by first | exact ⟨by omega, by omega⟩ | (rw [hr]; split <;> exact ⟨by omega, by omega⟩)) (by first | exact ⟨by omega, by omega⟩ | (rw [hr]; split <;> exact ⟨by omega, by omega⟩))] at c53
                    simp only [decide_eq_true_eq, decide_eq_false_iff_not, Decidable.not_not] at c53
                    show xEx G0 cdX9_makeCompared (some .boolean) (xRn G0 MT (d + 5)) Q b 54 [some (.inr (.inr 28)), some (.inl kd), some (.inl z), some (.inl s), some (.inl ((z - 1) - s)), some (.inl (xen h0 (z - 1 - s))), some (.inl a), some (.inl (xbg h0 (z - 1 - s)))] [] hj2
                    refine E_s 1 (i' := 55) (ls' := [some (.inr (.inr 28)), some (.inl kd), some (.inl z), some (.inl s), some (.inl ((z - 1) - s)), some (.inl (xen h0 (z - 1 - s))), some (.inl a), some (.inl (xbg h0 (z - 1 - s)))]) (sk' := [.inl 0]) (h' := hj2) rfl ?_
                    exact E_ret (x := (.ireturn, 0, [], [])) (v := some (.inl 0)) rfl (Or.inr ⟨rfl, Or.inl rfl⟩) (by
                      have hne : (fR (xca h0 kd s z) T1 (xbg h0 s) (a + 1 - xbg h0 s).toNat) 0 4 ≠ 0 := by
                        rw [fR_n ha0]
                        intro q
                        rw [hr, if_pos q] at c53
                        exact absurd c53 (by decide)
                      have h1 := fR_end (hi := xen h0 s) (stp_ca h0 kd s z) ha0 (by omega) hne
                      have h2 : fR (xcs h0 kd z) T 1 (s + 1 - 1).toNat = fR (xca h0 kd s z) T1 (xbg h0 s) (a + 1 - xbg h0 s).toNat := by rw [fR_n hs0, hS1]; exact h1
                      have hne2 : fR (xcs h0 kd z) T 1 (s + 1 - 1).toNat 0 4 ≠ 0 := by rw [h2]; exact hne
                      have h3 := fR_end (hi := 2 + 1) (stp_cs h0 kd z) hs0 (by omega) hne2
                      have h4 := hQ hj2 (by rw [h3, h2, fR_n ha0]; exact hGn)
                      rw [h3, if_neg hne2] at h4
                      exact h4)
                · rw [c_ne (by first | assumption | (refine ⟨?_, ?_⟩ <;> omega) | (simp only [xr] at *; omega)) (by first | assumption | (refine ⟨?_, ?_⟩ <;> omega) | (simp only [xr] at *; omega))] at c42
                  simp only [decide_eq_true_eq, decide_eq_false_iff_not, Decidable.not_not] at c42
                  show xEx G0 cdX9_makeCompared (some .boolean) (xRn G0 MT (d + 5)) Q b 43 [some (.inr (.inr 28)), some (.inl kd), some (.inl z), some (.inl s), some (.inl ((z - 1) - s)), some (.inl (xen h0 (z - 1 - s))), some (.inl a), some (.inl (xbg h0 (z - 1 - s)))] [.inl a, .inl kd, .inr (.inr 28)] hj
                  refine E_s 2 (i' := 45) (ls' := [some (.inr (.inr 28)), some (.inl kd), some (.inl z), some (.inl s), some (.inl ((z - 1) - s)), some (.inl (xen h0 (z - 1 - s))), some (.inl a), some (.inl (xbg h0 (z - 1 - s)))]) (sk' := [.inl a, .inl (xbg h0 (z - 1 - s)), .inl a, .inl kd, .inr (.inr 28)]) (h' := hj) rfl ?_
                  refine E_b (x := (.if_icmp .gt 10, 50, [], [])) rfl rfl (fun c45 => ?_) (fun c45 => ?_)
                  · rw [c_gt (by have := xbe hE hB.2.1.1 s; have := xbe hE hB.2.1.1 (z - 1 - s); exact ⟨by omega, by omega⟩) (by have := xbe hE hB.2.1.1 s; have := xbe hE hB.2.1.1 (z - 1 - s); exact ⟨by omega, by omega⟩)] at c45
                    simp only [decide_eq_true_eq, decide_eq_false_iff_not, Decidable.not_not] at c45
                    show xEx G0 cdX9_makeCompared (some .boolean) (xRn G0 MT (d + 5)) Q b 50 [some (.inr (.inr 28)), some (.inl kd), some (.inl z), some (.inl s), some (.inl ((z - 1) - s)), some (.inl (xen h0 (z - 1 - s))), some (.inl a), some (.inl (xbg h0 (z - 1 - s)))] [.inl a, .inl kd, .inr (.inr 28)] hj
                    refine E_s 2 (i' := 52) (ls' := [some (.inr (.inr 28)), some (.inl kd), some (.inl z), some (.inl s), some (.inl ((z - 1) - s)), some (.inl (xen h0 (z - 1 - s))), some (.inl a), some (.inl (xbg h0 (z - 1 - s)))]) (sk' := [.inl (xen h0 (z - 1 - s)), .inl (xbg h0 (z - 1 - s)), .inl a, .inl kd, .inr (.inr 28)]) (h' := hj) rfl ?_
                    have hfr : xft h0 kd a (z - 1 - s) = xbg h0 (z - 1 - s) := by unfold xft; first | (rw [if_pos (by omega)]) | (rw [if_neg (by omega)])
                    have hbh : xbh h0 (z - 1 - s) = xen h0 (z - 1 - s) := by unfold xbh; first | (rw [if_pos (by omega)]) | (rw [if_neg (by omega)])
                    have h1b := xbh_e hE hB.2.1.1 (z - 1 - s)
                    have h2b := xft_e hE hB.2.1.1 kd a (z - 1 - s) (by omega)
                    rw [hfr] at h2b
                    rw [hbh] at h1b
                    refine E_cp (x := (.invokevirtual 47, 4, [(7, 35)], [1])) (q := fun r h9 => r = (if (fR (fun T y => offT h0 T kd a y) (fR (xca h0 kd s z) T1 (xbg h0 s) (a - xbg h0 s).toNat) (xbg h0 (z - 1 - s)) (xen h0 (z - 1 - s) - (xbg h0 (z - 1 - s))).toNat) 0 4 = 0 then 1 else 0) ∧ GIT h0 h9 (fR (fun T y => offT h0 T kd a y) (fR (xca h0 kd s z) T1 (xbg h0 s) (a - xbg h0 s).toNat) (xbg h0 (z - 1 - s)) (xen h0 (z - 1 - s) - (xbg h0 (z - 1 - s))).toNat)) rfl rfl (Nat.le_of_ble_eq_true rfl) (c_offerEachT d 0 h0 hj (fR (xca h0 kd s z) T1 (xbg h0 s) (a - xbg h0 s).toNat) kd a (xbg h0 (z - 1 - s)) (xen h0 (z - 1 - s)) hB hGa hoa (fun T9 i9 z1 z2 z3 => Or.inl ⟨by omega, by omega, by omega, by omega, by omega, by omega⟩) (by omega) (by omega) (fun h9 h8 => ⟨_, rfl, rfl, h8⟩)) (fun r hj2 hq2 => ?_)
                    obtain ⟨hr, hGn⟩ := hq2
                    have hX : xca h0 kd s z (fR (xca h0 kd s z) T1 (xbg h0 s) (a - xbg h0 s).toNat) a = fR (fun T y => offT h0 T kd a y) (fR (xca h0 kd s z) T1 (xbg h0 s) (a - xbg h0 s).toNat) (xbg h0 (z - 1 - s)) (xen h0 (z - 1 - s) - (xbg h0 (z - 1 - s))).toNat := by unfold xca; rw [hfr, hbh]
                    rw [← hX] at hr hGn
                    have hsn : STB T (xca h0 kd s z (fR (xca h0 kd s z) T1 (xbg h0 s) (a - xbg h0 s).toNat) a) := STB.tr (fun k z1 z2 => (hG.2.1.2.2.2.2.1 k z1 z2).1) hsa (xca_w hB hGa.2.1 hE hkd (by omega)).2.1
                    show xEx G0 cdX9_makeCompared (some .boolean) (xRn G0 MT (d + 5)) Q b 53 [some (.inr (.inr 28)), some (.inl kd), some (.inl z), some (.inl s), some (.inl ((z - 1) - s)), some (.inl (xen h0 (z - 1 - s))), some (.inl a), some (.inl (xbg h0 (z - 1 - s)))] [.inl r] hj2
                    refine E_b (x := (.ifCond .ne 5, 56, [], [])) rfl rfl (fun c53 => ?_) (fun c53 => ?_)
                    · rw [c_ne (by first | exact ⟨by omega, by omega⟩ | (rw [hr]; split <;> exact ⟨by omega, by omega⟩)) (by first | exact ⟨by omega, by omega⟩ | (rw [hr]; split <;> exact ⟨by omega, by omega⟩))] at c53
                      simp only [decide_eq_true_eq, decide_eq_false_iff_not, Decidable.not_not] at c53
                      show xEx G0 cdX9_makeCompared (some .boolean) (xRn G0 MT (d + 5)) Q b 56 [some (.inr (.inr 28)), some (.inl kd), some (.inl z), some (.inl s), some (.inl ((z - 1) - s)), some (.inl (xen h0 (z - 1 - s))), some (.inl a), some (.inl (xbg h0 (z - 1 - s)))] [] hj2
                      have hon : (xca h0 kd s z (fR (xca h0 kd s z) T1 (xbg h0 s) (a - xbg h0 s).toNat) a) 0 4 = 0 := by
                        by_cases q : (xca h0 kd s z (fR (xca h0 kd s z) T1 (xbg h0 s) (a - xbg h0 s).toNat) a) 0 4 = 0
                        · exact q
                        · rw [hr, if_neg q] at c53; exact absurd rfl c53
                      refine E_s 2 (i' := 26) (ls' := [some (.inr (.inr 28)), some (.inl kd), some (.inl z), some (.inl s), some (.inl ((z - 1) - s)), some (.inl (xen h0 (z - 1 - s))), some (.inl (a + 1)), some (.inl (xbg h0 (z - 1 - s)))]) (sk' := []) (h' := hj2) rfl ?_
                      exact ih26 hj2 (a + 1) _ (by omega) (by omega) (by rw [fR_n ha0]; exact hGn) (by rw [fR_n ha0]; exact hsn) (by rw [fR_n ha0]; exact hon) (by omega)
                    · rw [c_ne (by first | exact ⟨by omega, by omega⟩ | (rw [hr]; split <;> exact ⟨by omega, by omega⟩)) (by first | exact ⟨by omega, by omega⟩ | (rw [hr]; split <;> exact ⟨by omega, by omega⟩))] at c53
                      simp only [decide_eq_true_eq, decide_eq_false_iff_not, Decidable.not_not] at c53
                      show xEx G0 cdX9_makeCompared (some .boolean) (xRn G0 MT (d + 5)) Q b 54 [some (.inr (.inr 28)), some (.inl kd), some (.inl z), some (.inl s), some (.inl ((z - 1) - s)), some (.inl (xen h0 (z - 1 - s))), some (.inl a), some (.inl (xbg h0 (z - 1 - s)))] [] hj2
                      refine E_s 1 (i' := 55) (ls' := [some (.inr (.inr 28)), some (.inl kd), some (.inl z), some (.inl s), some (.inl ((z - 1) - s)), some (.inl (xen h0 (z - 1 - s))), some (.inl a), some (.inl (xbg h0 (z - 1 - s)))]) (sk' := [.inl 0]) (h' := hj2) rfl ?_
                      exact E_ret (x := (.ireturn, 0, [], [])) (v := some (.inl 0)) rfl (Or.inr ⟨rfl, Or.inl rfl⟩) (by
                        have hne : (fR (xca h0 kd s z) T1 (xbg h0 s) (a + 1 - xbg h0 s).toNat) 0 4 ≠ 0 := by
                          rw [fR_n ha0]
                          intro q
                          rw [hr, if_pos q] at c53
                          exact absurd c53 (by decide)
                        have h1 := fR_end (hi := xen h0 s) (stp_ca h0 kd s z) ha0 (by omega) hne
                        have h2 : fR (xcs h0 kd z) T 1 (s + 1 - 1).toNat = fR (xca h0 kd s z) T1 (xbg h0 s) (a + 1 - xbg h0 s).toNat := by rw [fR_n hs0, hS1]; exact h1
                        have hne2 : fR (xcs h0 kd z) T 1 (s + 1 - 1).toNat 0 4 ≠ 0 := by rw [h2]; exact hne
                        have h3 := fR_end (hi := 2 + 1) (stp_cs h0 kd z) hs0 (by omega) hne2
                        have h4 := hQ hj2 (by rw [h3, h2, fR_n ha0]; exact hGn)
                        rw [h3, if_neg hne2] at h4
                        exact h4)
                  · rw [c_gt (by have := xbe hE hB.2.1.1 s; have := xbe hE hB.2.1.1 (z - 1 - s); exact ⟨by omega, by omega⟩) (by have := xbe hE hB.2.1.1 s; have := xbe hE hB.2.1.1 (z - 1 - s); exact ⟨by omega, by omega⟩)] at c45
                    simp only [decide_eq_true_eq, decide_eq_false_iff_not, Decidable.not_not] at c45
                    show xEx G0 cdX9_makeCompared (some .boolean) (xRn G0 MT (d + 5)) Q b 46 [some (.inr (.inr 28)), some (.inl kd), some (.inl z), some (.inl s), some (.inl ((z - 1) - s)), some (.inl (xen h0 (z - 1 - s))), some (.inl a), some (.inl (xbg h0 (z - 1 - s)))] [.inl a, .inl kd, .inr (.inr 28)] hj
                    refine E_s 5 (i' := 52) (ls' := [some (.inr (.inr 28)), some (.inl kd), some (.inl z), some (.inl s), some (.inl ((z - 1) - s)), some (.inl (xen h0 (z - 1 - s))), some (.inl a), some (.inl (xbg h0 (z - 1 - s)))]) (sk' := [.inl (xen h0 (z - 1 - s)), .inl (a + 1), .inl a, .inl kd, .inr (.inr 28)]) (h' := hj) rfl ?_
                    have hfr : xft h0 kd a (z - 1 - s) = a + 1 := by unfold xft; first | (rw [if_pos (by omega)]) | (rw [if_neg (by omega)])
                    have hbh : xbh h0 (z - 1 - s) = xen h0 (z - 1 - s) := by unfold xbh; first | (rw [if_pos (by omega)]) | (rw [if_neg (by omega)])
                    have h1b := xbh_e hE hB.2.1.1 (z - 1 - s)
                    have h2b := xft_e hE hB.2.1.1 kd a (z - 1 - s) (by omega)
                    rw [hfr] at h2b
                    rw [hbh] at h1b
                    refine E_cp (x := (.invokevirtual 47, 4, [(7, 35)], [1])) (q := fun r h9 => r = (if (fR (fun T y => offT h0 T kd a y) (fR (xca h0 kd s z) T1 (xbg h0 s) (a - xbg h0 s).toNat) (a + 1) (xen h0 (z - 1 - s) - (a + 1)).toNat) 0 4 = 0 then 1 else 0) ∧ GIT h0 h9 (fR (fun T y => offT h0 T kd a y) (fR (xca h0 kd s z) T1 (xbg h0 s) (a - xbg h0 s).toNat) (a + 1) (xen h0 (z - 1 - s) - (a + 1)).toNat)) rfl rfl (Nat.le_of_ble_eq_true rfl) (c_offerEachT d 0 h0 hj (fR (xca h0 kd s z) T1 (xbg h0 s) (a - xbg h0 s).toNat) kd a (a + 1) (xen h0 (z - 1 - s)) hB hGa hoa (fun T9 i9 z1 z2 z3 => Or.inl ⟨by omega, by omega, by omega, by omega, by omega, by omega⟩) (by omega) (by omega) (fun h9 h8 => ⟨_, rfl, rfl, h8⟩)) (fun r hj2 hq2 => ?_)
                    obtain ⟨hr, hGn⟩ := hq2
                    have hX : xca h0 kd s z (fR (xca h0 kd s z) T1 (xbg h0 s) (a - xbg h0 s).toNat) a = fR (fun T y => offT h0 T kd a y) (fR (xca h0 kd s z) T1 (xbg h0 s) (a - xbg h0 s).toNat) (a + 1) (xen h0 (z - 1 - s) - (a + 1)).toNat := by unfold xca; rw [hfr, hbh]
                    rw [← hX] at hr hGn
                    have hsn : STB T (xca h0 kd s z (fR (xca h0 kd s z) T1 (xbg h0 s) (a - xbg h0 s).toNat) a) := STB.tr (fun k z1 z2 => (hG.2.1.2.2.2.2.1 k z1 z2).1) hsa (xca_w hB hGa.2.1 hE hkd (by omega)).2.1
                    show xEx G0 cdX9_makeCompared (some .boolean) (xRn G0 MT (d + 5)) Q b 53 [some (.inr (.inr 28)), some (.inl kd), some (.inl z), some (.inl s), some (.inl ((z - 1) - s)), some (.inl (xen h0 (z - 1 - s))), some (.inl a), some (.inl (xbg h0 (z - 1 - s)))] [.inl r] hj2
                    refine E_b (x := (.ifCond .ne 5, 56, [], [])) rfl rfl (fun c53 => ?_) (fun c53 => ?_)
                    · rw [c_ne (by first | exact ⟨by omega, by omega⟩ | (rw [hr]; split <;> exact ⟨by omega, by omega⟩)) (by first | exact ⟨by omega, by omega⟩ | (rw [hr]; split <;> exact ⟨by omega, by omega⟩))] at c53
                      simp only [decide_eq_true_eq, decide_eq_false_iff_not, Decidable.not_not] at c53
                      show xEx G0 cdX9_makeCompared (some .boolean) (xRn G0 MT (d + 5)) Q b 56 [some (.inr (.inr 28)), some (.inl kd), some (.inl z), some (.inl s), some (.inl ((z - 1) - s)), some (.inl (xen h0 (z - 1 - s))), some (.inl a), some (.inl (xbg h0 (z - 1 - s)))] [] hj2
                      have hon : (xca h0 kd s z (fR (xca h0 kd s z) T1 (xbg h0 s) (a - xbg h0 s).toNat) a) 0 4 = 0 := by
                        by_cases q : (xca h0 kd s z (fR (xca h0 kd s z) T1 (xbg h0 s) (a - xbg h0 s).toNat) a) 0 4 = 0
                        · exact q
                        · rw [hr, if_neg q] at c53; exact absurd rfl c53
                      refine E_s 2 (i' := 26) (ls' := [some (.inr (.inr 28)), some (.inl kd), some (.inl z), some (.inl s), some (.inl ((z - 1) - s)), some (.inl (xen h0 (z - 1 - s))), some (.inl (a + 1)), some (.inl (xbg h0 (z - 1 - s)))]) (sk' := []) (h' := hj2) rfl ?_
                      exact ih26 hj2 (a + 1) _ (by omega) (by omega) (by rw [fR_n ha0]; exact hGn) (by rw [fR_n ha0]; exact hsn) (by rw [fR_n ha0]; exact hon) (by omega)
                    · rw [c_ne (by first | exact ⟨by omega, by omega⟩ | (rw [hr]; split <;> exact ⟨by omega, by omega⟩)) (by first | exact ⟨by omega, by omega⟩ | (rw [hr]; split <;> exact ⟨by omega, by omega⟩))] at c53
                      simp only [decide_eq_true_eq, decide_eq_false_iff_not, Decidable.not_not] at c53
                      show xEx G0 cdX9_makeCompared (some .boolean) (xRn G0 MT (d + 5)) Q b 54 [some (.inr (.inr 28)), some (.inl kd), some (.inl z), some (.inl s), some (.inl ((z - 1) - s)), some (.inl (xen h0 (z - 1 - s))), some (.inl a), some (.inl (xbg h0 (z - 1 - s)))] [] hj2
                      refine E_s 1 (i' := 55) (ls' := [some (.inr (.inr 28)), some (.inl kd), some (.inl z), some (.inl s), some (.inl ((z - 1) - s)), some (.inl (xen h0 (z - 1 - s))), some (.inl a), some (.inl (xbg h0 (z - 1 - s)))]) (sk' := [.inl 0]) (h' := hj2) rfl ?_
                      exact E_ret (x := (.ireturn, 0, [], [])) (v := some (.inl 0)) rfl (Or.inr ⟨rfl, Or.inl rfl⟩) (by
                        have hne : (fR (xca h0 kd s z) T1 (xbg h0 s) (a + 1 - xbg h0 s).toNat) 0 4 ≠ 0 := by
                          rw [fR_n ha0]
                          intro q
                          rw [hr, if_pos q] at c53
                          exact absurd c53 (by decide)
                        have h1 := fR_end (hi := xen h0 s) (stp_ca h0 kd s z) ha0 (by omega) hne
                        have h2 : fR (xcs h0 kd z) T 1 (s + 1 - 1).toNat = fR (xca h0 kd s z) T1 (xbg h0 s) (a + 1 - xbg h0 s).toNat := by rw [fR_n hs0, hS1]; exact h1
                        have hne2 : fR (xcs h0 kd z) T 1 (s + 1 - 1).toNat 0 4 ≠ 0 := by rw [h2]; exact hne
                        have h3 := fR_end (hi := 2 + 1) (stp_cs h0 kd z) hs0 (by omega) hne2
                        have h4 := hQ hj2 (by rw [h3, h2, fR_n ha0]; exact hGn)
                        rw [h3, if_neg hne2] at h4
                        exact h4)
          exact key26 _ hh (xbg h0 s) v7 (Int.le_refl _) hbe.2.1 (by rw [Int.sub_self]; exact hGs) (by rw [Int.sub_self]; exact hss) (by rw [Int.sub_self]; exact hos) (Nat.lt_succ_self _)
        · rw [c_le (by first | assumption | (refine ⟨?_, ?_⟩ <;> omega) | (simp only [xr] at *; omega)) (by first | assumption | (refine ⟨?_, ?_⟩ <;> omega) | (simp only [xr] at *; omega))] at c13
          simp only [decide_eq_true_eq, decide_eq_false_iff_not, Decidable.not_not] at c13
          show xEx G0 cdX9_makeCompared (some .boolean) (xRn G0 MT (d + 5)) Q b 14 [some (.inr (.inr 28)), some (.inl kd), some (.inl z), some (.inl s), some (.inl ((z - 1) - s)), v5, v6, v7] [] hh
          refine E_s 3 (i' := 21) (ls' := [some (.inr (.inr 28)), some (.inl kd), some (.inl z), some (.inl s), some (.inl ((z - 1) - s)), some (.inl 0), v6, v7]) (sk' := []) (h' := hh) rfl ?_
          have hbe := xbe hE hB.2.1.1 s
          refine E_s 3 (i' := 24) (ls' := [some (.inr (.inr 28)), some (.inl kd), some (.inl z), some (.inl s), some (.inl ((z - 1) - s)), some (.inl 0), v6, v7]) (sk' := [.inl s, .inr (.inr 9)]) (h' := hh) rfl ?_
          refine E_ci (x := (.invokevirtual 44, 1, [(1, 30)], [1])) (r := (xbg h0 (s))) (h' := hh) rfl rfl (Nat.le_of_ble_eq_true rfl) (c_begin_ge (d + 4) 0 hh (s) ⟨by omega, by omega⟩ ⟨by unfold xbg; rw [hed], rfl⟩) ?_
          show xEx G0 cdX9_makeCompared (some .boolean) (xRn G0 MT (d + 5)) Q b 25 [some (.inr (.inr 28)), some (.inl kd), some (.inl z), some (.inl s), some (.inl ((z - 1) - s)), some (.inl 0), v6, v7] [.inl (xbg h0 (s))] hh
          refine E_s 1 (i' := 26) (ls' := [some (.inr (.inr 28)), some (.inl kd), some (.inl z), some (.inl s), some (.inl ((z - 1) - s)), some (.inl 0), some (.inl (xbg h0 (s))), v7]) (sk' := []) (h' := hh) rfl ?_
          have key26 : ∀ (n : Nat) (hj : xH) (a : Int) (v7 : Option xV), (xbg h0 s ≤ a) → (a ≤ xen h0 s) → (GIT h0 hj (fR (xca h0 kd s z) T1 (xbg h0 s) (a - xbg h0 s).toNat)) → (STB T (fR (xca h0 kd s z) T1 (xbg h0 s) (a - xbg h0 s).toNat)) → ((fR (xca h0 kd s z) T1 (xbg h0 s) (a - xbg h0 s).toNat) 0 4 = 0) → ((xen h0 s - a).toNat) < n → xEx G0 cdX9_makeCompared (some .boolean) (xRn G0 MT (d + 5)) Q b 26 [some (.inr (.inr 28)), some (.inl kd), some (.inl z), some (.inl s), some (.inl ((z - 1) - s)), some (.inl 0), some (.inl a), v7] [] hj := by
            intro n
            induction n with
            | zero => intro hj a v7 _ _ _ _ _ hm; exact absurd hm (Nat.not_lt_zero _)
            | succ n ih26 =>
              intro hj a v7 ha0 ha9 hGa hsa hoa hm26
              have hed : hj 23 = h0 23 := hGa.2.2.1 23 (by decide)
              refine E_s 4 (i' := 30) (ls' := [some (.inr (.inr 28)), some (.inl kd), some (.inl z), some (.inl s), some (.inl ((z - 1) - s)), some (.inl 0), some (.inl a), v7]) (sk' := [.inl s, .inr (.inr 9), .inl a]) (h' := hj) rfl ?_
              refine E_ci (x := (.invokevirtual 38, 1, [(1, 31)], [1])) (r := (xen h0 (s))) (h' := hj) rfl rfl (Nat.le_of_ble_eq_true rfl) (c_end_ge (d + 4) 0 hj (s) ⟨by omega, by omega⟩ ⟨by unfold xen; rw [hed], rfl⟩) ?_
              show xEx G0 cdX9_makeCompared (some .boolean) (xRn G0 MT (d + 5)) Q b 31 [some (.inr (.inr 28)), some (.inl kd), some (.inl z), some (.inl s), some (.inl ((z - 1) - s)), some (.inl 0), some (.inl a), v7] [.inl (xen h0 (s)), .inl a] hj
              refine E_b (x := (.if_icmp .ge 55, 58, [], [])) rfl rfl (fun c31 => ?_) (fun c31 => ?_)
              · rw [c_ge (by have := xbe hE hB.2.1.1 s; exact ⟨by omega, by omega⟩) (by have := xbe hE hB.2.1.1 s; exact ⟨by omega, by omega⟩)] at c31
                simp only [decide_eq_true_eq, decide_eq_false_iff_not, Decidable.not_not] at c31
                show xEx G0 cdX9_makeCompared (some .boolean) (xRn G0 MT (d + 5)) Q b 58 [some (.inr (.inr 28)), some (.inl kd), some (.inl z), some (.inl s), some (.inl ((z - 1) - s)), some (.inl 0), some (.inl a), v7] [] hj
                have hae : a = xen h0 s := by omega
                refine E_s 2 (i' := 2) (ls' := [some (.inr (.inr 28)), some (.inl kd), some (.inl z), some (.inl (s + 1)), some (.inl ((z - 1) - s)), some (.inl 0), some (.inl a), v7]) (sk' := []) (h' := hj) rfl ?_
                exact ih2 hj (s + 1) _ _ _ _ (by omega) (by omega) (by rw [fR_n hs0, hS1]; rw [hae] at hGa; exact hGa) (by rw [fR_n hs0, hS1]; rw [hae] at hsa; exact hsa) (by rw [fR_n hs0, hS1]; rw [hae] at hoa; exact hoa) (by omega)
              · rw [c_ge (by have := xbe hE hB.2.1.1 s; exact ⟨by omega, by omega⟩) (by have := xbe hE hB.2.1.1 s; exact ⟨by omega, by omega⟩)] at c31
                simp only [decide_eq_true_eq, decide_eq_false_iff_not, Decidable.not_not] at c31
                show xEx G0 cdX9_makeCompared (some .boolean) (xRn G0 MT (d + 5)) Q b 32 [some (.inr (.inr 28)), some (.inl kd), some (.inl z), some (.inl s), some (.inl ((z - 1) - s)), some (.inl 0), some (.inl a), v7] [] hj
                refine E_s 3 (i' := 35) (ls' := [some (.inr (.inr 28)), some (.inl kd), some (.inl z), some (.inl s), some (.inl ((z - 1) - s)), some (.inl 0), some (.inl a), v7]) (sk' := [.inl ((z - 1) - s), .inr (.inr 9)]) (h' := hj) rfl ?_
                refine E_ci (x := (.invokevirtual 44, 1, [(1, 30)], [1])) (r := (xbg h0 (z - 1 - s))) (h' := hj) rfl rfl (Nat.le_of_ble_eq_true rfl) (c_begin_ge (d + 4) 0 hj (z - 1 - s) ⟨by omega, by omega⟩ ⟨by unfold xbg; rw [hed], rfl⟩) ?_
                show xEx G0 cdX9_makeCompared (some .boolean) (xRn G0 MT (d + 5)) Q b 36 [some (.inr (.inr 28)), some (.inl kd), some (.inl z), some (.inl s), some (.inl ((z - 1) - s)), some (.inl 0), some (.inl a), v7] [.inl (xbg h0 (z - 1 - s))] hj
                refine E_s 6 (i' := 42) (ls' := [some (.inr (.inr 28)), some (.inl kd), some (.inl z), some (.inl s), some (.inl ((z - 1) - s)), some (.inl 0), some (.inl a), some (.inl (xbg h0 (z - 1 - s)))]) (sk' := [.inl 1, .inl kd, .inl a, .inl kd, .inr (.inr 28)]) (h' := hj) rfl ?_
                refine E_b (x := (.if_icmp .ne 17, 50, [], [])) rfl rfl (fun c42 => ?_) (fun c42 => ?_)
                · rw [c_ne (by first | assumption | (refine ⟨?_, ?_⟩ <;> omega) | (simp only [xr] at *; omega)) (by first | assumption | (refine ⟨?_, ?_⟩ <;> omega) | (simp only [xr] at *; omega))] at c42
                  simp only [decide_eq_true_eq, decide_eq_false_iff_not, Decidable.not_not] at c42
                  show xEx G0 cdX9_makeCompared (some .boolean) (xRn G0 MT (d + 5)) Q b 50 [some (.inr (.inr 28)), some (.inl kd), some (.inl z), some (.inl s), some (.inl ((z - 1) - s)), some (.inl 0), some (.inl a), some (.inl (xbg h0 (z - 1 - s)))] [.inl a, .inl kd, .inr (.inr 28)] hj
                  refine E_s 2 (i' := 52) (ls' := [some (.inr (.inr 28)), some (.inl kd), some (.inl z), some (.inl s), some (.inl ((z - 1) - s)), some (.inl 0), some (.inl a), some (.inl (xbg h0 (z - 1 - s)))]) (sk' := [.inl 0, .inl (xbg h0 (z - 1 - s)), .inl a, .inl kd, .inr (.inr 28)]) (h' := hj) rfl ?_
                  have hfr : xft h0 kd a (z - 1 - s) = xbg h0 (z - 1 - s) := by unfold xft; first | (rw [if_pos (by omega)]) | (rw [if_neg (by omega)])
                  have hbh : xbh h0 (z - 1 - s) = 0 := by unfold xbh; first | (rw [if_pos (by omega)]) | (rw [if_neg (by omega)])
                  have h1b := xbh_e hE hB.2.1.1 (z - 1 - s)
                  have h2b := xft_e hE hB.2.1.1 kd a (z - 1 - s) (by omega)
                  rw [hfr] at h2b
                  rw [hbh] at h1b
                  refine E_cp (x := (.invokevirtual 47, 4, [(7, 35)], [1])) (q := fun r h9 => r = (if (fR (fun T y => offT h0 T kd a y) (fR (xca h0 kd s z) T1 (xbg h0 s) (a - xbg h0 s).toNat) (xbg h0 (z - 1 - s)) (0 - (xbg h0 (z - 1 - s))).toNat) 0 4 = 0 then 1 else 0) ∧ GIT h0 h9 (fR (fun T y => offT h0 T kd a y) (fR (xca h0 kd s z) T1 (xbg h0 s) (a - xbg h0 s).toNat) (xbg h0 (z - 1 - s)) (0 - (xbg h0 (z - 1 - s))).toNat)) rfl rfl (Nat.le_of_ble_eq_true rfl) (c_offerEachT d 0 h0 hj (fR (xca h0 kd s z) T1 (xbg h0 s) (a - xbg h0 s).toNat) kd a (xbg h0 (z - 1 - s)) 0 hB hGa hoa (fun T9 i9 z1 z2 z3 => Or.inl ⟨by omega, by omega, by omega, by omega, by omega, by omega⟩) (by omega) (by omega) (fun h9 h8 => ⟨_, rfl, rfl, h8⟩)) (fun r hj2 hq2 => ?_)
                  obtain ⟨hr, hGn⟩ := hq2
                  have hX : xca h0 kd s z (fR (xca h0 kd s z) T1 (xbg h0 s) (a - xbg h0 s).toNat) a = fR (fun T y => offT h0 T kd a y) (fR (xca h0 kd s z) T1 (xbg h0 s) (a - xbg h0 s).toNat) (xbg h0 (z - 1 - s)) (0 - (xbg h0 (z - 1 - s))).toNat := by unfold xca; rw [hfr, hbh]
                  rw [← hX] at hr hGn
                  have hsn : STB T (xca h0 kd s z (fR (xca h0 kd s z) T1 (xbg h0 s) (a - xbg h0 s).toNat) a) := STB.tr (fun k z1 z2 => (hG.2.1.2.2.2.2.1 k z1 z2).1) hsa (xca_w hB hGa.2.1 hE hkd (by omega)).2.1
                  show xEx G0 cdX9_makeCompared (some .boolean) (xRn G0 MT (d + 5)) Q b 53 [some (.inr (.inr 28)), some (.inl kd), some (.inl z), some (.inl s), some (.inl ((z - 1) - s)), some (.inl 0), some (.inl a), some (.inl (xbg h0 (z - 1 - s)))] [.inl r] hj2
                  refine E_b (x := (.ifCond .ne 5, 56, [], [])) rfl rfl (fun c53 => ?_) (fun c53 => ?_)
                  · rw [c_ne (by first | exact ⟨by omega, by omega⟩ | (rw [hr]; split <;> exact ⟨by omega, by omega⟩)) (by first | exact ⟨by omega, by omega⟩ | (rw [hr]; split <;> exact ⟨by omega, by omega⟩))] at c53
                    simp only [decide_eq_true_eq, decide_eq_false_iff_not, Decidable.not_not] at c53
                    show xEx G0 cdX9_makeCompared (some .boolean) (xRn G0 MT (d + 5)) Q b 56 [some (.inr (.inr 28)), some (.inl kd), some (.inl z), some (.inl s), some (.inl ((z - 1) - s)), some (.inl 0), some (.inl a), some (.inl (xbg h0 (z - 1 - s)))] [] hj2
                    have hon : (xca h0 kd s z (fR (xca h0 kd s z) T1 (xbg h0 s) (a - xbg h0 s).toNat) a) 0 4 = 0 := by
                      by_cases q : (xca h0 kd s z (fR (xca h0 kd s z) T1 (xbg h0 s) (a - xbg h0 s).toNat) a) 0 4 = 0
                      · exact q
                      · rw [hr, if_neg q] at c53; exact absurd rfl c53
                    refine E_s 2 (i' := 26) (ls' := [some (.inr (.inr 28)), some (.inl kd), some (.inl z), some (.inl s), some (.inl ((z - 1) - s)), some (.inl 0), some (.inl (a + 1)), some (.inl (xbg h0 (z - 1 - s)))]) (sk' := []) (h' := hj2) rfl ?_
                    exact ih26 hj2 (a + 1) _ (by omega) (by omega) (by rw [fR_n ha0]; exact hGn) (by rw [fR_n ha0]; exact hsn) (by rw [fR_n ha0]; exact hon) (by omega)
                  · rw [c_ne (by first | exact ⟨by omega, by omega⟩ | (rw [hr]; split <;> exact ⟨by omega, by omega⟩)) (by first | exact ⟨by omega, by omega⟩ | (rw [hr]; split <;> exact ⟨by omega, by omega⟩))] at c53
                    simp only [decide_eq_true_eq, decide_eq_false_iff_not, Decidable.not_not] at c53
                    show xEx G0 cdX9_makeCompared (some .boolean) (xRn G0 MT (d + 5)) Q b 54 [some (.inr (.inr 28)), some (.inl kd), some (.inl z), some (.inl s), some (.inl ((z - 1) - s)), some (.inl 0), some (.inl a), some (.inl (xbg h0 (z - 1 - s)))] [] hj2
                    refine E_s 1 (i' := 55) (ls' := [some (.inr (.inr 28)), some (.inl kd), some (.inl z), some (.inl s), some (.inl ((z - 1) - s)), some (.inl 0), some (.inl a), some (.inl (xbg h0 (z - 1 - s)))]) (sk' := [.inl 0]) (h' := hj2) rfl ?_
                    exact E_ret (x := (.ireturn, 0, [], [])) (v := some (.inl 0)) rfl (Or.inr ⟨rfl, Or.inl rfl⟩) (by
                      have hne : (fR (xca h0 kd s z) T1 (xbg h0 s) (a + 1 - xbg h0 s).toNat) 0 4 ≠ 0 := by
                        rw [fR_n ha0]
                        intro q
                        rw [hr, if_pos q] at c53
                        exact absurd c53 (by decide)
                      have h1 := fR_end (hi := xen h0 s) (stp_ca h0 kd s z) ha0 (by omega) hne
                      have h2 : fR (xcs h0 kd z) T 1 (s + 1 - 1).toNat = fR (xca h0 kd s z) T1 (xbg h0 s) (a + 1 - xbg h0 s).toNat := by rw [fR_n hs0, hS1]; exact h1
                      have hne2 : fR (xcs h0 kd z) T 1 (s + 1 - 1).toNat 0 4 ≠ 0 := by rw [h2]; exact hne
                      have h3 := fR_end (hi := 2 + 1) (stp_cs h0 kd z) hs0 (by omega) hne2
                      have h4 := hQ hj2 (by rw [h3, h2, fR_n ha0]; exact hGn)
                      rw [h3, if_neg hne2] at h4
                      exact h4)
                · rw [c_ne (by first | assumption | (refine ⟨?_, ?_⟩ <;> omega) | (simp only [xr] at *; omega)) (by first | assumption | (refine ⟨?_, ?_⟩ <;> omega) | (simp only [xr] at *; omega))] at c42
                  simp only [decide_eq_true_eq, decide_eq_false_iff_not, Decidable.not_not] at c42
                  show xEx G0 cdX9_makeCompared (some .boolean) (xRn G0 MT (d + 5)) Q b 43 [some (.inr (.inr 28)), some (.inl kd), some (.inl z), some (.inl s), some (.inl ((z - 1) - s)), some (.inl 0), some (.inl a), some (.inl (xbg h0 (z - 1 - s)))] [.inl a, .inl kd, .inr (.inr 28)] hj
                  refine E_s 2 (i' := 45) (ls' := [some (.inr (.inr 28)), some (.inl kd), some (.inl z), some (.inl s), some (.inl ((z - 1) - s)), some (.inl 0), some (.inl a), some (.inl (xbg h0 (z - 1 - s)))]) (sk' := [.inl a, .inl (xbg h0 (z - 1 - s)), .inl a, .inl kd, .inr (.inr 28)]) (h' := hj) rfl ?_
                  refine E_b (x := (.if_icmp .gt 10, 50, [], [])) rfl rfl (fun c45 => ?_) (fun c45 => ?_)
                  · rw [c_gt (by have := xbe hE hB.2.1.1 s; have := xbe hE hB.2.1.1 (z - 1 - s); exact ⟨by omega, by omega⟩) (by have := xbe hE hB.2.1.1 s; have := xbe hE hB.2.1.1 (z - 1 - s); exact ⟨by omega, by omega⟩)] at c45
                    simp only [decide_eq_true_eq, decide_eq_false_iff_not, Decidable.not_not] at c45
                    show xEx G0 cdX9_makeCompared (some .boolean) (xRn G0 MT (d + 5)) Q b 50 [some (.inr (.inr 28)), some (.inl kd), some (.inl z), some (.inl s), some (.inl ((z - 1) - s)), some (.inl 0), some (.inl a), some (.inl (xbg h0 (z - 1 - s)))] [.inl a, .inl kd, .inr (.inr 28)] hj
                    refine E_s 2 (i' := 52) (ls' := [some (.inr (.inr 28)), some (.inl kd), some (.inl z), some (.inl s), some (.inl ((z - 1) - s)), some (.inl 0), some (.inl a), some (.inl (xbg h0 (z - 1 - s)))]) (sk' := [.inl 0, .inl (xbg h0 (z - 1 - s)), .inl a, .inl kd, .inr (.inr 28)]) (h' := hj) rfl ?_
                    have hfr : xft h0 kd a (z - 1 - s) = xbg h0 (z - 1 - s) := by unfold xft; first | (rw [if_pos (by omega)]) | (rw [if_neg (by omega)])
                    have hbh : xbh h0 (z - 1 - s) = 0 := by unfold xbh; first | (rw [if_pos (by omega)]) | (rw [if_neg (by omega)])
                    have h1b := xbh_e hE hB.2.1.1 (z - 1 - s)
                    have h2b := xft_e hE hB.2.1.1 kd a (z - 1 - s) (by omega)
                    rw [hfr] at h2b
                    rw [hbh] at h1b
                    refine E_cp (x := (.invokevirtual 47, 4, [(7, 35)], [1])) (q := fun r h9 => r = (if (fR (fun T y => offT h0 T kd a y) (fR (xca h0 kd s z) T1 (xbg h0 s) (a - xbg h0 s).toNat) (xbg h0 (z - 1 - s)) (0 - (xbg h0 (z - 1 - s))).toNat) 0 4 = 0 then 1 else 0) ∧ GIT h0 h9 (fR (fun T y => offT h0 T kd a y) (fR (xca h0 kd s z) T1 (xbg h0 s) (a - xbg h0 s).toNat) (xbg h0 (z - 1 - s)) (0 - (xbg h0 (z - 1 - s))).toNat)) rfl rfl (Nat.le_of_ble_eq_true rfl) (c_offerEachT d 0 h0 hj (fR (xca h0 kd s z) T1 (xbg h0 s) (a - xbg h0 s).toNat) kd a (xbg h0 (z - 1 - s)) 0 hB hGa hoa (fun T9 i9 z1 z2 z3 => Or.inl ⟨by omega, by omega, by omega, by omega, by omega, by omega⟩) (by omega) (by omega) (fun h9 h8 => ⟨_, rfl, rfl, h8⟩)) (fun r hj2 hq2 => ?_)
                    obtain ⟨hr, hGn⟩ := hq2
                    have hX : xca h0 kd s z (fR (xca h0 kd s z) T1 (xbg h0 s) (a - xbg h0 s).toNat) a = fR (fun T y => offT h0 T kd a y) (fR (xca h0 kd s z) T1 (xbg h0 s) (a - xbg h0 s).toNat) (xbg h0 (z - 1 - s)) (0 - (xbg h0 (z - 1 - s))).toNat := by unfold xca; rw [hfr, hbh]
                    rw [← hX] at hr hGn
                    have hsn : STB T (xca h0 kd s z (fR (xca h0 kd s z) T1 (xbg h0 s) (a - xbg h0 s).toNat) a) := STB.tr (fun k z1 z2 => (hG.2.1.2.2.2.2.1 k z1 z2).1) hsa (xca_w hB hGa.2.1 hE hkd (by omega)).2.1
                    show xEx G0 cdX9_makeCompared (some .boolean) (xRn G0 MT (d + 5)) Q b 53 [some (.inr (.inr 28)), some (.inl kd), some (.inl z), some (.inl s), some (.inl ((z - 1) - s)), some (.inl 0), some (.inl a), some (.inl (xbg h0 (z - 1 - s)))] [.inl r] hj2
                    refine E_b (x := (.ifCond .ne 5, 56, [], [])) rfl rfl (fun c53 => ?_) (fun c53 => ?_)
                    · rw [c_ne (by first | exact ⟨by omega, by omega⟩ | (rw [hr]; split <;> exact ⟨by omega, by omega⟩)) (by first | exact ⟨by omega, by omega⟩ | (rw [hr]; split <;> exact ⟨by omega, by omega⟩))] at c53
                      simp only [decide_eq_true_eq, decide_eq_false_iff_not, Decidable.not_not] at c53
                      show xEx G0 cdX9_makeCompared (some .boolean) (xRn G0 MT (d + 5)) Q b 56 [some (.inr (.inr 28)), some (.inl kd), some (.inl z), some (.inl s), some (.inl ((z - 1) - s)), some (.inl 0), some (.inl a), some (.inl (xbg h0 (z - 1 - s)))] [] hj2
                      have hon : (xca h0 kd s z (fR (xca h0 kd s z) T1 (xbg h0 s) (a - xbg h0 s).toNat) a) 0 4 = 0 := by
                        by_cases q : (xca h0 kd s z (fR (xca h0 kd s z) T1 (xbg h0 s) (a - xbg h0 s).toNat) a) 0 4 = 0
                        · exact q
                        · rw [hr, if_neg q] at c53; exact absurd rfl c53
                      refine E_s 2 (i' := 26) (ls' := [some (.inr (.inr 28)), some (.inl kd), some (.inl z), some (.inl s), some (.inl ((z - 1) - s)), some (.inl 0), some (.inl (a + 1)), some (.inl (xbg h0 (z - 1 - s)))]) (sk' := []) (h' := hj2) rfl ?_
                      exact ih26 hj2 (a + 1) _ (by omega) (by omega) (by rw [fR_n ha0]; exact hGn) (by rw [fR_n ha0]; exact hsn) (by rw [fR_n ha0]; exact hon) (by omega)
                    · rw [c_ne (by first | exact ⟨by omega, by omega⟩ | (rw [hr]; split <;> exact ⟨by omega, by omega⟩)) (by first | exact ⟨by omega, by omega⟩ | (rw [hr]; split <;> exact ⟨by omega, by omega⟩))] at c53
                      simp only [decide_eq_true_eq, decide_eq_false_iff_not, Decidable.not_not] at c53
                      show xEx G0 cdX9_makeCompared (some .boolean) (xRn G0 MT (d + 5)) Q b 54 [some (.inr (.inr 28)), some (.inl kd), some (.inl z), some (.inl s), some (.inl ((z - 1) - s)), some (.inl 0), some (.inl a), some (.inl (xbg h0 (z - 1 - s)))] [] hj2
                      refine E_s 1 (i' := 55) (ls' := [some (.inr (.inr 28)), some (.inl kd), some (.inl z), some (.inl s), some (.inl ((z - 1) - s)), some (.inl 0), some (.inl a), some (.inl (xbg h0 (z - 1 - s)))]) (sk' := [.inl 0]) (h' := hj2) rfl ?_
                      exact E_ret (x := (.ireturn, 0, [], [])) (v := some (.inl 0)) rfl (Or.inr ⟨rfl, Or.inl rfl⟩) (by
                        have hne : (fR (xca h0 kd s z) T1 (xbg h0 s) (a + 1 - xbg h0 s).toNat) 0 4 ≠ 0 := by
                          rw [fR_n ha0]
                          intro q
                          rw [hr, if_pos q] at c53
                          exact absurd c53 (by decide)
                        have h1 := fR_end (hi := xen h0 s) (stp_ca h0 kd s z) ha0 (by omega) hne
                        have h2 : fR (xcs h0 kd z) T 1 (s + 1 - 1).toNat = fR (xca h0 kd s z) T1 (xbg h0 s) (a + 1 - xbg h0 s).toNat := by rw [fR_n hs0, hS1]; exact h1
                        have hne2 : fR (xcs h0 kd z) T 1 (s + 1 - 1).toNat 0 4 ≠ 0 := by rw [h2]; exact hne
                        have h3 := fR_end (hi := 2 + 1) (stp_cs h0 kd z) hs0 (by omega) hne2
                        have h4 := hQ hj2 (by rw [h3, h2, fR_n ha0]; exact hGn)
                        rw [h3, if_neg hne2] at h4
                        exact h4)
                  · rw [c_gt (by have := xbe hE hB.2.1.1 s; have := xbe hE hB.2.1.1 (z - 1 - s); exact ⟨by omega, by omega⟩) (by have := xbe hE hB.2.1.1 s; have := xbe hE hB.2.1.1 (z - 1 - s); exact ⟨by omega, by omega⟩)] at c45
                    simp only [decide_eq_true_eq, decide_eq_false_iff_not, Decidable.not_not] at c45
                    show xEx G0 cdX9_makeCompared (some .boolean) (xRn G0 MT (d + 5)) Q b 46 [some (.inr (.inr 28)), some (.inl kd), some (.inl z), some (.inl s), some (.inl ((z - 1) - s)), some (.inl 0), some (.inl a), some (.inl (xbg h0 (z - 1 - s)))] [.inl a, .inl kd, .inr (.inr 28)] hj
                    refine E_s 5 (i' := 52) (ls' := [some (.inr (.inr 28)), some (.inl kd), some (.inl z), some (.inl s), some (.inl ((z - 1) - s)), some (.inl 0), some (.inl a), some (.inl (xbg h0 (z - 1 - s)))]) (sk' := [.inl 0, .inl (a + 1), .inl a, .inl kd, .inr (.inr 28)]) (h' := hj) rfl ?_
                    have hfr : xft h0 kd a (z - 1 - s) = a + 1 := by unfold xft; first | (rw [if_pos (by omega)]) | (rw [if_neg (by omega)])
                    have hbh : xbh h0 (z - 1 - s) = 0 := by unfold xbh; first | (rw [if_pos (by omega)]) | (rw [if_neg (by omega)])
                    have h1b := xbh_e hE hB.2.1.1 (z - 1 - s)
                    have h2b := xft_e hE hB.2.1.1 kd a (z - 1 - s) (by omega)
                    rw [hfr] at h2b
                    rw [hbh] at h1b
                    refine E_cp (x := (.invokevirtual 47, 4, [(7, 35)], [1])) (q := fun r h9 => r = (if (fR (fun T y => offT h0 T kd a y) (fR (xca h0 kd s z) T1 (xbg h0 s) (a - xbg h0 s).toNat) (a + 1) (0 - (a + 1)).toNat) 0 4 = 0 then 1 else 0) ∧ GIT h0 h9 (fR (fun T y => offT h0 T kd a y) (fR (xca h0 kd s z) T1 (xbg h0 s) (a - xbg h0 s).toNat) (a + 1) (0 - (a + 1)).toNat)) rfl rfl (Nat.le_of_ble_eq_true rfl) (c_offerEachT d 0 h0 hj (fR (xca h0 kd s z) T1 (xbg h0 s) (a - xbg h0 s).toNat) kd a (a + 1) 0 hB hGa hoa (fun T9 i9 z1 z2 z3 => Or.inl ⟨by omega, by omega, by omega, by omega, by omega, by omega⟩) (by omega) (by omega) (fun h9 h8 => ⟨_, rfl, rfl, h8⟩)) (fun r hj2 hq2 => ?_)
                    obtain ⟨hr, hGn⟩ := hq2
                    have hX : xca h0 kd s z (fR (xca h0 kd s z) T1 (xbg h0 s) (a - xbg h0 s).toNat) a = fR (fun T y => offT h0 T kd a y) (fR (xca h0 kd s z) T1 (xbg h0 s) (a - xbg h0 s).toNat) (a + 1) (0 - (a + 1)).toNat := by unfold xca; rw [hfr, hbh]
                    rw [← hX] at hr hGn
                    have hsn : STB T (xca h0 kd s z (fR (xca h0 kd s z) T1 (xbg h0 s) (a - xbg h0 s).toNat) a) := STB.tr (fun k z1 z2 => (hG.2.1.2.2.2.2.1 k z1 z2).1) hsa (xca_w hB hGa.2.1 hE hkd (by omega)).2.1
                    show xEx G0 cdX9_makeCompared (some .boolean) (xRn G0 MT (d + 5)) Q b 53 [some (.inr (.inr 28)), some (.inl kd), some (.inl z), some (.inl s), some (.inl ((z - 1) - s)), some (.inl 0), some (.inl a), some (.inl (xbg h0 (z - 1 - s)))] [.inl r] hj2
                    refine E_b (x := (.ifCond .ne 5, 56, [], [])) rfl rfl (fun c53 => ?_) (fun c53 => ?_)
                    · rw [c_ne (by first | exact ⟨by omega, by omega⟩ | (rw [hr]; split <;> exact ⟨by omega, by omega⟩)) (by first | exact ⟨by omega, by omega⟩ | (rw [hr]; split <;> exact ⟨by omega, by omega⟩))] at c53
                      simp only [decide_eq_true_eq, decide_eq_false_iff_not, Decidable.not_not] at c53
                      show xEx G0 cdX9_makeCompared (some .boolean) (xRn G0 MT (d + 5)) Q b 56 [some (.inr (.inr 28)), some (.inl kd), some (.inl z), some (.inl s), some (.inl ((z - 1) - s)), some (.inl 0), some (.inl a), some (.inl (xbg h0 (z - 1 - s)))] [] hj2
                      have hon : (xca h0 kd s z (fR (xca h0 kd s z) T1 (xbg h0 s) (a - xbg h0 s).toNat) a) 0 4 = 0 := by
                        by_cases q : (xca h0 kd s z (fR (xca h0 kd s z) T1 (xbg h0 s) (a - xbg h0 s).toNat) a) 0 4 = 0
                        · exact q
                        · rw [hr, if_neg q] at c53; exact absurd rfl c53
                      refine E_s 2 (i' := 26) (ls' := [some (.inr (.inr 28)), some (.inl kd), some (.inl z), some (.inl s), some (.inl ((z - 1) - s)), some (.inl 0), some (.inl (a + 1)), some (.inl (xbg h0 (z - 1 - s)))]) (sk' := []) (h' := hj2) rfl ?_
                      exact ih26 hj2 (a + 1) _ (by omega) (by omega) (by rw [fR_n ha0]; exact hGn) (by rw [fR_n ha0]; exact hsn) (by rw [fR_n ha0]; exact hon) (by omega)
                    · rw [c_ne (by first | exact ⟨by omega, by omega⟩ | (rw [hr]; split <;> exact ⟨by omega, by omega⟩)) (by first | exact ⟨by omega, by omega⟩ | (rw [hr]; split <;> exact ⟨by omega, by omega⟩))] at c53
                      simp only [decide_eq_true_eq, decide_eq_false_iff_not, Decidable.not_not] at c53
                      show xEx G0 cdX9_makeCompared (some .boolean) (xRn G0 MT (d + 5)) Q b 54 [some (.inr (.inr 28)), some (.inl kd), some (.inl z), some (.inl s), some (.inl ((z - 1) - s)), some (.inl 0), some (.inl a), some (.inl (xbg h0 (z - 1 - s)))] [] hj2
                      refine E_s 1 (i' := 55) (ls' := [some (.inr (.inr 28)), some (.inl kd), some (.inl z), some (.inl s), some (.inl ((z - 1) - s)), some (.inl 0), some (.inl a), some (.inl (xbg h0 (z - 1 - s)))]) (sk' := [.inl 0]) (h' := hj2) rfl ?_
                      exact E_ret (x := (.ireturn, 0, [], [])) (v := some (.inl 0)) rfl (Or.inr ⟨rfl, Or.inl rfl⟩) (by
                        have hne : (fR (xca h0 kd s z) T1 (xbg h0 s) (a + 1 - xbg h0 s).toNat) 0 4 ≠ 0 := by
                          rw [fR_n ha0]
                          intro q
                          rw [hr, if_pos q] at c53
                          exact absurd c53 (by decide)
                        have h1 := fR_end (hi := xen h0 s) (stp_ca h0 kd s z) ha0 (by omega) hne
                        have h2 : fR (xcs h0 kd z) T 1 (s + 1 - 1).toNat = fR (xca h0 kd s z) T1 (xbg h0 s) (a + 1 - xbg h0 s).toNat := by rw [fR_n hs0, hS1]; exact h1
                        have hne2 : fR (xcs h0 kd z) T 1 (s + 1 - 1).toNat 0 4 ≠ 0 := by rw [h2]; exact hne
                        have h3 := fR_end (hi := 2 + 1) (stp_cs h0 kd z) hs0 (by omega) hne2
                        have h4 := hQ hj2 (by rw [h3, h2, fR_n ha0]; exact hGn)
                        rw [h3, if_neg hne2] at h4
                        exact h4)
          exact key26 _ hh (xbg h0 s) v7 (Int.le_refl _) hbe.2.1 (by rw [Int.sub_self]; exact hGs) (by rw [Int.sub_self]; exact hss) (by rw [Int.sub_self]; exact hos) (Nat.lt_succ_self _)
  exact key2 _ h 1 none none none none (by omega) (by omega) (by exact hG) (by exact STB.rf T) (by exact ho) (Nat.lt_succ_self _)
set_option maxHeartbeats 1000000 in
theorem c_makeAnds (d b : Nat) (h0 h T : xH) (hB : BT h0) (hG : GIT h0 h T) (ho : T 0 4 = 0) (hE : ENT h0 (T 0 0)) (z : Int) (hz : 3 ≤ z ∧ z ≤ 7) {Q : xO → xH → Prop} (hQ : ∀ h', GIT h0 h' (fR (xas h0 z) T 3 (z - 1 - 3).toNat) → Q (.inl (some (.inl (if (fR (xas h0 z) T 3 (z - 1 - 3).toNat) 0 4 = 0 then 1 else 0)))) h') : xRn G0 MT (d + 6) b 82 [.inr (.inr 28), .inl z] h Q := by
  refine R_of (M := mX9_makeAnds) rfl (Nat.le_of_ble_eq_true rfl) ?_
  show xEx G0 cdX9_makeAnds (some .boolean) (xRn G0 MT (d + 5)) Q b 0 [some (.inr (.inr 28)), some (.inl z), none, none, none, none] [] h
  have hS0 := hG.2.1.1
  have hS3 := hG.2.1.2.1
  have hed : h 42 = h0 42 := hG.2.2.1 42 (by decide)
  refine E_s 2 (i' := 2) (ls' := [some (.inr (.inr 28)), some (.inl z), some (.inl 3), none, none, none]) (sk' := []) (h' := h) rfl ?_
  have key2 : ∀ (n : Nat) (hh : xH) (s : Int) (v3 v4 v5 : Option xV), (3 ≤ s) → (s = 3 ∨ s ≤ z - 1) → (GIT h0 hh (fR (xas h0 z) T 3 (s - 3).toNat)) → (STB T (fR (xas h0 z) T 3 (s - 3).toNat)) → ((fR (xas h0 z) T 3 (s - 3).toNat) 0 4 = 0) → ((z - 1 - s).toNat) < n → xEx G0 cdX9_makeAnds (some .boolean) (xRn G0 MT (d + 5)) Q b 2 [some (.inr (.inr 28)), some (.inl z), some (.inl s), v3, v4, v5] [] hh := by
    intro n
    induction n with
    | zero => intro hh s v3 v4 v5 _ _ _ _ _ hm; exact absurd hm (Nat.not_lt_zero _)
    | succ n ih2 =>
      intro hh s v3 v4 v5 hs0 hs9 hGs hss hos hm2
      have hed : hh 42 = h0 42 := hGs.2.2.1 42 (by decide)
      generalize hS1 : fR (xas h0 z) T 3 (s - 3).toNat = T1 at hGs hss hos
      refine E_s 4 (i' := 6) (ls' := [some (.inr (.inr 28)), some (.inl z), some (.inl s), v3, v4, v5]) (sk' := [.inl (z - 1), .inl s]) (h' := hh) rfl ?_
      refine E_b (x := (.if_icmp .ge 82, 52, [], [])) rfl rfl (fun c6 => ?_) (fun c6 => ?_)
      · rw [c_ge ⟨by omega, by omega⟩ ⟨by omega, by omega⟩] at c6
        simp only [decide_eq_true_eq, decide_eq_false_iff_not, Decidable.not_not] at c6
        show xEx G0 cdX9_makeAnds (some .boolean) (xRn G0 MT (d + 5)) Q b 52 [some (.inr (.inr 28)), some (.inl z), some (.inl s), v3, v4, v5] [] hh
        refine E_s 1 (i' := 53) (ls' := [some (.inr (.inr 28)), some (.inl z), some (.inl s), v3, v4, v5]) (sk' := [.inl 1]) (h' := hh) rfl ?_
        exact E_ret (x := (.ireturn, 0, [], [])) (v := some (.inl 1)) rfl (Or.inr ⟨rfl, Or.inr rfl⟩) (by
          have e8 : (s - 3).toNat = (z - 1 - 3).toNat := by omega
          rw [e8] at hS1
          have h4 := hQ hh (by rw [hS1]; exact hGs)
          rw [hS1, if_pos hos] at h4
          exact h4)
      · rw [c_ge ⟨by omega, by omega⟩ ⟨by omega, by omega⟩] at c6
        simp only [decide_eq_true_eq, decide_eq_false_iff_not, Decidable.not_not] at c6
        show xEx G0 cdX9_makeAnds (some .boolean) (xRn G0 MT (d + 5)) Q b 7 [some (.inr (.inr 28)), some (.inl z), some (.inl s), v3, v4, v5] [] hh
        refine E_s 6 (i' := 13) (ls' := [some (.inr (.inr 28)), some (.inl z), some (.inl s), v3, v4, v5]) (sk' := [.inl ((z - 1) - s), .inr (.inr 28)]) (h' := hh) rfl ?_
        refine E_ci (x := (.invokevirtual 52, 1, [(7, 31)], [1])) (r := (ten h0 (z - 1 - s))) (h' := hh) rfl rfl (Nat.le_of_ble_eq_true rfl) (c_end_gt (d + 4) 0 hh (z - 1 - s) ⟨by omega, by omega⟩ ⟨by unfold ten; rw [hed], rfl⟩) ?_
        show xEx G0 cdX9_makeAnds (some .boolean) (xRn G0 MT (d + 5)) Q b 14 [some (.inr (.inr 28)), some (.inl z), some (.inl s), v3, v4, v5] [.inl (ten h0 (z - 1 - s))] hh
        refine E_s 1 (i' := 15) (ls' := [some (.inr (.inr 28)), some (.inl z), some (.inl s), some (.inl (ten h0 (z - 1 - s))), v4, v5]) (sk' := []) (h' := hh) rfl ?_
        have hbe := tbe hE hS0 s
        refine E_s 2 (i' := 17) (ls' := [some (.inr (.inr 28)), some (.inl z), some (.inl s), some (.inl (ten h0 (z - 1 - s))), v4, v5]) (sk' := [.inl s, .inr (.inr 28)]) (h' := hh) rfl ?_
        refine E_ci (x := (.invokevirtual 51, 1, [(7, 30)], [1])) (r := (tbg h0 (s))) (h' := hh) rfl rfl (Nat.le_of_ble_eq_true rfl) (c_begin_gt (d + 4) 0 hh (s) ⟨by omega, by omega⟩ ⟨by unfold tbg; rw [hed], rfl⟩) ?_
        show xEx G0 cdX9_makeAnds (some .boolean) (xRn G0 MT (d + 5)) Q b 18 [some (.inr (.inr 28)), some (.inl z), some (.inl s), some (.inl (ten h0 (z - 1 - s))), v4, v5] [.inl (tbg h0 (s))] hh
        refine E_s 1 (i' := 19) (ls' := [some (.inr (.inr 28)), some (.inl z), some (.inl s), some (.inl (ten h0 (z - 1 - s))), some (.inl (tbg h0 (s))), v5]) (sk' := []) (h' := hh) rfl ?_
        have key19 : ∀ (n : Nat) (hj : xH) (a : Int) (v5 : Option xV), (tbg h0 s ≤ a) → (a ≤ ten h0 s) → (GIT h0 hj (fR (xaa h0 s z) T1 (tbg h0 s) (a - tbg h0 s).toNat)) → (STB T (fR (xaa h0 s z) T1 (tbg h0 s) (a - tbg h0 s).toNat)) → ((fR (xaa h0 s z) T1 (tbg h0 s) (a - tbg h0 s).toNat) 0 4 = 0) → ((ten h0 s - a).toNat) < n → xEx G0 cdX9_makeAnds (some .boolean) (xRn G0 MT (d + 5)) Q b 19 [some (.inr (.inr 28)), some (.inl z), some (.inl s), some (.inl (ten h0 (z - 1 - s))), some (.inl a), v5] [] hj := by
          intro n
          induction n with
          | zero => intro hj a v5 _ _ _ _ _ hm; exact absurd hm (Nat.not_lt_zero _)
          | succ n ih19 =>
            intro hj a v5 ha0 ha9 hGa hsa hoa hm19
            have hed : hj 42 = h0 42 := hGa.2.2.1 42 (by decide)
            refine E_s 3 (i' := 22) (ls' := [some (.inr (.inr 28)), some (.inl z), some (.inl s), some (.inl (ten h0 (z - 1 - s))), some (.inl a), v5]) (sk' := [.inl s, .inr (.inr 28), .inl a]) (h' := hj) rfl ?_
            refine E_ci (x := (.invokevirtual 52, 1, [(7, 31)], [1])) (r := (ten h0 (s))) (h' := hj) rfl rfl (Nat.le_of_ble_eq_true rfl) (c_end_gt (d + 4) 0 hj (s) ⟨by omega, by omega⟩ ⟨by unfold ten; rw [hed], rfl⟩) ?_
            show xEx G0 cdX9_makeAnds (some .boolean) (xRn G0 MT (d + 5)) Q b 23 [some (.inr (.inr 28)), some (.inl z), some (.inl s), some (.inl (ten h0 (z - 1 - s))), some (.inl a), v5] [.inl (ten h0 (s)), .inl a] hj
            refine E_b (x := (.if_icmp .ge 49, 50, [], [])) rfl rfl (fun c23 => ?_) (fun c23 => ?_)
            · rw [c_ge (by have := tbe hE hS0 s; exact ⟨by omega, by omega⟩) (by have := tbe hE hS0 s; exact ⟨by omega, by omega⟩)] at c23
              simp only [decide_eq_true_eq, decide_eq_false_iff_not, Decidable.not_not] at c23
              show xEx G0 cdX9_makeAnds (some .boolean) (xRn G0 MT (d + 5)) Q b 50 [some (.inr (.inr 28)), some (.inl z), some (.inl s), some (.inl (ten h0 (z - 1 - s))), some (.inl a), v5] [] hj
              have hae : a = ten h0 s := by omega
              refine E_s 2 (i' := 2) (ls' := [some (.inr (.inr 28)), some (.inl z), some (.inl (s + 1)), some (.inl (ten h0 (z - 1 - s))), some (.inl a), v5]) (sk' := []) (h' := hj) rfl ?_
              exact ih2 hj (s + 1) _ _ _ (by omega) (by omega) (by rw [fR_n hs0, hS1]; rw [hae] at hGa; exact hGa) (by rw [fR_n hs0, hS1]; rw [hae] at hsa; exact hsa) (by rw [fR_n hs0, hS1]; rw [hae] at hoa; exact hoa) (by omega)
            · rw [c_ge (by have := tbe hE hS0 s; exact ⟨by omega, by omega⟩) (by have := tbe hE hS0 s; exact ⟨by omega, by omega⟩)] at c23
              simp only [decide_eq_true_eq, decide_eq_false_iff_not, Decidable.not_not] at c23
              show xEx G0 cdX9_makeAnds (some .boolean) (xRn G0 MT (d + 5)) Q b 24 [some (.inr (.inr 28)), some (.inl z), some (.inl s), some (.inl (ten h0 (z - 1 - s))), some (.inl a), v5] [] hj
              refine E_s 6 (i' := 30) (ls' := [some (.inr (.inr 28)), some (.inl z), some (.inl s), some (.inl (ten h0 (z - 1 - s))), some (.inl a), v5]) (sk' := [.inl ((z - 1) - s), .inr (.inr 28)]) (h' := hj) rfl ?_
              refine E_ci (x := (.invokevirtual 51, 1, [(7, 30)], [1])) (r := (tbg h0 (z - 1 - s))) (h' := hj) rfl rfl (Nat.le_of_ble_eq_true rfl) (c_begin_gt (d + 4) 0 hj (z - 1 - s) ⟨by omega, by omega⟩ ⟨by unfold tbg; rw [hed], rfl⟩) ?_
              show xEx G0 cdX9_makeAnds (some .boolean) (xRn G0 MT (d + 5)) Q b 31 [some (.inr (.inr 28)), some (.inl z), some (.inl s), some (.inl (ten h0 (z - 1 - s))), some (.inl a), v5] [.inl (tbg h0 (z - 1 - s))] hj
              refine E_s 6 (i' := 37) (ls' := [some (.inr (.inr 28)), some (.inl z), some (.inl s), some (.inl (ten h0 (z - 1 - s))), some (.inl a), some (.inl (tbg h0 (z - 1 - s)))]) (sk' := [.inl a, .inl (tbg h0 (z - 1 - s)), .inl a, .inl 3, .inr (.inr 28)]) (h' := hj) rfl ?_
              refine E_b (x := (.if_icmp .gt 10, 42, [], [])) rfl rfl (fun c37 => ?_) (fun c37 => ?_)
              · rw [c_gt (by have := tbe hE hS0 s; have := tbe hE hS0 (z - 1 - s); exact ⟨by omega, by omega⟩) (by have := tbe hE hS0 s; have := tbe hE hS0 (z - 1 - s); exact ⟨by omega, by omega⟩)] at c37
                simp only [decide_eq_true_eq, decide_eq_false_iff_not, Decidable.not_not] at c37
                show xEx G0 cdX9_makeAnds (some .boolean) (xRn G0 MT (d + 5)) Q b 42 [some (.inr (.inr 28)), some (.inl z), some (.inl s), some (.inl (ten h0 (z - 1 - s))), some (.inl a), some (.inl (tbg h0 (z - 1 - s)))] [.inl a, .inl 3, .inr (.inr 28)] hj
                refine E_s 2 (i' := 44) (ls' := [some (.inr (.inr 28)), some (.inl z), some (.inl s), some (.inl (ten h0 (z - 1 - s))), some (.inl a), some (.inl (tbg h0 (z - 1 - s)))]) (sk' := [.inl (ten h0 (z - 1 - s)), .inl (tbg h0 (z - 1 - s)), .inl a, .inl 3, .inr (.inr 28)]) (h' := hj) rfl ?_
                have hfr : tfr h0 a (z - 1 - s) = tbg h0 (z - 1 - s) := by unfold tfr; first | (rw [if_pos (by omega)]) | (rw [if_neg (by omega)])
                have h1b := tbe hE hS0 (z - 1 - s)
                have h2b := tfr_e hE hS0 a (z - 1 - s) (by omega)
                rw [hfr] at h2b
                refine E_cp (x := (.invokevirtual 47, 4, [(7, 35)], [1])) (q := fun r h9 => r = (if (fR (fun T y => offT h0 T 3 a y) (fR (xaa h0 s z) T1 (tbg h0 s) (a - tbg h0 s).toNat) (tbg h0 (z - 1 - s)) (ten h0 (z - 1 - s) - (tbg h0 (z - 1 - s))).toNat) 0 4 = 0 then 1 else 0) ∧ GIT h0 h9 (fR (fun T y => offT h0 T 3 a y) (fR (xaa h0 s z) T1 (tbg h0 s) (a - tbg h0 s).toNat) (tbg h0 (z - 1 - s)) (ten h0 (z - 1 - s) - (tbg h0 (z - 1 - s))).toNat)) rfl rfl (Nat.le_of_ble_eq_true rfl) (c_offerEachT d 0 h0 hj (fR (xaa h0 s z) T1 (tbg h0 s) (a - tbg h0 s).toNat) 3 a (tbg h0 (z - 1 - s)) (ten h0 (z - 1 - s)) hB hGa hoa (fun T9 i9 z1 z2 z3 => Or.inr (Or.inr ⟨rfl, by omega, by have := hsa.1; have := z1.1; omega, by omega, by have := hsa.1; have := z1.1; omega⟩)) (by omega) (by omega) (fun h9 h8 => ⟨_, rfl, rfl, h8⟩)) (fun r hj2 hq2 => ?_)
                obtain ⟨hr, hGn⟩ := hq2
                have hX : xaa h0 s z (fR (xaa h0 s z) T1 (tbg h0 s) (a - tbg h0 s).toNat) a = fR (fun T y => offT h0 T 3 a y) (fR (xaa h0 s z) T1 (tbg h0 s) (a - tbg h0 s).toNat) (tbg h0 (z - 1 - s)) (ten h0 (z - 1 - s) - (tbg h0 (z - 1 - s))).toNat := by unfold xaa; rw [hfr]
                rw [← hX] at hr hGn
                have hsn : STB T (xaa h0 s z (fR (xaa h0 s z) T1 (tbg h0 s) (a - tbg h0 s).toNat) a) := STB.tr (fun k z1 z2 => (hG.2.1.2.2.2.2.1 k z1 z2).1) hsa (xaa_w hB hGa.2.1 (ENT_up hsa.1 hE) (by have := hsa.1; omega)).2.1
                show xEx G0 cdX9_makeAnds (some .boolean) (xRn G0 MT (d + 5)) Q b 45 [some (.inr (.inr 28)), some (.inl z), some (.inl s), some (.inl (ten h0 (z - 1 - s))), some (.inl a), some (.inl (tbg h0 (z - 1 - s)))] [.inl r] hj2
                refine E_b (x := (.ifCond .ne 5, 48, [], [])) rfl rfl (fun c45 => ?_) (fun c45 => ?_)
                · rw [c_ne (by first | exact ⟨by omega, by omega⟩ | (rw [hr]; split <;> exact ⟨by omega, by omega⟩)) (by first | exact ⟨by omega, by omega⟩ | (rw [hr]; split <;> exact ⟨by omega, by omega⟩))] at c45
                  simp only [decide_eq_true_eq, decide_eq_false_iff_not, Decidable.not_not] at c45
                  show xEx G0 cdX9_makeAnds (some .boolean) (xRn G0 MT (d + 5)) Q b 48 [some (.inr (.inr 28)), some (.inl z), some (.inl s), some (.inl (ten h0 (z - 1 - s))), some (.inl a), some (.inl (tbg h0 (z - 1 - s)))] [] hj2
                  have hon : (xaa h0 s z (fR (xaa h0 s z) T1 (tbg h0 s) (a - tbg h0 s).toNat) a) 0 4 = 0 := by
                    by_cases q : (xaa h0 s z (fR (xaa h0 s z) T1 (tbg h0 s) (a - tbg h0 s).toNat) a) 0 4 = 0
                    · exact q
                    · rw [hr, if_neg q] at c45; exact absurd rfl c45
                  refine E_s 2 (i' := 19) (ls' := [some (.inr (.inr 28)), some (.inl z), some (.inl s), some (.inl (ten h0 (z - 1 - s))), some (.inl (a + 1)), some (.inl (tbg h0 (z - 1 - s)))]) (sk' := []) (h' := hj2) rfl ?_
                  exact ih19 hj2 (a + 1) _ (by omega) (by omega) (by rw [fR_n ha0]; exact hGn) (by rw [fR_n ha0]; exact hsn) (by rw [fR_n ha0]; exact hon) (by omega)
                · rw [c_ne (by first | exact ⟨by omega, by omega⟩ | (rw [hr]; split <;> exact ⟨by omega, by omega⟩)) (by first | exact ⟨by omega, by omega⟩ | (rw [hr]; split <;> exact ⟨by omega, by omega⟩))] at c45
                  simp only [decide_eq_true_eq, decide_eq_false_iff_not, Decidable.not_not] at c45
                  show xEx G0 cdX9_makeAnds (some .boolean) (xRn G0 MT (d + 5)) Q b 46 [some (.inr (.inr 28)), some (.inl z), some (.inl s), some (.inl (ten h0 (z - 1 - s))), some (.inl a), some (.inl (tbg h0 (z - 1 - s)))] [] hj2
                  refine E_s 1 (i' := 47) (ls' := [some (.inr (.inr 28)), some (.inl z), some (.inl s), some (.inl (ten h0 (z - 1 - s))), some (.inl a), some (.inl (tbg h0 (z - 1 - s)))]) (sk' := [.inl 0]) (h' := hj2) rfl ?_
                  exact E_ret (x := (.ireturn, 0, [], [])) (v := some (.inl 0)) rfl (Or.inr ⟨rfl, Or.inl rfl⟩) (by
                    have hne : (fR (xaa h0 s z) T1 (tbg h0 s) (a + 1 - tbg h0 s).toNat) 0 4 ≠ 0 := by
                      rw [fR_n ha0]
                      intro q
                      rw [hr, if_pos q] at c45
                      exact absurd c45 (by decide)
                    have h1 := fR_end (hi := ten h0 s) (stp_aa h0 s z) ha0 (by omega) hne
                    have h2 : fR (xas h0 z) T 3 (s + 1 - 3).toNat = fR (xaa h0 s z) T1 (tbg h0 s) (a + 1 - tbg h0 s).toNat := by rw [fR_n hs0, hS1]; exact h1
                    have hne2 : fR (xas h0 z) T 3 (s + 1 - 3).toNat 0 4 ≠ 0 := by rw [h2]; exact hne
                    have h3 := fR_end (hi := z - 1) (stp_as h0 z) hs0 (by omega) hne2
                    have h4 := hQ hj2 (by rw [h3, h2, fR_n ha0]; exact hGn)
                    rw [h3, if_neg hne2] at h4
                    exact h4)
              · rw [c_gt (by have := tbe hE hS0 s; have := tbe hE hS0 (z - 1 - s); exact ⟨by omega, by omega⟩) (by have := tbe hE hS0 s; have := tbe hE hS0 (z - 1 - s); exact ⟨by omega, by omega⟩)] at c37
                simp only [decide_eq_true_eq, decide_eq_false_iff_not, Decidable.not_not] at c37
                show xEx G0 cdX9_makeAnds (some .boolean) (xRn G0 MT (d + 5)) Q b 38 [some (.inr (.inr 28)), some (.inl z), some (.inl s), some (.inl (ten h0 (z - 1 - s))), some (.inl a), some (.inl (tbg h0 (z - 1 - s)))] [.inl a, .inl 3, .inr (.inr 28)] hj
                refine E_s 5 (i' := 44) (ls' := [some (.inr (.inr 28)), some (.inl z), some (.inl s), some (.inl (ten h0 (z - 1 - s))), some (.inl a), some (.inl (tbg h0 (z - 1 - s)))]) (sk' := [.inl (ten h0 (z - 1 - s)), .inl (a + 1), .inl a, .inl 3, .inr (.inr 28)]) (h' := hj) rfl ?_
                have hfr : tfr h0 a (z - 1 - s) = a + 1 := by unfold tfr; first | (rw [if_pos (by omega)]) | (rw [if_neg (by omega)])
                have h1b := tbe hE hS0 (z - 1 - s)
                have h2b := tfr_e hE hS0 a (z - 1 - s) (by omega)
                rw [hfr] at h2b
                refine E_cp (x := (.invokevirtual 47, 4, [(7, 35)], [1])) (q := fun r h9 => r = (if (fR (fun T y => offT h0 T 3 a y) (fR (xaa h0 s z) T1 (tbg h0 s) (a - tbg h0 s).toNat) (a + 1) (ten h0 (z - 1 - s) - (a + 1)).toNat) 0 4 = 0 then 1 else 0) ∧ GIT h0 h9 (fR (fun T y => offT h0 T 3 a y) (fR (xaa h0 s z) T1 (tbg h0 s) (a - tbg h0 s).toNat) (a + 1) (ten h0 (z - 1 - s) - (a + 1)).toNat)) rfl rfl (Nat.le_of_ble_eq_true rfl) (c_offerEachT d 0 h0 hj (fR (xaa h0 s z) T1 (tbg h0 s) (a - tbg h0 s).toNat) 3 a (a + 1) (ten h0 (z - 1 - s)) hB hGa hoa (fun T9 i9 z1 z2 z3 => Or.inr (Or.inr ⟨rfl, by omega, by have := hsa.1; have := z1.1; omega, by omega, by have := hsa.1; have := z1.1; omega⟩)) (by omega) (by omega) (fun h9 h8 => ⟨_, rfl, rfl, h8⟩)) (fun r hj2 hq2 => ?_)
                obtain ⟨hr, hGn⟩ := hq2
                have hX : xaa h0 s z (fR (xaa h0 s z) T1 (tbg h0 s) (a - tbg h0 s).toNat) a = fR (fun T y => offT h0 T 3 a y) (fR (xaa h0 s z) T1 (tbg h0 s) (a - tbg h0 s).toNat) (a + 1) (ten h0 (z - 1 - s) - (a + 1)).toNat := by unfold xaa; rw [hfr]
                rw [← hX] at hr hGn
                have hsn : STB T (xaa h0 s z (fR (xaa h0 s z) T1 (tbg h0 s) (a - tbg h0 s).toNat) a) := STB.tr (fun k z1 z2 => (hG.2.1.2.2.2.2.1 k z1 z2).1) hsa (xaa_w hB hGa.2.1 (ENT_up hsa.1 hE) (by have := hsa.1; omega)).2.1
                show xEx G0 cdX9_makeAnds (some .boolean) (xRn G0 MT (d + 5)) Q b 45 [some (.inr (.inr 28)), some (.inl z), some (.inl s), some (.inl (ten h0 (z - 1 - s))), some (.inl a), some (.inl (tbg h0 (z - 1 - s)))] [.inl r] hj2
                refine E_b (x := (.ifCond .ne 5, 48, [], [])) rfl rfl (fun c45 => ?_) (fun c45 => ?_)
                · rw [c_ne (by first | exact ⟨by omega, by omega⟩ | (rw [hr]; split <;> exact ⟨by omega, by omega⟩)) (by first | exact ⟨by omega, by omega⟩ | (rw [hr]; split <;> exact ⟨by omega, by omega⟩))] at c45
                  simp only [decide_eq_true_eq, decide_eq_false_iff_not, Decidable.not_not] at c45
                  show xEx G0 cdX9_makeAnds (some .boolean) (xRn G0 MT (d + 5)) Q b 48 [some (.inr (.inr 28)), some (.inl z), some (.inl s), some (.inl (ten h0 (z - 1 - s))), some (.inl a), some (.inl (tbg h0 (z - 1 - s)))] [] hj2
                  have hon : (xaa h0 s z (fR (xaa h0 s z) T1 (tbg h0 s) (a - tbg h0 s).toNat) a) 0 4 = 0 := by
                    by_cases q : (xaa h0 s z (fR (xaa h0 s z) T1 (tbg h0 s) (a - tbg h0 s).toNat) a) 0 4 = 0
                    · exact q
                    · rw [hr, if_neg q] at c45; exact absurd rfl c45
                  refine E_s 2 (i' := 19) (ls' := [some (.inr (.inr 28)), some (.inl z), some (.inl s), some (.inl (ten h0 (z - 1 - s))), some (.inl (a + 1)), some (.inl (tbg h0 (z - 1 - s)))]) (sk' := []) (h' := hj2) rfl ?_
                  exact ih19 hj2 (a + 1) _ (by omega) (by omega) (by rw [fR_n ha0]; exact hGn) (by rw [fR_n ha0]; exact hsn) (by rw [fR_n ha0]; exact hon) (by omega)
                · rw [c_ne (by first | exact ⟨by omega, by omega⟩ | (rw [hr]; split <;> exact ⟨by omega, by omega⟩)) (by first | exact ⟨by omega, by omega⟩ | (rw [hr]; split <;> exact ⟨by omega, by omega⟩))] at c45
                  simp only [decide_eq_true_eq, decide_eq_false_iff_not, Decidable.not_not] at c45
                  show xEx G0 cdX9_makeAnds (some .boolean) (xRn G0 MT (d + 5)) Q b 46 [some (.inr (.inr 28)), some (.inl z), some (.inl s), some (.inl (ten h0 (z - 1 - s))), some (.inl a), some (.inl (tbg h0 (z - 1 - s)))] [] hj2
                  refine E_s 1 (i' := 47) (ls' := [some (.inr (.inr 28)), some (.inl z), some (.inl s), some (.inl (ten h0 (z - 1 - s))), some (.inl a), some (.inl (tbg h0 (z - 1 - s)))]) (sk' := [.inl 0]) (h' := hj2) rfl ?_
                  exact E_ret (x := (.ireturn, 0, [], [])) (v := some (.inl 0)) rfl (Or.inr ⟨rfl, Or.inl rfl⟩) (by
                    have hne : (fR (xaa h0 s z) T1 (tbg h0 s) (a + 1 - tbg h0 s).toNat) 0 4 ≠ 0 := by
                      rw [fR_n ha0]
                      intro q
                      rw [hr, if_pos q] at c45
                      exact absurd c45 (by decide)
                    have h1 := fR_end (hi := ten h0 s) (stp_aa h0 s z) ha0 (by omega) hne
                    have h2 : fR (xas h0 z) T 3 (s + 1 - 3).toNat = fR (xaa h0 s z) T1 (tbg h0 s) (a + 1 - tbg h0 s).toNat := by rw [fR_n hs0, hS1]; exact h1
                    have hne2 : fR (xas h0 z) T 3 (s + 1 - 3).toNat 0 4 ≠ 0 := by rw [h2]; exact hne
                    have h3 := fR_end (hi := z - 1) (stp_as h0 z) hs0 (by omega) hne2
                    have h4 := hQ hj2 (by rw [h3, h2, fR_n ha0]; exact hGn)
                    rw [h3, if_neg hne2] at h4
                    exact h4)
        exact key19 _ hh (tbg h0 s) v5 (Int.le_refl _) hbe.2.1 (by rw [Int.sub_self]; exact hGs) (by rw [Int.sub_self]; exact hss) (by rw [Int.sub_self]; exact hos) (Nat.lt_succ_self _)
  exact key2 _ h 3 none none none (by omega) (by omega) (by exact hG) (by exact STB.rf T) (by exact ho) (Nat.lt_succ_self _)
set_option maxHeartbeats 1000000 in
theorem c_makeAllT (d b : Nat) (h0 h T : xH) (hB : BT h0) (hG : GIT h0 h T) (ho : T 0 4 = 0) (hE : ENS h0 (h0 9 9)) (hET : ENT h0 (T 0 0)) (z : Int) (hz : 3 ≤ z ∧ z ≤ 7) {Q : xO → xH → Prop} (hQ : ∀ h', GIT h0 h' (mkT h0 z T) → Q (.inl (some (.inl (if (mkT h0 z T) 0 4 = 0 then 1 else 0)))) h') : xRn G0 MT (d + 7) b 79 [.inr (.inr 28), .inl z] h Q := by
  refine R_of (M := mX9_makeAll) rfl (Nat.le_of_ble_eq_true rfl) ?_
  show xEx G0 cdX9_makeAll (some .boolean) (xRn G0 MT (d + 6)) Q b 0 [some (.inr (.inr 28)), some (.inl z)] [] h
  refine E_s 3 (i' := 3) (ls' := [some (.inr (.inr 28)), some (.inl z)]) (sk' := [.inl z, .inl 0, .inr (.inr 28)]) (h' := h) rfl ?_
  refine E_cp (x := (.invokevirtual 27, 2, [(7, 80)], [0])) (q := fun r h9 => r = (if (fR (xcs h0 0 z) T 1 (2 + 1 - 1 : Int).toNat) 0 4 = 0 then 1 else 0) ∧ GIT h0 h9 (fR (xcs h0 0 z) T 1 (2 + 1 - 1 : Int).toNat)) rfl rfl (Nat.le_of_ble_eq_true rfl) (c_makeCompared d 0 h0 h T hB hG ho hE 0 z (by omega) hz (fun h9 h8 => ⟨_, rfl, rfl, h8⟩)) (fun r1 h1 hq => ?_)
  obtain ⟨hr1, hG1⟩ := hq
  show xEx G0 cdX9_makeAll (some .boolean) (xRn G0 MT (d + 6)) Q b 4 [some (.inr (.inr 28)), some (.inl z)] [.inl r1] h1
  refine E_b (x := (.ifCond .eq 32, 20, [], [])) rfl rfl (fun cb4 => ?_) (fun cb4 => ?_)
  · rw [c_eq (by first | exact ⟨by omega, by omega⟩ | (rw [hr1]; split <;> exact ⟨by omega, by omega⟩)) (by first | exact ⟨by omega, by omega⟩ | (rw [hr1]; split <;> exact ⟨by omega, by omega⟩))] at cb4
    simp only [decide_eq_true_eq, decide_eq_false_iff_not, Decidable.not_not] at cb4
    show xEx G0 cdX9_makeAll (some .boolean) (xRn G0 MT (d + 6)) Q b 20 [some (.inr (.inr 28)), some (.inl z)] [] h1
    refine E_s 1 (i' := 21) (ls' := [some (.inr (.inr 28)), some (.inl z)]) (sk' := [.inl 0]) (h' := h1) rfl ?_
    exact E_ret (x := (.ireturn, 0, [], [])) (v := some (.inl 0)) rfl (Or.inr ⟨rfl, by omega⟩) (by
      have q : (fR (xcs h0 0 z) T 1 (2 + 1 - 1 : Int).toNat) 0 4 ≠ 0 := by
        intro q
        rw [hr1, if_pos q] at cb4; exact absurd cb4 (by decide)
      have e : mkT h0 z T = (fR (xcs h0 0 z) T 1 (2 + 1 - 1 : Int).toNat) := by
        unfold mkT
        rw [fR_stop (stp_cs h0 1 z) q]
        unfold xnt
        rw [fR_stop (stp_t1 h0 2) q]
        rw [fR_stop (stp_as h0 z) q]
      have h5 := hQ h1 (by rw [e]; exact hG1)
      rw [e, if_neg q] at h5
      exact h5)
  · rw [c_eq (by first | exact ⟨by omega, by omega⟩ | (rw [hr1]; split <;> exact ⟨by omega, by omega⟩)) (by first | exact ⟨by omega, by omega⟩ | (rw [hr1]; split <;> exact ⟨by omega, by omega⟩))] at cb4
    simp only [decide_eq_true_eq, decide_eq_false_iff_not, Decidable.not_not] at cb4
    show xEx G0 cdX9_makeAll (some .boolean) (xRn G0 MT (d + 6)) Q b 5 [some (.inr (.inr 28)), some (.inl z)] [] h1
    have k1 : STB T (fR (xcs h0 0 z) T 1 (2 + 1 - 1 : Int).toNat) := (fT_w hG.2.1 _ (fun T9 i z1 z2 z3 z4 => xcs_w hB z3 hE (by omega))).2.1
    refine E_s 3 (i' := 8) (ls' := [some (.inr (.inr 28)), some (.inl z)]) (sk' := [.inl z, .inl 1, .inr (.inr 28)]) (h' := h1) rfl ?_
    have ho1 : (fR (xcs h0 0 z) T 1 (2 + 1 - 1 : Int).toNat) 0 4 = 0 := by
      by_cases q : (fR (xcs h0 0 z) T 1 (2 + 1 - 1 : Int).toNat) 0 4 = 0
      · exact q
      · rw [hr1, if_neg q] at cb4; exact absurd rfl cb4
    refine E_cp (x := (.invokevirtual 27, 2, [(7, 80)], [0])) (q := fun r h9 => r = (if (fR (xcs h0 1 z) (fR (xcs h0 0 z) T 1 (2 + 1 - 1 : Int).toNat) 1 (2 + 1 - 1 : Int).toNat) 0 4 = 0 then 1 else 0) ∧ GIT h0 h9 (fR (xcs h0 1 z) (fR (xcs h0 0 z) T 1 (2 + 1 - 1 : Int).toNat) 1 (2 + 1 - 1 : Int).toNat)) rfl rfl (Nat.le_of_ble_eq_true rfl) (c_makeCompared d 0 h0 h1 _ hB hG1 ho1 hE 1 z (by omega) hz (fun h9 h8 => ⟨_, rfl, rfl, h8⟩)) (fun r2 h2 hq => ?_)
    obtain ⟨hr2, hG2⟩ := hq
    show xEx G0 cdX9_makeAll (some .boolean) (xRn G0 MT (d + 6)) Q b 9 [some (.inr (.inr 28)), some (.inl z)] [.inl r2] h2
    refine E_b (x := (.ifCond .eq 23, 20, [], [])) rfl rfl (fun cb9 => ?_) (fun cb9 => ?_)
    · rw [c_eq (by first | exact ⟨by omega, by omega⟩ | (rw [hr2]; split <;> exact ⟨by omega, by omega⟩)) (by first | exact ⟨by omega, by omega⟩ | (rw [hr2]; split <;> exact ⟨by omega, by omega⟩))] at cb9
      simp only [decide_eq_true_eq, decide_eq_false_iff_not, Decidable.not_not] at cb9
      show xEx G0 cdX9_makeAll (some .boolean) (xRn G0 MT (d + 6)) Q b 20 [some (.inr (.inr 28)), some (.inl z)] [] h2
      refine E_s 1 (i' := 21) (ls' := [some (.inr (.inr 28)), some (.inl z)]) (sk' := [.inl 0]) (h' := h2) rfl ?_
      exact E_ret (x := (.ireturn, 0, [], [])) (v := some (.inl 0)) rfl (Or.inr ⟨rfl, by omega⟩) (by
        have q : (fR (xcs h0 1 z) (fR (xcs h0 0 z) T 1 (2 + 1 - 1 : Int).toNat) 1 (2 + 1 - 1 : Int).toNat) 0 4 ≠ 0 := by
          intro q
          rw [hr2, if_pos q] at cb9; exact absurd cb9 (by decide)
        have e : mkT h0 z T = (fR (xcs h0 1 z) (fR (xcs h0 0 z) T 1 (2 + 1 - 1 : Int).toNat) 1 (2 + 1 - 1 : Int).toNat) := by
          unfold mkT
          unfold xnt
          rw [fR_stop (stp_t1 h0 2) q]
          rw [fR_stop (stp_as h0 z) q]
        have h5 := hQ h2 (by rw [e]; exact hG2)
        rw [e, if_neg q] at h5
        exact h5)
    · rw [c_eq (by first | exact ⟨by omega, by omega⟩ | (rw [hr2]; split <;> exact ⟨by omega, by omega⟩)) (by first | exact ⟨by omega, by omega⟩ | (rw [hr2]; split <;> exact ⟨by omega, by omega⟩))] at cb9
      simp only [decide_eq_true_eq, decide_eq_false_iff_not, Decidable.not_not] at cb9
      show xEx G0 cdX9_makeAll (some .boolean) (xRn G0 MT (d + 6)) Q b 10 [some (.inr (.inr 28)), some (.inl z)] [] h2
      have k2 : STB (fR (xcs h0 0 z) T 1 (2 + 1 - 1 : Int).toNat) (fR (xcs h0 1 z) (fR (xcs h0 0 z) T 1 (2 + 1 - 1 : Int).toNat) 1 (2 + 1 - 1 : Int).toNat) := (fT_w hG1.2.1 _ (fun T9 i z1 z2 z3 z4 => xcs_w hB z3 hE (by omega))).2.1
      refine E_s 2 (i' := 12) (ls' := [some (.inr (.inr 28)), some (.inl z)]) (sk' := [.inl z, .inr (.inr 28)]) (h' := h2) rfl ?_
      have ho2 : (fR (xcs h0 1 z) (fR (xcs h0 0 z) T 1 (2 + 1 - 1 : Int).toNat) 1 (2 + 1 - 1 : Int).toNat) 0 4 = 0 := by
        by_cases q : (fR (xcs h0 1 z) (fR (xcs h0 0 z) T 1 (2 + 1 - 1 : Int).toNat) 1 (2 + 1 - 1 : Int).toNat) 0 4 = 0
        · exact q
        · rw [hr2, if_neg q] at cb9; exact absurd rfl cb9
      refine E_cp (x := (.invokevirtual 31, 1, [(7, 81)], [0])) (q := fun r h9 => r = (if (xnt h0 z (fR (xcs h0 1 z) (fR (xcs h0 0 z) T 1 (2 + 1 - 1 : Int).toNat) 1 (2 + 1 - 1 : Int).toNat)) 0 4 = 0 then 1 else 0) ∧ GIT h0 h9 (xnt h0 z (fR (xcs h0 1 z) (fR (xcs h0 0 z) T 1 (2 + 1 - 1 : Int).toNat) 1 (2 + 1 - 1 : Int).toNat))) rfl rfl (Nat.le_of_ble_eq_true rfl) (c_makeNots (d + 1) 0 h0 h2 _ hB hG2 ho2 (ENT_up (Int.le_trans k1.1 k2.1) hET) z hz (fun h9 h8 => ⟨_, rfl, rfl, h8⟩)) (fun r3 h3 hq => ?_)
      obtain ⟨hr3, hG3⟩ := hq
      show xEx G0 cdX9_makeAll (some .boolean) (xRn G0 MT (d + 6)) Q b 13 [some (.inr (.inr 28)), some (.inl z)] [.inl r3] h3
      refine E_b (x := (.ifCond .eq 15, 20, [], [])) rfl rfl (fun cb13 => ?_) (fun cb13 => ?_)
      · rw [c_eq (by first | exact ⟨by omega, by omega⟩ | (rw [hr3]; split <;> exact ⟨by omega, by omega⟩)) (by first | exact ⟨by omega, by omega⟩ | (rw [hr3]; split <;> exact ⟨by omega, by omega⟩))] at cb13
        simp only [decide_eq_true_eq, decide_eq_false_iff_not, Decidable.not_not] at cb13
        show xEx G0 cdX9_makeAll (some .boolean) (xRn G0 MT (d + 6)) Q b 20 [some (.inr (.inr 28)), some (.inl z)] [] h3
        refine E_s 1 (i' := 21) (ls' := [some (.inr (.inr 28)), some (.inl z)]) (sk' := [.inl 0]) (h' := h3) rfl ?_
        exact E_ret (x := (.ireturn, 0, [], [])) (v := some (.inl 0)) rfl (Or.inr ⟨rfl, by omega⟩) (by
          have q : (xnt h0 z (fR (xcs h0 1 z) (fR (xcs h0 0 z) T 1 (2 + 1 - 1 : Int).toNat) 1 (2 + 1 - 1 : Int).toNat)) 0 4 ≠ 0 := by
            intro q
            rw [hr3, if_pos q] at cb13; exact absurd cb13 (by decide)
          have e : mkT h0 z T = (xnt h0 z (fR (xcs h0 1 z) (fR (xcs h0 0 z) T 1 (2 + 1 - 1 : Int).toNat) 1 (2 + 1 - 1 : Int).toNat)) := by
            unfold mkT
            rw [fR_stop (stp_as h0 z) q]
          have h5 := hQ h3 (by rw [e]; exact hG3)
          rw [e, if_neg q] at h5
          exact h5)
      · rw [c_eq (by first | exact ⟨by omega, by omega⟩ | (rw [hr3]; split <;> exact ⟨by omega, by omega⟩)) (by first | exact ⟨by omega, by omega⟩ | (rw [hr3]; split <;> exact ⟨by omega, by omega⟩))] at cb13
        simp only [decide_eq_true_eq, decide_eq_false_iff_not, Decidable.not_not] at cb13
        show xEx G0 cdX9_makeAll (some .boolean) (xRn G0 MT (d + 6)) Q b 14 [some (.inr (.inr 28)), some (.inl z)] [] h3
        have k3 : STB (fR (xcs h0 1 z) (fR (xcs h0 0 z) T 1 (2 + 1 - 1 : Int).toNat) 1 (2 + 1 - 1 : Int).toNat) (xnt h0 z (fR (xcs h0 1 z) (fR (xcs h0 0 z) T 1 (2 + 1 - 1 : Int).toNat) 1 (2 + 1 - 1 : Int).toNat)) := (xnt_w hB hG2.2.1 (ENT_up (Int.le_trans k1.1 k2.1) hET)).2.1
        refine E_s 2 (i' := 16) (ls' := [some (.inr (.inr 28)), some (.inl z)]) (sk' := [.inl z, .inr (.inr 28)]) (h' := h3) rfl ?_
        have ho3 : (xnt h0 z (fR (xcs h0 1 z) (fR (xcs h0 0 z) T 1 (2 + 1 - 1 : Int).toNat) 1 (2 + 1 - 1 : Int).toNat)) 0 4 = 0 := by
          by_cases q : (xnt h0 z (fR (xcs h0 1 z) (fR (xcs h0 0 z) T 1 (2 + 1 - 1 : Int).toNat) 1 (2 + 1 - 1 : Int).toNat)) 0 4 = 0
          · exact q
          · rw [hr3, if_neg q] at cb13; exact absurd rfl cb13
        refine E_cp (x := (.invokevirtual 35, 1, [(7, 82)], [0])) (q := fun r h9 => r = (if (fR (xas h0 z) (xnt h0 z (fR (xcs h0 1 z) (fR (xcs h0 0 z) T 1 (2 + 1 - 1 : Int).toNat) 1 (2 + 1 - 1 : Int).toNat)) 3 (z - 1 - 3).toNat) 0 4 = 0 then 1 else 0) ∧ GIT h0 h9 (fR (xas h0 z) (xnt h0 z (fR (xcs h0 1 z) (fR (xcs h0 0 z) T 1 (2 + 1 - 1 : Int).toNat) 1 (2 + 1 - 1 : Int).toNat)) 3 (z - 1 - 3).toNat)) rfl rfl (Nat.le_of_ble_eq_true rfl) (c_makeAnds d 0 h0 h3 _ hB hG3 ho3 (ENT_up (Int.le_trans (Int.le_trans k1.1 k2.1) k3.1) hET) z hz (fun h9 h8 => ⟨_, rfl, rfl, h8⟩)) (fun r4 h4 hq => ?_)
        obtain ⟨hr4, hG4⟩ := hq
        show xEx G0 cdX9_makeAll (some .boolean) (xRn G0 MT (d + 6)) Q b 17 [some (.inr (.inr 28)), some (.inl z)] [.inl r4] h4
        refine E_b (x := (.ifCond .eq 7, 20, [], [])) rfl rfl (fun cb17 => ?_) (fun cb17 => ?_)
        · rw [c_eq (by first | exact ⟨by omega, by omega⟩ | (rw [hr4]; split <;> exact ⟨by omega, by omega⟩)) (by first | exact ⟨by omega, by omega⟩ | (rw [hr4]; split <;> exact ⟨by omega, by omega⟩))] at cb17
          simp only [decide_eq_true_eq, decide_eq_false_iff_not, Decidable.not_not] at cb17
          show xEx G0 cdX9_makeAll (some .boolean) (xRn G0 MT (d + 6)) Q b 20 [some (.inr (.inr 28)), some (.inl z)] [] h4
          refine E_s 1 (i' := 21) (ls' := [some (.inr (.inr 28)), some (.inl z)]) (sk' := [.inl 0]) (h' := h4) rfl ?_
          exact E_ret (x := (.ireturn, 0, [], [])) (v := some (.inl 0)) rfl (Or.inr ⟨rfl, by omega⟩) (by
            have q : (fR (xas h0 z) (xnt h0 z (fR (xcs h0 1 z) (fR (xcs h0 0 z) T 1 (2 + 1 - 1 : Int).toNat) 1 (2 + 1 - 1 : Int).toNat)) 3 (z - 1 - 3).toNat) 0 4 ≠ 0 := by
              intro q
              rw [hr4, if_pos q] at cb17; exact absurd cb17 (by decide)
            have e : mkT h0 z T = (fR (xas h0 z) (xnt h0 z (fR (xcs h0 1 z) (fR (xcs h0 0 z) T 1 (2 + 1 - 1 : Int).toNat) 1 (2 + 1 - 1 : Int).toNat)) 3 (z - 1 - 3).toNat) := by
              unfold mkT
              rfl
            have h5 := hQ h4 (by rw [e]; exact hG4)
            rw [e, if_neg q] at h5
            exact h5)
        · rw [c_eq (by first | exact ⟨by omega, by omega⟩ | (rw [hr4]; split <;> exact ⟨by omega, by omega⟩)) (by first | exact ⟨by omega, by omega⟩ | (rw [hr4]; split <;> exact ⟨by omega, by omega⟩))] at cb17
          simp only [decide_eq_true_eq, decide_eq_false_iff_not, Decidable.not_not] at cb17
          show xEx G0 cdX9_makeAll (some .boolean) (xRn G0 MT (d + 6)) Q b 18 [some (.inr (.inr 28)), some (.inl z)] [] h4
          refine E_s 2 (i' := 21) (ls' := [some (.inr (.inr 28)), some (.inl z)]) (sk' := [.inl 1]) (h' := h4) rfl ?_
          exact E_ret (x := (.ireturn, 0, [], [])) (v := some (.inl 1)) rfl (Or.inr ⟨rfl, by omega⟩) (by
            have q : (fR (xas h0 z) (xnt h0 z (fR (xcs h0 1 z) (fR (xcs h0 0 z) T 1 (2 + 1 - 1 : Int).toNat) 1 (2 + 1 - 1 : Int).toNat)) 3 (z - 1 - 3).toNat) 0 4 = 0 := by
              by_cases q : (fR (xas h0 z) (xnt h0 z (fR (xcs h0 1 z) (fR (xcs h0 0 z) T 1 (2 + 1 - 1 : Int).toNat) 1 (2 + 1 - 1 : Int).toNat)) 3 (z - 1 - 3).toNat) 0 4 = 0
              · exact q
              · rw [hr4, if_neg q] at cb17; exact absurd rfl cb17
            have h5 := hQ h4 hG4
            unfold mkT at h5
            rw [if_pos q] at h5
            exact h5)
