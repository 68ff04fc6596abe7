def RGT (M0 : Int) (h0 h T : xH) : Prop := RMT M0 h T ∧ WT (h0 1 2) T ∧ RET h0 h
theorem r_keepT (d b : Nat) (M0 : Int) (h0 h T : xH) (c1 c2 c3 o3 sz v : Int) (ho3 : o3 = otT c1 c3) (hsz : sz = h0 28 15) (hv : v = oT h0 T c1 c2 c3) (hB : BT h0) (hG : RGT M0 h0 h T) (ho : T 0 4 = 0) (hc : okt h0 T c1 c2 c3) {Q : xO → xH → Prop} (hQ : ∀ h', RGT M0 h0 h' (offT h0 T c1 c2 c3) → FRT h h' → Q (.inl (some (.inl (if offT h0 T c1 c2 c3 0 4 = 0 then 1 else 0)))) h') : xRn G0 MT (d + 2) b 184 [.inr (.inr 66), .inl c1, .inl c2, .inl o3, .inl sz, .inl v] h Q := by
  subst ho3
  subst hsz
  subst hv
  exact r_keepsTest d b M0 h0 h T c1 c2 c3 hB hG.2.2 hG.1 hG.2.1 ho hc (fun h' q1 q2 => hQ h' ⟨q1, (WT_off hB hG.2.1 hc).1, RET_of q2 hG.2.2⟩ q2)
/-- how many EXPRESSIONS may be compared -/
def E2 (h0 : xH) : Int := h0 23 2
noncomputable def rcb (h0 : xH) (kd z a : Int) (T : xH) (b : Int) : xH := if h0 18 a + h0 18 b = z - 1 then offT h0 T kd a b else T
def rcl (kd a : Int) : Int := if kd = 0 then 0 else a + 1
noncomputable def rca (h0 : xH) (kd z : Int) (T : xH) (a : Int) : xH := fR (rcb h0 kd z a) T (rcl kd a) (E2 h0 - rcl kd a).toNat
noncomputable def rnt (h0 : xH) (z : Int) (T : xH) (t : Int) : xH := if T 4 t = z - 1 then offT h0 T 2 t 0 else T
noncomputable def rtb (h0 : xH) (z t : Int) (T : xH) (u : Int) : xH := if T 4 t + T 4 u = z - 1 then offT h0 T 3 t u else T
noncomputable def rta (h0 : xH) (z had : Int) (T : xH) (t : Int) : xH := fR (rtb h0 z t) T (t + 1) (had - (t + 1)).toNat
noncomputable def mkRT (h0 : xH) (z : Int) (T : xH) : xH := fR (rta h0 z (T 0 0)) (fR (rnt h0 z) (fR (rca h0 1 z) (fR (rca h0 0 z) T 0 (E2 h0 - 0).toNat) 0 (E2 h0 - 0).toNat) 0 (T 0 0 - 0).toNat) 0 (T 0 0 - 0).toNat
theorem stp_cb (h0 : xH) (kd z a : Int) : stp (rcb h0 kd z a) := by
  intro T h b
  unfold rcb
  split
  · exact offT_s h
  · rfl
theorem stp_rca (h0 : xH) (kd z : Int) : stp (rca h0 kd z) := fun _ h _ => fR_stop (stp_cb h0 kd z _) h _ _
theorem stp_rnt (h0 : xH) (z : Int) : stp (rnt h0 z) := by
  intro T h b
  unfold rnt
  split
  · exact offT_s h
  · rfl
theorem stp_tb (h0 : xH) (z t : Int) : stp (rtb h0 z t) := by
  intro T h b
  unfold rtb
  split
  · exact offT_s h
  · rfl
theorem stp_rta (h0 : xH) (z had : Int) : stp (rta h0 z had) := fun _ h _ => fR_stop (stp_tb h0 z _) h _ _
theorem rcb_w {h0 T : xH} {kd z a b : Int} (hB : BT h0) (hW : WT (h0 1 2) T) (hk : 0 ≤ kd ∧ kd ≤ 1) (ha : 0 ≤ a ∧ a < h0 9 9) (hb : 0 ≤ b ∧ b < h0 9 9) : wtp h0 T (rcb h0 kd z a T b) := by
  unfold rcb
  split
  · exact WT_off hB hW (Or.inl ⟨hk.1, hk.2, ha.1, ha.2, hb.1, hb.2⟩)
  · exact ⟨hW, STB.rf T, rfl⟩
theorem rca_w {h0 T : xH} {kd z a : Int} (hB : BT h0) (hW : WT (h0 1 2) T) (hk : 0 ≤ kd ∧ kd ≤ 1) (ha : 0 ≤ a ∧ a < h0 9 9) (h2 : E2 h0 ≤ h0 9 9) : wtp h0 T (rca h0 kd z T a) := by
  have hl : 0 ≤ rcl kd a := by unfold rcl; split <;> omega
  exact fT_w hW _ (fun T' i q1 q2 q3 q4 => rcb_w hB q3 hk ha (by omega))
theorem rnt_w {h0 T : xH} {z t : Int} (hB : BT h0) (hW : WT (h0 1 2) T) (ht : 0 ≤ t ∧ t < T 0 0) : wtp h0 T (rnt h0 z T t) := by
  unfold rnt
  split
  · exact WT_off hB hW (Or.inr (Or.inl ⟨rfl, ht.1, ht.2, rfl⟩))
  · exact ⟨hW, STB.rf T, rfl⟩
theorem rtb_w {h0 T : xH} {z t u : Int} (hB : BT h0) (hW : WT (h0 1 2) T) (ht : 0 ≤ t ∧ t < T 0 0) (hu : 0 ≤ u ∧ u < T 0 0) : wtp h0 T (rtb h0 z t T u) := by
  unfold rtb
  split
  · exact WT_off hB hW (Or.inr (Or.inr ⟨rfl, ht.1, ht.2, hu.1, hu.2⟩))
  · exact ⟨hW, STB.rf T, rfl⟩
theorem rta_w {h0 T : xH} {z t had : Int} (hB : BT h0) (hW : WT (h0 1 2) T) (hh : had ≤ T 0 0) (ht : 0 ≤ t ∧ t < had) : wtp h0 T (rta h0 z had T t) :=
  fT_w hW _ (fun T' i q1 q2 q3 q4 => rtb_w hB q3 (by have := q4.1; omega) (by have := q4.1; omega))
set_option maxHeartbeats 1000000 in
theorem r_makesCompared (d b : Nat) (M0 : Int) (h0 h T : xH) (kd z : Int) (hB : BT h0) (hzz : h0 28 15 = z) (hz : 3 ≤ z ∧ z ≤ 7) (hkd : 0 ≤ kd ∧ kd ≤ 1) (hkk : ∀ k, 0 ≤ k → k < h0 9 9 → (1 ≤ h0 18 k ∧ h0 18 k ≤ 9) ∧ (k < E2 h0 ↔ h0 18 k ≤ 2)) (h2k : E2 h0 ≤ h0 9 9) (h20 : 0 ≤ E2 h0) (hG : RGT M0 h0 h T) (ho : T 0 4 = 0) {Q : xO → xH → Prop} (hQ : ∀ h', RGT M0 h0 h' (fR (rca h0 kd z) T 0 (E2 h0 - 0).toNat) → FRT h h' → Q (.inl (some (.inl (if (fR (rca h0 kd z) T 0 (E2 h0 - 0).toNat) 0 4 = 0 then 1 else 0)))) h') : xRn G0 MT (d + 4) b 186 [.inr (.inr 66), .inl kd, .inl z] h Q := by
  refine R_of (M := mX12_makesCompared) rfl (Nat.le_of_ble_eq_true rfl) ?_
  show xEx G0 cdX12_makesCompared (some .boolean) (xRn G0 MT (d + 3)) Q b 0 [some (.inr (.inr 66)), some (.inl kd), some (.inl z), none, none] [] h
  have hn := hB.1
  have hKe := hB.2.1
  refine E_s 2 (i' := 2) (ls' := [some (.inr (.inr 66)), some (.inl kd), some (.inl z), some (.inl 0), none]) (sk' := []) (h' := h) rfl ?_
  have key2 : ∀ (n : Nat) (hj : xH) (a : Int) (v4 : Option xV), (0 ≤ a) → (a ≤ E2 h0) → (RGT M0 h0 hj (fR (rca h0 kd z) T 0 (a - 0).toNat)) → (STB T (fR (rca h0 kd z) T 0 (a - 0).toNat)) → (FRT h hj) → ((fR (rca h0 kd z) T 0 (a - 0).toNat) 0 4 = 0) → ((E2 h0 - a).toNat) < n → xEx G0 cdX12_makesCompared (some .boolean) (xRn G0 MT (d + 3)) Q b 2 [some (.inr (.inr 66)), some (.inl kd), some (.inl z), some (.inl a), v4] [] hj := by
    intro n
    induction n with
    | zero => intro hj a v4 _ _ _ _ _ _ hm; exact absurd hm (Nat.not_lt_zero _)
    | succ n ih2 =>
      intro hj a v4 ha0 ha9 hGa hsa hFa hoa hm2
      have hka : hj 66 8 = h0 9 9 := hGa.2.2.2.1
      generalize hSX : fR (rca h0 kd z) T 0 (a - 0).toNat = TX at hGa hsa hoa
      refine E_s 3 (i' := 5) (ls' := [some (.inr (.inr 66)), some (.inl kd), some (.inl z), some (.inl a), v4]) (sk' := [.inl (hj 66 8), .inl a]) (h' := hj) rfl ?_
      refine E_b (x := (.if_icmp .ge 100, 61, [], [])) rfl rfl (fun c5 => ?_) (fun c5 => ?_)
      · rw [c_ge (by first | exact ⟨by omega, by omega⟩ | (rw [hka]; exact ⟨by omega, by omega⟩)) (by first | exact ⟨by omega, by omega⟩ | (rw [hka]; exact ⟨by omega, by omega⟩))] at c5
        simp only [decide_eq_true_eq, decide_eq_false_iff_not, Decidable.not_not] at c5
        show xEx G0 cdX12_makesCompared (some .boolean) (xRn G0 MT (d + 3)) Q b 61 [some (.inr (.inr 66)), some (.inl kd), some (.inl z), some (.inl a), v4] [] hj
        refine E_s 1 (i' := 62) (ls' := [some (.inr (.inr 66)), some (.inl kd), some (.inl z), some (.inl a), v4]) (sk' := [.inl 1]) (h' := hj) rfl ?_
        exact E_ret (x := (.ireturn, 0, [], [])) (v := some (.inl 1)) rfl (Or.inr ⟨rfl, Or.inr rfl⟩) (by
          have e8 : a = E2 h0 := by omega
          rw [e8] at hSX
          rw [← hSX] at hGa hoa
          have h4 := hQ hj hGa hFa
          rw [if_pos hoa] at h4
          exact h4)
      · rw [c_ge (by first | exact ⟨by omega, by omega⟩ | (rw [hka]; exact ⟨by omega, by omega⟩)) (by first | exact ⟨by omega, by omega⟩ | (rw [hka]; exact ⟨by omega, by omega⟩))] at c5
        simp only [decide_eq_true_eq, decide_eq_false_iff_not, Decidable.not_not] at c5
        show xEx G0 cdX12_makesCompared (some .boolean) (xRn G0 MT (d + 3)) Q b 6 [some (.inr (.inr 66)), some (.inl kd), some (.inl z), some (.inl a), v4] [] hj
        have hsz1 : hj 75 a = h0 18 a := hGa.2.2.2.2.2 a ha0 (by omega)
        have hka1 := hkk a ha0 (by omega)
        refine E_s 3 (i' := 9) (ls' := [some (.inr (.inr 66)), some (.inl kd), some (.inl z), some (.inl a), v4]) (sk' := [.inl a, .inr (.inr 75)]) (h' := hj) rfl ?_
        refine E_ld (x := (.iaload, 0, [], [])) (ty := .int) (n := 300) rfl rfl rfl (by omega) (by omega) ?_
        show xEx G0 cdX12_makesCompared (some .boolean) (xRn G0 MT (d + 3)) Q b 10 [some (.inr (.inr 66)), some (.inl kd), some (.inl z), some (.inl a), v4] [.inl (hj 75 a)] hj
        refine E_s 1 (i' := 11) (ls' := [some (.inr (.inr 66)), some (.inl kd), some (.inl z), some (.inl a), v4]) (sk' := [.inl 3, .inl (hj 75 a)]) (h' := hj) rfl ?_
        refine E_b (x := (.if_icmp .ge 90, 61, [], [])) rfl rfl (fun c11 => ?_) (fun c11 => ?_)
        · rw [c_ge (by first | exact ⟨by omega, by omega⟩ | (rw [hsz1]; exact ⟨by omega, by omega⟩)) (by first | exact ⟨by omega, by omega⟩ | (rw [hsz1]; exact ⟨by omega, by omega⟩))] at c11
          simp only [decide_eq_true_eq, decide_eq_false_iff_not, Decidable.not_not] at c11
          show xEx G0 cdX12_makesCompared (some .boolean) (xRn G0 MT (d + 3)) Q b 61 [some (.inr (.inr 66)), some (.inl kd), some (.inl z), some (.inl a), v4] [] hj
          refine E_s 1 (i' := 62) (ls' := [some (.inr (.inr 66)), some (.inl kd), some (.inl z), some (.inl a), v4]) (sk' := [.inl 1]) (h' := hj) rfl ?_
          exact E_ret (x := (.ireturn, 0, [], [])) (v := some (.inl 1)) rfl (Or.inr ⟨rfl, Or.inr rfl⟩) (by
            have e8 : a = E2 h0 := by omega
            rw [e8] at hSX
            rw [← hSX] at hGa hoa
            have h4 := hQ hj hGa hFa
            rw [if_pos hoa] at h4
            exact h4)
        · rw [c_ge (by first | exact ⟨by omega, by omega⟩ | (rw [hsz1]; exact ⟨by omega, by omega⟩)) (by first | exact ⟨by omega, by omega⟩ | (rw [hsz1]; exact ⟨by omega, by omega⟩))] at c11
          simp only [decide_eq_true_eq, decide_eq_false_iff_not, Decidable.not_not] at c11
          show xEx G0 cdX12_makesCompared (some .boolean) (xRn G0 MT (d + 3)) Q b 12 [some (.inr (.inr 66)), some (.inl kd), some (.inl z), some (.inl a), v4] [] hj
          refine E_s 1 (i' := 13) (ls' := [some (.inr (.inr 66)), some (.inl kd), some (.inl z), some (.inl a), v4]) (sk' := [.inl kd]) (h' := hj) rfl ?_
          refine E_b (x := (.ifCond .ne 7, 16, [], [])) rfl rfl (fun c13 => ?_) (fun c13 => ?_)
          · rw [c_ne (by first | assumption | (refine ⟨?_, ?_⟩ <;> omega) | (simp only [xr] at *; omega)) (by first | assumption | (refine ⟨?_, ?_⟩ <;> omega) | (simp only [xr] at *; omega))] at c13
            simp only [decide_eq_true_eq, decide_eq_false_iff_not, Decidable.not_not] at c13
            show xEx G0 cdX12_makesCompared (some .boolean) (xRn G0 MT (d + 3)) Q b 16 [some (.inr (.inr 66)), some (.inl kd), some (.inl z), some (.inl a), v4] [] hj
            refine E_s 4 (i' := 20) (ls' := [some (.inr (.inr 66)), some (.inl kd), some (.inl z), some (.inl a), some (.inl (a + 1))]) (sk' := []) (h' := hj) rfl ?_
            have key20 : ∀ (n : Nat) (hb : xH) (y : Int), (rcl kd a ≤ y) → (y ≤ E2 h0) → (RGT M0 h0 hb (fR (rcb h0 kd z a) TX (rcl kd a) (y - rcl kd a).toNat)) → (STB T (fR (rcb h0 kd z a) TX (rcl kd a) (y - rcl kd a).toNat)) → (FRT h hb) → ((fR (rcb h0 kd z a) TX (rcl kd a) (y - rcl kd a).toNat) 0 4 = 0) → ((E2 h0 - y).toNat) < n → xEx G0 cdX12_makesCompared (some .boolean) (xRn G0 MT (d + 3)) Q b 20 [some (.inr (.inr 66)), some (.inl kd), some (.inl z), some (.inl a), some (.inl y)] [] hb := by
              intro n
              induction n with
              | zero => intro hb y _ _ _ _ _ _ hm; exact absurd hm (Nat.not_lt_zero _)
              | succ n ih20 =>
                intro hb y hy0 hy9 hGb hsb hFb hob hm20
                have hkb : hb 66 8 = h0 9 9 := hGb.2.2.2.1
                have hy00 : 0 ≤ y := by have h9 : 0 ≤ rcl kd a := by { unfold rcl; split <;> omega }; omega
                generalize hSY : fR (rcb h0 kd z a) TX (rcl kd a) (y - rcl kd a).toNat = TY at hGb hsb hob
                refine E_s 3 (i' := 23) (ls' := [some (.inr (.inr 66)), some (.inl kd), some (.inl z), some (.inl a), some (.inl y)]) (sk' := [.inl (hb 66 8), .inl y]) (h' := hb) rfl ?_
                refine E_b (x := (.if_icmp .ge 62, 59, [], [])) rfl rfl (fun c23 => ?_) (fun c23 => ?_)
                · rw [c_ge (by first | exact ⟨by omega, by omega⟩ | (rw [hkb]; exact ⟨by omega, by omega⟩)) (by first | exact ⟨by omega, by omega⟩ | (rw [hkb]; exact ⟨by omega, by omega⟩))] at c23
                  simp only [decide_eq_true_eq, decide_eq_false_iff_not, Decidable.not_not] at c23
                  show xEx G0 cdX12_makesCompared (some .boolean) (xRn G0 MT (d + 3)) Q b 59 [some (.inr (.inr 66)), some (.inl kd), some (.inl z), some (.inl a), some (.inl y)] [] hb
                  have hX : rca h0 kd z TX a = TY := by unfold rca; rw [← hSY, show y = E2 h0 by omega]
                  have hGx := hGb
                  rw [← hX] at hGx
                  have hox := hob
                  rw [← hX] at hox
                  refine E_s 2 (i' := 2) (ls' := [some (.inr (.inr 66)), some (.inl kd), some (.inl z), some (.inl (a + 1)), some (.inl y)]) (sk' := []) (h' := hb) rfl ?_
                  exact ih2 hb (a + 1) _ (by omega) (by omega) (by rw [fR_n ha0, hSX]; exact hGx) (by rw [fR_n ha0, hSX]; exact STB.tr (fun k z1 z2 => (hG.2.1.2.2.2.2.1 k z1 z2).1) hsa (rca_w hB hGa.2.1 hkd (by omega) h2k).2.1) hFb (by rw [fR_n ha0, hSX]; exact hox) (by omega)
                · rw [c_ge (by first | exact ⟨by omega, by omega⟩ | (rw [hkb]; exact ⟨by omega, by omega⟩)) (by first | exact ⟨by omega, by omega⟩ | (rw [hkb]; exact ⟨by omega, by omega⟩))] at c23
                  simp only [decide_eq_true_eq, decide_eq_false_iff_not, Decidable.not_not] at c23
                  show xEx G0 cdX12_makesCompared (some .boolean) (xRn G0 MT (d + 3)) Q b 24 [some (.inr (.inr 66)), some (.inl kd), some (.inl z), some (.inl a), some (.inl y)] [] hb
                  have hzb2 : hb 75 y = h0 18 y := hGb.2.2.2.2.2 y hy00 (by omega)
                  have hza2 : hb 75 a = h0 18 a := hGb.2.2.2.2.2 a ha0 (by omega)
                  have hky1 := hkk y hy00 (by omega)
                  refine E_s 3 (i' := 27) (ls' := [some (.inr (.inr 66)), some (.inl kd), some (.inl z), some (.inl a), some (.inl y)]) (sk' := [.inl y, .inr (.inr 75)]) (h' := hb) rfl ?_
                  refine E_ld (x := (.iaload, 0, [], [])) (ty := .int) (n := 300) rfl rfl rfl (by omega) (by omega) ?_
                  show xEx G0 cdX12_makesCompared (some .boolean) (xRn G0 MT (d + 3)) Q b 28 [some (.inr (.inr 66)), some (.inl kd), some (.inl z), some (.inl a), some (.inl y)] [.inl (hb 75 y)] hb
                  refine E_s 1 (i' := 29) (ls' := [some (.inr (.inr 66)), some (.inl kd), some (.inl z), some (.inl a), some (.inl y)]) (sk' := [.inl 3, .inl (hb 75 y)]) (h' := hb) rfl ?_
                  refine E_b (x := (.if_icmp .ge 51, 59, [], [])) rfl rfl (fun c29 => ?_) (fun c29 => ?_)
                  · rw [c_ge (by first | exact ⟨by omega, by omega⟩ | (rw [hzb2]; exact ⟨by omega, by omega⟩)) (by first | exact ⟨by omega, by omega⟩ | (rw [hzb2]; exact ⟨by omega, by omega⟩))] at c29
                    simp only [decide_eq_true_eq, decide_eq_false_iff_not, Decidable.not_not] at c29
                    show xEx G0 cdX12_makesCompared (some .boolean) (xRn G0 MT (d + 3)) Q b 59 [some (.inr (.inr 66)), some (.inl kd), some (.inl z), some (.inl a), some (.inl y)] [] hb
                    have hX : rca h0 kd z TX a = TY := by unfold rca; rw [← hSY, show y = E2 h0 by omega]
                    have hGx := hGb
                    rw [← hX] at hGx
                    have hox := hob
                    rw [← hX] at hox
                    refine E_s 2 (i' := 2) (ls' := [some (.inr (.inr 66)), some (.inl kd), some (.inl z), some (.inl (a + 1)), some (.inl y)]) (sk' := []) (h' := hb) rfl ?_
                    exact ih2 hb (a + 1) _ (by omega) (by omega) (by rw [fR_n ha0, hSX]; exact hGx) (by rw [fR_n ha0, hSX]; exact STB.tr (fun k z1 z2 => (hG.2.1.2.2.2.2.1 k z1 z2).1) hsa (rca_w hB hGa.2.1 hkd (by omega) h2k).2.1) hFb (by rw [fR_n ha0, hSX]; exact hox) (by omega)
                  · rw [c_ge (by first | exact ⟨by omega, by omega⟩ | (rw [hzb2]; exact ⟨by omega, by omega⟩)) (by first | exact ⟨by omega, by omega⟩ | (rw [hzb2]; exact ⟨by omega, by omega⟩))] at c29
                    simp only [decide_eq_true_eq, decide_eq_false_iff_not, Decidable.not_not] at c29
                    show xEx G0 cdX12_makesCompared (some .boolean) (xRn G0 MT (d + 3)) Q b 30 [some (.inr (.inr 66)), some (.inl kd), some (.inl z), some (.inl a), some (.inl y)] [] hb
                    refine E_s 3 (i' := 33) (ls' := [some (.inr (.inr 66)), some (.inl kd), some (.inl z), some (.inl a), some (.inl y)]) (sk' := [.inl a, .inr (.inr 75)]) (h' := hb) rfl ?_
                    refine E_ld (x := (.iaload, 0, [], [])) (ty := .int) (n := 300) rfl rfl rfl (by omega) (by omega) ?_
                    show xEx G0 cdX12_makesCompared (some .boolean) (xRn G0 MT (d + 3)) Q b 34 [some (.inr (.inr 66)), some (.inl kd), some (.inl z), some (.inl a), some (.inl y)] [.inl (hb 75 a)] hb
                    refine E_s 3 (i' := 37) (ls' := [some (.inr (.inr 66)), some (.inl kd), some (.inl z), some (.inl a), some (.inl y)]) (sk' := [.inl y, .inr (.inr 75), .inl (hb 75 a)]) (h' := hb) rfl ?_
                    refine E_ld (x := (.iaload, 0, [], [])) (ty := .int) (n := 300) rfl rfl rfl (by omega) (by omega) ?_
                    show xEx G0 cdX12_makesCompared (some .boolean) (xRn G0 MT (d + 3)) Q b 38 [some (.inr (.inr 66)), some (.inl kd), some (.inl z), some (.inl a), some (.inl y)] [.inl (hb 75 y), .inl (hb 75 a)] hb
                    refine E_s 4 (i' := 42) (ls' := [some (.inr (.inr 66)), some (.inl kd), some (.inl z), some (.inl a), some (.inl y)]) (sk' := [.inl (z - 1), .inl ((hb 75 a) + (hb 75 y))]) (h' := hb) rfl ?_
                    refine E_b (x := (.if_icmp .ne 25, 57, [], [])) rfl rfl (fun c42 => ?_) (fun c42 => ?_)
                    · rw [c_ne (by first | exact ⟨by omega, by omega⟩ | (rw [hza2, hzb2]; exact ⟨by omega, by omega⟩)) (by first | exact ⟨by omega, by omega⟩ | (rw [hza2, hzb2]; exact ⟨by omega, by omega⟩))] at c42
                      simp only [decide_eq_true_eq, decide_eq_false_iff_not, Decidable.not_not] at c42
                      show xEx G0 cdX12_makesCompared (some .boolean) (xRn G0 MT (d + 3)) Q b 57 [some (.inr (.inr 66)), some (.inl kd), some (.inl z), some (.inl a), some (.inl y)] [] hb
                      have hX : rcb h0 kd z a TY y = TY := by unfold rcb; rw [if_neg (by rw [← hza2, ← hzb2]; exact c42)]
                      have hGy := hGb
                      rw [← hX] at hGy
                      have hFy := hFb
                      have hoy := hob
                      rw [← hX] at hoy
                      refine E_s 2 (i' := 20) (ls' := [some (.inr (.inr 66)), some (.inl kd), some (.inl z), some (.inl a), some (.inl (y + 1))]) (sk' := []) (h' := hb) rfl ?_
                      exact ih20 hb (y + 1) (by omega) (by omega) (by rw [fR_n hy0, hSY]; exact hGy) (by rw [fR_n hy0, hSY]; exact STB.tr (fun k z1 z2 => (hG.2.1.2.2.2.2.1 k z1 z2).1) hsb (rcb_w hB hGb.2.1 hkd (by omega) (by omega)).2.1) hFy (by rw [fR_n hy0, hSY]; exact hoy) (by omega)
                    · rw [c_ne (by first | exact ⟨by omega, by omega⟩ | (rw [hza2, hzb2]; exact ⟨by omega, by omega⟩)) (by first | exact ⟨by omega, by omega⟩ | (rw [hza2, hzb2]; exact ⟨by omega, by omega⟩))] at c42
                      simp only [decide_eq_true_eq, decide_eq_false_iff_not, Decidable.not_not] at c42
                      show xEx G0 cdX12_makesCompared (some .boolean) (xRn G0 MT (d + 3)) Q b 43 [some (.inr (.inr 66)), some (.inl kd), some (.inl z), some (.inl a), some (.inl y)] [] hb
                      refine E_s 9 (i' := 52) (ls' := [some (.inr (.inr 66)), some (.inl kd), some (.inl z), some (.inl a), some (.inl y)]) (sk' := [.inl y, .inl a, .inl kd, .inr (.inr 66), .inl z, .inl y, .inl a, .inl kd, .inr (.inr 66)]) (h' := hb) rfl ?_
                      refine E_ci (x := (.invokevirtual 260, 3, [(10, 185)], [0])) (r := (cv (cmpT h0 kd a y) (h0 1 2).toNat : Int)) (h' := hb) rfl rfl (Nat.le_of_ble_eq_true rfl) (r_compared (d + 2) 0 h0 hb kd a y hB hGb.2.2 hkd (by omega) (by omega) ⟨rfl, rfl⟩) ?_
                      show xEx G0 cdX12_makesCompared (some .boolean) (xRn G0 MT (d + 3)) Q b 53 [some (.inr (.inr 66)), some (.inl kd), some (.inl z), some (.inl a), some (.inl y)] [.inl (cv (cmpT h0 kd a y) (h0 1 2).toNat : Int), .inl z, .inl y, .inl a, .inl kd, .inr (.inr 66)] hb
                      have hX : rcb h0 kd z a TY y = offT h0 TY kd a y := by unfold rcb; rw [if_pos (by rw [← hza2, ← hzb2]; exact c42)]
                      refine E_cp (x := (.invokevirtual 263, 5, [(10, 184)], [0])) (q := fun r h9 => r = (if rcb h0 kd z a TY y 0 4 = 0 then 1 else 0) ∧ RGT M0 h0 h9 (rcb h0 kd z a TY y) ∧ FRT h h9) rfl rfl (Nat.le_of_ble_eq_true rfl) (r_keepT (d + 1) 0 M0 h0 hb TY kd a y y z _ (by unfold otT; rw [if_neg (by omega)]) hzz.symm (by unfold oT; rw [if_neg (by omega), if_neg (by omega)]) hB hGb hob (Or.inl ⟨hkd.1, hkd.2, by omega, by omega, by omega, by omega⟩) (fun h9 q1 q2 => ⟨_, rfl, by rw [hX], by rw [hX]; exact q1, FRT.tr hFb q2⟩)) (fun r hb2 hq => ?_)
                      obtain ⟨hr, hGn, hFn⟩ := hq
                      show xEx G0 cdX12_makesCompared (some .boolean) (xRn G0 MT (d + 3)) Q b 54 [some (.inr (.inr 66)), some (.inl kd), some (.inl z), some (.inl a), some (.inl y)] [.inl r] hb2
                      refine E_b (x := (.ifCond .ne 5, 57, [], [])) rfl rfl (fun c54 => ?_) (fun c54 => ?_)
                      · rw [c_ne (by first | exact ⟨by omega, by omega⟩ | (rw [hr]; split <;> exact ⟨by omega, by omega⟩)) (by first | exact ⟨by omega, by omega⟩ | (rw [hr]; split <;> exact ⟨by omega, by omega⟩))] at c54
                        simp only [decide_eq_true_eq, decide_eq_false_iff_not, Decidable.not_not] at c54
                        show xEx G0 cdX12_makesCompared (some .boolean) (xRn G0 MT (d + 3)) Q b 57 [some (.inr (.inr 66)), some (.inl kd), some (.inl z), some (.inl a), some (.inl y)] [] hb2
                        have hGy := hGn
                        have hFy := hFn
                        have hoy : rcb h0 kd z a TY y 0 4 = 0 := by
                          by_cases q : rcb h0 kd z a TY y 0 4 = 0
                          · exact q
                          · rw [hr, if_neg q] at c54; exact absurd rfl c54
                        refine E_s 2 (i' := 20) (ls' := [some (.inr (.inr 66)), some (.inl kd), some (.inl z), some (.inl a), some (.inl (y + 1))]) (sk' := []) (h' := hb2) rfl ?_
                        exact ih20 hb2 (y + 1) (by omega) (by omega) (by rw [fR_n hy0, hSY]; exact hGy) (by rw [fR_n hy0, hSY]; exact STB.tr (fun k z1 z2 => (hG.2.1.2.2.2.2.1 k z1 z2).1) hsb (rcb_w hB hGb.2.1 hkd (by omega) (by omega)).2.1) hFy (by rw [fR_n hy0, hSY]; exact hoy) (by omega)
                      · rw [c_ne (by first | exact ⟨by omega, by omega⟩ | (rw [hr]; split <;> exact ⟨by omega, by omega⟩)) (by first | exact ⟨by omega, by omega⟩ | (rw [hr]; split <;> exact ⟨by omega, by omega⟩))] at c54
                        simp only [decide_eq_true_eq, decide_eq_false_iff_not, Decidable.not_not] at c54
                        show xEx G0 cdX12_makesCompared (some .boolean) (xRn G0 MT (d + 3)) Q b 55 [some (.inr (.inr 66)), some (.inl kd), some (.inl z), some (.inl a), some (.inl y)] [] hb2
                        refine E_s 1 (i' := 56) (ls' := [some (.inr (.inr 66)), some (.inl kd), some (.inl z), some (.inl a), some (.inl y)]) (sk' := [.inl 0]) (h' := hb2) rfl ?_
                        exact E_ret (x := (.ireturn, 0, [], [])) (v := some (.inl 0)) rfl (Or.inr ⟨rfl, Or.inl rfl⟩) (by
                          have hne0 : (fR (rcb h0 kd z a) TX (rcl kd a) (y + 1 - rcl kd a).toNat) 0 4 ≠ 0 := by
                            rw [fR_n hy0, hSY]
                            intro q
                            rw [hr, if_pos q] at c54
                            exact absurd c54 (by decide)
                          have h0e := fR_end (hi := E2 h0) (stp_cb h0 kd z a) hy0 (by omega) hne0
                          have hXa : rca h0 kd z TX a = rcb h0 kd z a TY y := by unfold rca; rw [h0e, fR_n hy0, hSY]
                          have hne : (fR (rca h0 kd z) T 0 (a + 1 - 0).toNat) 0 4 ≠ 0 := by
                            rw [fR_n ha0, hSX, hXa]
                            rw [fR_n hy0, hSY] at hne0
                            exact hne0
                          have h1 := fR_end (hi := E2 h0) (stp_rca h0 kd z) ha0 (by omega) hne
                          have h4 := hQ hb2 (by rw [h1, fR_n ha0, hSX, hXa]; exact hGn) hFn
                          rw [h1, if_neg hne] at h4
                          exact h4)
            exact key20 _ hj (a + 1) (by unfold rcl; first | (rw [if_pos (by omega)]; omega) | (rw [if_neg (by omega)]; omega)) (by omega) (by rw [show a + 1 - rcl kd a = 0 by unfold rcl; first | (rw [if_pos (by omega)]; omega) | (rw [if_neg (by omega)]; omega)]; exact hGa) (by rw [show a + 1 - rcl kd a = 0 by unfold rcl; first | (rw [if_pos (by omega)]; omega) | (rw [if_neg (by omega)]; omega)]; exact hsa) hFa (by rw [show a + 1 - rcl kd a = 0 by unfold rcl; first | (rw [if_pos (by omega)]; omega) | (rw [if_neg (by omega)]; omega)]; exact hoa) (Nat.lt_succ_self _)
          · rw [c_ne (by first | assumption | (refine ⟨?_, ?_⟩ <;> omega) | (simp only [xr] at *; omega)) (by first | assumption | (refine ⟨?_, ?_⟩ <;> omega) | (simp only [xr] at *; omega))] at c13
            simp only [decide_eq_true_eq, decide_eq_false_iff_not, Decidable.not_not] at c13
            show xEx G0 cdX12_makesCompared (some .boolean) (xRn G0 MT (d + 3)) Q b 14 [some (.inr (.inr 66)), some (.inl kd), some (.inl z), some (.inl a), v4] [] hj
            refine E_s 3 (i' := 20) (ls' := [some (.inr (.inr 66)), some (.inl kd), some (.inl z), some (.inl a), some (.inl 0)]) (sk' := []) (h' := hj) rfl ?_
            have key20 : ∀ (n : Nat) (hb : xH) (y : Int), (rcl kd a ≤ y) → (y ≤ E2 h0) → (RGT M0 h0 hb (fR (rcb h0 kd z a) TX (rcl kd a) (y - rcl kd a).toNat)) → (STB T (fR (rcb h0 kd z a) TX (rcl kd a) (y - rcl kd a).toNat)) → (FRT h hb) → ((fR (rcb h0 kd z a) TX (rcl kd a) (y - rcl kd a).toNat) 0 4 = 0) → ((E2 h0 - y).toNat) < n → xEx G0 cdX12_makesCompared (some .boolean) (xRn G0 MT (d + 3)) Q b 20 [some (.inr (.inr 66)), some (.inl kd), some (.inl z), some (.inl a), some (.inl y)] [] hb := by
              intro n
              induction n with
              | zero => intro hb y _ _ _ _ _ _ hm; exact absurd hm (Nat.not_lt_zero _)
              | succ n ih20 =>
                intro hb y hy0 hy9 hGb hsb hFb hob hm20
                have hkb : hb 66 8 = h0 9 9 := hGb.2.2.2.1
                have hy00 : 0 ≤ y := by have h9 : 0 ≤ rcl kd a := by { unfold rcl; split <;> omega }; omega
                generalize hSY : fR (rcb h0 kd z a) TX (rcl kd a) (y - rcl kd a).toNat = TY at hGb hsb hob
                refine E_s 3 (i' := 23) (ls' := [some (.inr (.inr 66)), some (.inl kd), some (.inl z), some (.inl a), some (.inl y)]) (sk' := [.inl (hb 66 8), .inl y]) (h' := hb) rfl ?_
                refine E_b (x := (.if_icmp .ge 62, 59, [], [])) rfl rfl (fun c23 => ?_) (fun c23 => ?_)
                · rw [c_ge (by first | exact ⟨by omega, by omega⟩ | (rw [hkb]; exact ⟨by omega, by omega⟩)) (by first | exact ⟨by omega, by omega⟩ | (rw [hkb]; exact ⟨by omega, by omega⟩))] at c23
                  simp only [decide_eq_true_eq, decide_eq_false_iff_not, Decidable.not_not] at c23
                  show xEx G0 cdX12_makesCompared (some .boolean) (xRn G0 MT (d + 3)) Q b 59 [some (.inr (.inr 66)), some (.inl kd), some (.inl z), some (.inl a), some (.inl y)] [] hb
                  have hX : rca h0 kd z TX a = TY := by unfold rca; rw [← hSY, show y = E2 h0 by omega]
                  have hGx := hGb
                  rw [← hX] at hGx
                  have hox := hob
                  rw [← hX] at hox
                  refine E_s 2 (i' := 2) (ls' := [some (.inr (.inr 66)), some (.inl kd), some (.inl z), some (.inl (a + 1)), some (.inl y)]) (sk' := []) (h' := hb) rfl ?_
                  exact ih2 hb (a + 1) _ (by omega) (by omega) (by rw [fR_n ha0, hSX]; exact hGx) (by rw [fR_n ha0, hSX]; exact STB.tr (fun k z1 z2 => (hG.2.1.2.2.2.2.1 k z1 z2).1) hsa (rca_w hB hGa.2.1 hkd (by omega) h2k).2.1) hFb (by rw [fR_n ha0, hSX]; exact hox) (by omega)
                · rw [c_ge (by first | exact ⟨by omega, by omega⟩ | (rw [hkb]; exact ⟨by omega, by omega⟩)) (by first | exact ⟨by omega, by omega⟩ | (rw [hkb]; exact ⟨by omega, by omega⟩))] at c23
                  simp only [decide_eq_true_eq, decide_eq_false_iff_not, Decidable.not_not] at c23
                  show xEx G0 cdX12_makesCompared (some .boolean) (xRn G0 MT (d + 3)) Q b 24 [some (.inr (.inr 66)), some (.inl kd), some (.inl z), some (.inl a), some (.inl y)] [] hb
                  have hzb2 : hb 75 y = h0 18 y := hGb.2.2.2.2.2 y hy00 (by omega)
                  have hza2 : hb 75 a = h0 18 a := hGb.2.2.2.2.2 a ha0 (by omega)
                  have hky1 := hkk y hy00 (by omega)
                  refine E_s 3 (i' := 27) (ls' := [some (.inr (.inr 66)), some (.inl kd), some (.inl z), some (.inl a), some (.inl y)]) (sk' := [.inl y, .inr (.inr 75)]) (h' := hb) rfl ?_
                  refine E_ld (x := (.iaload, 0, [], [])) (ty := .int) (n := 300) rfl rfl rfl (by omega) (by omega) ?_
                  show xEx G0 cdX12_makesCompared (some .boolean) (xRn G0 MT (d + 3)) Q b 28 [some (.inr (.inr 66)), some (.inl kd), some (.inl z), some (.inl a), some (.inl y)] [.inl (hb 75 y)] hb
                  refine E_s 1 (i' := 29) (ls' := [some (.inr (.inr 66)), some (.inl kd), some (.inl z), some (.inl a), some (.inl y)]) (sk' := [.inl 3, .inl (hb 75 y)]) (h' := hb) rfl ?_
                  refine E_b (x := (.if_icmp .ge 51, 59, [], [])) rfl rfl (fun c29 => ?_) (fun c29 => ?_)
                  · rw [c_ge (by first | exact ⟨by omega, by omega⟩ | (rw [hzb2]; exact ⟨by omega, by omega⟩)) (by first | exact ⟨by omega, by omega⟩ | (rw [hzb2]; exact ⟨by omega, by omega⟩))] at c29
                    simp only [decide_eq_true_eq, decide_eq_false_iff_not, Decidable.not_not] at c29
                    show xEx G0 cdX12_makesCompared (some .boolean) (xRn G0 MT (d + 3)) Q b 59 [some (.inr (.inr 66)), some (.inl kd), some (.inl z), some (.inl a), some (.inl y)] [] hb
                    have hX : rca h0 kd z TX a = TY := by unfold rca; rw [← hSY, show y = E2 h0 by omega]
                    have hGx := hGb
                    rw [← hX] at hGx
                    have hox := hob
                    rw [← hX] at hox
                    refine E_s 2 (i' := 2) (ls' := [some (.inr (.inr 66)), some (.inl kd), some (.inl z), some (.inl (a + 1)), some (.inl y)]) (sk' := []) (h' := hb) rfl ?_
                    exact ih2 hb (a + 1) _ (by omega) (by omega) (by rw [fR_n ha0, hSX]; exact hGx) (by rw [fR_n ha0, hSX]; exact STB.tr (fun k z1 z2 => (hG.2.1.2.2.2.2.1 k z1 z2).1) hsa (rca_w hB hGa.2.1 hkd (by omega) h2k).2.1) hFb (by rw [fR_n ha0, hSX]; exact hox) (by omega)
                  · rw [c_ge (by first | exact ⟨by omega, by omega⟩ | (rw [hzb2]; exact ⟨by omega, by omega⟩)) (by first | exact ⟨by omega, by omega⟩ | (rw [hzb2]; exact ⟨by omega, by omega⟩))] at c29
                    simp only [decide_eq_true_eq, decide_eq_false_iff_not, Decidable.not_not] at c29
                    show xEx G0 cdX12_makesCompared (some .boolean) (xRn G0 MT (d + 3)) Q b 30 [some (.inr (.inr 66)), some (.inl kd), some (.inl z), some (.inl a), some (.inl y)] [] hb
                    refine E_s 3 (i' := 33) (ls' := [some (.inr (.inr 66)), some (.inl kd), some (.inl z), some (.inl a), some (.inl y)]) (sk' := [.inl a, .inr (.inr 75)]) (h' := hb) rfl ?_
                    refine E_ld (x := (.iaload, 0, [], [])) (ty := .int) (n := 300) rfl rfl rfl (by omega) (by omega) ?_
                    show xEx G0 cdX12_makesCompared (some .boolean) (xRn G0 MT (d + 3)) Q b 34 [some (.inr (.inr 66)), some (.inl kd), some (.inl z), some (.inl a), some (.inl y)] [.inl (hb 75 a)] hb
                    refine E_s 3 (i' := 37) (ls' := [some (.inr (.inr 66)), some (.inl kd), some (.inl z), some (.inl a), some (.inl y)]) (sk' := [.inl y, .inr (.inr 75), .inl (hb 75 a)]) (h' := hb) rfl ?_
                    refine E_ld (x := (.iaload, 0, [], [])) (ty := .int) (n := 300) rfl rfl rfl (by omega) (by omega) ?_
                    show xEx G0 cdX12_makesCompared (some .boolean) (xRn G0 MT (d + 3)) Q b 38 [some (.inr (.inr 66)), some (.inl kd), some (.inl z), some (.inl a), some (.inl y)] [.inl (hb 75 y), .inl (hb 75 a)] hb
                    refine E_s 4 (i' := 42) (ls' := [some (.inr (.inr 66)), some (.inl kd), some (.inl z), some (.inl a), some (.inl y)]) (sk' := [.inl (z - 1), .inl ((hb 75 a) + (hb 75 y))]) (h' := hb) rfl ?_
                    refine E_b (x := (.if_icmp .ne 25, 57, [], [])) rfl rfl (fun c42 => ?_) (fun c42 => ?_)
                    · rw [c_ne (by first | exact ⟨by omega, by omega⟩ | (rw [hza2, hzb2]; exact ⟨by omega, by omega⟩)) (by first | exact ⟨by omega, by omega⟩ | (rw [hza2, hzb2]; exact ⟨by omega, by omega⟩))] at c42
                      simp only [decide_eq_true_eq, decide_eq_false_iff_not, Decidable.not_not] at c42
                      show xEx G0 cdX12_makesCompared (some .boolean) (xRn G0 MT (d + 3)) Q b 57 [some (.inr (.inr 66)), some (.inl kd), some (.inl z), some (.inl a), some (.inl y)] [] hb
                      have hX : rcb h0 kd z a TY y = TY := by unfold rcb; rw [if_neg (by rw [← hza2, ← hzb2]; exact c42)]
                      have hGy := hGb
                      rw [← hX] at hGy
                      have hFy := hFb
                      have hoy := hob
                      rw [← hX] at hoy
                      refine E_s 2 (i' := 20) (ls' := [some (.inr (.inr 66)), some (.inl kd), some (.inl z), some (.inl a), some (.inl (y + 1))]) (sk' := []) (h' := hb) rfl ?_
                      exact ih20 hb (y + 1) (by omega) (by omega) (by rw [fR_n hy0, hSY]; exact hGy) (by rw [fR_n hy0, hSY]; exact STB.tr (fun k z1 z2 => (hG.2.1.2.2.2.2.1 k z1 z2).1) hsb (rcb_w hB hGb.2.1 hkd (by omega) (by omega)).2.1) hFy (by rw [fR_n hy0, hSY]; exact hoy) (by omega)
                    · rw [c_ne (by first | exact ⟨by omega, by omega⟩ | (rw [hza2, hzb2]; exact ⟨by omega, by omega⟩)) (by first | exact ⟨by omega, by omega⟩ | (rw [hza2, hzb2]; exact ⟨by omega, by omega⟩))] at c42
                      simp only [decide_eq_true_eq, decide_eq_false_iff_not, Decidable.not_not] at c42
                      show xEx G0 cdX12_makesCompared (some .boolean) (xRn G0 MT (d + 3)) Q b 43 [some (.inr (.inr 66)), some (.inl kd), some (.inl z), some (.inl a), some (.inl y)] [] hb
                      refine E_s 9 (i' := 52) (ls' := [some (.inr (.inr 66)), some (.inl kd), some (.inl z), some (.inl a), some (.inl y)]) (sk' := [.inl y, .inl a, .inl kd, .inr (.inr 66), .inl z, .inl y, .inl a, .inl kd, .inr (.inr 66)]) (h' := hb) rfl ?_
                      refine E_ci (x := (.invokevirtual 260, 3, [(10, 185)], [0])) (r := (cv (cmpT h0 kd a y) (h0 1 2).toNat : Int)) (h' := hb) rfl rfl (Nat.le_of_ble_eq_true rfl) (r_compared (d + 2) 0 h0 hb kd a y hB hGb.2.2 hkd (by omega) (by omega) ⟨rfl, rfl⟩) ?_
                      show xEx G0 cdX12_makesCompared (some .boolean) (xRn G0 MT (d + 3)) Q b 53 [some (.inr (.inr 66)), some (.inl kd), some (.inl z), some (.inl a), some (.inl y)] [.inl (cv (cmpT h0 kd a y) (h0 1 2).toNat : Int), .inl z, .inl y, .inl a, .inl kd, .inr (.inr 66)] hb
                      have hX : rcb h0 kd z a TY y = offT h0 TY kd a y := by unfold rcb; rw [if_pos (by rw [← hza2, ← hzb2]; exact c42)]
                      refine E_cp (x := (.invokevirtual 263, 5, [(10, 184)], [0])) (q := fun r h9 => r = (if rcb h0 kd z a TY y 0 4 = 0 then 1 else 0) ∧ RGT M0 h0 h9 (rcb h0 kd z a TY y) ∧ FRT h h9) rfl rfl (Nat.le_of_ble_eq_true rfl) (r_keepT (d + 1) 0 M0 h0 hb TY kd a y y z _ (by unfold otT; rw [if_neg (by omega)]) hzz.symm (by unfold oT; rw [if_neg (by omega), if_neg (by omega)]) hB hGb hob (Or.inl ⟨hkd.1, hkd.2, by omega, by omega, by omega, by omega⟩) (fun h9 q1 q2 => ⟨_, rfl, by rw [hX], by rw [hX]; exact q1, FRT.tr hFb q2⟩)) (fun r hb2 hq => ?_)
                      obtain ⟨hr, hGn, hFn⟩ := hq
                      show xEx G0 cdX12_makesCompared (some .boolean) (xRn G0 MT (d + 3)) Q b 54 [some (.inr (.inr 66)), some (.inl kd), some (.inl z), some (.inl a), some (.inl y)] [.inl r] hb2
                      refine E_b (x := (.ifCond .ne 5, 57, [], [])) rfl rfl (fun c54 => ?_) (fun c54 => ?_)
                      · rw [c_ne (by first | exact ⟨by omega, by omega⟩ | (rw [hr]; split <;> exact ⟨by omega, by omega⟩)) (by first | exact ⟨by omega, by omega⟩ | (rw [hr]; split <;> exact ⟨by omega, by omega⟩))] at c54
                        simp only [decide_eq_true_eq, decide_eq_false_iff_not, Decidable.not_not] at c54
                        show xEx G0 cdX12_makesCompared (some .boolean) (xRn G0 MT (d + 3)) Q b 57 [some (.inr (.inr 66)), some (.inl kd), some (.inl z), some (.inl a), some (.inl y)] [] hb2
                        have hGy := hGn
                        have hFy := hFn
                        have hoy : rcb h0 kd z a TY y 0 4 = 0 := by
                          by_cases q : rcb h0 kd z a TY y 0 4 = 0
                          · exact q
                          · rw [hr, if_neg q] at c54; exact absurd rfl c54
                        refine E_s 2 (i' := 20) (ls' := [some (.inr (.inr 66)), some (.inl kd), some (.inl z), some (.inl a), some (.inl (y + 1))]) (sk' := []) (h' := hb2) rfl ?_
                        exact ih20 hb2 (y + 1) (by omega) (by omega) (by rw [fR_n hy0, hSY]; exact hGy) (by rw [fR_n hy0, hSY]; exact STB.tr (fun k z1 z2 => (hG.2.1.2.2.2.2.1 k z1 z2).1) hsb (rcb_w hB hGb.2.1 hkd (by omega) (by omega)).2.1) hFy (by rw [fR_n hy0, hSY]; exact hoy) (by omega)
                      · rw [c_ne (by first | exact ⟨by omega, by omega⟩ | (rw [hr]; split <;> exact ⟨by omega, by omega⟩)) (by first | exact ⟨by omega, by omega⟩ | (rw [hr]; split <;> exact ⟨by omega, by omega⟩))] at c54
                        simp only [decide_eq_true_eq, decide_eq_false_iff_not, Decidable.not_not] at c54
                        show xEx G0 cdX12_makesCompared (some .boolean) (xRn G0 MT (d + 3)) Q b 55 [some (.inr (.inr 66)), some (.inl kd), some (.inl z), some (.inl a), some (.inl y)] [] hb2
                        refine E_s 1 (i' := 56) (ls' := [some (.inr (.inr 66)), some (.inl kd), some (.inl z), some (.inl a), some (.inl y)]) (sk' := [.inl 0]) (h' := hb2) rfl ?_
                        exact E_ret (x := (.ireturn, 0, [], [])) (v := some (.inl 0)) rfl (Or.inr ⟨rfl, Or.inl rfl⟩) (by
                          have hne0 : (fR (rcb h0 kd z a) TX (rcl kd a) (y + 1 - rcl kd a).toNat) 0 4 ≠ 0 := by
                            rw [fR_n hy0, hSY]
                            intro q
                            rw [hr, if_pos q] at c54
                            exact absurd c54 (by decide)
                          have h0e := fR_end (hi := E2 h0) (stp_cb h0 kd z a) hy0 (by omega) hne0
                          have hXa : rca h0 kd z TX a = rcb h0 kd z a TY y := by unfold rca; rw [h0e, fR_n hy0, hSY]
                          have hne : (fR (rca h0 kd z) T 0 (a + 1 - 0).toNat) 0 4 ≠ 0 := by
                            rw [fR_n ha0, hSX, hXa]
                            rw [fR_n hy0, hSY] at hne0
                            exact hne0
                          have h1 := fR_end (hi := E2 h0) (stp_rca h0 kd z) ha0 (by omega) hne
                          have h4 := hQ hb2 (by rw [h1, fR_n ha0, hSX, hXa]; exact hGn) hFn
                          rw [h1, if_neg hne] at h4
                          exact h4)
            exact key20 _ hj (0) (by unfold rcl; first | (rw [if_pos (by omega)]; omega) | (rw [if_neg (by omega)]; omega)) (by omega) (by rw [show 0 - rcl kd a = 0 by unfold rcl; first | (rw [if_pos (by omega)]; omega) | (rw [if_neg (by omega)]; omega)]; exact hGa) (by rw [show 0 - rcl kd a = 0 by unfold rcl; first | (rw [if_pos (by omega)]; omega) | (rw [if_neg (by omega)]; omega)]; exact hsa) hFa (by rw [show 0 - rcl kd a = 0 by unfold rcl; first | (rw [if_pos (by omega)]; omega) | (rw [if_neg (by omega)]; omega)]; exact hoa) (Nat.lt_succ_self _)
  exact key2 _ h 0 none (by omega) (by omega) (by exact hG) (by exact STB.rf T) (FRT.rf h) (by exact ho) (Nat.lt_succ_self _)
set_option maxHeartbeats 1000000 in
theorem r_makesTests (d b : Nat) (M0 : Int) (h0 h T : xH) (z : Int) (hB : BT h0) (hzz : h0 28 15 = z) (hz : 3 ≤ z ∧ z ≤ 7) (hs4 : ∀ k, 0 ≤ k → k < T 0 0 → 0 ≤ T 4 k ∧ T 4 k ≤ 9) (hkk : ∀ k, 0 ≤ k → k < h0 9 9 → (1 ≤ h0 18 k ∧ h0 18 k ≤ 9) ∧ (k < E2 h0 ↔ h0 18 k ≤ 2)) (h2k : E2 h0 ≤ h0 9 9) (h20 : 0 ≤ E2 h0) (hG : RGT M0 h0 h T) (ho : T 0 4 = 0) {Q : xO → xH → Prop} (hQ : ∀ h', RGT M0 h0 h' (mkRT h0 z T) → FRT h h' → Q (.inl (some (.inl (if mkRT h0 z T 0 4 = 0 then 1 else 0)))) h') : xRn G0 MT (d + 5) b 187 [.inr (.inr 66), .inl z] h Q := by
  refine R_of (M := mX12_makesTests) rfl (Nat.le_of_ble_eq_true rfl) ?_
  show xEx G0 cdX12_makesTests (some .boolean) (xRn G0 MT (d + 4)) Q b 0 [some (.inr (.inr 66)), some (.inl z), none, none, none] [] h
  have hn := hB.1
  have hT0 := hG.2.1.1
  have hT150 := hG.2.1.2.1
  have hKe := hB.2.1
  refine E_s 3 (i' := 3) (ls' := [some (.inr (.inr 66)), some (.inl z), some (.inl (h 66 19)), none, none]) (sk' := []) (h' := h) rfl ?_
  rw [show h 66 19 = T 0 0 from hG.1.1.1]
  refine E_s 3 (i' := 6) (ls' := [some (.inr (.inr 66)), some (.inl z), some (.inl (T 0 0)), none, none]) (sk' := [.inl z, .inl 0, .inr (.inr 66)]) (h' := h) rfl ?_
  refine E_cp (x := (.invokevirtual 267, 2, [(10, 186)], [0])) (q := fun r h9 => r = (if (fR (rca h0 0 z) T 0 (E2 h0 - 0).toNat) 0 4 = 0 then 1 else 0) ∧ RGT M0 h0 h9 (fR (rca h0 0 z) T 0 (E2 h0 - 0).toNat) ∧ FRT h h9) rfl rfl (Nat.le_of_ble_eq_true rfl) (r_makesCompared d 0 M0 h0 h T 0 z hB hzz hz (by omega) hkk h2k h20 hG ho (fun h9 q1 q2 => ⟨_, rfl, rfl, q1, q2⟩)) (fun r1 h1 hq => ?_)
  obtain ⟨hr1, hG1, hF1⟩ := hq
  show xEx G0 cdX12_makesTests (some .boolean) (xRn G0 MT (d + 4)) Q b 7 [some (.inr (.inr 66)), some (.inl z), some (.inl (T 0 0)), none, none] [.inl r1] h1
  refine E_b (x := (.ifCond .eq 12, 13, [], [])) rfl rfl (fun c7 => ?_) (fun c7 => ?_)
  · rw [c_eq (by first | exact ⟨by omega, by omega⟩ | (rw [hr1]; split <;> exact ⟨by omega, by omega⟩)) (by first | exact ⟨by omega, by omega⟩ | (rw [hr1]; split <;> exact ⟨by omega, by omega⟩))] at c7
    simp only [decide_eq_true_eq, decide_eq_false_iff_not, Decidable.not_not] at c7
    show xEx G0 cdX12_makesTests (some .boolean) (xRn G0 MT (d + 4)) Q b 13 [some (.inr (.inr 66)), some (.inl z), some (.inl (T 0 0)), none, none] [] h1
    refine E_s 1 (i' := 14) (ls' := [some (.inr (.inr 66)), some (.inl z), some (.inl (T 0 0)), none, none]) (sk' := [.inl 0]) (h' := h1) rfl ?_
    exact E_ret (x := (.ireturn, 0, [], [])) (v := some (.inl 0)) rfl (Or.inr ⟨rfl, Or.inl rfl⟩) (by
      have hne : (fR (rca h0 0 z) T 0 (E2 h0 - 0).toNat) 0 4 ≠ 0 := by
        intro q
        rw [hr1, if_pos q] at c7; exact absurd c7 (by decide)
      have e : mkRT h0 z T = (fR (rca h0 0 z) T 0 (E2 h0 - 0).toNat) := by
        unfold mkRT
        rw [fR_stop (stp_rca h0 1 z) hne]
        rw [fR_stop (stp_rnt h0 z) hne, fR_stop (stp_rta h0 z (T 0 0)) hne]
      have h5 := hQ h1 (by rw [e]; exact hG1) hF1
      rw [e, if_neg hne] at h5
      exact h5)
  · rw [c_eq (by first | exact ⟨by omega, by omega⟩ | (rw [hr1]; split <;> exact ⟨by omega, by omega⟩)) (by first | exact ⟨by omega, by omega⟩ | (rw [hr1]; split <;> exact ⟨by omega, by omega⟩))] at c7
    simp only [decide_eq_true_eq, decide_eq_false_iff_not, Decidable.not_not] at c7
    show xEx G0 cdX12_makesTests (some .boolean) (xRn G0 MT (d + 4)) Q b 8 [some (.inr (.inr 66)), some (.inl z), some (.inl (T 0 0)), none, none] [] h1
    have k1 : STB T (fR (rca h0 0 z) T 0 (E2 h0 - 0).toNat) := (fT_w hG.2.1 _ (fun T9 i z1 z2 z3 z4 => rca_w hB z3 (by omega) (by omega) h2k)).2.1
    refine E_s 3 (i' := 11) (ls' := [some (.inr (.inr 66)), some (.inl z), some (.inl (T 0 0)), none, none]) (sk' := [.inl z, .inl 1, .inr (.inr 66)]) (h' := h1) rfl ?_
    have ho1 : (fR (rca h0 0 z) T 0 (E2 h0 - 0).toNat) 0 4 = 0 := by
      by_cases q : (fR (rca h0 0 z) T 0 (E2 h0 - 0).toNat) 0 4 = 0
      · exact q
      · rw [hr1, if_neg q] at c7; exact absurd rfl c7
    refine E_cp (x := (.invokevirtual 267, 2, [(10, 186)], [0])) (q := fun r h9 => r = (if (fR (rca h0 1 z) (fR (rca h0 0 z) T 0 (E2 h0 - 0).toNat) 0 (E2 h0 - 0).toNat) 0 4 = 0 then 1 else 0) ∧ RGT M0 h0 h9 (fR (rca h0 1 z) (fR (rca h0 0 z) T 0 (E2 h0 - 0).toNat) 0 (E2 h0 - 0).toNat) ∧ FRT h h9) rfl rfl (Nat.le_of_ble_eq_true rfl) (r_makesCompared d 0 M0 h0 h1 (fR (rca h0 0 z) T 0 (E2 h0 - 0).toNat) 1 z hB hzz hz (by omega) hkk h2k h20 hG1 ho1 (fun h9 q1 q2 => ⟨_, rfl, rfl, q1, FRT.tr hF1 q2⟩)) (fun r2 h2 hq => ?_)
    obtain ⟨hr2, hG2, hF2⟩ := hq
    show xEx G0 cdX12_makesTests (some .boolean) (xRn G0 MT (d + 4)) Q b 12 [some (.inr (.inr 66)), some (.inl z), some (.inl (T 0 0)), none, none] [.inl r2] h2
    refine E_b (x := (.ifCond .ne 5, 15, [], [])) rfl rfl (fun c12 => ?_) (fun c12 => ?_)
    · rw [c_ne (by first | exact ⟨by omega, by omega⟩ | (rw [hr2]; split <;> exact ⟨by omega, by omega⟩)) (by first | exact ⟨by omega, by omega⟩ | (rw [hr2]; split <;> exact ⟨by omega, by omega⟩))] at c12
      simp only [decide_eq_true_eq, decide_eq_false_iff_not, Decidable.not_not] at c12
      show xEx G0 cdX12_makesTests (some .boolean) (xRn G0 MT (d + 4)) Q b 15 [some (.inr (.inr 66)), some (.inl z), some (.inl (T 0 0)), none, none] [] h2
      have ho2 : (fR (rca h0 1 z) (fR (rca h0 0 z) T 0 (E2 h0 - 0).toNat) 0 (E2 h0 - 0).toNat) 0 4 = 0 := by
        by_cases q : (fR (rca h0 1 z) (fR (rca h0 0 z) T 0 (E2 h0 - 0).toNat) 0 (E2 h0 - 0).toNat) 0 4 = 0
        · exact q
        · rw [hr2, if_neg q] at c12; exact absurd rfl c12
      have k2 : STB T (fR (rca h0 1 z) (fR (rca h0 0 z) T 0 (E2 h0 - 0).toNat) 0 (E2 h0 - 0).toNat) := STB.tr (fun k z1 z2 => (hG.2.1.2.2.2.2.1 k z1 z2).1) k1 (fT_w hG1.2.1 _ (fun T9 i z1 z2 z3 z4 => rca_w hB z3 (by omega) (by omega) h2k)).2.1
      refine E_s 2 (i' := 17) (ls' := [some (.inr (.inr 66)), some (.inl z), some (.inl (T 0 0)), some (.inl 0), none]) (sk' := []) (h' := h2) rfl ?_
      have key17 : ∀ (n : Nat) (hj : xH) (t : Int), (0 ≤ t) → (t ≤ T 0 0) → (RGT M0 h0 hj (fR (rnt h0 z) (fR (rca h0 1 z) (fR (rca h0 0 z) T 0 (E2 h0 - 0).toNat) 0 (E2 h0 - 0).toNat) 0 (t - 0).toNat)) → (STB T (fR (rnt h0 z) (fR (rca h0 1 z) (fR (rca h0 0 z) T 0 (E2 h0 - 0).toNat) 0 (E2 h0 - 0).toNat) 0 (t - 0).toNat)) → (FRT h hj) → ((fR (rnt h0 z) (fR (rca h0 1 z) (fR (rca h0 0 z) T 0 (E2 h0 - 0).toNat) 0 (E2 h0 - 0).toNat) 0 (t - 0).toNat) 0 4 = 0) → ((T 0 0 - t).toNat) < n → xEx G0 cdX12_makesTests (some .boolean) (xRn G0 MT (d + 4)) Q b 17 [some (.inr (.inr 66)), some (.inl z), some (.inl (T 0 0)), some (.inl t), none] [] hj := by
        intro n
        induction n with
        | zero => intro hj t _ _ _ _ _ _ hm; exact absurd hm (Nat.not_lt_zero _)
        | succ n ih17 =>
          intro hj t ht0 ht9 hGi hst hFi hoi hm17
          generalize hSX : fR (rnt h0 z) (fR (rca h0 1 z) (fR (rca h0 0 z) T 0 (E2 h0 - 0).toNat) 0 (E2 h0 - 0).toNat) 0 (t - 0).toNat = TX at hGi hst hoi
          refine E_s 2 (i' := 19) (ls' := [some (.inr (.inr 66)), some (.inl z), some (.inl (T 0 0)), some (.inl t), none]) (sk' := [.inl (T 0 0), .inl t]) (h' := hj) rfl ?_
          refine E_b (x := (.if_icmp .ge 47, 48, [], [])) rfl rfl (fun c19 => ?_) (fun c19 => ?_)
          · rw [c_ge ⟨by omega, by omega⟩ ⟨by omega, by omega⟩] at c19
            simp only [decide_eq_true_eq, decide_eq_false_iff_not, Decidable.not_not] at c19
            show xEx G0 cdX12_makesTests (some .boolean) (xRn G0 MT (d + 4)) Q b 48 [some (.inr (.inr 66)), some (.inl z), some (.inl (T 0 0)), some (.inl t), none] [] hj
            have hte : t = T 0 0 := by omega
            refine E_s 2 (i' := 50) (ls' := [some (.inr (.inr 66)), some (.inl z), some (.inl (T 0 0)), some (.inl 0), none]) (sk' := []) (h' := hj) rfl ?_
            have key50 : ∀ (n : Nat) (ht : xH) (t : Int) (v4 : Option xV), (0 ≤ t) → (t ≤ T 0 0) → (RGT M0 h0 ht (fR (rta h0 z (T 0 0)) (fR (rnt h0 z) (fR (rca h0 1 z) (fR (rca h0 0 z) T 0 (E2 h0 - 0).toNat) 0 (E2 h0 - 0).toNat) 0 (T 0 0 - 0).toNat) 0 (t - 0).toNat)) → (STB T (fR (rta h0 z (T 0 0)) (fR (rnt h0 z) (fR (rca h0 1 z) (fR (rca h0 0 z) T 0 (E2 h0 - 0).toNat) 0 (E2 h0 - 0).toNat) 0 (T 0 0 - 0).toNat) 0 (t - 0).toNat)) → (FRT h ht) → ((fR (rta h0 z (T 0 0)) (fR (rnt h0 z) (fR (rca h0 1 z) (fR (rca h0 0 z) T 0 (E2 h0 - 0).toNat) 0 (E2 h0 - 0).toNat) 0 (T 0 0 - 0).toNat) 0 (t - 0).toNat) 0 4 = 0) → ((T 0 0 - t).toNat) < n → xEx G0 cdX12_makesTests (some .boolean) (xRn G0 MT (d + 4)) Q b 50 [some (.inr (.inr 66)), some (.inl z), some (.inl (T 0 0)), some (.inl t), v4] [] ht := by
              intro n
              induction n with
              | zero => intro ht t v4 _ _ _ _ _ _ hm; exact absurd hm (Nat.not_lt_zero _)
              | succ n ih50 =>
                intro ht t v4 ht0 ht9 hGi hst hFi hoi hm50
                generalize hSX : fR (rta h0 z (T 0 0)) (fR (rnt h0 z) (fR (rca h0 1 z) (fR (rca h0 0 z) T 0 (E2 h0 - 0).toNat) 0 (E2 h0 - 0).toNat) 0 (T 0 0 - 0).toNat) 0 (t - 0).toNat = TX at hGi hst hoi
                refine E_s 2 (i' := 52) (ls' := [some (.inr (.inr 66)), some (.inl z), some (.inl (T 0 0)), some (.inl t), v4]) (sk' := [.inl (T 0 0), .inl t]) (h' := ht) rfl ?_
                refine E_b (x := (.if_icmp .ge 74, 95, [], [])) rfl rfl (fun c52 => ?_) (fun c52 => ?_)
                · rw [c_ge ⟨by omega, by omega⟩ ⟨by omega, by omega⟩] at c52
                  simp only [decide_eq_true_eq, decide_eq_false_iff_not, Decidable.not_not] at c52
                  show xEx G0 cdX12_makesTests (some .boolean) (xRn G0 MT (d + 4)) Q b 95 [some (.inr (.inr 66)), some (.inl z), some (.inl (T 0 0)), some (.inl t), v4] [] ht
                  refine E_s 1 (i' := 96) (ls' := [some (.inr (.inr 66)), some (.inl z), some (.inl (T 0 0)), some (.inl t), v4]) (sk' := [.inl 1]) (h' := ht) rfl ?_
                  exact E_ret (x := (.ireturn, 0, [], [])) (v := some (.inl 1)) rfl (Or.inr ⟨rfl, Or.inr rfl⟩) (by
                    have e8 : t = T 0 0 := by omega
                    rw [e8] at hSX
                    rw [← hSX] at hGi hoi
                    have h5 := hQ ht hGi hFi
                    unfold mkRT at h5
                    rw [if_pos hoi] at h5
                    exact h5)
                · rw [c_ge ⟨by omega, by omega⟩ ⟨by omega, by omega⟩] at c52
                  simp only [decide_eq_true_eq, decide_eq_false_iff_not, Decidable.not_not] at c52
                  show xEx G0 cdX12_makesTests (some .boolean) (xRn G0 MT (d + 4)) Q b 53 [some (.inr (.inr 66)), some (.inl z), some (.inl (T 0 0)), some (.inl t), v4] [] ht
                  refine E_s 4 (i' := 57) (ls' := [some (.inr (.inr 66)), some (.inl z), some (.inl (T 0 0)), some (.inl t), some (.inl (t + 1))]) (sk' := []) (h' := ht) rfl ?_
                  have key57 : ∀ (n : Nat) (hu : xH) (u : Int), (t + 1 ≤ u) → (u ≤ T 0 0) → (RGT M0 h0 hu (fR (rtb h0 z t) TX (t + 1) (u - (t + 1)).toNat)) → (STB T (fR (rtb h0 z t) TX (t + 1) (u - (t + 1)).toNat)) → (FRT h hu) → ((fR (rtb h0 z t) TX (t + 1) (u - (t + 1)).toNat) 0 4 = 0) → ((T 0 0 - u).toNat) < n → xEx G0 cdX12_makesTests (some .boolean) (xRn G0 MT (d + 4)) Q b 57 [some (.inr (.inr 66)), some (.inl z), some (.inl (T 0 0)), some (.inl t), some (.inl u)] [] hu := by
                    intro n
                    induction n with
                    | zero => intro hu u _ _ _ _ _ _ hm; exact absurd hm (Nat.not_lt_zero _)
                    | succ n ih57 =>
                      intro hu u hu0 hu9 hGu hsu hFu hou hm57
                      generalize hSY : fR (rtb h0 z t) TX (t + 1) (u - (t + 1)).toNat = TY at hGu hsu hou
                      refine E_s 2 (i' := 59) (ls' := [some (.inr (.inr 66)), some (.inl z), some (.inl (T 0 0)), some (.inl t), some (.inl u)]) (sk' := [.inl (T 0 0), .inl u]) (h' := hu) rfl ?_
                      refine E_b (x := (.if_icmp .ge 57, 93, [], [])) rfl rfl (fun c59 => ?_) (fun c59 => ?_)
                      · rw [c_ge ⟨by omega, by omega⟩ ⟨by omega, by omega⟩] at c59
                        simp only [decide_eq_true_eq, decide_eq_false_iff_not, Decidable.not_not] at c59
                        show xEx G0 cdX12_makesTests (some .boolean) (xRn G0 MT (d + 4)) Q b 93 [some (.inr (.inr 66)), some (.inl z), some (.inl (T 0 0)), some (.inl t), some (.inl u)] [] hu
                        have hX : rta h0 z (T 0 0) TX t = TY := by unfold rta; rw [← hSY, show u = T 0 0 by omega]
                        have hGx := hGu
                        rw [← hX] at hGx
                        have hox := hou
                        rw [← hX] at hox
                        refine E_s 2 (i' := 50) (ls' := [some (.inr (.inr 66)), some (.inl z), some (.inl (T 0 0)), some (.inl (t + 1)), some (.inl u)]) (sk' := []) (h' := hu) rfl ?_
                        exact ih50 hu (t + 1) _ (by omega) (by omega) (by rw [fR_n ht0, hSX]; exact hGx) (by rw [fR_n ht0, hSX]; exact STB.tr (fun k z1 z2 => (hG.2.1.2.2.2.2.1 k z1 z2).1) hst (rta_w hB hGi.2.1 hst.1 (by omega)).2.1) hFu (by rw [fR_n ht0, hSX]; exact hox) (by omega)
                      · rw [c_ge ⟨by omega, by omega⟩ ⟨by omega, by omega⟩] at c59
                        simp only [decide_eq_true_eq, decide_eq_false_iff_not, Decidable.not_not] at c59
                        show xEx G0 cdX12_makesTests (some .boolean) (xRn G0 MT (d + 4)) Q b 60 [some (.inr (.inr 66)), some (.inl z), some (.inl (T 0 0)), some (.inl t), some (.inl u)] [] hu
                        have hza : hu 85 t = TY 4 t := (hGu.1.1.2.2.2 t ht0 (by have := hsu.1; omega)).2.2.2.1
                        have hzb : hu 85 u = TY 4 u := (hGu.1.1.2.2.2 u (by omega) (by have := hsu.1; omega)).2.2.2.1
                        have hos : hu 87 t = TY 6 t := (hGu.1.1.2.2.2 t ht0 (by have := hsu.1; omega)).2.2.2.2.1
                        have hos2 : hu 87 u = TY 6 u := (hGu.1.1.2.2.2 u (by omega) (by have := hsu.1; omega)).2.2.2.2.1
                        have hz4 : TY 4 t = T 4 t := (hsu.2 t ht0 (by omega)).2.2.2.1
                        have hz5 : TY 4 u = T 4 u := (hsu.2 u (by omega) (by omega)).2.2.2.1
                        have hs4t := hs4 t ht0 (by omega)
                        have hs4u := hs4 u (by omega) (by omega)
                        refine E_s 3 (i' := 63) (ls' := [some (.inr (.inr 66)), some (.inl z), some (.inl (T 0 0)), some (.inl t), some (.inl u)]) (sk' := [.inl t, .inr (.inr 85)]) (h' := hu) rfl ?_
                        refine E_ld (x := (.iaload, 0, [], [])) (ty := .int) (n := 150) rfl rfl rfl (by omega) (by omega) ?_
                        show xEx G0 cdX12_makesTests (some .boolean) (xRn G0 MT (d + 4)) Q b 64 [some (.inr (.inr 66)), some (.inl z), some (.inl (T 0 0)), some (.inl t), some (.inl u)] [.inl (hu 85 t)] hu
                        refine E_s 3 (i' := 67) (ls' := [some (.inr (.inr 66)), some (.inl z), some (.inl (T 0 0)), some (.inl t), some (.inl u)]) (sk' := [.inl u, .inr (.inr 85), .inl (hu 85 t)]) (h' := hu) rfl ?_
                        refine E_ld (x := (.iaload, 0, [], [])) (ty := .int) (n := 150) rfl rfl rfl (by omega) (by omega) ?_
                        show xEx G0 cdX12_makesTests (some .boolean) (xRn G0 MT (d + 4)) Q b 68 [some (.inr (.inr 66)), some (.inl z), some (.inl (T 0 0)), some (.inl t), some (.inl u)] [.inl (hu 85 u), .inl (hu 85 t)] hu
                        refine E_s 4 (i' := 72) (ls' := [some (.inr (.inr 66)), some (.inl z), some (.inl (T 0 0)), some (.inl t), some (.inl u)]) (sk' := [.inl (z - 1), .inl ((hu 85 t) + (hu 85 u))]) (h' := hu) rfl ?_
                        refine E_b (x := (.if_icmp .ne 31, 91, [], [])) rfl rfl (fun c72 => ?_) (fun c72 => ?_)
                        · rw [c_ne (by first | exact ⟨by omega, by omega⟩ | (rw [hza, hzb, hz4, hz5]; exact ⟨by omega, by omega⟩)) (by first | exact ⟨by omega, by omega⟩ | (rw [hza, hzb, hz4, hz5]; exact ⟨by omega, by omega⟩))] at c72
                          simp only [decide_eq_true_eq, decide_eq_false_iff_not, Decidable.not_not] at c72
                          show xEx G0 cdX12_makesTests (some .boolean) (xRn G0 MT (d + 4)) Q b 91 [some (.inr (.inr 66)), some (.inl z), some (.inl (T 0 0)), some (.inl t), some (.inl u)] [] hu
                          have hX : rtb h0 z t TY u = TY := by unfold rtb; rw [if_neg (by rw [← hza, ← hzb]; exact c72)]
                          have hGy := hGu
                          rw [← hX] at hGy
                          have hFy := hFu
                          have hoy := hou
                          rw [← hX] at hoy
                          refine E_s 2 (i' := 57) (ls' := [some (.inr (.inr 66)), some (.inl z), some (.inl (T 0 0)), some (.inl t), some (.inl (u + 1))]) (sk' := []) (h' := hu) rfl ?_
                          exact ih57 hu (u + 1) (by omega) (by omega) (by rw [fR_n hu0, hSY]; exact hGy) (by rw [fR_n hu0, hSY]; exact STB.tr (fun k z1 z2 => (hG.2.1.2.2.2.2.1 k z1 z2).1) hsu (rtb_w hB hGu.2.1 (by have := hsu.1; omega) (by have := hsu.1; omega)).2.1) hFy (by rw [fR_n hu0, hSY]; exact hoy) (by omega)
                        · rw [c_ne (by first | exact ⟨by omega, by omega⟩ | (rw [hza, hzb, hz4, hz5]; exact ⟨by omega, by omega⟩)) (by first | exact ⟨by omega, by omega⟩ | (rw [hza, hzb, hz4, hz5]; exact ⟨by omega, by omega⟩))] at c72
                          simp only [decide_eq_true_eq, decide_eq_false_iff_not, Decidable.not_not] at c72
                          show xEx G0 cdX12_makesTests (some .boolean) (xRn G0 MT (d + 4)) Q b 73 [some (.inr (.inr 66)), some (.inl z), some (.inl (T 0 0)), some (.inl t), some (.inl u)] [] hu
                          refine E_s 8 (i' := 81) (ls' := [some (.inr (.inr 66)), some (.inl z), some (.inl (T 0 0)), some (.inl t), some (.inl u)]) (sk' := [.inl t, .inr (.inr 87), .inl z, .inl u, .inl t, .inl 3, .inr (.inr 66)]) (h' := hu) rfl ?_
                          refine E_ld (x := (.iaload, 0, [], [])) (ty := .int) (n := 150) rfl rfl rfl (by omega) (by omega) ?_
                          show xEx G0 cdX12_makesTests (some .boolean) (xRn G0 MT (d + 4)) Q b 82 [some (.inr (.inr 66)), some (.inl z), some (.inl (T 0 0)), some (.inl t), some (.inl u)] [.inl (hu 87 t), .inl z, .inl u, .inl t, .inl 3, .inr (.inr 66)] hu
                          refine E_s 3 (i' := 85) (ls' := [some (.inr (.inr 66)), some (.inl z), some (.inl (T 0 0)), some (.inl t), some (.inl u)]) (sk' := [.inl u, .inr (.inr 87), .inl (hu 87 t), .inl z, .inl u, .inl t, .inl 3, .inr (.inr 66)]) (h' := hu) rfl ?_
                          refine E_ld (x := (.iaload, 0, [], [])) (ty := .int) (n := 150) rfl rfl rfl (by omega) (by omega) ?_
                          show xEx G0 cdX12_makesTests (some .boolean) (xRn G0 MT (d + 4)) Q b 86 [some (.inr (.inr 66)), some (.inl z), some (.inl (T 0 0)), some (.inl t), some (.inl u)] [.inl (hu 87 u), .inl (hu 87 t), .inl z, .inl u, .inl t, .inl 3, .inr (.inr 66)] hu
                          refine E_s 1 (i' := 87) (ls' := [some (.inr (.inr 66)), some (.inl z), some (.inl (T 0 0)), some (.inl t), some (.inl u)]) (sk' := [.inl (xand (hu 87 t) (hu 87 u)), .inl z, .inl u, .inl t, .inl 3, .inr (.inr 66)]) (h' := hu) rfl ?_
                          have hX : rtb h0 z t TY u = offT h0 TY 3 t u := by unfold rtb; rw [if_pos (by rw [← hza, ← hzb]; exact c72)]
                          refine E_cp (x := (.invokevirtual 263, 5, [(10, 184)], [0])) (q := fun r h9 => r = (if rtb h0 z t TY u 0 4 = 0 then 1 else 0) ∧ RGT M0 h0 h9 (rtb h0 z t TY u) ∧ FRT h h9) rfl rfl (Nat.le_of_ble_eq_true rfl) (r_keepT (d + 2) 0 M0 h0 hu TY 3 t u u z _ rfl hzz.symm (by unfold oT; rw [if_neg (by decide), if_pos rfl, hos, hos2]) hB hGu hou (Or.inr (Or.inr ⟨rfl, ht0, by have := hsu.1; omega, by omega, by have := hsu.1; omega⟩)) (fun h9 q1 q2 => ⟨_, rfl, by rw [hX], by rw [hX]; exact q1, FRT.tr hFu q2⟩)) (fun r hu2 hq => ?_)
                          obtain ⟨hr, hGn, hFn⟩ := hq
                          show xEx G0 cdX12_makesTests (some .boolean) (xRn G0 MT (d + 4)) Q b 88 [some (.inr (.inr 66)), some (.inl z), some (.inl (T 0 0)), some (.inl t), some (.inl u)] [.inl r] hu2
                          refine E_b (x := (.ifCond .ne 5, 91, [], [])) rfl rfl (fun c88 => ?_) (fun c88 => ?_)
                          · rw [c_ne (by first | exact ⟨by omega, by omega⟩ | (rw [hr]; split <;> exact ⟨by omega, by omega⟩)) (by first | exact ⟨by omega, by omega⟩ | (rw [hr]; split <;> exact ⟨by omega, by omega⟩))] at c88
                            simp only [decide_eq_true_eq, decide_eq_false_iff_not, Decidable.not_not] at c88
                            show xEx G0 cdX12_makesTests (some .boolean) (xRn G0 MT (d + 4)) Q b 91 [some (.inr (.inr 66)), some (.inl z), some (.inl (T 0 0)), some (.inl t), some (.inl u)] [] hu2
                            have hGy := hGn
                            have hFy := hFn
                            have hoy : rtb h0 z t TY u 0 4 = 0 := by
                              by_cases q : rtb h0 z t TY u 0 4 = 0
                              · exact q
                              · rw [hr, if_neg q] at c88; exact absurd rfl c88
                            refine E_s 2 (i' := 57) (ls' := [some (.inr (.inr 66)), some (.inl z), some (.inl (T 0 0)), some (.inl t), some (.inl (u + 1))]) (sk' := []) (h' := hu2) rfl ?_
                            exact ih57 hu2 (u + 1) (by omega) (by omega) (by rw [fR_n hu0, hSY]; exact hGy) (by rw [fR_n hu0, hSY]; exact STB.tr (fun k z1 z2 => (hG.2.1.2.2.2.2.1 k z1 z2).1) hsu (rtb_w hB hGu.2.1 (by have := hsu.1; omega) (by have := hsu.1; omega)).2.1) hFy (by rw [fR_n hu0, hSY]; exact hoy) (by omega)
                          · rw [c_ne (by first | exact ⟨by omega, by omega⟩ | (rw [hr]; split <;> exact ⟨by omega, by omega⟩)) (by first | exact ⟨by omega, by omega⟩ | (rw [hr]; split <;> exact ⟨by omega, by omega⟩))] at c88
                            simp only [decide_eq_true_eq, decide_eq_false_iff_not, Decidable.not_not] at c88
                            show xEx G0 cdX12_makesTests (some .boolean) (xRn G0 MT (d + 4)) Q b 89 [some (.inr (.inr 66)), some (.inl z), some (.inl (T 0 0)), some (.inl t), some (.inl u)] [] hu2
                            refine E_s 1 (i' := 90) (ls' := [some (.inr (.inr 66)), some (.inl z), some (.inl (T 0 0)), some (.inl t), some (.inl u)]) (sk' := [.inl 0]) (h' := hu2) rfl ?_
                            exact E_ret (x := (.ireturn, 0, [], [])) (v := some (.inl 0)) rfl (Or.inr ⟨rfl, Or.inl rfl⟩) (by
                              have hne0 : (fR (rtb h0 z t) TX (t + 1) (u + 1 - (t + 1)).toNat) 0 4 ≠ 0 := by
                                rw [fR_n hu0, hSY]
                                intro q
                                rw [hr, if_pos q] at c88; exact absurd c88 (by decide)
                              have h0e := fR_end (hi := T 0 0) (stp_tb h0 z t) hu0 (by omega) hne0
                              have hXa : rta h0 z (T 0 0) TX t = rtb h0 z t TY u := by unfold rta; rw [h0e, fR_n hu0, hSY]
                              have hne : (fR (rta h0 z (T 0 0)) (fR (rnt h0 z) (fR (rca h0 1 z) (fR (rca h0 0 z) T 0 (E2 h0 - 0).toNat) 0 (E2 h0 - 0).toNat) 0 (T 0 0 - 0).toNat) 0 (t + 1 - 0).toNat) 0 4 ≠ 0 := by
                                rw [fR_n ht0, hSX, hXa]
                                rw [fR_n hu0, hSY] at hne0
                                exact hne0
                              have h1e := fR_end (hi := T 0 0) (stp_rta h0 z (T 0 0)) ht0 (by omega) hne
                              have e : mkRT h0 z T = fR (rta h0 z (T 0 0)) (fR (rnt h0 z) (fR (rca h0 1 z) (fR (rca h0 0 z) T 0 (E2 h0 - 0).toNat) 0 (E2 h0 - 0).toNat) 0 (T 0 0 - 0).toNat) 0 (t + 1 - 0).toNat := by
                                unfold mkRT
                                rw [h1e]
                              have h5 := hQ hu2 (by rw [e]; exact (by rw [fR_n ht0, hSX, hXa]; exact hGn)) hFn
                              rw [e, if_neg hne] at h5
                              exact h5)
                  exact key57 _ ht (t + 1) (by omega) (by omega) (by rw [Int.sub_self]; exact hGi) (by rw [Int.sub_self]; exact hst) hFi (by rw [Int.sub_self]; exact hoi) (Nat.lt_succ_self _)
            exact key50 _ hj 0 none (by omega) (by omega) (by rw [← hSX, hte] at hGi; exact hGi) (by rw [← hSX, hte] at hst; exact hst) hFi (by rw [← hSX, hte] at hoi; exact hoi) (Nat.lt_succ_self _)
          · rw [c_ge ⟨by omega, by omega⟩ ⟨by omega, by omega⟩] at c19
            simp only [decide_eq_true_eq, decide_eq_false_iff_not, Decidable.not_not] at c19
            show xEx G0 cdX12_makesTests (some .boolean) (xRn G0 MT (d + 4)) Q b 20 [some (.inr (.inr 66)), some (.inl z), some (.inl (T 0 0)), some (.inl t), none] [] hj
            have hza : hj 85 t = TX 4 t := (hGi.1.1.2.2.2 t ht0 (by have := hst.1; omega)).2.2.2.1
            have hos : hj 87 t = TX 6 t := (hGi.1.1.2.2.2 t ht0 (by have := hst.1; omega)).2.2.2.2.1
            have hz4 : TX 4 t = T 4 t := (hst.2 t ht0 (by omega)).2.2.2.1
            have hs4t := hs4 t ht0 (by omega)
            refine E_s 3 (i' := 23) (ls' := [some (.inr (.inr 66)), some (.inl z), some (.inl (T 0 0)), some (.inl t), none]) (sk' := [.inl t, .inr (.inr 85)]) (h' := hj) rfl ?_
            refine E_ld (x := (.iaload, 0, [], [])) (ty := .int) (n := 150) rfl rfl rfl (by omega) (by omega) ?_
            show xEx G0 cdX12_makesTests (some .boolean) (xRn G0 MT (d + 4)) Q b 24 [some (.inr (.inr 66)), some (.inl z), some (.inl (T 0 0)), some (.inl t), none] [.inl (hj 85 t)] hj
            refine E_s 3 (i' := 27) (ls' := [some (.inr (.inr 66)), some (.inl z), some (.inl (T 0 0)), some (.inl t), none]) (sk' := [.inl (z - 1), .inl (hj 85 t)]) (h' := hj) rfl ?_
            refine E_b (x := (.if_icmp .ne 29, 46, [], [])) rfl rfl (fun c27 => ?_) (fun c27 => ?_)
            · rw [c_ne (by first | exact ⟨by omega, by omega⟩ | (rw [hza, hz4]; exact ⟨by omega, by omega⟩)) (by first | exact ⟨by omega, by omega⟩ | (rw [hza, hz4]; exact ⟨by omega, by omega⟩))] at c27
              simp only [decide_eq_true_eq, decide_eq_false_iff_not, Decidable.not_not] at c27
              show xEx G0 cdX12_makesTests (some .boolean) (xRn G0 MT (d + 4)) Q b 46 [some (.inr (.inr 66)), some (.inl z), some (.inl (T 0 0)), some (.inl t), none] [] hj
              have hX : rnt h0 z TX t = TX := by unfold rnt; rw [if_neg (by rw [← hza]; exact c27)]
              have hGx := hGi
              rw [← hX] at hGx
              have hFx := hFi
              have hox := hoi
              rw [← hX] at hox
              refine E_s 2 (i' := 17) (ls' := [some (.inr (.inr 66)), some (.inl z), some (.inl (T 0 0)), some (.inl (t + 1)), none]) (sk' := []) (h' := hj) rfl ?_
              exact ih17 hj (t + 1) (by omega) (by omega) (by rw [fR_n ht0, hSX]; exact hGx) (by rw [fR_n ht0, hSX]; exact STB.tr (fun k z1 z2 => (hG.2.1.2.2.2.2.1 k z1 z2).1) hst (rnt_w hB hGi.2.1 (by have := hst.1; omega)).2.1) hFx (by rw [fR_n ht0, hSX]; exact hox) (by omega)
            · rw [c_ne (by first | exact ⟨by omega, by omega⟩ | (rw [hza, hz4]; exact ⟨by omega, by omega⟩)) (by first | exact ⟨by omega, by omega⟩ | (rw [hza, hz4]; exact ⟨by omega, by omega⟩))] at c27
              simp only [decide_eq_true_eq, decide_eq_false_iff_not, Decidable.not_not] at c27
              show xEx G0 cdX12_makesTests (some .boolean) (xRn G0 MT (d + 4)) Q b 28 [some (.inr (.inr 66)), some (.inl z), some (.inl (T 0 0)), some (.inl t), none] [] hj
              refine E_s 6 (i' := 34) (ls' := [some (.inr (.inr 66)), some (.inl z), some (.inl (T 0 0)), some (.inl t), none]) (sk' := [.inr (.inr 66), .inl z, .inl (-1), .inl t, .inl 2, .inr (.inr 66)]) (h' := hj) rfl ?_
              refine E_ci (x := (.invokevirtual 257, 0, [(10, 156)], [0])) (r := (xshl 1 (h0 1 2) - 1)) (h' := hj) rfl rfl (Nat.le_of_ble_eq_true rfl) (m_all (d + 3) 0 hj ⟨by rw [hGi.2.2.1], rfl⟩) ?_
              show xEx G0 cdX12_makesTests (some .boolean) (xRn G0 MT (d + 4)) Q b 35 [some (.inr (.inr 66)), some (.inl z), some (.inl (T 0 0)), some (.inl t), none] [.inl (xshl 1 (h0 1 2) - 1), .inl z, .inl (-1), .inl t, .inl 2, .inr (.inr 66)] hj
              refine E_s 3 (i' := 38) (ls' := [some (.inr (.inr 66)), some (.inl z), some (.inl (T 0 0)), some (.inl t), none]) (sk' := [.inl t, .inr (.inr 87), .inl (xshl 1 (h0 1 2) - 1), .inl z, .inl (-1), .inl t, .inl 2, .inr (.inr 66)]) (h' := hj) rfl ?_
              refine E_ld (x := (.iaload, 0, [], [])) (ty := .int) (n := 150) rfl rfl rfl (by omega) (by omega) ?_
              show xEx G0 cdX12_makesTests (some .boolean) (xRn G0 MT (d + 4)) Q b 39 [some (.inr (.inr 66)), some (.inl z), some (.inl (T 0 0)), some (.inl t), none] [.inl (hj 87 t), .inl (xshl 1 (h0 1 2) - 1), .inl z, .inl (-1), .inl t, .inl 2, .inr (.inr 66)] hj
              refine E_s 3 (i' := 42) (ls' := [some (.inr (.inr 66)), some (.inl z), some (.inl (T 0 0)), some (.inl t), none]) (sk' := [.inl (xand (xshl 1 (h0 1 2) - 1) (xxor (hj 87 t) (-1))), .inl z, .inl (-1), .inl t, .inl 2, .inr (.inr 66)]) (h' := hj) rfl ?_
              have hX : rnt h0 z TX t = offT h0 TX 2 t 0 := by unfold rnt; rw [if_pos (by rw [← hza]; exact c27)]
              refine E_cp (x := (.invokevirtual 263, 5, [(10, 184)], [0])) (q := fun r h9 => r = (if rnt h0 z TX t 0 4 = 0 then 1 else 0) ∧ RGT M0 h0 h9 (rnt h0 z TX t) ∧ FRT h h9) rfl rfl (Nat.le_of_ble_eq_true rfl) (r_keepT (d + 2) 0 M0 h0 hj TX 2 t 0 (-1) z _ rfl hzz.symm (by unfold oT; rw [if_pos rfl, hos]) hB hGi hoi (Or.inr (Or.inl ⟨rfl, ht0, by have := hst.1; omega, rfl⟩)) (fun h9 q1 q2 => ⟨_, rfl, by rw [hX], by rw [hX]; exact q1, FRT.tr hFi q2⟩)) (fun r hj2 hq => ?_)
              obtain ⟨hr, hGn, hFn⟩ := hq
              show xEx G0 cdX12_makesTests (some .boolean) (xRn G0 MT (d + 4)) Q b 43 [some (.inr (.inr 66)), some (.inl z), some (.inl (T 0 0)), some (.inl t), none] [.inl r] hj2
              refine E_b (x := (.ifCond .ne 5, 46, [], [])) rfl rfl (fun c43 => ?_) (fun c43 => ?_)
              · rw [c_ne (by first | exact ⟨by omega, by omega⟩ | (rw [hr]; split <;> exact ⟨by omega, by omega⟩)) (by first | exact ⟨by omega, by omega⟩ | (rw [hr]; split <;> exact ⟨by omega, by omega⟩))] at c43
                simp only [decide_eq_true_eq, decide_eq_false_iff_not, Decidable.not_not] at c43
                show xEx G0 cdX12_makesTests (some .boolean) (xRn G0 MT (d + 4)) Q b 46 [some (.inr (.inr 66)), some (.inl z), some (.inl (T 0 0)), some (.inl t), none] [] hj2
                have hGx := hGn
                have hFx := hFn
                have hox : rnt h0 z TX t 0 4 = 0 := by
                  by_cases q : rnt h0 z TX t 0 4 = 0
                  · exact q
                  · rw [hr, if_neg q] at c43; exact absurd rfl c43
                refine E_s 2 (i' := 17) (ls' := [some (.inr (.inr 66)), some (.inl z), some (.inl (T 0 0)), some (.inl (t + 1)), none]) (sk' := []) (h' := hj2) rfl ?_
                exact ih17 hj2 (t + 1) (by omega) (by omega) (by rw [fR_n ht0, hSX]; exact hGx) (by rw [fR_n ht0, hSX]; exact STB.tr (fun k z1 z2 => (hG.2.1.2.2.2.2.1 k z1 z2).1) hst (rnt_w hB hGi.2.1 (by have := hst.1; omega)).2.1) hFx (by rw [fR_n ht0, hSX]; exact hox) (by omega)
              · rw [c_ne (by first | exact ⟨by omega, by omega⟩ | (rw [hr]; split <;> exact ⟨by omega, by omega⟩)) (by first | exact ⟨by omega, by omega⟩ | (rw [hr]; split <;> exact ⟨by omega, by omega⟩))] at c43
                simp only [decide_eq_true_eq, decide_eq_false_iff_not, Decidable.not_not] at c43
                show xEx G0 cdX12_makesTests (some .boolean) (xRn G0 MT (d + 4)) Q b 44 [some (.inr (.inr 66)), some (.inl z), some (.inl (T 0 0)), some (.inl t), none] [] hj2
                refine E_s 1 (i' := 45) (ls' := [some (.inr (.inr 66)), some (.inl z), some (.inl (T 0 0)), some (.inl t), none]) (sk' := [.inl 0]) (h' := hj2) rfl ?_
                exact E_ret (x := (.ireturn, 0, [], [])) (v := some (.inl 0)) rfl (Or.inr ⟨rfl, Or.inl rfl⟩) (by
                  have hne : (fR (rnt h0 z) (fR (rca h0 1 z) (fR (rca h0 0 z) T 0 (E2 h0 - 0).toNat) 0 (E2 h0 - 0).toNat) 0 (t + 1 - 0).toNat) 0 4 ≠ 0 := by
                    rw [fR_n ht0, hSX]
                    intro q
                    rw [hr, if_pos q] at c43; exact absurd c43 (by decide)
                  have h1e := fR_end (hi := T 0 0) (stp_rnt h0 z) ht0 (by omega) hne
                  have e : mkRT h0 z T = fR (rnt h0 z) (fR (rca h0 1 z) (fR (rca h0 0 z) T 0 (E2 h0 - 0).toNat) 0 (E2 h0 - 0).toNat) 0 (t + 1 - 0).toNat := by
                    unfold mkRT
                    rw [h1e, fR_stop (stp_rta h0 z (T 0 0)) hne]
                  have h5 := hQ hj2 (by rw [e]; exact (by rw [fR_n ht0, hSX]; exact hGn)) hFn
                  rw [e, if_neg hne] at h5
                  exact h5)
      exact key17 _ h2 0 (by omega) (by omega) (by exact hG2) (by exact k2) hF2 (by exact ho2) (Nat.lt_succ_self _)
    · rw [c_ne (by first | exact ⟨by omega, by omega⟩ | (rw [hr2]; split <;> exact ⟨by omega, by omega⟩)) (by first | exact ⟨by omega, by omega⟩ | (rw [hr2]; split <;> exact ⟨by omega, by omega⟩))] at c12
      simp only [decide_eq_true_eq, decide_eq_false_iff_not, Decidable.not_not] at c12
      show xEx G0 cdX12_makesTests (some .boolean) (xRn G0 MT (d + 4)) Q b 13 [some (.inr (.inr 66)), some (.inl z), some (.inl (T 0 0)), none, none] [] h2
      refine E_s 1 (i' := 14) (ls' := [some (.inr (.inr 66)), some (.inl z), some (.inl (T 0 0)), none, none]) (sk' := [.inl 0]) (h' := h2) rfl ?_
      exact E_ret (x := (.ireturn, 0, [], [])) (v := some (.inl 0)) rfl (Or.inr ⟨rfl, Or.inl rfl⟩) (by
        have hne : (fR (rca h0 1 z) (fR (rca h0 0 z) T 0 (E2 h0 - 0).toNat) 0 (E2 h0 - 0).toNat) 0 4 ≠ 0 := by
          intro q
          rw [hr2, if_pos q] at c12; exact absurd c12 (by decide)
        have e : mkRT h0 z T = (fR (rca h0 1 z) (fR (rca h0 0 z) T 0 (E2 h0 - 0).toNat) 0 (E2 h0 - 0).toNat) := by
          unfold mkRT
          rw [fR_stop (stp_rnt h0 z) hne, fR_stop (stp_rta h0 z (T 0 0)) hne]
        have h5 := hQ h2 (by rw [e]; exact hG2) hF2
        rw [e, if_neg hne] at h5
        exact h5)
