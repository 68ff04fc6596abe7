theorem ETZ_i {h0 T : xH} (h : ETZ h0 T) {s k : Int} (hs : 1 ≤ T 4 k ∧ T 4 k ≤ 7) (h1 : 0 ≤ k) (h2 : k < T 0 0) (e : T 4 k = s) : tbg h0 s ≤ k ∧ k < ten h0 s := by
  obtain ⟨a, b, c⟩ := h
  unfold tbg ten
  rw [if_pos (by omega), if_pos (by omega)]
  have c1 := c s k (by omega) (by omega) h1 h2
  have c2 := c (s - 1) k (by omega) (by omega) h1 h2
  constructor
  · rcases Int.lt_or_le k (h0 42 (s - 1)) with q | q
    · have := c2.mp q; omega
    · exact q
  · exact c1.mpr (by omega)
section MKTEQ
variable {h0 S T : xH} {z : Int}
theorem rca_eq {T' : xH} {kd a s : Int} (hB : BT h0) (hK : h0 9 9 = S 0 0) (hsz : ∀ k, 0 ≤ k → k < S 0 0 → h0 18 k = S 4 k) (hE : ENZ h0 S) (hs4 : ∀ k, 0 ≤ k → k < S 0 0 → 1 ≤ S 4 k ∧ S 4 k ≤ 9) (hW7 : ∀ k, 0 ≤ k → k < T 0 0 → 0 ≤ T 7 k) (hk : 0 ≤ kd ∧ kd ≤ 1) (hW : WT (h0 1 2) T') (hT : STB T T') (ha : 0 ≤ a ∧ a < E2 h0) (hs : S 4 a = s) : rca h0 kd z T' a = xca h0 kd s z T' a := by
  have hK0 : 0 ≤ S 0 0 := by rw [← hK]; exact hB.2.1.1
  have hE2 : 0 ≤ E2 h0 ∧ E2 h0 ≤ S 0 0 := hE.2.1 2 (by omega) (by omega)
  have hE2i : ∀ k, 0 ≤ k → k < S 0 0 → (k < E2 h0 ↔ S 4 k ≤ 2) := fun k q1 q2 => hE.2.2 2 k (by omega) (by omega) q1 q2
  have hbe := xbe (ENZ_s hE) hK0 (z - 1 - s)
  have hl : 0 ≤ rcl kd a := by unfold rcl; split <;> omega
  have hxf : xbg h0 (z - 1 - s) ≤ xft h0 kd a (z - 1 - s) ∧ rcl kd a ≤ xft h0 kd a (z - 1 - s) ∧ ∀ i, rcl kd a ≤ i → xbg h0 (z - 1 - s) ≤ i → xft h0 kd a (z - 1 - s) ≤ i := by
    unfold xft rcl
    by_cases q : kd = 0
    · rw [if_pos q, if_neg (by omega)]
      exact ⟨by omega, by omega, fun i z1 z2 => z2⟩
    · rw [if_neg q]
      by_cases q2 : xbg h0 (z - 1 - s) ≤ a
      · rw [if_pos ⟨by omega, q2⟩]
        exact ⟨by omega, by omega, fun i z1 z2 => z1⟩
      · rw [if_neg (fun q3 => q2 q3.2)]
        exact ⟨by omega, by omega, fun i z1 z2 => z2⟩
  have hxb : xbh h0 (z - 1 - s) ≤ E2 h0 ∧ ∀ i, xbg h0 (z - 1 - s) ≤ i → i < xbh h0 (z - 1 - s) → 0 ≤ i ∧ i < S 0 0 ∧ S 4 i = z - 1 - s := by
    unfold xbh
    by_cases q : z - 1 - s ≤ 2
    · rw [if_pos q]
      constructor
      · rcases Int.lt_or_le (E2 h0) (xen h0 (z - 1 - s)) with q2 | q2
        · have q3 : xbg h0 (z - 1 - s) ≤ E2 h0 ∨ E2 h0 < xbg h0 (z - 1 - s) := by omega
          unfold xen at q2
          by_cases q4 : 1 ≤ z - 1 - s ∧ z - 1 - s < 10
          · rw [if_pos q4] at q2
            have q5 := hE.2.1 (z - 1 - s) (by omega) (by omega)
            have q6 := (hE.2.2 (z - 1 - s) (E2 h0) (by omega) (by omega) hE2.1 (by omega)).mp q2
            have q7 := (hE2i (E2 h0) hE2.1 (by omega)).mpr (by omega)
            omega
          · rw [if_neg q4] at q2; omega
        · exact q2
      · intro i q2 q3
        obtain ⟨t1, t2, t3, t4, t5⟩ := ENZ_k hE q2 q3
        exact ⟨t3, t4, t5⟩
    · rw [if_neg q]
      exact ⟨hE2.1, fun i q2 q3 => by omega⟩
  unfold rca xca
  rw [fR_seg (P := fun T2 => WT (h0 1 2) T2 ∧ STB T T2) (x := xft h0 kd a (z - 1 - s)) (y := xbh h0 (z - 1 - s)) ⟨hW, hT⟩ hxf.2.1 hxb.1 ?_ ?_]
  · refine (fR_eq (P := fun T2 => WT (h0 1 2) T2 ∧ STB T T2) _ _ _ ⟨hW, hT⟩ (fun T2 i q1 q2 q3 => ?_)).1
    obtain ⟨t3, t4, t5⟩ := hxb.2 i (by omega) (by omega)
    have hg : rcb h0 kd z a T2 i = offT h0 T2 kd a i := by
      unfold rcb
      rw [if_pos]
      rw [hsz a ha.1 (by omega), hsz i t3 t4]
      omega
    have hw := WT_off hB q3.1 (c1 := kd) (c2 := a) (c3 := i) (Or.inl ⟨hk.1, hk.2, ha.1, by omega, t3, by omega⟩)
    exact ⟨hg, hw.1, STB.tr hW7 q3.2 hw.2.1⟩
  · intro T2 i q3 q1 q2 q4
    unfold rcb
    rw [if_neg]
    rw [hsz a ha.1 (by omega), hsz i (by omega) (by omega)]
    intro q5
    obtain ⟨u1, u2⟩ := ENZ_i hE (hs4 i (by omega) (by omega)) (by omega) (by omega) (show S 4 i = z - 1 - s by omega)
    refine q4 ⟨hxf.2.2 i q1 u1, ?_⟩
    unfold xbh
    have := (hE2i i (by omega) (by omega)).mp q2
    rw [if_pos (by omega)]
    exact u2
  · intro T2 i q3 q1 q2
    obtain ⟨t3, t4, t5⟩ := hxb.2 i (by omega) (by omega)
    have := rcb_w (z := z) hB q3.1 hk (a := a) (b := i) ⟨ha.1, by omega⟩ ⟨t3, by omega⟩
    exact ⟨this.1, STB.tr hW7 q3.2 this.2.1⟩
theorem xcs_eq {T' : xH} {kd : Int} (hB : BT h0) (hK : h0 9 9 = S 0 0) (hsz : ∀ k, 0 ≤ k → k < S 0 0 → h0 18 k = S 4 k) (hE : ENZ h0 S) (hs4 : ∀ k, 0 ≤ k → k < S 0 0 → 1 ≤ S 4 k ∧ S 4 k ≤ 9) (hW7 : ∀ k, 0 ≤ k → k < T 0 0 → 0 ≤ T 7 k) (hk : 0 ≤ kd ∧ kd ≤ 1) (hW : WT (h0 1 2) T') (hT : STB T T') : ∀ m : Nat, m ≤ 2 → fR (xcs h0 kd z) T' 1 m = fR (rca h0 kd z) T' 0 (h0 23 m).toNat
  | 0, _ => by
    have : h0 23 ((0 : Nat) : Int) = 0 := hE.1
    rw [this]
    rfl
  | m + 1, hm => by
    have ih := xcs_eq hB hK hsz hE hs4 hW7 hk hW hT m (by omega)
    have b1 := hE.2.1 m (by omega) (by omega)
    have b2 := hE.2.1 (m + 1) (by omega) (by omega)
    have b3 := ENZ_s hE (m + 1) (by omega) (by omega)
    have b4 := ENZ_s hE 2 (by omega) (by omega)
    have b5 : h0 23 (m + 1) ≤ E2 h0 := by
      unfold E2
      rcases Nat.lt_or_ge m 1 with q | q
      · have : m = 0 := by omega
        subst this
        exact b4.2.1
      · have : m = 1 := by omega
        subst this
        exact Int.le_refl _
    have h2K : E2 h0 ≤ h0 9 9 := by rw [hK]; exact (hE.2.1 2 (by omega) (by omega)).2
    rw [show (m : Int) + 1 - 1 = m by omega] at b3
    rw [fR_s, ih]
    have e1 : (h0 23 ((m + 1 : Nat) : Int)).toNat = (h0 23 m).toNat + (h0 23 (m + 1) - h0 23 m).toNat := by
      rw [show ((m + 1 : Nat) : Int) = (m : Int) + 1 by omega]
      omega
    rw [e1, fR_add]
    have hP : WT (h0 1 2) (fR (rca h0 kd z) T' 0 (h0 23 m).toNat) ∧ STB T (fR (rca h0 kd z) T' 0 (h0 23 m).toNat) := by
      refine fR_P (P := fun T2 => WT (h0 1 2) T2 ∧ STB T T2) ⟨hW, hT⟩ _ (fun T2 i q1 q2 q3 => ?_)
      have := rca_w (z := z) (kd := kd) (a := i) hB q3.1 hk ⟨q1, by omega⟩ h2K
      exact ⟨this.1, STB.tr hW7 q3.2 this.2.1⟩
    generalize fR (rca h0 kd z) T' 0 (h0 23 m).toNat = T2 at hP
    unfold xcs
    have x1 : xbg h0 (1 + (m : Int)) = h0 23 m := by
      unfold xbg
      rw [if_pos (by omega), show 1 + (m : Int) - 1 = m by omega]
    have x2 : xen h0 (1 + (m : Int)) = h0 23 (m + 1) := by
      unfold xen
      rw [if_pos (by omega), show 1 + (m : Int) = m + 1 by omega]
    rw [x1, x2, show (0 : Int) + ((h0 23 m).toNat : Int) = h0 23 m by omega]
    refine (fR_eq (P := fun T2 => WT (h0 1 2) T2 ∧ STB T T2) _ _ _ hP (fun T3 i q1 q2 q3 => ?_)).1
    obtain ⟨t1, t2, t3, t4, t5⟩ := ENZ_k hE (s := 1 + (m : Int)) (k := i) (by omega) (by omega)
    have hr := rca_eq (z := z) (T := T) hB hK hsz hE hs4 hW7 hk q3.1 q3.2 ⟨t3, by omega⟩ t5
    refine ⟨hr.symm, ?_⟩
    have := rca_w (z := z) (kd := kd) (a := i) hB q3.1 hk ⟨t3, by omega⟩ h2K
    exact ⟨this.1, STB.tr hW7 q3.2 this.2.1⟩
theorem rta_eq {T' : xH} {t s : Int} (hB : BT h0) (hE : ETZ h0 T) (hs4 : ∀ k, 0 ≤ k → k < T 0 0 → 3 ≤ T 4 k ∧ T 4 k ≤ 7) (hW7 : ∀ k, 0 ≤ k → k < T 0 0 → 0 ≤ T 7 k) (hW : WT (h0 1 2) T') (hT : STB T T') (ha : 0 ≤ t ∧ t < T 0 0) (hs : T 4 t = s) : rta h0 z (T 0 0) T' t = xaa h0 s z T' t := by
  have e4 : ∀ (T2 : xH), STB T T2 → ∀ k, 0 ≤ k → k < T 0 0 → T2 4 k = T 4 k := fun T2 q k q1 q2 => (q.2 k q1 q2).2.2.2.1
  have hbe := tbe (ETZ_s hE) (by omega) (z - 1 - s)
  have hxf : tbg h0 (z - 1 - s) ≤ tfr h0 t (z - 1 - s) ∧ t + 1 ≤ tfr h0 t (z - 1 - s) ∧ ∀ i, t + 1 ≤ i → tbg h0 (z - 1 - s) ≤ i → tfr h0 t (z - 1 - s) ≤ i := by
    unfold tfr
    by_cases q2 : tbg h0 (z - 1 - s) ≤ t
    · rw [if_pos q2]
      exact ⟨by omega, by omega, fun i z1 z2 => z1⟩
    · rw [if_neg q2]
      exact ⟨by omega, by omega, fun i z1 z2 => z2⟩
  unfold rta xaa
  rw [fR_seg (P := fun T2 => WT (h0 1 2) T2 ∧ STB T T2) (x := tfr h0 t (z - 1 - s)) (y := ten h0 (z - 1 - s)) ⟨hW, hT⟩ hxf.2.1 (by omega) ?_ ?_]
  · refine (fR_eq (P := fun T2 => WT (h0 1 2) T2 ∧ STB T T2) _ _ _ ⟨hW, hT⟩ (fun T2 i q1 q2 q3 => ?_)).1
    obtain ⟨t1, t2, t3, t4, t5⟩ := ETZ_k hE (s := z - 1 - s) (k := i) (by omega) (by omega)
    have hg : rtb h0 z t T2 i = offT h0 T2 3 t i := by
      unfold rtb
      rw [if_pos]
      rw [e4 T2 q3.2 t ha.1 ha.2, e4 T2 q3.2 i t3 t4]
      omega
    have hle := q3.2.1
    have hw := WT_off hB q3.1 (c1 := 3) (c2 := t) (c3 := i) (Or.inr (Or.inr ⟨rfl, ha.1, by omega, t3, by omega⟩))
    exact ⟨hg, hw.1, STB.tr hW7 q3.2 hw.2.1⟩
  · intro T2 i q3 q1 q2 q4
    unfold rtb
    rw [if_neg]
    rw [e4 T2 q3.2 t ha.1 ha.2, e4 T2 q3.2 i (by omega) q2]
    intro q5
    have h5 := hs4 i (by omega) q2
    obtain ⟨u1, u2⟩ := ETZ_i hE ⟨by omega, by omega⟩ (by omega) q2 (show T 4 i = z - 1 - s by omega)
    exact q4 ⟨hxf.2.2 i q1 u1, u2⟩
  · intro T2 i q3 q1 q2
    obtain ⟨t1, t2, t3, t4, t5⟩ := ETZ_k hE (s := z - 1 - s) (k := i) (by omega) (by omega)
    have hle := q3.2.1
    have := rtb_w (z := z) hB q3.1 (t := t) (u := i) ⟨ha.1, by omega⟩ ⟨t3, by omega⟩
    exact ⟨this.1, STB.tr hW7 q3.2 this.2.1⟩
theorem xas_eq {T' : xH} (hB : BT h0) (hE : ETZ h0 T) (hs4 : ∀ k, 0 ≤ k → k < T 0 0 → 3 ≤ T 4 k ∧ T 4 k ≤ 7) (hW7 : ∀ k, 0 ≤ k → k < T 0 0 → 0 ≤ T 7 k) (hT0 : 0 ≤ T 0 0) (hW : WT (h0 1 2) T') (hT : STB T T') : ∀ m : Nat, m ≤ 5 → fR (xas h0 z) T' 3 m = fR (rta h0 z (T 0 0)) T' 0 (h0 42 (m + 2)).toNat
  | 0, _ => by
    have b := hE.2.1 2 (by omega) (by omega)
    have : h0 42 ((0 : Nat) + 2) = 0 := by
      rw [show (((0 : Nat) : Int) + 2) = 2 by omega]
      rcases Int.lt_or_le 0 (h0 42 2) with q | q
      · have := (hE.2.2 2 0 (by omega) (by omega) (by omega) (by omega)).mp q
        have := (hs4 0 (by omega) (by omega)).1
        omega
      · omega
    rw [this]
    rfl
  | m + 1, hm => by
    have ih := xas_eq hB hE hs4 hW7 hT0 hW hT m (by omega)
    have b1 := hE.2.1 (m + 2) (by omega) (by omega)
    have b2 := hE.2.1 (m + 3) (by omega) (by omega)
    have b3 := ETZ_s hE (m + 3) (by omega) (by omega)
    rw [show (m : Int) + 3 - 1 = m + 2 by omega] at b3
    rw [fR_s, ih]
    have e1 : (h0 42 (((m + 1 : Nat) : Int) + 2)).toNat = (h0 42 (m + 2)).toNat + (h0 42 (m + 3) - h0 42 (m + 2)).toNat := by
      rw [show ((m + 1 : Nat) : Int) + 2 = (m : Int) + 3 by omega]
      omega
    rw [e1, fR_add]
    have hP : WT (h0 1 2) (fR (rta h0 z (T 0 0)) T' 0 (h0 42 (m + 2)).toNat) ∧ STB T (fR (rta h0 z (T 0 0)) T' 0 (h0 42 (m + 2)).toNat) := by
      refine fR_P (P := fun T2 => WT (h0 1 2) T2 ∧ STB T T2) ⟨hW, hT⟩ _ (fun T2 i q1 q2 q3 => ?_)
      have := rta_w (z := z) (had := T 0 0) (t := i) hB q3.1 q3.2.1 ⟨q1, by omega⟩
      exact ⟨this.1, STB.tr hW7 q3.2 this.2.1⟩
    generalize fR (rta h0 z (T 0 0)) T' 0 (h0 42 (m + 2)).toNat = T2 at hP
    unfold xas
    have x1 : tbg h0 (3 + (m : Int)) = h0 42 (m + 2) := by
      unfold tbg
      rw [if_pos (by omega), show 3 + (m : Int) - 1 = m + 2 by omega]
    have x2 : ten h0 (3 + (m : Int)) = h0 42 (m + 3) := by
      unfold ten
      rw [if_pos (by omega), show 3 + (m : Int) = m + 3 by omega]
    rw [x1, x2, show (0 : Int) + ((h0 42 (m + 2)).toNat : Int) = h0 42 (m + 2) by omega]
    refine (fR_eq (P := fun T2 => WT (h0 1 2) T2 ∧ STB T T2) _ _ _ hP (fun T3 i q1 q2 q3 => ?_)).1
    obtain ⟨t1, t2, t3, t4, t5⟩ := ETZ_k hE (s := 3 + (m : Int)) (k := i) (by omega) (by omega)
    have hr := rta_eq (z := z) hB hE hs4 hW7 q3.1 q3.2 ⟨t3, t4⟩ t5
    refine ⟨hr.symm, ?_⟩
    have := rta_w (z := z) (had := T 0 0) (t := i) hB q3.1 q3.2.1 ⟨t3, t4⟩
    exact ⟨this.1, STB.tr hW7 q3.2 this.2.1⟩
theorem mkT_eq (hB : BT h0) (hK : h0 9 9 = S 0 0) (hsz : ∀ k, 0 ≤ k → k < S 0 0 → h0 18 k = S 4 k) (hE : ENZ h0 S) (hS4 : ∀ k, 0 ≤ k → k < S 0 0 → 1 ≤ S 4 k ∧ S 4 k ≤ 9) (hET : ETZ h0 T) (hs4 : ∀ k, 0 ≤ k → k < T 0 0 → 3 ≤ T 4 k ∧ T 4 k ≤ 7) (hz : 3 ≤ z ∧ z ≤ 7) (hW : WT (h0 1 2) T) : mkRT h0 z T = mkT h0 z T := by
  have hW7 : ∀ k, 0 ≤ k → k < T 0 0 → 0 ≤ T 7 k := fun k q1 q2 => (hW.2.2.2.2.1 k q1 q2).1
  have h2K : E2 h0 ≤ h0 9 9 := by rw [hK]; exact (hE.2.1 2 (by omega) (by omega)).2
  have e4 : ∀ (T2 : xH), STB T T2 → ∀ k, 0 ≤ k → k < T 0 0 → T2 4 k = T 4 k := fun T2 q k q1 q2 => (q.2 k q1 q2).2.2.2.1
  have hc : ∀ kd, 0 ≤ kd → kd ≤ 1 → ∀ T', WT (h0 1 2) T' → STB T T' → fR (rca h0 kd z) T' 0 (E2 h0 - 0).toNat = fR (xcs h0 kd z) T' 1 (2 + 1 - 1 : Int).toNat ∧ WT (h0 1 2) (fR (rca h0 kd z) T' 0 (E2 h0 - 0).toNat) ∧ STB T (fR (rca h0 kd z) T' 0 (E2 h0 - 0).toNat) := by
    intro kd k0 k1 T' q1 q2
    have h1 := xcs_eq (z := z) (T := T) hB hK hsz hE hS4 hW7 ⟨k0, k1⟩ q1 q2 2 (by omega)
    refine ⟨?_, ?_⟩
    · rw [Int.sub_zero]
      exact h1.symm
    · refine fR_P (P := fun T2 => WT (h0 1 2) T2 ∧ STB T T2) ⟨q1, q2⟩ _ (fun T2 i r1 r2 r3 => ?_)
      have := rca_w (z := z) (kd := kd) (a := i) hB r3.1 ⟨k0, k1⟩ ⟨r1, by omega⟩ h2K
      exact ⟨this.1, STB.tr hW7 r3.2 this.2.1⟩
  obtain ⟨c1, c2, c3⟩ := hc 0 (by omega) (by omega) T hW (STB.rf T)
  obtain ⟨d1, d2, d3⟩ := hc 1 (by omega) (by omega) _ c2 c3
  unfold mkRT mkT
  rw [d1, c1] at *
  generalize fR (xcs h0 1 z) (fR (xcs h0 0 z) T 1 (2 + 1 - 1 : Int).toNat) 1 (2 + 1 - 1 : Int).toNat = T1 at *
  have hn : fR (rnt h0 z) T1 0 (T 0 0 - 0).toNat = xnt h0 z T1 ∧ WT (h0 1 2) (fR (rnt h0 z) T1 0 (T 0 0 - 0).toNat) ∧ STB T (fR (rnt h0 z) T1 0 (T 0 0 - 0).toNat) := by
    have hbe := tbe (ETZ_s hET) hW.1 (z - 1)
    refine ⟨?_, ?_⟩
    · unfold xnt
      rw [fR_seg (P := fun T2 => WT (h0 1 2) T2 ∧ STB T T2) (x := tbg h0 (z - 1)) (y := ten h0 (z - 1)) ⟨d2, d3⟩ hbe.1 hbe.2.2 ?_ ?_]
      · refine (fR_eq (P := fun T2 => WT (h0 1 2) T2 ∧ STB T T2) _ _ _ ⟨d2, d3⟩ (fun T2 i q1 q2 q3 => ?_)).1
        obtain ⟨t1, t2, t3, t4, t5⟩ := ETZ_k hET (s := z - 1) (k := i) (by omega) (by omega)
        have hg : rnt h0 z T2 i = offT h0 T2 2 i 0 := by
          unfold rnt
          rw [if_pos (by rw [e4 T2 q3.2 i t3 t4]; exact t5)]
        have hle := q3.2.1
        have hw := WT_off hB q3.1 (c1 := 2) (c2 := i) (c3 := 0) (Or.inr (Or.inl ⟨rfl, t3, by omega, rfl⟩))
        exact ⟨hg, hw.1, STB.tr hW7 q3.2 hw.2.1⟩
      · intro T2 i q3 q1 q2 q4
        unfold rnt
        rw [if_neg]
        rw [e4 T2 q3.2 i q1 q2]
        intro q5
        have h5 := hs4 i q1 q2
        exact q4 (ETZ_i hET ⟨by omega, by omega⟩ q1 q2 q5)
      · intro T2 i q3 q1 q2
        have hle := q3.2.1
        have := rnt_w (z := z) (t := i) hB q3.1 ⟨by omega, by omega⟩
        exact ⟨this.1, STB.tr hW7 q3.2 this.2.1⟩
    · refine fR_P (P := fun T2 => WT (h0 1 2) T2 ∧ STB T T2) ⟨d2, d3⟩ _ (fun T2 i r1 r2 r3 => ?_)
      have hle := r3.2.1
      have := rnt_w (z := z) (t := i) hB r3.1 ⟨r1, by omega⟩
      exact ⟨this.1, STB.tr hW7 r3.2 this.2.1⟩
  obtain ⟨n1, n2, n3⟩ := hn
  rw [n1] at *
  generalize xnt h0 z T1 = T3 at *
  have ha := xas_eq (z := z) hB hET hs4 hW7 hW.1 n2 n3 (z - 1 - 3).toNat (by omega)
  have b1 := hET.2.1 (((z - 1 - 3).toNat : Int) + 2) (by omega) (by omega)
  rw [ha]
  have h9 := fR_seg (g := rta h0 z (T 0 0)) (P := fun T2 => WT (h0 1 2) T2 ∧ STB T T2) (S := T3) (lo := 0) (hi := T 0 0) (x := 0) (y := h0 42 (((z - 1 - 3).toNat : Int) + 2)) ⟨n2, n3⟩ (Int.le_refl _) b1.2 ?_ ?_
  · rw [h9, Int.sub_zero]
  · intro T2 i q3 q1 q2 q4
    have h5 := rta_eq (z := z) hB hET hs4 hW7 q3.1 q3.2 ⟨q1, q2⟩ rfl
    rw [h5]
    have hi4 : ¬ T 4 i ≤ ((z - 1 - 3).toNat : Int) + 2 := fun q5 => q4 ⟨q1, (hET.2.2 _ i (by omega) (by omega) q1 q2).mpr q5⟩
    have h10 := hs4 i q1 q2
    unfold xaa
    have h6 : ten h0 (z - 1 - T 4 i) ≤ 0 := by
      unfold ten
      by_cases q : 1 ≤ z - 1 - T 4 i ∧ z - 1 - T 4 i < 8
      · omega
      · rw [if_neg q]; exact Int.le_refl _
    have h7 : 0 ≤ tfr h0 i (z - 1 - T 4 i) := by
      have := tbe (ETZ_s hET) hW.1 (z - 1 - T 4 i)
      unfold tfr
      split <;> omega
    rw [show (ten h0 (z - 1 - T 4 i) - tfr h0 i (z - 1 - T 4 i)).toNat = 0 by omega]
    rfl
  · intro T2 i q3 q1 q2
    have := rta_w (z := z) (had := T 0 0) (t := i) hB q3.1 q3.2.1 ⟨by omega, by omega⟩
    exact ⟨this.1, STB.tr hW7 q3.2 this.2.1⟩
end MKTEQ
