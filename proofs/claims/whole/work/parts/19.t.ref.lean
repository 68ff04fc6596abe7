/-! both enumerate alike -/
theorem fR_eq {g g' : xH → Int → xH} {P : xH → Prop} : ∀ (m : Nat) (S : xH) (lo : Int), P S → (∀ S' i, lo ≤ i → i < lo + m → P S' → g S' i = g' S' i ∧ P (g' S' i)) → fR g S lo m = fR g' S lo m ∧ P (fR g' S lo m)
  | 0, _, _, hP, _ => ⟨rfl, hP⟩
  | m + 1, S, lo, hP, h => by
    obtain ⟨e, p⟩ := h S lo (Int.le_refl _) (by omega) hP
    show fR g (g S lo) (lo + 1) m = fR g' (g' S lo) (lo + 1) m ∧ P (fR g' (g' S lo) (lo + 1) m)
    rw [e]
    exact fR_eq m _ _ p (fun S' i q1 q2 => h S' i (by omega) (by omega))
theorem fR_seg {g : xH → Int → xH} {P : xH → Prop} {S : xH} {lo hi x y : Int} (hP : P S) (h1 : lo ≤ x) (h2 : y ≤ hi) (hid : ∀ S' i, P S' → lo ≤ i → i < hi → ¬ (x ≤ i ∧ i < y) → g S' i = S') (hp : ∀ S' i, P S' → x ≤ i → i < y → P (g S' i)) : fR g S lo (hi - lo).toNat = fR g S x (y - x).toNat := by
  by_cases hxy : x ≤ y
  · have e1 : (hi - lo).toNat = (x - lo).toNat + ((y - x).toNat + (hi - y).toNat) := by omega
    have e2 : lo + ((x - lo).toNat : Int) = x := by omega
    have e3 : x + ((y - x).toNat : Int) = y := by omega
    rw [e1, fR_add, fR_id (g := g) (S := S) (x - lo).toNat lo (fun i q1 q2 => hid S i hP q1 (by omega) (by omega)), e2, fR_add, e3]
    have hP2 : P (fR g S x (y - x).toNat) := fR_P hP _ (fun S' i q1 q2 q3 => hp S' i q3 q1 (by omega))
    exact fR_id _ _ (fun i q1 q2 => hid _ i hP2 (by omega) (by omega) (by omega))
  · have e1 : (y - x).toNat = 0 := by omega
    rw [e1]
    exact fR_id _ _ (fun i q1 q2 => hid S i hP q1 (by omega) (by omega))
theorem ENZ_i {h0 S : xH} (h : ENZ h0 S) {s k : Int} (hs : 1 ≤ S 4 k ∧ S 4 k ≤ 9) (h1 : 0 ≤ k) (h2 : k < S 0 0) (e : S 4 k = s) : xbg h0 s ≤ k ∧ k < xen h0 s := by
  obtain ⟨a, b, c⟩ := h
  unfold xbg xen
  rw [if_pos (by omega), if_pos (by omega)]
  have c1 := c s k (by omega) (by omega) h1 h2
  have c2 := c (s - 1) k (by omega) (by omega) h1 h2
  constructor
  · rcases Int.lt_or_le k (h0 23 (s - 1)) with q | q
    · have := c2.mp q; omega
    · exact q
  · exact c1.mpr (by omega)
section MKEQ
variable {h0 S : xH} {z : Int}
theorem rga_eq {S' : xH} {p a s : Int} (hB : B0 h0) (hE : ENZ h0 S) (hs4 : ∀ k, 0 ≤ k → k < S 0 0 → 1 ≤ S 4 k ∧ S 4 k ≤ 9) (hW7 : ∀ k, 0 ≤ k → k < S 0 0 → 0 ≤ S 7 k) (hp : 0 ≤ p ∧ p ≤ 9) (hone : ¬ (p = 5 ∨ p = 8 ∨ p = 9)) (hW : WE (h0 1 2) S') (hS : STB S S') (ha : 0 ≤ a ∧ a < S 0 0) (hs : S 4 a = s) : rga h0 p z (S 0 0) S' a = xga h0 p s z S' a := by
  have e4 : ∀ (S2 : xH), STB S S2 → ∀ k, 0 ≤ k → k < S 0 0 → S2 4 k = S 4 k := fun S2 q k q1 q2 => (q.2 k q1 q2).2.2.2.1
  have hbe := xbe (ENZ_s hE) (by omega) (z - 1 - s)
  have hl : 0 ≤ rlo p a := by unfold rlo; split <;> omega
  have hxf : xbg h0 (z - 1 - s) ≤ xfr h0 p a (z - 1 - s) ∧ rlo p a ≤ xfr h0 p a (z - 1 - s) ∧ ∀ i, rlo p a ≤ i → xbg h0 (z - 1 - s) ≤ i → xfr h0 p a (z - 1 - s) ≤ i := by
    unfold xfr rlo
    by_cases q : p = 0 ∨ p = 2 ∨ p = 3 ∨ p = 4
    · rw [if_pos q]
      by_cases q2 : xbg h0 (z - 1 - s) < a
      · rw [if_pos ⟨q, q2⟩]
        exact ⟨by omega, by omega, fun i z1 z2 => z1⟩
      · rw [if_neg (fun q3 => q2 q3.2)]
        exact ⟨by omega, by omega, fun i z1 z2 => z2⟩
    · rw [if_neg q, if_neg (fun q3 => q q3.1)]
      exact ⟨by omega, by omega, fun i z1 z2 => z2⟩
  unfold rga xga
  rw [if_neg hone]
  rw [fR_seg (P := fun S2 => WE (h0 1 2) S2 ∧ STB S S2) (x := xfr h0 p a (z - 1 - s)) (y := xen h0 (z - 1 - s)) ⟨hW, hS⟩ hxf.2.1 (by omega) ?_ ?_]
  · refine (fR_eq (P := fun S2 => WE (h0 1 2) S2 ∧ STB S S2) _ _ _ ⟨hW, hS⟩ (fun S2 i q1 q2 q3 => ?_)).1
    obtain ⟨t1, t2, t3, t4, t5⟩ := ENZ_k hE (s := z - 1 - s) (k := i) (by omega) (by omega)
    have hg : rgb h0 p z a S2 i = offP h0 S2 p a i := by
      unfold rgb
      rw [if_pos]
      rw [e4 S2 q3.2 a ha.1 ha.2, e4 S2 q3.2 i t3 t4]
      omega
    have hle := q3.2.1
    have hw := offP_w hB q3.1 (c1 := p) (c2 := a) (c3 := i) (Or.inr (Or.inr ⟨hp.1, hp.2, ha.1, by omega, t3, by omega⟩))
    exact ⟨hg, hw.1, STB.tr hW7 q3.2 hw.2.1⟩
  · intro S2 i q3 q1 q2 q4
    unfold rgb
    rw [if_neg]
    rw [e4 S2 q3.2 a ha.1 ha.2, e4 S2 q3.2 i (by omega) q2]
    intro q5
    obtain ⟨u1, u2⟩ := ENZ_i hE (hs4 i (by omega) q2) (by omega) q2 (show S 4 i = z - 1 - s by omega)
    exact q4 ⟨hxf.2.2 i q1 u1, u2⟩
  · intro S2 i q3 q1 q2
    obtain ⟨t1, t2, t3, t4, t5⟩ := ENZ_k hE (s := z - 1 - s) (k := i) (by omega) (by omega)
    have hle := q3.2.1
    have := rgb_w (z := z) hB q3.1 hp (a := a) (b := i) ⟨ha.1, by omega⟩ ⟨t3, by omega⟩
    exact ⟨this.1, STB.tr hW7 q3.2 this.2⟩
theorem xgs_eq {S' : xH} {p : Int} (hB : B0 h0) (hE : ENZ h0 S) (hs4 : ∀ k, 0 ≤ k → k < S 0 0 → 1 ≤ S 4 k ∧ S 4 k ≤ 9) (hW7 : ∀ k, 0 ≤ k → k < S 0 0 → 0 ≤ S 7 k) (hp : 0 ≤ p ∧ p ≤ 9) (hone : ¬ (p = 5 ∨ p = 8 ∨ p = 9)) (hW : WE (h0 1 2) S') (hS : STB S S') : ∀ m : Nat, m ≤ 9 → fR (xgs h0 p z) S' 1 m = fR (rga h0 p z (S 0 0)) S' 0 (h0 23 m).toNat
  | 0, _ => by
    have : h0 23 ((0 : Nat) : Int) = 0 := hE.1
    rw [this]
    rfl
  | m + 1, hm => by
    have ih := xgs_eq hB hE hs4 hW7 hp hone hW hS m (by omega)
    have b1 := hE.2.1 m (by omega) (by omega)
    have b2 := hE.2.1 (m + 1) (by omega) (by omega)
    have b3 := ENZ_s hE (m + 1) (by omega) (by omega)
    rw [show (m : Int) + 1 - 1 = m by omega] at b3
    rw [fR_s, ih]
    have e1 : (h0 23 ((m + 1 : Nat) : Int)).toNat = (h0 23 m).toNat + (h0 23 (m + 1) - h0 23 m).toNat := by
      rw [show ((m + 1 : Nat) : Int) = (m : Int) + 1 by omega]
      omega
    rw [e1, fR_add]
    have hP : WE (h0 1 2) (fR (rga h0 p z (S 0 0)) S' 0 (h0 23 m).toNat) ∧ STB S (fR (rga h0 p z (S 0 0)) S' 0 (h0 23 m).toNat) := by
      refine fR_P (P := fun S2 => WE (h0 1 2) S2 ∧ STB S S2) ⟨hW, hS⟩ _ (fun S2 i q1 q2 q3 => ?_)
      have := rga_w (z := z) (p := p) (had := S 0 0) (a := i) hB q3.1 hp q3.2.1 ⟨q1, by omega⟩
      exact ⟨this.1, STB.tr hW7 q3.2 this.2⟩
    generalize fR (rga h0 p z (S 0 0)) S' 0 (h0 23 m).toNat = S2 at hP
    unfold xgs
    have x1 : xbg h0 (1 + (m : Int)) = h0 23 m := by
      unfold xbg
      rw [if_pos (by omega), show 1 + (m : Int) - 1 = m by omega]
    have x2 : xen h0 (1 + (m : Int)) = h0 23 (m + 1) := by
      unfold xen
      rw [if_pos (by omega), show 1 + (m : Int) = m + 1 by omega]
    rw [x1, x2, show (0 : Int) + ((h0 23 m).toNat : Int) = h0 23 m by omega]
    refine (fR_eq (P := fun S2 => WE (h0 1 2) S2 ∧ STB S S2) _ _ _ hP (fun S3 i q1 q2 q3 => ?_)).1
    obtain ⟨t1, t2, t3, t4, t5⟩ := ENZ_k hE (s := 1 + (m : Int)) (k := i) (by omega) (by omega)
    have hr := rga_eq (z := z) hB hE hs4 hW7 hp hone q3.1 q3.2 ⟨t3, t4⟩ t5
    refine ⟨hr.symm, ?_⟩
    have := rga_w (z := z) (p := p) (had := S 0 0) (a := i) hB q3.1 hp q3.2.1 ⟨t3, t4⟩
    exact ⟨this.1, STB.tr hW7 q3.2 this.2⟩
theorem rgp_eq {S' : xH} {p : Int} (hB : B0 h0) (hE : ENZ h0 S) (hs4 : ∀ k, 0 ≤ k → k < S 0 0 → 1 ≤ S 4 k ∧ S 4 k ≤ 9) (hW7 : ∀ k, 0 ≤ k → k < S 0 0 → 0 ≤ S 7 k) (hz : 2 ≤ z ∧ z ≤ 9) (hp : 0 ≤ p ∧ p ≤ 9) (hW : WE (h0 1 2) S') (hS : STB S S') (hK : 0 ≤ S 0 0) : rgp h0 z (S 0 0) S' p = xgp h0 z S' p := by
  have e4 : ∀ (S2 : xH), STB S S2 → ∀ k, 0 ≤ k → k < S 0 0 → S2 4 k = S 4 k := fun S2 q k q1 q2 => (q.2 k q1 q2).2.2.2.1
  unfold rgp xgp
  by_cases hb : xand (xshr (h0 7 2) p) 1 = 1
  · rw [if_pos hb, if_pos hb]
    by_cases hone : p = 5 ∨ p = 8 ∨ p = 9
    · rw [if_pos hone]
      unfold xg1
      have hbe := xbe (ENZ_s hE) hK (z - 1)
      rw [fR_seg (P := fun S2 => WE (h0 1 2) S2 ∧ STB S S2) (x := xbg h0 (z - 1)) (y := xen h0 (z - 1)) ⟨hW, hS⟩ hbe.1 hbe.2.2 ?_ ?_]
      · refine (fR_eq (P := fun S2 => WE (h0 1 2) S2 ∧ STB S S2) _ _ _ ⟨hW, hS⟩ (fun S2 i q1 q2 q3 => ?_)).1
        obtain ⟨t1, t2, t3, t4, t5⟩ := ENZ_k hE (s := z - 1) (k := i) (by omega) (by omega)
        have hg : rga h0 p z (S 0 0) S2 i = offP h0 S2 p i 0 := by
          unfold rga
          rw [if_pos hone, if_pos (by rw [e4 S2 q3.2 i t3 t4]; exact t5)]
        have hle := q3.2.1
        have hw := offP_w hB q3.1 (c1 := p) (c2 := i) (c3 := 0) (Or.inr (Or.inr ⟨hp.1, hp.2, t3, by omega, Int.le_refl _, by omega⟩))
        exact ⟨hg, hw.1, STB.tr hW7 q3.2 hw.2.1⟩
      · intro S2 i q3 q1 q2 q4
        unfold rga
        rw [if_pos hone, if_neg]
        rw [e4 S2 q3.2 i q1 q2]
        intro q5
        exact q4 (ENZ_i hE (hs4 i q1 q2) q1 q2 q5)
      · intro S2 i q3 q1 q2
        have := rga_w (z := z) (p := p) (had := S 0 0) (a := i) hB q3.1 hp q3.2.1 ⟨by omega, by omega⟩
        exact ⟨this.1, STB.tr hW7 q3.2 this.2⟩
    · rw [if_neg hone]
      have e1 : (z - 1 - 1).toNat = (z - 2).toNat := by omega
      rw [e1, xgs_eq hB hE hs4 hW7 hp hone hW hS (z - 2).toNat (by omega)]
      have e2 : (((z - 2).toNat : Nat) : Int) = z - 2 := by omega
      rw [e2]
      have b1 := hE.2.1 (z - 2) (by omega) (by omega)
      have h9 := fR_seg (g := rga h0 p z (S 0 0)) (P := fun S2 => WE (h0 1 2) S2 ∧ STB S S2) (S := S') (lo := 0) (hi := S 0 0) (x := 0) (y := h0 23 (z - 2)) ⟨hW, hS⟩ (Int.le_refl _) b1.2 ?_ ?_
      · rw [h9, Int.sub_zero]
      · intro S2 i q3 q1 q2 q4
        have h5 := rga_eq (z := z) hB hE hs4 hW7 hp hone q3.1 q3.2 ⟨q1, q2⟩ rfl
        rw [h5]
        have hi4 : ¬ S 4 i ≤ z - 2 := fun q5 => q4 ⟨q1, (hE.2.2 (z - 2) i (by omega) (by omega) q1 q2).mpr q5⟩
        unfold xga
        have h6 : xen h0 (z - 1 - S 4 i) = 0 := by unfold xen; rw [if_neg (by omega)]
        have h7 : 0 ≤ xfr h0 p i (z - 1 - S 4 i) := by
          unfold xfr xbg
          rw [if_neg (show ¬ (1 ≤ z - 1 - S 4 i ∧ z - 1 - S 4 i < 10) by omega)]
          split <;> omega
        rw [h6, show (0 - xfr h0 p i (z - 1 - S 4 i)).toNat = 0 by omega]
        rfl
      · intro S2 i q3 q1 q2
        have := rga_w (z := z) (p := p) (had := S 0 0) (a := i) hB q3.1 hp q3.2.1 ⟨by omega, by omega⟩
        exact ⟨this.1, STB.tr hW7 q3.2 this.2⟩
  · rw [if_neg hb, if_neg hb]
theorem mk_eq (hB : B0 h0) (hE : ENZ h0 S) (hs4 : ∀ k, 0 ≤ k → k < S 0 0 → 1 ≤ S 4 k ∧ S 4 k ≤ 9) (hz : 1 ≤ z ∧ z ≤ 9) (hW : WE (h0 1 2) S) : mkR h0 z S = mkE h0 z S := by
  unfold mkR mkE
  by_cases h1 : z = 1
  · rw [if_pos h1, if_pos h1]
  · rw [if_neg h1, if_neg h1]
    have hW7 : ∀ k, 0 ≤ k → k < S 0 0 → 0 ≤ S 7 k := fun k q1 q2 => (hW.2.2.2.2.1 k q1 q2).1
    refine (fR_eq (P := fun S2 => WE (h0 1 2) S2 ∧ STB S S2) _ _ _ ⟨hW, STB.rf S⟩ (fun S2 p q1 q2 q3 => ?_)).1
    have hr := rgp_eq (z := z) hB hE hs4 hW7 (by omega) (show 0 ≤ p ∧ p ≤ 9 by omega) q3.1 q3.2 hW.1
    refine ⟨hr, ?_⟩
    have := rgp_w (z := z) (p := p) hB q3.1 (show 0 ≤ p ∧ p ≤ 9 by omega) q3.2.1
    rw [hr] at this
    exact ⟨this.1, STB.tr hW7 q3.2 this.2⟩
end MKEQ
