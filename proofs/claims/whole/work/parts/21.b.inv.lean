theorem RC_fr {h h' S : xH} (e : ∀ a, 9 ≤ a → a ≤ 27 → h' a = h a) (ex : h' 1 = h 1) (r : RC h S) : RC h' S := by
  unfold RC chn at *
  rw [e 9 (by decide) (by decide), e 11 (by decide) (by decide), e 12 (by decide) (by decide), e 13 (by decide) (by decide), e 18 (by decide) (by decide), e 20 (by decide) (by decide), e 21 (by decide) (by decide), e 19 (by decide) (by decide), e 15 (by decide) (by decide), e 16 (by decide) (by decide), e 17 (by decide) (by decide), e 24 (by decide) (by decide), e 27 (by decide) (by decide), e 25 (by decide) (by decide), e 26 (by decide) (by decide), ex]
  exact r
theorem RR_fr {h h' S : xH} (h3 : S 0 0 ≤ 300) (k0 : h' 66 8 = h 66 8) (k1 : h' 66 4 = h 66 4) (al : h' 89 0 = h 89 0) (pp : ∀ k, k < 300 → h' 69 k = h 69 k ∧ h' 70 k = h 70 k ∧ h' 71 k = h 71 k) (e : ∀ a, 72 ≤ a → a ≤ 78 → h' a = h a) (r : RR h S) : RR h' S := by
  obtain ⟨a1, a2, a3, a4⟩ := r
  refine ⟨k0.trans a1, al.trans a2, fun k q1 q2 => ?_, fun k x q1 q2 q3 q4 => ?_⟩
  · obtain ⟨p1, p2, p3⟩ := pp k (by omega)
    rw [p1, p2, p3, e 75 (by decide) (by decide), e 78 (by decide) (by decide), e 76 (by decide) (by decide), e 72 (by decide) (by decide), e 73 (by decide) (by decide), e 74 (by decide) (by decide)]
    exact a3 k q1 q2
  · rw [e 77 (by decide) (by decide)]
    exact a4 k x q1 q2 q3 (by rw [← k1]; exact q4)
theorem RCT_fr {h h' T : xH} (e : ∀ a, 28 ≤ a → a ≤ 43 → h' a = h a) (r : RCT h T) : RCT h' T := by
  unfold RCT num at *
  rw [e 28 (by decide) (by decide), e 30 (by decide) (by decide), e 31 (by decide) (by decide), e 32 (by decide) (by decide), e 37 (by decide) (by decide), e 39 (by decide) (by decide), e 40 (by decide) (by decide), e 38 (by decide) (by decide), e 34 (by decide) (by decide), e 35 (by decide) (by decide), e 36 (by decide) (by decide), e 43 (by decide) (by decide)]
  exact r
theorem RRT_fr {h h' T : xH} (h3 : T 0 0 ≤ 150) (k0 : h' 66 19 = h 66 19) (k1 : h' 66 33 = h 66 33) (al : h' 89 1 = h 89 1) (pp : ∀ k, k < 150 → h' 79 k = h 79 k ∧ h' 80 k = h 80 k ∧ h' 81 k = h 81 k) (e : ∀ a, 82 ≤ a → a ≤ 87 → h' a = h a) (r : RRT h T) : RRT h' T := by
  obtain ⟨a1, a2, a4, a3⟩ := r
  refine ⟨k0.trans a1, al.trans a2, k1.trans a4, fun k q1 q2 => ?_⟩
  obtain ⟨p1, p2, p3⟩ := pp k (by omega)
  rw [p1, p2, p3, e 85 (by decide) (by decide), e 87 (by decide) (by decide), e 86 (by decide) (by decide), e 82 (by decide) (by decide), e 83 (by decide) (by decide), e 84 (by decide) (by decide)]
  exact a3 k q1 q2
theorem IB_fr {h h' : xH} (e : ∀ a, a ≤ 8 → h' a = h a) (m : h' 66 4 = h 66 4 ∧ h' 66 1 = h 66 1 ∧ h' 66 6 = h 66 6 ∧ h' 66 3 = h 66 3 ∧ h' 66 2 = h 66 2) (t : h' 67 = h 67) (c : h' 68 = h 68) (i : IB h) : IB h' := by
  obtain ⟨m1, m2, m3, m4, m5⟩ := m
  unfold IB at *
  rw [m1, m2, m3, m4, m5, t, c, e 0 (by decide), e 1 (by decide), e 3 (by decide), e 4 (by decide), e 5 (by decide), e 6 (by decide), e 7 (by decide), e 8 (by decide)]
  exact i
theorem IE_fr {h h' S : xH} (e : ∀ a, 9 ≤ a → a ≤ 27 → h' a = h a) (ex : h' 1 = h 1) (r3 : h' 6 = h 6) (k0 : h' 66 8 = h 66 8) (k1 : h' 66 4 = h 66 4) (al : h' 89 0 = h 89 0) (lv : h' 88 0 = h 88 0) (fu : h' 91 0 = h 91 0) (ma : h' 90 0 = h 90 0) (pp : ∀ k, k < 300 → h' 69 k = h 69 k ∧ h' 70 k = h 70 k ∧ h' 71 k = h 71 k) (e2 : ∀ a, 72 ≤ a → a ≤ 78 → h' a = h a) (i : IE h S) : IE h' S := by
  obtain ⟨i1, i2, i3, i4, i⟩ := i
  refine ⟨RC_fr e ex i1, RR_fr i3.2.1 k0 k1 al pp e2 i2, by rw [ex]; exact i3, ?_, ?_⟩
  · unfold ENZ at *
    rw [e 23 (by decide) (by decide)]
    exact i4
  · rw [ex, r3, lv, fu, ma, e 9 (by decide) (by decide)]
    exact i
theorem IT_fr {h h' S T : xH} (e : ∀ a, 28 ≤ a → a ≤ 43 → h' a = h a) (ex : h' 1 = h 1) (k0 : h' 66 19 = h 66 19) (k1 : h' 66 33 = h 66 33) (al : h' 89 1 = h 89 1) (lv : h' 88 1 = h 88 1) (fu : h' 91 1 = h 91 1) (ma : h' 90 1 = h 90 1) (pp : ∀ k, k < 150 → h' 79 k = h 79 k ∧ h' 80 k = h 80 k ∧ h' 81 k = h 81 k) (e2 : ∀ a, 82 ≤ a → a ≤ 87 → h' a = h a) (i : IT h S T) : IT h' S T := by
  obtain ⟨i1, i2, i3, i4, i⟩ := i
  refine ⟨RCT_fr e i1, RRT_fr i3.2.1 k0 k1 al pp e2 i2, by rw [ex]; exact i3, ?_, ?_⟩
  · unfold ETZ at *
    rw [e 42 (by decide) (by decide)]
    exact i4
  · rw [lv, fu, ma, e 28 (by decide) (by decide)]
    exact i
theorem TRp_up {as le : Int → Int} {S T S' T' : xH} (hS : S 0 0 ≤ S' 0 0) (hT : T 0 0 ≤ T' 0 0) : ∀ (d : Nat) (nd : Int), TRp as le S T d nd → TRp as le S' T' d nd
  | 0, nd, h => ⟨h.1, h.2.1, by have := h.2.2; omega⟩
  | d + 1, nd, h => by
    rcases h with ⟨a, b, c⟩ | ⟨a, b, c, e, f⟩
    · exact Or.inl ⟨a, b, by omega⟩
    · exact Or.inr ⟨a, by omega, c, TRp_up hS hT d _ e, TRp_up hS hT d _ f⟩
theorem szp_up {as le : Int → Int} {S T S' T' : xH} (hS : STB S S') (hT : STB T T') : ∀ (d : Nat) (nd : Int), TRp as le S T d nd → szp as le S' T' d nd = szp as le S T d nd
  | 0, nd, h => (hS.2 _ h.2.1 h.2.2).2.2.2.1
  | d + 1, nd, h => by
    unfold szp
    rcases h with ⟨a, b, c⟩ | ⟨a, b, c, e, f⟩
    · rw [if_pos a, if_pos a]
      exact (hS.2 _ b c).2.2.2.1
    · rw [if_neg (by omega), if_neg (by omega), szp_up hS hT d _ e, szp_up hS hT d _ f, (hT.2 _ a b).2.2.2.1]
theorem IP_fr {h h' S T S' T' : xH} (hS : STB S S') (hT : STB T T') (e1 : h' 56 = h 56) (e2 : h' 57 = h 57) (e3 : h' 58 = h 58) (m : h' 66 50 = h 66 50 ∧ h' 66 51 = h 66 51 ∧ h' 66 60 = h 66 60) (e4 : h' 105 = h 105) (e5 : h' 106 = h 106) (i : IP h S T) : IP h' S' T' := by
  obtain ⟨m1, m2, m3⟩ := m
  unfold IP at *
  rw [m1, m2, m3, e1, e2, e3, e4, e5]
  obtain ⟨i1, i2, i3⟩ := i
  refine ⟨i1, i2, fun q => ?_⟩
  obtain ⟨t1, t2, t3, t4, t5, t6, t7⟩ := i3 q
  have := hS.1
  have := hT.1
  refine ⟨TRp_up hS.1 hT.1 _ _ t1, by rw [szp_up hS hT _ _ t1]; exact t2, t3, t4, t5, fun nd q1 q2 => ?_, t7⟩
  obtain ⟨u1, u2, u3, u4, u5, u6⟩ := t6 nd q1 q2
  exact ⟨u1, u2, u3, by omega, u5, by omega⟩
theorem fnd_congr {p q : Int → Prop} : ∀ m : Nat, (∀ k : Int, 0 ≤ k → k < m → (p k ↔ q k)) → fnd p m = fnd q m
  | 0, _ => rfl
  | m + 1, h => by
    have e : p (m : Int) = q (m : Int) := propext (h m (by omega) (by omega))
    unfold fnd
    rw [fnd_congr m (fun k h1 h2 => h k h1 (by omega)), e]
section SOLV
variable {S T S' T' : xH} {KE KT p : Int}
theorem lf_congr (hS : ∀ k, 0 ≤ k → k < KE → S' 6 k = S 6 k ∧ S' 11 k = S 11 k) (set : Int) : lf S' KE p set = lf S KE p set := by
  unfold lf
  refine fnd_congr _ (fun k h1 h2 => ?_)
  obtain ⟨a, b⟩ := hS k h1 (by omega)
  rw [a, b]
theorem lf_spec (S : xH) (KE p set : Int) : (lf S KE p set = -1 ∧ ∀ k, 0 ≤ k → k < KE → ¬ (lk (S 11 k) p ∧ sub set (S 6 k))) ∨ (0 ≤ lf S KE p set ∧ lf S KE p set < KE ∧ (lk (S 11 (lf S KE p set)) p ∧ sub set (S 6 (lf S KE p set))) ∧ ∀ k, 0 ≤ k → k < lf S KE p set → ¬ (lk (S 11 k) p ∧ sub set (S 6 k))) := by
  unfold lf
  rcases fnd_spec (fun k => lk (S 11 k) p ∧ sub set (S 6 k)) KE.toNat with ⟨a, b⟩ | ⟨a, b, c, e⟩
  · exact Or.inl ⟨a, fun k h1 h2 => b k h1 (by omega)⟩
  · exact Or.inr ⟨a, by omega, c, e⟩
theorem sz0_congr (hS : ∀ k, 0 ≤ k → k < KE → S' 4 k = S 4 k ∧ S' 6 k = S 6 k ∧ S' 11 k = S 11 k) : sz0 S' KE p = sz0 S KE p := by
  funext set
  unfold sz0
  rw [lf_congr (fun k q1 q2 => (hS k q1 q2).2)]
  split
  · rfl
  · rcases lf_spec S KE p set with q | q
    · exact absurd q.1 (by assumption)
    · exact (hS _ q.1 q.2.1).1
theorem stpf_congr (hT : ∀ k, 0 ≤ k → k < KT → T' 4 k = T 4 k ∧ T' 6 k = T 6 k ∧ T' 11 k = T 11 k) (f : Int → Int) (b0 set : Int) : ∀ m : Nat, (m : Int) ≤ KT → stpf T' p f b0 set m = stpf T p f b0 set m
  | 0, _ => rfl
  | m + 1, h => by
    obtain ⟨a, b, c⟩ := hT m (by omega) (by omega)
    have e1 : prt T' p set m = prt T p set m := by unfold prt; rw [b, c]
    have e2 : szt T' f set m = szt T f set m := by unfold szt; rw [a, b]
    unfold stpf
    rw [stpf_congr hT f b0 set m (by omega), e1, e2]
theorem szf_congr (hS : ∀ k, 0 ≤ k → k < KE → S' 4 k = S 4 k ∧ S' 6 k = S 6 k ∧ S' 11 k = S 11 k) (hT : ∀ k, 0 ≤ k → k < KT → T' 4 k = T 4 k ∧ T' 6 k = T 6 k ∧ T' 11 k = T 11 k) (hK : 0 ≤ KT) : ∀ i : Nat, szf S' T' KE KT p i = szf S T KE KT p i
  | 0 => sz0_congr hS
  | i + 1 => by
    funext set
    simp only [szf, szf_congr hS hT hK i, sz0_congr hS]
    exact stpf_congr hT _ _ _ _ (by omega)
theorem cnf_congr (hS : ∀ k, 0 ≤ k → k < KE → S' 4 k = S 4 k ∧ S' 6 k = S 6 k) (set z : Int) : ∀ m : Nat, (m : Int) ≤ KE → cnf S' set z m = cnf S set z m
  | 0, _ => rfl
  | m + 1, h => by
    obtain ⟨a, b⟩ := hS m (by omega) (by omega)
    unfold cnf
    rw [cnf_congr hS set z m (by omega), a, b]
theorem wst_congr (hT : ∀ k, 0 ≤ k → k < KT → T' 4 k = T 4 k ∧ T' 6 k = T 6 k ∧ T' 11 k = T 11 k) (f g : Int → Int) (set z c0 : Int) : ∀ m : Nat, (m : Int) ≤ KT → wst T' f g set z c0 m = wst T f g set z c0 m
  | 0, _ => rfl
  | m + 1, h => by
    obtain ⟨a, b, c⟩ := hT m (by omega) (by omega)
    have e1 : prt T' (-1) set m = prt T (-1) set m := by unfold prt; rw [b, c]
    have e2 : szt T' f set m = szt T f set m := by unfold szt; rw [a, b]
    unfold wst
    rw [wst_congr hT f g set z c0 m (by omega), e1, e2, b]
theorem wyf_congr (hS : ∀ k, 0 ≤ k → k < KE → S' 4 k = S 4 k ∧ S' 6 k = S 6 k ∧ S' 11 k = S 11 k) (hT : ∀ k, 0 ≤ k → k < KT → T' 4 k = T 4 k ∧ T' 6 k = T 6 k ∧ T' 11 k = T 11 k) (hE : 0 ≤ KE) (hK : 0 ≤ KT) : ∀ i : Nat, wyf S' T' KE KT i = wyf S T KE KT i
  | 0 => by
    funext set
    simp only [wyf, szf_congr hS hT hK]
    rw [cnf_congr (fun k q1 q2 => ⟨(hS k q1 q2).1, (hS k q1 q2).2.1⟩) set _ KE.toNat (by omega)]
  | i + 1 => by
    funext set
    simp only [wyf, szf_congr hS hT hK, wyf_congr hS hT hE hK i]
    rw [cnf_congr (fun k q1 q2 => ⟨(hS k q1 q2).1, (hS k q1 q2).2.1⟩) set _ KE.toNat (by omega), wst_congr hT _ _ _ _ _ KT.toNat (by omega)]
theorem few1_congr (hS : ∀ k, 0 ≤ k → k < KE → S' 6 k = S 6 k) (f : Int → Int) (set : Int) : ∀ m : Nat, (m : Int) ≤ KE → few1 S' f set m = few1 S f set m
  | 0, _ => rfl
  | m + 1, h => by
    unfold few1
    rw [few1_congr hS f set m (by omega), hS m (by omega) (by omega)]
theorem fwf_congr (hS : ∀ k, 0 ≤ k → k < KE → S' 6 k = S 6 k) (hE : 0 ≤ KE) : ∀ q : Nat, fwf S' KE q = fwf S KE q
  | 0 => rfl
  | q + 1 => by
    funext set
    simp only [fwf, fwf_congr hS hE q]
    rw [few1_congr hS _ _ KE.toNat (by omega)]
end SOLV
theorem IS_fr {h h' S T S' T' : xH} (hS : STB S S') (hT : STB T T') (e : ∀ a, 44 ≤ a → a ≤ 55 → h' a = h a) (ex : h' 1 = h 1) (i : IS h S T) : IS h' S' T' := by
  obtain ⟨i1, i2, i3⟩ := i
  unfold IS
  rw [e 44 (by decide) (by decide)]
  refine ⟨i1, i2, fun q => ?_⟩
  obtain ⟨t1, t2, t3, t4, t5, t6⟩ := i3 q
  have s1 := hS.1
  have s2 := hT.1
  refine ⟨t1, by omega, t3, by omega, t5, ?_⟩
  have hs : ∀ k, 0 ≤ k → k < h 44 11 → S' 4 k = S 4 k ∧ S' 6 k = S 6 k ∧ S' 11 k = S 11 k := fun k q1 q2 => by
    obtain ⟨a, b, c, d, e, f, -⟩ := hS.2 k q1 (by omega)
    exact ⟨d, e, f⟩
  have ht : ∀ k, 0 ≤ k → k < h 44 12 → T' 4 k = T 4 k ∧ T' 6 k = T 6 k ∧ T' 11 k = T 11 k := fun k q1 q2 => by
    obtain ⟨a, b, c, d, e, f, -⟩ := hT.2 k q1 (by omega)
    exact ⟨d, e, f⟩
  obtain ⟨c1, c2, c3, c4, c5, c6, c7, c8, c9⟩ := t6
  unfold CCH
  rw [e 44 (by decide) (by decide), e 45 (by decide) (by decide), e 48 (by decide) (by decide), e 49 (by decide) (by decide), e 50 (by decide) (by decide), e 51 (by decide) (by decide), e 52 (by decide) (by decide), e 53 (by decide) (by decide), e 54 (by decide) (by decide), e 55 (by decide) (by decide), ex]
  refine ⟨fun set q1 q2 => ?_, c2, fun set q1 q2 q3 => ?_, fun e9 q1 => ?_, c5, c6, fun i q1 q2 => ?_, c8, fun t q1 q2 q3 => ?_⟩
  · rw [lf_congr (fun k r1 r2 => (hs k r1 r2).2), sz0_congr hs, szf_congr hs ht t3, szf_congr hs ht t3, wyf_congr hs ht t1 t3, wyf_congr hs ht t1 t3, wyf_congr hs ht t1 t3, fwf_congr (fun k r1 r2 => (hs k r1 r2).2.1) t1]
    exact c1 set q1 q2
  · obtain ⟨x, x1, x2, x3⟩ := c3 set q1 q2 q3
    refine ⟨x, x1, x2, fun k r1 r2 r3 => ?_⟩
    obtain ⟨y1, y2, y3⟩ := hs k r1 r2
    rw [y2]
    rw [y3] at r3
    exact x3 k r1 r2 r3
  · obtain ⟨k, r1, r2, r3, r4⟩ := c4 e9 q1
    obtain ⟨y1, y2, y3⟩ := hs k r1 r2
    exact ⟨k, r1, r2, by rw [y3]; exact r3, by rw [y2]; exact r4⟩
  · obtain ⟨y1, y2, y3⟩ := c7 i q1 q2
    refine ⟨y1, y2, ?_⟩
    rw [(ht _ y1 y2).2.2]
    exact y3
  · rw [(ht t q1 q2).2.2] at q3
    exact c9 t q1 q2 q3
theorem IX_fr {h h' : xH} (e1 : h' 64 = h 64) (e2 : h' 65 = h 65) (m : h' 66 45 = h 66 45) (e3 : h' 96 = h 96) (i : IX h) : IX h' := by
  unfold IX at *
  rw [m, e1, e2, e3]
  exact i
theorem Inv_fr {h h' : xH} (f : FM h h') (i : Inv h) : Inv h' := by
  obtain ⟨S, T, ib, ie, it, ip, is, ix⟩ := i
  obtain ⟨f1, f2, f3, f4⟩ := f
  have g : ∀ a, ¬ scr a → a ≠ 66 → a ≠ 69 → a ≠ 70 → a ≠ 71 → a ≠ 79 → a ≠ 80 → a ≠ 81 → h' a = h a := f1
  have gl : ∀ a, a < 59 → h' a = h a := fun a ha => f1 a (by unfold scr; omega) (by omega) (by omega) (by omega) (by omega) (by omega) (by omega) (by omega)
  have gm : ∀ a, (a = 67 ∨ a = 68 ∨ (72 ≤ a ∧ a ≤ 78) ∨ (82 ≤ a ∧ a ≤ 91) ∨ a = 64 ∨ a = 65 ∨ a = 96 ∨ a = 105 ∨ a = 106) → h' a = h a := fun a ha => f1 a (by unfold scr; omega) (by omega) (by omega) (by omega) (by omega) (by omega) (by omega) (by omega)
  have md : ∀ j, mdf j → h' 66 j = h 66 j := f2
  refine ⟨S, T, IB_fr (fun a ha => gl a (by omega)) ⟨md _ (by unfold mdf; decide), md _ (by unfold mdf; decide), md _ (by unfold mdf; decide), md _ (by unfold mdf; decide), md _ (by unfold mdf; decide)⟩ (gm _ (by decide)) (gm _ (by decide)) ib, IE_fr (fun a ha hb => gl a (by omega)) (gl _ (by decide)) (gl _ (by decide)) (md _ (by unfold mdf; decide)) (md _ (by unfold mdf; decide)) (by rw [gm 89 (by decide)]) (by rw [gm 88 (by decide)]) (by rw [gm 91 (by decide)]) (by rw [gm 90 (by decide)]) f3 (fun a ha hb => gm a (by omega)) ie, IT_fr (fun a ha hb => gl a (by omega)) (gl _ (by decide)) (md _ (by unfold mdf; decide)) (md _ (by unfold mdf; decide)) (by rw [gm 89 (by decide)]) (by rw [gm 88 (by decide)]) (by rw [gm 91 (by decide)]) (by rw [gm 90 (by decide)]) f4 (fun a ha hb => gm a (by omega)) it, IP_fr (STB.rf S) (STB.rf T) (gl _ (by decide)) (gl _ (by decide)) (gl _ (by decide)) ⟨md _ (by unfold mdf; decide), md _ (by unfold mdf; decide), md _ (by unfold mdf; decide)⟩ (gm _ (by decide)) (gm _ (by decide)) ip, IS_fr (STB.rf S) (STB.rf T) (fun a ha hb => gl a (by omega)) (gl _ (by decide)) is, IX_fr (gm _ (by decide)) (gm _ (by decide)) (md _ (by unfold mdf; decide)) (gm _ (by decide)) ix⟩
