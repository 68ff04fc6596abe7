/-! in how many ways -/
theorem us_id {T : xH} {KT cnt : Int} {u : Int → Int} (h : USB T KT (-1) cnt u) : cnt = KT ∧ ∀ i, 0 ≤ i → i < cnt → u i = i := by
  obtain ⟨h0, h1, h2, h3, h4⟩ := h
  have key : ∀ (n : Nat) (i : Int), i.toNat = n → 0 ≤ i → i < cnt → u i = i := by
    intro n
    induction n using Nat.strongRecOn with
    | ind n ih =>
      intro i e i0 i1
      have lo : i ≤ u i := by
        by_cases z : i = 0
        · have := (h2 i i0 i1).1; omega
        · have a := ih (i - 1).toNat (by omega) (i - 1) rfl (by omega) (by omega)
          have b := h3 (i - 1) i (by omega) (by omega) i1
          omega
      obtain ⟨j, j0, j1, j2⟩ := h4 i i0 (by have := (h2 i i0 i1).2.1; omega) (Or.inl rfl)
      rcases Int.lt_trichotomy j i with z | z | z
      · have := ih j.toNat (by omega) j rfl j0 j1; omega
      · rw [z] at j2; exact j2
      · have := h3 i j i0 z j1; omega
  refine ⟨?_, fun i z1 z2 => key _ i rfl z1 z2⟩
  rcases Int.lt_or_le cnt KT with z | z
  · obtain ⟨j, j0, j1, j2⟩ := h4 cnt h0 z (Or.inl rfl)
    have := key _ j rfl j0 j1
    omega
  · omega
theorem cnf_1 {S : xH} {set z k : Int} (h : 0 ≤ k) : cnf S set z (k + 1).toNat = cnf S set z k.toNat + @ite _ (sub set (S 6 k) ∧ S 4 k = z) (Classical.propDecidable _) 1 0 := by
  have e : (k + 1).toNat = k.toNat + 1 := by omega
  rw [e, cnf, Int.toNat_of_nonneg h]
theorem cnf_y {S : xH} {set z k : Int} (h : 0 ≤ k) (y : sub set (S 6 k) ∧ S 4 k = z) : cnf S set z (k + 1).toNat = cnf S set z k.toNat + 1 := by
  rw [cnf_1 h, if_pos y]
theorem cnf_n {S : xH} {set z k : Int} (h : 0 ≤ k) (y : ¬ (sub set (S 6 k) ∧ S 4 k = z)) : cnf S set z (k + 1).toNat = cnf S set z k.toNat := by
  rw [cnf_1 h, if_neg y, Int.add_zero]
theorem cnf_skip {S : xH} {set z a : Int} (ha : 0 ≤ a) : ∀ n : Nat, (∀ t, a ≤ t → t < a + n → ¬ (sub set (S 6 t) ∧ S 4 t = z)) → cnf S set z (a + n).toNat = cnf S set z a.toNat
  | 0, _ => by rw [show a + ((0 : Nat) : Int) = a by omega]
  | n + 1, h => by
    have ih := cnf_skip ha n (fun t z1 z2 => h t z1 (by omega))
    rw [show a + ((n + 1 : Nat) : Int) = (a + n) + 1 by omega, cnf_n (by omega) (h (a + n) (by omega) (by omega)), ih]
theorem cnf_sk {S : xH} {set z a b : Int} (ha : 0 ≤ a) (hb : a ≤ b) (h : ∀ t, a ≤ t → t < b → ¬ (sub set (S 6 t) ∧ S 4 t = z)) : cnf S set z b.toNat = cnf S set z a.toNat := by
  have := cnf_skip (S := S) (set := set) (z := z) ha (b - a).toNat (fun t z1 z2 => h t z1 (by omega))
  rw [show a + ((b - a).toNat : Int) = b by omega] at this
  exact this
theorem cnf_r {S : xH} {set z : Int} : ∀ n : Nat, 0 ≤ cnf S set z n ∧ cnf S set z n ≤ n
  | 0 => ⟨Int.le_refl _, Int.le_refl _⟩
  | n + 1 => by
    have := cnf_r (S := S) (set := set) (z := z) n
    unfold cnf
    split <;> omega
def cap (x : Int) : Int := if x < 1000000000 then x else 1000000000
theorem cap_r {x : Int} (h : 0 ≤ x) : 0 ≤ cap x ∧ cap x ≤ 1000000000 := by unfold cap; split <;> omega
theorem wst_1 {T : xH} {f g : Int → Int} {set z c0 t : Int} (h : 0 ≤ t) : wst T f g set z c0 (t + 1).toNat = @ite _ (prt T (-1) set t ∧ szt T f set t = z) (Classical.propDecidable _) (cap (wst T f g set z c0 t.toNat + g (xand set (T 6 t)) * g (xxor set (xand set (T 6 t))))) (wst T f g set z c0 t.toNat) := by
  have e : (t + 1).toNat = t.toNat + 1 := by omega
  rw [e, wst, Int.toNat_of_nonneg h]
  rfl
theorem wst_y {T : xH} {f g : Int → Int} {set z c0 t : Int} (h : 0 ≤ t) (y : prt T (-1) set t ∧ szt T f set t = z) : wst T f g set z c0 (t + 1).toNat = cap (wst T f g set z c0 t.toNat + g (xand set (T 6 t)) * g (xxor set (xand set (T 6 t)))) := by
  rw [wst_1 h, if_pos y]
theorem wst_n {T : xH} {f g : Int → Int} {set z c0 t : Int} (h : 0 ≤ t) (y : ¬ (prt T (-1) set t ∧ szt T f set t = z)) : wst T f g set z c0 (t + 1).toNat = wst T f g set z c0 t.toNat := by
  rw [wst_1 h, if_neg y]
theorem wst_skip {T : xH} {f g : Int → Int} {set z c0 a : Int} (ha : 0 ≤ a) : ∀ n : Nat, (∀ t, a ≤ t → t < a + n → ¬ (prt T (-1) set t ∧ szt T f set t = z)) → wst T f g set z c0 (a + n).toNat = wst T f g set z c0 a.toNat
  | 0, _ => by rw [show a + ((0 : Nat) : Int) = a by omega]
  | n + 1, h => by
    have ih := wst_skip (g := g) (c0 := c0) ha n (fun t z1 z2 => h t z1 (by omega))
    rw [show a + ((n + 1 : Nat) : Int) = (a + n) + 1 by omega, wst_n (by omega) (h (a + n) (by omega) (by omega)), ih]
theorem wst_sk {T : xH} {f g : Int → Int} {set z c0 a b : Int} (ha : 0 ≤ a) (hb : a ≤ b) (h : ∀ t, a ≤ t → t < b → ¬ (prt T (-1) set t ∧ szt T f set t = z)) : wst T f g set z c0 b.toNat = wst T f g set z c0 a.toNat := by
  have := wst_skip (T := T) (f := f) (g := g) (set := set) (z := z) (c0 := c0) ha (b - a).toNat (fun t z1 z2 => h t z1 (by omega))
  rw [show a + ((b - a).toNat : Int) = b by omega] at this
  exact this
theorem wst_r {T : xH} {f g : Int → Int} {set z c0 : Int} (h0 : 0 ≤ c0 ∧ c0 ≤ 1000000000) (hg : ∀ s, 0 ≤ g s) : ∀ n : Nat, 0 ≤ wst T f g set z c0 n ∧ wst T f g set z c0 n ≤ 1000000000
  | 0 => h0
  | n + 1 => by
    have ih := wst_r (T := T) (f := f) (set := set) (z := z) h0 hg n
    have m := Int.mul_nonneg (hg (xand set (T 6 n))) (hg (xxor set (xand set (T 6 n))))
    unfold wst
    split
    · split <;> omega
    · exact ih
theorem wyf_r {S T : xH} {KE KT : Int} {m : Nat} (o : OKS S T KE KT m) : ∀ (i : Nat) (set : Int), 0 ≤ wyf S T KE KT i set ∧ wyf S T KE KT i set ≤ 1000000000
  | 0, set => by
    have c := cnf_r (S := S) (set := set) (z := szf S T KE KT (-1) 0 set) KE.toNat
    have := o.2.1
    unfold wyf
    split <;> omega
  | i + 1, set => by
    have c := cnf_r (S := S) (set := set) (z := szf S T KE KT (-1) (i + 1) set) KE.toNat
    have := o.2.1
    unfold wyf
    split
    · omega
    · exact wst_r (by omega) (fun s => (wyf_r o i s).1) _
/-- later TESTS are too large -/
theorem wst_end {S T : xH} {KE KT : Int} {m : Nat} (o : OKS S T KE KT m) {f g : Int → Int} (hf : ∀ s, 1 ≤ f s) {set z c0 t : Int} (t0 : 0 ≤ t) (t1 : t < KT) (y : z < T 4 t + 3) : wst T f g set z c0 KT.toNat = wst T f g set z c0 t.toNat := by
  refine wst_sk t0 (by omega) (fun j z1 z2 => ?_)
  rintro ⟨-, e⟩
  have := (o.2.2.2.2 j (by omega) z2).2.2 t t0 z1
  have a := hf (xand set (T 6 j))
  have c := hf (xxor set (xand set (T 6 j)))
  unfold szt at e
  omega
/-- none that FITs is smaller -/
theorem cnf_0 {S T : xH} {KE KT : Int} {m : Nat} (o : OKS S T KE KT m) {set z : Int} (h : z < sz0 S KE (-1) set) : cnf S set z KE.toNat = 0 := by
  have e : cnf S set z (0 : Int).toNat = 0 := rfl
  rw [← e]
  refine cnf_sk (by omega) o.2.1.1 (fun t z1 z2 => ?_)
  rintro ⟨y1, y2⟩
  unfold sz0 at h
  rcases lf_spec S KE (-1) set with q | q
  · exact q.2 t z1 z2 ⟨Or.inl rfl, y1⟩
  · rw [if_neg (by omega)] at h
    rcases Int.lt_or_le t (lf S KE (-1) set) with w | w
    · exact q.2.2.2 t z1 w ⟨Or.inl rfl, y1⟩
    · have := (o.2.2.2.1 t z1 z2).2.2 _ q.1 w
      omega
theorem minl_c {y : Int} (h0 : 0 ≤ y) (h1 : y ≤ 2000000000000000000) : (if w64 y < w64 1000000000 then y else 1000000000) = cap y := by
  rw [w64_id ⟨by omega, by omega⟩, w64_id ⟨by omega, by omega⟩]
  rfl
theorem cap_2 {a b : Int} (h0 : 0 ≤ a) (h1 : 0 ≤ b) : cap (a + cap b) = cap (a + b) := by
  unfold cap
  split <;> split <;> (try split) <;> omega
def FY (h h' : xH) : Prop := ∀ a, (a < 49 ∨ 53 < a) → h' a = h a
theorem FY.rf (h : xH) : FY h h := fun _ _ => rfl
theorem FY.tr {h1 h2 h3 : xH} (a : FY h1 h2) (b : FY h2 h3) : FY h1 h3 := fun x z => (b x z).trans (a x z)
theorem FY.up {h h' : xH} (f : FY h h') {a : Nat} {j z : Int} (ha : 49 ≤ a ∧ a ≤ 53) : FY h (xup h' a j z) := fun x y => by rw [xup_o _ _ _ _ x (by omega)]; exact f x y
theorem FZ_y {h h' : xH} (f : FZ h h') : FY h h' := fun a z => f a (by omega) (by omega)
theorem SVF_y {h h' S T : xH} {p : Int} {m : Nat} (f : FY h h') (v : SVF h S T p m) : SVF h' S T p m := by
  unfold SVF at *
  rw [f 37 (by decide), f 39 (by decide), f 18 (by decide), f 20 (by decide), f 45 (by decide), f 48 (by decide), f 44 (by decide), f 55 (by decide)]
  exact v
theorem SVW_z {h h' S T : xH} {p : Int} {m : Nat} (f : FZ h h') (v : SVW h S T p m) : SVW h' S T p m := by
  unfold SVW at *
  rw [f 51 (by decide) (by decide), f 52 (by decide) (by decide), f 53 (by decide) (by decide)]
  exact v
theorem SVM_w {h S T : xH} {p set z : Int} {m a : Nat} (ha : 51 ≤ a) (v : SVM h S T p m) : SVM (xup h a set z) S T p m := by
  unfold SVM at *
  rw [xup_o _ _ _ _ 49 (by omega), xup_o _ _ _ _ 50 (by omega)]
  exact v
theorem SVW_0 {h S T : xH} {set : Int} {m : Nat} (v : SVW h S T (-1) m) (z : Int) (e : z = wyf S T (S 0 0) (T 0 0) 0 set) : SVW (xup h 51 set z) S T (-1) m := fun s hs => by
  obtain ⟨a, b, c⟩ := v s hs
  refine ⟨?_, ?_, ?_⟩
  all_goals first | exact a | exact b | exact c | skip
  by_cases y : s = set
  · rw [y, xup_s]; exact Or.inr ⟨rfl, e⟩
  · rw [xup_j y]; exact a
theorem SVW_1 {h S T : xH} {set : Int} {m : Nat} (v : SVW h S T (-1) m) (z : Int) (e : z = wyf S T (S 0 0) (T 0 0) 1 set) : SVW (xup h 52 set z) S T (-1) m := fun s hs => by
  obtain ⟨a, b, c⟩ := v s hs
  refine ⟨?_, ?_, ?_⟩
  all_goals first | exact a | exact b | exact c | skip
  by_cases y : s = set
  · rw [y, xup_s]; exact Or.inr ⟨rfl, e⟩
  · rw [xup_j y]; exact b
theorem SVW_2 {h S T : xH} {set : Int} {m : Nat} (v : SVW h S T (-1) m) (z : Int) (e : z = wyf S T (S 0 0) (T 0 0) 2 set) : SVW (xup h 53 set z) S T (-1) m := fun s hs => by
  obtain ⟨a, b, c⟩ := v s hs
  refine ⟨?_, ?_, ?_⟩
  all_goals first | exact a | exact b | exact c | skip
  by_cases y : s = set
  · rw [y, xup_s]; exact Or.inr ⟨rfl, e⟩
  · rw [xup_j y]; exact c
set_option maxHeartbeats 1000000 in
theorem c_cntF (d b : Nat) (h S T : xH) (set z : Int) (m : Nat) (hV : SVF h S T (-1) m) (hb : h 44 10 = -1) (hK : h 9 9 = S 0 0) (hs : ir m set) (hl : lf S (S 0 0) (-1) set ≠ -1) (hz : z = S 4 (lf S (S 0 0) (-1) set)) {Q : xO → xH → Prop} (hQ : Q (.inl (some (.inl (cnf S set z (S 0 0).toNat)))) h) : xRn G0 MT (d + 3) b 69 [.inr (.inr 44), .inl set, .inl z] h Q := by
  refine R_of (M := mX7_countFitting) rfl (Nat.le_of_ble_eq_true rfl) ?_
  show xEx G0 cdX7_countFitting (some .int) (xRn G0 MT (d + 2)) Q b 0 [some (.inr (.inr 44)), some (.inl set), some (.inl z), none, none] [] h
  have r4 := ir4 hV.1.1 hs
  have lb := (lf_spec S (S 0 0) (-1) set).resolve_left (fun y => hl y.1)
  have e45 : h 45 set = lf S (S 0 0) (-1) set := by rw [(hV.2.2.2.1 set hs).1, if_neg hl]
  have kk := hV.1.2.1
  refine E_s 5 (i' := 5) (ls' := [some (.inr (.inr 44)), some (.inl set), some (.inl z), some (.inl 0), none]) (sk' := [.inl set, .inr (.inr 45)]) (h' := h) rfl ?_
  refine E_ld (x := (.iaload, 0, [], [])) (ty := .int) (n := 4096) rfl rfl rfl (by omega) (by omega) ?_
  show xEx G0 cdX7_countFitting (some .int) (xRn G0 MT (d + 2)) Q b 6 [some (.inr (.inr 44)), some (.inl set), some (.inl z), some (.inl 0), none] [.inl (h 45 set)] h
  refine E_s 1 (i' := 7) (ls' := [some (.inr (.inr 44)), some (.inl set), some (.inl z), some (.inl 0), some (.inl (h 45 set))]) (sk' := []) (h' := h) rfl ?_
  have key7 : ∀ (n : Nat) (k fo : Int), (lf S (S 0 0) (-1) set ≤ k) → (k ≤ S 0 0) → (fo = cnf S set z k.toNat) → ((S 0 0 - k).toNat) < n → xEx G0 cdX7_countFitting (some .int) (xRn G0 MT (d + 2)) Q b 7 [some (.inr (.inr 44)), some (.inl set), some (.inl z), some (.inl fo), some (.inl k)] [] h := by
    intro n
    induction n with
    | zero => intro k fo _ _ _ hm; exact absurd hm (Nat.not_lt_zero _)
    | succ n ih7 =>
      intro k fo k0 k1 hf hm7
      have cr := cnf_r (S := S) (set := set) (z := z) k.toNat
      have o2 := hV.1.2.1
      refine E_s 4 (i' := 11) (ls' := [some (.inr (.inr 44)), some (.inl set), some (.inl z), some (.inl fo), some (.inl k)]) (sk' := [.inl (h 9 9), .inl k]) (h' := h) rfl ?_
      refine E_b (x := (.if_icmp .ge 59, 39, [], [])) rfl rfl (fun c11 => ?_) (fun c11 => ?_)
      · rw [c_ge (by first | assumption | (refine ⟨?_, ?_⟩ <;> omega) | (simp only [xr] at *; omega)) (by first | assumption | (refine ⟨?_, ?_⟩ <;> omega) | (simp only [xr] at *; omega))] at c11
        simp only [decide_eq_true_eq, decide_eq_false_iff_not, Decidable.not_not] at c11
        show xEx G0 cdX7_countFitting (some .int) (xRn G0 MT (d + 2)) Q b 39 [some (.inr (.inr 44)), some (.inl set), some (.inl z), some (.inl fo), some (.inl k)] [] h
        refine E_s 1 (i' := 40) (ls' := [some (.inr (.inr 44)), some (.inl set), some (.inl z), some (.inl fo), some (.inl k)]) (sk' := [.inl fo]) (h' := h) rfl ?_
        exact E_ret (x := (.ireturn, 0, [], [])) (v := some (.inl fo)) rfl (Or.inl rfl) (by
          have r9 : fo = cnf S set z (S 0 0).toNat := by
            first
            | (rw [hf, show k = S 0 0 by omega]; done)
            | (rw [hf]; refine (cnf_sk (by omega) k1 (fun t z1 z2 y => ?_)).symm; have w1 := (hV.1.2.2.2.1 t (by omega) z2).2.2 k (by omega) z1; have w2 := (hV.1.2.2.2.1 k (by omega) (by omega)).2.2 _ lb.1 k0; omega)
          rw [r9]; exact hQ)
      · rw [c_ge (by first | assumption | (refine ⟨?_, ?_⟩ <;> omega) | (simp only [xr] at *; omega)) (by first | assumption | (refine ⟨?_, ?_⟩ <;> omega) | (simp only [xr] at *; omega))] at c11
        simp only [decide_eq_true_eq, decide_eq_false_iff_not, Decidable.not_not] at c11
        show xEx G0 cdX7_countFitting (some .int) (xRn G0 MT (d + 2)) Q b 12 [some (.inr (.inr 44)), some (.inl set), some (.inl z), some (.inl fo), some (.inl k)] [] h
        have gz := (hV.2.2.1 k (by omega) (by omega)).1
        have gs := (hV.2.2.1 k (by omega) (by omega)).2
        have g4 := (hV.1.2.2.2.1 k (by omega) (by omega)).1
        have z4 := (hV.1.2.2.2.1 _ lb.1 lb.2.1).1
        refine E_s 4 (i' := 16) (ls' := [some (.inr (.inr 44)), some (.inl set), some (.inl z), some (.inl fo), some (.inl k)]) (sk' := [.inl k, .inr (.inr 18)]) (h' := h) rfl ?_
        refine E_ld (x := (.iaload, 0, [], [])) (ty := .int) (n := 300) rfl rfl rfl (by omega) (by omega) ?_
        show xEx G0 cdX7_countFitting (some .int) (xRn G0 MT (d + 2)) Q b 17 [some (.inr (.inr 44)), some (.inl set), some (.inl z), some (.inl fo), some (.inl k)] [.inl (h 18 k)] h
        refine E_s 1 (i' := 18) (ls' := [some (.inr (.inr 44)), some (.inl set), some (.inl z), some (.inl fo), some (.inl k)]) (sk' := [.inl z, .inl (h 18 k)]) (h' := h) rfl ?_
        refine E_b (x := (.if_icmp .ne 45, 39, [], [])) rfl rfl (fun c18 => ?_) (fun c18 => ?_)
        · rw [c_ne (by first | assumption | (refine ⟨?_, ?_⟩ <;> omega) | (simp only [xr] at *; omega)) (by first | assumption | (refine ⟨?_, ?_⟩ <;> omega) | (simp only [xr] at *; omega))] at c18
          simp only [decide_eq_true_eq, decide_eq_false_iff_not, Decidable.not_not] at c18
          show xEx G0 cdX7_countFitting (some .int) (xRn G0 MT (d + 2)) Q b 39 [some (.inr (.inr 44)), some (.inl set), some (.inl z), some (.inl fo), some (.inl k)] [] h
          refine E_s 1 (i' := 40) (ls' := [some (.inr (.inr 44)), some (.inl set), some (.inl z), some (.inl fo), some (.inl k)]) (sk' := [.inl fo]) (h' := h) rfl ?_
          exact E_ret (x := (.ireturn, 0, [], [])) (v := some (.inl fo)) rfl (Or.inl rfl) (by
            have r9 : fo = cnf S set z (S 0 0).toNat := by
              first
              | (rw [hf, show k = S 0 0 by omega]; done)
              | (rw [hf]; refine (cnf_sk (by omega) k1 (fun t z1 z2 y => ?_)).symm; have w1 := (hV.1.2.2.2.1 t (by omega) z2).2.2 k (by omega) z1; have w2 := (hV.1.2.2.2.1 k (by omega) (by omega)).2.2 _ lb.1 k0; omega)
            rw [r9]; exact hQ)
        · rw [c_ne (by first | assumption | (refine ⟨?_, ?_⟩ <;> omega) | (simp only [xr] at *; omega)) (by first | assumption | (refine ⟨?_, ?_⟩ <;> omega) | (simp only [xr] at *; omega))] at c18
          simp only [decide_eq_true_eq, decide_eq_false_iff_not, Decidable.not_not] at c18
          show xEx G0 cdX7_countFitting (some .int) (xRn G0 MT (d + 2)) Q b 19 [some (.inr (.inr 44)), some (.inl set), some (.inl z), some (.inl fo), some (.inl k)] [] h
          refine E_s 5 (i' := 24) (ls' := [some (.inr (.inr 44)), some (.inl set), some (.inl z), some (.inl fo), some (.inl k)]) (sk' := [.inl k, .inr (.inr 20), .inl set]) (h' := h) rfl ?_
          refine E_ld (x := (.iaload, 0, [], [])) (ty := .int) (n := 300) rfl rfl rfl (by omega) (by omega) ?_
          show xEx G0 cdX7_countFitting (some .int) (xRn G0 MT (d + 2)) Q b 25 [some (.inr (.inr 44)), some (.inl set), some (.inl z), some (.inl fo), some (.inl k)] [.inl (h 20 k), .inl set] h
          refine E_s 3 (i' := 28) (ls' := [some (.inr (.inr 44)), some (.inl set), some (.inl z), some (.inl fo), some (.inl k)]) (sk' := [.inl (xand set (xxor (h 20 k) (-1)))]) (h' := h) rfl ?_
          refine E_b (x := (.ifCond .ne 22, 37, [], [])) rfl rfl (fun c28 => ?_) (fun c28 => ?_)
          · rw [c_ne (by first | exact xand_r _ _ | exact ⟨by omega, by omega⟩) (by first | exact xand_r _ _ | exact ⟨by omega, by omega⟩)] at c28
            simp only [decide_eq_true_eq, decide_eq_false_iff_not, Decidable.not_not] at c28
            show xEx G0 cdX7_countFitting (some .int) (xRn G0 MT (d + 2)) Q b 37 [some (.inr (.inr 44)), some (.inl set), some (.inl z), some (.inl fo), some (.inl k)] [] h
            skip
            refine E_s 2 (i' := 7) (ls' := [some (.inr (.inr 44)), some (.inl set), some (.inl z), some (.inl fo), some (.inl (k + 1))]) (sk' := []) (h' := h) rfl ?_
            exact ih7 (k + 1) (fo) (by omega) (by omega) (by rw [cnf_n (by omega) (fun y => c28 (by have := y.1; unfold sub at this; rw [← gs] at this; exact this)), hf]) (by omega)
          · rw [c_ne (by first | exact xand_r _ _ | exact ⟨by omega, by omega⟩) (by first | exact xand_r _ _ | exact ⟨by omega, by omega⟩)] at c28
            simp only [decide_eq_true_eq, decide_eq_false_iff_not, Decidable.not_not] at c28
            show xEx G0 cdX7_countFitting (some .int) (xRn G0 MT (d + 2)) Q b 29 [some (.inr (.inr 44)), some (.inl set), some (.inl z), some (.inl fo), some (.inl k)] [] h
            refine E_s 5 (i' := 34) (ls' := [some (.inr (.inr 44)), some (.inl set), some (.inl z), some (.inl fo), some (.inl k)]) (sk' := [.inl (h 44 10), .inl k, .inr (.inr 9)]) (h' := h) rfl ?_
            refine E_cp (x := (.invokevirtual 95, 2, [(1, 29)], [1])) (q := fun r1 h9 => ((r1 = 1 ∧ (lk (h 19 k) (h 44 10))) ∨ (r1 = 0 ∧ ¬ (lk (h 19 k) (h 44 10)))) ∧ h = h9) rfl rfl (Nat.le_of_ble_eq_true rfl) (c_lacks0 d 0 h k (h 44 10) ⟨by omega, by omega⟩ (Or.inl hb) (fun z => ⟨_, rfl, Or.inl ⟨rfl, z⟩, rfl⟩) (fun z => ⟨_, rfl, Or.inr ⟨rfl, z⟩, rfl⟩)) (fun r1 h9 q1 => ?_)
            obtain ⟨q1, rfl⟩ := q1
            show xEx G0 cdX7_countFitting (some .int) (xRn G0 MT (d + 2)) Q b 35 [some (.inr (.inr 44)), some (.inl set), some (.inl z), some (.inl fo), some (.inl k)] [.inl r1] h
            refine E_b (x := (.ifCond .eq 6, 37, [], [])) rfl rfl (fun c35 => ?_) (fun c35 => ?_)
            · rw [c_eq (by first | assumption | (refine ⟨?_, ?_⟩ <;> omega) | (simp only [xr] at *; omega)) (by first | assumption | (refine ⟨?_, ?_⟩ <;> omega) | (simp only [xr] at *; omega))] at c35
              simp only [decide_eq_true_eq, decide_eq_false_iff_not, Decidable.not_not] at c35
              show xEx G0 cdX7_countFitting (some .int) (xRn G0 MT (d + 2)) Q b 37 [some (.inr (.inr 44)), some (.inl set), some (.inl z), some (.inl fo), some (.inl k)] [] h
              skip
              refine E_s 2 (i' := 7) (ls' := [some (.inr (.inr 44)), some (.inl set), some (.inl z), some (.inl fo), some (.inl (k + 1))]) (sk' := []) (h' := h) rfl ?_
              exact ih7 (k + 1) (fo) (by omega) (by omega) (by rw [cnf_n (by omega) (fun y => absurd (Or.inl hb) (o0 q1 (by omega))), hf]) (by omega)
            · rw [c_eq (by first | assumption | (refine ⟨?_, ?_⟩ <;> omega) | (simp only [xr] at *; omega)) (by first | assumption | (refine ⟨?_, ?_⟩ <;> omega) | (simp only [xr] at *; omega))] at c35
              simp only [decide_eq_true_eq, decide_eq_false_iff_not, Decidable.not_not] at c35
              show xEx G0 cdX7_countFitting (some .int) (xRn G0 MT (d + 2)) Q b 36 [some (.inr (.inr 44)), some (.inl set), some (.inl z), some (.inl fo), some (.inl k)] [] h
              refine E_s 1 (i' := 37) (ls' := [some (.inr (.inr 44)), some (.inl set), some (.inl z), some (.inl (fo + 1)), some (.inl k)]) (sk' := []) (h' := h) rfl ?_
              skip
              refine E_s 2 (i' := 7) (ls' := [some (.inr (.inr 44)), some (.inl set), some (.inl z), some (.inl (fo + 1)), some (.inl (k + 1))]) (sk' := []) (h' := h) rfl ?_
              exact ih7 (k + 1) (fo + 1) (by omega) (by omega) (by rw [cnf_y (by omega) ⟨by unfold sub; rw [← gs]; exact c28, by rw [← gz]; exact c18⟩, hf]) (by omega)
  exact key7 _ _ 0 (by rw [e45]; exact Int.le_refl _) (by rw [e45]; omega) (by
    rw [e45]
    have := cnf_sk (S := S) (set := set) (z := z) (a := 0) (b := lf S (S 0 0) (-1) set) (Int.le_refl _) lb.1 (fun t z1 z2 y => lb.2.2.2 t z1 z2 ⟨Or.inl rfl, y.1⟩)
    rw [this]
    rfl) (Nat.lt_succ_self _)
