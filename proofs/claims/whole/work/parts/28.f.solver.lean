/-! a PROGRAM as it is put -/
def NO (as le : Int → Int) : Nat → Int → Prop
  | 0, nd => as nd = -1 ∧ le nd = -1
  | D + 1, nd => (as nd = -1 ∧ le nd = -1) ∧ NO as le D (2 * nd + 1) ∧ NO as le D (2 * nd + 2)
def TV (S T : xH) (KE KT p : Int) (as le : Int → Int) : Nat → Nat → Int → Int → Prop
  | 0, _, nd, set => as nd = -1 ∧ le nd = lf S KE p set
  | D + 1, i, nd, set => (bti S T KE KT p i set = -1 ∧ as nd = -1 ∧ le nd = lf S KE p set ∧ NO as le D (2 * nd + 1) ∧ NO as le D (2 * nd + 2)) ∨ (bti S T KE KT p i set ≠ -1 ∧ as nd = bti S T KE KT p i set ∧ le nd = -1 ∧ TV S T KE KT p as le D (i - 1) (2 * nd + 1) (xand set (T 6 (bti S T KE KT p i set))) ∧ TV S T KE KT p as le D (i - 1) (2 * nd + 2) (xxor set (xand set (T 6 (bti S T KE KT p i set)))))
def sb : Nat → Int → Int → Prop
  | 0, nd, j => j = nd
  | D + 1, nd, j => j = nd ∨ sb D (2 * nd + 1) j ∨ sb D (2 * nd + 2) j
def sbb : Nat → Int → Int → Prop
  | 0, nd, j => j = nd
  | D + 1, nd, j => sbb D (2 * nd + 1) j ∨ sbb D (2 * nd + 2) j
theorem sb_s : ∀ (D : Nat) (nd : Int), sb D nd nd
  | 0, _ => rfl
  | _ + 1, _ => Or.inl rfl
theorem sb_d {D : Nat} {nd j : Int} (hD : D ≤ 2) (h0 : 0 ≤ nd) : (sb D (2 * nd + 1) j → ¬ sb D (2 * nd + 2) j ∧ j ≠ nd) ∧ (sb D (2 * nd + 2) j → j ≠ nd) := by
  have : D = 0 ∨ D = 1 ∨ D = 2 := by omega
  rcases this with rfl | rfl | rfl <;> simp only [sb] <;> omega
theorem NO_fr {as le as' le' : Int → Int} : ∀ (D : Nat) (nd : Int), (∀ j, sb D nd j → as' j = as j ∧ le' j = le j) → NO as le D nd → NO as' le' D nd
  | 0, nd, h, n => by
    obtain ⟨a, b⟩ := h nd rfl
    exact ⟨a.trans n.1, b.trans n.2⟩
  | D + 1, nd, h, n => by
    obtain ⟨a, b⟩ := h nd (Or.inl rfl)
    exact ⟨⟨a.trans n.1.1, b.trans n.1.2⟩, NO_fr D _ (fun j z => h j (Or.inr (Or.inl z))) n.2.1, NO_fr D _ (fun j z => h j (Or.inr (Or.inr z))) n.2.2⟩
theorem TV_fr {S T : xH} {KE KT p : Int} {as le as' le' : Int → Int} : ∀ (D i : Nat) (nd set : Int), (∀ j, sb D nd j → as' j = as j ∧ le' j = le j) → TV S T KE KT p as le D i nd set → TV S T KE KT p as' le' D i nd set
  | 0, i, nd, set, h, n => by
    obtain ⟨a, b⟩ := h nd rfl
    exact ⟨a.trans n.1, b.trans n.2⟩
  | D + 1, i, nd, set, h, n => by
    obtain ⟨a, b⟩ := h nd (Or.inl rfl)
    rcases n with ⟨n1, n2, n3, n4, n5⟩ | ⟨n1, n2, n3, n4, n5⟩
    · exact Or.inl ⟨n1, a.trans n2, b.trans n3, NO_fr D _ (fun j z => h j (Or.inr (Or.inl z))) n4, NO_fr D _ (fun j z => h j (Or.inr (Or.inr z))) n5⟩
    · exact Or.inr ⟨n1, a.trans n2, b.trans n3, TV_fr D _ _ _ (fun j z => h j (Or.inr (Or.inl z))) n4, TV_fr D _ _ _ (fun j z => h j (Or.inr (Or.inr z))) n5⟩
theorem TV_leaf {S T : xH} {KE KT p : Int} {as le as' le' : Int → Int} {D i : Nat} {nd set : Int} (hD : D ≤ 3) (h0 : 0 ≤ nd) (hn : NO as le D nd) (hb : bti S T KE KT p i set = -1) (ha : as' nd = -1) (hl : le' nd = lf S KE p set) (ho : ∀ j, j ≠ nd → as' j = as j ∧ le' j = le j) : TV S T KE KT p as' le' D i nd set := by
  cases D with
  | zero => exact ⟨ha, hl⟩
  | succ D =>
    refine Or.inl ⟨hb, ha, hl, NO_fr D _ (fun j z => ho j ?_) hn.2.1, NO_fr D _ (fun j z => ho j ?_) hn.2.2⟩
    · exact ((sb_d (by omega) h0).1 z).2
    · exact (sb_d (by omega) h0).2 z
theorem TV_node {S T : xH} {KE KT p : Int} {a1 l1 a2 l2 a3 l3 : Int → Int} {D i : Nat} {nd set : Int} (hD : D ≤ 2) (h0 : 0 ≤ nd) (hb : bti S T KE KT p i set ≠ -1) (ha : a1 nd = bti S T KE KT p i set) (hl : l1 nd = -1) (f2 : ∀ j, ¬ sb D (2 * nd + 1) j → a2 j = a1 j ∧ l2 j = l1 j) (t2 : TV S T KE KT p a2 l2 D (i - 1) (2 * nd + 1) (xand set (T 6 (bti S T KE KT p i set)))) (f3 : ∀ j, ¬ sb D (2 * nd + 2) j → a3 j = a2 j ∧ l3 j = l2 j) (t3 : TV S T KE KT p a3 l3 D (i - 1) (2 * nd + 2) (xxor set (xand set (T 6 (bti S T KE KT p i set))))) : TV S T KE KT p a3 l3 (D + 1) i nd set := by
  have x1 : ¬ sb D (2 * nd + 1) nd := fun z => ((sb_d hD h0).1 z).2 rfl
  have x2 : ¬ sb D (2 * nd + 2) nd := fun z => (sb_d hD h0).2 z rfl
  obtain ⟨y1, y2⟩ := f3 nd x2
  obtain ⟨y3, y4⟩ := f2 nd x1
  exact Or.inr ⟨hb, by rw [y1, y3, ha], by rw [y2, y4, hl], TV_fr D _ _ _ (fun j z => f3 j ((sb_d hD h0).1 z).1) t2, t3⟩
/-- two of the same are the same -/
theorem NO_eq {as le as' le' : Int → Int} : ∀ (D : Nat) (nd : Int), NO as le D nd → NO as' le' D nd → ∀ j, sb D nd j → as j = as' j ∧ le j = le' j
  | 0, nd, a, b, j, h => by
    have h : j = nd := h
    rw [h]; exact ⟨a.1.trans b.1.symm, a.2.trans b.2.symm⟩
  | D + 1, nd, a, b, j, h => by
    rcases h with h | h | h
    · rw [h]; exact ⟨a.1.1.trans b.1.1.symm, a.1.2.trans b.1.2.symm⟩
    · exact NO_eq D _ a.2.1 b.2.1 j h
    · exact NO_eq D _ a.2.2 b.2.2 j h
theorem TV_eq {S T : xH} {KE KT p : Int} {as le as' le' : Int → Int} : ∀ (D i : Nat) (nd set : Int), TV S T KE KT p as le D i nd set → TV S T KE KT p as' le' D i nd set → ∀ j, sb D nd j → as j = as' j ∧ le j = le' j
  | 0, i, nd, set, a, b, j, h => by
    have h : j = nd := h
    rw [h]; exact ⟨a.1.trans b.1.symm, a.2.trans b.2.symm⟩
  | D + 1, i, nd, set, a, b, j, h => by
    rcases a with ⟨a1, a2, a3, a4, a5⟩ | ⟨a1, a2, a3, a4, a5⟩ <;> rcases b with ⟨b1, b2, b3, b4, b5⟩ | ⟨b1, b2, b3, b4, b5⟩
    · rcases h with h | h | h
      · rw [h]; exact ⟨a2.trans b2.symm, a3.trans b3.symm⟩
      · exact NO_eq D _ a4 b4 j h
      · exact NO_eq D _ a5 b5 j h
    · exact absurd a1 b1
    · exact absurd b1 a1
    · rcases h with h | h | h
      · rw [h]; exact ⟨a2.trans b2.symm, a3.trans b3.symm⟩
      · exact TV_eq D _ _ _ a4 b4 j h
      · exact TV_eq D _ _ _ a5 b5 j h
theorem bti_spec {S T : xH} {KE KT p : Int} (hK : 0 ≤ KT) (i : Nat) (set : Int) : (szf S T KE KT p i set = sz0 S KE p set ∧ bti S T KE KT p i set = -1) ∨ (szf S T KE KT p i set < sz0 S KE p set ∧ ∃ j, i = j + 1 ∧ 0 ≤ bti S T KE KT p i set ∧ bti S T KE KT p i set < KT ∧ prt T p set (bti S T KE KT p i set) ∧ szt T (szf S T KE KT p j) set (bti S T KE KT p i set) = szf S T KE KT p i set ∧ ∀ t, 0 ≤ t → t < bti S T KE KT p i set → prt T p set t → szf S T KE KT p i set < szt T (szf S T KE KT p j) set t) := by
  cases i with
  | zero => exact Or.inl ⟨rfl, rfl⟩
  | succ j =>
    rcases btf_spec (T := T) (p := p) (f := szf S T KE KT p j) (b0 := sz0 S KE p set) (set := set) KT.toNat with h | ⟨a, b, c, d⟩
    · exact Or.inl h
    · exact Or.inr ⟨a, j, rfl, b, by have c : bti S T KE KT p (j + 1) set < KT.toNat := c; omega, d⟩
theorem TV_TR {S T : xH} {KE KT p : Int} {m : Nat} {as le : Int → Int} (o : OKS S T KE KT m) : ∀ (D i : Nat) (nd set : Int), i ≤ D → szf S T KE KT p i set < 1000000 → KE ≤ S 0 0 → KT ≤ T 0 0 → TV S T KE KT p as le D i nd set → TRp as le S T D nd ∧ szp as le S T D nd = szf S T KE KT p i set
  | 0, i, nd, set, hi, hz, hE, hT, v => by
    have : i = 0 := by omega
    subst this
    have hz : sz0 S KE p set < 1000000 := hz
    obtain ⟨v1, v2⟩ := v
    have hl : lf S KE p set ≠ -1 := fun y => by unfold sz0 at hz; rw [if_pos y] at hz; omega
    rcases lf_spec S KE p set with q | q
    · exact absurd q.1 hl
    · refine ⟨⟨v1, by rw [v2]; exact q.1, by rw [v2]; omega⟩, ?_⟩
      show S 4 (le nd) = sz0 S KE p set
      unfold sz0
      rw [if_neg hl, v2]
  | D + 1, i, nd, set, hi, hz, hE, hT, v => by
    rcases v with ⟨v1, v2, v3, -⟩ | ⟨v1, v2, v3, v4, v5⟩
    · rcases bti_spec (S := S) (KE := KE) o.2.2.1.1 i set with ⟨b1, -⟩ | ⟨-, j, -, b1, -⟩
      · rw [b1] at hz ⊢
        have hl : lf S KE p set ≠ -1 := fun y => by unfold sz0 at hz; rw [if_pos y] at hz; omega
        rcases lf_spec S KE p set with q | q
        · exact absurd q.1 hl
        · refine ⟨Or.inl ⟨v2, by rw [v3]; exact q.1, by rw [v3]; omega⟩, ?_⟩
          unfold szp sz0
          rw [if_pos v2, if_neg hl, v3]
      · omega
    · rcases bti_spec (S := S) (KE := KE) o.2.2.1.1 i set with ⟨-, b1⟩ | ⟨-, j, e, b1, b2, b3, b4, -⟩
      · exact absurd b1 v1
      · subst e
        have r1 := szf_r (p := p) o j (xand set (T 6 (bti S T KE KT p (j + 1) set)))
        have r2 := szf_r (p := p) o j (xxor set (xand set (T 6 (bti S T KE KT p (j + 1) set))))
        have t4 := (o.2.2.2.2 _ b1 b2).1
        have b5 := b4
        unfold szt at b5
        obtain ⟨w1, w2⟩ := TV_TR o D j _ _ (by omega) (by omega) hE hT v4
        obtain ⟨w3, w4⟩ := TV_TR o D j _ _ (by omega) (by omega) hE hT v5
        refine ⟨Or.inr ⟨by rw [v2]; exact b1, by rw [v2]; omega, v3, w1, w3⟩, ?_⟩
        unfold szp
        rw [if_neg (by rw [v2]; exact v1), w2, w4, v2]
        omega
theorem NO_b {as le : Int → Int} : ∀ (D : Nat) (nd j : Int), NO as le D nd → sb D nd j → as j = -1 ∧ le j = -1
  | 0, nd, j, v, h => by
    have h : j = nd := h
    rw [h]; exact v
  | D + 1, nd, j, v, h => by
    rcases h with h | h | h
    · rw [h]; exact v.1
    · exact NO_b D _ j v.2.1 h
    · exact NO_b D _ j v.2.2 h
theorem TV_b {S T : xH} {KE KT p : Int} {as le : Int → Int} (hK : 0 ≤ KT) : ∀ (D i : Nat) (nd set j : Int), TV S T KE KT p as le D i nd set → sb D nd j → (as j = -1 ∨ le j = -1) ∧ (-1 ≤ as j ∧ as j < KT) ∧ (-1 ≤ le j ∧ (le j < KE ∨ le j = -1))
  | 0, i, nd, set, j, v, h => by
    have h : j = nd := h
    rw [h, v.1, v.2]
    rcases lf_spec S KE p set with q | q <;> omega
  | D + 1, i, nd, set, j, v, h => by
    rcases v with ⟨v1, v2, v3, v4, v5⟩ | ⟨v1, v2, v3, v4, v5⟩
    · rcases h with h | h | h
      · rw [h, v2, v3]
        rcases lf_spec S KE p set with q | q <;> omega
      · obtain ⟨a, b⟩ := NO_b D _ j v4 h
        rw [a, b]; omega
      · obtain ⟨a, b⟩ := NO_b D _ j v5 h
        rw [a, b]; omega
    · rcases h with h | h | h
      · rw [h, v2, v3]
        rcases bti_spec (S := S) (T := T) (KE := KE) (p := p) hK i set with ⟨-, b1⟩ | ⟨-, j9, -, b1, b2, -⟩
        · exact absurd b1 v1
        · omega
      · exact TV_b hK D _ _ _ j v4 h
      · exact TV_b hK D _ _ _ j v5 h
theorem sbb_sb : ∀ (D : Nat) (nd j : Int), sbb D nd j → sb D nd j
  | 0, _, _, h => h
  | D + 1, nd, j, h => by
    rcases h with h | h
    · exact Or.inr (Or.inl (sbb_sb D _ _ h))
    · exact Or.inr (Or.inr (sbb_sb D _ _ h))
theorem TV_7 {S T : xH} {KE KT p : Int} {as le : Int → Int} : ∀ (D i : Nat) (nd set j : Int), TV S T KE KT p as le D i nd set → sbb D nd j → as j = -1
  | 0, i, nd, set, j, v, h => by
    have h : j = nd := h
    rw [h]; exact v.1
  | D + 1, i, nd, set, j, v, h => by
    rcases v with ⟨v1, v2, v3, v4, v5⟩ | ⟨v1, v2, v3, v4, v5⟩
    · rcases h with h | h
      · exact (NO_b D _ j v4 (sbb_sb D _ _ h)).1
      · exact (NO_b D _ j v5 (sbb_sb D _ _ h)).1
    · rcases h with h | h
      · exact TV_7 D _ _ _ j v4 h
      · exact TV_7 D _ _ _ j v5 h
theorem sb3 {j : Int} (h0 : 0 ≤ j) (h1 : j < 15) : sb 3 0 j := by simp only [sb]; omega
theorem sbb3 {j : Int} (h0 : 7 ≤ j) (h1 : j < 15) : sbb 3 0 j := by simp only [sbb]; omega
theorem NO_all {as le : Int → Int} (h : ∀ j, 0 ≤ j → j < 15 → as j = -1 ∧ le j = -1) : NO as le 3 0 := by
  simp only [NO]
  exact ⟨h _ (by decide) (by decide), ⟨h _ (by decide) (by decide), ⟨h _ (by decide) (by decide), h _ (by decide) (by decide), h _ (by decide) (by decide)⟩, h _ (by decide) (by decide), h _ (by decide) (by decide), h _ (by decide) (by decide)⟩, h _ (by decide) (by decide), ⟨h _ (by decide) (by decide), h _ (by decide) (by decide), h _ (by decide) (by decide)⟩, h _ (by decide) (by decide), h _ (by decide) (by decide), h _ (by decide) (by decide)⟩
def sno (z : Int) : Int := if z = 1000000 then -1 else z
set_option maxHeartbeats 1000000 in
theorem c_sON0 (d b : Nat) (h S T : xH) (p set : Int) (m : Nat) (hV : SVF h S T p m) (hM : SVM h S T p m) (hs : ir m set) {Q : xO → xH → Prop} (hQ : ∀ h', FZ h h' → SVM h' S T p m → Q (.inl (some (.inl (sno (szf S T (S 0 0) (T 0 0) p 0 set))))) h') : xRn G0 MT (d + 2) b 62 [.inr (.inr 44), .inl set, .inl 0] h Q := by
  refine R_of (M := mX7_sizeOrNone) rfl (Nat.le_of_ble_eq_true rfl) ?_
  show xEx G0 cdX7_sizeOrNone (some .int) (xRn G0 MT (d + 1)) Q b 0 [some (.inr (.inr 44)), some (.inl set), some (.inl 0), none] [] h
  refine E_s 3 (i' := 3) (ls' := [some (.inr (.inr 44)), some (.inl set), some (.inl 0), none]) (sk' := [.inl 0, .inl set, .inr (.inr 44)]) (h' := h) rfl ?_
  refine E_ci (x := (.invokevirtual 99, 2, [(5, 63)], [0])) (r := (szf S T (S 0 0) (T 0 0) p 0 set)) (h' := h) rfl rfl (Nat.le_of_ble_eq_true rfl) (c_szO0 d 0 h S T p set m hV hM hs ⟨rfl, rfl⟩) ?_
  show xEx G0 cdX7_sizeOrNone (some .int) (xRn G0 MT (d + 1)) Q b 4 [some (.inr (.inr 44)), some (.inl set), some (.inl 0), none] [.inl (szf S T (S 0 0) (T 0 0) p 0 set)] h
  refine E_s 1 (i' := 5) (ls' := [some (.inr (.inr 44)), some (.inl set), some (.inl 0), some (.inl (szf S T (S 0 0) (T 0 0) p 0 set))]) (sk' := []) (h' := h) rfl ?_
  have z9 := szf_r (p := p) hV.1 0 set
  refine E_s 2 (i' := 7) (ls' := [some (.inr (.inr 44)), some (.inl set), some (.inl 0), some (.inl (szf S T (S 0 0) (T 0 0) p 0 set))]) (sk' := [.inl 1000000, .inl (szf S T (S 0 0) (T 0 0) p 0 set)]) (h' := h) rfl ?_
  refine E_b (x := (.if_icmp .ne 7, 10, [], [])) rfl rfl (fun c7 => ?_) (fun c7 => ?_)
  · rw [c_ne (by first | assumption | (refine ⟨?_, ?_⟩ <;> omega) | (simp only [xr] at *; omega)) (by first | assumption | (refine ⟨?_, ?_⟩ <;> omega) | (simp only [xr] at *; omega))] at c7
    simp only [decide_eq_true_eq, decide_eq_false_iff_not, Decidable.not_not] at c7
    show xEx G0 cdX7_sizeOrNone (some .int) (xRn G0 MT (d + 1)) Q b 10 [some (.inr (.inr 44)), some (.inl set), some (.inl 0), some (.inl (szf S T (S 0 0) (T 0 0) p 0 set))] [] h
    refine E_s 1 (i' := 11) (ls' := [some (.inr (.inr 44)), some (.inl set), some (.inl 0), some (.inl (szf S T (S 0 0) (T 0 0) p 0 set))]) (sk' := [.inl (szf S T (S 0 0) (T 0 0) p 0 set)]) (h' := h) rfl ?_
    exact E_ret (x := (.ireturn, 0, [], [])) (v := some (.inl (szf S T (S 0 0) (T 0 0) p 0 set))) rfl (Or.inl rfl) (by
      have r9 := hQ _ (FZ.rf h) hM
      unfold sno at r9
      rw [if_neg (by omega)] at r9
      exact r9)
  · rw [c_ne (by first | assumption | (refine ⟨?_, ?_⟩ <;> omega) | (simp only [xr] at *; omega)) (by first | assumption | (refine ⟨?_, ?_⟩ <;> omega) | (simp only [xr] at *; omega))] at c7
    simp only [decide_eq_true_eq, decide_eq_false_iff_not, Decidable.not_not] at c7
    show xEx G0 cdX7_sizeOrNone (some .int) (xRn G0 MT (d + 1)) Q b 8 [some (.inr (.inr 44)), some (.inl set), some (.inl 0), some (.inl (szf S T (S 0 0) (T 0 0) p 0 set))] [] h
    refine E_s 2 (i' := 11) (ls' := [some (.inr (.inr 44)), some (.inl set), some (.inl 0), some (.inl (szf S T (S 0 0) (T 0 0) p 0 set))]) (sk' := [.inl (-1)]) (h' := h) rfl ?_
    exact E_ret (x := (.ireturn, 0, [], [])) (v := some (.inl (-1))) rfl (Or.inl rfl) (by
      have r9 := hQ _ (FZ.rf h) hM
      unfold sno at r9
      rw [if_pos (by omega)] at r9
      exact r9)
set_option maxHeartbeats 1000000 in
theorem c_sON1 (d b : Nat) (h S T : xH) (p set : Int) (m : Nat) (hV : SVF h S T p m) (hM : SVM h S T p m) (hs : ir m set) {Q : xO → xH → Prop} (hQ : ∀ h', FZ h h' → SVM h' S T p m → Q (.inl (some (.inl (sno (szf S T (S 0 0) (T 0 0) p 1 set))))) h') : xRn G0 MT (d + 4) b 62 [.inr (.inr 44), .inl set, .inl 1] h Q := by
  refine R_of (M := mX7_sizeOrNone) rfl (Nat.le_of_ble_eq_true rfl) ?_
  show xEx G0 cdX7_sizeOrNone (some .int) (xRn G0 MT (d + 3)) Q b 0 [some (.inr (.inr 44)), some (.inl set), some (.inl 1), none] [] h
  refine E_s 3 (i' := 3) (ls' := [some (.inr (.inr 44)), some (.inl set), some (.inl 1), none]) (sk' := [.inl 1, .inl set, .inr (.inr 44)]) (h' := h) rfl ?_
  refine E_cp (x := (.invokevirtual 99, 2, [(5, 63)], [0])) (q := fun r h9 => r = szf S T (S 0 0) (T 0 0) p 1 set ∧ FZ h h9 ∧ SVM h9 S T p m) rfl rfl (Nat.le_of_ble_eq_true rfl) (c_szO1 d 0 h S T p set m hV hM hs (fun h9 z1 z2 => ⟨_, rfl, rfl, z1, z2⟩)) (fun r1 h1 hq1 => ?_)
  obtain ⟨er1, f1, m1⟩ := hq1
  show xEx G0 cdX7_sizeOrNone (some .int) (xRn G0 MT (d + 3)) Q b 4 [some (.inr (.inr 44)), some (.inl set), some (.inl 1), none] [.inl r1] h1
  refine E_ti (y := (szf S T (S 0 0) (T 0 0) p 1 set)) (by rw [er1]) ?_
  refine E_s 1 (i' := 5) (ls' := [some (.inr (.inr 44)), some (.inl set), some (.inl 1), some (.inl (szf S T (S 0 0) (T 0 0) p 1 set))]) (sk' := []) (h' := h1) rfl ?_
  have z9 := szf_r (p := p) hV.1 1 set
  refine E_s 2 (i' := 7) (ls' := [some (.inr (.inr 44)), some (.inl set), some (.inl 1), some (.inl (szf S T (S 0 0) (T 0 0) p 1 set))]) (sk' := [.inl 1000000, .inl (szf S T (S 0 0) (T 0 0) p 1 set)]) (h' := h1) rfl ?_
  refine E_b (x := (.if_icmp .ne 7, 10, [], [])) rfl rfl (fun c7 => ?_) (fun c7 => ?_)
  · rw [c_ne (by first | assumption | (refine ⟨?_, ?_⟩ <;> omega) | (simp only [xr] at *; omega)) (by first | assumption | (refine ⟨?_, ?_⟩ <;> omega) | (simp only [xr] at *; omega))] at c7
    simp only [decide_eq_true_eq, decide_eq_false_iff_not, Decidable.not_not] at c7
    show xEx G0 cdX7_sizeOrNone (some .int) (xRn G0 MT (d + 3)) Q b 10 [some (.inr (.inr 44)), some (.inl set), some (.inl 1), some (.inl (szf S T (S 0 0) (T 0 0) p 1 set))] [] h1
    refine E_s 1 (i' := 11) (ls' := [some (.inr (.inr 44)), some (.inl set), some (.inl 1), some (.inl (szf S T (S 0 0) (T 0 0) p 1 set))]) (sk' := [.inl (szf S T (S 0 0) (T 0 0) p 1 set)]) (h' := h1) rfl ?_
    exact E_ret (x := (.ireturn, 0, [], [])) (v := some (.inl (szf S T (S 0 0) (T 0 0) p 1 set))) rfl (Or.inl rfl) (by
      have r9 := hQ _ f1 m1
      unfold sno at r9
      rw [if_neg (by omega)] at r9
      exact r9)
  · rw [c_ne (by first | assumption | (refine ⟨?_, ?_⟩ <;> omega) | (simp only [xr] at *; omega)) (by first | assumption | (refine ⟨?_, ?_⟩ <;> omega) | (simp only [xr] at *; omega))] at c7
    simp only [decide_eq_true_eq, decide_eq_false_iff_not, Decidable.not_not] at c7
    show xEx G0 cdX7_sizeOrNone (some .int) (xRn G0 MT (d + 3)) Q b 8 [some (.inr (.inr 44)), some (.inl set), some (.inl 1), some (.inl (szf S T (S 0 0) (T 0 0) p 1 set))] [] h1
    refine E_s 2 (i' := 11) (ls' := [some (.inr (.inr 44)), some (.inl set), some (.inl 1), some (.inl (szf S T (S 0 0) (T 0 0) p 1 set))]) (sk' := [.inl (-1)]) (h' := h1) rfl ?_
    exact E_ret (x := (.ireturn, 0, [], [])) (v := some (.inl (-1))) rfl (Or.inl rfl) (by
      have r9 := hQ _ f1 m1
      unfold sno at r9
      rw [if_pos (by omega)] at r9
      exact r9)
set_option maxHeartbeats 1000000 in
theorem c_sON2 (d b : Nat) (h S T : xH) (p set : Int) (m : Nat) (hV : SVF h S T p m) (hM : SVM h S T p m) (hs : ir m set) {Q : xO → xH → Prop} (hQ : ∀ h', FZ h h' → SVM h' S T p m → Q (.inl (some (.inl (sno (szf S T (S 0 0) (T 0 0) p 2 set))))) h') : xRn G0 MT (d + 6) b 62 [.inr (.inr 44), .inl set, .inl 2] h Q := by
  refine R_of (M := mX7_sizeOrNone) rfl (Nat.le_of_ble_eq_true rfl) ?_
  show xEx G0 cdX7_sizeOrNone (some .int) (xRn G0 MT (d + 5)) Q b 0 [some (.inr (.inr 44)), some (.inl set), some (.inl 2), none] [] h
  refine E_s 3 (i' := 3) (ls' := [some (.inr (.inr 44)), some (.inl set), some (.inl 2), none]) (sk' := [.inl 2, .inl set, .inr (.inr 44)]) (h' := h) rfl ?_
  refine E_cp (x := (.invokevirtual 99, 2, [(5, 63)], [0])) (q := fun r h9 => r = szf S T (S 0 0) (T 0 0) p 2 set ∧ FZ h h9 ∧ SVM h9 S T p m) rfl rfl (Nat.le_of_ble_eq_true rfl) (c_szO2 d 0 h S T p set m hV hM hs (fun h9 z1 z2 => ⟨_, rfl, rfl, z1, z2⟩)) (fun r1 h1 hq1 => ?_)
  obtain ⟨er1, f1, m1⟩ := hq1
  show xEx G0 cdX7_sizeOrNone (some .int) (xRn G0 MT (d + 5)) Q b 4 [some (.inr (.inr 44)), some (.inl set), some (.inl 2), none] [.inl r1] h1
  refine E_ti (y := (szf S T (S 0 0) (T 0 0) p 2 set)) (by rw [er1]) ?_
  refine E_s 1 (i' := 5) (ls' := [some (.inr (.inr 44)), some (.inl set), some (.inl 2), some (.inl (szf S T (S 0 0) (T 0 0) p 2 set))]) (sk' := []) (h' := h1) rfl ?_
  have z9 := szf_r (p := p) hV.1 2 set
  refine E_s 2 (i' := 7) (ls' := [some (.inr (.inr 44)), some (.inl set), some (.inl 2), some (.inl (szf S T (S 0 0) (T 0 0) p 2 set))]) (sk' := [.inl 1000000, .inl (szf S T (S 0 0) (T 0 0) p 2 set)]) (h' := h1) rfl ?_
  refine E_b (x := (.if_icmp .ne 7, 10, [], [])) rfl rfl (fun c7 => ?_) (fun c7 => ?_)
  · rw [c_ne (by first | assumption | (refine ⟨?_, ?_⟩ <;> omega) | (simp only [xr] at *; omega)) (by first | assumption | (refine ⟨?_, ?_⟩ <;> omega) | (simp only [xr] at *; omega))] at c7
    simp only [decide_eq_true_eq, decide_eq_false_iff_not, Decidable.not_not] at c7
    show xEx G0 cdX7_sizeOrNone (some .int) (xRn G0 MT (d + 5)) Q b 10 [some (.inr (.inr 44)), some (.inl set), some (.inl 2), some (.inl (szf S T (S 0 0) (T 0 0) p 2 set))] [] h1
    refine E_s 1 (i' := 11) (ls' := [some (.inr (.inr 44)), some (.inl set), some (.inl 2), some (.inl (szf S T (S 0 0) (T 0 0) p 2 set))]) (sk' := [.inl (szf S T (S 0 0) (T 0 0) p 2 set)]) (h' := h1) rfl ?_
    exact E_ret (x := (.ireturn, 0, [], [])) (v := some (.inl (szf S T (S 0 0) (T 0 0) p 2 set))) rfl (Or.inl rfl) (by
      have r9 := hQ _ f1 m1
      unfold sno at r9
      rw [if_neg (by omega)] at r9
      exact r9)
  · rw [c_ne (by first | assumption | (refine ⟨?_, ?_⟩ <;> omega) | (simp only [xr] at *; omega)) (by first | assumption | (refine ⟨?_, ?_⟩ <;> omega) | (simp only [xr] at *; omega))] at c7
    simp only [decide_eq_true_eq, decide_eq_false_iff_not, Decidable.not_not] at c7
    show xEx G0 cdX7_sizeOrNone (some .int) (xRn G0 MT (d + 5)) Q b 8 [some (.inr (.inr 44)), some (.inl set), some (.inl 2), some (.inl (szf S T (S 0 0) (T 0 0) p 2 set))] [] h1
    refine E_s 2 (i' := 11) (ls' := [some (.inr (.inr 44)), some (.inl set), some (.inl 2), some (.inl (szf S T (S 0 0) (T 0 0) p 2 set))]) (sk' := [.inl (-1)]) (h' := h1) rfl ?_
    exact E_ret (x := (.ireturn, 0, [], [])) (v := some (.inl (-1))) rfl (Or.inl rfl) (by
      have r9 := hQ _ f1 m1
      unfold sno at r9
      rw [if_pos (by omega)] at r9
      exact r9)
set_option maxHeartbeats 1000000 in
theorem c_sON3 (d b : Nat) (h S T : xH) (p set : Int) (m : Nat) (hV : SVF h S T p m) (hM : SVM h S T p m) (hs : ir m set) {Q : xO → xH → Prop} (hQ : ∀ h', FZ h h' → SVM h' S T p m → Q (.inl (some (.inl (sno (szf S T (S 0 0) (T 0 0) p 3 set))))) h') : xRn G0 MT (d + 8) b 62 [.inr (.inr 44), .inl set, .inl 3] h Q := by
  refine R_of (M := mX7_sizeOrNone) rfl (Nat.le_of_ble_eq_true rfl) ?_
  show xEx G0 cdX7_sizeOrNone (some .int) (xRn G0 MT (d + 7)) Q b 0 [some (.inr (.inr 44)), some (.inl set), some (.inl 3), none] [] h
  refine E_s 3 (i' := 3) (ls' := [some (.inr (.inr 44)), some (.inl set), some (.inl 3), none]) (sk' := [.inl 3, .inl set, .inr (.inr 44)]) (h' := h) rfl ?_
  refine E_cp (x := (.invokevirtual 99, 2, [(5, 63)], [0])) (q := fun r h9 => r = szf S T (S 0 0) (T 0 0) p 3 set ∧ FZ h h9 ∧ SVM h9 S T p m) rfl rfl (Nat.le_of_ble_eq_true rfl) (c_szO3 d 0 h S T p set m hV hM hs (fun h9 z1 z2 => ⟨_, rfl, rfl, z1, z2⟩)) (fun r1 h1 hq1 => ?_)
  obtain ⟨er1, f1, m1⟩ := hq1
  show xEx G0 cdX7_sizeOrNone (some .int) (xRn G0 MT (d + 7)) Q b 4 [some (.inr (.inr 44)), some (.inl set), some (.inl 3), none] [.inl r1] h1
  refine E_ti (y := (szf S T (S 0 0) (T 0 0) p 3 set)) (by rw [er1]) ?_
  refine E_s 1 (i' := 5) (ls' := [some (.inr (.inr 44)), some (.inl set), some (.inl 3), some (.inl (szf S T (S 0 0) (T 0 0) p 3 set))]) (sk' := []) (h' := h1) rfl ?_
  have z9 := szf_r (p := p) hV.1 3 set
  refine E_s 2 (i' := 7) (ls' := [some (.inr (.inr 44)), some (.inl set), some (.inl 3), some (.inl (szf S T (S 0 0) (T 0 0) p 3 set))]) (sk' := [.inl 1000000, .inl (szf S T (S 0 0) (T 0 0) p 3 set)]) (h' := h1) rfl ?_
  refine E_b (x := (.if_icmp .ne 7, 10, [], [])) rfl rfl (fun c7 => ?_) (fun c7 => ?_)
  · rw [c_ne (by first | assumption | (refine ⟨?_, ?_⟩ <;> omega) | (simp only [xr] at *; omega)) (by first | assumption | (refine ⟨?_, ?_⟩ <;> omega) | (simp only [xr] at *; omega))] at c7
    simp only [decide_eq_true_eq, decide_eq_false_iff_not, Decidable.not_not] at c7
    show xEx G0 cdX7_sizeOrNone (some .int) (xRn G0 MT (d + 7)) Q b 10 [some (.inr (.inr 44)), some (.inl set), some (.inl 3), some (.inl (szf S T (S 0 0) (T 0 0) p 3 set))] [] h1
    refine E_s 1 (i' := 11) (ls' := [some (.inr (.inr 44)), some (.inl set), some (.inl 3), some (.inl (szf S T (S 0 0) (T 0 0) p 3 set))]) (sk' := [.inl (szf S T (S 0 0) (T 0 0) p 3 set)]) (h' := h1) rfl ?_
    exact E_ret (x := (.ireturn, 0, [], [])) (v := some (.inl (szf S T (S 0 0) (T 0 0) p 3 set))) rfl (Or.inl rfl) (by
      have r9 := hQ _ f1 m1
      unfold sno at r9
      rw [if_neg (by omega)] at r9
      exact r9)
  · rw [c_ne (by first | assumption | (refine ⟨?_, ?_⟩ <;> omega) | (simp only [xr] at *; omega)) (by first | assumption | (refine ⟨?_, ?_⟩ <;> omega) | (simp only [xr] at *; omega))] at c7
    simp only [decide_eq_true_eq, decide_eq_false_iff_not, Decidable.not_not] at c7
    show xEx G0 cdX7_sizeOrNone (some .int) (xRn G0 MT (d + 7)) Q b 8 [some (.inr (.inr 44)), some (.inl set), some (.inl 3), some (.inl (szf S T (S 0 0) (T 0 0) p 3 set))] [] h1
    refine E_s 2 (i' := 11) (ls' := [some (.inr (.inr 44)), some (.inl set), some (.inl 3), some (.inl (szf S T (S 0 0) (T 0 0) p 3 set))]) (sk' := [.inl (-1)]) (h' := h1) rfl ?_
    exact E_ret (x := (.ireturn, 0, [], [])) (v := some (.inl (-1))) rfl (Or.inl rfl) (by
      have r9 := hQ _ f1 m1
      unfold sno at r9
      rw [if_pos (by omega)] at r9
      exact r9)
theorem c_sON (d b : Nat) (h S T : xH) (p set ifs : Int) (m : Nat) (hV : SVF h S T p m) (hM : SVM h S T p m) (hs : ir m set) (hi : 0 ≤ ifs ∧ ifs ≤ 3) {Q : xO → xH → Prop} (hQ : ∀ h', FZ h h' → SVM h' S T p m → Q (.inl (some (.inl (sno (szf S T (S 0 0) (T 0 0) p ifs.toNat set))))) h') : xRn G0 MT (d + 8) b 62 [.inr (.inr 44), .inl set, .inl ifs] h Q := by
  have : ifs = 0 ∨ ifs = 1 ∨ ifs = 2 ∨ ifs = 3 := by omega
  rcases this with rfl | rfl | rfl | rfl
  · exact c_sON0 (d + 6) b h S T p set m hV hM hs hQ
  · exact c_sON1 (d + 4) b h S T p set m hV hM hs hQ
  · exact c_sON2 (d + 2) b h S T p set m hV hM hs hQ
  · exact c_sON3 d b h S T p set m hV hM hs hQ
set_option maxHeartbeats 1000000 in
theorem c_fTW1 (d b : Nat) (h S T : xH) (p set : Int) (m : Nat) (hV : SVF h S T p m) (hM : SVM h S T p m) (hs : ir m set) (hlt : szf S T (S 0 0) (T 0 0) p 1 set < sz0 S (S 0 0) p set) {Q : xO → xH → Prop} (hQ : ∀ h', FZ h h' → SVM h' S T p m → Q (.inl (some (.inl (bti S T (S 0 0) (T 0 0) p 1 set)))) h') : xRn G0 MT (d + 3) b 67 [.inr (.inr 44), .inl (szf S T (S 0 0) (T 0 0) p 1 set), .inl set, .inl 1] h Q := by
  refine R_of (M := mX7_firstTestWith) rfl (Nat.le_of_ble_eq_true rfl) ?_
  show xEx G0 cdX7_firstTestWith (some .int) (xRn G0 MT (d + 2)) Q b 0 [some (.inr (.inr 44)), some (.inl (szf S T (S 0 0) (T 0 0) p 1 set)), some (.inl set), some (.inl 1), none] [] h
  have uc := hV.2.2.2.2.2.2
  have zr := szf_r (p := p) hV.1 1 set
  have z0 := sz0_r (p := p) hV.1 set
  have uk := hV.1.2.2.1
  obtain ⟨j9, j0, j1, j2, bt0, bt1, bp, be, bf⟩ : ∃ j9, 0 ≤ j9 ∧ j9 < h 44 8 ∧ h 55 j9 = (bti S T (S 0 0) (T 0 0) p 1 set) ∧ 0 ≤ (bti S T (S 0 0) (T 0 0) p 1 set) ∧ (bti S T (S 0 0) (T 0 0) p 1 set) < T 0 0 ∧ prt T p set (bti S T (S 0 0) (T 0 0) p 1 set) ∧ szt T (szf S T (S 0 0) (T 0 0) p 0) set (bti S T (S 0 0) (T 0 0) p 1 set) = szf S T (S 0 0) (T 0 0) p 1 set ∧ ∀ t, 0 ≤ t → t < (bti S T (S 0 0) (T 0 0) p 1 set) → prt T p set t → szf S T (S 0 0) (T 0 0) p 1 set < szt T (szf S T (S 0 0) (T 0 0) p 0) set t := by
    rcases bti_spec (S := S) (T := T) (KE := S 0 0) (KT := T 0 0) (p := p) uk.1 1 set with ⟨b1, -⟩ | ⟨-, j, e, b1, b2, b3, b4, b5⟩
    · omega
    · have e : j = 0 := by omega
      subst e
      obtain ⟨j9, x1, x2, x3⟩ := uc.2.2.2.2 _ b1 b2 b3.1
      exact ⟨j9, x1, x2, x3, b1, b2, b3, b4, b5⟩
  refine E_s 2 (i' := 2) (ls' := [some (.inr (.inr 44)), some (.inl (szf S T (S 0 0) (T 0 0) p 1 set)), some (.inl set), some (.inl 1), some (.inl 0)]) (sk' := []) (h' := h) rfl ?_
  have key2 : ∀ (n : Nat) (hh : xH) (i9 : Int), (0 ≤ i9) → (i9 ≤ h 44 8) → (FZ h hh) → (SVM hh S T p m) → (∀ j, 0 ≤ j → j < i9 → ¬ swf T (szf S T (S 0 0) (T 0 0) p 0) set (h 55 j) = szf S T (S 0 0) (T 0 0) p 1 set) → ((h 44 8 - i9).toNat) < n → xEx G0 cdX7_firstTestWith (some .int) (xRn G0 MT (d + 2)) Q b 2 [some (.inr (.inr 44)), some (.inl (szf S T (S 0 0) (T 0 0) p 1 set)), some (.inl set), some (.inl 1), some (.inl i9)] [] hh := by
    intro n
    induction n with
    | zero => intro hh i9 _ _ _ _ _ hm; exact absurd hm (Nat.not_lt_zero _)
    | succ n ih2 =>
      intro hh i9 hi0 hi9 fz hm hno hm2
      have ec : hh 44 8 = h 44 8 := by rw [fz _ (by decide) (by decide)]
      have ucb : 0 ≤ h 44 8 ∧ h 44 8 ≤ T 0 0 := ⟨uc.1, uc.2.1⟩
      refine E_s 3 (i' := 5) (ls' := [some (.inr (.inr 44)), some (.inl (szf S T (S 0 0) (T 0 0) p 1 set)), some (.inl set), some (.inl 1), some (.inl i9)]) (sk' := [.inl (hh 44 8), .inl i9]) (h' := hh) rfl ?_
      refine E_b (x := (.if_icmp .ge 34, 23, [], [])) rfl rfl (fun c5 => ?_) (fun c5 => ?_)
      · rw [c_ge (by first | assumption | (refine ⟨?_, ?_⟩ <;> omega) | (simp only [xr] at *; omega)) (by first | assumption | (refine ⟨?_, ?_⟩ <;> omega) | (simp only [xr] at *; omega))] at c5
        simp only [decide_eq_true_eq, decide_eq_false_iff_not, Decidable.not_not] at c5
        show xEx G0 cdX7_firstTestWith (some .int) (xRn G0 MT (d + 2)) Q b 23 [some (.inr (.inr 44)), some (.inl (szf S T (S 0 0) (T 0 0) p 1 set)), some (.inl set), some (.inl 1), some (.inl i9)] [] hh
        have hx : ¬ swf T (szf S T (S 0 0) (T 0 0) p 0) set (h 55 j9) = szf S T (S 0 0) (T 0 0) p 1 set := hno j9 j0 (by omega)
        exact absurd ((swf_eq (T := T) (p := p) (f := (szf S T (S 0 0) (T 0 0) p 0)) (set := set) (t := h 55 j9) (b := szf S T (S 0 0) (T 0 0) p 1 set) (by rw [j2]; exact bp.1) (by rw [j2]; have := (hV.1.2.2.2.2 _ bt0 bt1).1; omega) (szf_r (p := p) hV.1 0) (by omega)).mpr (by rw [j2]; exact ⟨bp, be⟩)) hx
      · rw [c_ge (by first | assumption | (refine ⟨?_, ?_⟩ <;> omega) | (simp only [xr] at *; omega)) (by first | assumption | (refine ⟨?_, ?_⟩ <;> omega) | (simp only [xr] at *; omega))] at c5
        simp only [decide_eq_true_eq, decide_eq_false_iff_not, Decidable.not_not] at c5
        show xEx G0 cdX7_firstTestWith (some .int) (xRn G0 MT (d + 2)) Q b 6 [some (.inr (.inr 44)), some (.inl (szf S T (S 0 0) (T 0 0) p 1 set)), some (.inl set), some (.inl 1), some (.inl i9)] [] hh
        have ub := uc.2.2.1 i9 hi0 (by omega)
        have uu : hh 55 i9 = h 55 i9 := by rw [fz _ (by decide) (by decide)]
        have o4 := hV.1.2.2.2.2 _ ub.1 ub.2.1
        refine E_s 4 (i' := 10) (ls' := [some (.inr (.inr 44)), some (.inl (szf S T (S 0 0) (T 0 0) p 1 set)), some (.inl set), some (.inl 1), some (.inl i9)]) (sk' := [.inl i9, .inr (.inr 55), .inr (.inr 44)]) (h' := hh) rfl ?_
        refine E_ld (x := (.iaload, 0, [], [])) (ty := .int) (n := 150) rfl rfl rfl (by omega) (by omega) ?_
        show xEx G0 cdX7_firstTestWith (some .int) (xRn G0 MT (d + 2)) Q b 11 [some (.inr (.inr 44)), some (.inl (szf S T (S 0 0) (T 0 0) p 1 set)), some (.inl set), some (.inl 1), some (.inl i9)] [.inl (hh 55 i9), .inr (.inr 44)] hh
        refine E_s 2 (i' := 13) (ls' := [some (.inr (.inr 44)), some (.inl (szf S T (S 0 0) (T 0 0) p 1 set)), some (.inl set), some (.inl 1), some (.inl i9)]) (sk' := [.inl 1, .inl set, .inl (hh 55 i9), .inr (.inr 44)]) (h' := hh) rfl ?_
        refine E_cp (x := (.invokevirtual 106, 3, [(5, 65)], [0])) (q := fun r h9 => r = swf T (szf S T (S 0 0) (T 0 0) p 0) set (hh 55 i9) ∧ FZ hh h9 ∧ SVM h9 S T p m) rfl rfl (Nat.le_of_ble_eq_true rfl) (c_szW1 d 0 hh S T p set m (hh 55 i9) (SVF_z fz hV) hm hs ⟨by rw [uu]; omega, by rw [uu]; omega⟩ (fun h9 z1 z2 => ⟨_, rfl, rfl, z1, z2⟩)) (fun r2 h2 hq2 => ?_)
        obtain ⟨e2, f2, m2⟩ := hq2
        rw [uu] at e2
        have sr := swf_r (T := T) (f := (szf S T (S 0 0) (T 0 0) p 0)) (set := set) (t := (h 55 i9)) ⟨by omega, by omega⟩ (szf_r (p := p) hV.1 0)
        have se := swf_eq (T := T) (p := p) (f := (szf S T (S 0 0) (T 0 0) p 0)) (set := set) (t := (h 55 i9)) (b := szf S T (S 0 0) (T 0 0) p 1 set) ub.2.2 (by omega) (szf_r (p := p) hV.1 0) (by omega)
        show xEx G0 cdX7_firstTestWith (some .int) (xRn G0 MT (d + 2)) Q b 14 [some (.inr (.inr 44)), some (.inl (szf S T (S 0 0) (T 0 0) p 1 set)), some (.inl set), some (.inl 1), some (.inl i9)] [.inl r2] h2
        refine E_s 1 (i' := 15) (ls' := [some (.inr (.inr 44)), some (.inl (szf S T (S 0 0) (T 0 0) p 1 set)), some (.inl set), some (.inl 1), some (.inl i9)]) (sk' := [.inl (szf S T (S 0 0) (T 0 0) p 1 set), .inl r2]) (h' := h2) rfl ?_
        refine E_b (x := (.if_icmp .ne 11, 21, [], [])) rfl rfl (fun c15 => ?_) (fun c15 => ?_)
        · rw [c_ne (by first | (rw [e2]; exact ⟨by omega, by omega⟩) | exact ⟨by omega, by omega⟩) (by first | (rw [e2]; exact ⟨by omega, by omega⟩) | exact ⟨by omega, by omega⟩)] at c15
          simp only [decide_eq_true_eq, decide_eq_false_iff_not, Decidable.not_not] at c15
          show xEx G0 cdX7_firstTestWith (some .int) (xRn G0 MT (d + 2)) Q b 21 [some (.inr (.inr 44)), some (.inl (szf S T (S 0 0) (T 0 0) p 1 set)), some (.inl set), some (.inl 1), some (.inl i9)] [] h2
          refine E_s 2 (i' := 2) (ls' := [some (.inr (.inr 44)), some (.inl (szf S T (S 0 0) (T 0 0) p 1 set)), some (.inl set), some (.inl 1), some (.inl (i9 + 1))]) (sk' := []) (h' := h2) rfl ?_
          exact ih2 _ (i9 + 1) (by omega) (by omega) (fz.tr f2) m2 (fun j z1 z2 => by
            rcases Int.lt_or_eq_of_le (show j ≤ i9 by omega) with z9 | z9
            · exact hno j z1 z9
            · rw [z9, ← e2]; omega) (by omega)
        · rw [c_ne (by first | (rw [e2]; exact ⟨by omega, by omega⟩) | exact ⟨by omega, by omega⟩) (by first | (rw [e2]; exact ⟨by omega, by omega⟩) | exact ⟨by omega, by omega⟩)] at c15
          simp only [decide_eq_true_eq, decide_eq_false_iff_not, Decidable.not_not] at c15
          show xEx G0 cdX7_firstTestWith (some .int) (xRn G0 MT (d + 2)) Q b 16 [some (.inr (.inr 44)), some (.inl (szf S T (S 0 0) (T 0 0) p 1 set)), some (.inl set), some (.inl 1), some (.inl i9)] [] h2
          have ee : h 55 i9 = (bti S T (S 0 0) (T 0 0) p 1 set) := by
            have y9 := se.mp (by rw [← e2]; omega)
            rcases Int.lt_trichotomy j9 i9 with z9 | z9 | z9
            · exact absurd ((swf_eq (T := T) (p := p) (f := (szf S T (S 0 0) (T 0 0) p 0)) (set := set) (t := h 55 j9) (b := szf S T (S 0 0) (T 0 0) p 1 set) (by rw [j2]; exact bp.1) (by rw [j2]; have := (hV.1.2.2.2.2 _ bt0 bt1).1; omega) (szf_r (p := p) hV.1 0) (by omega)).mpr (by rw [j2]; exact ⟨bp, be⟩)) (hno j9 j0 z9)
            · rw [← z9]; exact j2
            · have q9 := uc.2.2.2.1 i9 j9 hi0 z9 j1
              have q8 := bf (h 55 i9) ub.1 (by omega) y9.1
              have q7 := y9.2
              omega
          have e55 : h2 55 i9 = (bti S T (S 0 0) (T 0 0) p 1 set) := by rw [f2 _ (by decide) (by decide), uu]; exact ee
          refine E_s 3 (i' := 19) (ls' := [some (.inr (.inr 44)), some (.inl (szf S T (S 0 0) (T 0 0) p 1 set)), some (.inl set), some (.inl 1), some (.inl i9)]) (sk' := [.inl i9, .inr (.inr 55)]) (h' := h2) rfl ?_
          refine E_ld (x := (.iaload, 0, [], [])) (ty := .int) (n := 150) rfl rfl rfl (by omega) (by omega) ?_
          show xEx G0 cdX7_firstTestWith (some .int) (xRn G0 MT (d + 2)) Q b 20 [some (.inr (.inr 44)), some (.inl (szf S T (S 0 0) (T 0 0) p 1 set)), some (.inl set), some (.inl 1), some (.inl i9)] [.inl (h2 55 i9)] h2
          exact E_ret (x := (.ireturn, 0, [], [])) (v := some (.inl (h2 55 i9))) rfl (Or.inl rfl) (by
            have r9 := hQ _ (fz.tr f2) m2
            rw [← e55] at r9
            exact r9)
  exact key2 _ h 0 (by omega) uc.1 (FZ.rf h) hM (fun j z1 z2 => by omega) (Nat.lt_succ_self _)
set_option maxHeartbeats 1000000 in
theorem c_fTW2 (d b : Nat) (h S T : xH) (p set : Int) (m : Nat) (hV : SVF h S T p m) (hM : SVM h S T p m) (hs : ir m set) (hlt : szf S T (S 0 0) (T 0 0) p 2 set < sz0 S (S 0 0) p set) {Q : xO → xH → Prop} (hQ : ∀ h', FZ h h' → SVM h' S T p m → Q (.inl (some (.inl (bti S T (S 0 0) (T 0 0) p 2 set)))) h') : xRn G0 MT (d + 5) b 67 [.inr (.inr 44), .inl (szf S T (S 0 0) (T 0 0) p 2 set), .inl set, .inl 2] h Q := by
  refine R_of (M := mX7_firstTestWith) rfl (Nat.le_of_ble_eq_true rfl) ?_
  show xEx G0 cdX7_firstTestWith (some .int) (xRn G0 MT (d + 4)) Q b 0 [some (.inr (.inr 44)), some (.inl (szf S T (S 0 0) (T 0 0) p 2 set)), some (.inl set), some (.inl 2), none] [] h
  have uc := hV.2.2.2.2.2.2
  have zr := szf_r (p := p) hV.1 2 set
  have z0 := sz0_r (p := p) hV.1 set
  have uk := hV.1.2.2.1
  obtain ⟨j9, j0, j1, j2, bt0, bt1, bp, be, bf⟩ : ∃ j9, 0 ≤ j9 ∧ j9 < h 44 8 ∧ h 55 j9 = (bti S T (S 0 0) (T 0 0) p 2 set) ∧ 0 ≤ (bti S T (S 0 0) (T 0 0) p 2 set) ∧ (bti S T (S 0 0) (T 0 0) p 2 set) < T 0 0 ∧ prt T p set (bti S T (S 0 0) (T 0 0) p 2 set) ∧ szt T (szf S T (S 0 0) (T 0 0) p 1) set (bti S T (S 0 0) (T 0 0) p 2 set) = szf S T (S 0 0) (T 0 0) p 2 set ∧ ∀ t, 0 ≤ t → t < (bti S T (S 0 0) (T 0 0) p 2 set) → prt T p set t → szf S T (S 0 0) (T 0 0) p 2 set < szt T (szf S T (S 0 0) (T 0 0) p 1) set t := by
    rcases bti_spec (S := S) (T := T) (KE := S 0 0) (KT := T 0 0) (p := p) uk.1 2 set with ⟨b1, -⟩ | ⟨-, j, e, b1, b2, b3, b4, b5⟩
    · omega
    · have e : j = 1 := by omega
      subst e
      obtain ⟨j9, x1, x2, x3⟩ := uc.2.2.2.2 _ b1 b2 b3.1
      exact ⟨j9, x1, x2, x3, b1, b2, b3, b4, b5⟩
  refine E_s 2 (i' := 2) (ls' := [some (.inr (.inr 44)), some (.inl (szf S T (S 0 0) (T 0 0) p 2 set)), some (.inl set), some (.inl 2), some (.inl 0)]) (sk' := []) (h' := h) rfl ?_
  have key2 : ∀ (n : Nat) (hh : xH) (i9 : Int), (0 ≤ i9) → (i9 ≤ h 44 8) → (FZ h hh) → (SVM hh S T p m) → (∀ j, 0 ≤ j → j < i9 → ¬ swf T (szf S T (S 0 0) (T 0 0) p 1) set (h 55 j) = szf S T (S 0 0) (T 0 0) p 2 set) → ((h 44 8 - i9).toNat) < n → xEx G0 cdX7_firstTestWith (some .int) (xRn G0 MT (d + 4)) Q b 2 [some (.inr (.inr 44)), some (.inl (szf S T (S 0 0) (T 0 0) p 2 set)), some (.inl set), some (.inl 2), some (.inl i9)] [] hh := by
    intro n
    induction n with
    | zero => intro hh i9 _ _ _ _ _ hm; exact absurd hm (Nat.not_lt_zero _)
    | succ n ih2 =>
      intro hh i9 hi0 hi9 fz hm hno hm2
      have ec : hh 44 8 = h 44 8 := by rw [fz _ (by decide) (by decide)]
      have ucb : 0 ≤ h 44 8 ∧ h 44 8 ≤ T 0 0 := ⟨uc.1, uc.2.1⟩
      refine E_s 3 (i' := 5) (ls' := [some (.inr (.inr 44)), some (.inl (szf S T (S 0 0) (T 0 0) p 2 set)), some (.inl set), some (.inl 2), some (.inl i9)]) (sk' := [.inl (hh 44 8), .inl i9]) (h' := hh) rfl ?_
      refine E_b (x := (.if_icmp .ge 34, 23, [], [])) rfl rfl (fun c5 => ?_) (fun c5 => ?_)
      · rw [c_ge (by first | assumption | (refine ⟨?_, ?_⟩ <;> omega) | (simp only [xr] at *; omega)) (by first | assumption | (refine ⟨?_, ?_⟩ <;> omega) | (simp only [xr] at *; omega))] at c5
        simp only [decide_eq_true_eq, decide_eq_false_iff_not, Decidable.not_not] at c5
        show xEx G0 cdX7_firstTestWith (some .int) (xRn G0 MT (d + 4)) Q b 23 [some (.inr (.inr 44)), some (.inl (szf S T (S 0 0) (T 0 0) p 2 set)), some (.inl set), some (.inl 2), some (.inl i9)] [] hh
        have hx : ¬ swf T (szf S T (S 0 0) (T 0 0) p 1) set (h 55 j9) = szf S T (S 0 0) (T 0 0) p 2 set := hno j9 j0 (by omega)
        exact absurd ((swf_eq (T := T) (p := p) (f := (szf S T (S 0 0) (T 0 0) p 1)) (set := set) (t := h 55 j9) (b := szf S T (S 0 0) (T 0 0) p 2 set) (by rw [j2]; exact bp.1) (by rw [j2]; have := (hV.1.2.2.2.2 _ bt0 bt1).1; omega) (szf_r (p := p) hV.1 1) (by omega)).mpr (by rw [j2]; exact ⟨bp, be⟩)) hx
      · rw [c_ge (by first | assumption | (refine ⟨?_, ?_⟩ <;> omega) | (simp only [xr] at *; omega)) (by first | assumption | (refine ⟨?_, ?_⟩ <;> omega) | (simp only [xr] at *; omega))] at c5
        simp only [decide_eq_true_eq, decide_eq_false_iff_not, Decidable.not_not] at c5
        show xEx G0 cdX7_firstTestWith (some .int) (xRn G0 MT (d + 4)) Q b 6 [some (.inr (.inr 44)), some (.inl (szf S T (S 0 0) (T 0 0) p 2 set)), some (.inl set), some (.inl 2), some (.inl i9)] [] hh
        have ub := uc.2.2.1 i9 hi0 (by omega)
        have uu : hh 55 i9 = h 55 i9 := by rw [fz _ (by decide) (by decide)]
        have o4 := hV.1.2.2.2.2 _ ub.1 ub.2.1
        refine E_s 4 (i' := 10) (ls' := [some (.inr (.inr 44)), some (.inl (szf S T (S 0 0) (T 0 0) p 2 set)), some (.inl set), some (.inl 2), some (.inl i9)]) (sk' := [.inl i9, .inr (.inr 55), .inr (.inr 44)]) (h' := hh) rfl ?_
        refine E_ld (x := (.iaload, 0, [], [])) (ty := .int) (n := 150) rfl rfl rfl (by omega) (by omega) ?_
        show xEx G0 cdX7_firstTestWith (some .int) (xRn G0 MT (d + 4)) Q b 11 [some (.inr (.inr 44)), some (.inl (szf S T (S 0 0) (T 0 0) p 2 set)), some (.inl set), some (.inl 2), some (.inl i9)] [.inl (hh 55 i9), .inr (.inr 44)] hh
        refine E_s 2 (i' := 13) (ls' := [some (.inr (.inr 44)), some (.inl (szf S T (S 0 0) (T 0 0) p 2 set)), some (.inl set), some (.inl 2), some (.inl i9)]) (sk' := [.inl 2, .inl set, .inl (hh 55 i9), .inr (.inr 44)]) (h' := hh) rfl ?_
        refine E_cp (x := (.invokevirtual 106, 3, [(5, 65)], [0])) (q := fun r h9 => r = swf T (szf S T (S 0 0) (T 0 0) p 1) set (hh 55 i9) ∧ FZ hh h9 ∧ SVM h9 S T p m) rfl rfl (Nat.le_of_ble_eq_true rfl) (c_szW2 d 0 hh S T p set m (hh 55 i9) (SVF_z fz hV) hm hs ⟨by rw [uu]; omega, by rw [uu]; omega⟩ (fun h9 z1 z2 => ⟨_, rfl, rfl, z1, z2⟩)) (fun r2 h2 hq2 => ?_)
        obtain ⟨e2, f2, m2⟩ := hq2
        rw [uu] at e2
        have sr := swf_r (T := T) (f := (szf S T (S 0 0) (T 0 0) p 1)) (set := set) (t := (h 55 i9)) ⟨by omega, by omega⟩ (szf_r (p := p) hV.1 1)
        have se := swf_eq (T := T) (p := p) (f := (szf S T (S 0 0) (T 0 0) p 1)) (set := set) (t := (h 55 i9)) (b := szf S T (S 0 0) (T 0 0) p 2 set) ub.2.2 (by omega) (szf_r (p := p) hV.1 1) (by omega)
        show xEx G0 cdX7_firstTestWith (some .int) (xRn G0 MT (d + 4)) Q b 14 [some (.inr (.inr 44)), some (.inl (szf S T (S 0 0) (T 0 0) p 2 set)), some (.inl set), some (.inl 2), some (.inl i9)] [.inl r2] h2
        refine E_s 1 (i' := 15) (ls' := [some (.inr (.inr 44)), some (.inl (szf S T (S 0 0) (T 0 0) p 2 set)), some (.inl set), some (.inl 2), some (.inl i9)]) (sk' := [.inl (szf S T (S 0 0) (T 0 0) p 2 set), .inl r2]) (h' := h2) rfl ?_
        refine E_b (x := (.if_icmp .ne 11, 21, [], [])) rfl rfl (fun c15 => ?_) (fun c15 => ?_)
        · rw [c_ne (by first | (rw [e2]; exact ⟨by omega, by omega⟩) | exact ⟨by omega, by omega⟩) (by first | (rw [e2]; exact ⟨by omega, by omega⟩) | exact ⟨by omega, by omega⟩)] at c15
          simp only [decide_eq_true_eq, decide_eq_false_iff_not, Decidable.not_not] at c15
          show xEx G0 cdX7_firstTestWith (some .int) (xRn G0 MT (d + 4)) Q b 21 [some (.inr (.inr 44)), some (.inl (szf S T (S 0 0) (T 0 0) p 2 set)), some (.inl set), some (.inl 2), some (.inl i9)] [] h2
          refine E_s 2 (i' := 2) (ls' := [some (.inr (.inr 44)), some (.inl (szf S T (S 0 0) (T 0 0) p 2 set)), some (.inl set), some (.inl 2), some (.inl (i9 + 1))]) (sk' := []) (h' := h2) rfl ?_
          exact ih2 _ (i9 + 1) (by omega) (by omega) (fz.tr f2) m2 (fun j z1 z2 => by
            rcases Int.lt_or_eq_of_le (show j ≤ i9 by omega) with z9 | z9
            · exact hno j z1 z9
            · rw [z9, ← e2]; omega) (by omega)
        · rw [c_ne (by first | (rw [e2]; exact ⟨by omega, by omega⟩) | exact ⟨by omega, by omega⟩) (by first | (rw [e2]; exact ⟨by omega, by omega⟩) | exact ⟨by omega, by omega⟩)] at c15
          simp only [decide_eq_true_eq, decide_eq_false_iff_not, Decidable.not_not] at c15
          show xEx G0 cdX7_firstTestWith (some .int) (xRn G0 MT (d + 4)) Q b 16 [some (.inr (.inr 44)), some (.inl (szf S T (S 0 0) (T 0 0) p 2 set)), some (.inl set), some (.inl 2), some (.inl i9)] [] h2
          have ee : h 55 i9 = (bti S T (S 0 0) (T 0 0) p 2 set) := by
            have y9 := se.mp (by rw [← e2]; omega)
            rcases Int.lt_trichotomy j9 i9 with z9 | z9 | z9
            · exact absurd ((swf_eq (T := T) (p := p) (f := (szf S T (S 0 0) (T 0 0) p 1)) (set := set) (t := h 55 j9) (b := szf S T (S 0 0) (T 0 0) p 2 set) (by rw [j2]; exact bp.1) (by rw [j2]; have := (hV.1.2.2.2.2 _ bt0 bt1).1; omega) (szf_r (p := p) hV.1 1) (by omega)).mpr (by rw [j2]; exact ⟨bp, be⟩)) (hno j9 j0 z9)
            · rw [← z9]; exact j2
            · have q9 := uc.2.2.2.1 i9 j9 hi0 z9 j1
              have q8 := bf (h 55 i9) ub.1 (by omega) y9.1
              have q7 := y9.2
              omega
          have e55 : h2 55 i9 = (bti S T (S 0 0) (T 0 0) p 2 set) := by rw [f2 _ (by decide) (by decide), uu]; exact ee
          refine E_s 3 (i' := 19) (ls' := [some (.inr (.inr 44)), some (.inl (szf S T (S 0 0) (T 0 0) p 2 set)), some (.inl set), some (.inl 2), some (.inl i9)]) (sk' := [.inl i9, .inr (.inr 55)]) (h' := h2) rfl ?_
          refine E_ld (x := (.iaload, 0, [], [])) (ty := .int) (n := 150) rfl rfl rfl (by omega) (by omega) ?_
          show xEx G0 cdX7_firstTestWith (some .int) (xRn G0 MT (d + 4)) Q b 20 [some (.inr (.inr 44)), some (.inl (szf S T (S 0 0) (T 0 0) p 2 set)), some (.inl set), some (.inl 2), some (.inl i9)] [.inl (h2 55 i9)] h2
          exact E_ret (x := (.ireturn, 0, [], [])) (v := some (.inl (h2 55 i9))) rfl (Or.inl rfl) (by
            have r9 := hQ _ (fz.tr f2) m2
            rw [← e55] at r9
            exact r9)
  exact key2 _ h 0 (by omega) uc.1 (FZ.rf h) hM (fun j z1 z2 => by omega) (Nat.lt_succ_self _)
set_option maxHeartbeats 1000000 in
theorem c_fTW3 (d b : Nat) (h S T : xH) (p set : Int) (m : Nat) (hV : SVF h S T p m) (hM : SVM h S T p m) (hs : ir m set) (hlt : szf S T (S 0 0) (T 0 0) p 3 set < sz0 S (S 0 0) p set) {Q : xO → xH → Prop} (hQ : ∀ h', FZ h h' → SVM h' S T p m → Q (.inl (some (.inl (bti S T (S 0 0) (T 0 0) p 3 set)))) h') : xRn G0 MT (d + 7) b 67 [.inr (.inr 44), .inl (szf S T (S 0 0) (T 0 0) p 3 set), .inl set, .inl 3] h Q := by
  refine R_of (M := mX7_firstTestWith) rfl (Nat.le_of_ble_eq_true rfl) ?_
  show xEx G0 cdX7_firstTestWith (some .int) (xRn G0 MT (d + 6)) Q b 0 [some (.inr (.inr 44)), some (.inl (szf S T (S 0 0) (T 0 0) p 3 set)), some (.inl set), some (.inl 3), none] [] h
  have uc := hV.2.2.2.2.2.2
  have zr := szf_r (p := p) hV.1 3 set
  have z0 := sz0_r (p := p) hV.1 set
  have uk := hV.1.2.2.1
  obtain ⟨j9, j0, j1, j2, bt0, bt1, bp, be, bf⟩ : ∃ j9, 0 ≤ j9 ∧ j9 < h 44 8 ∧ h 55 j9 = (bti S T (S 0 0) (T 0 0) p 3 set) ∧ 0 ≤ (bti S T (S 0 0) (T 0 0) p 3 set) ∧ (bti S T (S 0 0) (T 0 0) p 3 set) < T 0 0 ∧ prt T p set (bti S T (S 0 0) (T 0 0) p 3 set) ∧ szt T (szf S T (S 0 0) (T 0 0) p 2) set (bti S T (S 0 0) (T 0 0) p 3 set) = szf S T (S 0 0) (T 0 0) p 3 set ∧ ∀ t, 0 ≤ t → t < (bti S T (S 0 0) (T 0 0) p 3 set) → prt T p set t → szf S T (S 0 0) (T 0 0) p 3 set < szt T (szf S T (S 0 0) (T 0 0) p 2) set t := by
    rcases bti_spec (S := S) (T := T) (KE := S 0 0) (KT := T 0 0) (p := p) uk.1 3 set with ⟨b1, -⟩ | ⟨-, j, e, b1, b2, b3, b4, b5⟩
    · omega
    · have e : j = 2 := by omega
      subst e
      obtain ⟨j9, x1, x2, x3⟩ := uc.2.2.2.2 _ b1 b2 b3.1
      exact ⟨j9, x1, x2, x3, b1, b2, b3, b4, b5⟩
  refine E_s 2 (i' := 2) (ls' := [some (.inr (.inr 44)), some (.inl (szf S T (S 0 0) (T 0 0) p 3 set)), some (.inl set), some (.inl 3), some (.inl 0)]) (sk' := []) (h' := h) rfl ?_
  have key2 : ∀ (n : Nat) (hh : xH) (i9 : Int), (0 ≤ i9) → (i9 ≤ h 44 8) → (FZ h hh) → (SVM hh S T p m) → (∀ j, 0 ≤ j → j < i9 → ¬ swf T (szf S T (S 0 0) (T 0 0) p 2) set (h 55 j) = szf S T (S 0 0) (T 0 0) p 3 set) → ((h 44 8 - i9).toNat) < n → xEx G0 cdX7_firstTestWith (some .int) (xRn G0 MT (d + 6)) Q b 2 [some (.inr (.inr 44)), some (.inl (szf S T (S 0 0) (T 0 0) p 3 set)), some (.inl set), some (.inl 3), some (.inl i9)] [] hh := by
    intro n
    induction n with
    | zero => intro hh i9 _ _ _ _ _ hm; exact absurd hm (Nat.not_lt_zero _)
    | succ n ih2 =>
      intro hh i9 hi0 hi9 fz hm hno hm2
      have ec : hh 44 8 = h 44 8 := by rw [fz _ (by decide) (by decide)]
      have ucb : 0 ≤ h 44 8 ∧ h 44 8 ≤ T 0 0 := ⟨uc.1, uc.2.1⟩
      refine E_s 3 (i' := 5) (ls' := [some (.inr (.inr 44)), some (.inl (szf S T (S 0 0) (T 0 0) p 3 set)), some (.inl set), some (.inl 3), some (.inl i9)]) (sk' := [.inl (hh 44 8), .inl i9]) (h' := hh) rfl ?_
      refine E_b (x := (.if_icmp .ge 34, 23, [], [])) rfl rfl (fun c5 => ?_) (fun c5 => ?_)
      · rw [c_ge (by first | assumption | (refine ⟨?_, ?_⟩ <;> omega) | (simp only [xr] at *; omega)) (by first | assumption | (refine ⟨?_, ?_⟩ <;> omega) | (simp only [xr] at *; omega))] at c5
        simp only [decide_eq_true_eq, decide_eq_false_iff_not, Decidable.not_not] at c5
        show xEx G0 cdX7_firstTestWith (some .int) (xRn G0 MT (d + 6)) Q b 23 [some (.inr (.inr 44)), some (.inl (szf S T (S 0 0) (T 0 0) p 3 set)), some (.inl set), some (.inl 3), some (.inl i9)] [] hh
        have hx : ¬ swf T (szf S T (S 0 0) (T 0 0) p 2) set (h 55 j9) = szf S T (S 0 0) (T 0 0) p 3 set := hno j9 j0 (by omega)
        exact absurd ((swf_eq (T := T) (p := p) (f := (szf S T (S 0 0) (T 0 0) p 2)) (set := set) (t := h 55 j9) (b := szf S T (S 0 0) (T 0 0) p 3 set) (by rw [j2]; exact bp.1) (by rw [j2]; have := (hV.1.2.2.2.2 _ bt0 bt1).1; omega) (szf_r (p := p) hV.1 2) (by omega)).mpr (by rw [j2]; exact ⟨bp, be⟩)) hx
      · rw [c_ge (by first | assumption | (refine ⟨?_, ?_⟩ <;> omega) | (simp only [xr] at *; omega)) (by first | assumption | (refine ⟨?_, ?_⟩ <;> omega) | (simp only [xr] at *; omega))] at c5
        simp only [decide_eq_true_eq, decide_eq_false_iff_not, Decidable.not_not] at c5
        show xEx G0 cdX7_firstTestWith (some .int) (xRn G0 MT (d + 6)) Q b 6 [some (.inr (.inr 44)), some (.inl (szf S T (S 0 0) (T 0 0) p 3 set)), some (.inl set), some (.inl 3), some (.inl i9)] [] hh
        have ub := uc.2.2.1 i9 hi0 (by omega)
        have uu : hh 55 i9 = h 55 i9 := by rw [fz _ (by decide) (by decide)]
        have o4 := hV.1.2.2.2.2 _ ub.1 ub.2.1
        refine E_s 4 (i' := 10) (ls' := [some (.inr (.inr 44)), some (.inl (szf S T (S 0 0) (T 0 0) p 3 set)), some (.inl set), some (.inl 3), some (.inl i9)]) (sk' := [.inl i9, .inr (.inr 55), .inr (.inr 44)]) (h' := hh) rfl ?_
        refine E_ld (x := (.iaload, 0, [], [])) (ty := .int) (n := 150) rfl rfl rfl (by omega) (by omega) ?_
        show xEx G0 cdX7_firstTestWith (some .int) (xRn G0 MT (d + 6)) Q b 11 [some (.inr (.inr 44)), some (.inl (szf S T (S 0 0) (T 0 0) p 3 set)), some (.inl set), some (.inl 3), some (.inl i9)] [.inl (hh 55 i9), .inr (.inr 44)] hh
        refine E_s 2 (i' := 13) (ls' := [some (.inr (.inr 44)), some (.inl (szf S T (S 0 0) (T 0 0) p 3 set)), some (.inl set), some (.inl 3), some (.inl i9)]) (sk' := [.inl 3, .inl set, .inl (hh 55 i9), .inr (.inr 44)]) (h' := hh) rfl ?_
        refine E_cp (x := (.invokevirtual 106, 3, [(5, 65)], [0])) (q := fun r h9 => r = swf T (szf S T (S 0 0) (T 0 0) p 2) set (hh 55 i9) ∧ FZ hh h9 ∧ SVM h9 S T p m) rfl rfl (Nat.le_of_ble_eq_true rfl) (c_szW3 d 0 hh S T p set m (hh 55 i9) (SVF_z fz hV) hm hs ⟨by rw [uu]; omega, by rw [uu]; omega⟩ (fun h9 z1 z2 => ⟨_, rfl, rfl, z1, z2⟩)) (fun r2 h2 hq2 => ?_)
        obtain ⟨e2, f2, m2⟩ := hq2
        rw [uu] at e2
        have sr := swf_r (T := T) (f := (szf S T (S 0 0) (T 0 0) p 2)) (set := set) (t := (h 55 i9)) ⟨by omega, by omega⟩ (szf_r (p := p) hV.1 2)
        have se := swf_eq (T := T) (p := p) (f := (szf S T (S 0 0) (T 0 0) p 2)) (set := set) (t := (h 55 i9)) (b := szf S T (S 0 0) (T 0 0) p 3 set) ub.2.2 (by omega) (szf_r (p := p) hV.1 2) (by omega)
        show xEx G0 cdX7_firstTestWith (some .int) (xRn G0 MT (d + 6)) Q b 14 [some (.inr (.inr 44)), some (.inl (szf S T (S 0 0) (T 0 0) p 3 set)), some (.inl set), some (.inl 3), some (.inl i9)] [.inl r2] h2
        refine E_s 1 (i' := 15) (ls' := [some (.inr (.inr 44)), some (.inl (szf S T (S 0 0) (T 0 0) p 3 set)), some (.inl set), some (.inl 3), some (.inl i9)]) (sk' := [.inl (szf S T (S 0 0) (T 0 0) p 3 set), .inl r2]) (h' := h2) rfl ?_
        refine E_b (x := (.if_icmp .ne 11, 21, [], [])) rfl rfl (fun c15 => ?_) (fun c15 => ?_)
        · rw [c_ne (by first | (rw [e2]; exact ⟨by omega, by omega⟩) | exact ⟨by omega, by omega⟩) (by first | (rw [e2]; exact ⟨by omega, by omega⟩) | exact ⟨by omega, by omega⟩)] at c15
          simp only [decide_eq_true_eq, decide_eq_false_iff_not, Decidable.not_not] at c15
          show xEx G0 cdX7_firstTestWith (some .int) (xRn G0 MT (d + 6)) Q b 21 [some (.inr (.inr 44)), some (.inl (szf S T (S 0 0) (T 0 0) p 3 set)), some (.inl set), some (.inl 3), some (.inl i9)] [] h2
          refine E_s 2 (i' := 2) (ls' := [some (.inr (.inr 44)), some (.inl (szf S T (S 0 0) (T 0 0) p 3 set)), some (.inl set), some (.inl 3), some (.inl (i9 + 1))]) (sk' := []) (h' := h2) rfl ?_
          exact ih2 _ (i9 + 1) (by omega) (by omega) (fz.tr f2) m2 (fun j z1 z2 => by
            rcases Int.lt_or_eq_of_le (show j ≤ i9 by omega) with z9 | z9
            · exact hno j z1 z9
            · rw [z9, ← e2]; omega) (by omega)
        · rw [c_ne (by first | (rw [e2]; exact ⟨by omega, by omega⟩) | exact ⟨by omega, by omega⟩) (by first | (rw [e2]; exact ⟨by omega, by omega⟩) | exact ⟨by omega, by omega⟩)] at c15
          simp only [decide_eq_true_eq, decide_eq_false_iff_not, Decidable.not_not] at c15
          show xEx G0 cdX7_firstTestWith (some .int) (xRn G0 MT (d + 6)) Q b 16 [some (.inr (.inr 44)), some (.inl (szf S T (S 0 0) (T 0 0) p 3 set)), some (.inl set), some (.inl 3), some (.inl i9)] [] h2
          have ee : h 55 i9 = (bti S T (S 0 0) (T 0 0) p 3 set) := by
            have y9 := se.mp (by rw [← e2]; omega)
            rcases Int.lt_trichotomy j9 i9 with z9 | z9 | z9
            · exact absurd ((swf_eq (T := T) (p := p) (f := (szf S T (S 0 0) (T 0 0) p 2)) (set := set) (t := h 55 j9) (b := szf S T (S 0 0) (T 0 0) p 3 set) (by rw [j2]; exact bp.1) (by rw [j2]; have := (hV.1.2.2.2.2 _ bt0 bt1).1; omega) (szf_r (p := p) hV.1 2) (by omega)).mpr (by rw [j2]; exact ⟨bp, be⟩)) (hno j9 j0 z9)
            · rw [← z9]; exact j2
            · have q9 := uc.2.2.2.1 i9 j9 hi0 z9 j1
              have q8 := bf (h 55 i9) ub.1 (by omega) y9.1
              have q7 := y9.2
              omega
          have e55 : h2 55 i9 = (bti S T (S 0 0) (T 0 0) p 3 set) := by rw [f2 _ (by decide) (by decide), uu]; exact ee
          refine E_s 3 (i' := 19) (ls' := [some (.inr (.inr 44)), some (.inl (szf S T (S 0 0) (T 0 0) p 3 set)), some (.inl set), some (.inl 3), some (.inl i9)]) (sk' := [.inl i9, .inr (.inr 55)]) (h' := h2) rfl ?_
          refine E_ld (x := (.iaload, 0, [], [])) (ty := .int) (n := 150) rfl rfl rfl (by omega) (by omega) ?_
          show xEx G0 cdX7_firstTestWith (some .int) (xRn G0 MT (d + 6)) Q b 20 [some (.inr (.inr 44)), some (.inl (szf S T (S 0 0) (T 0 0) p 3 set)), some (.inl set), some (.inl 3), some (.inl i9)] [.inl (h2 55 i9)] h2
          exact E_ret (x := (.ireturn, 0, [], [])) (v := some (.inl (h2 55 i9))) rfl (Or.inl rfl) (by
            have r9 := hQ _ (fz.tr f2) m2
            rw [← e55] at r9
            exact r9)
  exact key2 _ h 0 (by omega) uc.1 (FZ.rf h) hM (fun j z1 z2 => by omega) (Nat.lt_succ_self _)
set_option maxHeartbeats 1000000 in
theorem c_mayAsk (d b : Nat) (h : xH) (nd : Int) (hn : 0 ≤ nd ∧ nd ≤ 6) {Q : xO → xH → Prop} (hQ : Q (.inl (some (.inl (1)))) h) : xRn G0 MT (d + 1) b 46 [.inl nd] h Q := by
  refine R_of (M := mX6_mayAsk) rfl (Nat.le_of_ble_eq_true rfl) ?_
  show xEx G0 cdX6_mayAsk (some .boolean) (xRn G0 MT d) Q b 0 [some (.inl nd)] [] h
  refine E_s 6 (i' := 6) (ls' := [some (.inl nd)]) (sk' := [.inl 15, .inl ((2 * nd) + 2)]) (h' := h) rfl ?_
  refine E_b (x := (.if_icmp .ge 7, 9, [], [])) rfl rfl (fun c6 => ?_) (fun c6 => ?_)
  · rw [c_ge (by first | assumption | (refine ⟨?_, ?_⟩ <;> omega) | (simp only [xr] at *; omega)) (by first | assumption | (refine ⟨?_, ?_⟩ <;> omega) | (simp only [xr] at *; omega))] at c6
    simp only [decide_eq_true_eq, decide_eq_false_iff_not, Decidable.not_not] at c6
    show xEx G0 cdX6_mayAsk (some .boolean) (xRn G0 MT d) Q b 9 [some (.inl nd)] [] h
    omega
  · rw [c_ge (by first | assumption | (refine ⟨?_, ?_⟩ <;> omega) | (simp only [xr] at *; omega)) (by first | assumption | (refine ⟨?_, ?_⟩ <;> omega) | (simp only [xr] at *; omega))] at c6
    simp only [decide_eq_true_eq, decide_eq_false_iff_not, Decidable.not_not] at c6
    show xEx G0 cdX6_mayAsk (some .boolean) (xRn G0 MT d) Q b 7 [some (.inl nd)] [] h
    refine E_s 2 (i' := 10) (ls' := [some (.inl nd)]) (sk' := [.inl 1]) (h' := h) rfl ?_
    exact E_ret (x := (.ireturn, 0, [], [])) (v := some (.inl 1)) rfl (Or.inr ⟨rfl, by omega⟩) (hQ)
