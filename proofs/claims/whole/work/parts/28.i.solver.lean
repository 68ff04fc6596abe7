/-! the reference's solver -/
def RB (h S T : xH) (p : Int) : Prop := (∀ k, 0 ≤ k → k < S 0 0 → (h 103 k = 0 ∧ lk (S 11 k) p) ∨ (h 103 k = 1 ∧ ¬ lk (S 11 k) p)) ∧ ∀ t, 0 ≤ t → t < T 0 0 → (h 104 t = 0 ∧ lk (T 11 t) p) ∨ (h 104 t = 1 ∧ ¬ lk (T 11 t) p)
def RA (h S T : xH) : Prop := h 66 8 = S 0 0 ∧ h 66 19 = T 0 0 ∧ (∀ k, 0 ≤ k → k < S 0 0 → h 75 k = S 4 k ∧ h 78 k = S 6 k) ∧ ∀ t, 0 ≤ t → t < T 0 0 → h 85 t = T 4 t ∧ h 87 t = T 6 t
theorem RA_rr {h S T : xH} (r : RR h S) (rt : RRT h T) : RA h S T := ⟨r.1, rt.1, fun k z1 z2 => ⟨(r.2.2.1 k z1 z2).2.2.2.1, (r.2.2.1 k z1 z2).2.2.2.2.1⟩, fun t z1 z2 => ⟨(rt.2.2.2 t z1 z2).2.2.2.1, (rt.2.2.2 t z1 z2).2.2.2.2.1⟩⟩
theorem RA_fr {h h' S T : xH} (e : ∀ a, (a = 66 ∨ a = 75 ∨ a = 78 ∨ a = 85 ∨ a = 87) → h' a = h a) (r : RA h S T) : RA h' S T := by
  unfold RA at *
  rw [e 66 (by decide), e 75 (by decide), e 78 (by decide), e 85 (by decide), e 87 (by decide)]
  exact r
theorem RB_fr {h h' S T : xH} {p : Int} (e : ∀ a, (a = 103 ∨ a = 104) → h' a = h a) (r : RB h S T p) : RB h' S T p := by
  unfold RB at *
  rw [e 103 (by decide), e 104 (by decide)]
  exact r
theorem sub_b {m : Nat} {a b : Int} (hm : m ≤ 12) (ha : ir m a) (hb : ir m b) : xand a b = a ↔ sub a b := by
  rw [← sub_a hm ha hb]
  have : xand a b = xand b a := tb_ext (xa_r hm ha hb).1 (xa_r hm hb ha).1 (fun i => by rw [tb_and hm ha hb, tb_and hm hb ha, Bool.and_comm])
  rw [this]
theorem sub_tr {m : Nat} {a b c : Int} (hm : m ≤ 12) (ha : ir m a) (hb : ir m b) (hc : ir m c) (h1 : sub a b) (h2 : sub b c) : sub a c := by
  rw [sub_t hm ha hc]
  exact fun i hi => (sub_t hm hb hc).mp h2 i ((sub_t hm ha hb).mp h1 i hi)
theorem sub_an {m : Nat} {a b : Int} (hm : m ≤ 12) (ha : ir m a) (hb : ir m b) : sub (xand a b) a := by
  rw [sub_t hm (xa_r hm ha hb) ha]
  intro i hi
  rw [tb_and hm ha hb, Bool.and_eq_true] at hi
  exact hi.1
theorem sub_el {m : Nat} {a b : Int} (hm : m ≤ 12) (ha : ir m a) (hb : ir m b) : sub (xxor a (xand a b)) a := by
  rw [sub_t hm (xx_r hm ha (xa_r hm ha hb)) ha]
  intro i hi
  rw [els hm ha hb, Bool.and_eq_true] at hi
  exact hi.1
theorem lk_p {u p : Int} (hp : 0 ≤ p) : lk u p ↔ pin u p = 0 := by
  unfold lk
  constructor
  · rintro (h | h)
    · omega
    · exact h
  · exact Or.inr
set_option maxHeartbeats 1000000 in
theorem m_barsN (d b : Nat) (h S T : xH) (n0 : Int) (wt : Int → Int) (hR : RR h S) (hRT : RRT h T) (hF : FW n0 wt 9 S) (hT : FWT S 7 T) (h3 : 0 ≤ S 0 0 ∧ S 0 0 ≤ 300) (h4 : 0 ≤ T 0 0 ∧ T 0 0 ≤ 150)  {Q : xO → xH → Prop} (hQ : ∀ h', (∀ a, a ≠ 98 → a ≠ 99 → a ≠ 103 → a ≠ 104 → h' a = h a) → RB h' S T (-1) → Q (.inl none) h') : xRn G0 MT (d + 1) b 229 [.inr (.inr 66), .inl (-1)] h Q := by
  refine R_of (M := mX12_bars) rfl (Nat.le_of_ble_eq_true rfl) ?_
  show xEx G0 cdX12_bars none (xRn G0 MT d) Q b 0 [some (.inr (.inr 66)), some (.inl (-1)), none] [] h
  refine E_s 2 (i' := 2) (ls' := [some (.inr (.inr 66)), some (.inl (-1)), none]) (sk' := [.inl (-1), .inl (-1)]) (h' := h) rfl ?_
  refine E_b (x := (.if_icmp .eq 8, 6, [], [])) rfl rfl (fun c2 => ?_) (fun c2 => ?_)
  · show xEx G0 cdX12_bars none (xRn G0 MT d) Q b 6 [some (.inr (.inr 66)), some (.inl (-1)), none] [] h
    refine E_s 2 (i' := 8) (ls' := [some (.inr (.inr 66)), some (.inl (-1)), some (.inl 0)]) (sk' := []) (h' := h) rfl ?_
    have key8 : ∀ (n : Nat) (hh : xH) (k : Int), (0 ≤ k) → (k ≤ S 0 0) → (∀ a, a ≠ 103 → hh a = h a) → (∀ j, 0 ≤ j → j < k → (hh 103 j = 0 ∧ lk (S 11 j) (-1)) ∨ (hh 103 j = 1 ∧ ¬ lk (S 11 j) (-1))) → ((S 0 0 - k).toNat) < n → xEx G0 cdX12_bars none (xRn G0 MT d) Q b 8 [some (.inr (.inr 66)), some (.inl (-1)), some (.inl k)] [] hh := by
      intro n
      induction n with
      | zero => intro hh k _ _ _ _ hm; exact absurd hm (Nat.not_lt_zero _)
      | succ n ih8 =>
        intro hh k hk0 hk9 hf hb hm8
        have e8 : hh 66 8 = S 0 0 := by rw [hf _ (by decide)]; exact hR.1
        have e19 : hh 66 19 = T 0 0 := by rw [hf _ (by decide)]; exact hRT.1
        refine E_s 3 (i' := 11) (ls' := [some (.inr (.inr 66)), some (.inl (-1)), some (.inl k)]) (sk' := [.inl (hh 66 8), .inl k]) (h' := hh) rfl ?_
        refine E_b (x := (.if_icmp .ge 34, 29, [], [])) rfl rfl (fun c11 => ?_) (fun c11 => ?_)
        · rw [c_ge (by first | assumption | (refine ⟨?_, ?_⟩ <;> omega) | (simp only [xr] at *; omega)) (by first | assumption | (refine ⟨?_, ?_⟩ <;> omega) | (simp only [xr] at *; omega))] at c11
          simp only [decide_eq_true_eq, decide_eq_false_iff_not, Decidable.not_not] at c11
          show xEx G0 cdX12_bars none (xRn G0 MT d) Q b 29 [some (.inr (.inr 66)), some (.inl (-1)), some (.inl k)] [] hh
          refine E_s 2 (i' := 31) (ls' := [some (.inr (.inr 66)), some (.inl (-1)), some (.inl 0)]) (sk' := []) (h' := hh) rfl ?_
          have key31 : ∀ (n : Nat) (hg : xH) (t : Int), (0 ≤ t) → (t ≤ T 0 0) → (∀ a, a ≠ 104 → hg a = hh a) → (∀ j, 0 ≤ j → j < t → (hg 104 j = 0 ∧ lk (T 11 j) (-1)) ∨ (hg 104 j = 1 ∧ ¬ lk (T 11 j) (-1))) → ((T 0 0 - t).toNat) < n → xEx G0 cdX12_bars none (xRn G0 MT d) Q b 31 [some (.inr (.inr 66)), some (.inl (-1)), some (.inl t)] [] hg := by
            intro n
            induction n with
            | zero => intro hg t _ _ _ _ hm; exact absurd hm (Nat.not_lt_zero _)
            | succ n ih31 =>
              intro hg t ht0 ht9 hgf hgb hm31
              have f19 : hg 66 19 = T 0 0 := by rw [hgf _ (by decide)]; exact e19
              refine E_s 3 (i' := 34) (ls' := [some (.inr (.inr 66)), some (.inl (-1)), some (.inl t)]) (sk' := [.inl (hg 66 19), .inl t]) (h' := hg) rfl ?_
              refine E_b (x := (.if_icmp .ge 34, 52, [], [])) rfl rfl (fun c34 => ?_) (fun c34 => ?_)
              · rw [c_ge (by first | assumption | (refine ⟨?_, ?_⟩ <;> omega) | (simp only [xr] at *; omega)) (by first | assumption | (refine ⟨?_, ?_⟩ <;> omega) | (simp only [xr] at *; omega))] at c34
                simp only [decide_eq_true_eq, decide_eq_false_iff_not, Decidable.not_not] at c34
                show xEx G0 cdX12_bars none (xRn G0 MT d) Q b 52 [some (.inr (.inr 66)), some (.inl (-1)), some (.inl t)] [] hg
                exact E_ret (x := (.return_, 0, [], [])) (v := none) rfl (trivial) (hQ _ (fun a z1 z2 z3 z4 => by rw [hgf a z4, hf a z3]) ⟨fun j z1 z2 => by rw [hgf _ (by decide)]; exact hb j z1 (by omega), fun j z1 z2 => hgb j z1 (by omega)⟩)
              · rw [c_ge (by first | assumption | (refine ⟨?_, ?_⟩ <;> omega) | (simp only [xr] at *; omega)) (by first | assumption | (refine ⟨?_, ?_⟩ <;> omega) | (simp only [xr] at *; omega))] at c34
                simp only [decide_eq_true_eq, decide_eq_false_iff_not, Decidable.not_not] at c34
                show xEx G0 cdX12_bars none (xRn G0 MT d) Q b 35 [some (.inr (.inr 66)), some (.inl (-1)), some (.inl t)] [] hg
                refine E_s 5 (i' := 40) (ls' := [some (.inr (.inr 66)), some (.inl (-1)), some (.inl t)]) (sk' := [.inl (-1), .inl (-1), .inl t, .inr (.inr 104)]) (h' := hg) rfl ?_
                refine E_b (x := (.if_icmp .eq 16, 48, [], [])) rfl rfl (fun c40 => ?_) (fun c40 => ?_)
                · show xEx G0 cdX12_bars none (xRn G0 MT d) Q b 48 [some (.inr (.inr 66)), some (.inl (-1)), some (.inl t)] [.inl t, .inr (.inr 104)] hg
                  refine E_s 1 (i' := 49) (ls' := [some (.inr (.inr 66)), some (.inl (-1)), some (.inl t)]) (sk' := [.inl 0, .inl t, .inr (.inr 104)]) (h' := hg) rfl ?_
                  refine E_sd (x := (.bastore, 0, [], [])) (ty := .boolean) (n := 150) (y := 0) rfl rfl rfl (by omega) (by omega) (by first | exact Or.inl rfl | exact Or.inr rfl) ?_
                  show xEx G0 cdX12_bars none (xRn G0 MT d) Q b 50 [some (.inr (.inr 66)), some (.inl (-1)), some (.inl t)] [] (xup hg 104 t 0)
                  refine E_s 2 (i' := 31) (ls' := [some (.inr (.inr 66)), some (.inl (-1)), some (.inl (t + 1))]) (sk' := []) (h' := (xup hg 104 t 0)) rfl ?_
                  exact ih31 _ (t + 1) (by omega) (by omega) (fun a z => by rw [xup_o _ _ _ _ a z]; exact hgf a z) (fun j z1 z2 => by
                    by_cases e : j = t
                    · rw [e]; exact Or.inl ⟨xup_s, Or.inl rfl⟩
                    · rw [xup_j e]; exact hgb j z1 (by omega)) (by omega)
                · show xEx G0 cdX12_bars none (xRn G0 MT d) Q b 41 [some (.inr (.inr 66)), some (.inl (-1)), some (.inl t)] [.inl t, .inr (.inr 104)] hg
                  exact absurd c40 (by decide)
          exact key31 _ hh 0 (by omega) (by omega) (fun _ _ => rfl) (fun j z1 z2 => by omega) (Nat.lt_succ_self _)
        · rw [c_ge (by first | assumption | (refine ⟨?_, ?_⟩ <;> omega) | (simp only [xr] at *; omega)) (by first | assumption | (refine ⟨?_, ?_⟩ <;> omega) | (simp only [xr] at *; omega))] at c11
          simp only [decide_eq_true_eq, decide_eq_false_iff_not, Decidable.not_not] at c11
          show xEx G0 cdX12_bars none (xRn G0 MT d) Q b 12 [some (.inr (.inr 66)), some (.inl (-1)), some (.inl k)] [] hh
          refine E_s 5 (i' := 17) (ls' := [some (.inr (.inr 66)), some (.inl (-1)), some (.inl k)]) (sk' := [.inl (-1), .inl (-1), .inl k, .inr (.inr 103)]) (h' := hh) rfl ?_
          refine E_b (x := (.if_icmp .eq 16, 25, [], [])) rfl rfl (fun c17 => ?_) (fun c17 => ?_)
          · show xEx G0 cdX12_bars none (xRn G0 MT d) Q b 25 [some (.inr (.inr 66)), some (.inl (-1)), some (.inl k)] [.inl k, .inr (.inr 103)] hh
            refine E_s 1 (i' := 26) (ls' := [some (.inr (.inr 66)), some (.inl (-1)), some (.inl k)]) (sk' := [.inl 0, .inl k, .inr (.inr 103)]) (h' := hh) rfl ?_
            refine E_sd (x := (.bastore, 0, [], [])) (ty := .boolean) (n := 300) (y := 0) rfl rfl rfl (by omega) (by omega) (by first | exact Or.inl rfl | exact Or.inr rfl) ?_
            show xEx G0 cdX12_bars none (xRn G0 MT d) Q b 27 [some (.inr (.inr 66)), some (.inl (-1)), some (.inl k)] [] (xup hh 103 k 0)
            refine E_s 2 (i' := 8) (ls' := [some (.inr (.inr 66)), some (.inl (-1)), some (.inl (k + 1))]) (sk' := []) (h' := (xup hh 103 k 0)) rfl ?_
            exact ih8 _ (k + 1) (by omega) (by omega) (fun a z => by rw [xup_o _ _ _ _ a z]; exact hf a z) (fun j z1 z2 => by
              by_cases e : j = k
              · rw [e]; exact Or.inl ⟨xup_s, Or.inl rfl⟩
              · rw [xup_j e]; exact hb j z1 (by omega)) (by omega)
          · show xEx G0 cdX12_bars none (xRn G0 MT d) Q b 18 [some (.inr (.inr 66)), some (.inl (-1)), some (.inl k)] [.inl k, .inr (.inr 103)] hh
            exact absurd c17 (by decide)
    exact key8 _ h 0 (by omega) (by omega) (fun _ _ => rfl) (fun j z1 z2 => by omega) (Nat.lt_succ_self _)
  · show xEx G0 cdX12_bars none (xRn G0 MT d) Q b 3 [some (.inr (.inr 66)), some (.inl (-1)), none] [] h
    exact absurd c2 (by decide)
set_option maxHeartbeats 1000000 in
theorem m_barsP (d b : Nat) (h S T : xH) (p n0 : Int) (wt : Int → Int) (hp : 0 ≤ p ∧ p ≤ 9) (hR : RR h S) (hRT : RRT h T) (hF : FW n0 wt 9 S) (hT : FWT S 7 T) (h3 : 0 ≤ S 0 0 ∧ S 0 0 ≤ 300) (h4 : 0 ≤ T 0 0 ∧ T 0 0 ≤ 150)  {Q : xO → xH → Prop} (hQ : ∀ h', (∀ a, a ≠ 98 → a ≠ 99 → a ≠ 103 → a ≠ 104 → h' a = h a) → RB h' S T p → Q (.inl none) h') : xRn G0 MT (d + 2) b 229 [.inr (.inr 66), .inl p] h Q := by
  refine R_of (M := mX12_bars) rfl (Nat.le_of_ble_eq_true rfl) ?_
  show xEx G0 cdX12_bars none (xRn G0 MT (d + 1)) Q b 0 [some (.inr (.inr 66)), some (.inl p), none] [] h
  refine E_s 2 (i' := 2) (ls' := [some (.inr (.inr 66)), some (.inl p), none]) (sk' := [.inl (-1), .inl p]) (h' := h) rfl ?_
  refine E_b (x := (.if_icmp .eq 8, 6, [], [])) rfl rfl (fun c2 => ?_) (fun c2 => ?_)
  · rw [c_eq (by first | assumption | (refine ⟨?_, ?_⟩ <;> omega) | (simp only [xr] at *; omega)) (by first | assumption | (refine ⟨?_, ?_⟩ <;> omega) | (simp only [xr] at *; omega))] at c2
    simp only [decide_eq_true_eq, decide_eq_false_iff_not, Decidable.not_not] at c2
    show xEx G0 cdX12_bars none (xRn G0 MT (d + 1)) Q b 6 [some (.inr (.inr 66)), some (.inl p), none] [] h
    omega
  · rw [c_eq (by first | assumption | (refine ⟨?_, ?_⟩ <;> omega) | (simp only [xr] at *; omega)) (by first | assumption | (refine ⟨?_, ?_⟩ <;> omega) | (simp only [xr] at *; omega))] at c2
    simp only [decide_eq_true_eq, decide_eq_false_iff_not, Decidable.not_not] at c2
    show xEx G0 cdX12_bars none (xRn G0 MT (d + 1)) Q b 3 [some (.inr (.inr 66)), some (.inl p), none] [] h
    refine E_s 2 (i' := 5) (ls' := [some (.inr (.inr 66)), some (.inl p), none]) (sk' := [.inl p, .inr (.inr 66)]) (h' := h) rfl ?_
    refine E_cv (x := (.invokevirtual 375, 1, [(10, 221)], [0])) (q := fun h9 => (∀ a, a ≠ 98 → a ≠ 99 → h9 a = h a) ∧ (∀ k, 0 ≤ k → k < S 0 0 → h9 98 k = pin (S 11 k) p) ∧ (∀ t, 0 ≤ t → t < T 0 0 → h9 99 t = pin (T 11 t) p)) rfl rfl (Nat.le_of_ble_eq_true rfl) (m_countsPart d 0 h S T p n0 wt hp hR hRT hF hT h3 h4 (fun h9 z1 z2 z3 => ⟨rfl, z1, z2, z3⟩)) (fun hc hq => ?_)
    obtain ⟨fc, sc, tc⟩ := hq
    show xEx G0 cdX12_bars none (xRn G0 MT (d + 1)) Q b 6 [some (.inr (.inr 66)), some (.inl p), none] [] hc
    refine E_s 2 (i' := 8) (ls' := [some (.inr (.inr 66)), some (.inl p), some (.inl 0)]) (sk' := []) (h' := hc) rfl ?_
    have key8 : ∀ (n : Nat) (hh : xH) (k : Int), (0 ≤ k) → (k ≤ S 0 0) → (∀ a, a ≠ 103 → hh a = hc a) → (∀ j, 0 ≤ j → j < k → (hh 103 j = 0 ∧ lk (S 11 j) p) ∨ (hh 103 j = 1 ∧ ¬ lk (S 11 j) p)) → ((S 0 0 - k).toNat) < n → xEx G0 cdX12_bars none (xRn G0 MT (d + 1)) Q b 8 [some (.inr (.inr 66)), some (.inl p), some (.inl k)] [] hh := by
      intro n
      induction n with
      | zero => intro hh k _ _ _ _ hm; exact absurd hm (Nat.not_lt_zero _)
      | succ n ih8 =>
        intro hh k hk0 hk9 hf hb hm8
        have e8 : hh 66 8 = S 0 0 := by rw [hf _ (by decide), fc _ (by decide) (by decide)]; exact hR.1
        have e19 : hh 66 19 = T 0 0 := by rw [hf _ (by decide), fc _ (by decide) (by decide)]; exact hRT.1
        refine E_s 3 (i' := 11) (ls' := [some (.inr (.inr 66)), some (.inl p), some (.inl k)]) (sk' := [.inl (hh 66 8), .inl k]) (h' := hh) rfl ?_
        refine E_b (x := (.if_icmp .ge 34, 29, [], [])) rfl rfl (fun c11 => ?_) (fun c11 => ?_)
        · rw [c_ge (by first | assumption | (refine ⟨?_, ?_⟩ <;> omega) | (simp only [xr] at *; omega)) (by first | assumption | (refine ⟨?_, ?_⟩ <;> omega) | (simp only [xr] at *; omega))] at c11
          simp only [decide_eq_true_eq, decide_eq_false_iff_not, Decidable.not_not] at c11
          show xEx G0 cdX12_bars none (xRn G0 MT (d + 1)) Q b 29 [some (.inr (.inr 66)), some (.inl p), some (.inl k)] [] hh
          refine E_s 2 (i' := 31) (ls' := [some (.inr (.inr 66)), some (.inl p), some (.inl 0)]) (sk' := []) (h' := hh) rfl ?_
          have key31 : ∀ (n : Nat) (hg : xH) (t : Int), (0 ≤ t) → (t ≤ T 0 0) → (∀ a, a ≠ 104 → hg a = hh a) → (∀ j, 0 ≤ j → j < t → (hg 104 j = 0 ∧ lk (T 11 j) p) ∨ (hg 104 j = 1 ∧ ¬ lk (T 11 j) p)) → ((T 0 0 - t).toNat) < n → xEx G0 cdX12_bars none (xRn G0 MT (d + 1)) Q b 31 [some (.inr (.inr 66)), some (.inl p), some (.inl t)] [] hg := by
            intro n
            induction n with
            | zero => intro hg t _ _ _ _ hm; exact absurd hm (Nat.not_lt_zero _)
            | succ n ih31 =>
              intro hg t ht0 ht9 hgf hgb hm31
              have f19 : hg 66 19 = T 0 0 := by rw [hgf _ (by decide)]; exact e19
              refine E_s 3 (i' := 34) (ls' := [some (.inr (.inr 66)), some (.inl p), some (.inl t)]) (sk' := [.inl (hg 66 19), .inl t]) (h' := hg) rfl ?_
              refine E_b (x := (.if_icmp .ge 34, 52, [], [])) rfl rfl (fun c34 => ?_) (fun c34 => ?_)
              · rw [c_ge (by first | assumption | (refine ⟨?_, ?_⟩ <;> omega) | (simp only [xr] at *; omega)) (by first | assumption | (refine ⟨?_, ?_⟩ <;> omega) | (simp only [xr] at *; omega))] at c34
                simp only [decide_eq_true_eq, decide_eq_false_iff_not, Decidable.not_not] at c34
                show xEx G0 cdX12_bars none (xRn G0 MT (d + 1)) Q b 52 [some (.inr (.inr 66)), some (.inl p), some (.inl t)] [] hg
                exact E_ret (x := (.return_, 0, [], [])) (v := none) rfl (trivial) (hQ _ (fun a z1 z2 z3 z4 => by rw [hgf a z4, hf a z3, fc a z1 z2]) ⟨fun j z1 z2 => by rw [hgf _ (by decide)]; exact hb j z1 (by omega), fun j z1 z2 => hgb j z1 (by omega)⟩)
              · rw [c_ge (by first | assumption | (refine ⟨?_, ?_⟩ <;> omega) | (simp only [xr] at *; omega)) (by first | assumption | (refine ⟨?_, ?_⟩ <;> omega) | (simp only [xr] at *; omega))] at c34
                simp only [decide_eq_true_eq, decide_eq_false_iff_not, Decidable.not_not] at c34
                show xEx G0 cdX12_bars none (xRn G0 MT (d + 1)) Q b 35 [some (.inr (.inr 66)), some (.inl p), some (.inl t)] [] hg
                refine E_s 5 (i' := 40) (ls' := [some (.inr (.inr 66)), some (.inl p), some (.inl t)]) (sk' := [.inl (-1), .inl p, .inl t, .inr (.inr 104)]) (h' := hg) rfl ?_
                refine E_b (x := (.if_icmp .eq 16, 48, [], [])) rfl rfl (fun c40 => ?_) (fun c40 => ?_)
                · rw [c_eq (by first | assumption | (refine ⟨?_, ?_⟩ <;> omega) | (simp only [xr] at *; omega)) (by first | assumption | (refine ⟨?_, ?_⟩ <;> omega) | (simp only [xr] at *; omega))] at c40
                  simp only [decide_eq_true_eq, decide_eq_false_iff_not, Decidable.not_not] at c40
                  show xEx G0 cdX12_bars none (xRn G0 MT (d + 1)) Q b 48 [some (.inr (.inr 66)), some (.inl p), some (.inl t)] [.inl t, .inr (.inr 104)] hg
                  refine E_s 1 (i' := 49) (ls' := [some (.inr (.inr 66)), some (.inl p), some (.inl t)]) (sk' := [.inl 0, .inl t, .inr (.inr 104)]) (h' := hg) rfl ?_
                  refine E_sd (x := (.bastore, 0, [], [])) (ty := .boolean) (n := 150) (y := 0) rfl rfl rfl (by omega) (by omega) (by first | exact Or.inl rfl | exact Or.inr rfl) ?_
                  show xEx G0 cdX12_bars none (xRn G0 MT (d + 1)) Q b 50 [some (.inr (.inr 66)), some (.inl p), some (.inl t)] [] (xup hg 104 t 0)
                  refine E_s 2 (i' := 31) (ls' := [some (.inr (.inr 66)), some (.inl p), some (.inl (t + 1))]) (sk' := []) (h' := (xup hg 104 t 0)) rfl ?_
                  exact ih31 _ (t + 1) (by omega) (by omega) (fun a z => by rw [xup_o _ _ _ _ a z]; exact hgf a z) (fun j z1 z2 => by
                    by_cases e : j = t
                    · rw [e]; exact Or.inl ⟨xup_s, by rw [lk_p hp.1]; omega⟩
                    · rw [xup_j e]; exact hgb j z1 (by omega)) (by omega)
                · rw [c_eq (by first | assumption | (refine ⟨?_, ?_⟩ <;> omega) | (simp only [xr] at *; omega)) (by first | assumption | (refine ⟨?_, ?_⟩ <;> omega) | (simp only [xr] at *; omega))] at c40
                  simp only [decide_eq_true_eq, decide_eq_false_iff_not, Decidable.not_not] at c40
                  show xEx G0 cdX12_bars none (xRn G0 MT (d + 1)) Q b 41 [some (.inr (.inr 66)), some (.inl p), some (.inl t)] [.inl t, .inr (.inr 104)] hg
                  have s8 : hg 99 t = pin (T 11 t) p := by rw [hgf _ (by decide), hf _ (by decide)]; exact tc t ht0 (by omega)
                  have r8 := pT_r hF hT ht0 (by omega : t < T 0 0) hp.1 hp.2
                  refine E_s 3 (i' := 44) (ls' := [some (.inr (.inr 66)), some (.inl p), some (.inl t)]) (sk' := [.inl t, .inr (.inr 99), .inl t, .inr (.inr 104)]) (h' := hg) rfl ?_
                  refine E_ld (x := (.iaload, 0, [], [])) (ty := .int) (n := 150) rfl rfl rfl (by omega) (by omega) ?_
                  show xEx G0 cdX12_bars none (xRn G0 MT (d + 1)) Q b 45 [some (.inr (.inr 66)), some (.inl p), some (.inl t)] [.inl (hg 99 t), .inl t, .inr (.inr 104)] hg
                  refine E_b (x := (.ifCond .le 7, 48, [], [])) rfl rfl (fun c45 => ?_) (fun c45 => ?_)
                  · rw [c_le (by first | assumption | (refine ⟨?_, ?_⟩ <;> omega) | (simp only [xr] at *; omega)) (by first | assumption | (refine ⟨?_, ?_⟩ <;> omega) | (simp only [xr] at *; omega))] at c45
                    simp only [decide_eq_true_eq, decide_eq_false_iff_not, Decidable.not_not] at c45
                    show xEx G0 cdX12_bars none (xRn G0 MT (d + 1)) Q b 48 [some (.inr (.inr 66)), some (.inl p), some (.inl t)] [.inl t, .inr (.inr 104)] hg
                    refine E_s 1 (i' := 49) (ls' := [some (.inr (.inr 66)), some (.inl p), some (.inl t)]) (sk' := [.inl 0, .inl t, .inr (.inr 104)]) (h' := hg) rfl ?_
                    refine E_sd (x := (.bastore, 0, [], [])) (ty := .boolean) (n := 150) (y := 0) rfl rfl rfl (by omega) (by omega) (by first | exact Or.inl rfl | exact Or.inr rfl) ?_
                    show xEx G0 cdX12_bars none (xRn G0 MT (d + 1)) Q b 50 [some (.inr (.inr 66)), some (.inl p), some (.inl t)] [] (xup hg 104 t 0)
                    refine E_s 2 (i' := 31) (ls' := [some (.inr (.inr 66)), some (.inl p), some (.inl (t + 1))]) (sk' := []) (h' := (xup hg 104 t 0)) rfl ?_
                    exact ih31 _ (t + 1) (by omega) (by omega) (fun a z => by rw [xup_o _ _ _ _ a z]; exact hgf a z) (fun j z1 z2 => by
                      by_cases e : j = t
                      · rw [e]; exact Or.inl ⟨xup_s, by rw [lk_p hp.1]; omega⟩
                      · rw [xup_j e]; exact hgb j z1 (by omega)) (by omega)
                  · rw [c_le (by first | assumption | (refine ⟨?_, ?_⟩ <;> omega) | (simp only [xr] at *; omega)) (by first | assumption | (refine ⟨?_, ?_⟩ <;> omega) | (simp only [xr] at *; omega))] at c45
                    simp only [decide_eq_true_eq, decide_eq_false_iff_not, Decidable.not_not] at c45
                    show xEx G0 cdX12_bars none (xRn G0 MT (d + 1)) Q b 46 [some (.inr (.inr 66)), some (.inl p), some (.inl t)] [.inl t, .inr (.inr 104)] hg
                    refine E_s 2 (i' := 49) (ls' := [some (.inr (.inr 66)), some (.inl p), some (.inl t)]) (sk' := [.inl 1, .inl t, .inr (.inr 104)]) (h' := hg) rfl ?_
                    refine E_sd (x := (.bastore, 0, [], [])) (ty := .boolean) (n := 150) (y := 1) rfl rfl rfl (by omega) (by omega) (by first | exact Or.inl rfl | exact Or.inr rfl) ?_
                    show xEx G0 cdX12_bars none (xRn G0 MT (d + 1)) Q b 50 [some (.inr (.inr 66)), some (.inl p), some (.inl t)] [] (xup hg 104 t 1)
                    refine E_s 2 (i' := 31) (ls' := [some (.inr (.inr 66)), some (.inl p), some (.inl (t + 1))]) (sk' := []) (h' := (xup hg 104 t 1)) rfl ?_
                    exact ih31 _ (t + 1) (by omega) (by omega) (fun a z => by rw [xup_o _ _ _ _ a z]; exact hgf a z) (fun j z1 z2 => by
                      by_cases e : j = t
                      · rw [e]; exact Or.inr ⟨xup_s, fun y => by rw [lk_p hp.1] at y; omega⟩
                      · rw [xup_j e]; exact hgb j z1 (by omega)) (by omega)
          exact key31 _ hh 0 (by omega) (by omega) (fun _ _ => rfl) (fun j z1 z2 => by omega) (Nat.lt_succ_self _)
        · rw [c_ge (by first | assumption | (refine ⟨?_, ?_⟩ <;> omega) | (simp only [xr] at *; omega)) (by first | assumption | (refine ⟨?_, ?_⟩ <;> omega) | (simp only [xr] at *; omega))] at c11
          simp only [decide_eq_true_eq, decide_eq_false_iff_not, Decidable.not_not] at c11
          show xEx G0 cdX12_bars none (xRn G0 MT (d + 1)) Q b 12 [some (.inr (.inr 66)), some (.inl p), some (.inl k)] [] hh
          refine E_s 5 (i' := 17) (ls' := [some (.inr (.inr 66)), some (.inl p), some (.inl k)]) (sk' := [.inl (-1), .inl p, .inl k, .inr (.inr 103)]) (h' := hh) rfl ?_
          refine E_b (x := (.if_icmp .eq 16, 25, [], [])) rfl rfl (fun c17 => ?_) (fun c17 => ?_)
          · rw [c_eq (by first | assumption | (refine ⟨?_, ?_⟩ <;> omega) | (simp only [xr] at *; omega)) (by first | assumption | (refine ⟨?_, ?_⟩ <;> omega) | (simp only [xr] at *; omega))] at c17
            simp only [decide_eq_true_eq, decide_eq_false_iff_not, Decidable.not_not] at c17
            show xEx G0 cdX12_bars none (xRn G0 MT (d + 1)) Q b 25 [some (.inr (.inr 66)), some (.inl p), some (.inl k)] [.inl k, .inr (.inr 103)] hh
            refine E_s 1 (i' := 26) (ls' := [some (.inr (.inr 66)), some (.inl p), some (.inl k)]) (sk' := [.inl 0, .inl k, .inr (.inr 103)]) (h' := hh) rfl ?_
            refine E_sd (x := (.bastore, 0, [], [])) (ty := .boolean) (n := 300) (y := 0) rfl rfl rfl (by omega) (by omega) (by first | exact Or.inl rfl | exact Or.inr rfl) ?_
            show xEx G0 cdX12_bars none (xRn G0 MT (d + 1)) Q b 27 [some (.inr (.inr 66)), some (.inl p), some (.inl k)] [] (xup hh 103 k 0)
            refine E_s 2 (i' := 8) (ls' := [some (.inr (.inr 66)), some (.inl p), some (.inl (k + 1))]) (sk' := []) (h' := (xup hh 103 k 0)) rfl ?_
            exact ih8 _ (k + 1) (by omega) (by omega) (fun a z => by rw [xup_o _ _ _ _ a z]; exact hf a z) (fun j z1 z2 => by
              by_cases e : j = k
              · rw [e]; exact Or.inl ⟨xup_s, by rw [lk_p hp.1]; omega⟩
              · rw [xup_j e]; exact hb j z1 (by omega)) (by omega)
          · rw [c_eq (by first | assumption | (refine ⟨?_, ?_⟩ <;> omega) | (simp only [xr] at *; omega)) (by first | assumption | (refine ⟨?_, ?_⟩ <;> omega) | (simp only [xr] at *; omega))] at c17
            simp only [decide_eq_true_eq, decide_eq_false_iff_not, Decidable.not_not] at c17
            show xEx G0 cdX12_bars none (xRn G0 MT (d + 1)) Q b 18 [some (.inr (.inr 66)), some (.inl p), some (.inl k)] [.inl k, .inr (.inr 103)] hh
            have s9 : hh 98 k = pin (S 11 k) p := by rw [hf _ (by decide)]; exact sc k hk0 (by omega)
            have r9 := pE_r hF hk0 (by omega : k < S 0 0) hp.1 hp.2
            refine E_s 3 (i' := 21) (ls' := [some (.inr (.inr 66)), some (.inl p), some (.inl k)]) (sk' := [.inl k, .inr (.inr 98), .inl k, .inr (.inr 103)]) (h' := hh) rfl ?_
            refine E_ld (x := (.iaload, 0, [], [])) (ty := .int) (n := 300) rfl rfl rfl (by omega) (by omega) ?_
            show xEx G0 cdX12_bars none (xRn G0 MT (d + 1)) Q b 22 [some (.inr (.inr 66)), some (.inl p), some (.inl k)] [.inl (hh 98 k), .inl k, .inr (.inr 103)] hh
            refine E_b (x := (.ifCond .le 7, 25, [], [])) rfl rfl (fun c22 => ?_) (fun c22 => ?_)
            · rw [c_le (by first | assumption | (refine ⟨?_, ?_⟩ <;> omega) | (simp only [xr] at *; omega)) (by first | assumption | (refine ⟨?_, ?_⟩ <;> omega) | (simp only [xr] at *; omega))] at c22
              simp only [decide_eq_true_eq, decide_eq_false_iff_not, Decidable.not_not] at c22
              show xEx G0 cdX12_bars none (xRn G0 MT (d + 1)) Q b 25 [some (.inr (.inr 66)), some (.inl p), some (.inl k)] [.inl k, .inr (.inr 103)] hh
              refine E_s 1 (i' := 26) (ls' := [some (.inr (.inr 66)), some (.inl p), some (.inl k)]) (sk' := [.inl 0, .inl k, .inr (.inr 103)]) (h' := hh) rfl ?_
              refine E_sd (x := (.bastore, 0, [], [])) (ty := .boolean) (n := 300) (y := 0) rfl rfl rfl (by omega) (by omega) (by first | exact Or.inl rfl | exact Or.inr rfl) ?_
              show xEx G0 cdX12_bars none (xRn G0 MT (d + 1)) Q b 27 [some (.inr (.inr 66)), some (.inl p), some (.inl k)] [] (xup hh 103 k 0)
              refine E_s 2 (i' := 8) (ls' := [some (.inr (.inr 66)), some (.inl p), some (.inl (k + 1))]) (sk' := []) (h' := (xup hh 103 k 0)) rfl ?_
              exact ih8 _ (k + 1) (by omega) (by omega) (fun a z => by rw [xup_o _ _ _ _ a z]; exact hf a z) (fun j z1 z2 => by
                by_cases e : j = k
                · rw [e]; exact Or.inl ⟨xup_s, by rw [lk_p hp.1]; omega⟩
                · rw [xup_j e]; exact hb j z1 (by omega)) (by omega)
            · rw [c_le (by first | assumption | (refine ⟨?_, ?_⟩ <;> omega) | (simp only [xr] at *; omega)) (by first | assumption | (refine ⟨?_, ?_⟩ <;> omega) | (simp only [xr] at *; omega))] at c22
              simp only [decide_eq_true_eq, decide_eq_false_iff_not, Decidable.not_not] at c22
              show xEx G0 cdX12_bars none (xRn G0 MT (d + 1)) Q b 23 [some (.inr (.inr 66)), some (.inl p), some (.inl k)] [.inl k, .inr (.inr 103)] hh
              refine E_s 2 (i' := 26) (ls' := [some (.inr (.inr 66)), some (.inl p), some (.inl k)]) (sk' := [.inl 1, .inl k, .inr (.inr 103)]) (h' := hh) rfl ?_
              refine E_sd (x := (.bastore, 0, [], [])) (ty := .boolean) (n := 300) (y := 1) rfl rfl rfl (by omega) (by omega) (by first | exact Or.inl rfl | exact Or.inr rfl) ?_
              show xEx G0 cdX12_bars none (xRn G0 MT (d + 1)) Q b 27 [some (.inr (.inr 66)), some (.inl p), some (.inl k)] [] (xup hh 103 k 1)
              refine E_s 2 (i' := 8) (ls' := [some (.inr (.inr 66)), some (.inl p), some (.inl (k + 1))]) (sk' := []) (h' := (xup hh 103 k 1)) rfl ?_
              exact ih8 _ (k + 1) (by omega) (by omega) (fun a z => by rw [xup_o _ _ _ _ a z]; exact hf a z) (fun j z1 z2 => by
                by_cases e : j = k
                · rw [e]; exact Or.inr ⟨xup_s, fun y => by rw [lk_p hp.1] at y; omega⟩
                · rw [xup_j e]; exact hb j z1 (by omega)) (by omega)
    exact key8 _ hc 0 (by omega) (by omega) (fun _ _ => rfl) (fun j z1 z2 => by omega) (Nat.lt_succ_self _)
set_option maxHeartbeats 1000000 in
theorem m_leafOf (d b : Nat) (h S T : xH) (p set : Int) (m : Nat) (o : OKS S T (S 0 0) (T 0 0) m) (hA : RA h S T) (hB : RB h S T p) (hs : ir m set) {Q : xO → xH → Prop} (hQ : Q (.inl (some (.inl (lf S (S 0 0) p set)))) h) : xRn G0 MT (d + 1) b 226 [.inr (.inr 66), .inl set] h Q := by
  refine R_of (M := mX12_leafOf) rfl (Nat.le_of_ble_eq_true rfl) ?_
  show xEx G0 cdX12_leafOf (some .int) (xRn G0 MT d) Q b 0 [some (.inr (.inr 66)), some (.inl set), none] [] h
  have ok0 := o.2.1
  refine E_s 2 (i' := 2) (ls' := [some (.inr (.inr 66)), some (.inl set), some (.inl 0)]) (sk' := []) (h' := h) rfl ?_
  have key2 : ∀ (n : Nat) (k : Int), (0 ≤ k) → (k ≤ S 0 0) → (∀ j, 0 ≤ j → j < k → ¬ (lk (S 11 j) p ∧ sub set (S 6 j))) → ((S 0 0 - k).toNat) < n → xEx G0 cdX12_leafOf (some .int) (xRn G0 MT d) Q b 2 [some (.inr (.inr 66)), some (.inl set), some (.inl k)] [] h := by
    intro n
    induction n with
    | zero => intro k _ _ _ hm; exact absurd hm (Nat.not_lt_zero _)
    | succ n ih2 =>
      intro k hk0 hk9 hno hm2
      have e8 : h 66 8 = S 0 0 := hA.1
      have ok := o.2.1
      refine E_s 3 (i' := 5) (ls' := [some (.inr (.inr 66)), some (.inl set), some (.inl k)]) (sk' := [.inl (h 66 8), .inl k]) (h' := h) rfl ?_
      refine E_b (x := (.if_icmp .ge 32, 23, [], [])) rfl rfl (fun c5 => ?_) (fun c5 => ?_)
      · rw [c_ge (by first | assumption | (refine ⟨?_, ?_⟩ <;> omega) | (simp only [xr] at *; omega)) (by first | assumption | (refine ⟨?_, ?_⟩ <;> omega) | (simp only [xr] at *; omega))] at c5
        simp only [decide_eq_true_eq, decide_eq_false_iff_not, Decidable.not_not] at c5
        show xEx G0 cdX12_leafOf (some .int) (xRn G0 MT d) Q b 23 [some (.inr (.inr 66)), some (.inl set), some (.inl k)] [] h
        refine E_s 1 (i' := 24) (ls' := [some (.inr (.inr 66)), some (.inl set), some (.inl k)]) (sk' := [.inl (-1)]) (h' := h) rfl ?_
        exact E_ret (x := (.ireturn, 0, [], [])) (v := some (.inl (-1))) rfl (Or.inl rfl) (by
          have e9 : lf S (S 0 0) p set = -1 := fnd_no (fun j z1 z2 => hno j z1 (by omega))
          rw [e9] at hQ
          exact hQ)
      · rw [c_ge (by first | assumption | (refine ⟨?_, ?_⟩ <;> omega) | (simp only [xr] at *; omega)) (by first | assumption | (refine ⟨?_, ?_⟩ <;> omega) | (simp only [xr] at *; omega))] at c5
        simp only [decide_eq_true_eq, decide_eq_false_iff_not, Decidable.not_not] at c5
        show xEx G0 cdX12_leafOf (some .int) (xRn G0 MT d) Q b 6 [some (.inr (.inr 66)), some (.inl set), some (.inl k)] [] h
        have e6 : h 78 k = S 6 k := (hA.2.2.1 k hk0 (by omega)).2
        have i6 := (o.2.2.2.1 k hk0 (by omega)).2.1
        have sa := sub_a o.1 hs i6
        have hb := hB.1 k hk0 (by omega)
        have r4 := ir4 o.1 hs
        have rb : h 103 k = 0 ∨ h 103 k = 1 := by
          rcases hb with ⟨z9, -⟩ | ⟨z9, -⟩
          · exact Or.inl z9
          · exact Or.inr z9
        refine E_s 3 (i' := 9) (ls' := [some (.inr (.inr 66)), some (.inl set), some (.inl k)]) (sk' := [.inl k, .inr (.inr 78)]) (h' := h) rfl ?_
        refine E_ld (x := (.iaload, 0, [], [])) (ty := .int) (n := 300) rfl rfl rfl (by omega) (by omega) ?_
        show xEx G0 cdX12_leafOf (some .int) (xRn G0 MT d) Q b 10 [some (.inr (.inr 66)), some (.inl set), some (.inl k)] [.inl (h 78 k)] h
        refine E_s 3 (i' := 13) (ls' := [some (.inr (.inr 66)), some (.inl set), some (.inl k)]) (sk' := [.inl set, .inl (xand (h 78 k) set)]) (h' := h) rfl ?_
        refine E_b (x := (.if_icmp .ne 14, 21, [], [])) rfl rfl (fun c13 => ?_) (fun c13 => ?_)
        · rw [c_ne (by first | exact xand_r _ _ | exact ⟨by omega, by omega⟩) (by first | exact xand_r _ _ | exact ⟨by omega, by omega⟩)] at c13
          simp only [decide_eq_true_eq, decide_eq_false_iff_not, Decidable.not_not] at c13
          show xEx G0 cdX12_leafOf (some .int) (xRn G0 MT d) Q b 21 [some (.inr (.inr 66)), some (.inl set), some (.inl k)] [] h
          have nn : ¬ (lk (S 11 k) p ∧ sub set (S 6 k)) := by
            rintro ⟨y1, y2⟩
            first
            | exact c13 (by rw [e6]; exact sa.mpr y2)
            | (rcases hb with ⟨z9, -⟩ | ⟨-, z9⟩
               · exact c18 z9
               · exact z9 y1)
          refine E_s 2 (i' := 2) (ls' := [some (.inr (.inr 66)), some (.inl set), some (.inl (k + 1))]) (sk' := []) (h' := h) rfl ?_
          exact ih2 (k + 1) (by omega) (by omega) (fun j z1 z2 => by
            by_cases e : j = k
            · rw [e]; exact nn
            · exact hno j z1 (by omega)) (by omega)
        · rw [c_ne (by first | exact xand_r _ _ | exact ⟨by omega, by omega⟩) (by first | exact xand_r _ _ | exact ⟨by omega, by omega⟩)] at c13
          simp only [decide_eq_true_eq, decide_eq_false_iff_not, Decidable.not_not] at c13
          show xEx G0 cdX12_leafOf (some .int) (xRn G0 MT d) Q b 14 [some (.inr (.inr 66)), some (.inl set), some (.inl k)] [] h
          refine E_s 3 (i' := 17) (ls' := [some (.inr (.inr 66)), some (.inl set), some (.inl k)]) (sk' := [.inl k, .inr (.inr 103)]) (h' := h) rfl ?_
          refine E_ld (x := (.baload, 0, [], [])) (ty := .boolean) (n := 300) rfl rfl rfl (by omega) (by omega) ?_
          show xEx G0 cdX12_leafOf (some .int) (xRn G0 MT d) Q b 18 [some (.inr (.inr 66)), some (.inl set), some (.inl k)] [.inl (h 103 k)] h
          refine E_b (x := (.ifCond .ne 5, 21, [], [])) rfl rfl (fun c18 => ?_) (fun c18 => ?_)
          · rw [c_ne (by exact ⟨by omega, by omega⟩) (by exact ⟨by omega, by omega⟩)] at c18
            simp only [decide_eq_true_eq, decide_eq_false_iff_not, Decidable.not_not] at c18
            show xEx G0 cdX12_leafOf (some .int) (xRn G0 MT d) Q b 21 [some (.inr (.inr 66)), some (.inl set), some (.inl k)] [] h
            have nn : ¬ (lk (S 11 k) p ∧ sub set (S 6 k)) := by
              rintro ⟨y1, y2⟩
              first
              | exact c13 (by rw [e6]; exact sa.mpr y2)
              | (rcases hb with ⟨z9, -⟩ | ⟨-, z9⟩
                 · exact c18 z9
                 · exact z9 y1)
            refine E_s 2 (i' := 2) (ls' := [some (.inr (.inr 66)), some (.inl set), some (.inl (k + 1))]) (sk' := []) (h' := h) rfl ?_
            exact ih2 (k + 1) (by omega) (by omega) (fun j z1 z2 => by
              by_cases e : j = k
              · rw [e]; exact nn
              · exact hno j z1 (by omega)) (by omega)
          · rw [c_ne (by exact ⟨by omega, by omega⟩) (by exact ⟨by omega, by omega⟩)] at c18
            simp only [decide_eq_true_eq, decide_eq_false_iff_not, Decidable.not_not] at c18
            show xEx G0 cdX12_leafOf (some .int) (xRn G0 MT d) Q b 19 [some (.inr (.inr 66)), some (.inl set), some (.inl k)] [] h
            refine E_s 1 (i' := 20) (ls' := [some (.inr (.inr 66)), some (.inl set), some (.inl k)]) (sk' := [.inl k]) (h' := h) rfl ?_
            exact E_ret (x := (.ireturn, 0, [], [])) (v := some (.inl k)) rfl (Or.inl rfl) (by
              have e9 : lf S (S 0 0) p set = k := fnd_is (p := fun k => lk (S 11 k) p ∧ sub set (S 6 k)) hk0 (by omega) ⟨by
                rcases hb with ⟨-, z9⟩ | ⟨z9, -⟩
                · exact z9
                · omega, sa.mp (by rw [← e6]; exact c13)⟩ hno
              rw [e9] at hQ
              exact hQ)
  exact key2 _ 0 (by omega) (by omega) (fun j z1 z2 => by omega) (Nat.lt_succ_self _)
set_option maxHeartbeats 1000000 in
theorem m_lSet0 (d b : Nat) (h S T : xH) (p set : Int) (m : Nat) (o : OKS S T (S 0 0) (T 0 0) m) (hA : RA h S T) (hB : RB h S T p) (hs : ir m set) (hs1 : set ≠ 0) (hl : h 100 set = lf S (S 0 0) p set)  {Q : xO → xH → Prop} (hQ : ∀ h', (∀ a, a ≠ 101 → a ≠ 102 → h' a = h a) → (∀ j, j ≠ (0 + set) → h' 101 j = h 101 j ∧ h' 102 j = h 102 j) → h' 101 (0 + set) = szf S T (S 0 0) (T 0 0) p 0 set → h' 102 (0 + set) = bti S T (S 0 0) (T 0 0) p 0 set → Q (.inl none) h') : xRn G0 MT (d + 1) b 227 [.inr (.inr 66), .inl 0, .inl set] h Q := by
  refine R_of (M := mX12_laysSet) rfl (Nat.le_of_ble_eq_true rfl) ?_
  show xEx G0 cdX12_laysSet none (xRn G0 MT d) Q b 0 [some (.inr (.inr 66)), some (.inl 0), some (.inl set), none, none, none, none] [] h
  have r4 := ir4 o.1 hs
  have ok := o.2.1
  have ot := o.2.2.1
  have lsp := lf_spec S (S 0 0) p set
  have lr : -1 ≤ lf S (S 0 0) p set ∧ lf S (S 0 0) p set < S 0 0 := by
    rcases lsp with ⟨a, -⟩ | ⟨a, b, -⟩ <;> omega
  have z0 := sz0_r (p := p) o set
  have e19 : h 66 19 = T 0 0 := hA.2.1
  refine E_s 12 (i' := 12) (ls' := [some (.inr (.inr 66)), some (.inl 0), some (.inl set), some (.inl (0 + set)), none, none, none]) (sk' := [.inl set, .inr (.inr 100), .inl (0 + set), .inr (.inr 101)]) (h' := h) rfl ?_
  refine E_ld (x := (.iaload, 0, [], [])) (ty := .int) (n := 4096) rfl rfl rfl (by omega) (by omega) ?_
  show xEx G0 cdX12_laysSet none (xRn G0 MT d) Q b 13 [some (.inr (.inr 66)), some (.inl 0), some (.inl set), some (.inl (0 + set)), none, none, none] [.inl (h 100 set), .inl (0 + set), .inr (.inr 101)] h
  refine E_s 1 (i' := 14) (ls' := [some (.inr (.inr 66)), some (.inl 0), some (.inl set), some (.inl (0 + set)), none, none, none]) (sk' := [.inl (-1), .inl (h 100 set), .inl (0 + set), .inr (.inr 101)]) (h' := h) rfl ?_
  refine E_b (x := (.if_icmp .ne 9, 17, [], [])) rfl rfl (fun c14 => ?_) (fun c14 => ?_)
  · rw [c_ne (by first | assumption | (refine ⟨?_, ?_⟩ <;> omega) | (simp only [xr] at *; omega)) (by first | assumption | (refine ⟨?_, ?_⟩ <;> omega) | (simp only [xr] at *; omega))] at c14
    simp only [decide_eq_true_eq, decide_eq_false_iff_not, Decidable.not_not] at c14
    show xEx G0 cdX12_laysSet none (xRn G0 MT d) Q b 17 [some (.inr (.inr 66)), some (.inl 0), some (.inl set), some (.inl (0 + set)), none, none, none] [.inl (0 + set), .inr (.inr 101)] h
    have lm2 : ¬ lf S (S 0 0) p set = -1 := by rw [← hl]; exact c14
    have sz1 : (sz0 S (S 0 0) p set) = h 75 (h 100 set) := by
      unfold sz0
      rw [if_neg lm2, hl, (hA.2.2.1 _ (by omega) (by omega)).1]
    refine E_s 5 (i' := 22) (ls' := [some (.inr (.inr 66)), some (.inl 0), some (.inl set), some (.inl (0 + set)), none, none, none]) (sk' := [.inl set, .inr (.inr 100), .inr (.inr 75), .inl (0 + set), .inr (.inr 101)]) (h' := h) rfl ?_
    refine E_ld (x := (.iaload, 0, [], [])) (ty := .int) (n := 4096) rfl rfl rfl (by omega) (by omega) ?_
    show xEx G0 cdX12_laysSet none (xRn G0 MT d) Q b 23 [some (.inr (.inr 66)), some (.inl 0), some (.inl set), some (.inl (0 + set)), none, none, none] [.inl (h 100 set), .inr (.inr 75), .inl (0 + set), .inr (.inr 101)] h
    refine E_ld (x := (.iaload, 0, [], [])) (ty := .int) (n := 300) rfl rfl rfl (by omega) (by omega) ?_
    show xEx G0 cdX12_laysSet none (xRn G0 MT d) Q b 24 [some (.inr (.inr 66)), some (.inl 0), some (.inl set), some (.inl (0 + set)), none, none, none] [.inl (h 75 (h 100 set)), .inl (0 + set), .inr (.inr 101)] h
    refine E_sd (x := (.iastore, 0, [], [])) (ty := .int) (n := 16384) (y := (h 75 (h 100 set))) rfl rfl rfl (by omega) (by omega) (trivial) ?_
    show xEx G0 cdX12_laysSet none (xRn G0 MT d) Q b 25 [some (.inr (.inr 66)), some (.inl 0), some (.inl set), some (.inl (0 + set)), none, none, none] [] (xup h 101 (0 + set) (h 75 (h 100 set)))
    refine E_s 4 (i' := 29) (ls' := [some (.inr (.inr 66)), some (.inl 0), some (.inl set), some (.inl (0 + set)), none, none, none]) (sk' := [.inl (-1), .inl (0 + set), .inr (.inr 102)]) (h' := (xup h 101 (0 + set) (h 75 (h 100 set)))) rfl ?_
    refine E_sd (x := (.iastore, 0, [], [])) (ty := .int) (n := 16384) (y := (-1)) rfl rfl rfl (by omega) (by omega) (trivial) ?_
    show xEx G0 cdX12_laysSet none (xRn G0 MT d) Q b 30 [some (.inr (.inr 66)), some (.inl 0), some (.inl set), some (.inl (0 + set)), none, none, none] [] (xup (xup h 101 (0 + set) (h 75 (h 100 set))) 102 (0 + set) (-1))
    refine E_s 5 (i' := 35) (ls' := [some (.inr (.inr 66)), some (.inl 0), some (.inl set), some (.inl (0 + set)), some (.inl 0), none, none]) (sk' := [.inl (h 66 19), .inl 0]) (h' := (xup (xup h 101 (0 + set) (h 75 (h 100 set))) 102 (0 + set) (-1))) rfl ?_
    refine E_b (x := (.if_icmp .ge 123, 106, [], [])) rfl rfl (fun c35 => ?_) (fun c35 => ?_)
    · rw [c_ge (by first | assumption | (refine ⟨?_, ?_⟩ <;> omega) | (simp only [xr] at *; omega)) (by first | assumption | (refine ⟨?_, ?_⟩ <;> omega) | (simp only [xr] at *; omega))] at c35
      simp only [decide_eq_true_eq, decide_eq_false_iff_not, Decidable.not_not] at c35
      show xEx G0 cdX12_laysSet none (xRn G0 MT d) Q b 106 [some (.inr (.inr 66)), some (.inl 0), some (.inl set), some (.inl (0 + set)), some (.inl 0), none, none] [] (xup (xup h 101 (0 + set) (h 75 (h 100 set))) 102 (0 + set) (-1))
      exact E_ret (x := (.return_, 0, [], [])) (v := none) rfl (trivial) (hQ _ (fun a z1 z2 => by rw [xup_o _ _ _ _ a z2, xup_o _ _ _ _ a z1]) (fun j z => by rw [xup_o _ _ _ _ _ (by decide), xup_j z, xup_j z, xup_o _ _ _ _ _ (by decide)]; exact ⟨rfl, rfl⟩) (by rw [xup_o _ _ _ _ _ (by decide), xup_s]; exact sz1.symm) (by rw [xup_s]; rfl))
    · rw [c_ge (by first | assumption | (refine ⟨?_, ?_⟩ <;> omega) | (simp only [xr] at *; omega)) (by first | assumption | (refine ⟨?_, ?_⟩ <;> omega) | (simp only [xr] at *; omega))] at c35
      simp only [decide_eq_true_eq, decide_eq_false_iff_not, Decidable.not_not] at c35
      show xEx G0 cdX12_laysSet none (xRn G0 MT d) Q b 36 [some (.inr (.inr 66)), some (.inl 0), some (.inl set), some (.inl (0 + set)), some (.inl 0), none, none] [] (xup (xup h 101 (0 + set) (h 75 (h 100 set))) 102 (0 + set) (-1))
      refine E_s 1 (i' := 37) (ls' := [some (.inr (.inr 66)), some (.inl 0), some (.inl set), some (.inl (0 + set)), some (.inl 0), none, none]) (sk' := [.inl 0]) (h' := (xup (xup h 101 (0 + set) (h 75 (h 100 set))) 102 (0 + set) (-1))) rfl ?_
      refine E_b (x := (.ifCond .le 119, 106, [], [])) rfl rfl (fun c37 => ?_) (fun c37 => ?_)
      · show xEx G0 cdX12_laysSet none (xRn G0 MT d) Q b 106 [some (.inr (.inr 66)), some (.inl 0), some (.inl set), some (.inl (0 + set)), some (.inl 0), none, none] [] (xup (xup h 101 (0 + set) (h 75 (h 100 set))) 102 (0 + set) (-1))
        exact E_ret (x := (.return_, 0, [], [])) (v := none) rfl (trivial) (hQ _ (fun a z1 z2 => by rw [xup_o _ _ _ _ a z2, xup_o _ _ _ _ a z1]) (fun j z => by rw [xup_o _ _ _ _ _ (by decide), xup_j z, xup_j z, xup_o _ _ _ _ _ (by decide)]; exact ⟨rfl, rfl⟩) (by rw [xup_o _ _ _ _ _ (by decide), xup_s]; exact sz1.symm) (by rw [xup_s]; rfl))
      · show xEx G0 cdX12_laysSet none (xRn G0 MT d) Q b 38 [some (.inr (.inr 66)), some (.inl 0), some (.inl set), some (.inl (0 + set)), some (.inl 0), none, none] [] (xup (xup h 101 (0 + set) (h 75 (h 100 set))) 102 (0 + set) (-1))
        exact absurd c37 (by decide)
  · rw [c_ne (by first | assumption | (refine ⟨?_, ?_⟩ <;> omega) | (simp only [xr] at *; omega)) (by first | assumption | (refine ⟨?_, ?_⟩ <;> omega) | (simp only [xr] at *; omega))] at c14
    simp only [decide_eq_true_eq, decide_eq_false_iff_not, Decidable.not_not] at c14
    show xEx G0 cdX12_laysSet none (xRn G0 MT d) Q b 15 [some (.inr (.inr 66)), some (.inl 0), some (.inl set), some (.inl (0 + set)), none, none, none] [.inl (0 + set), .inr (.inr 101)] h
    have sz1 : (sz0 S (S 0 0) p set) = 1000000 := by
      unfold sz0
      rw [if_pos (by rw [← hl]; exact c14)]
    refine E_s 2 (i' := 24) (ls' := [some (.inr (.inr 66)), some (.inl 0), some (.inl set), some (.inl (0 + set)), none, none, none]) (sk' := [.inl 1000000, .inl (0 + set), .inr (.inr 101)]) (h' := h) rfl ?_
    refine E_sd (x := (.iastore, 0, [], [])) (ty := .int) (n := 16384) (y := 1000000) rfl rfl rfl (by omega) (by omega) (trivial) ?_
    show xEx G0 cdX12_laysSet none (xRn G0 MT d) Q b 25 [some (.inr (.inr 66)), some (.inl 0), some (.inl set), some (.inl (0 + set)), none, none, none] [] (xup h 101 (0 + set) 1000000)
    refine E_s 4 (i' := 29) (ls' := [some (.inr (.inr 66)), some (.inl 0), some (.inl set), some (.inl (0 + set)), none, none, none]) (sk' := [.inl (-1), .inl (0 + set), .inr (.inr 102)]) (h' := (xup h 101 (0 + set) 1000000)) rfl ?_
    refine E_sd (x := (.iastore, 0, [], [])) (ty := .int) (n := 16384) (y := (-1)) rfl rfl rfl (by omega) (by omega) (trivial) ?_
    show xEx G0 cdX12_laysSet none (xRn G0 MT d) Q b 30 [some (.inr (.inr 66)), some (.inl 0), some (.inl set), some (.inl (0 + set)), none, none, none] [] (xup (xup h 101 (0 + set) 1000000) 102 (0 + set) (-1))
    refine E_s 5 (i' := 35) (ls' := [some (.inr (.inr 66)), some (.inl 0), some (.inl set), some (.inl (0 + set)), some (.inl 0), none, none]) (sk' := [.inl (h 66 19), .inl 0]) (h' := (xup (xup h 101 (0 + set) 1000000) 102 (0 + set) (-1))) rfl ?_
    refine E_b (x := (.if_icmp .ge 123, 106, [], [])) rfl rfl (fun c35 => ?_) (fun c35 => ?_)
    · rw [c_ge (by first | assumption | (refine ⟨?_, ?_⟩ <;> omega) | (simp only [xr] at *; omega)) (by first | assumption | (refine ⟨?_, ?_⟩ <;> omega) | (simp only [xr] at *; omega))] at c35
      simp only [decide_eq_true_eq, decide_eq_false_iff_not, Decidable.not_not] at c35
      show xEx G0 cdX12_laysSet none (xRn G0 MT d) Q b 106 [some (.inr (.inr 66)), some (.inl 0), some (.inl set), some (.inl (0 + set)), some (.inl 0), none, none] [] (xup (xup h 101 (0 + set) 1000000) 102 (0 + set) (-1))
      exact E_ret (x := (.return_, 0, [], [])) (v := none) rfl (trivial) (hQ _ (fun a z1 z2 => by rw [xup_o _ _ _ _ a z2, xup_o _ _ _ _ a z1]) (fun j z => by rw [xup_o _ _ _ _ _ (by decide), xup_j z, xup_j z, xup_o _ _ _ _ _ (by decide)]; exact ⟨rfl, rfl⟩) (by rw [xup_o _ _ _ _ _ (by decide), xup_s]; exact sz1.symm) (by rw [xup_s]; rfl))
    · rw [c_ge (by first | assumption | (refine ⟨?_, ?_⟩ <;> omega) | (simp only [xr] at *; omega)) (by first | assumption | (refine ⟨?_, ?_⟩ <;> omega) | (simp only [xr] at *; omega))] at c35
      simp only [decide_eq_true_eq, decide_eq_false_iff_not, Decidable.not_not] at c35
      show xEx G0 cdX12_laysSet none (xRn G0 MT d) Q b 36 [some (.inr (.inr 66)), some (.inl 0), some (.inl set), some (.inl (0 + set)), some (.inl 0), none, none] [] (xup (xup h 101 (0 + set) 1000000) 102 (0 + set) (-1))
      refine E_s 1 (i' := 37) (ls' := [some (.inr (.inr 66)), some (.inl 0), some (.inl set), some (.inl (0 + set)), some (.inl 0), none, none]) (sk' := [.inl 0]) (h' := (xup (xup h 101 (0 + set) 1000000) 102 (0 + set) (-1))) rfl ?_
      refine E_b (x := (.ifCond .le 119, 106, [], [])) rfl rfl (fun c37 => ?_) (fun c37 => ?_)
      · show xEx G0 cdX12_laysSet none (xRn G0 MT d) Q b 106 [some (.inr (.inr 66)), some (.inl 0), some (.inl set), some (.inl (0 + set)), some (.inl 0), none, none] [] (xup (xup h 101 (0 + set) 1000000) 102 (0 + set) (-1))
        exact E_ret (x := (.return_, 0, [], [])) (v := none) rfl (trivial) (hQ _ (fun a z1 z2 => by rw [xup_o _ _ _ _ a z2, xup_o _ _ _ _ a z1]) (fun j z => by rw [xup_o _ _ _ _ _ (by decide), xup_j z, xup_j z, xup_o _ _ _ _ _ (by decide)]; exact ⟨rfl, rfl⟩) (by rw [xup_o _ _ _ _ _ (by decide), xup_s]; exact sz1.symm) (by rw [xup_s]; rfl))
      · show xEx G0 cdX12_laysSet none (xRn G0 MT d) Q b 38 [some (.inr (.inr 66)), some (.inl 0), some (.inl set), some (.inl (0 + set)), some (.inl 0), none, none] [] (xup (xup h 101 (0 + set) 1000000) 102 (0 + set) (-1))
        exact absurd c37 (by decide)
set_option maxHeartbeats 1000000 in
theorem m_lSet1 (d b : Nat) (h S T : xH) (p set : Int) (m : Nat) (o : OKS S T (S 0 0) (T 0 0) m) (hA : RA h S T) (hB : RB h S T p) (hs : ir m set) (hs1 : set ≠ 0) (hl : h 100 set = lf S (S 0 0) p set) (hpv : ∀ a, ir m a → a ≠ 0 → sub a set → h 101 (0 + a) = (szf S T (S 0 0) (T 0 0) p 0) a)  {Q : xO → xH → Prop} (hQ : ∀ h', (∀ a, a ≠ 101 → a ≠ 102 → h' a = h a) → (∀ j, j ≠ (4096 + set) → h' 101 j = h 101 j ∧ h' 102 j = h 102 j) → h' 101 (4096 + set) = szf S T (S 0 0) (T 0 0) p 1 set → h' 102 (4096 + set) = bti S T (S 0 0) (T 0 0) p 1 set → Q (.inl none) h') : xRn G0 MT (d + 1) b 227 [.inr (.inr 66), .inl 1, .inl set] h Q := by
  refine R_of (M := mX12_laysSet) rfl (Nat.le_of_ble_eq_true rfl) ?_
  show xEx G0 cdX12_laysSet none (xRn G0 MT d) Q b 0 [some (.inr (.inr 66)), some (.inl 1), some (.inl set), none, none, none, none] [] h
  have r4 := ir4 o.1 hs
  have ok := o.2.1
  have ot := o.2.2.1
  have lsp := lf_spec S (S 0 0) p set
  have lr : -1 ≤ lf S (S 0 0) p set ∧ lf S (S 0 0) p set < S 0 0 := by
    rcases lsp with ⟨a, -⟩ | ⟨a, b, -⟩ <;> omega
  have z0 := sz0_r (p := p) o set
  have e19 : h 66 19 = T 0 0 := hA.2.1
  refine E_s 12 (i' := 12) (ls' := [some (.inr (.inr 66)), some (.inl 1), some (.inl set), some (.inl (4096 + set)), none, none, none]) (sk' := [.inl set, .inr (.inr 100), .inl (4096 + set), .inr (.inr 101)]) (h' := h) rfl ?_
  refine E_ld (x := (.iaload, 0, [], [])) (ty := .int) (n := 4096) rfl rfl rfl (by omega) (by omega) ?_
  show xEx G0 cdX12_laysSet none (xRn G0 MT d) Q b 13 [some (.inr (.inr 66)), some (.inl 1), some (.inl set), some (.inl (4096 + set)), none, none, none] [.inl (h 100 set), .inl (4096 + set), .inr (.inr 101)] h
  refine E_s 1 (i' := 14) (ls' := [some (.inr (.inr 66)), some (.inl 1), some (.inl set), some (.inl (4096 + set)), none, none, none]) (sk' := [.inl (-1), .inl (h 100 set), .inl (4096 + set), .inr (.inr 101)]) (h' := h) rfl ?_
  refine E_b (x := (.if_icmp .ne 9, 17, [], [])) rfl rfl (fun c14 => ?_) (fun c14 => ?_)
  · rw [c_ne (by first | assumption | (refine ⟨?_, ?_⟩ <;> omega) | (simp only [xr] at *; omega)) (by first | assumption | (refine ⟨?_, ?_⟩ <;> omega) | (simp only [xr] at *; omega))] at c14
    simp only [decide_eq_true_eq, decide_eq_false_iff_not, Decidable.not_not] at c14
    show xEx G0 cdX12_laysSet none (xRn G0 MT d) Q b 17 [some (.inr (.inr 66)), some (.inl 1), some (.inl set), some (.inl (4096 + set)), none, none, none] [.inl (4096 + set), .inr (.inr 101)] h
    have lm2 : ¬ lf S (S 0 0) p set = -1 := by rw [← hl]; exact c14
    have sz1 : (sz0 S (S 0 0) p set) = h 75 (h 100 set) := by
      unfold sz0
      rw [if_neg lm2, hl, (hA.2.2.1 _ (by omega) (by omega)).1]
    refine E_s 5 (i' := 22) (ls' := [some (.inr (.inr 66)), some (.inl 1), some (.inl set), some (.inl (4096 + set)), none, none, none]) (sk' := [.inl set, .inr (.inr 100), .inr (.inr 75), .inl (4096 + set), .inr (.inr 101)]) (h' := h) rfl ?_
    refine E_ld (x := (.iaload, 0, [], [])) (ty := .int) (n := 4096) rfl rfl rfl (by omega) (by omega) ?_
    show xEx G0 cdX12_laysSet none (xRn G0 MT d) Q b 23 [some (.inr (.inr 66)), some (.inl 1), some (.inl set), some (.inl (4096 + set)), none, none, none] [.inl (h 100 set), .inr (.inr 75), .inl (4096 + set), .inr (.inr 101)] h
    refine E_ld (x := (.iaload, 0, [], [])) (ty := .int) (n := 300) rfl rfl rfl (by omega) (by omega) ?_
    show xEx G0 cdX12_laysSet none (xRn G0 MT d) Q b 24 [some (.inr (.inr 66)), some (.inl 1), some (.inl set), some (.inl (4096 + set)), none, none, none] [.inl (h 75 (h 100 set)), .inl (4096 + set), .inr (.inr 101)] h
    refine E_sd (x := (.iastore, 0, [], [])) (ty := .int) (n := 16384) (y := (h 75 (h 100 set))) rfl rfl rfl (by omega) (by omega) (trivial) ?_
    show xEx G0 cdX12_laysSet none (xRn G0 MT d) Q b 25 [some (.inr (.inr 66)), some (.inl 1), some (.inl set), some (.inl (4096 + set)), none, none, none] [] (xup h 101 (4096 + set) (h 75 (h 100 set)))
    refine E_s 4 (i' := 29) (ls' := [some (.inr (.inr 66)), some (.inl 1), some (.inl set), some (.inl (4096 + set)), none, none, none]) (sk' := [.inl (-1), .inl (4096 + set), .inr (.inr 102)]) (h' := (xup h 101 (4096 + set) (h 75 (h 100 set)))) rfl ?_
    refine E_sd (x := (.iastore, 0, [], [])) (ty := .int) (n := 16384) (y := (-1)) rfl rfl rfl (by omega) (by omega) (trivial) ?_
    show xEx G0 cdX12_laysSet none (xRn G0 MT d) Q b 30 [some (.inr (.inr 66)), some (.inl 1), some (.inl set), some (.inl (4096 + set)), none, none, none] [] (xup (xup h 101 (4096 + set) (h 75 (h 100 set))) 102 (4096 + set) (-1))
    refine E_s 2 (i' := 32) (ls' := [some (.inr (.inr 66)), some (.inl 1), some (.inl set), some (.inl (4096 + set)), some (.inl 0), none, none]) (sk' := []) (h' := (xup (xup h 101 (4096 + set) (h 75 (h 100 set))) 102 (4096 + set) (-1))) rfl ?_
    have key32 : ∀ (n : Nat) (hh : xH) (t : Int) (v5 v6 : Option xV), (0 ≤ t) → (t ≤ T 0 0) → (∀ a, a ≠ 101 → a ≠ 102 → hh a = h a) → (∀ j, j ≠ (4096 + set) → hh 101 j = h 101 j ∧ hh 102 j = h 102 j) → (hh 101 (4096 + set) = stpf T p (szf S T (S 0 0) (T 0 0) p 0) (sz0 S (S 0 0) p set) set t.toNat) → (hh 102 (4096 + set) = btf T p (szf S T (S 0 0) (T 0 0) p 0) (sz0 S (S 0 0) p set) set t.toNat) → ((T 0 0 - t).toNat) < n → xEx G0 cdX12_laysSet none (xRn G0 MT d) Q b 32 [some (.inr (.inr 66)), some (.inl 1), some (.inl set), some (.inl (4096 + set)), some (.inl t), v5, v6] [] hh := by
      intro n
      induction n with
      | zero => intro hh t v5 v6 _ _ _ _ _ _ hm; exact absurd hm (Nat.not_lt_zero _)
      | succ n ih32 =>
        intro hh t v5 v6 ht0 ht9 hf hf2 hst hbt hm32
        have f19 : hh 66 19 = T 0 0 := by rw [hf _ (by decide) (by decide)]; exact e19
        refine E_s 3 (i' := 35) (ls' := [some (.inr (.inr 66)), some (.inl 1), some (.inl set), some (.inl (4096 + set)), some (.inl t), v5, v6]) (sk' := [.inl (hh 66 19), .inl t]) (h' := hh) rfl ?_
        refine E_b (x := (.if_icmp .ge 123, 106, [], [])) rfl rfl (fun c35 => ?_) (fun c35 => ?_)
        · rw [c_ge (by first | assumption | (refine ⟨?_, ?_⟩ <;> omega) | (simp only [xr] at *; omega)) (by first | assumption | (refine ⟨?_, ?_⟩ <;> omega) | (simp only [xr] at *; omega))] at c35
          simp only [decide_eq_true_eq, decide_eq_false_iff_not, Decidable.not_not] at c35
          show xEx G0 cdX12_laysSet none (xRn G0 MT d) Q b 106 [some (.inr (.inr 66)), some (.inl 1), some (.inl set), some (.inl (4096 + set)), some (.inl t), v5, v6] [] hh
          have et : t = T 0 0 := by omega
          rw [et] at hst hbt
          exact E_ret (x := (.return_, 0, [], [])) (v := none) rfl (trivial) (hQ _ hf hf2 hst hbt)
        · rw [c_ge (by first | assumption | (refine ⟨?_, ?_⟩ <;> omega) | (simp only [xr] at *; omega)) (by first | assumption | (refine ⟨?_, ?_⟩ <;> omega) | (simp only [xr] at *; omega))] at c35
          simp only [decide_eq_true_eq, decide_eq_false_iff_not, Decidable.not_not] at c35
          show xEx G0 cdX12_laysSet none (xRn G0 MT d) Q b 36 [some (.inr (.inr 66)), some (.inl 1), some (.inl set), some (.inl (4096 + set)), some (.inl t), v5, v6] [] hh
          refine E_s 1 (i' := 37) (ls' := [some (.inr (.inr 66)), some (.inl 1), some (.inl set), some (.inl (4096 + set)), some (.inl t), v5, v6]) (sk' := [.inl 1]) (h' := hh) rfl ?_
          refine E_b (x := (.ifCond .le 119, 106, [], [])) rfl rfl (fun c37 => ?_) (fun c37 => ?_)
          · show xEx G0 cdX12_laysSet none (xRn G0 MT d) Q b 106 [some (.inr (.inr 66)), some (.inl 1), some (.inl set), some (.inl (4096 + set)), some (.inl t), v5, v6] [] hh
            exact absurd c37 (by decide)
          · show xEx G0 cdX12_laysSet none (xRn G0 MT d) Q b 38 [some (.inr (.inr 66)), some (.inl 1), some (.inl set), some (.inl (4096 + set)), some (.inl t), v5, v6] [] hh
            have ht1 : t < T 0 0 := by omega
            have g6 : hh 87 t = T 6 t := by rw [hf _ (by decide) (by decide)]; exact (hA.2.2.2 t ht0 ht1).2
            have g4 : hh 85 t = T 4 t := by rw [hf _ (by decide) (by decide)]; exact (hA.2.2.2 t ht0 ht1).1
            have o4 := o.2.2.2.2 t ht0 ht1
            have hb : (hh 104 t = 0 ∧ lk (T 11 t) p) ∨ (hh 104 t = 1 ∧ ¬ lk (T 11 t) p) := by rw [hf _ (by decide) (by decide)]; exact hB.2 t ht0 ht1
            have rb : hh 104 t = 0 ∨ hh 104 t = 1 := by
              rcases hb with ⟨z9, -⟩ | ⟨z9, -⟩
              · exact Or.inl z9
              · exact Or.inr z9
            have i1 : ir m (xand set (hh 87 t)) := by rw [g6]; exact xa_r o.1 hs o4.2.1
            have i2 : ir m (xxor set (xand set (hh 87 t))) := xx_r o.1 hs i1
            have r41 := ir4 o.1 i1
            have r42 := ir4 o.1 i2
            have bl : stpf T p (szf S T (S 0 0) (T 0 0) p 0) (sz0 S (S 0 0) p set) set t.toNat ≤ (sz0 S (S 0 0) p set) := stpf_le _
            refine E_s 4 (i' := 42) (ls' := [some (.inr (.inr 66)), some (.inl 1), some (.inl set), some (.inl (4096 + set)), some (.inl t), v5, v6]) (sk' := [.inl t, .inr (.inr 87), .inl set]) (h' := hh) rfl ?_
            refine E_ld (x := (.iaload, 0, [], [])) (ty := .int) (n := 150) rfl rfl rfl (by omega) (by omega) ?_
            show xEx G0 cdX12_laysSet none (xRn G0 MT d) Q b 43 [some (.inr (.inr 66)), some (.inl 1), some (.inl set), some (.inl (4096 + set)), some (.inl t), v5, v6] [.inl (hh 87 t), .inl set] hh
            refine E_s 3 (i' := 46) (ls' := [some (.inr (.inr 66)), some (.inl 1), some (.inl set), some (.inl (4096 + set)), some (.inl t), some (.inl (xand set (hh 87 t))), v6]) (sk' := [.inl (xand set (hh 87 t))]) (h' := hh) rfl ?_
            refine E_b (x := (.ifCond .eq 97, 104, [], [])) rfl rfl (fun c46 => ?_) (fun c46 => ?_)
            · rw [c_eq (by first | exact xand_r _ _ | exact ⟨by omega, by omega⟩) (by first | exact xand_r _ _ | exact ⟨by omega, by omega⟩)] at c46
              simp only [decide_eq_true_eq, decide_eq_false_iff_not, Decidable.not_not] at c46
              show xEx G0 cdX12_laysSet none (xRn G0 MT d) Q b 104 [some (.inr (.inr 66)), some (.inl 1), some (.inl set), some (.inl (4096 + set)), some (.inl t), some (.inl (xand set (hh 87 t))), v6] [] hh
              have nb : ¬ (prt T p set t ∧ szt T (szf S T (S 0 0) (T 0 0) p 0) set t < stpf T p (szf S T (S 0 0) (T 0 0) p 0) (sz0 S (S 0 0) p set) set t.toNat) := by
                rintro ⟨y1, y2⟩
                first
                | exact y1.2.1 (by rw [← g6]; exact c46)
                | exact y1.2.2 (by rw [← g6]; exact c49)
                | (rw [← se, ← hst] at y2; exact c92 y2)
                | (rcases hb with ⟨z9, -⟩ | ⟨-, z9⟩
                   · exact c54 z9
                   · exact z9 y1.1)
              refine E_s 2 (i' := 32) (ls' := [some (.inr (.inr 66)), some (.inl 1), some (.inl set), some (.inl (4096 + set)), some (.inl (t + 1)), some (.inl (xand set (hh 87 t))), v6]) (sk' := []) (h' := hh) rfl ?_
              exact ih32 _ (t + 1) _ _ (by omega) (by omega) hf hf2 (by rw [stpf_n ht0 nb]; exact hst) (by rw [btf_1 ht0, if_neg nb]; exact hbt) (by omega)
            · rw [c_eq (by first | exact xand_r _ _ | exact ⟨by omega, by omega⟩) (by first | exact xand_r _ _ | exact ⟨by omega, by omega⟩)] at c46
              simp only [decide_eq_true_eq, decide_eq_false_iff_not, Decidable.not_not] at c46
              show xEx G0 cdX12_laysSet none (xRn G0 MT d) Q b 47 [some (.inr (.inr 66)), some (.inl 1), some (.inl set), some (.inl (4096 + set)), some (.inl t), some (.inl (xand set (hh 87 t))), v6] [] hh
              refine E_s 2 (i' := 49) (ls' := [some (.inr (.inr 66)), some (.inl 1), some (.inl set), some (.inl (4096 + set)), some (.inl t), some (.inl (xand set (hh 87 t))), v6]) (sk' := [.inl set, .inl (xand set (hh 87 t))]) (h' := hh) rfl ?_
              refine E_b (x := (.if_icmp .eq 91, 104, [], [])) rfl rfl (fun c49 => ?_) (fun c49 => ?_)
              · rw [c_eq (by first | exact xand_r _ _ | exact ⟨by omega, by omega⟩) (by first | exact xand_r _ _ | exact ⟨by omega, by omega⟩)] at c49
                simp only [decide_eq_true_eq, decide_eq_false_iff_not, Decidable.not_not] at c49
                show xEx G0 cdX12_laysSet none (xRn G0 MT d) Q b 104 [some (.inr (.inr 66)), some (.inl 1), some (.inl set), some (.inl (4096 + set)), some (.inl t), some (.inl (xand set (hh 87 t))), v6] [] hh
                have nb : ¬ (prt T p set t ∧ szt T (szf S T (S 0 0) (T 0 0) p 0) set t < stpf T p (szf S T (S 0 0) (T 0 0) p 0) (sz0 S (S 0 0) p set) set t.toNat) := by
                  rintro ⟨y1, y2⟩
                  first
                  | exact y1.2.1 (by rw [← g6]; exact c46)
                  | exact y1.2.2 (by rw [← g6]; exact c49)
                  | (rw [← se, ← hst] at y2; exact c92 y2)
                  | (rcases hb with ⟨z9, -⟩ | ⟨-, z9⟩
                     · exact c54 z9
                     · exact z9 y1.1)
                refine E_s 2 (i' := 32) (ls' := [some (.inr (.inr 66)), some (.inl 1), some (.inl set), some (.inl (4096 + set)), some (.inl (t + 1)), some (.inl (xand set (hh 87 t))), v6]) (sk' := []) (h' := hh) rfl ?_
                exact ih32 _ (t + 1) _ _ (by omega) (by omega) hf hf2 (by rw [stpf_n ht0 nb]; exact hst) (by rw [btf_1 ht0, if_neg nb]; exact hbt) (by omega)
              · rw [c_eq (by first | exact xand_r _ _ | exact ⟨by omega, by omega⟩) (by first | exact xand_r _ _ | exact ⟨by omega, by omega⟩)] at c49
                simp only [decide_eq_true_eq, decide_eq_false_iff_not, Decidable.not_not] at c49
                show xEx G0 cdX12_laysSet none (xRn G0 MT d) Q b 50 [some (.inr (.inr 66)), some (.inl 1), some (.inl set), some (.inl (4096 + set)), some (.inl t), some (.inl (xand set (hh 87 t))), v6] [] hh
                refine E_s 3 (i' := 53) (ls' := [some (.inr (.inr 66)), some (.inl 1), some (.inl set), some (.inl (4096 + set)), some (.inl t), some (.inl (xand set (hh 87 t))), v6]) (sk' := [.inl t, .inr (.inr 104)]) (h' := hh) rfl ?_
                refine E_ld (x := (.baload, 0, [], [])) (ty := .boolean) (n := 150) rfl rfl rfl (by omega) (by omega) ?_
                show xEx G0 cdX12_laysSet none (xRn G0 MT d) Q b 54 [some (.inr (.inr 66)), some (.inl 1), some (.inl set), some (.inl (4096 + set)), some (.inl t), some (.inl (xand set (hh 87 t))), v6] [.inl (hh 104 t)] hh
                refine E_b (x := (.ifCond .eq 6, 56, [], [])) rfl rfl (fun c54 => ?_) (fun c54 => ?_)
                · rw [c_eq (by exact ⟨by omega, by omega⟩) (by exact ⟨by omega, by omega⟩)] at c54
                  simp only [decide_eq_true_eq, decide_eq_false_iff_not, Decidable.not_not] at c54
                  show xEx G0 cdX12_laysSet none (xRn G0 MT d) Q b 56 [some (.inr (.inr 66)), some (.inl 1), some (.inl set), some (.inl (4096 + set)), some (.inl t), some (.inl (xand set (hh 87 t))), v6] [] hh
                  have yl : lk (T 11 t) p := by
                    rcases hb with ⟨-, z9⟩ | ⟨z9, -⟩
                    · exact z9
                    · omega
                  have pt : prt T p set t := ⟨yl, by rw [← g6]; exact c46, by rw [← g6]; exact c49⟩
                  have v1 : hh 101 (0 + (xand set (hh 87 t))) = (szf S T (S 0 0) (T 0 0) p 0) (xand set (hh 87 t)) := by
                    rw [(hf2 _ (by omega)).1]
                    exact hpv _ i1 c46 (by rw [g6]; exact sub_an o.1 hs o4.2.1)
                  have v2 : hh 101 (0 + xxor set (xand set (hh 87 t))) = (szf S T (S 0 0) (T 0 0) p 0) (xxor set (xand set (hh 87 t))) := by
                    rw [(hf2 _ (by omega)).1]
                    refine hpv _ i2 ?_ ?_
                    · rw [g6] at c49 ⊢
                      exact els_0 o.1 hs o4.2.1 c49
                    · rw [g6]; exact sub_el o.1 hs o4.2.1
                  have q1 := szf_r (p := p) o 0 (xand set (hh 87 t))
                  have q2 := szf_r (p := p) o 0 (xxor set (xand set (hh 87 t)))
                  have se : 1 + hh 85 t + hh 101 (0 + (xand set (hh 87 t))) + hh 101 (0 + xxor set (xand set (hh 87 t))) = szt T (szf S T (S 0 0) (T 0 0) p 0) set t := by
                    unfold szt
                    rw [g4, v1, v2, g6]
                  have st1 : 1 ≤ stpf T p (szf S T (S 0 0) (T 0 0) p 0) (sz0 S (S 0 0) p set) set t.toNat := by
                    refine stpf_lo z0.1 _ (fun t9 z1 z2 hp9 => ?_)
                    have o49 := (o.2.2.2.2 t9 z1 (by omega)).1
                    have x1 := (szf_r (p := p) o 0 (xand set (T 6 t9))).1
                    have x2 := (szf_r (p := p) o 0 (xxor set (xand set (T 6 t9)))).1
                    unfold szt
                    omega
                  refine E_s 4 (i' := 60) (ls' := [some (.inr (.inr 66)), some (.inl 1), some (.inl set), some (.inl (4096 + set)), some (.inl t), some (.inl (xand set (hh 87 t))), v6]) (sk' := [.inl t, .inr (.inr 85), .inl 1]) (h' := hh) rfl ?_
                  refine E_ld (x := (.iaload, 0, [], [])) (ty := .int) (n := 150) rfl rfl rfl (by omega) (by omega) ?_
                  show xEx G0 cdX12_laysSet none (xRn G0 MT d) Q b 61 [some (.inr (.inr 66)), some (.inl 1), some (.inl set), some (.inl (4096 + set)), some (.inl t), some (.inl (xand set (hh 87 t))), v6] [.inl (hh 85 t), .inl 1] hh
                  refine E_s 10 (i' := 71) (ls' := [some (.inr (.inr 66)), some (.inl 1), some (.inl set), some (.inl (4096 + set)), some (.inl t), some (.inl (xand set (hh 87 t))), v6]) (sk' := [.inl (0 + (xand set (hh 87 t))), .inr (.inr 101), .inl (1 + (hh 85 t))]) (h' := hh) rfl ?_
                  refine E_ld (x := (.iaload, 0, [], [])) (ty := .int) (n := 16384) rfl rfl rfl (by omega) (by omega) ?_
                  show xEx G0 cdX12_laysSet none (xRn G0 MT d) Q b 72 [some (.inr (.inr 66)), some (.inl 1), some (.inl set), some (.inl (4096 + set)), some (.inl t), some (.inl (xand set (hh 87 t))), v6] [.inl (hh 101 (0 + (xand set (hh 87 t)))), .inl (1 + (hh 85 t))] hh
                  refine E_s 12 (i' := 84) (ls' := [some (.inr (.inr 66)), some (.inl 1), some (.inl set), some (.inl (4096 + set)), some (.inl t), some (.inl (xand set (hh 87 t))), v6]) (sk' := [.inl (0 + (xxor set (xand set (hh 87 t)))), .inr (.inr 101), .inl ((1 + (hh 85 t)) + (hh 101 (0 + (xand set (hh 87 t)))))]) (h' := hh) rfl ?_
                  refine E_ld (x := (.iaload, 0, [], [])) (ty := .int) (n := 16384) rfl rfl rfl (by omega) (by omega) ?_
                  show xEx G0 cdX12_laysSet none (xRn G0 MT d) Q b 85 [some (.inr (.inr 66)), some (.inl 1), some (.inl set), some (.inl (4096 + set)), some (.inl t), some (.inl (xand set (hh 87 t))), v6] [.inl (hh 101 (0 + (xxor set (xand set (hh 87 t))))), .inl ((1 + (hh 85 t)) + (hh 101 (0 + (xand set (hh 87 t)))))] hh
                  refine E_s 6 (i' := 91) (ls' := [some (.inr (.inr 66)), some (.inl 1), some (.inl set), some (.inl (4096 + set)), some (.inl t), some (.inl (xand set (hh 87 t))), some (.inl (((1 + (hh 85 t)) + (hh 101 (0 + (xand set (hh 87 t))))) + (hh 101 (0 + (xxor set (xand set (hh 87 t)))))))]) (sk' := [.inl (4096 + set), .inr (.inr 101), .inl (((1 + (hh 85 t)) + (hh 101 (0 + (xand set (hh 87 t))))) + (hh 101 (0 + (xxor set (xand set (hh 87 t))))))]) (h' := hh) rfl ?_
                  refine E_ld (x := (.iaload, 0, [], [])) (ty := .int) (n := 16384) rfl rfl rfl (by omega) (by omega) ?_
                  show xEx G0 cdX12_laysSet none (xRn G0 MT d) Q b 92 [some (.inr (.inr 66)), some (.inl 1), some (.inl set), some (.inl (4096 + set)), some (.inl t), some (.inl (xand set (hh 87 t))), some (.inl (((1 + (hh 85 t)) + (hh 101 (0 + (xand set (hh 87 t))))) + (hh 101 (0 + (xxor set (xand set (hh 87 t)))))))] [.inl (hh 101 (4096 + set)), .inl (((1 + (hh 85 t)) + (hh 101 (0 + (xand set (hh 87 t))))) + (hh 101 (0 + (xxor set (xand set (hh 87 t))))))] hh
                  refine E_b (x := (.if_icmp .lt 6, 94, [], [])) rfl rfl (fun c92 => ?_) (fun c92 => ?_)
                  · rw [c_lt (by first | (rw [hst]; exact ⟨by omega, by omega⟩) | (rw [v1, v2, g4]; exact ⟨by omega, by omega⟩)) (by first | (rw [hst]; exact ⟨by omega, by omega⟩) | (rw [v1, v2, g4]; exact ⟨by omega, by omega⟩))] at c92
                    simp only [decide_eq_true_eq, decide_eq_false_iff_not, Decidable.not_not] at c92
                    show xEx G0 cdX12_laysSet none (xRn G0 MT d) Q b 94 [some (.inr (.inr 66)), some (.inl 1), some (.inl set), some (.inl (4096 + set)), some (.inl t), some (.inl (xand set (hh 87 t))), some (.inl (((1 + (hh 85 t)) + (hh 101 (0 + (xand set (hh 87 t))))) + (hh 101 (0 + (xxor set (xand set (hh 87 t)))))))] [] hh
                    have yb : prt T p set t ∧ szt T (szf S T (S 0 0) (T 0 0) p 0) set t < stpf T p (szf S T (S 0 0) (T 0 0) p 0) (sz0 S (S 0 0) p set) set t.toNat := ⟨pt, by rw [← se, ← hst]; exact c92⟩
                    refine E_s 4 (i' := 98) (ls' := [some (.inr (.inr 66)), some (.inl 1), some (.inl set), some (.inl (4096 + set)), some (.inl t), some (.inl (xand set (hh 87 t))), some (.inl (((1 + (hh 85 t)) + (hh 101 (0 + (xand set (hh 87 t))))) + (hh 101 (0 + (xxor set (xand set (hh 87 t)))))))]) (sk' := [.inl (((1 + (hh 85 t)) + (hh 101 (0 + (xand set (hh 87 t))))) + (hh 101 (0 + (xxor set (xand set (hh 87 t)))))), .inl (4096 + set), .inr (.inr 101)]) (h' := hh) rfl ?_
                    refine E_sd (x := (.iastore, 0, [], [])) (ty := .int) (n := 16384) (y := (((1 + (hh 85 t)) + (hh 101 (0 + (xand set (hh 87 t))))) + (hh 101 (0 + (xxor set (xand set (hh 87 t))))))) rfl rfl rfl (by omega) (by omega) (trivial) ?_
                    show xEx G0 cdX12_laysSet none (xRn G0 MT d) Q b 99 [some (.inr (.inr 66)), some (.inl 1), some (.inl set), some (.inl (4096 + set)), some (.inl t), some (.inl (xand set (hh 87 t))), some (.inl (((1 + (hh 85 t)) + (hh 101 (0 + (xand set (hh 87 t))))) + (hh 101 (0 + (xxor set (xand set (hh 87 t)))))))] [] (xup hh 101 (4096 + set) (((1 + (hh 85 t)) + (hh 101 (0 + (xand set (hh 87 t))))) + (hh 101 (0 + (xxor set (xand set (hh 87 t)))))))
                    refine E_s 4 (i' := 103) (ls' := [some (.inr (.inr 66)), some (.inl 1), some (.inl set), some (.inl (4096 + set)), some (.inl t), some (.inl (xand set (hh 87 t))), some (.inl (((1 + (hh 85 t)) + (hh 101 (0 + (xand set (hh 87 t))))) + (hh 101 (0 + (xxor set (xand set (hh 87 t)))))))]) (sk' := [.inl t, .inl (4096 + set), .inr (.inr 102)]) (h' := (xup hh 101 (4096 + set) (((1 + (hh 85 t)) + (hh 101 (0 + (xand set (hh 87 t))))) + (hh 101 (0 + (xxor set (xand set (hh 87 t)))))))) rfl ?_
                    refine E_sd (x := (.iastore, 0, [], [])) (ty := .int) (n := 16384) (y := t) rfl rfl rfl (by omega) (by omega) (trivial) ?_
                    show xEx G0 cdX12_laysSet none (xRn G0 MT d) Q b 104 [some (.inr (.inr 66)), some (.inl 1), some (.inl set), some (.inl (4096 + set)), some (.inl t), some (.inl (xand set (hh 87 t))), some (.inl (((1 + (hh 85 t)) + (hh 101 (0 + (xand set (hh 87 t))))) + (hh 101 (0 + (xxor set (xand set (hh 87 t)))))))] [] (xup (xup hh 101 (4096 + set) (((1 + (hh 85 t)) + (hh 101 (0 + (xand set (hh 87 t))))) + (hh 101 (0 + (xxor set (xand set (hh 87 t))))))) 102 (4096 + set) t)
                    skip
                    refine E_s 2 (i' := 32) (ls' := [some (.inr (.inr 66)), some (.inl 1), some (.inl set), some (.inl (4096 + set)), some (.inl (t + 1)), some (.inl (xand set (hh 87 t))), some (.inl (((1 + (hh 85 t)) + (hh 101 (0 + (xand set (hh 87 t))))) + (hh 101 (0 + (xxor set (xand set (hh 87 t)))))))]) (sk' := []) (h' := (xup (xup hh 101 (4096 + set) (((1 + (hh 85 t)) + (hh 101 (0 + (xand set (hh 87 t))))) + (hh 101 (0 + (xxor set (xand set (hh 87 t))))))) 102 (4096 + set) t)) rfl ?_
                    exact ih32 _ (t + 1) _ _ (by omega) (by omega) (fun a z1 z2 => by rw [xup_o _ _ _ _ a z2, xup_o _ _ _ _ a z1]; exact hf a z1 z2) (fun j z => by rw [xup_o _ _ _ _ _ (by decide), xup_j z, xup_j z, xup_o _ _ _ _ _ (by decide)]; exact hf2 j z) (by rw [xup_o _ _ _ _ _ (by decide), xup_s, stpf_y ht0 yb]; exact se) (by rw [xup_s, btf_1 ht0, if_pos yb]) (by omega)
                  · rw [c_lt (by first | (rw [hst]; exact ⟨by omega, by omega⟩) | (rw [v1, v2, g4]; exact ⟨by omega, by omega⟩)) (by first | (rw [hst]; exact ⟨by omega, by omega⟩) | (rw [v1, v2, g4]; exact ⟨by omega, by omega⟩))] at c92
                    simp only [decide_eq_true_eq, decide_eq_false_iff_not, Decidable.not_not] at c92
                    show xEx G0 cdX12_laysSet none (xRn G0 MT d) Q b 93 [some (.inr (.inr 66)), some (.inl 1), some (.inl set), some (.inl (4096 + set)), some (.inl t), some (.inl (xand set (hh 87 t))), some (.inl (((1 + (hh 85 t)) + (hh 101 (0 + (xand set (hh 87 t))))) + (hh 101 (0 + (xxor set (xand set (hh 87 t)))))))] [] hh
                    refine E_s 1 (i' := 104) (ls' := [some (.inr (.inr 66)), some (.inl 1), some (.inl set), some (.inl (4096 + set)), some (.inl t), some (.inl (xand set (hh 87 t))), some (.inl (((1 + (hh 85 t)) + (hh 101 (0 + (xand set (hh 87 t))))) + (hh 101 (0 + (xxor set (xand set (hh 87 t)))))))]) (sk' := []) (h' := hh) rfl ?_
                    have nb : ¬ (prt T p set t ∧ szt T (szf S T (S 0 0) (T 0 0) p 0) set t < stpf T p (szf S T (S 0 0) (T 0 0) p 0) (sz0 S (S 0 0) p set) set t.toNat) := by
                      rintro ⟨y1, y2⟩
                      first
                      | exact y1.2.1 (by rw [← g6]; exact c46)
                      | exact y1.2.2 (by rw [← g6]; exact c49)
                      | (rw [← se, ← hst] at y2; exact c92 y2)
                      | (rcases hb with ⟨z9, -⟩ | ⟨-, z9⟩
                         · exact c54 z9
                         · exact z9 y1.1)
                    refine E_s 2 (i' := 32) (ls' := [some (.inr (.inr 66)), some (.inl 1), some (.inl set), some (.inl (4096 + set)), some (.inl (t + 1)), some (.inl (xand set (hh 87 t))), some (.inl (((1 + (hh 85 t)) + (hh 101 (0 + (xand set (hh 87 t))))) + (hh 101 (0 + (xxor set (xand set (hh 87 t)))))))]) (sk' := []) (h' := hh) rfl ?_
                    exact ih32 _ (t + 1) _ _ (by omega) (by omega) hf hf2 (by rw [stpf_n ht0 nb]; exact hst) (by rw [btf_1 ht0, if_neg nb]; exact hbt) (by omega)
                · rw [c_eq (by exact ⟨by omega, by omega⟩) (by exact ⟨by omega, by omega⟩)] at c54
                  simp only [decide_eq_true_eq, decide_eq_false_iff_not, Decidable.not_not] at c54
                  show xEx G0 cdX12_laysSet none (xRn G0 MT d) Q b 55 [some (.inr (.inr 66)), some (.inl 1), some (.inl set), some (.inl (4096 + set)), some (.inl t), some (.inl (xand set (hh 87 t))), v6] [] hh
                  refine E_s 1 (i' := 104) (ls' := [some (.inr (.inr 66)), some (.inl 1), some (.inl set), some (.inl (4096 + set)), some (.inl t), some (.inl (xand set (hh 87 t))), v6]) (sk' := []) (h' := hh) rfl ?_
                  have nb : ¬ (prt T p set t ∧ szt T (szf S T (S 0 0) (T 0 0) p 0) set t < stpf T p (szf S T (S 0 0) (T 0 0) p 0) (sz0 S (S 0 0) p set) set t.toNat) := by
                    rintro ⟨y1, y2⟩
                    first
                    | exact y1.2.1 (by rw [← g6]; exact c46)
                    | exact y1.2.2 (by rw [← g6]; exact c49)
                    | (rw [← se, ← hst] at y2; exact c92 y2)
                    | (rcases hb with ⟨z9, -⟩ | ⟨-, z9⟩
                       · exact c54 z9
                       · exact z9 y1.1)
                  refine E_s 2 (i' := 32) (ls' := [some (.inr (.inr 66)), some (.inl 1), some (.inl set), some (.inl (4096 + set)), some (.inl (t + 1)), some (.inl (xand set (hh 87 t))), v6]) (sk' := []) (h' := hh) rfl ?_
                  exact ih32 _ (t + 1) _ _ (by omega) (by omega) hf hf2 (by rw [stpf_n ht0 nb]; exact hst) (by rw [btf_1 ht0, if_neg nb]; exact hbt) (by omega)
    exact key32 _ _ 0 none none (by omega) (by omega) (fun a z1 z2 => by rw [xup_o _ _ _ _ a z2, xup_o _ _ _ _ a z1]) (fun j z => by rw [xup_o _ _ _ _ _ (by decide), xup_j z, xup_j z, xup_o _ _ _ _ _ (by decide)]; exact ⟨rfl, rfl⟩) (by rw [xup_o _ _ _ _ _ (by decide), xup_s]; exact sz1.symm) (by rw [xup_s]; rfl) (Nat.lt_succ_self _)
  · rw [c_ne (by first | assumption | (refine ⟨?_, ?_⟩ <;> omega) | (simp only [xr] at *; omega)) (by first | assumption | (refine ⟨?_, ?_⟩ <;> omega) | (simp only [xr] at *; omega))] at c14
    simp only [decide_eq_true_eq, decide_eq_false_iff_not, Decidable.not_not] at c14
    show xEx G0 cdX12_laysSet none (xRn G0 MT d) Q b 15 [some (.inr (.inr 66)), some (.inl 1), some (.inl set), some (.inl (4096 + set)), none, none, none] [.inl (4096 + set), .inr (.inr 101)] h
    have sz1 : (sz0 S (S 0 0) p set) = 1000000 := by
      unfold sz0
      rw [if_pos (by rw [← hl]; exact c14)]
    refine E_s 2 (i' := 24) (ls' := [some (.inr (.inr 66)), some (.inl 1), some (.inl set), some (.inl (4096 + set)), none, none, none]) (sk' := [.inl 1000000, .inl (4096 + set), .inr (.inr 101)]) (h' := h) rfl ?_
    refine E_sd (x := (.iastore, 0, [], [])) (ty := .int) (n := 16384) (y := 1000000) rfl rfl rfl (by omega) (by omega) (trivial) ?_
    show xEx G0 cdX12_laysSet none (xRn G0 MT d) Q b 25 [some (.inr (.inr 66)), some (.inl 1), some (.inl set), some (.inl (4096 + set)), none, none, none] [] (xup h 101 (4096 + set) 1000000)
    refine E_s 4 (i' := 29) (ls' := [some (.inr (.inr 66)), some (.inl 1), some (.inl set), some (.inl (4096 + set)), none, none, none]) (sk' := [.inl (-1), .inl (4096 + set), .inr (.inr 102)]) (h' := (xup h 101 (4096 + set) 1000000)) rfl ?_
    refine E_sd (x := (.iastore, 0, [], [])) (ty := .int) (n := 16384) (y := (-1)) rfl rfl rfl (by omega) (by omega) (trivial) ?_
    show xEx G0 cdX12_laysSet none (xRn G0 MT d) Q b 30 [some (.inr (.inr 66)), some (.inl 1), some (.inl set), some (.inl (4096 + set)), none, none, none] [] (xup (xup h 101 (4096 + set) 1000000) 102 (4096 + set) (-1))
    refine E_s 2 (i' := 32) (ls' := [some (.inr (.inr 66)), some (.inl 1), some (.inl set), some (.inl (4096 + set)), some (.inl 0), none, none]) (sk' := []) (h' := (xup (xup h 101 (4096 + set) 1000000) 102 (4096 + set) (-1))) rfl ?_
    have key32 : ∀ (n : Nat) (hh : xH) (t : Int) (v5 v6 : Option xV), (0 ≤ t) → (t ≤ T 0 0) → (∀ a, a ≠ 101 → a ≠ 102 → hh a = h a) → (∀ j, j ≠ (4096 + set) → hh 101 j = h 101 j ∧ hh 102 j = h 102 j) → (hh 101 (4096 + set) = stpf T p (szf S T (S 0 0) (T 0 0) p 0) (sz0 S (S 0 0) p set) set t.toNat) → (hh 102 (4096 + set) = btf T p (szf S T (S 0 0) (T 0 0) p 0) (sz0 S (S 0 0) p set) set t.toNat) → ((T 0 0 - t).toNat) < n → xEx G0 cdX12_laysSet none (xRn G0 MT d) Q b 32 [some (.inr (.inr 66)), some (.inl 1), some (.inl set), some (.inl (4096 + set)), some (.inl t), v5, v6] [] hh := by
      intro n
      induction n with
      | zero => intro hh t v5 v6 _ _ _ _ _ _ hm; exact absurd hm (Nat.not_lt_zero _)
      | succ n ih32 =>
        intro hh t v5 v6 ht0 ht9 hf hf2 hst hbt hm32
        have f19 : hh 66 19 = T 0 0 := by rw [hf _ (by decide) (by decide)]; exact e19
        refine E_s 3 (i' := 35) (ls' := [some (.inr (.inr 66)), some (.inl 1), some (.inl set), some (.inl (4096 + set)), some (.inl t), v5, v6]) (sk' := [.inl (hh 66 19), .inl t]) (h' := hh) rfl ?_
        refine E_b (x := (.if_icmp .ge 123, 106, [], [])) rfl rfl (fun c35 => ?_) (fun c35 => ?_)
        · rw [c_ge (by first | assumption | (refine ⟨?_, ?_⟩ <;> omega) | (simp only [xr] at *; omega)) (by first | assumption | (refine ⟨?_, ?_⟩ <;> omega) | (simp only [xr] at *; omega))] at c35
          simp only [decide_eq_true_eq, decide_eq_false_iff_not, Decidable.not_not] at c35
          show xEx G0 cdX12_laysSet none (xRn G0 MT d) Q b 106 [some (.inr (.inr 66)), some (.inl 1), some (.inl set), some (.inl (4096 + set)), some (.inl t), v5, v6] [] hh
          have et : t = T 0 0 := by omega
          rw [et] at hst hbt
          exact E_ret (x := (.return_, 0, [], [])) (v := none) rfl (trivial) (hQ _ hf hf2 hst hbt)
        · rw [c_ge (by first | assumption | (refine ⟨?_, ?_⟩ <;> omega) | (simp only [xr] at *; omega)) (by first | assumption | (refine ⟨?_, ?_⟩ <;> omega) | (simp only [xr] at *; omega))] at c35
          simp only [decide_eq_true_eq, decide_eq_false_iff_not, Decidable.not_not] at c35
          show xEx G0 cdX12_laysSet none (xRn G0 MT d) Q b 36 [some (.inr (.inr 66)), some (.inl 1), some (.inl set), some (.inl (4096 + set)), some (.inl t), v5, v6] [] hh
          refine E_s 1 (i' := 37) (ls' := [some (.inr (.inr 66)), some (.inl 1), some (.inl set), some (.inl (4096 + set)), some (.inl t), v5, v6]) (sk' := [.inl 1]) (h' := hh) rfl ?_
          refine E_b (x := (.ifCond .le 119, 106, [], [])) rfl rfl (fun c37 => ?_) (fun c37 => ?_)
          · show xEx G0 cdX12_laysSet none (xRn G0 MT d) Q b 106 [some (.inr (.inr 66)), some (.inl 1), some (.inl set), some (.inl (4096 + set)), some (.inl t), v5, v6] [] hh
            exact absurd c37 (by decide)
          · show xEx G0 cdX12_laysSet none (xRn G0 MT d) Q b 38 [some (.inr (.inr 66)), some (.inl 1), some (.inl set), some (.inl (4096 + set)), some (.inl t), v5, v6] [] hh
            have ht1 : t < T 0 0 := by omega
            have g6 : hh 87 t = T 6 t := by rw [hf _ (by decide) (by decide)]; exact (hA.2.2.2 t ht0 ht1).2
            have g4 : hh 85 t = T 4 t := by rw [hf _ (by decide) (by decide)]; exact (hA.2.2.2 t ht0 ht1).1
            have o4 := o.2.2.2.2 t ht0 ht1
            have hb : (hh 104 t = 0 ∧ lk (T 11 t) p) ∨ (hh 104 t = 1 ∧ ¬ lk (T 11 t) p) := by rw [hf _ (by decide) (by decide)]; exact hB.2 t ht0 ht1
            have rb : hh 104 t = 0 ∨ hh 104 t = 1 := by
              rcases hb with ⟨z9, -⟩ | ⟨z9, -⟩
              · exact Or.inl z9
              · exact Or.inr z9
            have i1 : ir m (xand set (hh 87 t)) := by rw [g6]; exact xa_r o.1 hs o4.2.1
            have i2 : ir m (xxor set (xand set (hh 87 t))) := xx_r o.1 hs i1
            have r41 := ir4 o.1 i1
            have r42 := ir4 o.1 i2
            have bl : stpf T p (szf S T (S 0 0) (T 0 0) p 0) (sz0 S (S 0 0) p set) set t.toNat ≤ (sz0 S (S 0 0) p set) := stpf_le _
            refine E_s 4 (i' := 42) (ls' := [some (.inr (.inr 66)), some (.inl 1), some (.inl set), some (.inl (4096 + set)), some (.inl t), v5, v6]) (sk' := [.inl t, .inr (.inr 87), .inl set]) (h' := hh) rfl ?_
            refine E_ld (x := (.iaload, 0, [], [])) (ty := .int) (n := 150) rfl rfl rfl (by omega) (by omega) ?_
            show xEx G0 cdX12_laysSet none (xRn G0 MT d) Q b 43 [some (.inr (.inr 66)), some (.inl 1), some (.inl set), some (.inl (4096 + set)), some (.inl t), v5, v6] [.inl (hh 87 t), .inl set] hh
            refine E_s 3 (i' := 46) (ls' := [some (.inr (.inr 66)), some (.inl 1), some (.inl set), some (.inl (4096 + set)), some (.inl t), some (.inl (xand set (hh 87 t))), v6]) (sk' := [.inl (xand set (hh 87 t))]) (h' := hh) rfl ?_
            refine E_b (x := (.ifCond .eq 97, 104, [], [])) rfl rfl (fun c46 => ?_) (fun c46 => ?_)
            · rw [c_eq (by first | exact xand_r _ _ | exact ⟨by omega, by omega⟩) (by first | exact xand_r _ _ | exact ⟨by omega, by omega⟩)] at c46
              simp only [decide_eq_true_eq, decide_eq_false_iff_not, Decidable.not_not] at c46
              show xEx G0 cdX12_laysSet none (xRn G0 MT d) Q b 104 [some (.inr (.inr 66)), some (.inl 1), some (.inl set), some (.inl (4096 + set)), some (.inl t), some (.inl (xand set (hh 87 t))), v6] [] hh
              have nb : ¬ (prt T p set t ∧ szt T (szf S T (S 0 0) (T 0 0) p 0) set t < stpf T p (szf S T (S 0 0) (T 0 0) p 0) (sz0 S (S 0 0) p set) set t.toNat) := by
                rintro ⟨y1, y2⟩
                first
                | exact y1.2.1 (by rw [← g6]; exact c46)
                | exact y1.2.2 (by rw [← g6]; exact c49)
                | (rw [← se, ← hst] at y2; exact c92 y2)
                | (rcases hb with ⟨z9, -⟩ | ⟨-, z9⟩
                   · exact c54 z9
                   · exact z9 y1.1)
              refine E_s 2 (i' := 32) (ls' := [some (.inr (.inr 66)), some (.inl 1), some (.inl set), some (.inl (4096 + set)), some (.inl (t + 1)), some (.inl (xand set (hh 87 t))), v6]) (sk' := []) (h' := hh) rfl ?_
              exact ih32 _ (t + 1) _ _ (by omega) (by omega) hf hf2 (by rw [stpf_n ht0 nb]; exact hst) (by rw [btf_1 ht0, if_neg nb]; exact hbt) (by omega)
            · rw [c_eq (by first | exact xand_r _ _ | exact ⟨by omega, by omega⟩) (by first | exact xand_r _ _ | exact ⟨by omega, by omega⟩)] at c46
              simp only [decide_eq_true_eq, decide_eq_false_iff_not, Decidable.not_not] at c46
              show xEx G0 cdX12_laysSet none (xRn G0 MT d) Q b 47 [some (.inr (.inr 66)), some (.inl 1), some (.inl set), some (.inl (4096 + set)), some (.inl t), some (.inl (xand set (hh 87 t))), v6] [] hh
              refine E_s 2 (i' := 49) (ls' := [some (.inr (.inr 66)), some (.inl 1), some (.inl set), some (.inl (4096 + set)), some (.inl t), some (.inl (xand set (hh 87 t))), v6]) (sk' := [.inl set, .inl (xand set (hh 87 t))]) (h' := hh) rfl ?_
              refine E_b (x := (.if_icmp .eq 91, 104, [], [])) rfl rfl (fun c49 => ?_) (fun c49 => ?_)
              · rw [c_eq (by first | exact xand_r _ _ | exact ⟨by omega, by omega⟩) (by first | exact xand_r _ _ | exact ⟨by omega, by omega⟩)] at c49
                simp only [decide_eq_true_eq, decide_eq_false_iff_not, Decidable.not_not] at c49
                show xEx G0 cdX12_laysSet none (xRn G0 MT d) Q b 104 [some (.inr (.inr 66)), some (.inl 1), some (.inl set), some (.inl (4096 + set)), some (.inl t), some (.inl (xand set (hh 87 t))), v6] [] hh
                have nb : ¬ (prt T p set t ∧ szt T (szf S T (S 0 0) (T 0 0) p 0) set t < stpf T p (szf S T (S 0 0) (T 0 0) p 0) (sz0 S (S 0 0) p set) set t.toNat) := by
                  rintro ⟨y1, y2⟩
                  first
                  | exact y1.2.1 (by rw [← g6]; exact c46)
                  | exact y1.2.2 (by rw [← g6]; exact c49)
                  | (rw [← se, ← hst] at y2; exact c92 y2)
                  | (rcases hb with ⟨z9, -⟩ | ⟨-, z9⟩
                     · exact c54 z9
                     · exact z9 y1.1)
                refine E_s 2 (i' := 32) (ls' := [some (.inr (.inr 66)), some (.inl 1), some (.inl set), some (.inl (4096 + set)), some (.inl (t + 1)), some (.inl (xand set (hh 87 t))), v6]) (sk' := []) (h' := hh) rfl ?_
                exact ih32 _ (t + 1) _ _ (by omega) (by omega) hf hf2 (by rw [stpf_n ht0 nb]; exact hst) (by rw [btf_1 ht0, if_neg nb]; exact hbt) (by omega)
              · rw [c_eq (by first | exact xand_r _ _ | exact ⟨by omega, by omega⟩) (by first | exact xand_r _ _ | exact ⟨by omega, by omega⟩)] at c49
                simp only [decide_eq_true_eq, decide_eq_false_iff_not, Decidable.not_not] at c49
                show xEx G0 cdX12_laysSet none (xRn G0 MT d) Q b 50 [some (.inr (.inr 66)), some (.inl 1), some (.inl set), some (.inl (4096 + set)), some (.inl t), some (.inl (xand set (hh 87 t))), v6] [] hh
                refine E_s 3 (i' := 53) (ls' := [some (.inr (.inr 66)), some (.inl 1), some (.inl set), some (.inl (4096 + set)), some (.inl t), some (.inl (xand set (hh 87 t))), v6]) (sk' := [.inl t, .inr (.inr 104)]) (h' := hh) rfl ?_
                refine E_ld (x := (.baload, 0, [], [])) (ty := .boolean) (n := 150) rfl rfl rfl (by omega) (by omega) ?_
                show xEx G0 cdX12_laysSet none (xRn G0 MT d) Q b 54 [some (.inr (.inr 66)), some (.inl 1), some (.inl set), some (.inl (4096 + set)), some (.inl t), some (.inl (xand set (hh 87 t))), v6] [.inl (hh 104 t)] hh
                refine E_b (x := (.ifCond .eq 6, 56, [], [])) rfl rfl (fun c54 => ?_) (fun c54 => ?_)
                · rw [c_eq (by exact ⟨by omega, by omega⟩) (by exact ⟨by omega, by omega⟩)] at c54
                  simp only [decide_eq_true_eq, decide_eq_false_iff_not, Decidable.not_not] at c54
                  show xEx G0 cdX12_laysSet none (xRn G0 MT d) Q b 56 [some (.inr (.inr 66)), some (.inl 1), some (.inl set), some (.inl (4096 + set)), some (.inl t), some (.inl (xand set (hh 87 t))), v6] [] hh
                  have yl : lk (T 11 t) p := by
                    rcases hb with ⟨-, z9⟩ | ⟨z9, -⟩
                    · exact z9
                    · omega
                  have pt : prt T p set t := ⟨yl, by rw [← g6]; exact c46, by rw [← g6]; exact c49⟩
                  have v1 : hh 101 (0 + (xand set (hh 87 t))) = (szf S T (S 0 0) (T 0 0) p 0) (xand set (hh 87 t)) := by
                    rw [(hf2 _ (by omega)).1]
                    exact hpv _ i1 c46 (by rw [g6]; exact sub_an o.1 hs o4.2.1)
                  have v2 : hh 101 (0 + xxor set (xand set (hh 87 t))) = (szf S T (S 0 0) (T 0 0) p 0) (xxor set (xand set (hh 87 t))) := by
                    rw [(hf2 _ (by omega)).1]
                    refine hpv _ i2 ?_ ?_
                    · rw [g6] at c49 ⊢
                      exact els_0 o.1 hs o4.2.1 c49
                    · rw [g6]; exact sub_el o.1 hs o4.2.1
                  have q1 := szf_r (p := p) o 0 (xand set (hh 87 t))
                  have q2 := szf_r (p := p) o 0 (xxor set (xand set (hh 87 t)))
                  have se : 1 + hh 85 t + hh 101 (0 + (xand set (hh 87 t))) + hh 101 (0 + xxor set (xand set (hh 87 t))) = szt T (szf S T (S 0 0) (T 0 0) p 0) set t := by
                    unfold szt
                    rw [g4, v1, v2, g6]
                  have st1 : 1 ≤ stpf T p (szf S T (S 0 0) (T 0 0) p 0) (sz0 S (S 0 0) p set) set t.toNat := by
                    refine stpf_lo z0.1 _ (fun t9 z1 z2 hp9 => ?_)
                    have o49 := (o.2.2.2.2 t9 z1 (by omega)).1
                    have x1 := (szf_r (p := p) o 0 (xand set (T 6 t9))).1
                    have x2 := (szf_r (p := p) o 0 (xxor set (xand set (T 6 t9)))).1
                    unfold szt
                    omega
                  refine E_s 4 (i' := 60) (ls' := [some (.inr (.inr 66)), some (.inl 1), some (.inl set), some (.inl (4096 + set)), some (.inl t), some (.inl (xand set (hh 87 t))), v6]) (sk' := [.inl t, .inr (.inr 85), .inl 1]) (h' := hh) rfl ?_
                  refine E_ld (x := (.iaload, 0, [], [])) (ty := .int) (n := 150) rfl rfl rfl (by omega) (by omega) ?_
                  show xEx G0 cdX12_laysSet none (xRn G0 MT d) Q b 61 [some (.inr (.inr 66)), some (.inl 1), some (.inl set), some (.inl (4096 + set)), some (.inl t), some (.inl (xand set (hh 87 t))), v6] [.inl (hh 85 t), .inl 1] hh
                  refine E_s 10 (i' := 71) (ls' := [some (.inr (.inr 66)), some (.inl 1), some (.inl set), some (.inl (4096 + set)), some (.inl t), some (.inl (xand set (hh 87 t))), v6]) (sk' := [.inl (0 + (xand set (hh 87 t))), .inr (.inr 101), .inl (1 + (hh 85 t))]) (h' := hh) rfl ?_
                  refine E_ld (x := (.iaload, 0, [], [])) (ty := .int) (n := 16384) rfl rfl rfl (by omega) (by omega) ?_
                  show xEx G0 cdX12_laysSet none (xRn G0 MT d) Q b 72 [some (.inr (.inr 66)), some (.inl 1), some (.inl set), some (.inl (4096 + set)), some (.inl t), some (.inl (xand set (hh 87 t))), v6] [.inl (hh 101 (0 + (xand set (hh 87 t)))), .inl (1 + (hh 85 t))] hh
                  refine E_s 12 (i' := 84) (ls' := [some (.inr (.inr 66)), some (.inl 1), some (.inl set), some (.inl (4096 + set)), some (.inl t), some (.inl (xand set (hh 87 t))), v6]) (sk' := [.inl (0 + (xxor set (xand set (hh 87 t)))), .inr (.inr 101), .inl ((1 + (hh 85 t)) + (hh 101 (0 + (xand set (hh 87 t)))))]) (h' := hh) rfl ?_
                  refine E_ld (x := (.iaload, 0, [], [])) (ty := .int) (n := 16384) rfl rfl rfl (by omega) (by omega) ?_
                  show xEx G0 cdX12_laysSet none (xRn G0 MT d) Q b 85 [some (.inr (.inr 66)), some (.inl 1), some (.inl set), some (.inl (4096 + set)), some (.inl t), some (.inl (xand set (hh 87 t))), v6] [.inl (hh 101 (0 + (xxor set (xand set (hh 87 t))))), .inl ((1 + (hh 85 t)) + (hh 101 (0 + (xand set (hh 87 t)))))] hh
                  refine E_s 6 (i' := 91) (ls' := [some (.inr (.inr 66)), some (.inl 1), some (.inl set), some (.inl (4096 + set)), some (.inl t), some (.inl (xand set (hh 87 t))), some (.inl (((1 + (hh 85 t)) + (hh 101 (0 + (xand set (hh 87 t))))) + (hh 101 (0 + (xxor set (xand set (hh 87 t)))))))]) (sk' := [.inl (4096 + set), .inr (.inr 101), .inl (((1 + (hh 85 t)) + (hh 101 (0 + (xand set (hh 87 t))))) + (hh 101 (0 + (xxor set (xand set (hh 87 t))))))]) (h' := hh) rfl ?_
                  refine E_ld (x := (.iaload, 0, [], [])) (ty := .int) (n := 16384) rfl rfl rfl (by omega) (by omega) ?_
                  show xEx G0 cdX12_laysSet none (xRn G0 MT d) Q b 92 [some (.inr (.inr 66)), some (.inl 1), some (.inl set), some (.inl (4096 + set)), some (.inl t), some (.inl (xand set (hh 87 t))), some (.inl (((1 + (hh 85 t)) + (hh 101 (0 + (xand set (hh 87 t))))) + (hh 101 (0 + (xxor set (xand set (hh 87 t)))))))] [.inl (hh 101 (4096 + set)), .inl (((1 + (hh 85 t)) + (hh 101 (0 + (xand set (hh 87 t))))) + (hh 101 (0 + (xxor set (xand set (hh 87 t))))))] hh
                  refine E_b (x := (.if_icmp .lt 6, 94, [], [])) rfl rfl (fun c92 => ?_) (fun c92 => ?_)
                  · rw [c_lt (by first | (rw [hst]; exact ⟨by omega, by omega⟩) | (rw [v1, v2, g4]; exact ⟨by omega, by omega⟩)) (by first | (rw [hst]; exact ⟨by omega, by omega⟩) | (rw [v1, v2, g4]; exact ⟨by omega, by omega⟩))] at c92
                    simp only [decide_eq_true_eq, decide_eq_false_iff_not, Decidable.not_not] at c92
                    show xEx G0 cdX12_laysSet none (xRn G0 MT d) Q b 94 [some (.inr (.inr 66)), some (.inl 1), some (.inl set), some (.inl (4096 + set)), some (.inl t), some (.inl (xand set (hh 87 t))), some (.inl (((1 + (hh 85 t)) + (hh 101 (0 + (xand set (hh 87 t))))) + (hh 101 (0 + (xxor set (xand set (hh 87 t)))))))] [] hh
                    have yb : prt T p set t ∧ szt T (szf S T (S 0 0) (T 0 0) p 0) set t < stpf T p (szf S T (S 0 0) (T 0 0) p 0) (sz0 S (S 0 0) p set) set t.toNat := ⟨pt, by rw [← se, ← hst]; exact c92⟩
                    refine E_s 4 (i' := 98) (ls' := [some (.inr (.inr 66)), some (.inl 1), some (.inl set), some (.inl (4096 + set)), some (.inl t), some (.inl (xand set (hh 87 t))), some (.inl (((1 + (hh 85 t)) + (hh 101 (0 + (xand set (hh 87 t))))) + (hh 101 (0 + (xxor set (xand set (hh 87 t)))))))]) (sk' := [.inl (((1 + (hh 85 t)) + (hh 101 (0 + (xand set (hh 87 t))))) + (hh 101 (0 + (xxor set (xand set (hh 87 t)))))), .inl (4096 + set), .inr (.inr 101)]) (h' := hh) rfl ?_
                    refine E_sd (x := (.iastore, 0, [], [])) (ty := .int) (n := 16384) (y := (((1 + (hh 85 t)) + (hh 101 (0 + (xand set (hh 87 t))))) + (hh 101 (0 + (xxor set (xand set (hh 87 t))))))) rfl rfl rfl (by omega) (by omega) (trivial) ?_
                    show xEx G0 cdX12_laysSet none (xRn G0 MT d) Q b 99 [some (.inr (.inr 66)), some (.inl 1), some (.inl set), some (.inl (4096 + set)), some (.inl t), some (.inl (xand set (hh 87 t))), some (.inl (((1 + (hh 85 t)) + (hh 101 (0 + (xand set (hh 87 t))))) + (hh 101 (0 + (xxor set (xand set (hh 87 t)))))))] [] (xup hh 101 (4096 + set) (((1 + (hh 85 t)) + (hh 101 (0 + (xand set (hh 87 t))))) + (hh 101 (0 + (xxor set (xand set (hh 87 t)))))))
                    refine E_s 4 (i' := 103) (ls' := [some (.inr (.inr 66)), some (.inl 1), some (.inl set), some (.inl (4096 + set)), some (.inl t), some (.inl (xand set (hh 87 t))), some (.inl (((1 + (hh 85 t)) + (hh 101 (0 + (xand set (hh 87 t))))) + (hh 101 (0 + (xxor set (xand set (hh 87 t)))))))]) (sk' := [.inl t, .inl (4096 + set), .inr (.inr 102)]) (h' := (xup hh 101 (4096 + set) (((1 + (hh 85 t)) + (hh 101 (0 + (xand set (hh 87 t))))) + (hh 101 (0 + (xxor set (xand set (hh 87 t)))))))) rfl ?_
                    refine E_sd (x := (.iastore, 0, [], [])) (ty := .int) (n := 16384) (y := t) rfl rfl rfl (by omega) (by omega) (trivial) ?_
                    show xEx G0 cdX12_laysSet none (xRn G0 MT d) Q b 104 [some (.inr (.inr 66)), some (.inl 1), some (.inl set), some (.inl (4096 + set)), some (.inl t), some (.inl (xand set (hh 87 t))), some (.inl (((1 + (hh 85 t)) + (hh 101 (0 + (xand set (hh 87 t))))) + (hh 101 (0 + (xxor set (xand set (hh 87 t)))))))] [] (xup (xup hh 101 (4096 + set) (((1 + (hh 85 t)) + (hh 101 (0 + (xand set (hh 87 t))))) + (hh 101 (0 + (xxor set (xand set (hh 87 t))))))) 102 (4096 + set) t)
                    skip
                    refine E_s 2 (i' := 32) (ls' := [some (.inr (.inr 66)), some (.inl 1), some (.inl set), some (.inl (4096 + set)), some (.inl (t + 1)), some (.inl (xand set (hh 87 t))), some (.inl (((1 + (hh 85 t)) + (hh 101 (0 + (xand set (hh 87 t))))) + (hh 101 (0 + (xxor set (xand set (hh 87 t)))))))]) (sk' := []) (h' := (xup (xup hh 101 (4096 + set) (((1 + (hh 85 t)) + (hh 101 (0 + (xand set (hh 87 t))))) + (hh 101 (0 + (xxor set (xand set (hh 87 t))))))) 102 (4096 + set) t)) rfl ?_
                    exact ih32 _ (t + 1) _ _ (by omega) (by omega) (fun a z1 z2 => by rw [xup_o _ _ _ _ a z2, xup_o _ _ _ _ a z1]; exact hf a z1 z2) (fun j z => by rw [xup_o _ _ _ _ _ (by decide), xup_j z, xup_j z, xup_o _ _ _ _ _ (by decide)]; exact hf2 j z) (by rw [xup_o _ _ _ _ _ (by decide), xup_s, stpf_y ht0 yb]; exact se) (by rw [xup_s, btf_1 ht0, if_pos yb]) (by omega)
                  · rw [c_lt (by first | (rw [hst]; exact ⟨by omega, by omega⟩) | (rw [v1, v2, g4]; exact ⟨by omega, by omega⟩)) (by first | (rw [hst]; exact ⟨by omega, by omega⟩) | (rw [v1, v2, g4]; exact ⟨by omega, by omega⟩))] at c92
                    simp only [decide_eq_true_eq, decide_eq_false_iff_not, Decidable.not_not] at c92
                    show xEx G0 cdX12_laysSet none (xRn G0 MT d) Q b 93 [some (.inr (.inr 66)), some (.inl 1), some (.inl set), some (.inl (4096 + set)), some (.inl t), some (.inl (xand set (hh 87 t))), some (.inl (((1 + (hh 85 t)) + (hh 101 (0 + (xand set (hh 87 t))))) + (hh 101 (0 + (xxor set (xand set (hh 87 t)))))))] [] hh
                    refine E_s 1 (i' := 104) (ls' := [some (.inr (.inr 66)), some (.inl 1), some (.inl set), some (.inl (4096 + set)), some (.inl t), some (.inl (xand set (hh 87 t))), some (.inl (((1 + (hh 85 t)) + (hh 101 (0 + (xand set (hh 87 t))))) + (hh 101 (0 + (xxor set (xand set (hh 87 t)))))))]) (sk' := []) (h' := hh) rfl ?_
                    have nb : ¬ (prt T p set t ∧ szt T (szf S T (S 0 0) (T 0 0) p 0) set t < stpf T p (szf S T (S 0 0) (T 0 0) p 0) (sz0 S (S 0 0) p set) set t.toNat) := by
                      rintro ⟨y1, y2⟩
                      first
                      | exact y1.2.1 (by rw [← g6]; exact c46)
                      | exact y1.2.2 (by rw [← g6]; exact c49)
                      | (rw [← se, ← hst] at y2; exact c92 y2)
                      | (rcases hb with ⟨z9, -⟩ | ⟨-, z9⟩
                         · exact c54 z9
                         · exact z9 y1.1)
                    refine E_s 2 (i' := 32) (ls' := [some (.inr (.inr 66)), some (.inl 1), some (.inl set), some (.inl (4096 + set)), some (.inl (t + 1)), some (.inl (xand set (hh 87 t))), some (.inl (((1 + (hh 85 t)) + (hh 101 (0 + (xand set (hh 87 t))))) + (hh 101 (0 + (xxor set (xand set (hh 87 t)))))))]) (sk' := []) (h' := hh) rfl ?_
                    exact ih32 _ (t + 1) _ _ (by omega) (by omega) hf hf2 (by rw [stpf_n ht0 nb]; exact hst) (by rw [btf_1 ht0, if_neg nb]; exact hbt) (by omega)
                · rw [c_eq (by exact ⟨by omega, by omega⟩) (by exact ⟨by omega, by omega⟩)] at c54
                  simp only [decide_eq_true_eq, decide_eq_false_iff_not, Decidable.not_not] at c54
                  show xEx G0 cdX12_laysSet none (xRn G0 MT d) Q b 55 [some (.inr (.inr 66)), some (.inl 1), some (.inl set), some (.inl (4096 + set)), some (.inl t), some (.inl (xand set (hh 87 t))), v6] [] hh
                  refine E_s 1 (i' := 104) (ls' := [some (.inr (.inr 66)), some (.inl 1), some (.inl set), some (.inl (4096 + set)), some (.inl t), some (.inl (xand set (hh 87 t))), v6]) (sk' := []) (h' := hh) rfl ?_
                  have nb : ¬ (prt T p set t ∧ szt T (szf S T (S 0 0) (T 0 0) p 0) set t < stpf T p (szf S T (S 0 0) (T 0 0) p 0) (sz0 S (S 0 0) p set) set t.toNat) := by
                    rintro ⟨y1, y2⟩
                    first
                    | exact y1.2.1 (by rw [← g6]; exact c46)
                    | exact y1.2.2 (by rw [← g6]; exact c49)
                    | (rw [← se, ← hst] at y2; exact c92 y2)
                    | (rcases hb with ⟨z9, -⟩ | ⟨-, z9⟩
                       · exact c54 z9
                       · exact z9 y1.1)
                  refine E_s 2 (i' := 32) (ls' := [some (.inr (.inr 66)), some (.inl 1), some (.inl set), some (.inl (4096 + set)), some (.inl (t + 1)), some (.inl (xand set (hh 87 t))), v6]) (sk' := []) (h' := hh) rfl ?_
                  exact ih32 _ (t + 1) _ _ (by omega) (by omega) hf hf2 (by rw [stpf_n ht0 nb]; exact hst) (by rw [btf_1 ht0, if_neg nb]; exact hbt) (by omega)
    exact key32 _ _ 0 none none (by omega) (by omega) (fun a z1 z2 => by rw [xup_o _ _ _ _ a z2, xup_o _ _ _ _ a z1]) (fun j z => by rw [xup_o _ _ _ _ _ (by decide), xup_j z, xup_j z, xup_o _ _ _ _ _ (by decide)]; exact ⟨rfl, rfl⟩) (by rw [xup_o _ _ _ _ _ (by decide), xup_s]; exact sz1.symm) (by rw [xup_s]; rfl) (Nat.lt_succ_self _)
set_option maxHeartbeats 1000000 in
theorem m_lSet2 (d b : Nat) (h S T : xH) (p set : Int) (m : Nat) (o : OKS S T (S 0 0) (T 0 0) m) (hA : RA h S T) (hB : RB h S T p) (hs : ir m set) (hs1 : set ≠ 0) (hl : h 100 set = lf S (S 0 0) p set) (hpv : ∀ a, ir m a → a ≠ 0 → sub a set → h 101 (4096 + a) = (szf S T (S 0 0) (T 0 0) p 1) a)  {Q : xO → xH → Prop} (hQ : ∀ h', (∀ a, a ≠ 101 → a ≠ 102 → h' a = h a) → (∀ j, j ≠ (8192 + set) → h' 101 j = h 101 j ∧ h' 102 j = h 102 j) → h' 101 (8192 + set) = szf S T (S 0 0) (T 0 0) p 2 set → h' 102 (8192 + set) = bti S T (S 0 0) (T 0 0) p 2 set → Q (.inl none) h') : xRn G0 MT (d + 1) b 227 [.inr (.inr 66), .inl 2, .inl set] h Q := by
  refine R_of (M := mX12_laysSet) rfl (Nat.le_of_ble_eq_true rfl) ?_
  show xEx G0 cdX12_laysSet none (xRn G0 MT d) Q b 0 [some (.inr (.inr 66)), some (.inl 2), some (.inl set), none, none, none, none] [] h
  have r4 := ir4 o.1 hs
  have ok := o.2.1
  have ot := o.2.2.1
  have lsp := lf_spec S (S 0 0) p set
  have lr : -1 ≤ lf S (S 0 0) p set ∧ lf S (S 0 0) p set < S 0 0 := by
    rcases lsp with ⟨a, -⟩ | ⟨a, b, -⟩ <;> omega
  have z0 := sz0_r (p := p) o set
  have e19 : h 66 19 = T 0 0 := hA.2.1
  refine E_s 12 (i' := 12) (ls' := [some (.inr (.inr 66)), some (.inl 2), some (.inl set), some (.inl (8192 + set)), none, none, none]) (sk' := [.inl set, .inr (.inr 100), .inl (8192 + set), .inr (.inr 101)]) (h' := h) rfl ?_
  refine E_ld (x := (.iaload, 0, [], [])) (ty := .int) (n := 4096) rfl rfl rfl (by omega) (by omega) ?_
  show xEx G0 cdX12_laysSet none (xRn G0 MT d) Q b 13 [some (.inr (.inr 66)), some (.inl 2), some (.inl set), some (.inl (8192 + set)), none, none, none] [.inl (h 100 set), .inl (8192 + set), .inr (.inr 101)] h
  refine E_s 1 (i' := 14) (ls' := [some (.inr (.inr 66)), some (.inl 2), some (.inl set), some (.inl (8192 + set)), none, none, none]) (sk' := [.inl (-1), .inl (h 100 set), .inl (8192 + set), .inr (.inr 101)]) (h' := h) rfl ?_
  refine E_b (x := (.if_icmp .ne 9, 17, [], [])) rfl rfl (fun c14 => ?_) (fun c14 => ?_)
  · rw [c_ne (by first | assumption | (refine ⟨?_, ?_⟩ <;> omega) | (simp only [xr] at *; omega)) (by first | assumption | (refine ⟨?_, ?_⟩ <;> omega) | (simp only [xr] at *; omega))] at c14
    simp only [decide_eq_true_eq, decide_eq_false_iff_not, Decidable.not_not] at c14
    show xEx G0 cdX12_laysSet none (xRn G0 MT d) Q b 17 [some (.inr (.inr 66)), some (.inl 2), some (.inl set), some (.inl (8192 + set)), none, none, none] [.inl (8192 + set), .inr (.inr 101)] h
    have lm2 : ¬ lf S (S 0 0) p set = -1 := by rw [← hl]; exact c14
    have sz1 : (sz0 S (S 0 0) p set) = h 75 (h 100 set) := by
      unfold sz0
      rw [if_neg lm2, hl, (hA.2.2.1 _ (by omega) (by omega)).1]
    refine E_s 5 (i' := 22) (ls' := [some (.inr (.inr 66)), some (.inl 2), some (.inl set), some (.inl (8192 + set)), none, none, none]) (sk' := [.inl set, .inr (.inr 100), .inr (.inr 75), .inl (8192 + set), .inr (.inr 101)]) (h' := h) rfl ?_
    refine E_ld (x := (.iaload, 0, [], [])) (ty := .int) (n := 4096) rfl rfl rfl (by omega) (by omega) ?_
    show xEx G0 cdX12_laysSet none (xRn G0 MT d) Q b 23 [some (.inr (.inr 66)), some (.inl 2), some (.inl set), some (.inl (8192 + set)), none, none, none] [.inl (h 100 set), .inr (.inr 75), .inl (8192 + set), .inr (.inr 101)] h
    refine E_ld (x := (.iaload, 0, [], [])) (ty := .int) (n := 300) rfl rfl rfl (by omega) (by omega) ?_
    show xEx G0 cdX12_laysSet none (xRn G0 MT d) Q b 24 [some (.inr (.inr 66)), some (.inl 2), some (.inl set), some (.inl (8192 + set)), none, none, none] [.inl (h 75 (h 100 set)), .inl (8192 + set), .inr (.inr 101)] h
    refine E_sd (x := (.iastore, 0, [], [])) (ty := .int) (n := 16384) (y := (h 75 (h 100 set))) rfl rfl rfl (by omega) (by omega) (trivial) ?_
    show xEx G0 cdX12_laysSet none (xRn G0 MT d) Q b 25 [some (.inr (.inr 66)), some (.inl 2), some (.inl set), some (.inl (8192 + set)), none, none, none] [] (xup h 101 (8192 + set) (h 75 (h 100 set)))
    refine E_s 4 (i' := 29) (ls' := [some (.inr (.inr 66)), some (.inl 2), some (.inl set), some (.inl (8192 + set)), none, none, none]) (sk' := [.inl (-1), .inl (8192 + set), .inr (.inr 102)]) (h' := (xup h 101 (8192 + set) (h 75 (h 100 set)))) rfl ?_
    refine E_sd (x := (.iastore, 0, [], [])) (ty := .int) (n := 16384) (y := (-1)) rfl rfl rfl (by omega) (by omega) (trivial) ?_
    show xEx G0 cdX12_laysSet none (xRn G0 MT d) Q b 30 [some (.inr (.inr 66)), some (.inl 2), some (.inl set), some (.inl (8192 + set)), none, none, none] [] (xup (xup h 101 (8192 + set) (h 75 (h 100 set))) 102 (8192 + set) (-1))
    refine E_s 2 (i' := 32) (ls' := [some (.inr (.inr 66)), some (.inl 2), some (.inl set), some (.inl (8192 + set)), some (.inl 0), none, none]) (sk' := []) (h' := (xup (xup h 101 (8192 + set) (h 75 (h 100 set))) 102 (8192 + set) (-1))) rfl ?_
    have key32 : ∀ (n : Nat) (hh : xH) (t : Int) (v5 v6 : Option xV), (0 ≤ t) → (t ≤ T 0 0) → (∀ a, a ≠ 101 → a ≠ 102 → hh a = h a) → (∀ j, j ≠ (8192 + set) → hh 101 j = h 101 j ∧ hh 102 j = h 102 j) → (hh 101 (8192 + set) = stpf T p (szf S T (S 0 0) (T 0 0) p 1) (sz0 S (S 0 0) p set) set t.toNat) → (hh 102 (8192 + set) = btf T p (szf S T (S 0 0) (T 0 0) p 1) (sz0 S (S 0 0) p set) set t.toNat) → ((T 0 0 - t).toNat) < n → xEx G0 cdX12_laysSet none (xRn G0 MT d) Q b 32 [some (.inr (.inr 66)), some (.inl 2), some (.inl set), some (.inl (8192 + set)), some (.inl t), v5, v6] [] hh := by
      intro n
      induction n with
      | zero => intro hh t v5 v6 _ _ _ _ _ _ hm; exact absurd hm (Nat.not_lt_zero _)
      | succ n ih32 =>
        intro hh t v5 v6 ht0 ht9 hf hf2 hst hbt hm32
        have f19 : hh 66 19 = T 0 0 := by rw [hf _ (by decide) (by decide)]; exact e19
        refine E_s 3 (i' := 35) (ls' := [some (.inr (.inr 66)), some (.inl 2), some (.inl set), some (.inl (8192 + set)), some (.inl t), v5, v6]) (sk' := [.inl (hh 66 19), .inl t]) (h' := hh) rfl ?_
        refine E_b (x := (.if_icmp .ge 123, 106, [], [])) rfl rfl (fun c35 => ?_) (fun c35 => ?_)
        · rw [c_ge (by first | assumption | (refine ⟨?_, ?_⟩ <;> omega) | (simp only [xr] at *; omega)) (by first | assumption | (refine ⟨?_, ?_⟩ <;> omega) | (simp only [xr] at *; omega))] at c35
          simp only [decide_eq_true_eq, decide_eq_false_iff_not, Decidable.not_not] at c35
          show xEx G0 cdX12_laysSet none (xRn G0 MT d) Q b 106 [some (.inr (.inr 66)), some (.inl 2), some (.inl set), some (.inl (8192 + set)), some (.inl t), v5, v6] [] hh
          have et : t = T 0 0 := by omega
          rw [et] at hst hbt
          exact E_ret (x := (.return_, 0, [], [])) (v := none) rfl (trivial) (hQ _ hf hf2 hst hbt)
        · rw [c_ge (by first | assumption | (refine ⟨?_, ?_⟩ <;> omega) | (simp only [xr] at *; omega)) (by first | assumption | (refine ⟨?_, ?_⟩ <;> omega) | (simp only [xr] at *; omega))] at c35
          simp only [decide_eq_true_eq, decide_eq_false_iff_not, Decidable.not_not] at c35
          show xEx G0 cdX12_laysSet none (xRn G0 MT d) Q b 36 [some (.inr (.inr 66)), some (.inl 2), some (.inl set), some (.inl (8192 + set)), some (.inl t), v5, v6] [] hh
          refine E_s 1 (i' := 37) (ls' := [some (.inr (.inr 66)), some (.inl 2), some (.inl set), some (.inl (8192 + set)), some (.inl t), v5, v6]) (sk' := [.inl 2]) (h' := hh) rfl ?_
          refine E_b (x := (.ifCond .le 119, 106, [], [])) rfl rfl (fun c37 => ?_) (fun c37 => ?_)
          · show xEx G0 cdX12_laysSet none (xRn G0 MT d) Q b 106 [some (.inr (.inr 66)), some (.inl 2), some (.inl set), some (.inl (8192 + set)), some (.inl t), v5, v6] [] hh
            exact absurd c37 (by decide)
          · show xEx G0 cdX12_laysSet none (xRn G0 MT d) Q b 38 [some (.inr (.inr 66)), some (.inl 2), some (.inl set), some (.inl (8192 + set)), some (.inl t), v5, v6] [] hh
            have ht1 : t < T 0 0 := by omega
            have g6 : hh 87 t = T 6 t := by rw [hf _ (by decide) (by decide)]; exact (hA.2.2.2 t ht0 ht1).2
            have g4 : hh 85 t = T 4 t := by rw [hf _ (by decide) (by decide)]; exact (hA.2.2.2 t ht0 ht1).1
            have o4 := o.2.2.2.2 t ht0 ht1
            have hb : (hh 104 t = 0 ∧ lk (T 11 t) p) ∨ (hh 104 t = 1 ∧ ¬ lk (T 11 t) p) := by rw [hf _ (by decide) (by decide)]; exact hB.2 t ht0 ht1
            have rb : hh 104 t = 0 ∨ hh 104 t = 1 := by
              rcases hb with ⟨z9, -⟩ | ⟨z9, -⟩
              · exact Or.inl z9
              · exact Or.inr z9
            have i1 : ir m (xand set (hh 87 t)) := by rw [g6]; exact xa_r o.1 hs o4.2.1
            have i2 : ir m (xxor set (xand set (hh 87 t))) := xx_r o.1 hs i1
            have r41 := ir4 o.1 i1
            have r42 := ir4 o.1 i2
            have bl : stpf T p (szf S T (S 0 0) (T 0 0) p 1) (sz0 S (S 0 0) p set) set t.toNat ≤ (sz0 S (S 0 0) p set) := stpf_le _
            refine E_s 4 (i' := 42) (ls' := [some (.inr (.inr 66)), some (.inl 2), some (.inl set), some (.inl (8192 + set)), some (.inl t), v5, v6]) (sk' := [.inl t, .inr (.inr 87), .inl set]) (h' := hh) rfl ?_
            refine E_ld (x := (.iaload, 0, [], [])) (ty := .int) (n := 150) rfl rfl rfl (by omega) (by omega) ?_
            show xEx G0 cdX12_laysSet none (xRn G0 MT d) Q b 43 [some (.inr (.inr 66)), some (.inl 2), some (.inl set), some (.inl (8192 + set)), some (.inl t), v5, v6] [.inl (hh 87 t), .inl set] hh
            refine E_s 3 (i' := 46) (ls' := [some (.inr (.inr 66)), some (.inl 2), some (.inl set), some (.inl (8192 + set)), some (.inl t), some (.inl (xand set (hh 87 t))), v6]) (sk' := [.inl (xand set (hh 87 t))]) (h' := hh) rfl ?_
            refine E_b (x := (.ifCond .eq 97, 104, [], [])) rfl rfl (fun c46 => ?_) (fun c46 => ?_)
            · rw [c_eq (by first | exact xand_r _ _ | exact ⟨by omega, by omega⟩) (by first | exact xand_r _ _ | exact ⟨by omega, by omega⟩)] at c46
              simp only [decide_eq_true_eq, decide_eq_false_iff_not, Decidable.not_not] at c46
              show xEx G0 cdX12_laysSet none (xRn G0 MT d) Q b 104 [some (.inr (.inr 66)), some (.inl 2), some (.inl set), some (.inl (8192 + set)), some (.inl t), some (.inl (xand set (hh 87 t))), v6] [] hh
              have nb : ¬ (prt T p set t ∧ szt T (szf S T (S 0 0) (T 0 0) p 1) set t < stpf T p (szf S T (S 0 0) (T 0 0) p 1) (sz0 S (S 0 0) p set) set t.toNat) := by
                rintro ⟨y1, y2⟩
                first
                | exact y1.2.1 (by rw [← g6]; exact c46)
                | exact y1.2.2 (by rw [← g6]; exact c49)
                | (rw [← se, ← hst] at y2; exact c92 y2)
                | (rcases hb with ⟨z9, -⟩ | ⟨-, z9⟩
                   · exact c54 z9
                   · exact z9 y1.1)
              refine E_s 2 (i' := 32) (ls' := [some (.inr (.inr 66)), some (.inl 2), some (.inl set), some (.inl (8192 + set)), some (.inl (t + 1)), some (.inl (xand set (hh 87 t))), v6]) (sk' := []) (h' := hh) rfl ?_
              exact ih32 _ (t + 1) _ _ (by omega) (by omega) hf hf2 (by rw [stpf_n ht0 nb]; exact hst) (by rw [btf_1 ht0, if_neg nb]; exact hbt) (by omega)
            · rw [c_eq (by first | exact xand_r _ _ | exact ⟨by omega, by omega⟩) (by first | exact xand_r _ _ | exact ⟨by omega, by omega⟩)] at c46
              simp only [decide_eq_true_eq, decide_eq_false_iff_not, Decidable.not_not] at c46
              show xEx G0 cdX12_laysSet none (xRn G0 MT d) Q b 47 [some (.inr (.inr 66)), some (.inl 2), some (.inl set), some (.inl (8192 + set)), some (.inl t), some (.inl (xand set (hh 87 t))), v6] [] hh
              refine E_s 2 (i' := 49) (ls' := [some (.inr (.inr 66)), some (.inl 2), some (.inl set), some (.inl (8192 + set)), some (.inl t), some (.inl (xand set (hh 87 t))), v6]) (sk' := [.inl set, .inl (xand set (hh 87 t))]) (h' := hh) rfl ?_
              refine E_b (x := (.if_icmp .eq 91, 104, [], [])) rfl rfl (fun c49 => ?_) (fun c49 => ?_)
              · rw [c_eq (by first | exact xand_r _ _ | exact ⟨by omega, by omega⟩) (by first | exact xand_r _ _ | exact ⟨by omega, by omega⟩)] at c49
                simp only [decide_eq_true_eq, decide_eq_false_iff_not, Decidable.not_not] at c49
                show xEx G0 cdX12_laysSet none (xRn G0 MT d) Q b 104 [some (.inr (.inr 66)), some (.inl 2), some (.inl set), some (.inl (8192 + set)), some (.inl t), some (.inl (xand set (hh 87 t))), v6] [] hh
                have nb : ¬ (prt T p set t ∧ szt T (szf S T (S 0 0) (T 0 0) p 1) set t < stpf T p (szf S T (S 0 0) (T 0 0) p 1) (sz0 S (S 0 0) p set) set t.toNat) := by
                  rintro ⟨y1, y2⟩
                  first
                  | exact y1.2.1 (by rw [← g6]; exact c46)
                  | exact y1.2.2 (by rw [← g6]; exact c49)
                  | (rw [← se, ← hst] at y2; exact c92 y2)
                  | (rcases hb with ⟨z9, -⟩ | ⟨-, z9⟩
                     · exact c54 z9
                     · exact z9 y1.1)
                refine E_s 2 (i' := 32) (ls' := [some (.inr (.inr 66)), some (.inl 2), some (.inl set), some (.inl (8192 + set)), some (.inl (t + 1)), some (.inl (xand set (hh 87 t))), v6]) (sk' := []) (h' := hh) rfl ?_
                exact ih32 _ (t + 1) _ _ (by omega) (by omega) hf hf2 (by rw [stpf_n ht0 nb]; exact hst) (by rw [btf_1 ht0, if_neg nb]; exact hbt) (by omega)
              · rw [c_eq (by first | exact xand_r _ _ | exact ⟨by omega, by omega⟩) (by first | exact xand_r _ _ | exact ⟨by omega, by omega⟩)] at c49
                simp only [decide_eq_true_eq, decide_eq_false_iff_not, Decidable.not_not] at c49
                show xEx G0 cdX12_laysSet none (xRn G0 MT d) Q b 50 [some (.inr (.inr 66)), some (.inl 2), some (.inl set), some (.inl (8192 + set)), some (.inl t), some (.inl (xand set (hh 87 t))), v6] [] hh
                refine E_s 3 (i' := 53) (ls' := [some (.inr (.inr 66)), some (.inl 2), some (.inl set), some (.inl (8192 + set)), some (.inl t), some (.inl (xand set (hh 87 t))), v6]) (sk' := [.inl t, .inr (.inr 104)]) (h' := hh) rfl ?_
                refine E_ld (x := (.baload, 0, [], [])) (ty := .boolean) (n := 150) rfl rfl rfl (by omega) (by omega) ?_
                show xEx G0 cdX12_laysSet none (xRn G0 MT d) Q b 54 [some (.inr (.inr 66)), some (.inl 2), some (.inl set), some (.inl (8192 + set)), some (.inl t), some (.inl (xand set (hh 87 t))), v6] [.inl (hh 104 t)] hh
                refine E_b (x := (.ifCond .eq 6, 56, [], [])) rfl rfl (fun c54 => ?_) (fun c54 => ?_)
                · rw [c_eq (by exact ⟨by omega, by omega⟩) (by exact ⟨by omega, by omega⟩)] at c54
                  simp only [decide_eq_true_eq, decide_eq_false_iff_not, Decidable.not_not] at c54
                  show xEx G0 cdX12_laysSet none (xRn G0 MT d) Q b 56 [some (.inr (.inr 66)), some (.inl 2), some (.inl set), some (.inl (8192 + set)), some (.inl t), some (.inl (xand set (hh 87 t))), v6] [] hh
                  have yl : lk (T 11 t) p := by
                    rcases hb with ⟨-, z9⟩ | ⟨z9, -⟩
                    · exact z9
                    · omega
                  have pt : prt T p set t := ⟨yl, by rw [← g6]; exact c46, by rw [← g6]; exact c49⟩
                  have v1 : hh 101 (4096 + (xand set (hh 87 t))) = (szf S T (S 0 0) (T 0 0) p 1) (xand set (hh 87 t)) := by
                    rw [(hf2 _ (by omega)).1]
                    exact hpv _ i1 c46 (by rw [g6]; exact sub_an o.1 hs o4.2.1)
                  have v2 : hh 101 (4096 + xxor set (xand set (hh 87 t))) = (szf S T (S 0 0) (T 0 0) p 1) (xxor set (xand set (hh 87 t))) := by
                    rw [(hf2 _ (by omega)).1]
                    refine hpv _ i2 ?_ ?_
                    · rw [g6] at c49 ⊢
                      exact els_0 o.1 hs o4.2.1 c49
                    · rw [g6]; exact sub_el o.1 hs o4.2.1
                  have q1 := szf_r (p := p) o 1 (xand set (hh 87 t))
                  have q2 := szf_r (p := p) o 1 (xxor set (xand set (hh 87 t)))
                  have se : 1 + hh 85 t + hh 101 (4096 + (xand set (hh 87 t))) + hh 101 (4096 + xxor set (xand set (hh 87 t))) = szt T (szf S T (S 0 0) (T 0 0) p 1) set t := by
                    unfold szt
                    rw [g4, v1, v2, g6]
                  have st1 : 1 ≤ stpf T p (szf S T (S 0 0) (T 0 0) p 1) (sz0 S (S 0 0) p set) set t.toNat := by
                    refine stpf_lo z0.1 _ (fun t9 z1 z2 hp9 => ?_)
                    have o49 := (o.2.2.2.2 t9 z1 (by omega)).1
                    have x1 := (szf_r (p := p) o 1 (xand set (T 6 t9))).1
                    have x2 := (szf_r (p := p) o 1 (xxor set (xand set (T 6 t9)))).1
                    unfold szt
                    omega
                  refine E_s 4 (i' := 60) (ls' := [some (.inr (.inr 66)), some (.inl 2), some (.inl set), some (.inl (8192 + set)), some (.inl t), some (.inl (xand set (hh 87 t))), v6]) (sk' := [.inl t, .inr (.inr 85), .inl 1]) (h' := hh) rfl ?_
                  refine E_ld (x := (.iaload, 0, [], [])) (ty := .int) (n := 150) rfl rfl rfl (by omega) (by omega) ?_
                  show xEx G0 cdX12_laysSet none (xRn G0 MT d) Q b 61 [some (.inr (.inr 66)), some (.inl 2), some (.inl set), some (.inl (8192 + set)), some (.inl t), some (.inl (xand set (hh 87 t))), v6] [.inl (hh 85 t), .inl 1] hh
                  refine E_s 10 (i' := 71) (ls' := [some (.inr (.inr 66)), some (.inl 2), some (.inl set), some (.inl (8192 + set)), some (.inl t), some (.inl (xand set (hh 87 t))), v6]) (sk' := [.inl (4096 + (xand set (hh 87 t))), .inr (.inr 101), .inl (1 + (hh 85 t))]) (h' := hh) rfl ?_
                  refine E_ld (x := (.iaload, 0, [], [])) (ty := .int) (n := 16384) rfl rfl rfl (by omega) (by omega) ?_
                  show xEx G0 cdX12_laysSet none (xRn G0 MT d) Q b 72 [some (.inr (.inr 66)), some (.inl 2), some (.inl set), some (.inl (8192 + set)), some (.inl t), some (.inl (xand set (hh 87 t))), v6] [.inl (hh 101 (4096 + (xand set (hh 87 t)))), .inl (1 + (hh 85 t))] hh
                  refine E_s 12 (i' := 84) (ls' := [some (.inr (.inr 66)), some (.inl 2), some (.inl set), some (.inl (8192 + set)), some (.inl t), some (.inl (xand set (hh 87 t))), v6]) (sk' := [.inl (4096 + (xxor set (xand set (hh 87 t)))), .inr (.inr 101), .inl ((1 + (hh 85 t)) + (hh 101 (4096 + (xand set (hh 87 t)))))]) (h' := hh) rfl ?_
                  refine E_ld (x := (.iaload, 0, [], [])) (ty := .int) (n := 16384) rfl rfl rfl (by omega) (by omega) ?_
                  show xEx G0 cdX12_laysSet none (xRn G0 MT d) Q b 85 [some (.inr (.inr 66)), some (.inl 2), some (.inl set), some (.inl (8192 + set)), some (.inl t), some (.inl (xand set (hh 87 t))), v6] [.inl (hh 101 (4096 + (xxor set (xand set (hh 87 t))))), .inl ((1 + (hh 85 t)) + (hh 101 (4096 + (xand set (hh 87 t)))))] hh
                  refine E_s 6 (i' := 91) (ls' := [some (.inr (.inr 66)), some (.inl 2), some (.inl set), some (.inl (8192 + set)), some (.inl t), some (.inl (xand set (hh 87 t))), some (.inl (((1 + (hh 85 t)) + (hh 101 (4096 + (xand set (hh 87 t))))) + (hh 101 (4096 + (xxor set (xand set (hh 87 t)))))))]) (sk' := [.inl (8192 + set), .inr (.inr 101), .inl (((1 + (hh 85 t)) + (hh 101 (4096 + (xand set (hh 87 t))))) + (hh 101 (4096 + (xxor set (xand set (hh 87 t))))))]) (h' := hh) rfl ?_
                  refine E_ld (x := (.iaload, 0, [], [])) (ty := .int) (n := 16384) rfl rfl rfl (by omega) (by omega) ?_
                  show xEx G0 cdX12_laysSet none (xRn G0 MT d) Q b 92 [some (.inr (.inr 66)), some (.inl 2), some (.inl set), some (.inl (8192 + set)), some (.inl t), some (.inl (xand set (hh 87 t))), some (.inl (((1 + (hh 85 t)) + (hh 101 (4096 + (xand set (hh 87 t))))) + (hh 101 (4096 + (xxor set (xand set (hh 87 t)))))))] [.inl (hh 101 (8192 + set)), .inl (((1 + (hh 85 t)) + (hh 101 (4096 + (xand set (hh 87 t))))) + (hh 101 (4096 + (xxor set (xand set (hh 87 t))))))] hh
                  refine E_b (x := (.if_icmp .lt 6, 94, [], [])) rfl rfl (fun c92 => ?_) (fun c92 => ?_)
                  · rw [c_lt (by first | (rw [hst]; exact ⟨by omega, by omega⟩) | (rw [v1, v2, g4]; exact ⟨by omega, by omega⟩)) (by first | (rw [hst]; exact ⟨by omega, by omega⟩) | (rw [v1, v2, g4]; exact ⟨by omega, by omega⟩))] at c92
                    simp only [decide_eq_true_eq, decide_eq_false_iff_not, Decidable.not_not] at c92
                    show xEx G0 cdX12_laysSet none (xRn G0 MT d) Q b 94 [some (.inr (.inr 66)), some (.inl 2), some (.inl set), some (.inl (8192 + set)), some (.inl t), some (.inl (xand set (hh 87 t))), some (.inl (((1 + (hh 85 t)) + (hh 101 (4096 + (xand set (hh 87 t))))) + (hh 101 (4096 + (xxor set (xand set (hh 87 t)))))))] [] hh
                    have yb : prt T p set t ∧ szt T (szf S T (S 0 0) (T 0 0) p 1) set t < stpf T p (szf S T (S 0 0) (T 0 0) p 1) (sz0 S (S 0 0) p set) set t.toNat := ⟨pt, by rw [← se, ← hst]; exact c92⟩
                    refine E_s 4 (i' := 98) (ls' := [some (.inr (.inr 66)), some (.inl 2), some (.inl set), some (.inl (8192 + set)), some (.inl t), some (.inl (xand set (hh 87 t))), some (.inl (((1 + (hh 85 t)) + (hh 101 (4096 + (xand set (hh 87 t))))) + (hh 101 (4096 + (xxor set (xand set (hh 87 t)))))))]) (sk' := [.inl (((1 + (hh 85 t)) + (hh 101 (4096 + (xand set (hh 87 t))))) + (hh 101 (4096 + (xxor set (xand set (hh 87 t)))))), .inl (8192 + set), .inr (.inr 101)]) (h' := hh) rfl ?_
                    refine E_sd (x := (.iastore, 0, [], [])) (ty := .int) (n := 16384) (y := (((1 + (hh 85 t)) + (hh 101 (4096 + (xand set (hh 87 t))))) + (hh 101 (4096 + (xxor set (xand set (hh 87 t))))))) rfl rfl rfl (by omega) (by omega) (trivial) ?_
                    show xEx G0 cdX12_laysSet none (xRn G0 MT d) Q b 99 [some (.inr (.inr 66)), some (.inl 2), some (.inl set), some (.inl (8192 + set)), some (.inl t), some (.inl (xand set (hh 87 t))), some (.inl (((1 + (hh 85 t)) + (hh 101 (4096 + (xand set (hh 87 t))))) + (hh 101 (4096 + (xxor set (xand set (hh 87 t)))))))] [] (xup hh 101 (8192 + set) (((1 + (hh 85 t)) + (hh 101 (4096 + (xand set (hh 87 t))))) + (hh 101 (4096 + (xxor set (xand set (hh 87 t)))))))
                    refine E_s 4 (i' := 103) (ls' := [some (.inr (.inr 66)), some (.inl 2), some (.inl set), some (.inl (8192 + set)), some (.inl t), some (.inl (xand set (hh 87 t))), some (.inl (((1 + (hh 85 t)) + (hh 101 (4096 + (xand set (hh 87 t))))) + (hh 101 (4096 + (xxor set (xand set (hh 87 t)))))))]) (sk' := [.inl t, .inl (8192 + set), .inr (.inr 102)]) (h' := (xup hh 101 (8192 + set) (((1 + (hh 85 t)) + (hh 101 (4096 + (xand set (hh 87 t))))) + (hh 101 (4096 + (xxor set (xand set (hh 87 t)))))))) rfl ?_
                    refine E_sd (x := (.iastore, 0, [], [])) (ty := .int) (n := 16384) (y := t) rfl rfl rfl (by omega) (by omega) (trivial) ?_
                    show xEx G0 cdX12_laysSet none (xRn G0 MT d) Q b 104 [some (.inr (.inr 66)), some (.inl 2), some (.inl set), some (.inl (8192 + set)), some (.inl t), some (.inl (xand set (hh 87 t))), some (.inl (((1 + (hh 85 t)) + (hh 101 (4096 + (xand set (hh 87 t))))) + (hh 101 (4096 + (xxor set (xand set (hh 87 t)))))))] [] (xup (xup hh 101 (8192 + set) (((1 + (hh 85 t)) + (hh 101 (4096 + (xand set (hh 87 t))))) + (hh 101 (4096 + (xxor set (xand set (hh 87 t))))))) 102 (8192 + set) t)
                    skip
                    refine E_s 2 (i' := 32) (ls' := [some (.inr (.inr 66)), some (.inl 2), some (.inl set), some (.inl (8192 + set)), some (.inl (t + 1)), some (.inl (xand set (hh 87 t))), some (.inl (((1 + (hh 85 t)) + (hh 101 (4096 + (xand set (hh 87 t))))) + (hh 101 (4096 + (xxor set (xand set (hh 87 t)))))))]) (sk' := []) (h' := (xup (xup hh 101 (8192 + set) (((1 + (hh 85 t)) + (hh 101 (4096 + (xand set (hh 87 t))))) + (hh 101 (4096 + (xxor set (xand set (hh 87 t))))))) 102 (8192 + set) t)) rfl ?_
                    exact ih32 _ (t + 1) _ _ (by omega) (by omega) (fun a z1 z2 => by rw [xup_o _ _ _ _ a z2, xup_o _ _ _ _ a z1]; exact hf a z1 z2) (fun j z => by rw [xup_o _ _ _ _ _ (by decide), xup_j z, xup_j z, xup_o _ _ _ _ _ (by decide)]; exact hf2 j z) (by rw [xup_o _ _ _ _ _ (by decide), xup_s, stpf_y ht0 yb]; exact se) (by rw [xup_s, btf_1 ht0, if_pos yb]) (by omega)
                  · rw [c_lt (by first | (rw [hst]; exact ⟨by omega, by omega⟩) | (rw [v1, v2, g4]; exact ⟨by omega, by omega⟩)) (by first | (rw [hst]; exact ⟨by omega, by omega⟩) | (rw [v1, v2, g4]; exact ⟨by omega, by omega⟩))] at c92
                    simp only [decide_eq_true_eq, decide_eq_false_iff_not, Decidable.not_not] at c92
                    show xEx G0 cdX12_laysSet none (xRn G0 MT d) Q b 93 [some (.inr (.inr 66)), some (.inl 2), some (.inl set), some (.inl (8192 + set)), some (.inl t), some (.inl (xand set (hh 87 t))), some (.inl (((1 + (hh 85 t)) + (hh 101 (4096 + (xand set (hh 87 t))))) + (hh 101 (4096 + (xxor set (xand set (hh 87 t)))))))] [] hh
                    refine E_s 1 (i' := 104) (ls' := [some (.inr (.inr 66)), some (.inl 2), some (.inl set), some (.inl (8192 + set)), some (.inl t), some (.inl (xand set (hh 87 t))), some (.inl (((1 + (hh 85 t)) + (hh 101 (4096 + (xand set (hh 87 t))))) + (hh 101 (4096 + (xxor set (xand set (hh 87 t)))))))]) (sk' := []) (h' := hh) rfl ?_
                    have nb : ¬ (prt T p set t ∧ szt T (szf S T (S 0 0) (T 0 0) p 1) set t < stpf T p (szf S T (S 0 0) (T 0 0) p 1) (sz0 S (S 0 0) p set) set t.toNat) := by
                      rintro ⟨y1, y2⟩
                      first
                      | exact y1.2.1 (by rw [← g6]; exact c46)
                      | exact y1.2.2 (by rw [← g6]; exact c49)
                      | (rw [← se, ← hst] at y2; exact c92 y2)
                      | (rcases hb with ⟨z9, -⟩ | ⟨-, z9⟩
                         · exact c54 z9
                         · exact z9 y1.1)
                    refine E_s 2 (i' := 32) (ls' := [some (.inr (.inr 66)), some (.inl 2), some (.inl set), some (.inl (8192 + set)), some (.inl (t + 1)), some (.inl (xand set (hh 87 t))), some (.inl (((1 + (hh 85 t)) + (hh 101 (4096 + (xand set (hh 87 t))))) + (hh 101 (4096 + (xxor set (xand set (hh 87 t)))))))]) (sk' := []) (h' := hh) rfl ?_
                    exact ih32 _ (t + 1) _ _ (by omega) (by omega) hf hf2 (by rw [stpf_n ht0 nb]; exact hst) (by rw [btf_1 ht0, if_neg nb]; exact hbt) (by omega)
                · rw [c_eq (by exact ⟨by omega, by omega⟩) (by exact ⟨by omega, by omega⟩)] at c54
                  simp only [decide_eq_true_eq, decide_eq_false_iff_not, Decidable.not_not] at c54
                  show xEx G0 cdX12_laysSet none (xRn G0 MT d) Q b 55 [some (.inr (.inr 66)), some (.inl 2), some (.inl set), some (.inl (8192 + set)), some (.inl t), some (.inl (xand set (hh 87 t))), v6] [] hh
                  refine E_s 1 (i' := 104) (ls' := [some (.inr (.inr 66)), some (.inl 2), some (.inl set), some (.inl (8192 + set)), some (.inl t), some (.inl (xand set (hh 87 t))), v6]) (sk' := []) (h' := hh) rfl ?_
                  have nb : ¬ (prt T p set t ∧ szt T (szf S T (S 0 0) (T 0 0) p 1) set t < stpf T p (szf S T (S 0 0) (T 0 0) p 1) (sz0 S (S 0 0) p set) set t.toNat) := by
                    rintro ⟨y1, y2⟩
                    first
                    | exact y1.2.1 (by rw [← g6]; exact c46)
                    | exact y1.2.2 (by rw [← g6]; exact c49)
                    | (rw [← se, ← hst] at y2; exact c92 y2)
                    | (rcases hb with ⟨z9, -⟩ | ⟨-, z9⟩
                       · exact c54 z9
                       · exact z9 y1.1)
                  refine E_s 2 (i' := 32) (ls' := [some (.inr (.inr 66)), some (.inl 2), some (.inl set), some (.inl (8192 + set)), some (.inl (t + 1)), some (.inl (xand set (hh 87 t))), v6]) (sk' := []) (h' := hh) rfl ?_
                  exact ih32 _ (t + 1) _ _ (by omega) (by omega) hf hf2 (by rw [stpf_n ht0 nb]; exact hst) (by rw [btf_1 ht0, if_neg nb]; exact hbt) (by omega)
    exact key32 _ _ 0 none none (by omega) (by omega) (fun a z1 z2 => by rw [xup_o _ _ _ _ a z2, xup_o _ _ _ _ a z1]) (fun j z => by rw [xup_o _ _ _ _ _ (by decide), xup_j z, xup_j z, xup_o _ _ _ _ _ (by decide)]; exact ⟨rfl, rfl⟩) (by rw [xup_o _ _ _ _ _ (by decide), xup_s]; exact sz1.symm) (by rw [xup_s]; rfl) (Nat.lt_succ_self _)
  · rw [c_ne (by first | assumption | (refine ⟨?_, ?_⟩ <;> omega) | (simp only [xr] at *; omega)) (by first | assumption | (refine ⟨?_, ?_⟩ <;> omega) | (simp only [xr] at *; omega))] at c14
    simp only [decide_eq_true_eq, decide_eq_false_iff_not, Decidable.not_not] at c14
    show xEx G0 cdX12_laysSet none (xRn G0 MT d) Q b 15 [some (.inr (.inr 66)), some (.inl 2), some (.inl set), some (.inl (8192 + set)), none, none, none] [.inl (8192 + set), .inr (.inr 101)] h
    have sz1 : (sz0 S (S 0 0) p set) = 1000000 := by
      unfold sz0
      rw [if_pos (by rw [← hl]; exact c14)]
    refine E_s 2 (i' := 24) (ls' := [some (.inr (.inr 66)), some (.inl 2), some (.inl set), some (.inl (8192 + set)), none, none, none]) (sk' := [.inl 1000000, .inl (8192 + set), .inr (.inr 101)]) (h' := h) rfl ?_
    refine E_sd (x := (.iastore, 0, [], [])) (ty := .int) (n := 16384) (y := 1000000) rfl rfl rfl (by omega) (by omega) (trivial) ?_
    show xEx G0 cdX12_laysSet none (xRn G0 MT d) Q b 25 [some (.inr (.inr 66)), some (.inl 2), some (.inl set), some (.inl (8192 + set)), none, none, none] [] (xup h 101 (8192 + set) 1000000)
    refine E_s 4 (i' := 29) (ls' := [some (.inr (.inr 66)), some (.inl 2), some (.inl set), some (.inl (8192 + set)), none, none, none]) (sk' := [.inl (-1), .inl (8192 + set), .inr (.inr 102)]) (h' := (xup h 101 (8192 + set) 1000000)) rfl ?_
    refine E_sd (x := (.iastore, 0, [], [])) (ty := .int) (n := 16384) (y := (-1)) rfl rfl rfl (by omega) (by omega) (trivial) ?_
    show xEx G0 cdX12_laysSet none (xRn G0 MT d) Q b 30 [some (.inr (.inr 66)), some (.inl 2), some (.inl set), some (.inl (8192 + set)), none, none, none] [] (xup (xup h 101 (8192 + set) 1000000) 102 (8192 + set) (-1))
    refine E_s 2 (i' := 32) (ls' := [some (.inr (.inr 66)), some (.inl 2), some (.inl set), some (.inl (8192 + set)), some (.inl 0), none, none]) (sk' := []) (h' := (xup (xup h 101 (8192 + set) 1000000) 102 (8192 + set) (-1))) rfl ?_
    have key32 : ∀ (n : Nat) (hh : xH) (t : Int) (v5 v6 : Option xV), (0 ≤ t) → (t ≤ T 0 0) → (∀ a, a ≠ 101 → a ≠ 102 → hh a = h a) → (∀ j, j ≠ (8192 + set) → hh 101 j = h 101 j ∧ hh 102 j = h 102 j) → (hh 101 (8192 + set) = stpf T p (szf S T (S 0 0) (T 0 0) p 1) (sz0 S (S 0 0) p set) set t.toNat) → (hh 102 (8192 + set) = btf T p (szf S T (S 0 0) (T 0 0) p 1) (sz0 S (S 0 0) p set) set t.toNat) → ((T 0 0 - t).toNat) < n → xEx G0 cdX12_laysSet none (xRn G0 MT d) Q b 32 [some (.inr (.inr 66)), some (.inl 2), some (.inl set), some (.inl (8192 + set)), some (.inl t), v5, v6] [] hh := by
      intro n
      induction n with
      | zero => intro hh t v5 v6 _ _ _ _ _ _ hm; exact absurd hm (Nat.not_lt_zero _)
      | succ n ih32 =>
        intro hh t v5 v6 ht0 ht9 hf hf2 hst hbt hm32
        have f19 : hh 66 19 = T 0 0 := by rw [hf _ (by decide) (by decide)]; exact e19
        refine E_s 3 (i' := 35) (ls' := [some (.inr (.inr 66)), some (.inl 2), some (.inl set), some (.inl (8192 + set)), some (.inl t), v5, v6]) (sk' := [.inl (hh 66 19), .inl t]) (h' := hh) rfl ?_
        refine E_b (x := (.if_icmp .ge 123, 106, [], [])) rfl rfl (fun c35 => ?_) (fun c35 => ?_)
        · rw [c_ge (by first | assumption | (refine ⟨?_, ?_⟩ <;> omega) | (simp only [xr] at *; omega)) (by first | assumption | (refine ⟨?_, ?_⟩ <;> omega) | (simp only [xr] at *; omega))] at c35
          simp only [decide_eq_true_eq, decide_eq_false_iff_not, Decidable.not_not] at c35
          show xEx G0 cdX12_laysSet none (xRn G0 MT d) Q b 106 [some (.inr (.inr 66)), some (.inl 2), some (.inl set), some (.inl (8192 + set)), some (.inl t), v5, v6] [] hh
          have et : t = T 0 0 := by omega
          rw [et] at hst hbt
          exact E_ret (x := (.return_, 0, [], [])) (v := none) rfl (trivial) (hQ _ hf hf2 hst hbt)
        · rw [c_ge (by first | assumption | (refine ⟨?_, ?_⟩ <;> omega) | (simp only [xr] at *; omega)) (by first | assumption | (refine ⟨?_, ?_⟩ <;> omega) | (simp only [xr] at *; omega))] at c35
          simp only [decide_eq_true_eq, decide_eq_false_iff_not, Decidable.not_not] at c35
          show xEx G0 cdX12_laysSet none (xRn G0 MT d) Q b 36 [some (.inr (.inr 66)), some (.inl 2), some (.inl set), some (.inl (8192 + set)), some (.inl t), v5, v6] [] hh
          refine E_s 1 (i' := 37) (ls' := [some (.inr (.inr 66)), some (.inl 2), some (.inl set), some (.inl (8192 + set)), some (.inl t), v5, v6]) (sk' := [.inl 2]) (h' := hh) rfl ?_
          refine E_b (x := (.ifCond .le 119, 106, [], [])) rfl rfl (fun c37 => ?_) (fun c37 => ?_)
          · show xEx G0 cdX12_laysSet none (xRn G0 MT d) Q b 106 [some (.inr (.inr 66)), some (.inl 2), some (.inl set), some (.inl (8192 + set)), some (.inl t), v5, v6] [] hh
            exact absurd c37 (by decide)
          · show xEx G0 cdX12_laysSet none (xRn G0 MT d) Q b 38 [some (.inr (.inr 66)), some (.inl 2), some (.inl set), some (.inl (8192 + set)), some (.inl t), v5, v6] [] hh
            have ht1 : t < T 0 0 := by omega
            have g6 : hh 87 t = T 6 t := by rw [hf _ (by decide) (by decide)]; exact (hA.2.2.2 t ht0 ht1).2
            have g4 : hh 85 t = T 4 t := by rw [hf _ (by decide) (by decide)]; exact (hA.2.2.2 t ht0 ht1).1
            have o4 := o.2.2.2.2 t ht0 ht1
            have hb : (hh 104 t = 0 ∧ lk (T 11 t) p) ∨ (hh 104 t = 1 ∧ ¬ lk (T 11 t) p) := by rw [hf _ (by decide) (by decide)]; exact hB.2 t ht0 ht1
            have rb : hh 104 t = 0 ∨ hh 104 t = 1 := by
              rcases hb with ⟨z9, -⟩ | ⟨z9, -⟩
              · exact Or.inl z9
              · exact Or.inr z9
            have i1 : ir m (xand set (hh 87 t)) := by rw [g6]; exact xa_r o.1 hs o4.2.1
            have i2 : ir m (xxor set (xand set (hh 87 t))) := xx_r o.1 hs i1
            have r41 := ir4 o.1 i1
            have r42 := ir4 o.1 i2
            have bl : stpf T p (szf S T (S 0 0) (T 0 0) p 1) (sz0 S (S 0 0) p set) set t.toNat ≤ (sz0 S (S 0 0) p set) := stpf_le _
            refine E_s 4 (i' := 42) (ls' := [some (.inr (.inr 66)), some (.inl 2), some (.inl set), some (.inl (8192 + set)), some (.inl t), v5, v6]) (sk' := [.inl t, .inr (.inr 87), .inl set]) (h' := hh) rfl ?_
            refine E_ld (x := (.iaload, 0, [], [])) (ty := .int) (n := 150) rfl rfl rfl (by omega) (by omega) ?_
            show xEx G0 cdX12_laysSet none (xRn G0 MT d) Q b 43 [some (.inr (.inr 66)), some (.inl 2), some (.inl set), some (.inl (8192 + set)), some (.inl t), v5, v6] [.inl (hh 87 t), .inl set] hh
            refine E_s 3 (i' := 46) (ls' := [some (.inr (.inr 66)), some (.inl 2), some (.inl set), some (.inl (8192 + set)), some (.inl t), some (.inl (xand set (hh 87 t))), v6]) (sk' := [.inl (xand set (hh 87 t))]) (h' := hh) rfl ?_
            refine E_b (x := (.ifCond .eq 97, 104, [], [])) rfl rfl (fun c46 => ?_) (fun c46 => ?_)
            · rw [c_eq (by first | exact xand_r _ _ | exact ⟨by omega, by omega⟩) (by first | exact xand_r _ _ | exact ⟨by omega, by omega⟩)] at c46
              simp only [decide_eq_true_eq, decide_eq_false_iff_not, Decidable.not_not] at c46
              show xEx G0 cdX12_laysSet none (xRn G0 MT d) Q b 104 [some (.inr (.inr 66)), some (.inl 2), some (.inl set), some (.inl (8192 + set)), some (.inl t), some (.inl (xand set (hh 87 t))), v6] [] hh
              have nb : ¬ (prt T p set t ∧ szt T (szf S T (S 0 0) (T 0 0) p 1) set t < stpf T p (szf S T (S 0 0) (T 0 0) p 1) (sz0 S (S 0 0) p set) set t.toNat) := by
                rintro ⟨y1, y2⟩
                first
                | exact y1.2.1 (by rw [← g6]; exact c46)
                | exact y1.2.2 (by rw [← g6]; exact c49)
                | (rw [← se, ← hst] at y2; exact c92 y2)
                | (rcases hb with ⟨z9, -⟩ | ⟨-, z9⟩
                   · exact c54 z9
                   · exact z9 y1.1)
              refine E_s 2 (i' := 32) (ls' := [some (.inr (.inr 66)), some (.inl 2), some (.inl set), some (.inl (8192 + set)), some (.inl (t + 1)), some (.inl (xand set (hh 87 t))), v6]) (sk' := []) (h' := hh) rfl ?_
              exact ih32 _ (t + 1) _ _ (by omega) (by omega) hf hf2 (by rw [stpf_n ht0 nb]; exact hst) (by rw [btf_1 ht0, if_neg nb]; exact hbt) (by omega)
            · rw [c_eq (by first | exact xand_r _ _ | exact ⟨by omega, by omega⟩) (by first | exact xand_r _ _ | exact ⟨by omega, by omega⟩)] at c46
              simp only [decide_eq_true_eq, decide_eq_false_iff_not, Decidable.not_not] at c46
              show xEx G0 cdX12_laysSet none (xRn G0 MT d) Q b 47 [some (.inr (.inr 66)), some (.inl 2), some (.inl set), some (.inl (8192 + set)), some (.inl t), some (.inl (xand set (hh 87 t))), v6] [] hh
              refine E_s 2 (i' := 49) (ls' := [some (.inr (.inr 66)), some (.inl 2), some (.inl set), some (.inl (8192 + set)), some (.inl t), some (.inl (xand set (hh 87 t))), v6]) (sk' := [.inl set, .inl (xand set (hh 87 t))]) (h' := hh) rfl ?_
              refine E_b (x := (.if_icmp .eq 91, 104, [], [])) rfl rfl (fun c49 => ?_) (fun c49 => ?_)
              · rw [c_eq (by first | exact xand_r _ _ | exact ⟨by omega, by omega⟩) (by first | exact xand_r _ _ | exact ⟨by omega, by omega⟩)] at c49
                simp only [decide_eq_true_eq, decide_eq_false_iff_not, Decidable.not_not] at c49
                show xEx G0 cdX12_laysSet none (xRn G0 MT d) Q b 104 [some (.inr (.inr 66)), some (.inl 2), some (.inl set), some (.inl (8192 + set)), some (.inl t), some (.inl (xand set (hh 87 t))), v6] [] hh
                have nb : ¬ (prt T p set t ∧ szt T (szf S T (S 0 0) (T 0 0) p 1) set t < stpf T p (szf S T (S 0 0) (T 0 0) p 1) (sz0 S (S 0 0) p set) set t.toNat) := by
                  rintro ⟨y1, y2⟩
                  first
                  | exact y1.2.1 (by rw [← g6]; exact c46)
                  | exact y1.2.2 (by rw [← g6]; exact c49)
                  | (rw [← se, ← hst] at y2; exact c92 y2)
                  | (rcases hb with ⟨z9, -⟩ | ⟨-, z9⟩
                     · exact c54 z9
                     · exact z9 y1.1)
                refine E_s 2 (i' := 32) (ls' := [some (.inr (.inr 66)), some (.inl 2), some (.inl set), some (.inl (8192 + set)), some (.inl (t + 1)), some (.inl (xand set (hh 87 t))), v6]) (sk' := []) (h' := hh) rfl ?_
                exact ih32 _ (t + 1) _ _ (by omega) (by omega) hf hf2 (by rw [stpf_n ht0 nb]; exact hst) (by rw [btf_1 ht0, if_neg nb]; exact hbt) (by omega)
              · rw [c_eq (by first | exact xand_r _ _ | exact ⟨by omega, by omega⟩) (by first | exact xand_r _ _ | exact ⟨by omega, by omega⟩)] at c49
                simp only [decide_eq_true_eq, decide_eq_false_iff_not, Decidable.not_not] at c49
                show xEx G0 cdX12_laysSet none (xRn G0 MT d) Q b 50 [some (.inr (.inr 66)), some (.inl 2), some (.inl set), some (.inl (8192 + set)), some (.inl t), some (.inl (xand set (hh 87 t))), v6] [] hh
                refine E_s 3 (i' := 53) (ls' := [some (.inr (.inr 66)), some (.inl 2), some (.inl set), some (.inl (8192 + set)), some (.inl t), some (.inl (xand set (hh 87 t))), v6]) (sk' := [.inl t, .inr (.inr 104)]) (h' := hh) rfl ?_
                refine E_ld (x := (.baload, 0, [], [])) (ty := .boolean) (n := 150) rfl rfl rfl (by omega) (by omega) ?_
                show xEx G0 cdX12_laysSet none (xRn G0 MT d) Q b 54 [some (.inr (.inr 66)), some (.inl 2), some (.inl set), some (.inl (8192 + set)), some (.inl t), some (.inl (xand set (hh 87 t))), v6] [.inl (hh 104 t)] hh
                refine E_b (x := (.ifCond .eq 6, 56, [], [])) rfl rfl (fun c54 => ?_) (fun c54 => ?_)
                · rw [c_eq (by exact ⟨by omega, by omega⟩) (by exact ⟨by omega, by omega⟩)] at c54
                  simp only [decide_eq_true_eq, decide_eq_false_iff_not, Decidable.not_not] at c54
                  show xEx G0 cdX12_laysSet none (xRn G0 MT d) Q b 56 [some (.inr (.inr 66)), some (.inl 2), some (.inl set), some (.inl (8192 + set)), some (.inl t), some (.inl (xand set (hh 87 t))), v6] [] hh
                  have yl : lk (T 11 t) p := by
                    rcases hb with ⟨-, z9⟩ | ⟨z9, -⟩
                    · exact z9
                    · omega
                  have pt : prt T p set t := ⟨yl, by rw [← g6]; exact c46, by rw [← g6]; exact c49⟩
                  have v1 : hh 101 (4096 + (xand set (hh 87 t))) = (szf S T (S 0 0) (T 0 0) p 1) (xand set (hh 87 t)) := by
                    rw [(hf2 _ (by omega)).1]
                    exact hpv _ i1 c46 (by rw [g6]; exact sub_an o.1 hs o4.2.1)
                  have v2 : hh 101 (4096 + xxor set (xand set (hh 87 t))) = (szf S T (S 0 0) (T 0 0) p 1) (xxor set (xand set (hh 87 t))) := by
                    rw [(hf2 _ (by omega)).1]
                    refine hpv _ i2 ?_ ?_
                    · rw [g6] at c49 ⊢
                      exact els_0 o.1 hs o4.2.1 c49
                    · rw [g6]; exact sub_el o.1 hs o4.2.1
                  have q1 := szf_r (p := p) o 1 (xand set (hh 87 t))
                  have q2 := szf_r (p := p) o 1 (xxor set (xand set (hh 87 t)))
                  have se : 1 + hh 85 t + hh 101 (4096 + (xand set (hh 87 t))) + hh 101 (4096 + xxor set (xand set (hh 87 t))) = szt T (szf S T (S 0 0) (T 0 0) p 1) set t := by
                    unfold szt
                    rw [g4, v1, v2, g6]
                  have st1 : 1 ≤ stpf T p (szf S T (S 0 0) (T 0 0) p 1) (sz0 S (S 0 0) p set) set t.toNat := by
                    refine stpf_lo z0.1 _ (fun t9 z1 z2 hp9 => ?_)
                    have o49 := (o.2.2.2.2 t9 z1 (by omega)).1
                    have x1 := (szf_r (p := p) o 1 (xand set (T 6 t9))).1
                    have x2 := (szf_r (p := p) o 1 (xxor set (xand set (T 6 t9)))).1
                    unfold szt
                    omega
                  refine E_s 4 (i' := 60) (ls' := [some (.inr (.inr 66)), some (.inl 2), some (.inl set), some (.inl (8192 + set)), some (.inl t), some (.inl (xand set (hh 87 t))), v6]) (sk' := [.inl t, .inr (.inr 85), .inl 1]) (h' := hh) rfl ?_
                  refine E_ld (x := (.iaload, 0, [], [])) (ty := .int) (n := 150) rfl rfl rfl (by omega) (by omega) ?_
                  show xEx G0 cdX12_laysSet none (xRn G0 MT d) Q b 61 [some (.inr (.inr 66)), some (.inl 2), some (.inl set), some (.inl (8192 + set)), some (.inl t), some (.inl (xand set (hh 87 t))), v6] [.inl (hh 85 t), .inl 1] hh
                  refine E_s 10 (i' := 71) (ls' := [some (.inr (.inr 66)), some (.inl 2), some (.inl set), some (.inl (8192 + set)), some (.inl t), some (.inl (xand set (hh 87 t))), v6]) (sk' := [.inl (4096 + (xand set (hh 87 t))), .inr (.inr 101), .inl (1 + (hh 85 t))]) (h' := hh) rfl ?_
                  refine E_ld (x := (.iaload, 0, [], [])) (ty := .int) (n := 16384) rfl rfl rfl (by omega) (by omega) ?_
                  show xEx G0 cdX12_laysSet none (xRn G0 MT d) Q b 72 [some (.inr (.inr 66)), some (.inl 2), some (.inl set), some (.inl (8192 + set)), some (.inl t), some (.inl (xand set (hh 87 t))), v6] [.inl (hh 101 (4096 + (xand set (hh 87 t)))), .inl (1 + (hh 85 t))] hh
                  refine E_s 12 (i' := 84) (ls' := [some (.inr (.inr 66)), some (.inl 2), some (.inl set), some (.inl (8192 + set)), some (.inl t), some (.inl (xand set (hh 87 t))), v6]) (sk' := [.inl (4096 + (xxor set (xand set (hh 87 t)))), .inr (.inr 101), .inl ((1 + (hh 85 t)) + (hh 101 (4096 + (xand set (hh 87 t)))))]) (h' := hh) rfl ?_
                  refine E_ld (x := (.iaload, 0, [], [])) (ty := .int) (n := 16384) rfl rfl rfl (by omega) (by omega) ?_
                  show xEx G0 cdX12_laysSet none (xRn G0 MT d) Q b 85 [some (.inr (.inr 66)), some (.inl 2), some (.inl set), some (.inl (8192 + set)), some (.inl t), some (.inl (xand set (hh 87 t))), v6] [.inl (hh 101 (4096 + (xxor set (xand set (hh 87 t))))), .inl ((1 + (hh 85 t)) + (hh 101 (4096 + (xand set (hh 87 t)))))] hh
                  refine E_s 6 (i' := 91) (ls' := [some (.inr (.inr 66)), some (.inl 2), some (.inl set), some (.inl (8192 + set)), some (.inl t), some (.inl (xand set (hh 87 t))), some (.inl (((1 + (hh 85 t)) + (hh 101 (4096 + (xand set (hh 87 t))))) + (hh 101 (4096 + (xxor set (xand set (hh 87 t)))))))]) (sk' := [.inl (8192 + set), .inr (.inr 101), .inl (((1 + (hh 85 t)) + (hh 101 (4096 + (xand set (hh 87 t))))) + (hh 101 (4096 + (xxor set (xand set (hh 87 t))))))]) (h' := hh) rfl ?_
                  refine E_ld (x := (.iaload, 0, [], [])) (ty := .int) (n := 16384) rfl rfl rfl (by omega) (by omega) ?_
                  show xEx G0 cdX12_laysSet none (xRn G0 MT d) Q b 92 [some (.inr (.inr 66)), some (.inl 2), some (.inl set), some (.inl (8192 + set)), some (.inl t), some (.inl (xand set (hh 87 t))), some (.inl (((1 + (hh 85 t)) + (hh 101 (4096 + (xand set (hh 87 t))))) + (hh 101 (4096 + (xxor set (xand set (hh 87 t)))))))] [.inl (hh 101 (8192 + set)), .inl (((1 + (hh 85 t)) + (hh 101 (4096 + (xand set (hh 87 t))))) + (hh 101 (4096 + (xxor set (xand set (hh 87 t))))))] hh
                  refine E_b (x := (.if_icmp .lt 6, 94, [], [])) rfl rfl (fun c92 => ?_) (fun c92 => ?_)
                  · rw [c_lt (by first | (rw [hst]; exact ⟨by omega, by omega⟩) | (rw [v1, v2, g4]; exact ⟨by omega, by omega⟩)) (by first | (rw [hst]; exact ⟨by omega, by omega⟩) | (rw [v1, v2, g4]; exact ⟨by omega, by omega⟩))] at c92
                    simp only [decide_eq_true_eq, decide_eq_false_iff_not, Decidable.not_not] at c92
                    show xEx G0 cdX12_laysSet none (xRn G0 MT d) Q b 94 [some (.inr (.inr 66)), some (.inl 2), some (.inl set), some (.inl (8192 + set)), some (.inl t), some (.inl (xand set (hh 87 t))), some (.inl (((1 + (hh 85 t)) + (hh 101 (4096 + (xand set (hh 87 t))))) + (hh 101 (4096 + (xxor set (xand set (hh 87 t)))))))] [] hh
                    have yb : prt T p set t ∧ szt T (szf S T (S 0 0) (T 0 0) p 1) set t < stpf T p (szf S T (S 0 0) (T 0 0) p 1) (sz0 S (S 0 0) p set) set t.toNat := ⟨pt, by rw [← se, ← hst]; exact c92⟩
                    refine E_s 4 (i' := 98) (ls' := [some (.inr (.inr 66)), some (.inl 2), some (.inl set), some (.inl (8192 + set)), some (.inl t), some (.inl (xand set (hh 87 t))), some (.inl (((1 + (hh 85 t)) + (hh 101 (4096 + (xand set (hh 87 t))))) + (hh 101 (4096 + (xxor set (xand set (hh 87 t)))))))]) (sk' := [.inl (((1 + (hh 85 t)) + (hh 101 (4096 + (xand set (hh 87 t))))) + (hh 101 (4096 + (xxor set (xand set (hh 87 t)))))), .inl (8192 + set), .inr (.inr 101)]) (h' := hh) rfl ?_
                    refine E_sd (x := (.iastore, 0, [], [])) (ty := .int) (n := 16384) (y := (((1 + (hh 85 t)) + (hh 101 (4096 + (xand set (hh 87 t))))) + (hh 101 (4096 + (xxor set (xand set (hh 87 t))))))) rfl rfl rfl (by omega) (by omega) (trivial) ?_
                    show xEx G0 cdX12_laysSet none (xRn G0 MT d) Q b 99 [some (.inr (.inr 66)), some (.inl 2), some (.inl set), some (.inl (8192 + set)), some (.inl t), some (.inl (xand set (hh 87 t))), some (.inl (((1 + (hh 85 t)) + (hh 101 (4096 + (xand set (hh 87 t))))) + (hh 101 (4096 + (xxor set (xand set (hh 87 t)))))))] [] (xup hh 101 (8192 + set) (((1 + (hh 85 t)) + (hh 101 (4096 + (xand set (hh 87 t))))) + (hh 101 (4096 + (xxor set (xand set (hh 87 t)))))))
                    refine E_s 4 (i' := 103) (ls' := [some (.inr (.inr 66)), some (.inl 2), some (.inl set), some (.inl (8192 + set)), some (.inl t), some (.inl (xand set (hh 87 t))), some (.inl (((1 + (hh 85 t)) + (hh 101 (4096 + (xand set (hh 87 t))))) + (hh 101 (4096 + (xxor set (xand set (hh 87 t)))))))]) (sk' := [.inl t, .inl (8192 + set), .inr (.inr 102)]) (h' := (xup hh 101 (8192 + set) (((1 + (hh 85 t)) + (hh 101 (4096 + (xand set (hh 87 t))))) + (hh 101 (4096 + (xxor set (xand set (hh 87 t)))))))) rfl ?_
                    refine E_sd (x := (.iastore, 0, [], [])) (ty := .int) (n := 16384) (y := t) rfl rfl rfl (by omega) (by omega) (trivial) ?_
                    show xEx G0 cdX12_laysSet none (xRn G0 MT d) Q b 104 [some (.inr (.inr 66)), some (.inl 2), some (.inl set), some (.inl (8192 + set)), some (.inl t), some (.inl (xand set (hh 87 t))), some (.inl (((1 + (hh 85 t)) + (hh 101 (4096 + (xand set (hh 87 t))))) + (hh 101 (4096 + (xxor set (xand set (hh 87 t)))))))] [] (xup (xup hh 101 (8192 + set) (((1 + (hh 85 t)) + (hh 101 (4096 + (xand set (hh 87 t))))) + (hh 101 (4096 + (xxor set (xand set (hh 87 t))))))) 102 (8192 + set) t)
                    skip
                    refine E_s 2 (i' := 32) (ls' := [some (.inr (.inr 66)), some (.inl 2), some (.inl set), some (.inl (8192 + set)), some (.inl (t + 1)), some (.inl (xand set (hh 87 t))), some (.inl (((1 + (hh 85 t)) + (hh 101 (4096 + (xand set (hh 87 t))))) + (hh 101 (4096 + (xxor set (xand set (hh 87 t)))))))]) (sk' := []) (h' := (xup (xup hh 101 (8192 + set) (((1 + (hh 85 t)) + (hh 101 (4096 + (xand set (hh 87 t))))) + (hh 101 (4096 + (xxor set (xand set (hh 87 t))))))) 102 (8192 + set) t)) rfl ?_
                    exact ih32 _ (t + 1) _ _ (by omega) (by omega) (fun a z1 z2 => by rw [xup_o _ _ _ _ a z2, xup_o _ _ _ _ a z1]; exact hf a z1 z2) (fun j z => by rw [xup_o _ _ _ _ _ (by decide), xup_j z, xup_j z, xup_o _ _ _ _ _ (by decide)]; exact hf2 j z) (by rw [xup_o _ _ _ _ _ (by decide), xup_s, stpf_y ht0 yb]; exact se) (by rw [xup_s, btf_1 ht0, if_pos yb]) (by omega)
                  · rw [c_lt (by first | (rw [hst]; exact ⟨by omega, by omega⟩) | (rw [v1, v2, g4]; exact ⟨by omega, by omega⟩)) (by first | (rw [hst]; exact ⟨by omega, by omega⟩) | (rw [v1, v2, g4]; exact ⟨by omega, by omega⟩))] at c92
                    simp only [decide_eq_true_eq, decide_eq_false_iff_not, Decidable.not_not] at c92
                    show xEx G0 cdX12_laysSet none (xRn G0 MT d) Q b 93 [some (.inr (.inr 66)), some (.inl 2), some (.inl set), some (.inl (8192 + set)), some (.inl t), some (.inl (xand set (hh 87 t))), some (.inl (((1 + (hh 85 t)) + (hh 101 (4096 + (xand set (hh 87 t))))) + (hh 101 (4096 + (xxor set (xand set (hh 87 t)))))))] [] hh
                    refine E_s 1 (i' := 104) (ls' := [some (.inr (.inr 66)), some (.inl 2), some (.inl set), some (.inl (8192 + set)), some (.inl t), some (.inl (xand set (hh 87 t))), some (.inl (((1 + (hh 85 t)) + (hh 101 (4096 + (xand set (hh 87 t))))) + (hh 101 (4096 + (xxor set (xand set (hh 87 t)))))))]) (sk' := []) (h' := hh) rfl ?_
                    have nb : ¬ (prt T p set t ∧ szt T (szf S T (S 0 0) (T 0 0) p 1) set t < stpf T p (szf S T (S 0 0) (T 0 0) p 1) (sz0 S (S 0 0) p set) set t.toNat) := by
                      rintro ⟨y1, y2⟩
                      first
                      | exact y1.2.1 (by rw [← g6]; exact c46)
                      | exact y1.2.2 (by rw [← g6]; exact c49)
                      | (rw [← se, ← hst] at y2; exact c92 y2)
                      | (rcases hb with ⟨z9, -⟩ | ⟨-, z9⟩
                         · exact c54 z9
                         · exact z9 y1.1)
                    refine E_s 2 (i' := 32) (ls' := [some (.inr (.inr 66)), some (.inl 2), some (.inl set), some (.inl (8192 + set)), some (.inl (t + 1)), some (.inl (xand set (hh 87 t))), some (.inl (((1 + (hh 85 t)) + (hh 101 (4096 + (xand set (hh 87 t))))) + (hh 101 (4096 + (xxor set (xand set (hh 87 t)))))))]) (sk' := []) (h' := hh) rfl ?_
                    exact ih32 _ (t + 1) _ _ (by omega) (by omega) hf hf2 (by rw [stpf_n ht0 nb]; exact hst) (by rw [btf_1 ht0, if_neg nb]; exact hbt) (by omega)
                · rw [c_eq (by exact ⟨by omega, by omega⟩) (by exact ⟨by omega, by omega⟩)] at c54
                  simp only [decide_eq_true_eq, decide_eq_false_iff_not, Decidable.not_not] at c54
                  show xEx G0 cdX12_laysSet none (xRn G0 MT d) Q b 55 [some (.inr (.inr 66)), some (.inl 2), some (.inl set), some (.inl (8192 + set)), some (.inl t), some (.inl (xand set (hh 87 t))), v6] [] hh
                  refine E_s 1 (i' := 104) (ls' := [some (.inr (.inr 66)), some (.inl 2), some (.inl set), some (.inl (8192 + set)), some (.inl t), some (.inl (xand set (hh 87 t))), v6]) (sk' := []) (h' := hh) rfl ?_
                  have nb : ¬ (prt T p set t ∧ szt T (szf S T (S 0 0) (T 0 0) p 1) set t < stpf T p (szf S T (S 0 0) (T 0 0) p 1) (sz0 S (S 0 0) p set) set t.toNat) := by
                    rintro ⟨y1, y2⟩
                    first
                    | exact y1.2.1 (by rw [← g6]; exact c46)
                    | exact y1.2.2 (by rw [← g6]; exact c49)
                    | (rw [← se, ← hst] at y2; exact c92 y2)
                    | (rcases hb with ⟨z9, -⟩ | ⟨-, z9⟩
                       · exact c54 z9
                       · exact z9 y1.1)
                  refine E_s 2 (i' := 32) (ls' := [some (.inr (.inr 66)), some (.inl 2), some (.inl set), some (.inl (8192 + set)), some (.inl (t + 1)), some (.inl (xand set (hh 87 t))), v6]) (sk' := []) (h' := hh) rfl ?_
                  exact ih32 _ (t + 1) _ _ (by omega) (by omega) hf hf2 (by rw [stpf_n ht0 nb]; exact hst) (by rw [btf_1 ht0, if_neg nb]; exact hbt) (by omega)
    exact key32 _ _ 0 none none (by omega) (by omega) (fun a z1 z2 => by rw [xup_o _ _ _ _ a z2, xup_o _ _ _ _ a z1]) (fun j z => by rw [xup_o _ _ _ _ _ (by decide), xup_j z, xup_j z, xup_o _ _ _ _ _ (by decide)]; exact ⟨rfl, rfl⟩) (by rw [xup_o _ _ _ _ _ (by decide), xup_s]; exact sz1.symm) (by rw [xup_s]; rfl) (Nat.lt_succ_self _)
set_option maxHeartbeats 1000000 in
theorem m_lSet3 (d b : Nat) (h S T : xH) (p set : Int) (m : Nat) (o : OKS S T (S 0 0) (T 0 0) m) (hA : RA h S T) (hB : RB h S T p) (hs : ir m set) (hs1 : set ≠ 0) (hl : h 100 set = lf S (S 0 0) p set) (hpv : ∀ a, ir m a → a ≠ 0 → sub a set → h 101 (8192 + a) = (szf S T (S 0 0) (T 0 0) p 2) a)  {Q : xO → xH → Prop} (hQ : ∀ h', (∀ a, a ≠ 101 → a ≠ 102 → h' a = h a) → (∀ j, j ≠ (12288 + set) → h' 101 j = h 101 j ∧ h' 102 j = h 102 j) → h' 101 (12288 + set) = szf S T (S 0 0) (T 0 0) p 3 set → h' 102 (12288 + set) = bti S T (S 0 0) (T 0 0) p 3 set → Q (.inl none) h') : xRn G0 MT (d + 1) b 227 [.inr (.inr 66), .inl 3, .inl set] h Q := by
  refine R_of (M := mX12_laysSet) rfl (Nat.le_of_ble_eq_true rfl) ?_
  show xEx G0 cdX12_laysSet none (xRn G0 MT d) Q b 0 [some (.inr (.inr 66)), some (.inl 3), some (.inl set), none, none, none, none] [] h
  have r4 := ir4 o.1 hs
  have ok := o.2.1
  have ot := o.2.2.1
  have lsp := lf_spec S (S 0 0) p set
  have lr : -1 ≤ lf S (S 0 0) p set ∧ lf S (S 0 0) p set < S 0 0 := by
    rcases lsp with ⟨a, -⟩ | ⟨a, b, -⟩ <;> omega
  have z0 := sz0_r (p := p) o set
  have e19 : h 66 19 = T 0 0 := hA.2.1
  refine E_s 12 (i' := 12) (ls' := [some (.inr (.inr 66)), some (.inl 3), some (.inl set), some (.inl (12288 + set)), none, none, none]) (sk' := [.inl set, .inr (.inr 100), .inl (12288 + set), .inr (.inr 101)]) (h' := h) rfl ?_
  refine E_ld (x := (.iaload, 0, [], [])) (ty := .int) (n := 4096) rfl rfl rfl (by omega) (by omega) ?_
  show xEx G0 cdX12_laysSet none (xRn G0 MT d) Q b 13 [some (.inr (.inr 66)), some (.inl 3), some (.inl set), some (.inl (12288 + set)), none, none, none] [.inl (h 100 set), .inl (12288 + set), .inr (.inr 101)] h
  refine E_s 1 (i' := 14) (ls' := [some (.inr (.inr 66)), some (.inl 3), some (.inl set), some (.inl (12288 + set)), none, none, none]) (sk' := [.inl (-1), .inl (h 100 set), .inl (12288 + set), .inr (.inr 101)]) (h' := h) rfl ?_
  refine E_b (x := (.if_icmp .ne 9, 17, [], [])) rfl rfl (fun c14 => ?_) (fun c14 => ?_)
  · rw [c_ne (by first | assumption | (refine ⟨?_, ?_⟩ <;> omega) | (simp only [xr] at *; omega)) (by first | assumption | (refine ⟨?_, ?_⟩ <;> omega) | (simp only [xr] at *; omega))] at c14
    simp only [decide_eq_true_eq, decide_eq_false_iff_not, Decidable.not_not] at c14
    show xEx G0 cdX12_laysSet none (xRn G0 MT d) Q b 17 [some (.inr (.inr 66)), some (.inl 3), some (.inl set), some (.inl (12288 + set)), none, none, none] [.inl (12288 + set), .inr (.inr 101)] h
    have lm2 : ¬ lf S (S 0 0) p set = -1 := by rw [← hl]; exact c14
    have sz1 : (sz0 S (S 0 0) p set) = h 75 (h 100 set) := by
      unfold sz0
      rw [if_neg lm2, hl, (hA.2.2.1 _ (by omega) (by omega)).1]
    refine E_s 5 (i' := 22) (ls' := [some (.inr (.inr 66)), some (.inl 3), some (.inl set), some (.inl (12288 + set)), none, none, none]) (sk' := [.inl set, .inr (.inr 100), .inr (.inr 75), .inl (12288 + set), .inr (.inr 101)]) (h' := h) rfl ?_
    refine E_ld (x := (.iaload, 0, [], [])) (ty := .int) (n := 4096) rfl rfl rfl (by omega) (by omega) ?_
    show xEx G0 cdX12_laysSet none (xRn G0 MT d) Q b 23 [some (.inr (.inr 66)), some (.inl 3), some (.inl set), some (.inl (12288 + set)), none, none, none] [.inl (h 100 set), .inr (.inr 75), .inl (12288 + set), .inr (.inr 101)] h
    refine E_ld (x := (.iaload, 0, [], [])) (ty := .int) (n := 300) rfl rfl rfl (by omega) (by omega) ?_
    show xEx G0 cdX12_laysSet none (xRn G0 MT d) Q b 24 [some (.inr (.inr 66)), some (.inl 3), some (.inl set), some (.inl (12288 + set)), none, none, none] [.inl (h 75 (h 100 set)), .inl (12288 + set), .inr (.inr 101)] h
    refine E_sd (x := (.iastore, 0, [], [])) (ty := .int) (n := 16384) (y := (h 75 (h 100 set))) rfl rfl rfl (by omega) (by omega) (trivial) ?_
    show xEx G0 cdX12_laysSet none (xRn G0 MT d) Q b 25 [some (.inr (.inr 66)), some (.inl 3), some (.inl set), some (.inl (12288 + set)), none, none, none] [] (xup h 101 (12288 + set) (h 75 (h 100 set)))
    refine E_s 4 (i' := 29) (ls' := [some (.inr (.inr 66)), some (.inl 3), some (.inl set), some (.inl (12288 + set)), none, none, none]) (sk' := [.inl (-1), .inl (12288 + set), .inr (.inr 102)]) (h' := (xup h 101 (12288 + set) (h 75 (h 100 set)))) rfl ?_
    refine E_sd (x := (.iastore, 0, [], [])) (ty := .int) (n := 16384) (y := (-1)) rfl rfl rfl (by omega) (by omega) (trivial) ?_
    show xEx G0 cdX12_laysSet none (xRn G0 MT d) Q b 30 [some (.inr (.inr 66)), some (.inl 3), some (.inl set), some (.inl (12288 + set)), none, none, none] [] (xup (xup h 101 (12288 + set) (h 75 (h 100 set))) 102 (12288 + set) (-1))
    refine E_s 2 (i' := 32) (ls' := [some (.inr (.inr 66)), some (.inl 3), some (.inl set), some (.inl (12288 + set)), some (.inl 0), none, none]) (sk' := []) (h' := (xup (xup h 101 (12288 + set) (h 75 (h 100 set))) 102 (12288 + set) (-1))) rfl ?_
    have key32 : ∀ (n : Nat) (hh : xH) (t : Int) (v5 v6 : Option xV), (0 ≤ t) → (t ≤ T 0 0) → (∀ a, a ≠ 101 → a ≠ 102 → hh a = h a) → (∀ j, j ≠ (12288 + set) → hh 101 j = h 101 j ∧ hh 102 j = h 102 j) → (hh 101 (12288 + set) = stpf T p (szf S T (S 0 0) (T 0 0) p 2) (sz0 S (S 0 0) p set) set t.toNat) → (hh 102 (12288 + set) = btf T p (szf S T (S 0 0) (T 0 0) p 2) (sz0 S (S 0 0) p set) set t.toNat) → ((T 0 0 - t).toNat) < n → xEx G0 cdX12_laysSet none (xRn G0 MT d) Q b 32 [some (.inr (.inr 66)), some (.inl 3), some (.inl set), some (.inl (12288 + set)), some (.inl t), v5, v6] [] hh := by
      intro n
      induction n with
      | zero => intro hh t v5 v6 _ _ _ _ _ _ hm; exact absurd hm (Nat.not_lt_zero _)
      | succ n ih32 =>
        intro hh t v5 v6 ht0 ht9 hf hf2 hst hbt hm32
        have f19 : hh 66 19 = T 0 0 := by rw [hf _ (by decide) (by decide)]; exact e19
        refine E_s 3 (i' := 35) (ls' := [some (.inr (.inr 66)), some (.inl 3), some (.inl set), some (.inl (12288 + set)), some (.inl t), v5, v6]) (sk' := [.inl (hh 66 19), .inl t]) (h' := hh) rfl ?_
        refine E_b (x := (.if_icmp .ge 123, 106, [], [])) rfl rfl (fun c35 => ?_) (fun c35 => ?_)
        · rw [c_ge (by first | assumption | (refine ⟨?_, ?_⟩ <;> omega) | (simp only [xr] at *; omega)) (by first | assumption | (refine ⟨?_, ?_⟩ <;> omega) | (simp only [xr] at *; omega))] at c35
          simp only [decide_eq_true_eq, decide_eq_false_iff_not, Decidable.not_not] at c35
          show xEx G0 cdX12_laysSet none (xRn G0 MT d) Q b 106 [some (.inr (.inr 66)), some (.inl 3), some (.inl set), some (.inl (12288 + set)), some (.inl t), v5, v6] [] hh
          have et : t = T 0 0 := by omega
          rw [et] at hst hbt
          exact E_ret (x := (.return_, 0, [], [])) (v := none) rfl (trivial) (hQ _ hf hf2 hst hbt)
        · rw [c_ge (by first | assumption | (refine ⟨?_, ?_⟩ <;> omega) | (simp only [xr] at *; omega)) (by first | assumption | (refine ⟨?_, ?_⟩ <;> omega) | (simp only [xr] at *; omega))] at c35
          simp only [decide_eq_true_eq, decide_eq_false_iff_not, Decidable.not_not] at c35
          show xEx G0 cdX12_laysSet none (xRn G0 MT d) Q b 36 [some (.inr (.inr 66)), some (.inl 3), some (.inl set), some (.inl (12288 + set)), some (.inl t), v5, v6] [] hh
          refine E_s 1 (i' := 37) (ls' := [some (.inr (.inr 66)), some (.inl 3), some (.inl set), some (.inl (12288 + set)), some (.inl t), v5, v6]) (sk' := [.inl 3]) (h' := hh) rfl ?_
          refine E_b (x := (.ifCond .le 119, 106, [], [])) rfl rfl (fun c37 => ?_) (fun c37 => ?_)
          · show xEx G0 cdX12_laysSet none (xRn G0 MT d) Q b 106 [some (.inr (.inr 66)), some (.inl 3), some (.inl set), some (.inl (12288 + set)), some (.inl t), v5, v6] [] hh
            exact absurd c37 (by decide)
          · show xEx G0 cdX12_laysSet none (xRn G0 MT d) Q b 38 [some (.inr (.inr 66)), some (.inl 3), some (.inl set), some (.inl (12288 + set)), some (.inl t), v5, v6] [] hh
            have ht1 : t < T 0 0 := by omega
            have g6 : hh 87 t = T 6 t := by rw [hf _ (by decide) (by decide)]; exact (hA.2.2.2 t ht0 ht1).2
            have g4 : hh 85 t = T 4 t := by rw [hf _ (by decide) (by decide)]; exact (hA.2.2.2 t ht0 ht1).1
            have o4 := o.2.2.2.2 t ht0 ht1
            have hb : (hh 104 t = 0 ∧ lk (T 11 t) p) ∨ (hh 104 t = 1 ∧ ¬ lk (T 11 t) p) := by rw [hf _ (by decide) (by decide)]; exact hB.2 t ht0 ht1
            have rb : hh 104 t = 0 ∨ hh 104 t = 1 := by
              rcases hb with ⟨z9, -⟩ | ⟨z9, -⟩
              · exact Or.inl z9
              · exact Or.inr z9
            have i1 : ir m (xand set (hh 87 t)) := by rw [g6]; exact xa_r o.1 hs o4.2.1
            have i2 : ir m (xxor set (xand set (hh 87 t))) := xx_r o.1 hs i1
            have r41 := ir4 o.1 i1
            have r42 := ir4 o.1 i2
            have bl : stpf T p (szf S T (S 0 0) (T 0 0) p 2) (sz0 S (S 0 0) p set) set t.toNat ≤ (sz0 S (S 0 0) p set) := stpf_le _
            refine E_s 4 (i' := 42) (ls' := [some (.inr (.inr 66)), some (.inl 3), some (.inl set), some (.inl (12288 + set)), some (.inl t), v5, v6]) (sk' := [.inl t, .inr (.inr 87), .inl set]) (h' := hh) rfl ?_
            refine E_ld (x := (.iaload, 0, [], [])) (ty := .int) (n := 150) rfl rfl rfl (by omega) (by omega) ?_
            show xEx G0 cdX12_laysSet none (xRn G0 MT d) Q b 43 [some (.inr (.inr 66)), some (.inl 3), some (.inl set), some (.inl (12288 + set)), some (.inl t), v5, v6] [.inl (hh 87 t), .inl set] hh
            refine E_s 3 (i' := 46) (ls' := [some (.inr (.inr 66)), some (.inl 3), some (.inl set), some (.inl (12288 + set)), some (.inl t), some (.inl (xand set (hh 87 t))), v6]) (sk' := [.inl (xand set (hh 87 t))]) (h' := hh) rfl ?_
            refine E_b (x := (.ifCond .eq 97, 104, [], [])) rfl rfl (fun c46 => ?_) (fun c46 => ?_)
            · rw [c_eq (by first | exact xand_r _ _ | exact ⟨by omega, by omega⟩) (by first | exact xand_r _ _ | exact ⟨by omega, by omega⟩)] at c46
              simp only [decide_eq_true_eq, decide_eq_false_iff_not, Decidable.not_not] at c46
              show xEx G0 cdX12_laysSet none (xRn G0 MT d) Q b 104 [some (.inr (.inr 66)), some (.inl 3), some (.inl set), some (.inl (12288 + set)), some (.inl t), some (.inl (xand set (hh 87 t))), v6] [] hh
              have nb : ¬ (prt T p set t ∧ szt T (szf S T (S 0 0) (T 0 0) p 2) set t < stpf T p (szf S T (S 0 0) (T 0 0) p 2) (sz0 S (S 0 0) p set) set t.toNat) := by
                rintro ⟨y1, y2⟩
                first
                | exact y1.2.1 (by rw [← g6]; exact c46)
                | exact y1.2.2 (by rw [← g6]; exact c49)
                | (rw [← se, ← hst] at y2; exact c92 y2)
                | (rcases hb with ⟨z9, -⟩ | ⟨-, z9⟩
                   · exact c54 z9
                   · exact z9 y1.1)
              refine E_s 2 (i' := 32) (ls' := [some (.inr (.inr 66)), some (.inl 3), some (.inl set), some (.inl (12288 + set)), some (.inl (t + 1)), some (.inl (xand set (hh 87 t))), v6]) (sk' := []) (h' := hh) rfl ?_
              exact ih32 _ (t + 1) _ _ (by omega) (by omega) hf hf2 (by rw [stpf_n ht0 nb]; exact hst) (by rw [btf_1 ht0, if_neg nb]; exact hbt) (by omega)
            · rw [c_eq (by first | exact xand_r _ _ | exact ⟨by omega, by omega⟩) (by first | exact xand_r _ _ | exact ⟨by omega, by omega⟩)] at c46
              simp only [decide_eq_true_eq, decide_eq_false_iff_not, Decidable.not_not] at c46
              show xEx G0 cdX12_laysSet none (xRn G0 MT d) Q b 47 [some (.inr (.inr 66)), some (.inl 3), some (.inl set), some (.inl (12288 + set)), some (.inl t), some (.inl (xand set (hh 87 t))), v6] [] hh
              refine E_s 2 (i' := 49) (ls' := [some (.inr (.inr 66)), some (.inl 3), some (.inl set), some (.inl (12288 + set)), some (.inl t), some (.inl (xand set (hh 87 t))), v6]) (sk' := [.inl set, .inl (xand set (hh 87 t))]) (h' := hh) rfl ?_
              refine E_b (x := (.if_icmp .eq 91, 104, [], [])) rfl rfl (fun c49 => ?_) (fun c49 => ?_)
              · rw [c_eq (by first | exact xand_r _ _ | exact ⟨by omega, by omega⟩) (by first | exact xand_r _ _ | exact ⟨by omega, by omega⟩)] at c49
                simp only [decide_eq_true_eq, decide_eq_false_iff_not, Decidable.not_not] at c49
                show xEx G0 cdX12_laysSet none (xRn G0 MT d) Q b 104 [some (.inr (.inr 66)), some (.inl 3), some (.inl set), some (.inl (12288 + set)), some (.inl t), some (.inl (xand set (hh 87 t))), v6] [] hh
                have nb : ¬ (prt T p set t ∧ szt T (szf S T (S 0 0) (T 0 0) p 2) set t < stpf T p (szf S T (S 0 0) (T 0 0) p 2) (sz0 S (S 0 0) p set) set t.toNat) := by
                  rintro ⟨y1, y2⟩
                  first
                  | exact y1.2.1 (by rw [← g6]; exact c46)
                  | exact y1.2.2 (by rw [← g6]; exact c49)
                  | (rw [← se, ← hst] at y2; exact c92 y2)
                  | (rcases hb with ⟨z9, -⟩ | ⟨-, z9⟩
                     · exact c54 z9
                     · exact z9 y1.1)
                refine E_s 2 (i' := 32) (ls' := [some (.inr (.inr 66)), some (.inl 3), some (.inl set), some (.inl (12288 + set)), some (.inl (t + 1)), some (.inl (xand set (hh 87 t))), v6]) (sk' := []) (h' := hh) rfl ?_
                exact ih32 _ (t + 1) _ _ (by omega) (by omega) hf hf2 (by rw [stpf_n ht0 nb]; exact hst) (by rw [btf_1 ht0, if_neg nb]; exact hbt) (by omega)
              · rw [c_eq (by first | exact xand_r _ _ | exact ⟨by omega, by omega⟩) (by first | exact xand_r _ _ | exact ⟨by omega, by omega⟩)] at c49
                simp only [decide_eq_true_eq, decide_eq_false_iff_not, Decidable.not_not] at c49
                show xEx G0 cdX12_laysSet none (xRn G0 MT d) Q b 50 [some (.inr (.inr 66)), some (.inl 3), some (.inl set), some (.inl (12288 + set)), some (.inl t), some (.inl (xand set (hh 87 t))), v6] [] hh
                refine E_s 3 (i' := 53) (ls' := [some (.inr (.inr 66)), some (.inl 3), some (.inl set), some (.inl (12288 + set)), some (.inl t), some (.inl (xand set (hh 87 t))), v6]) (sk' := [.inl t, .inr (.inr 104)]) (h' := hh) rfl ?_
                refine E_ld (x := (.baload, 0, [], [])) (ty := .boolean) (n := 150) rfl rfl rfl (by omega) (by omega) ?_
                show xEx G0 cdX12_laysSet none (xRn G0 MT d) Q b 54 [some (.inr (.inr 66)), some (.inl 3), some (.inl set), some (.inl (12288 + set)), some (.inl t), some (.inl (xand set (hh 87 t))), v6] [.inl (hh 104 t)] hh
                refine E_b (x := (.ifCond .eq 6, 56, [], [])) rfl rfl (fun c54 => ?_) (fun c54 => ?_)
                · rw [c_eq (by exact ⟨by omega, by omega⟩) (by exact ⟨by omega, by omega⟩)] at c54
                  simp only [decide_eq_true_eq, decide_eq_false_iff_not, Decidable.not_not] at c54
                  show xEx G0 cdX12_laysSet none (xRn G0 MT d) Q b 56 [some (.inr (.inr 66)), some (.inl 3), some (.inl set), some (.inl (12288 + set)), some (.inl t), some (.inl (xand set (hh 87 t))), v6] [] hh
                  have yl : lk (T 11 t) p := by
                    rcases hb with ⟨-, z9⟩ | ⟨z9, -⟩
                    · exact z9
                    · omega
                  have pt : prt T p set t := ⟨yl, by rw [← g6]; exact c46, by rw [← g6]; exact c49⟩
                  have v1 : hh 101 (8192 + (xand set (hh 87 t))) = (szf S T (S 0 0) (T 0 0) p 2) (xand set (hh 87 t)) := by
                    rw [(hf2 _ (by omega)).1]
                    exact hpv _ i1 c46 (by rw [g6]; exact sub_an o.1 hs o4.2.1)
                  have v2 : hh 101 (8192 + xxor set (xand set (hh 87 t))) = (szf S T (S 0 0) (T 0 0) p 2) (xxor set (xand set (hh 87 t))) := by
                    rw [(hf2 _ (by omega)).1]
                    refine hpv _ i2 ?_ ?_
                    · rw [g6] at c49 ⊢
                      exact els_0 o.1 hs o4.2.1 c49
                    · rw [g6]; exact sub_el o.1 hs o4.2.1
                  have q1 := szf_r (p := p) o 2 (xand set (hh 87 t))
                  have q2 := szf_r (p := p) o 2 (xxor set (xand set (hh 87 t)))
                  have se : 1 + hh 85 t + hh 101 (8192 + (xand set (hh 87 t))) + hh 101 (8192 + xxor set (xand set (hh 87 t))) = szt T (szf S T (S 0 0) (T 0 0) p 2) set t := by
                    unfold szt
                    rw [g4, v1, v2, g6]
                  have st1 : 1 ≤ stpf T p (szf S T (S 0 0) (T 0 0) p 2) (sz0 S (S 0 0) p set) set t.toNat := by
                    refine stpf_lo z0.1 _ (fun t9 z1 z2 hp9 => ?_)
                    have o49 := (o.2.2.2.2 t9 z1 (by omega)).1
                    have x1 := (szf_r (p := p) o 2 (xand set (T 6 t9))).1
                    have x2 := (szf_r (p := p) o 2 (xxor set (xand set (T 6 t9)))).1
                    unfold szt
                    omega
                  refine E_s 4 (i' := 60) (ls' := [some (.inr (.inr 66)), some (.inl 3), some (.inl set), some (.inl (12288 + set)), some (.inl t), some (.inl (xand set (hh 87 t))), v6]) (sk' := [.inl t, .inr (.inr 85), .inl 1]) (h' := hh) rfl ?_
                  refine E_ld (x := (.iaload, 0, [], [])) (ty := .int) (n := 150) rfl rfl rfl (by omega) (by omega) ?_
                  show xEx G0 cdX12_laysSet none (xRn G0 MT d) Q b 61 [some (.inr (.inr 66)), some (.inl 3), some (.inl set), some (.inl (12288 + set)), some (.inl t), some (.inl (xand set (hh 87 t))), v6] [.inl (hh 85 t), .inl 1] hh
                  refine E_s 10 (i' := 71) (ls' := [some (.inr (.inr 66)), some (.inl 3), some (.inl set), some (.inl (12288 + set)), some (.inl t), some (.inl (xand set (hh 87 t))), v6]) (sk' := [.inl (8192 + (xand set (hh 87 t))), .inr (.inr 101), .inl (1 + (hh 85 t))]) (h' := hh) rfl ?_
                  refine E_ld (x := (.iaload, 0, [], [])) (ty := .int) (n := 16384) rfl rfl rfl (by omega) (by omega) ?_
                  show xEx G0 cdX12_laysSet none (xRn G0 MT d) Q b 72 [some (.inr (.inr 66)), some (.inl 3), some (.inl set), some (.inl (12288 + set)), some (.inl t), some (.inl (xand set (hh 87 t))), v6] [.inl (hh 101 (8192 + (xand set (hh 87 t)))), .inl (1 + (hh 85 t))] hh
                  refine E_s 12 (i' := 84) (ls' := [some (.inr (.inr 66)), some (.inl 3), some (.inl set), some (.inl (12288 + set)), some (.inl t), some (.inl (xand set (hh 87 t))), v6]) (sk' := [.inl (8192 + (xxor set (xand set (hh 87 t)))), .inr (.inr 101), .inl ((1 + (hh 85 t)) + (hh 101 (8192 + (xand set (hh 87 t)))))]) (h' := hh) rfl ?_
                  refine E_ld (x := (.iaload, 0, [], [])) (ty := .int) (n := 16384) rfl rfl rfl (by omega) (by omega) ?_
                  show xEx G0 cdX12_laysSet none (xRn G0 MT d) Q b 85 [some (.inr (.inr 66)), some (.inl 3), some (.inl set), some (.inl (12288 + set)), some (.inl t), some (.inl (xand set (hh 87 t))), v6] [.inl (hh 101 (8192 + (xxor set (xand set (hh 87 t))))), .inl ((1 + (hh 85 t)) + (hh 101 (8192 + (xand set (hh 87 t)))))] hh
                  refine E_s 6 (i' := 91) (ls' := [some (.inr (.inr 66)), some (.inl 3), some (.inl set), some (.inl (12288 + set)), some (.inl t), some (.inl (xand set (hh 87 t))), some (.inl (((1 + (hh 85 t)) + (hh 101 (8192 + (xand set (hh 87 t))))) + (hh 101 (8192 + (xxor set (xand set (hh 87 t)))))))]) (sk' := [.inl (12288 + set), .inr (.inr 101), .inl (((1 + (hh 85 t)) + (hh 101 (8192 + (xand set (hh 87 t))))) + (hh 101 (8192 + (xxor set (xand set (hh 87 t))))))]) (h' := hh) rfl ?_
                  refine E_ld (x := (.iaload, 0, [], [])) (ty := .int) (n := 16384) rfl rfl rfl (by omega) (by omega) ?_
                  show xEx G0 cdX12_laysSet none (xRn G0 MT d) Q b 92 [some (.inr (.inr 66)), some (.inl 3), some (.inl set), some (.inl (12288 + set)), some (.inl t), some (.inl (xand set (hh 87 t))), some (.inl (((1 + (hh 85 t)) + (hh 101 (8192 + (xand set (hh 87 t))))) + (hh 101 (8192 + (xxor set (xand set (hh 87 t)))))))] [.inl (hh 101 (12288 + set)), .inl (((1 + (hh 85 t)) + (hh 101 (8192 + (xand set (hh 87 t))))) + (hh 101 (8192 + (xxor set (xand set (hh 87 t))))))] hh
                  refine E_b (x := (.if_icmp .lt 6, 94, [], [])) rfl rfl (fun c92 => ?_) (fun c92 => ?_)
                  · rw [c_lt (by first | (rw [hst]; exact ⟨by omega, by omega⟩) | (rw [v1, v2, g4]; exact ⟨by omega, by omega⟩)) (by first | (rw [hst]; exact ⟨by omega, by omega⟩) | (rw [v1, v2, g4]; exact ⟨by omega, by omega⟩))] at c92
                    simp only [decide_eq_true_eq, decide_eq_false_iff_not, Decidable.not_not] at c92
                    show xEx G0 cdX12_laysSet none (xRn G0 MT d) Q b 94 [some (.inr (.inr 66)), some (.inl 3), some (.inl set), some (.inl (12288 + set)), some (.inl t), some (.inl (xand set (hh 87 t))), some (.inl (((1 + (hh 85 t)) + (hh 101 (8192 + (xand set (hh 87 t))))) + (hh 101 (8192 + (xxor set (xand set (hh 87 t)))))))] [] hh
                    have yb : prt T p set t ∧ szt T (szf S T (S 0 0) (T 0 0) p 2) set t < stpf T p (szf S T (S 0 0) (T 0 0) p 2) (sz0 S (S 0 0) p set) set t.toNat := ⟨pt, by rw [← se, ← hst]; exact c92⟩
                    refine E_s 4 (i' := 98) (ls' := [some (.inr (.inr 66)), some (.inl 3), some (.inl set), some (.inl (12288 + set)), some (.inl t), some (.inl (xand set (hh 87 t))), some (.inl (((1 + (hh 85 t)) + (hh 101 (8192 + (xand set (hh 87 t))))) + (hh 101 (8192 + (xxor set (xand set (hh 87 t)))))))]) (sk' := [.inl (((1 + (hh 85 t)) + (hh 101 (8192 + (xand set (hh 87 t))))) + (hh 101 (8192 + (xxor set (xand set (hh 87 t)))))), .inl (12288 + set), .inr (.inr 101)]) (h' := hh) rfl ?_
                    refine E_sd (x := (.iastore, 0, [], [])) (ty := .int) (n := 16384) (y := (((1 + (hh 85 t)) + (hh 101 (8192 + (xand set (hh 87 t))))) + (hh 101 (8192 + (xxor set (xand set (hh 87 t))))))) rfl rfl rfl (by omega) (by omega) (trivial) ?_
                    show xEx G0 cdX12_laysSet none (xRn G0 MT d) Q b 99 [some (.inr (.inr 66)), some (.inl 3), some (.inl set), some (.inl (12288 + set)), some (.inl t), some (.inl (xand set (hh 87 t))), some (.inl (((1 + (hh 85 t)) + (hh 101 (8192 + (xand set (hh 87 t))))) + (hh 101 (8192 + (xxor set (xand set (hh 87 t)))))))] [] (xup hh 101 (12288 + set) (((1 + (hh 85 t)) + (hh 101 (8192 + (xand set (hh 87 t))))) + (hh 101 (8192 + (xxor set (xand set (hh 87 t)))))))
                    refine E_s 4 (i' := 103) (ls' := [some (.inr (.inr 66)), some (.inl 3), some (.inl set), some (.inl (12288 + set)), some (.inl t), some (.inl (xand set (hh 87 t))), some (.inl (((1 + (hh 85 t)) + (hh 101 (8192 + (xand set (hh 87 t))))) + (hh 101 (8192 + (xxor set (xand set (hh 87 t)))))))]) (sk' := [.inl t, .inl (12288 + set), .inr (.inr 102)]) (h' := (xup hh 101 (12288 + set) (((1 + (hh 85 t)) + (hh 101 (8192 + (xand set (hh 87 t))))) + (hh 101 (8192 + (xxor set (xand set (hh 87 t)))))))) rfl ?_
                    refine E_sd (x := (.iastore, 0, [], [])) (ty := .int) (n := 16384) (y := t) rfl rfl rfl (by omega) (by omega) (trivial) ?_
                    show xEx G0 cdX12_laysSet none (xRn G0 MT d) Q b 104 [some (.inr (.inr 66)), some (.inl 3), some (.inl set), some (.inl (12288 + set)), some (.inl t), some (.inl (xand set (hh 87 t))), some (.inl (((1 + (hh 85 t)) + (hh 101 (8192 + (xand set (hh 87 t))))) + (hh 101 (8192 + (xxor set (xand set (hh 87 t)))))))] [] (xup (xup hh 101 (12288 + set) (((1 + (hh 85 t)) + (hh 101 (8192 + (xand set (hh 87 t))))) + (hh 101 (8192 + (xxor set (xand set (hh 87 t))))))) 102 (12288 + set) t)
                    skip
                    refine E_s 2 (i' := 32) (ls' := [some (.inr (.inr 66)), some (.inl 3), some (.inl set), some (.inl (12288 + set)), some (.inl (t + 1)), some (.inl (xand set (hh 87 t))), some (.inl (((1 + (hh 85 t)) + (hh 101 (8192 + (xand set (hh 87 t))))) + (hh 101 (8192 + (xxor set (xand set (hh 87 t)))))))]) (sk' := []) (h' := (xup (xup hh 101 (12288 + set) (((1 + (hh 85 t)) + (hh 101 (8192 + (xand set (hh 87 t))))) + (hh 101 (8192 + (xxor set (xand set (hh 87 t))))))) 102 (12288 + set) t)) rfl ?_
                    exact ih32 _ (t + 1) _ _ (by omega) (by omega) (fun a z1 z2 => by rw [xup_o _ _ _ _ a z2, xup_o _ _ _ _ a z1]; exact hf a z1 z2) (fun j z => by rw [xup_o _ _ _ _ _ (by decide), xup_j z, xup_j z, xup_o _ _ _ _ _ (by decide)]; exact hf2 j z) (by rw [xup_o _ _ _ _ _ (by decide), xup_s, stpf_y ht0 yb]; exact se) (by rw [xup_s, btf_1 ht0, if_pos yb]) (by omega)
                  · rw [c_lt (by first | (rw [hst]; exact ⟨by omega, by omega⟩) | (rw [v1, v2, g4]; exact ⟨by omega, by omega⟩)) (by first | (rw [hst]; exact ⟨by omega, by omega⟩) | (rw [v1, v2, g4]; exact ⟨by omega, by omega⟩))] at c92
                    simp only [decide_eq_true_eq, decide_eq_false_iff_not, Decidable.not_not] at c92
                    show xEx G0 cdX12_laysSet none (xRn G0 MT d) Q b 93 [some (.inr (.inr 66)), some (.inl 3), some (.inl set), some (.inl (12288 + set)), some (.inl t), some (.inl (xand set (hh 87 t))), some (.inl (((1 + (hh 85 t)) + (hh 101 (8192 + (xand set (hh 87 t))))) + (hh 101 (8192 + (xxor set (xand set (hh 87 t)))))))] [] hh
                    refine E_s 1 (i' := 104) (ls' := [some (.inr (.inr 66)), some (.inl 3), some (.inl set), some (.inl (12288 + set)), some (.inl t), some (.inl (xand set (hh 87 t))), some (.inl (((1 + (hh 85 t)) + (hh 101 (8192 + (xand set (hh 87 t))))) + (hh 101 (8192 + (xxor set (xand set (hh 87 t)))))))]) (sk' := []) (h' := hh) rfl ?_
                    have nb : ¬ (prt T p set t ∧ szt T (szf S T (S 0 0) (T 0 0) p 2) set t < stpf T p (szf S T (S 0 0) (T 0 0) p 2) (sz0 S (S 0 0) p set) set t.toNat) := by
                      rintro ⟨y1, y2⟩
                      first
                      | exact y1.2.1 (by rw [← g6]; exact c46)
                      | exact y1.2.2 (by rw [← g6]; exact c49)
                      | (rw [← se, ← hst] at y2; exact c92 y2)
                      | (rcases hb with ⟨z9, -⟩ | ⟨-, z9⟩
                         · exact c54 z9
                         · exact z9 y1.1)
                    refine E_s 2 (i' := 32) (ls' := [some (.inr (.inr 66)), some (.inl 3), some (.inl set), some (.inl (12288 + set)), some (.inl (t + 1)), some (.inl (xand set (hh 87 t))), some (.inl (((1 + (hh 85 t)) + (hh 101 (8192 + (xand set (hh 87 t))))) + (hh 101 (8192 + (xxor set (xand set (hh 87 t)))))))]) (sk' := []) (h' := hh) rfl ?_
                    exact ih32 _ (t + 1) _ _ (by omega) (by omega) hf hf2 (by rw [stpf_n ht0 nb]; exact hst) (by rw [btf_1 ht0, if_neg nb]; exact hbt) (by omega)
                · rw [c_eq (by exact ⟨by omega, by omega⟩) (by exact ⟨by omega, by omega⟩)] at c54
                  simp only [decide_eq_true_eq, decide_eq_false_iff_not, Decidable.not_not] at c54
                  show xEx G0 cdX12_laysSet none (xRn G0 MT d) Q b 55 [some (.inr (.inr 66)), some (.inl 3), some (.inl set), some (.inl (12288 + set)), some (.inl t), some (.inl (xand set (hh 87 t))), v6] [] hh
                  refine E_s 1 (i' := 104) (ls' := [some (.inr (.inr 66)), some (.inl 3), some (.inl set), some (.inl (12288 + set)), some (.inl t), some (.inl (xand set (hh 87 t))), v6]) (sk' := []) (h' := hh) rfl ?_
                  have nb : ¬ (prt T p set t ∧ szt T (szf S T (S 0 0) (T 0 0) p 2) set t < stpf T p (szf S T (S 0 0) (T 0 0) p 2) (sz0 S (S 0 0) p set) set t.toNat) := by
                    rintro ⟨y1, y2⟩
                    first
                    | exact y1.2.1 (by rw [← g6]; exact c46)
                    | exact y1.2.2 (by rw [← g6]; exact c49)
                    | (rw [← se, ← hst] at y2; exact c92 y2)
                    | (rcases hb with ⟨z9, -⟩ | ⟨-, z9⟩
                       · exact c54 z9
                       · exact z9 y1.1)
                  refine E_s 2 (i' := 32) (ls' := [some (.inr (.inr 66)), some (.inl 3), some (.inl set), some (.inl (12288 + set)), some (.inl (t + 1)), some (.inl (xand set (hh 87 t))), v6]) (sk' := []) (h' := hh) rfl ?_
                  exact ih32 _ (t + 1) _ _ (by omega) (by omega) hf hf2 (by rw [stpf_n ht0 nb]; exact hst) (by rw [btf_1 ht0, if_neg nb]; exact hbt) (by omega)
    exact key32 _ _ 0 none none (by omega) (by omega) (fun a z1 z2 => by rw [xup_o _ _ _ _ a z2, xup_o _ _ _ _ a z1]) (fun j z => by rw [xup_o _ _ _ _ _ (by decide), xup_j z, xup_j z, xup_o _ _ _ _ _ (by decide)]; exact ⟨rfl, rfl⟩) (by rw [xup_o _ _ _ _ _ (by decide), xup_s]; exact sz1.symm) (by rw [xup_s]; rfl) (Nat.lt_succ_self _)
  · rw [c_ne (by first | assumption | (refine ⟨?_, ?_⟩ <;> omega) | (simp only [xr] at *; omega)) (by first | assumption | (refine ⟨?_, ?_⟩ <;> omega) | (simp only [xr] at *; omega))] at c14
    simp only [decide_eq_true_eq, decide_eq_false_iff_not, Decidable.not_not] at c14
    show xEx G0 cdX12_laysSet none (xRn G0 MT d) Q b 15 [some (.inr (.inr 66)), some (.inl 3), some (.inl set), some (.inl (12288 + set)), none, none, none] [.inl (12288 + set), .inr (.inr 101)] h
    have sz1 : (sz0 S (S 0 0) p set) = 1000000 := by
      unfold sz0
      rw [if_pos (by rw [← hl]; exact c14)]
    refine E_s 2 (i' := 24) (ls' := [some (.inr (.inr 66)), some (.inl 3), some (.inl set), some (.inl (12288 + set)), none, none, none]) (sk' := [.inl 1000000, .inl (12288 + set), .inr (.inr 101)]) (h' := h) rfl ?_
    refine E_sd (x := (.iastore, 0, [], [])) (ty := .int) (n := 16384) (y := 1000000) rfl rfl rfl (by omega) (by omega) (trivial) ?_
    show xEx G0 cdX12_laysSet none (xRn G0 MT d) Q b 25 [some (.inr (.inr 66)), some (.inl 3), some (.inl set), some (.inl (12288 + set)), none, none, none] [] (xup h 101 (12288 + set) 1000000)
    refine E_s 4 (i' := 29) (ls' := [some (.inr (.inr 66)), some (.inl 3), some (.inl set), some (.inl (12288 + set)), none, none, none]) (sk' := [.inl (-1), .inl (12288 + set), .inr (.inr 102)]) (h' := (xup h 101 (12288 + set) 1000000)) rfl ?_
    refine E_sd (x := (.iastore, 0, [], [])) (ty := .int) (n := 16384) (y := (-1)) rfl rfl rfl (by omega) (by omega) (trivial) ?_
    show xEx G0 cdX12_laysSet none (xRn G0 MT d) Q b 30 [some (.inr (.inr 66)), some (.inl 3), some (.inl set), some (.inl (12288 + set)), none, none, none] [] (xup (xup h 101 (12288 + set) 1000000) 102 (12288 + set) (-1))
    refine E_s 2 (i' := 32) (ls' := [some (.inr (.inr 66)), some (.inl 3), some (.inl set), some (.inl (12288 + set)), some (.inl 0), none, none]) (sk' := []) (h' := (xup (xup h 101 (12288 + set) 1000000) 102 (12288 + set) (-1))) rfl ?_
    have key32 : ∀ (n : Nat) (hh : xH) (t : Int) (v5 v6 : Option xV), (0 ≤ t) → (t ≤ T 0 0) → (∀ a, a ≠ 101 → a ≠ 102 → hh a = h a) → (∀ j, j ≠ (12288 + set) → hh 101 j = h 101 j ∧ hh 102 j = h 102 j) → (hh 101 (12288 + set) = stpf T p (szf S T (S 0 0) (T 0 0) p 2) (sz0 S (S 0 0) p set) set t.toNat) → (hh 102 (12288 + set) = btf T p (szf S T (S 0 0) (T 0 0) p 2) (sz0 S (S 0 0) p set) set t.toNat) → ((T 0 0 - t).toNat) < n → xEx G0 cdX12_laysSet none (xRn G0 MT d) Q b 32 [some (.inr (.inr 66)), some (.inl 3), some (.inl set), some (.inl (12288 + set)), some (.inl t), v5, v6] [] hh := by
      intro n
      induction n with
      | zero => intro hh t v5 v6 _ _ _ _ _ _ hm; exact absurd hm (Nat.not_lt_zero _)
      | succ n ih32 =>
        intro hh t v5 v6 ht0 ht9 hf hf2 hst hbt hm32
        have f19 : hh 66 19 = T 0 0 := by rw [hf _ (by decide) (by decide)]; exact e19
        refine E_s 3 (i' := 35) (ls' := [some (.inr (.inr 66)), some (.inl 3), some (.inl set), some (.inl (12288 + set)), some (.inl t), v5, v6]) (sk' := [.inl (hh 66 19), .inl t]) (h' := hh) rfl ?_
        refine E_b (x := (.if_icmp .ge 123, 106, [], [])) rfl rfl (fun c35 => ?_) (fun c35 => ?_)
        · rw [c_ge (by first | assumption | (refine ⟨?_, ?_⟩ <;> omega) | (simp only [xr] at *; omega)) (by first | assumption | (refine ⟨?_, ?_⟩ <;> omega) | (simp only [xr] at *; omega))] at c35
          simp only [decide_eq_true_eq, decide_eq_false_iff_not, Decidable.not_not] at c35
          show xEx G0 cdX12_laysSet none (xRn G0 MT d) Q b 106 [some (.inr (.inr 66)), some (.inl 3), some (.inl set), some (.inl (12288 + set)), some (.inl t), v5, v6] [] hh
          have et : t = T 0 0 := by omega
          rw [et] at hst hbt
          exact E_ret (x := (.return_, 0, [], [])) (v := none) rfl (trivial) (hQ _ hf hf2 hst hbt)
        · rw [c_ge (by first | assumption | (refine ⟨?_, ?_⟩ <;> omega) | (simp only [xr] at *; omega)) (by first | assumption | (refine ⟨?_, ?_⟩ <;> omega) | (simp only [xr] at *; omega))] at c35
          simp only [decide_eq_true_eq, decide_eq_false_iff_not, Decidable.not_not] at c35
          show xEx G0 cdX12_laysSet none (xRn G0 MT d) Q b 36 [some (.inr (.inr 66)), some (.inl 3), some (.inl set), some (.inl (12288 + set)), some (.inl t), v5, v6] [] hh
          refine E_s 1 (i' := 37) (ls' := [some (.inr (.inr 66)), some (.inl 3), some (.inl set), some (.inl (12288 + set)), some (.inl t), v5, v6]) (sk' := [.inl 3]) (h' := hh) rfl ?_
          refine E_b (x := (.ifCond .le 119, 106, [], [])) rfl rfl (fun c37 => ?_) (fun c37 => ?_)
          · show xEx G0 cdX12_laysSet none (xRn G0 MT d) Q b 106 [some (.inr (.inr 66)), some (.inl 3), some (.inl set), some (.inl (12288 + set)), some (.inl t), v5, v6] [] hh
            exact absurd c37 (by decide)
          · show xEx G0 cdX12_laysSet none (xRn G0 MT d) Q b 38 [some (.inr (.inr 66)), some (.inl 3), some (.inl set), some (.inl (12288 + set)), some (.inl t), v5, v6] [] hh
            have ht1 : t < T 0 0 := by omega
            have g6 : hh 87 t = T 6 t := by rw [hf _ (by decide) (by decide)]; exact (hA.2.2.2 t ht0 ht1).2
            have g4 : hh 85 t = T 4 t := by rw [hf _ (by decide) (by decide)]; exact (hA.2.2.2 t ht0 ht1).1
            have o4 := o.2.2.2.2 t ht0 ht1
            have hb : (hh 104 t = 0 ∧ lk (T 11 t) p) ∨ (hh 104 t = 1 ∧ ¬ lk (T 11 t) p) := by rw [hf _ (by decide) (by decide)]; exact hB.2 t ht0 ht1
            have rb : hh 104 t = 0 ∨ hh 104 t = 1 := by
              rcases hb with ⟨z9, -⟩ | ⟨z9, -⟩
              · exact Or.inl z9
              · exact Or.inr z9
            have i1 : ir m (xand set (hh 87 t)) := by rw [g6]; exact xa_r o.1 hs o4.2.1
            have i2 : ir m (xxor set (xand set (hh 87 t))) := xx_r o.1 hs i1
            have r41 := ir4 o.1 i1
            have r42 := ir4 o.1 i2
            have bl : stpf T p (szf S T (S 0 0) (T 0 0) p 2) (sz0 S (S 0 0) p set) set t.toNat ≤ (sz0 S (S 0 0) p set) := stpf_le _
            refine E_s 4 (i' := 42) (ls' := [some (.inr (.inr 66)), some (.inl 3), some (.inl set), some (.inl (12288 + set)), some (.inl t), v5, v6]) (sk' := [.inl t, .inr (.inr 87), .inl set]) (h' := hh) rfl ?_
            refine E_ld (x := (.iaload, 0, [], [])) (ty := .int) (n := 150) rfl rfl rfl (by omega) (by omega) ?_
            show xEx G0 cdX12_laysSet none (xRn G0 MT d) Q b 43 [some (.inr (.inr 66)), some (.inl 3), some (.inl set), some (.inl (12288 + set)), some (.inl t), v5, v6] [.inl (hh 87 t), .inl set] hh
            refine E_s 3 (i' := 46) (ls' := [some (.inr (.inr 66)), some (.inl 3), some (.inl set), some (.inl (12288 + set)), some (.inl t), some (.inl (xand set (hh 87 t))), v6]) (sk' := [.inl (xand set (hh 87 t))]) (h' := hh) rfl ?_
            refine E_b (x := (.ifCond .eq 97, 104, [], [])) rfl rfl (fun c46 => ?_) (fun c46 => ?_)
            · rw [c_eq (by first | exact xand_r _ _ | exact ⟨by omega, by omega⟩) (by first | exact xand_r _ _ | exact ⟨by omega, by omega⟩)] at c46
              simp only [decide_eq_true_eq, decide_eq_false_iff_not, Decidable.not_not] at c46
              show xEx G0 cdX12_laysSet none (xRn G0 MT d) Q b 104 [some (.inr (.inr 66)), some (.inl 3), some (.inl set), some (.inl (12288 + set)), some (.inl t), some (.inl (xand set (hh 87 t))), v6] [] hh
              have nb : ¬ (prt T p set t ∧ szt T (szf S T (S 0 0) (T 0 0) p 2) set t < stpf T p (szf S T (S 0 0) (T 0 0) p 2) (sz0 S (S 0 0) p set) set t.toNat) := by
                rintro ⟨y1, y2⟩
                first
                | exact y1.2.1 (by rw [← g6]; exact c46)
                | exact y1.2.2 (by rw [← g6]; exact c49)
                | (rw [← se, ← hst] at y2; exact c92 y2)
                | (rcases hb with ⟨z9, -⟩ | ⟨-, z9⟩
                   · exact c54 z9
                   · exact z9 y1.1)
              refine E_s 2 (i' := 32) (ls' := [some (.inr (.inr 66)), some (.inl 3), some (.inl set), some (.inl (12288 + set)), some (.inl (t + 1)), some (.inl (xand set (hh 87 t))), v6]) (sk' := []) (h' := hh) rfl ?_
              exact ih32 _ (t + 1) _ _ (by omega) (by omega) hf hf2 (by rw [stpf_n ht0 nb]; exact hst) (by rw [btf_1 ht0, if_neg nb]; exact hbt) (by omega)
            · rw [c_eq (by first | exact xand_r _ _ | exact ⟨by omega, by omega⟩) (by first | exact xand_r _ _ | exact ⟨by omega, by omega⟩)] at c46
              simp only [decide_eq_true_eq, decide_eq_false_iff_not, Decidable.not_not] at c46
              show xEx G0 cdX12_laysSet none (xRn G0 MT d) Q b 47 [some (.inr (.inr 66)), some (.inl 3), some (.inl set), some (.inl (12288 + set)), some (.inl t), some (.inl (xand set (hh 87 t))), v6] [] hh
              refine E_s 2 (i' := 49) (ls' := [some (.inr (.inr 66)), some (.inl 3), some (.inl set), some (.inl (12288 + set)), some (.inl t), some (.inl (xand set (hh 87 t))), v6]) (sk' := [.inl set, .inl (xand set (hh 87 t))]) (h' := hh) rfl ?_
              refine E_b (x := (.if_icmp .eq 91, 104, [], [])) rfl rfl (fun c49 => ?_) (fun c49 => ?_)
              · rw [c_eq (by first | exact xand_r _ _ | exact ⟨by omega, by omega⟩) (by first | exact xand_r _ _ | exact ⟨by omega, by omega⟩)] at c49
                simp only [decide_eq_true_eq, decide_eq_false_iff_not, Decidable.not_not] at c49
                show xEx G0 cdX12_laysSet none (xRn G0 MT d) Q b 104 [some (.inr (.inr 66)), some (.inl 3), some (.inl set), some (.inl (12288 + set)), some (.inl t), some (.inl (xand set (hh 87 t))), v6] [] hh
                have nb : ¬ (prt T p set t ∧ szt T (szf S T (S 0 0) (T 0 0) p 2) set t < stpf T p (szf S T (S 0 0) (T 0 0) p 2) (sz0 S (S 0 0) p set) set t.toNat) := by
                  rintro ⟨y1, y2⟩
                  first
                  | exact y1.2.1 (by rw [← g6]; exact c46)
                  | exact y1.2.2 (by rw [← g6]; exact c49)
                  | (rw [← se, ← hst] at y2; exact c92 y2)
                  | (rcases hb with ⟨z9, -⟩ | ⟨-, z9⟩
                     · exact c54 z9
                     · exact z9 y1.1)
                refine E_s 2 (i' := 32) (ls' := [some (.inr (.inr 66)), some (.inl 3), some (.inl set), some (.inl (12288 + set)), some (.inl (t + 1)), some (.inl (xand set (hh 87 t))), v6]) (sk' := []) (h' := hh) rfl ?_
                exact ih32 _ (t + 1) _ _ (by omega) (by omega) hf hf2 (by rw [stpf_n ht0 nb]; exact hst) (by rw [btf_1 ht0, if_neg nb]; exact hbt) (by omega)
              · rw [c_eq (by first | exact xand_r _ _ | exact ⟨by omega, by omega⟩) (by first | exact xand_r _ _ | exact ⟨by omega, by omega⟩)] at c49
                simp only [decide_eq_true_eq, decide_eq_false_iff_not, Decidable.not_not] at c49
                show xEx G0 cdX12_laysSet none (xRn G0 MT d) Q b 50 [some (.inr (.inr 66)), some (.inl 3), some (.inl set), some (.inl (12288 + set)), some (.inl t), some (.inl (xand set (hh 87 t))), v6] [] hh
                refine E_s 3 (i' := 53) (ls' := [some (.inr (.inr 66)), some (.inl 3), some (.inl set), some (.inl (12288 + set)), some (.inl t), some (.inl (xand set (hh 87 t))), v6]) (sk' := [.inl t, .inr (.inr 104)]) (h' := hh) rfl ?_
                refine E_ld (x := (.baload, 0, [], [])) (ty := .boolean) (n := 150) rfl rfl rfl (by omega) (by omega) ?_
                show xEx G0 cdX12_laysSet none (xRn G0 MT d) Q b 54 [some (.inr (.inr 66)), some (.inl 3), some (.inl set), some (.inl (12288 + set)), some (.inl t), some (.inl (xand set (hh 87 t))), v6] [.inl (hh 104 t)] hh
                refine E_b (x := (.ifCond .eq 6, 56, [], [])) rfl rfl (fun c54 => ?_) (fun c54 => ?_)
                · rw [c_eq (by exact ⟨by omega, by omega⟩) (by exact ⟨by omega, by omega⟩)] at c54
                  simp only [decide_eq_true_eq, decide_eq_false_iff_not, Decidable.not_not] at c54
                  show xEx G0 cdX12_laysSet none (xRn G0 MT d) Q b 56 [some (.inr (.inr 66)), some (.inl 3), some (.inl set), some (.inl (12288 + set)), some (.inl t), some (.inl (xand set (hh 87 t))), v6] [] hh
                  have yl : lk (T 11 t) p := by
                    rcases hb with ⟨-, z9⟩ | ⟨z9, -⟩
                    · exact z9
                    · omega
                  have pt : prt T p set t := ⟨yl, by rw [← g6]; exact c46, by rw [← g6]; exact c49⟩
                  have v1 : hh 101 (8192 + (xand set (hh 87 t))) = (szf S T (S 0 0) (T 0 0) p 2) (xand set (hh 87 t)) := by
                    rw [(hf2 _ (by omega)).1]
                    exact hpv _ i1 c46 (by rw [g6]; exact sub_an o.1 hs o4.2.1)
                  have v2 : hh 101 (8192 + xxor set (xand set (hh 87 t))) = (szf S T (S 0 0) (T 0 0) p 2) (xxor set (xand set (hh 87 t))) := by
                    rw [(hf2 _ (by omega)).1]
                    refine hpv _ i2 ?_ ?_
                    · rw [g6] at c49 ⊢
                      exact els_0 o.1 hs o4.2.1 c49
                    · rw [g6]; exact sub_el o.1 hs o4.2.1
                  have q1 := szf_r (p := p) o 2 (xand set (hh 87 t))
                  have q2 := szf_r (p := p) o 2 (xxor set (xand set (hh 87 t)))
                  have se : 1 + hh 85 t + hh 101 (8192 + (xand set (hh 87 t))) + hh 101 (8192 + xxor set (xand set (hh 87 t))) = szt T (szf S T (S 0 0) (T 0 0) p 2) set t := by
                    unfold szt
                    rw [g4, v1, v2, g6]
                  have st1 : 1 ≤ stpf T p (szf S T (S 0 0) (T 0 0) p 2) (sz0 S (S 0 0) p set) set t.toNat := by
                    refine stpf_lo z0.1 _ (fun t9 z1 z2 hp9 => ?_)
                    have o49 := (o.2.2.2.2 t9 z1 (by omega)).1
                    have x1 := (szf_r (p := p) o 2 (xand set (T 6 t9))).1
                    have x2 := (szf_r (p := p) o 2 (xxor set (xand set (T 6 t9)))).1
                    unfold szt
                    omega
                  refine E_s 4 (i' := 60) (ls' := [some (.inr (.inr 66)), some (.inl 3), some (.inl set), some (.inl (12288 + set)), some (.inl t), some (.inl (xand set (hh 87 t))), v6]) (sk' := [.inl t, .inr (.inr 85), .inl 1]) (h' := hh) rfl ?_
                  refine E_ld (x := (.iaload, 0, [], [])) (ty := .int) (n := 150) rfl rfl rfl (by omega) (by omega) ?_
                  show xEx G0 cdX12_laysSet none (xRn G0 MT d) Q b 61 [some (.inr (.inr 66)), some (.inl 3), some (.inl set), some (.inl (12288 + set)), some (.inl t), some (.inl (xand set (hh 87 t))), v6] [.inl (hh 85 t), .inl 1] hh
                  refine E_s 10 (i' := 71) (ls' := [some (.inr (.inr 66)), some (.inl 3), some (.inl set), some (.inl (12288 + set)), some (.inl t), some (.inl (xand set (hh 87 t))), v6]) (sk' := [.inl (8192 + (xand set (hh 87 t))), .inr (.inr 101), .inl (1 + (hh 85 t))]) (h' := hh) rfl ?_
                  refine E_ld (x := (.iaload, 0, [], [])) (ty := .int) (n := 16384) rfl rfl rfl (by omega) (by omega) ?_
                  show xEx G0 cdX12_laysSet none (xRn G0 MT d) Q b 72 [some (.inr (.inr 66)), some (.inl 3), some (.inl set), some (.inl (12288 + set)), some (.inl t), some (.inl (xand set (hh 87 t))), v6] [.inl (hh 101 (8192 + (xand set (hh 87 t)))), .inl (1 + (hh 85 t))] hh
                  refine E_s 12 (i' := 84) (ls' := [some (.inr (.inr 66)), some (.inl 3), some (.inl set), some (.inl (12288 + set)), some (.inl t), some (.inl (xand set (hh 87 t))), v6]) (sk' := [.inl (8192 + (xxor set (xand set (hh 87 t)))), .inr (.inr 101), .inl ((1 + (hh 85 t)) + (hh 101 (8192 + (xand set (hh 87 t)))))]) (h' := hh) rfl ?_
                  refine E_ld (x := (.iaload, 0, [], [])) (ty := .int) (n := 16384) rfl rfl rfl (by omega) (by omega) ?_
                  show xEx G0 cdX12_laysSet none (xRn G0 MT d) Q b 85 [some (.inr (.inr 66)), some (.inl 3), some (.inl set), some (.inl (12288 + set)), some (.inl t), some (.inl (xand set (hh 87 t))), v6] [.inl (hh 101 (8192 + (xxor set (xand set (hh 87 t))))), .inl ((1 + (hh 85 t)) + (hh 101 (8192 + (xand set (hh 87 t)))))] hh
                  refine E_s 6 (i' := 91) (ls' := [some (.inr (.inr 66)), some (.inl 3), some (.inl set), some (.inl (12288 + set)), some (.inl t), some (.inl (xand set (hh 87 t))), some (.inl (((1 + (hh 85 t)) + (hh 101 (8192 + (xand set (hh 87 t))))) + (hh 101 (8192 + (xxor set (xand set (hh 87 t)))))))]) (sk' := [.inl (12288 + set), .inr (.inr 101), .inl (((1 + (hh 85 t)) + (hh 101 (8192 + (xand set (hh 87 t))))) + (hh 101 (8192 + (xxor set (xand set (hh 87 t))))))]) (h' := hh) rfl ?_
                  refine E_ld (x := (.iaload, 0, [], [])) (ty := .int) (n := 16384) rfl rfl rfl (by omega) (by omega) ?_
                  show xEx G0 cdX12_laysSet none (xRn G0 MT d) Q b 92 [some (.inr (.inr 66)), some (.inl 3), some (.inl set), some (.inl (12288 + set)), some (.inl t), some (.inl (xand set (hh 87 t))), some (.inl (((1 + (hh 85 t)) + (hh 101 (8192 + (xand set (hh 87 t))))) + (hh 101 (8192 + (xxor set (xand set (hh 87 t)))))))] [.inl (hh 101 (12288 + set)), .inl (((1 + (hh 85 t)) + (hh 101 (8192 + (xand set (hh 87 t))))) + (hh 101 (8192 + (xxor set (xand set (hh 87 t))))))] hh
                  refine E_b (x := (.if_icmp .lt 6, 94, [], [])) rfl rfl (fun c92 => ?_) (fun c92 => ?_)
                  · rw [c_lt (by first | (rw [hst]; exact ⟨by omega, by omega⟩) | (rw [v1, v2, g4]; exact ⟨by omega, by omega⟩)) (by first | (rw [hst]; exact ⟨by omega, by omega⟩) | (rw [v1, v2, g4]; exact ⟨by omega, by omega⟩))] at c92
                    simp only [decide_eq_true_eq, decide_eq_false_iff_not, Decidable.not_not] at c92
                    show xEx G0 cdX12_laysSet none (xRn G0 MT d) Q b 94 [some (.inr (.inr 66)), some (.inl 3), some (.inl set), some (.inl (12288 + set)), some (.inl t), some (.inl (xand set (hh 87 t))), some (.inl (((1 + (hh 85 t)) + (hh 101 (8192 + (xand set (hh 87 t))))) + (hh 101 (8192 + (xxor set (xand set (hh 87 t)))))))] [] hh
                    have yb : prt T p set t ∧ szt T (szf S T (S 0 0) (T 0 0) p 2) set t < stpf T p (szf S T (S 0 0) (T 0 0) p 2) (sz0 S (S 0 0) p set) set t.toNat := ⟨pt, by rw [← se, ← hst]; exact c92⟩
                    refine E_s 4 (i' := 98) (ls' := [some (.inr (.inr 66)), some (.inl 3), some (.inl set), some (.inl (12288 + set)), some (.inl t), some (.inl (xand set (hh 87 t))), some (.inl (((1 + (hh 85 t)) + (hh 101 (8192 + (xand set (hh 87 t))))) + (hh 101 (8192 + (xxor set (xand set (hh 87 t)))))))]) (sk' := [.inl (((1 + (hh 85 t)) + (hh 101 (8192 + (xand set (hh 87 t))))) + (hh 101 (8192 + (xxor set (xand set (hh 87 t)))))), .inl (12288 + set), .inr (.inr 101)]) (h' := hh) rfl ?_
                    refine E_sd (x := (.iastore, 0, [], [])) (ty := .int) (n := 16384) (y := (((1 + (hh 85 t)) + (hh 101 (8192 + (xand set (hh 87 t))))) + (hh 101 (8192 + (xxor set (xand set (hh 87 t))))))) rfl rfl rfl (by omega) (by omega) (trivial) ?_
                    show xEx G0 cdX12_laysSet none (xRn G0 MT d) Q b 99 [some (.inr (.inr 66)), some (.inl 3), some (.inl set), some (.inl (12288 + set)), some (.inl t), some (.inl (xand set (hh 87 t))), some (.inl (((1 + (hh 85 t)) + (hh 101 (8192 + (xand set (hh 87 t))))) + (hh 101 (8192 + (xxor set (xand set (hh 87 t)))))))] [] (xup hh 101 (12288 + set) (((1 + (hh 85 t)) + (hh 101 (8192 + (xand set (hh 87 t))))) + (hh 101 (8192 + (xxor set (xand set (hh 87 t)))))))
                    refine E_s 4 (i' := 103) (ls' := [some (.inr (.inr 66)), some (.inl 3), some (.inl set), some (.inl (12288 + set)), some (.inl t), some (.inl (xand set (hh 87 t))), some (.inl (((1 + (hh 85 t)) + (hh 101 (8192 + (xand set (hh 87 t))))) + (hh 101 (8192 + (xxor set (xand set (hh 87 t)))))))]) (sk' := [.inl t, .inl (12288 + set), .inr (.inr 102)]) (h' := (xup hh 101 (12288 + set) (((1 + (hh 85 t)) + (hh 101 (8192 + (xand set (hh 87 t))))) + (hh 101 (8192 + (xxor set (xand set (hh 87 t)))))))) rfl ?_
                    refine E_sd (x := (.iastore, 0, [], [])) (ty := .int) (n := 16384) (y := t) rfl rfl rfl (by omega) (by omega) (trivial) ?_
                    show xEx G0 cdX12_laysSet none (xRn G0 MT d) Q b 104 [some (.inr (.inr 66)), some (.inl 3), some (.inl set), some (.inl (12288 + set)), some (.inl t), some (.inl (xand set (hh 87 t))), some (.inl (((1 + (hh 85 t)) + (hh 101 (8192 + (xand set (hh 87 t))))) + (hh 101 (8192 + (xxor set (xand set (hh 87 t)))))))] [] (xup (xup hh 101 (12288 + set) (((1 + (hh 85 t)) + (hh 101 (8192 + (xand set (hh 87 t))))) + (hh 101 (8192 + (xxor set (xand set (hh 87 t))))))) 102 (12288 + set) t)
                    skip
                    refine E_s 2 (i' := 32) (ls' := [some (.inr (.inr 66)), some (.inl 3), some (.inl set), some (.inl (12288 + set)), some (.inl (t + 1)), some (.inl (xand set (hh 87 t))), some (.inl (((1 + (hh 85 t)) + (hh 101 (8192 + (xand set (hh 87 t))))) + (hh 101 (8192 + (xxor set (xand set (hh 87 t)))))))]) (sk' := []) (h' := (xup (xup hh 101 (12288 + set) (((1 + (hh 85 t)) + (hh 101 (8192 + (xand set (hh 87 t))))) + (hh 101 (8192 + (xxor set (xand set (hh 87 t))))))) 102 (12288 + set) t)) rfl ?_
                    exact ih32 _ (t + 1) _ _ (by omega) (by omega) (fun a z1 z2 => by rw [xup_o _ _ _ _ a z2, xup_o _ _ _ _ a z1]; exact hf a z1 z2) (fun j z => by rw [xup_o _ _ _ _ _ (by decide), xup_j z, xup_j z, xup_o _ _ _ _ _ (by decide)]; exact hf2 j z) (by rw [xup_o _ _ _ _ _ (by decide), xup_s, stpf_y ht0 yb]; exact se) (by rw [xup_s, btf_1 ht0, if_pos yb]) (by omega)
                  · rw [c_lt (by first | (rw [hst]; exact ⟨by omega, by omega⟩) | (rw [v1, v2, g4]; exact ⟨by omega, by omega⟩)) (by first | (rw [hst]; exact ⟨by omega, by omega⟩) | (rw [v1, v2, g4]; exact ⟨by omega, by omega⟩))] at c92
                    simp only [decide_eq_true_eq, decide_eq_false_iff_not, Decidable.not_not] at c92
                    show xEx G0 cdX12_laysSet none (xRn G0 MT d) Q b 93 [some (.inr (.inr 66)), some (.inl 3), some (.inl set), some (.inl (12288 + set)), some (.inl t), some (.inl (xand set (hh 87 t))), some (.inl (((1 + (hh 85 t)) + (hh 101 (8192 + (xand set (hh 87 t))))) + (hh 101 (8192 + (xxor set (xand set (hh 87 t)))))))] [] hh
                    refine E_s 1 (i' := 104) (ls' := [some (.inr (.inr 66)), some (.inl 3), some (.inl set), some (.inl (12288 + set)), some (.inl t), some (.inl (xand set (hh 87 t))), some (.inl (((1 + (hh 85 t)) + (hh 101 (8192 + (xand set (hh 87 t))))) + (hh 101 (8192 + (xxor set (xand set (hh 87 t)))))))]) (sk' := []) (h' := hh) rfl ?_
                    have nb : ¬ (prt T p set t ∧ szt T (szf S T (S 0 0) (T 0 0) p 2) set t < stpf T p (szf S T (S 0 0) (T 0 0) p 2) (sz0 S (S 0 0) p set) set t.toNat) := by
                      rintro ⟨y1, y2⟩
                      first
                      | exact y1.2.1 (by rw [← g6]; exact c46)
                      | exact y1.2.2 (by rw [← g6]; exact c49)
                      | (rw [← se, ← hst] at y2; exact c92 y2)
                      | (rcases hb with ⟨z9, -⟩ | ⟨-, z9⟩
                         · exact c54 z9
                         · exact z9 y1.1)
                    refine E_s 2 (i' := 32) (ls' := [some (.inr (.inr 66)), some (.inl 3), some (.inl set), some (.inl (12288 + set)), some (.inl (t + 1)), some (.inl (xand set (hh 87 t))), some (.inl (((1 + (hh 85 t)) + (hh 101 (8192 + (xand set (hh 87 t))))) + (hh 101 (8192 + (xxor set (xand set (hh 87 t)))))))]) (sk' := []) (h' := hh) rfl ?_
                    exact ih32 _ (t + 1) _ _ (by omega) (by omega) hf hf2 (by rw [stpf_n ht0 nb]; exact hst) (by rw [btf_1 ht0, if_neg nb]; exact hbt) (by omega)
                · rw [c_eq (by exact ⟨by omega, by omega⟩) (by exact ⟨by omega, by omega⟩)] at c54
                  simp only [decide_eq_true_eq, decide_eq_false_iff_not, Decidable.not_not] at c54
                  show xEx G0 cdX12_laysSet none (xRn G0 MT d) Q b 55 [some (.inr (.inr 66)), some (.inl 3), some (.inl set), some (.inl (12288 + set)), some (.inl t), some (.inl (xand set (hh 87 t))), v6] [] hh
                  refine E_s 1 (i' := 104) (ls' := [some (.inr (.inr 66)), some (.inl 3), some (.inl set), some (.inl (12288 + set)), some (.inl t), some (.inl (xand set (hh 87 t))), v6]) (sk' := []) (h' := hh) rfl ?_
                  have nb : ¬ (prt T p set t ∧ szt T (szf S T (S 0 0) (T 0 0) p 2) set t < stpf T p (szf S T (S 0 0) (T 0 0) p 2) (sz0 S (S 0 0) p set) set t.toNat) := by
                    rintro ⟨y1, y2⟩
                    first
                    | exact y1.2.1 (by rw [← g6]; exact c46)
                    | exact y1.2.2 (by rw [← g6]; exact c49)
                    | (rw [← se, ← hst] at y2; exact c92 y2)
                    | (rcases hb with ⟨z9, -⟩ | ⟨-, z9⟩
                       · exact c54 z9
                       · exact z9 y1.1)
                  refine E_s 2 (i' := 32) (ls' := [some (.inr (.inr 66)), some (.inl 3), some (.inl set), some (.inl (12288 + set)), some (.inl (t + 1)), some (.inl (xand set (hh 87 t))), v6]) (sk' := []) (h' := hh) rfl ?_
                  exact ih32 _ (t + 1) _ _ (by omega) (by omega) hf hf2 (by rw [stpf_n ht0 nb]; exact hst) (by rw [btf_1 ht0, if_neg nb]; exact hbt) (by omega)
    exact key32 _ _ 0 none none (by omega) (by omega) (fun a z1 z2 => by rw [xup_o _ _ _ _ a z2, xup_o _ _ _ _ a z1]) (fun j z => by rw [xup_o _ _ _ _ _ (by decide), xup_j z, xup_j z, xup_o _ _ _ _ _ (by decide)]; exact ⟨rfl, rfl⟩) (by rw [xup_o _ _ _ _ _ (by decide), xup_s]; exact sz1.symm) (by rw [xup_s]; rfl) (Nat.lt_succ_self _)
