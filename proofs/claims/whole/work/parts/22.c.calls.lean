/-- where one comes among those that rise -/
def insP (f : Int → Int) (v : Int) : Nat → Nat
  | 0 => 0
  | k + 1 => if v < f k then insP f v k else k + 1
def ins (f : Int → Int) (n v : Int) : Int → Int := fun j => if j < insP f v n.toNat then f j else if j = insP f v n.toNat then v else if j ≤ n then f (j - 1) else f j
theorem insP_le (f : Int → Int) (v : Int) : ∀ k : Nat, insP f v k ≤ k
  | 0 => Nat.le_refl _
  | k + 1 => by
    unfold insP
    have := insP_le f v k
    split <;> omega
theorem insP_s {f : Int → Int} {v k : Int} (h0 : 0 < k) (h : v < f (k - 1)) : insP f v k.toNat = insP f v (k - 1).toNat := by
  obtain ⟨m, rfl⟩ : ∃ m : Nat, k = m + 1 := ⟨(k - 1).toNat, by omega⟩
  have e1 : ((m : Int) + 1).toNat = m + 1 := by omega
  have e2 : ((m : Int) + 1 - 1).toNat = m := by omega
  have e3 : ((m : Int) + 1 - 1) = (m : Int) := by omega
  rw [e3] at h
  rw [e1, e2]
  show (if v < f m then insP f v m else m + 1) = _
  rw [if_pos h]
theorem insP_x {f : Int → Int} {v k : Int} (h0 : 0 ≤ k) (h : k = 0 ∨ ¬ v < f (k - 1)) : (insP f v k.toNat : Int) = k := by
  by_cases z : k = 0
  · subst z; rfl
  · obtain ⟨m, rfl⟩ : ∃ m : Nat, k = m + 1 := ⟨(k - 1).toNat, by omega⟩
    have e1 : ((m : Int) + 1).toNat = m + 1 := by omega
    have e3 : ((m : Int) + 1 - 1) = (m : Int) := by omega
    rw [e3] at h
    rw [e1]
    show ((if v < f m then insP f v m else m + 1 : Nat) : Int) = _
    rw [if_neg (by rcases h with h | h; exact absurd h z; exact h)]
    omega
theorem insP_congr {f g : Int → Int} (v : Int) : ∀ k : Nat, (∀ j : Int, 0 ≤ j → j < k → f j = g j) → insP f v k = insP g v k
  | 0, _ => rfl
  | k + 1, h => by
    unfold insP
    rw [insP_congr v k (fun j h1 h2 => h j h1 (by omega)), h k (by omega) (by omega)]
theorem ins_congr {f g : Int → Int} {n : Int} (v : Int) (hn : 0 ≤ n) (h : ∀ j, 0 ≤ j → j < n → f j = g j) : ∀ j, 0 ≤ j → j < n + 1 → ins f n v j = ins g n v j := fun j h1 h2 => by
  unfold ins
  rw [insP_congr v n.toNat (fun i q1 q2 => h i q1 (by omega))]
  have := insP_le g v n.toNat
  split
  · exact h j h1 (by omega)
  · split
    · rfl
    · split
      · exact h _ (by omega) (by omega)
      · omega
theorem ins_r {f : Int → Int} {n v : Int} (hn : 0 ≤ n) (hv : -99 ≤ v ∧ v ≤ 99) (h : ∀ j, 0 ≤ j → j < n → -99 ≤ f j ∧ f j ≤ 99) : ∀ j, 0 ≤ j → j < n + 1 → -99 ≤ ins f n v j ∧ ins f n v j ≤ 99 := fun j h1 h2 => by
  unfold ins
  have := insP_le f v n.toNat
  split
  · exact h j h1 (by omega)
  · split
    · exact hv
    · split
      · exact h _ (by omega) (by omega)
      · omega
abbrev xCs : Type := Int × (Int → Int)
noncomputable def tryC (v : Int) (s : xCs) : xCs := @ite _ ((-99 ≤ v ∧ v ≤ 99) ∧ s.1 < 10 ∧ ∀ q, 0 ≤ q → q < s.1 → ¬ s.2 q = v) (Classical.propDecidable _) (s.1 + 1, ins s.2 s.1 v) s
noncomputable def allC (w x : Int → Int) (s : xCs) : Nat → xCs
  | 0 => s
  | e + 1 => tryC (w e - x e) (tryC (w e) (allC w x s e))
def simC (s t : xCs) : Prop := s.1 = t.1 ∧ (2 ≤ s.1 ∧ s.1 ≤ 10) ∧ (∀ j, 0 ≤ j → j < s.1 → s.2 j = t.2 j) ∧ ∀ j, 0 ≤ j → j < s.1 → -99 ≤ s.2 j ∧ s.2 j ≤ 99
theorem tryC_p {v : Int} {s : xCs} (h : (-99 ≤ v ∧ v ≤ 99) ∧ s.1 < 10 ∧ ∀ q, 0 ≤ q → q < s.1 → ¬ s.2 q = v) : tryC v s = (s.1 + 1, ins s.2 s.1 v) := if_pos h
theorem tryC_n {v : Int} {s : xCs} (h : ¬ ((-99 ≤ v ∧ v ≤ 99) ∧ s.1 < 10 ∧ ∀ q, 0 ≤ q → q < s.1 → ¬ s.2 q = v)) : tryC v s = s := if_neg h
theorem tryC_sim (v : Int) {s t : xCs} (h : simC s t) : simC (tryC v s) (tryC v t) := by
  obtain ⟨h1, h2, h3, h4⟩ := h
  by_cases z : (-99 ≤ v ∧ v ≤ 99) ∧ s.1 < 10 ∧ ∀ q, 0 ≤ q → q < s.1 → ¬ s.2 q = v
  · rw [tryC_p z, tryC_p ⟨z.1, by omega, fun q q1 q2 e => z.2.2 q q1 (by omega) (by rw [h3 q q1 (by omega)]; exact e)⟩]
    refine ⟨by show s.1 + 1 = t.1 + 1; omega, by show 2 ≤ s.1 + 1 ∧ s.1 + 1 ≤ 10; omega, ?_, ins_r (by omega) z.1 h4⟩
    show ∀ j, 0 ≤ j → j < s.1 + 1 → ins s.2 s.1 v j = ins t.2 t.1 v j
    rw [← h1]
    exact ins_congr v (by omega) h3
  · rw [tryC_n z, tryC_n (fun y => z ⟨y.1, by omega, fun q q1 q2 e => y.2.2 q q1 (by omega) (by rw [← h3 q q1 q2]; exact e)⟩)]
    exact ⟨h1, h2, h3, h4⟩
theorem allC_sim {w x : Int → Int} {s t : xCs} (h : simC s t) : ∀ e : Nat, simC (allC w x s e) (allC w x t e)
  | 0 => h
  | e + 1 => tryC_sim _ (tryC_sim _ (allC_sim h e))
theorem allC_congr {w x w' x' : Int → Int} (s : xCs) : ∀ m : Nat, (∀ e : Int, 0 ≤ e → e < m → w e = w' e ∧ x e = x' e) → allC w x s m = allC w' x' s m
  | 0, _ => rfl
  | m + 1, h => by
    obtain ⟨a, b⟩ := h m (by omega) (by omega)
    unfold allC
    rw [allC_congr s m (fun e q1 q2 => h e q1 (by omega)), a, b]
set_option maxHeartbeats 1000000 in
theorem m_isThere (d b : Nat) (h : xH) (x y z : Int) (hn : 0 ≤ h 66 4 ∧ h 66 4 ≤ 12) (hx : xr x) (hy : xr y) (hz : xr z) (hr : ∀ e : Int, 0 ≤ e → e < h 66 4 → xr (h 67 (4 * e)) ∧ xr (h 67 (4 * e + 1)) ∧ xr (h 67 (4 * e + 2))) {Q : xO → xH → Prop} (h1 : ∀ q : Int, 0 ≤ q → q < h 66 4 → h 67 (4 * q) = x ∧ h 67 (4 * q + 1) = y ∧ h 67 (4 * q + 2) = z → Q (.inl (some (.inl 1))) h) (h0 : (∀ q : Int, 0 ≤ q → q < h 66 4 → ¬ (h 67 (4 * q) = x ∧ h 67 (4 * q + 1) = y ∧ h 67 (4 * q + 2) = z)) → Q (.inl (some (.inl 0))) h) : xRn G0 MT (d + 1) b 160 [.inr (.inr 66), .inl x, .inl y, .inl z] h Q := by
  refine R_of (M := mX12_isThere) rfl (Nat.le_of_ble_eq_true rfl) ?_
  show xEx G0 cdX12_isThere (some .boolean) (xRn G0 MT d) Q b 0 [some (.inr (.inr 66)), some (.inl x), some (.inl y), some (.inl z), none] [] h
  refine E_s 2 (i' := 2) (ls' := [some (.inr (.inr 66)), some (.inl x), some (.inl y), some (.inl z), some (.inl 0)]) (sk' := []) (h' := h) rfl ?_
  have key2 : ∀ (n : Nat) (e : Int), (0 ≤ e) → (e ≤ h 66 4) → (∀ q : Int, 0 ≤ q → q < e → ¬ (h 67 (4 * q) = x ∧ h 67 (4 * q + 1) = y ∧ h 67 (4 * q + 2) = z)) → ((h 66 4 - e).toNat) < n → xEx G0 cdX12_isThere (some .boolean) (xRn G0 MT d) Q b 2 [some (.inr (.inr 66)), some (.inl x), some (.inl y), some (.inl z), some (.inl e)] [] h := by
    intro n
    induction n with
    | zero => intro e _ _ _ hm; exact absurd hm (Nat.not_lt_zero _)
    | succ n ih2 =>
      intro e he0 he1 hno hm2
      refine E_s 3 (i' := 5) (ls' := [some (.inr (.inr 66)), some (.inl x), some (.inl y), some (.inl z), some (.inl e)]) (sk' := [.inl (h 66 4), .inl e]) (h' := h) rfl ?_
      refine E_b (x := (.if_icmp .ge 54, 38, [], [])) rfl rfl (fun c5 => ?_) (fun c5 => ?_)
      · rw [c_ge (by first | assumption | (refine ⟨?_, ?_⟩ <;> omega) | (simp only [xr] at *; omega)) (by first | assumption | (refine ⟨?_, ?_⟩ <;> omega) | (simp only [xr] at *; omega))] at c5
        simp only [decide_eq_true_eq, decide_eq_false_iff_not, Decidable.not_not] at c5
        show xEx G0 cdX12_isThere (some .boolean) (xRn G0 MT d) Q b 38 [some (.inr (.inr 66)), some (.inl x), some (.inl y), some (.inl z), some (.inl e)] [] h
        refine E_s 1 (i' := 39) (ls' := [some (.inr (.inr 66)), some (.inl x), some (.inl y), some (.inl z), some (.inl e)]) (sk' := [.inl 0]) (h' := h) rfl ?_
        exact E_ret (x := (.ireturn, 0, [], [])) (v := some (.inl 0)) rfl (Or.inr ⟨rfl, by omega⟩) (h0 (fun q hq0 hq1 => hno q hq0 (by omega)))
      · rw [c_ge (by first | assumption | (refine ⟨?_, ?_⟩ <;> omega) | (simp only [xr] at *; omega)) (by first | assumption | (refine ⟨?_, ?_⟩ <;> omega) | (simp only [xr] at *; omega))] at c5
        simp only [decide_eq_true_eq, decide_eq_false_iff_not, Decidable.not_not] at c5
        show xEx G0 cdX12_isThere (some .boolean) (xRn G0 MT d) Q b 6 [some (.inr (.inr 66)), some (.inl x), some (.inl y), some (.inl z), some (.inl e)] [] h
        obtain ⟨r0, r1, r2⟩ := hr e he0 (by omega)
        refine E_s 5 (i' := 11) (ls' := [some (.inr (.inr 66)), some (.inl x), some (.inl y), some (.inl z), some (.inl e)]) (sk' := [.inl (4 * e), .inr (.inr 67)]) (h' := h) rfl ?_
        refine E_ld (x := (.iaload, 0, [], [])) (ty := .int) (n := 48) rfl rfl rfl (by omega) (by omega) ?_
        show xEx G0 cdX12_isThere (some .boolean) (xRn G0 MT d) Q b 12 [some (.inr (.inr 66)), some (.inl x), some (.inl y), some (.inl z), some (.inl e)] [.inl (h 67 (4 * e))] h
        refine E_s 1 (i' := 13) (ls' := [some (.inr (.inr 66)), some (.inl x), some (.inl y), some (.inl z), some (.inl e)]) (sk' := [.inl x, .inl (h 67 (4 * e))]) (h' := h) rfl ?_
        refine E_b (x := (.if_icmp .ne 35, 36, [], [])) rfl rfl (fun c13 => ?_) (fun c13 => ?_)
        · rw [c_ne (by first | assumption | (refine ⟨?_, ?_⟩ <;> omega) | (simp only [xr] at *; omega)) (by first | assumption | (refine ⟨?_, ?_⟩ <;> omega) | (simp only [xr] at *; omega))] at c13
          simp only [decide_eq_true_eq, decide_eq_false_iff_not, Decidable.not_not] at c13
          show xEx G0 cdX12_isThere (some .boolean) (xRn G0 MT d) Q b 36 [some (.inr (.inr 66)), some (.inl x), some (.inl y), some (.inl z), some (.inl e)] [] h
          refine E_s 2 (i' := 2) (ls' := [some (.inr (.inr 66)), some (.inl x), some (.inl y), some (.inl z), some (.inl (e + 1))]) (sk' := []) (h' := h) rfl ?_
          exact ih2 (e + 1) (by omega) (by omega) (fun q hq0 hq1 => by
            rcases Int.lt_or_eq_of_le (show q ≤ e by omega) with z9 | z9
            · exact hno q hq0 z9
            · subst z9
              intro hh
              first | exact c13 hh.1 | exact c23 hh.2.1 | exact c33 hh.2.2) (by omega)
        · rw [c_ne (by first | assumption | (refine ⟨?_, ?_⟩ <;> omega) | (simp only [xr] at *; omega)) (by first | assumption | (refine ⟨?_, ?_⟩ <;> omega) | (simp only [xr] at *; omega))] at c13
          simp only [decide_eq_true_eq, decide_eq_false_iff_not, Decidable.not_not] at c13
          show xEx G0 cdX12_isThere (some .boolean) (xRn G0 MT d) Q b 14 [some (.inr (.inr 66)), some (.inl x), some (.inl y), some (.inl z), some (.inl e)] [] h
          refine E_s 7 (i' := 21) (ls' := [some (.inr (.inr 66)), some (.inl x), some (.inl y), some (.inl z), some (.inl e)]) (sk' := [.inl ((4 * e) + 1), .inr (.inr 67)]) (h' := h) rfl ?_
          refine E_ld (x := (.iaload, 0, [], [])) (ty := .int) (n := 48) rfl rfl rfl (by omega) (by omega) ?_
          show xEx G0 cdX12_isThere (some .boolean) (xRn G0 MT d) Q b 22 [some (.inr (.inr 66)), some (.inl x), some (.inl y), some (.inl z), some (.inl e)] [.inl (h 67 ((4 * e) + 1))] h
          refine E_s 1 (i' := 23) (ls' := [some (.inr (.inr 66)), some (.inl x), some (.inl y), some (.inl z), some (.inl e)]) (sk' := [.inl y, .inl (h 67 ((4 * e) + 1))]) (h' := h) rfl ?_
          refine E_b (x := (.if_icmp .ne 20, 36, [], [])) rfl rfl (fun c23 => ?_) (fun c23 => ?_)
          · rw [c_ne (by first | assumption | (refine ⟨?_, ?_⟩ <;> omega) | (simp only [xr] at *; omega)) (by first | assumption | (refine ⟨?_, ?_⟩ <;> omega) | (simp only [xr] at *; omega))] at c23
            simp only [decide_eq_true_eq, decide_eq_false_iff_not, Decidable.not_not] at c23
            show xEx G0 cdX12_isThere (some .boolean) (xRn G0 MT d) Q b 36 [some (.inr (.inr 66)), some (.inl x), some (.inl y), some (.inl z), some (.inl e)] [] h
            refine E_s 2 (i' := 2) (ls' := [some (.inr (.inr 66)), some (.inl x), some (.inl y), some (.inl z), some (.inl (e + 1))]) (sk' := []) (h' := h) rfl ?_
            exact ih2 (e + 1) (by omega) (by omega) (fun q hq0 hq1 => by
              rcases Int.lt_or_eq_of_le (show q ≤ e by omega) with z9 | z9
              · exact hno q hq0 z9
              · subst z9
                intro hh
                first | exact c13 hh.1 | exact c23 hh.2.1 | exact c33 hh.2.2) (by omega)
          · rw [c_ne (by first | assumption | (refine ⟨?_, ?_⟩ <;> omega) | (simp only [xr] at *; omega)) (by first | assumption | (refine ⟨?_, ?_⟩ <;> omega) | (simp only [xr] at *; omega))] at c23
            simp only [decide_eq_true_eq, decide_eq_false_iff_not, Decidable.not_not] at c23
            show xEx G0 cdX12_isThere (some .boolean) (xRn G0 MT d) Q b 24 [some (.inr (.inr 66)), some (.inl x), some (.inl y), some (.inl z), some (.inl e)] [] h
            refine E_s 7 (i' := 31) (ls' := [some (.inr (.inr 66)), some (.inl x), some (.inl y), some (.inl z), some (.inl e)]) (sk' := [.inl ((4 * e) + 2), .inr (.inr 67)]) (h' := h) rfl ?_
            refine E_ld (x := (.iaload, 0, [], [])) (ty := .int) (n := 48) rfl rfl rfl (by omega) (by omega) ?_
            show xEx G0 cdX12_isThere (some .boolean) (xRn G0 MT d) Q b 32 [some (.inr (.inr 66)), some (.inl x), some (.inl y), some (.inl z), some (.inl e)] [.inl (h 67 ((4 * e) + 2))] h
            refine E_s 1 (i' := 33) (ls' := [some (.inr (.inr 66)), some (.inl x), some (.inl y), some (.inl z), some (.inl e)]) (sk' := [.inl z, .inl (h 67 ((4 * e) + 2))]) (h' := h) rfl ?_
            refine E_b (x := (.if_icmp .ne 5, 36, [], [])) rfl rfl (fun c33 => ?_) (fun c33 => ?_)
            · rw [c_ne (by first | assumption | (refine ⟨?_, ?_⟩ <;> omega) | (simp only [xr] at *; omega)) (by first | assumption | (refine ⟨?_, ?_⟩ <;> omega) | (simp only [xr] at *; omega))] at c33
              simp only [decide_eq_true_eq, decide_eq_false_iff_not, Decidable.not_not] at c33
              show xEx G0 cdX12_isThere (some .boolean) (xRn G0 MT d) Q b 36 [some (.inr (.inr 66)), some (.inl x), some (.inl y), some (.inl z), some (.inl e)] [] h
              refine E_s 2 (i' := 2) (ls' := [some (.inr (.inr 66)), some (.inl x), some (.inl y), some (.inl z), some (.inl (e + 1))]) (sk' := []) (h' := h) rfl ?_
              exact ih2 (e + 1) (by omega) (by omega) (fun q hq0 hq1 => by
                rcases Int.lt_or_eq_of_le (show q ≤ e by omega) with z9 | z9
                · exact hno q hq0 z9
                · subst z9
                  intro hh
                  first | exact c13 hh.1 | exact c23 hh.2.1 | exact c33 hh.2.2) (by omega)
            · rw [c_ne (by first | assumption | (refine ⟨?_, ?_⟩ <;> omega) | (simp only [xr] at *; omega)) (by first | assumption | (refine ⟨?_, ?_⟩ <;> omega) | (simp only [xr] at *; omega))] at c33
              simp only [decide_eq_true_eq, decide_eq_false_iff_not, Decidable.not_not] at c33
              show xEx G0 cdX12_isThere (some .boolean) (xRn G0 MT d) Q b 34 [some (.inr (.inr 66)), some (.inl x), some (.inl y), some (.inl z), some (.inl e)] [] h
              refine E_s 1 (i' := 35) (ls' := [some (.inr (.inr 66)), some (.inl x), some (.inl y), some (.inl z), some (.inl e)]) (sk' := [.inl 1]) (h' := h) rfl ?_
              exact E_ret (x := (.ireturn, 0, [], [])) (v := some (.inl 1)) rfl (Or.inr ⟨rfl, by omega⟩) (h1 e he0 (by omega) ⟨c13, c23, c33⟩)
  exact key2 _ 0 (by omega) (by omega) (fun q hq0 hq1 => by omega) (Nat.lt_succ_self _)
set_option maxHeartbeats 1000000 in
theorem o_example (d  : Nat) (h : xH) (x y z w : Int) (hx : xr x) (hy : xr y) (hz : xr z) (hw : xr w) (hk : KOK h) (hm : 1 ≤ h 1 1 ∧ h 1 1 ≤ 3) (hn : 0 ≤ h 1 2 ∧ h 1 2 ≤ 12) (hr : ∀ e : Int, 0 ≤ e → e < h 1 2 → xr (h 3 e) ∧ xr (h 4 e) ∧ xr (h 5 e)) {Q : xO → xH → Prop} (hA : ¬ (inOk (h 1 1) x y z ∧ -999 ≤ w ∧ w ≤ 999) → Q (.inr "java/lang/IllegalArgumentException") h) (hS : inOk (h 1 1) x y z ∧ -999 ≤ w ∧ w ≤ 999 → (h 1 2 = 12 ∨ ∃ q, 0 ≤ q ∧ q < h 1 2 ∧ (h 3 q = x ∧ h 4 q = y ∧ h 5 q = z)) → Q (.inr "java/lang/IllegalStateException") h) (hO : inOk (h 1 1) x y z ∧ -999 ≤ w ∧ w ≤ 999 → h 1 2 < 12 → (¬ ∃ q, 0 ≤ q ∧ q < h 1 2 ∧ (h 3 q = x ∧ h 4 q = y ∧ h 5 q = z)) → ∀ h', FGC (xup (xup (xup (xup (xup h 3 (h 1 2) x) 4 (h 1 2) y) 5 (h 1 2) z) 6 (h 1 2) w) 1 2 (h 1 2 + 1)) h' → Q (.inl (some (.inl (h 1 2 + 1 - 1)))) h') : xRn G0 MT (d + 6) 2 98 [.inr (.inr 0), .inl x, .inl y, .inl z, .inl w] h Q := by
  refine R_of (M := mX11_example) rfl (Nat.le_of_ble_eq_true rfl) ?_
  show xEx G0 cdX11_example (some .int) (xRn G0 MT (d + 5)) Q 2 0 [some (.inr (.inr 0)), some (.inl x), some (.inl y), some (.inl z), some (.inl w), none] [] h
  refine E_s 4 (i' := 4) (ls' := [some (.inr (.inr 0)), some (.inl x), some (.inl y), some (.inl z), some (.inl w), none]) (sk' := [.inl z, .inl y, .inl x, .inr (.inr 0)]) (h' := h) rfl ?_
  refine E_cx (x := (.invokevirtual 96, 3, [(9, 148)], [0])) (b1 := 1) (b2 := 1) (v := none) (q := fun h9 => (inOk (h 1 1) x y z) ∧ h = h9) rfl rfl (Nat.le_of_ble_eq_true rfl) (fun z => by cases z) (c_refNoInputs (d + 3) h x y z hm hx hy hz (fun y9 => Or.inl ⟨rfl, y9, rfl⟩) (fun y9 => Or.inr ⟨_, rfl, hA (fun z9 => y9 z9.1)⟩)) (fun h9 hq9 => ?_)
  obtain ⟨q1, rfl⟩ := hq9
  show xEx G0 cdX11_example (some .int) (xRn G0 MT (d + 5)) Q 1 5 [some (.inr (.inr 0)), some (.inl x), some (.inl y), some (.inl z), some (.inl w), none] [] h
  refine E_s 2 (i' := 7) (ls' := [some (.inr (.inr 0)), some (.inl x), some (.inl y), some (.inl z), some (.inl w), none]) (sk' := [.inl (-999), .inl w]) (h' := h) rfl ?_
  refine E_b (x := (.if_icmp .lt 11, 11, [], [])) rfl rfl (fun c7 => ?_) (fun c7 => ?_)
  · rw [c_lt (by first | assumption | (refine ⟨?_, ?_⟩ <;> omega) | (simp only [xr] at *; omega)) (by first | assumption | (refine ⟨?_, ?_⟩ <;> omega) | (simp only [xr] at *; omega))] at c7
    simp only [decide_eq_true_eq, decide_eq_false_iff_not, Decidable.not_not] at c7
    show xEx G0 cdX11_example (some .int) (xRn G0 MT (d + 5)) Q 1 11 [some (.inr (.inr 0)), some (.inl x), some (.inl y), some (.inl z), some (.inl w), none] [] h
    exact E_thr (x := (.new 80, 0, [(0, 0)], [])) rfl rfl rfl (Nat.le_of_ble_eq_true rfl) (hA (fun z9 => by omega))
  · rw [c_lt (by first | assumption | (refine ⟨?_, ?_⟩ <;> omega) | (simp only [xr] at *; omega)) (by first | assumption | (refine ⟨?_, ?_⟩ <;> omega) | (simp only [xr] at *; omega))] at c7
    simp only [decide_eq_true_eq, decide_eq_false_iff_not, Decidable.not_not] at c7
    show xEx G0 cdX11_example (some .int) (xRn G0 MT (d + 5)) Q 1 8 [some (.inr (.inr 0)), some (.inl x), some (.inl y), some (.inl z), some (.inl w), none] [] h
    refine E_s 2 (i' := 10) (ls' := [some (.inr (.inr 0)), some (.inl x), some (.inl y), some (.inl z), some (.inl w), none]) (sk' := [.inl 999, .inl w]) (h' := h) rfl ?_
    refine E_b (x := (.if_icmp .le 13, 16, [], [])) rfl rfl (fun c10 => ?_) (fun c10 => ?_)
    · rw [c_le (by first | assumption | (refine ⟨?_, ?_⟩ <;> omega) | (simp only [xr] at *; omega)) (by first | assumption | (refine ⟨?_, ?_⟩ <;> omega) | (simp only [xr] at *; omega))] at c10
      simp only [decide_eq_true_eq, decide_eq_false_iff_not, Decidable.not_not] at c10
      show xEx G0 cdX11_example (some .int) (xRn G0 MT (d + 5)) Q 1 16 [some (.inr (.inr 0)), some (.inl x), some (.inl y), some (.inl z), some (.inl w), none] [] h
      refine E_s 4 (i' := 20) (ls' := [some (.inr (.inr 0)), some (.inl x), some (.inl y), some (.inl z), some (.inl w), none]) (sk' := [.inl 12, .inl (h 1 2)]) (h' := h) rfl ?_
      refine E_b (x := (.if_icmp .ge 16, 28, [], [])) rfl rfl (fun c20 => ?_) (fun c20 => ?_)
      · rw [c_ge (by first | assumption | (refine ⟨?_, ?_⟩ <;> omega) | (simp only [xr] at *; omega)) (by first | assumption | (refine ⟨?_, ?_⟩ <;> omega) | (simp only [xr] at *; omega))] at c20
        simp only [decide_eq_true_eq, decide_eq_false_iff_not, Decidable.not_not] at c20
        show xEx G0 cdX11_example (some .int) (xRn G0 MT (d + 5)) Q 1 28 [some (.inr (.inr 0)), some (.inl x), some (.inl y), some (.inl z), some (.inl w), none] [] h
        exact E_thr (x := (.new 106, 0, [(1, 0)], [])) rfl rfl rfl (Nat.le_of_ble_eq_true rfl) (hS ⟨q1, by omega⟩ (by first | exact Or.inl (by omega) | exact Or.inr (o1 q2 c27)))
      · rw [c_ge (by first | assumption | (refine ⟨?_, ?_⟩ <;> omega) | (simp only [xr] at *; omega)) (by first | assumption | (refine ⟨?_, ?_⟩ <;> omega) | (simp only [xr] at *; omega))] at c20
        simp only [decide_eq_true_eq, decide_eq_false_iff_not, Decidable.not_not] at c20
        show xEx G0 cdX11_example (some .int) (xRn G0 MT (d + 5)) Q 1 21 [some (.inr (.inr 0)), some (.inl x), some (.inl y), some (.inl z), some (.inl w), none] [] h
        refine E_s 5 (i' := 26) (ls' := [some (.inr (.inr 0)), some (.inl x), some (.inl y), some (.inl z), some (.inl w), none]) (sk' := [.inl z, .inl y, .inl x, .inr (.inr 1)]) (h' := h) rfl ?_
        refine E_cp (x := (.invokevirtual 102, 3, [(0, 2)], [0])) (q := fun r h9 => ((r = 1 ∧ ∃ q, 0 ≤ q ∧ q < h 1 2 ∧ (h 3 q = x ∧ h 4 q = y ∧ h 5 q = z)) ∨ (r = 0 ∧ ¬ ∃ q, 0 ≤ q ∧ q < h 1 2 ∧ (h 3 q = x ∧ h 4 q = y ∧ h 5 q = z))) ∧ h = h9) rfl rfl (Nat.le_of_ble_eq_true rfl) (c_areThere (d + 4) 0 h x y z hn hx hy hz hr (fun q z1 z2 z3 => ⟨_, rfl, Or.inl ⟨rfl, q, z1, z2, z3⟩, rfl⟩) (fun z9 => ⟨_, rfl, Or.inr ⟨rfl, fun y9 => by obtain ⟨q, z1, z2, z3⟩ := y9; exact z9 q z1 z2 z3⟩, rfl⟩)) (fun r h9 q2 => ?_)
        obtain ⟨q2, rfl⟩ := q2
        show xEx G0 cdX11_example (some .int) (xRn G0 MT (d + 5)) Q 1 27 [some (.inr (.inr 0)), some (.inl x), some (.inl y), some (.inl z), some (.inl w), none] [.inl r] h
        refine E_b (x := (.ifCond .eq 13, 33, [], [])) rfl rfl (fun c27 => ?_) (fun c27 => ?_)
        · rw [c_eq (by first | assumption | (refine ⟨?_, ?_⟩ <;> omega) | (simp only [xr] at *; omega)) (by first | assumption | (refine ⟨?_, ?_⟩ <;> omega) | (simp only [xr] at *; omega))] at c27
          simp only [decide_eq_true_eq, decide_eq_false_iff_not, Decidable.not_not] at c27
          show xEx G0 cdX11_example (some .int) (xRn G0 MT (d + 5)) Q 1 33 [some (.inr (.inr 0)), some (.inl x), some (.inl y), some (.inl z), some (.inl w), none] [] h
          refine E_s 6 (i' := 39) (ls' := [some (.inr (.inr 0)), some (.inl x), some (.inl y), some (.inl z), some (.inl w), none]) (sk' := [.inl w, .inl z, .inl y, .inl x, .inr (.inr 1)]) (h' := h) rfl ?_
          refine E_ci (x := (.invokevirtual 111, 4, [(0, 3)], [0])) (r := (h 1 2 + 1 - 1)) (h' := (xup (xup (xup (xup (xup h 3 (h 1 2) x) 4 (h 1 2) y) 5 (h 1 2) z) 6 (h 1 2) w) 1 2 (h 1 2 + 1))) rfl rfl (Nat.le_of_ble_eq_true rfl) (c_add (d + 4) 0 h x y z w (by omega) ⟨rfl, rfl⟩) ?_
          show xEx G0 cdX11_example (some .int) (xRn G0 MT (d + 5)) Q 1 40 [some (.inr (.inr 0)), some (.inl x), some (.inl y), some (.inl z), some (.inl w), none] [.inl (h 1 2 + 1 - 1)] (xup (xup (xup (xup (xup h 3 (h 1 2) x) 4 (h 1 2) y) 5 (h 1 2) z) 6 (h 1 2) w) 1 2 (h 1 2 + 1))
          refine E_s 2 (i' := 42) (ls' := [some (.inr (.inr 0)), some (.inl x), some (.inl y), some (.inl z), some (.inl w), some (.inl (h 1 2 + 1 - 1))]) (sk' := [.inr (.inr 0)]) (h' := (xup (xup (xup (xup (xup h 3 (h 1 2) x) 4 (h 1 2) y) 5 (h 1 2) z) 6 (h 1 2) w) 1 2 (h 1 2 + 1))) rfl ?_
          have hk9 : KOK ((xup (xup (xup (xup (xup h 3 (h 1 2) x) 4 (h 1 2) y) 5 (h 1 2) z) 6 (h 1 2) w) 1 2 (h 1 2 + 1))) := KOK_of (fun a ha => (up9 (by decide) a ha).trans ((up9 (by decide) a ha).trans ((up9 (by decide) a ha).trans ((up9 (by decide) a ha).trans (up9 (by decide) a ha))))) hk
          refine E_cv (x := (.invokevirtual 93, 0, [(9, 140)], [0])) (q := fun h9 => FGC ((xup (xup (xup (xup (xup h 3 (h 1 2) x) 4 (h 1 2) y) 5 (h 1 2) z) 6 (h 1 2) w) 1 2 (h 1 2 + 1))) h9) rfl rfl (Nat.le_of_ble_eq_true rfl) (c_forgetAll d 0 ((xup (xup (xup (xup (xup h 3 (h 1 2) x) 4 (h 1 2) y) 5 (h 1 2) z) 6 (h 1 2) w) 1 2 (h 1 2 + 1))) hk9.1 hk9.2.1 hk9.2.2.1 hk9.2.2.2 (fun h9 z => ⟨rfl, z⟩)) (fun hF1 hf => ?_)
          show xEx G0 cdX11_example (some .int) (xRn G0 MT (d + 5)) Q 1 43 [some (.inr (.inr 0)), some (.inl x), some (.inl y), some (.inl z), some (.inl w), some (.inl (h 1 2 + 1 - 1))] [] hF1
          refine E_s 1 (i' := 44) (ls' := [some (.inr (.inr 0)), some (.inl x), some (.inl y), some (.inl z), some (.inl w), some (.inl (h 1 2 + 1 - 1))]) (sk' := [.inl (h 1 2 + 1 - 1)]) (h' := hF1) rfl ?_
          exact E_ret (x := (.ireturn, 0, [], [])) (v := some (.inl (h 1 2 + 1 - 1))) rfl (Or.inl rfl) (hO ⟨q1, by omega⟩ (by omega) (o0 q2 c27) _ hf)
        · rw [c_eq (by first | assumption | (refine ⟨?_, ?_⟩ <;> omega) | (simp only [xr] at *; omega)) (by first | assumption | (refine ⟨?_, ?_⟩ <;> omega) | (simp only [xr] at *; omega))] at c27
          simp only [decide_eq_true_eq, decide_eq_false_iff_not, Decidable.not_not] at c27
          show xEx G0 cdX11_example (some .int) (xRn G0 MT (d + 5)) Q 1 28 [some (.inr (.inr 0)), some (.inl x), some (.inl y), some (.inl z), some (.inl w), none] [] h
          exact E_thr (x := (.new 106, 0, [(1, 0)], [])) rfl rfl rfl (Nat.le_of_ble_eq_true rfl) (hS ⟨q1, by omega⟩ (by first | exact Or.inl (by omega) | exact Or.inr (o1 q2 c27)))
    · rw [c_le (by first | assumption | (refine ⟨?_, ?_⟩ <;> omega) | (simp only [xr] at *; omega)) (by first | assumption | (refine ⟨?_, ?_⟩ <;> omega) | (simp only [xr] at *; omega))] at c10
      simp only [decide_eq_true_eq, decide_eq_false_iff_not, Decidable.not_not] at c10
      show xEx G0 cdX11_example (some .int) (xRn G0 MT (d + 5)) Q 1 11 [some (.inr (.inr 0)), some (.inl x), some (.inl y), some (.inl z), some (.inl w), none] [] h
      exact E_thr (x := (.new 80, 0, [(0, 0)], [])) rfl rfl rfl (Nat.le_of_ble_eq_true rfl) (hA (fun z9 => by omega))
set_option maxHeartbeats 1000000 in
theorem m_example (d b : Nat) (h : xH) (x y z w : Int) (hx : xr x) (hy : xr y) (hz : xr z) (hw : xr w) (hm : 1 ≤ h 66 1 ∧ h 66 1 ≤ 3) (hn : 0 ≤ h 66 4 ∧ h 66 4 ≤ 12) (hr : ∀ e : Int, 0 ≤ e → e < h 66 4 → xr (h 67 (4 * e)) ∧ xr (h 67 (4 * e + 1)) ∧ xr (h 67 (4 * e + 2))) {Q : xO → xH → Prop} (hA : ¬ (inOk (h 66 1) x y z ∧ -999 ≤ w ∧ w ≤ 999) → Q (.inl (some (.inl 0))) (xup h 66 0 1)) (hS : inOk (h 66 1) x y z ∧ -999 ≤ w ∧ w ≤ 999 → (h 66 4 = 12 ∨ ∃ q, 0 ≤ q ∧ q < h 66 4 ∧ (h 67 (4 * q) = x ∧ h 67 (4 * q + 1) = y ∧ h 67 (4 * q + 2) = z)) → Q (.inl (some (.inl 0))) (xup h 66 0 2)) (hO : inOk (h 66 1) x y z ∧ -999 ≤ w ∧ w ≤ 999 → h 66 4 < 12 → (¬ ∃ q, 0 ≤ q ∧ q < h 66 4 ∧ (h 67 (4 * q) = x ∧ h 67 (4 * q + 1) = y ∧ h 67 (4 * q + 2) = z)) → ∀ h', FGR (xup (xup (xup (xup (xup (xup h 66 0 0) 67 (4 * h 66 4) x) 67 (4 * h 66 4 + 1) y) 67 (4 * h 66 4 + 2) z) 67 (4 * h 66 4 + 3) w) 66 4 (h 66 4 + 1)) h' → Q (.inl (some (.inl (h' 66 4 - 1)))) h') : xRn G0 MT (d + 3) b 161 [.inr (.inr 66), .inl x, .inl y, .inl z, .inl w] h Q := by
  refine R_of (M := mX12_example) rfl (Nat.le_of_ble_eq_true rfl) ?_
  show xEx G0 cdX12_example (some .int) (xRn G0 MT (d + 2)) Q b 0 [some (.inr (.inr 66)), some (.inl x), some (.inl y), some (.inl z), some (.inl w)] [] h
  refine E_s 5 (i' := 5) (ls' := [some (.inr (.inr 66)), some (.inl x), some (.inl y), some (.inl z), some (.inl w)]) (sk' := [.inl z, .inl y, .inl x, .inr (.inr 66), .inr (.inr 66)]) (h' := h) rfl ?_
  refine E_cp (x := (.invokevirtual 187, 3, [(10, 159)], [0])) (q := fun r1 h9 => ((r1 = 1 ∧ (inOk (h 66 1) x y z)) ∨ (r1 = 0 ∧ ¬ (inOk (h 66 1) x y z))) ∧ h = h9) rfl rfl (Nat.le_of_ble_eq_true rfl) (m_areInputs d 0 h x y z hm hx hy hz (fun z => ⟨_, rfl, Or.inl ⟨rfl, z⟩, rfl⟩) (fun z => ⟨_, rfl, Or.inr ⟨rfl, z⟩, rfl⟩)) (fun r1 h9 q1 => ?_)
  obtain ⟨q1, rfl⟩ := q1
  show xEx G0 cdX12_example (some .int) (xRn G0 MT (d + 2)) Q b 6 [some (.inr (.inr 66)), some (.inl x), some (.inl y), some (.inl z), some (.inl w)] [.inl r1, .inr (.inr 66)] h
  refine E_b (x := (.ifCond .eq 17, 12, [], [])) rfl rfl (fun c6 => ?_) (fun c6 => ?_)
  · rw [c_eq (by first | assumption | (refine ⟨?_, ?_⟩ <;> omega) | (simp only [xr] at *; omega)) (by first | assumption | (refine ⟨?_, ?_⟩ <;> omega) | (simp only [xr] at *; omega))] at c6
    simp only [decide_eq_true_eq, decide_eq_false_iff_not, Decidable.not_not] at c6
    show xEx G0 cdX12_example (some .int) (xRn G0 MT (d + 2)) Q b 12 [some (.inr (.inr 66)), some (.inl x), some (.inl y), some (.inl z), some (.inl w)] [.inr (.inr 66)] h
    refine E_s 5 (i' := 30) (ls' := [some (.inr (.inr 66)), some (.inl x), some (.inl y), some (.inl z), some (.inl w)]) (sk' := [.inl 1]) (h' := (xup h 66 0 1)) rfl ?_
    
    refine E_b (x := (.ifCond .le 5, 33, [], [])) rfl rfl (fun c30 => ?_) (fun c30 => ?_)
    · show xEx G0 cdX12_example (some .int) (xRn G0 MT (d + 2)) Q b 33 [some (.inr (.inr 66)), some (.inl x), some (.inl y), some (.inl z), some (.inl w)] [] (xup h 66 0 1)
      exact absurd c30 (by decide)
    · show xEx G0 cdX12_example (some .int) (xRn G0 MT (d + 2)) Q b 31 [some (.inr (.inr 66)), some (.inl x), some (.inl y), some (.inl z), some (.inl w)] [] (xup h 66 0 1)
      refine E_s 1 (i' := 32) (ls' := [some (.inr (.inr 66)), some (.inl x), some (.inl y), some (.inl z), some (.inl w)]) (sk' := [.inl 0]) (h' := (xup h 66 0 1)) rfl ?_
      exact E_ret (x := (.ireturn, 0, [], [])) (v := some (.inl 0)) rfl (Or.inl rfl) (hA (fun z9 => by first | exact o0 q1 c6 z9.1 | omega))
  · rw [c_eq (by first | assumption | (refine ⟨?_, ?_⟩ <;> omega) | (simp only [xr] at *; omega)) (by first | assumption | (refine ⟨?_, ?_⟩ <;> omega) | (simp only [xr] at *; omega))] at c6
    simp only [decide_eq_true_eq, decide_eq_false_iff_not, Decidable.not_not] at c6
    show xEx G0 cdX12_example (some .int) (xRn G0 MT (d + 2)) Q b 7 [some (.inr (.inr 66)), some (.inl x), some (.inl y), some (.inl z), some (.inl w)] [.inr (.inr 66)] h
    refine E_s 3 (i' := 10) (ls' := [some (.inr (.inr 66)), some (.inl x), some (.inl y), some (.inl z), some (.inl w)]) (sk' := [.inl 999, .inl (-999), .inl w, .inr (.inr 66)]) (h' := h) rfl ?_
    refine E_cp (x := (.invokestatic 180, 3, [(0, 155)], [])) (q := fun r2 h9 => ((r2 = 1 ∧ ((-999) ≤ w ∧ w ≤ 999)) ∨ (r2 = 0 ∧ ¬ ((-999) ≤ w ∧ w ≤ 999))) ∧ h = h9) rfl rfl (Nat.le_of_ble_eq_true rfl) (m_isIn (d + 1) 0 (h) w (-999) 999 hw ⟨by omega, by omega⟩ ⟨by omega, by omega⟩ (fun z => ⟨_, rfl, Or.inl ⟨rfl, z⟩, rfl⟩) (fun z => ⟨_, rfl, Or.inr ⟨rfl, z⟩, rfl⟩)) (fun r2 h9 q2 => ?_)
    obtain ⟨q2, rfl⟩ := q2
    show xEx G0 cdX12_example (some .int) (xRn G0 MT (d + 2)) Q b 11 [some (.inr (.inr 66)), some (.inl x), some (.inl y), some (.inl z), some (.inl w)] [.inl r2, .inr (.inr 66)] h
    refine E_b (x := (.ifCond .ne 7, 14, [], [])) rfl rfl (fun c11 => ?_) (fun c11 => ?_)
    · rw [c_ne (by first | assumption | (refine ⟨?_, ?_⟩ <;> omega) | (simp only [xr] at *; omega)) (by first | assumption | (refine ⟨?_, ?_⟩ <;> omega) | (simp only [xr] at *; omega))] at c11
      simp only [decide_eq_true_eq, decide_eq_false_iff_not, Decidable.not_not] at c11
      show xEx G0 cdX12_example (some .int) (xRn G0 MT (d + 2)) Q b 14 [some (.inr (.inr 66)), some (.inl x), some (.inl y), some (.inl z), some (.inl w)] [.inr (.inr 66)] h
      have hA9 : (inOk (h 66 1) x y z ∧ -999 ≤ w ∧ w ≤ 999) := ⟨o1 q1 c6, by omega⟩
      refine E_s 3 (i' := 17) (ls' := [some (.inr (.inr 66)), some (.inl x), some (.inl y), some (.inl z), some (.inl w)]) (sk' := [.inl 12, .inl (h 66 4), .inr (.inr 66)]) (h' := h) rfl ?_
      refine E_b (x := (.if_icmp .eq 13, 24, [], [])) rfl rfl (fun c17 => ?_) (fun c17 => ?_)
      · rw [c_eq (by first | assumption | (refine ⟨?_, ?_⟩ <;> omega) | (simp only [xr] at *; omega)) (by first | assumption | (refine ⟨?_, ?_⟩ <;> omega) | (simp only [xr] at *; omega))] at c17
        simp only [decide_eq_true_eq, decide_eq_false_iff_not, Decidable.not_not] at c17
        show xEx G0 cdX12_example (some .int) (xRn G0 MT (d + 2)) Q b 24 [some (.inr (.inr 66)), some (.inl x), some (.inl y), some (.inl z), some (.inl w)] [.inr (.inr 66)] h
        refine E_s 5 (i' := 30) (ls' := [some (.inr (.inr 66)), some (.inl x), some (.inl y), some (.inl z), some (.inl w)]) (sk' := [.inl 2]) (h' := (xup h 66 0 2)) rfl ?_
        
        refine E_b (x := (.ifCond .le 5, 33, [], [])) rfl rfl (fun c30 => ?_) (fun c30 => ?_)
        · show xEx G0 cdX12_example (some .int) (xRn G0 MT (d + 2)) Q b 33 [some (.inr (.inr 66)), some (.inl x), some (.inl y), some (.inl z), some (.inl w)] [] (xup h 66 0 2)
          exact absurd c30 (by decide)
        · show xEx G0 cdX12_example (some .int) (xRn G0 MT (d + 2)) Q b 31 [some (.inr (.inr 66)), some (.inl x), some (.inl y), some (.inl z), some (.inl w)] [] (xup h 66 0 2)
          refine E_s 1 (i' := 32) (ls' := [some (.inr (.inr 66)), some (.inl x), some (.inl y), some (.inl z), some (.inl w)]) (sk' := [.inl 0]) (h' := (xup h 66 0 2)) rfl ?_
          exact E_ret (x := (.ireturn, 0, [], [])) (v := some (.inl 0)) rfl (Or.inl rfl) (hS hA9 (by first | exact Or.inl c17 | exact Or.inr (o1 q3 c23)))
      · rw [c_eq (by first | assumption | (refine ⟨?_, ?_⟩ <;> omega) | (simp only [xr] at *; omega)) (by first | assumption | (refine ⟨?_, ?_⟩ <;> omega) | (simp only [xr] at *; omega))] at c17
        simp only [decide_eq_true_eq, decide_eq_false_iff_not, Decidable.not_not] at c17
        show xEx G0 cdX12_example (some .int) (xRn G0 MT (d + 2)) Q b 18 [some (.inr (.inr 66)), some (.inl x), some (.inl y), some (.inl z), some (.inl w)] [.inr (.inr 66)] h
        have hlt : h 66 4 < 12 := by omega
        refine E_s 4 (i' := 22) (ls' := [some (.inr (.inr 66)), some (.inl x), some (.inl y), some (.inl z), some (.inl w)]) (sk' := [.inl z, .inl y, .inl x, .inr (.inr 66), .inr (.inr 66)]) (h' := h) rfl ?_
        refine E_cp (x := (.invokevirtual 190, 3, [(10, 160)], [0])) (q := fun r3 h9 => ((r3 = 1 ∧ ∃ q, 0 ≤ q ∧ q < h 66 4 ∧ (h 67 (4 * q) = x ∧ h 67 (4 * q + 1) = y ∧ h 67 (4 * q + 2) = z)) ∨ (r3 = 0 ∧ ¬ ∃ q, 0 ≤ q ∧ q < h 66 4 ∧ (h 67 (4 * q) = x ∧ h 67 (4 * q + 1) = y ∧ h 67 (4 * q + 2) = z))) ∧ h = h9) rfl rfl (Nat.le_of_ble_eq_true rfl) (m_isThere (d + 1) 0 h x y z hn hx hy hz hr (fun q z1 z2 z3 => ⟨_, rfl, Or.inl ⟨rfl, q, z1, z2, z3⟩, rfl⟩) (fun z9 => ⟨_, rfl, Or.inr ⟨rfl, fun y9 => by obtain ⟨q, z1, z2, z3⟩ := y9; exact z9 q z1 z2 z3⟩, rfl⟩)) (fun r3 h9 q3 => ?_)
        obtain ⟨q3, rfl⟩ := q3
        show xEx G0 cdX12_example (some .int) (xRn G0 MT (d + 2)) Q b 23 [some (.inr (.inr 66)), some (.inl x), some (.inl y), some (.inl z), some (.inl w)] [.inl r3, .inr (.inr 66)] h
        refine E_b (x := (.ifCond .eq 7, 26, [], [])) rfl rfl (fun c23 => ?_) (fun c23 => ?_)
        · rw [c_eq (by first | assumption | (refine ⟨?_, ?_⟩ <;> omega) | (simp only [xr] at *; omega)) (by first | assumption | (refine ⟨?_, ?_⟩ <;> omega) | (simp only [xr] at *; omega))] at c23
          simp only [decide_eq_true_eq, decide_eq_false_iff_not, Decidable.not_not] at c23
          show xEx G0 cdX12_example (some .int) (xRn G0 MT (d + 2)) Q b 26 [some (.inr (.inr 66)), some (.inl x), some (.inl y), some (.inl z), some (.inl w)] [.inr (.inr 66)] h
          refine E_s 4 (i' := 30) (ls' := [some (.inr (.inr 66)), some (.inl x), some (.inl y), some (.inl z), some (.inl w)]) (sk' := [.inl 0]) (h' := (xup h 66 0 0)) rfl ?_
          
          refine E_b (x := (.ifCond .le 5, 33, [], [])) rfl rfl (fun c30 => ?_) (fun c30 => ?_)
          · show xEx G0 cdX12_example (some .int) (xRn G0 MT (d + 2)) Q b 33 [some (.inr (.inr 66)), some (.inl x), some (.inl y), some (.inl z), some (.inl w)] [] (xup h 66 0 0)
            refine E_s 7 (i' := 40) (ls' := [some (.inr (.inr 66)), some (.inl x), some (.inl y), some (.inl z), some (.inl w)]) (sk' := [.inl x, .inl (4 * (h 66 4)), .inr (.inr 67)]) (h' := (xup h 66 0 0)) rfl ?_
            refine E_sd (x := (.iastore, 0, [], [])) (ty := .int) (n := 48) (y := x) rfl rfl rfl (by omega) (by omega) (trivial) ?_
            show xEx G0 cdX12_example (some .int) (xRn G0 MT (d + 2)) Q b 41 [some (.inr (.inr 66)), some (.inl x), some (.inl y), some (.inl z), some (.inl w)] [] (xup (xup h 66 0 0) 67 (4 * (h 66 4)) x)
            refine E_s 9 (i' := 50) (ls' := [some (.inr (.inr 66)), some (.inl x), some (.inl y), some (.inl z), some (.inl w)]) (sk' := [.inl y, .inl ((4 * (h 66 4)) + 1), .inr (.inr 67)]) (h' := (xup (xup h 66 0 0) 67 (4 * (h 66 4)) x)) rfl ?_
            refine E_sd (x := (.iastore, 0, [], [])) (ty := .int) (n := 48) (y := y) rfl rfl rfl (by omega) (by omega) (trivial) ?_
            show xEx G0 cdX12_example (some .int) (xRn G0 MT (d + 2)) Q b 51 [some (.inr (.inr 66)), some (.inl x), some (.inl y), some (.inl z), some (.inl w)] [] (xup (xup (xup h 66 0 0) 67 (4 * (h 66 4)) x) 67 ((4 * (h 66 4)) + 1) y)
            refine E_s 9 (i' := 60) (ls' := [some (.inr (.inr 66)), some (.inl x), some (.inl y), some (.inl z), some (.inl w)]) (sk' := [.inl z, .inl ((4 * (h 66 4)) + 2), .inr (.inr 67)]) (h' := (xup (xup (xup h 66 0 0) 67 (4 * (h 66 4)) x) 67 ((4 * (h 66 4)) + 1) y)) rfl ?_
            refine E_sd (x := (.iastore, 0, [], [])) (ty := .int) (n := 48) (y := z) rfl rfl rfl (by omega) (by omega) (trivial) ?_
            show xEx G0 cdX12_example (some .int) (xRn G0 MT (d + 2)) Q b 61 [some (.inr (.inr 66)), some (.inl x), some (.inl y), some (.inl z), some (.inl w)] [] (xup (xup (xup (xup h 66 0 0) 67 (4 * (h 66 4)) x) 67 ((4 * (h 66 4)) + 1) y) 67 ((4 * (h 66 4)) + 2) z)
            refine E_s 9 (i' := 70) (ls' := [some (.inr (.inr 66)), some (.inl x), some (.inl y), some (.inl z), some (.inl w)]) (sk' := [.inl w, .inl ((4 * (h 66 4)) + 3), .inr (.inr 67)]) (h' := (xup (xup (xup (xup h 66 0 0) 67 (4 * (h 66 4)) x) 67 ((4 * (h 66 4)) + 1) y) 67 ((4 * (h 66 4)) + 2) z)) rfl ?_
            refine E_sd (x := (.iastore, 0, [], [])) (ty := .int) (n := 48) (y := w) rfl rfl rfl (by omega) (by omega) (trivial) ?_
            show xEx G0 cdX12_example (some .int) (xRn G0 MT (d + 2)) Q b 71 [some (.inr (.inr 66)), some (.inl x), some (.inl y), some (.inl z), some (.inl w)] [] (xup (xup (xup (xup (xup h 66 0 0) 67 (4 * (h 66 4)) x) 67 ((4 * (h 66 4)) + 1) y) 67 ((4 * (h 66 4)) + 2) z) 67 ((4 * (h 66 4)) + 3) w)
            refine E_s 7 (i' := 78) (ls' := [some (.inr (.inr 66)), some (.inl x), some (.inl y), some (.inl z), some (.inl w)]) (sk' := [.inr (.inr 66)]) (h' := (xup (xup (xup (xup (xup (xup h 66 0 0) 67 (4 * (h 66 4)) x) 67 ((4 * (h 66 4)) + 1) y) 67 ((4 * (h 66 4)) + 2) z) 67 ((4 * (h 66 4)) + 3) w) 66 4 ((h 66 4) + 1))) rfl ?_
            refine E_cv (x := (.invokevirtual 184, 0, [(10, 157)], [0])) (q := fun h9 => FGR (xup (xup (xup (xup (xup (xup h 66 0 0) 67 (4 * (h 66 4)) x) 67 ((4 * (h 66 4)) + 1) y) 67 ((4 * (h 66 4)) + 2) z) 67 ((4 * (h 66 4)) + 3) w) 66 4 ((h 66 4) + 1)) h9) rfl rfl (Nat.le_of_ble_eq_true rfl) (m_goes (d + 1) 0 (xup (xup (xup (xup (xup (xup h 66 0 0) 67 (4 * (h 66 4)) x) 67 ((4 * (h 66 4)) + 1) y) 67 ((4 * (h 66 4)) + 2) z) 67 ((4 * (h 66 4)) + 3) w) 66 4 ((h 66 4) + 1)) (fun h9 z => ⟨rfl, z⟩)) (fun hF2 hf => ?_)
            show xEx G0 cdX12_example (some .int) (xRn G0 MT (d + 2)) Q b 79 [some (.inr (.inr 66)), some (.inl x), some (.inl y), some (.inl z), some (.inl w)] [] hF2
            refine E_s 4 (i' := 83) (ls' := [some (.inr (.inr 66)), some (.inl x), some (.inl y), some (.inl z), some (.inl w)]) (sk' := [.inl ((hF2 66 4) - 1)]) (h' := hF2) rfl ?_
            exact E_ret (x := (.ireturn, 0, [], [])) (v := some (.inl ((hF2 66 4) - 1))) rfl (Or.inl rfl) (hO hA9 hlt (o0 q3 c23) _ hf)
          · show xEx G0 cdX12_example (some .int) (xRn G0 MT (d + 2)) Q b 31 [some (.inr (.inr 66)), some (.inl x), some (.inl y), some (.inl z), some (.inl w)] [] (xup h 66 0 0)
            exact absurd c30 (by decide)
        · rw [c_eq (by first | assumption | (refine ⟨?_, ?_⟩ <;> omega) | (simp only [xr] at *; omega)) (by first | assumption | (refine ⟨?_, ?_⟩ <;> omega) | (simp only [xr] at *; omega))] at c23
          simp only [decide_eq_true_eq, decide_eq_false_iff_not, Decidable.not_not] at c23
          show xEx G0 cdX12_example (some .int) (xRn G0 MT (d + 2)) Q b 24 [some (.inr (.inr 66)), some (.inl x), some (.inl y), some (.inl z), some (.inl w)] [.inr (.inr 66)] h
          refine E_s 5 (i' := 30) (ls' := [some (.inr (.inr 66)), some (.inl x), some (.inl y), some (.inl z), some (.inl w)]) (sk' := [.inl 2]) (h' := (xup h 66 0 2)) rfl ?_
          
          refine E_b (x := (.ifCond .le 5, 33, [], [])) rfl rfl (fun c30 => ?_) (fun c30 => ?_)
          · show xEx G0 cdX12_example (some .int) (xRn G0 MT (d + 2)) Q b 33 [some (.inr (.inr 66)), some (.inl x), some (.inl y), some (.inl z), some (.inl w)] [] (xup h 66 0 2)
            exact absurd c30 (by decide)
          · show xEx G0 cdX12_example (some .int) (xRn G0 MT (d + 2)) Q b 31 [some (.inr (.inr 66)), some (.inl x), some (.inl y), some (.inl z), some (.inl w)] [] (xup h 66 0 2)
            refine E_s 1 (i' := 32) (ls' := [some (.inr (.inr 66)), some (.inl x), some (.inl y), some (.inl z), some (.inl w)]) (sk' := [.inl 0]) (h' := (xup h 66 0 2)) rfl ?_
            exact E_ret (x := (.ireturn, 0, [], [])) (v := some (.inl 0)) rfl (Or.inl rfl) (hS hA9 (by first | exact Or.inl c17 | exact Or.inr (o1 q3 c23)))
    · rw [c_ne (by first | assumption | (refine ⟨?_, ?_⟩ <;> omega) | (simp only [xr] at *; omega)) (by first | assumption | (refine ⟨?_, ?_⟩ <;> omega) | (simp only [xr] at *; omega))] at c11
      simp only [decide_eq_true_eq, decide_eq_false_iff_not, Decidable.not_not] at c11
      show xEx G0 cdX12_example (some .int) (xRn G0 MT (d + 2)) Q b 12 [some (.inr (.inr 66)), some (.inl x), some (.inl y), some (.inl z), some (.inl w)] [.inr (.inr 66)] h
      refine E_s 5 (i' := 30) (ls' := [some (.inr (.inr 66)), some (.inl x), some (.inl y), some (.inl z), some (.inl w)]) (sk' := [.inl 1]) (h' := (xup h 66 0 1)) rfl ?_
      
      refine E_b (x := (.ifCond .le 5, 33, [], [])) rfl rfl (fun c30 => ?_) (fun c30 => ?_)
      · show xEx G0 cdX12_example (some .int) (xRn G0 MT (d + 2)) Q b 33 [some (.inr (.inr 66)), some (.inl x), some (.inl y), some (.inl z), some (.inl w)] [] (xup h 66 0 1)
        exact absurd c30 (by decide)
      · show xEx G0 cdX12_example (some .int) (xRn G0 MT (d + 2)) Q b 31 [some (.inr (.inr 66)), some (.inl x), some (.inl y), some (.inl z), some (.inl w)] [] (xup h 66 0 1)
        refine E_s 1 (i' := 32) (ls' := [some (.inr (.inr 66)), some (.inl x), some (.inl y), some (.inl z), some (.inl w)]) (sk' := [.inl 0]) (h' := (xup h 66 0 1)) rfl ?_
        exact E_ret (x := (.ireturn, 0, [], [])) (v := some (.inl 0)) rfl (Or.inl rfl) (hA (fun z9 => by first | exact o0 q1 c6 z9.1 | omega))
