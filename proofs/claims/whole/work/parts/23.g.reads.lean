theorem w64_id {a : Int} (h : -4611686018427387904 ≤ a ∧ a ≤ 4611686018427387903) : w64 a = a := by
  unfold w64
  rw [Int64.toInt_ofInt]
  exact Int.bmod_eq_of_le (by simp; omega) (by simp; omega)
theorem xcmp_i {a b : Int} (ha : -4611686018427387904 ≤ a ∧ a ≤ 4611686018427387903) (hb : -4611686018427387904 ≤ b ∧ b ≤ 4611686018427387903) : (a < b ∧ xcmp a b = -1) ∨ (a = b ∧ xcmp a b = 0) ∨ (b < a ∧ xcmp a b = 1) := by
  unfold xcmp
  rw [w64_id ha, w64_id hb]
  rcases Int.lt_trichotomy a b with z | z | z
  · exact Or.inl ⟨z, if_pos z⟩
  · exact Or.inr (Or.inl ⟨z, by rw [if_neg (by omega), if_pos z]⟩)
  · exact Or.inr (Or.inr ⟨z, by rw [if_neg (by omega), if_neg (by omega)]⟩)
theorem xcmp_r (a b : Int) : xr (xcmp a b) := by
  unfold xcmp
  split
  · exact ⟨by decide, by decide⟩
  · split
    · exact ⟨by decide, by decide⟩
    · exact ⟨by decide, by decide⟩
/-- how far two are, at most a million -/
def dst (a b : Int) : Int := if 1000000 < a - b ∨ 1000000 < b - a then 1000000 else if a - b < 0 then b - a else a - b
theorem dst_v {a b r : Int} (h : (r = 1000000 ∧ (1000000 < a - b ∨ 1000000 < b - a)) ∨ (r = a - b ∧ 0 ≤ a - b ∧ a - b ≤ 1000000) ∨ (r = b - a ∧ a - b < 0 ∧ b - a ≤ 1000000)) : dst a b = r := by
  unfold dst
  rcases h with ⟨h1, h2⟩ | ⟨h1, h2, h3⟩ | ⟨h1, h2, h3⟩
  · rw [if_pos h2, h1]
  · rw [if_neg (by omega), if_neg (by omega), h1]
  · rw [if_neg (by omega), if_pos h2, h1]
theorem dst_r (a b : Int) : 0 ≤ dst a b ∧ dst a b ≤ 1000000 := by
  unfold dst
  split
  · omega
  · split <;> omega
def frs (f g : Int → Int) : Nat → Int
  | 0 => 0
  | m + 1 => frs f g m + dst (f m) (g m)
theorem frs_1 (f g : Int → Int) {k : Int} (h : 0 ≤ k) : frs f g (k + 1).toNat = frs f g k.toNat + dst (f k) (g k) := by
  obtain ⟨m, rfl⟩ : ∃ m : Nat, k = m := ⟨k.toNat, by omega⟩
  have : ((m : Int) + 1).toNat = m + 1 := by omega
  rw [this]
  rfl
theorem frs_r (f g : Int → Int) : ∀ m : Nat, 0 ≤ frs f g m ∧ frs f g m ≤ 1000000 * m
  | 0 => ⟨Int.le_refl _, Int.le_refl _⟩
  | m + 1 => by
    have := frs_r f g m
    have := dst_r (f m) (g m)
    unfold frs
    omega
theorem frs_congr {f g f' g' : Int → Int} : ∀ m : Nat, (∀ k : Int, 0 ≤ k → k < m → f k = f' k ∧ g k = g' k) → frs f g m = frs f' g' m
  | 0, _ => rfl
  | m + 1, h => by
    unfold frs
    rw [frs_congr m (fun k a b => h k a (by omega)), (h m (by omega) (by omega)).1, (h m (by omega) (by omega)).2]
/-- the nearest -/
noncomputable def nst (F : Int → Int) : Nat → Int
  | 0 => -1
  | m + 1 => if nst F m = -1 ∨ F m < F (nst F m) then m else nst F m
theorem nst_1 (F : Int → Int) {k : Int} (h : 0 ≤ k) : nst F (k + 1).toNat = if nst F k.toNat = -1 ∨ F k < F (nst F k.toNat) then k else nst F k.toNat := by
  obtain ⟨m, rfl⟩ : ∃ m : Nat, k = m := ⟨k.toNat, by omega⟩
  have : ((m : Int) + 1).toNat = m + 1 := by omega
  rw [this]
  rfl
theorem nst_r (F : Int → Int) : ∀ m : Nat, -1 ≤ nst F m ∧ nst F m < m ∨ nst F m = -1
  | 0 => Or.inr rfl
  | m + 1 => by
    have := nst_r F m
    unfold nst
    split <;> omega
theorem nst_congr {F G : Int → Int} : ∀ m : Nat, (∀ k : Int, 0 ≤ k → k < m → F k = G k) → nst F m = nst G m
  | 0, _ => rfl
  | m + 1, h => by
    have e := nst_congr m (fun k a b => h k a (by omega))
    unfold nst
    rw [← e, h m (by omega) (by omega)]
    rcases nst_r F m with z | z
    · by_cases y : nst F m = -1
      · rw [if_pos (Or.inl y), if_pos (Or.inl y)]
      · rw [h (nst F m) (by omega) (by omega)]
    · rw [if_pos (Or.inl z), if_pos (Or.inl z)]
set_option maxHeartbeats 1000000 in
theorem c_farness (d b : Nat) (h : xH) (k : Int) (hk : 0 ≤ k ∧ k < 300) (hn : 0 ≤ h 1 2 ∧ h 1 2 ≤ 12) (hr : ∀ e, 0 ≤ e → e < h 1 2 → xr (h 24 (k * 12 + e)) ∧ xr (h 6 e)) {Q : xO → xH → Prop} (hQ : Q (.inl (some (.inl (frs (fun e => h 24 (k * 12 + e)) (h 6) (h 1 2).toNat)))) h) : xRn G0 MT (d + 2) b 22 [.inr (.inr 9), .inl k] h Q := by
  refine R_of (M := mX1_farness) rfl (Nat.le_of_ble_eq_true rfl) ?_
  show xEx G0 cdX1_farness (some .int) (xRn G0 MT (d + 1)) Q b 0 [some (.inr (.inr 9)), some (.inl k), none, none, none, none, none, none] [] h
  refine E_s 4 (i' := 4) (ls' := [some (.inr (.inr 9)), some (.inl k), some (.inl 0), some (.inl 0), none, none, none, none]) (sk' := []) (h' := h) rfl ?_
  have key4 : ∀ (n : Nat) (s9 e : Int) (v4 v6 : Option xV), (0 ≤ e) → (e ≤ h 1 2) → (s9 = frs (fun e => h 24 (k * 12 + e)) (h 6) e.toNat) → ((h 1 2 - e).toNat) < n → xEx G0 cdX1_farness (some .int) (xRn G0 MT (d + 1)) Q b 4 [some (.inr (.inr 9)), some (.inl k), some (.inl s9), some (.inl e), v4, none, v6, none] [] h := by
    intro n
    induction n with
    | zero => intro s9 e v4 v6 _ _ _ hm; exact absurd hm (Nat.not_lt_zero _)
    | succ n ih4 =>
      intro s9 e v4 v6 he0 he9 hs9 hm4
      refine E_s 4 (i' := 8) (ls' := [some (.inr (.inr 9)), some (.inl k), some (.inl s9), some (.inl e), v4, none, v6, none]) (sk' := [.inl (h 1 2), .inl e]) (h' := h) rfl ?_
      refine E_b (x := (.if_icmp .ge 68, 46, [], [])) rfl rfl (fun c8 => ?_) (fun c8 => ?_)
      · rw [c_ge (by first | assumption | (refine ⟨?_, ?_⟩ <;> omega) | (simp only [xr] at *; omega)) (by first | assumption | (refine ⟨?_, ?_⟩ <;> omega) | (simp only [xr] at *; omega))] at c8
        simp only [decide_eq_true_eq, decide_eq_false_iff_not, Decidable.not_not] at c8
        show xEx G0 cdX1_farness (some .int) (xRn G0 MT (d + 1)) Q b 46 [some (.inr (.inr 9)), some (.inl k), some (.inl s9), some (.inl e), v4, none, v6, none] [] h
        refine E_s 1 (i' := 47) (ls' := [some (.inr (.inr 9)), some (.inl k), some (.inl s9), some (.inl e), v4, none, v6, none]) (sk' := [.inl s9]) (h' := h) rfl ?_
        exact E_ret (x := (.ireturn, 0, [], [])) (v := some (.inl s9)) rfl (Or.inl rfl) (by
          have e9 : e = h 1 2 := by omega
          rw [hs9, e9]
          exact hQ)
      · rw [c_ge (by first | assumption | (refine ⟨?_, ?_⟩ <;> omega) | (simp only [xr] at *; omega)) (by first | assumption | (refine ⟨?_, ?_⟩ <;> omega) | (simp only [xr] at *; omega))] at c8
        simp only [decide_eq_true_eq, decide_eq_false_iff_not, Decidable.not_not] at c8
        show xEx G0 cdX1_farness (some .int) (xRn G0 MT (d + 1)) Q b 9 [some (.inr (.inr 9)), some (.inl k), some (.inl s9), some (.inl e), v4, none, v6, none] [] h
        obtain ⟨r1, r2⟩ := hr e he0 (by omega)
        have p1 := r1.1
        have p2 := r1.2
        have p3 := r2.1
        have p4 := r2.2
        have w1 : w32 (h 24 (k * 12 + e)) = h 24 (k * 12 + e) := w32_id r1
        have w2 : w32 (h 6 e) = h 6 e := w32_id r2
        have x1 := xcmp_i (a := w32 (h 24 (k * 12 + e)) - w32 (h 6 e)) (b := 0) (by omega) (by omega)
        have x2 := xcmp_i (a := w32 (h 24 (k * 12 + e)) - w32 (h 6 e)) (b := 1000000) (by omega) (by omega)
        have x3 := xcmp_i (a := -(w32 (h 24 (k * 12 + e)) - w32 (h 6 e))) (b := 1000000) (by omega) (by omega)
        refine E_s 3 (i' := 12) (ls' := [some (.inr (.inr 9)), some (.inl k), some (.inl s9), some (.inl e), v4, none, v6, none]) (sk' := [.inl e, .inl k, .inr (.inr 9)]) (h' := h) rfl ?_
        refine E_ci (x := (.invokevirtual 126, 2, [(1, 19)], [0])) (r := (h 24 (k * 12 + e))) (h' := h) rfl rfl (Nat.le_of_ble_eq_true rfl) (c_outputOn d 0 h k e ⟨by omega, by omega⟩ ⟨by omega, by omega⟩ ⟨rfl, rfl⟩) ?_
        show xEx G0 cdX1_farness (some .int) (xRn G0 MT (d + 1)) Q b 13 [some (.inr (.inr 9)), some (.inl k), some (.inl s9), some (.inl e), v4, none, v6, none] [.inl (h 24 (k * 12 + e))] h
        refine E_s 5 (i' := 18) (ls' := [some (.inr (.inr 9)), some (.inl k), some (.inl s9), some (.inl e), v4, none, v6, none]) (sk' := [.inl 3, .inr (.inr 2), .inr (.inl (w32 (h 24 (k * 12 + e))))]) (h' := h) rfl ?_
        refine E_ald (x := (.aaload, 0, [], [])) 3 rfl rfl rfl (rfl) rfl ?_
        show xEx G0 cdX1_farness (some .int) (xRn G0 MT (d + 1)) Q b 19 [some (.inr (.inr 9)), some (.inl k), some (.inl s9), some (.inl e), v4, none, v6, none] [.inr (.inr 6), .inr (.inl (w32 (h 24 (k * 12 + e))))] h
        refine E_s 1 (i' := 20) (ls' := [some (.inr (.inr 9)), some (.inl k), some (.inl s9), some (.inl e), v4, none, v6, none]) (sk' := [.inl e, .inr (.inr 6), .inr (.inl (w32 (h 24 (k * 12 + e))))]) (h' := h) rfl ?_
        refine E_ld (x := (.iaload, 0, [], [])) (ty := .int) (n := 12) rfl rfl rfl (by omega) (by omega) ?_
        show xEx G0 cdX1_farness (some .int) (xRn G0 MT (d + 1)) Q b 21 [some (.inr (.inr 9)), some (.inl k), some (.inl s9), some (.inl e), v4, none, v6, none] [.inl (h 6 e), .inr (.inl (w32 (h 24 (k * 12 + e))))] h
        refine E_s 6 (i' := 27) (ls' := [some (.inr (.inr 9)), some (.inl k), some (.inl s9), some (.inl e), some (.inr (.inl ((w32 (h 24 (k * 12 + e))) - (w32 (h 6 e))))), none, v6, none]) (sk' := [.inl (xcmp ((w32 (h 24 (k * 12 + e))) - (w32 (h 6 e))) 0)]) (h' := h) rfl ?_
        refine E_b (x := (.ifCond .ge 9, 31, [], [])) rfl rfl (fun c27 => ?_) (fun c27 => ?_)
        · rw [c_ge (by first | exact xcmp_r _ _ | exact ⟨by omega, by omega⟩) (by first | exact xcmp_r _ _ | exact ⟨by omega, by omega⟩)] at c27
          simp only [decide_eq_true_eq, decide_eq_false_iff_not, Decidable.not_not] at c27
          show xEx G0 cdX1_farness (some .int) (xRn G0 MT (d + 1)) Q b 31 [some (.inr (.inr 9)), some (.inl k), some (.inl s9), some (.inl e), some (.inr (.inl ((w32 (h 24 (k * 12 + e))) - (w32 (h 6 e))))), none, v6, none] [] h
          refine E_s 6 (i' := 37) (ls' := [some (.inr (.inr 9)), some (.inl k), some (.inl s9), some (.inl e), some (.inr (.inl ((w32 (h 24 (k * 12 + e))) - (w32 (h 6 e))))), none, some (.inr (.inl ((w32 (h 24 (k * 12 + e))) - (w32 (h 6 e))))), none]) (sk' := [.inl (xcmp ((w32 (h 24 (k * 12 + e))) - (w32 (h 6 e))) 1000000), .inl s9]) (h' := h) rfl ?_
          refine E_b (x := (.ifCond .le 8, 40, [], [])) rfl rfl (fun c37 => ?_) (fun c37 => ?_)
          · rw [c_le (by first | exact xcmp_r _ _ | exact ⟨by omega, by omega⟩) (by first | exact xcmp_r _ _ | exact ⟨by omega, by omega⟩)] at c37
            simp only [decide_eq_true_eq, decide_eq_false_iff_not, Decidable.not_not] at c37
            show xEx G0 cdX1_farness (some .int) (xRn G0 MT (d + 1)) Q b 40 [some (.inr (.inr 9)), some (.inl k), some (.inl s9), some (.inl e), some (.inr (.inl ((w32 (h 24 (k * 12 + e))) - (w32 (h 6 e))))), none, some (.inr (.inl ((w32 (h 24 (k * 12 + e))) - (w32 (h 6 e))))), none] [.inl s9] h
            refine E_s 6 (i' := 4) (ls' := [some (.inr (.inr 9)), some (.inl k), some (.inl (s9 + ((w32 (h 24 (k * 12 + e))) - (w32 (h 6 e))))), some (.inl (e + 1)), some (.inr (.inl ((w32 (h 24 (k * 12 + e))) - (w32 (h 6 e))))), none, some (.inr (.inl ((w32 (h 24 (k * 12 + e))) - (w32 (h 6 e))))), none]) (sk' := []) (h' := h) rfl ?_
            exact ih4 _ (e + 1) _ _ (by omega) (by omega) (by rw [frs_1 _ _ he0, hs9, dst_v (r := ((w32 (h 24 (k * 12 + e))) - (w32 (h 6 e))))]; first | omega | (refine Or.inl ⟨?_, ?_⟩ <;> omega)) (by omega)
          · rw [c_le (by first | exact xcmp_r _ _ | exact ⟨by omega, by omega⟩) (by first | exact xcmp_r _ _ | exact ⟨by omega, by omega⟩)] at c37
            simp only [decide_eq_true_eq, decide_eq_false_iff_not, Decidable.not_not] at c37
            show xEx G0 cdX1_farness (some .int) (xRn G0 MT (d + 1)) Q b 38 [some (.inr (.inr 9)), some (.inl k), some (.inl s9), some (.inl e), some (.inr (.inl ((w32 (h 24 (k * 12 + e))) - (w32 (h 6 e))))), none, some (.inr (.inl ((w32 (h 24 (k * 12 + e))) - (w32 (h 6 e))))), none] [.inl s9] h
            refine E_s 6 (i' := 4) (ls' := [some (.inr (.inr 9)), some (.inl k), some (.inl (s9 + 1000000)), some (.inl (e + 1)), some (.inr (.inl ((w32 (h 24 (k * 12 + e))) - (w32 (h 6 e))))), none, some (.inr (.inl ((w32 (h 24 (k * 12 + e))) - (w32 (h 6 e))))), none]) (sk' := []) (h' := h) rfl ?_
            exact ih4 _ (e + 1) _ _ (by omega) (by omega) (by rw [frs_1 _ _ he0, hs9, dst_v (r := 1000000)]; first | omega | (refine Or.inl ⟨?_, ?_⟩ <;> omega)) (by omega)
        · rw [c_ge (by first | exact xcmp_r _ _ | exact ⟨by omega, by omega⟩) (by first | exact xcmp_r _ _ | exact ⟨by omega, by omega⟩)] at c27
          simp only [decide_eq_true_eq, decide_eq_false_iff_not, Decidable.not_not] at c27
          show xEx G0 cdX1_farness (some .int) (xRn G0 MT (d + 1)) Q b 28 [some (.inr (.inr 9)), some (.inl k), some (.inl s9), some (.inl e), some (.inr (.inl ((w32 (h 24 (k * 12 + e))) - (w32 (h 6 e))))), none, v6, none] [] h
          refine E_s 8 (i' := 37) (ls' := [some (.inr (.inr 9)), some (.inl k), some (.inl s9), some (.inl e), some (.inr (.inl ((w32 (h 24 (k * 12 + e))) - (w32 (h 6 e))))), none, some (.inr (.inl (-((w32 (h 24 (k * 12 + e))) - (w32 (h 6 e)))))), none]) (sk' := [.inl (xcmp (-((w32 (h 24 (k * 12 + e))) - (w32 (h 6 e)))) 1000000), .inl s9]) (h' := h) rfl ?_
          refine E_b (x := (.ifCond .le 8, 40, [], [])) rfl rfl (fun c37 => ?_) (fun c37 => ?_)
          · rw [c_le (by first | exact xcmp_r _ _ | exact ⟨by omega, by omega⟩) (by first | exact xcmp_r _ _ | exact ⟨by omega, by omega⟩)] at c37
            simp only [decide_eq_true_eq, decide_eq_false_iff_not, Decidable.not_not] at c37
            show xEx G0 cdX1_farness (some .int) (xRn G0 MT (d + 1)) Q b 40 [some (.inr (.inr 9)), some (.inl k), some (.inl s9), some (.inl e), some (.inr (.inl ((w32 (h 24 (k * 12 + e))) - (w32 (h 6 e))))), none, some (.inr (.inl (-((w32 (h 24 (k * 12 + e))) - (w32 (h 6 e)))))), none] [.inl s9] h
            refine E_s 6 (i' := 4) (ls' := [some (.inr (.inr 9)), some (.inl k), some (.inl (s9 + (-((w32 (h 24 (k * 12 + e))) - (w32 (h 6 e)))))), some (.inl (e + 1)), some (.inr (.inl ((w32 (h 24 (k * 12 + e))) - (w32 (h 6 e))))), none, some (.inr (.inl (-((w32 (h 24 (k * 12 + e))) - (w32 (h 6 e)))))), none]) (sk' := []) (h' := h) rfl ?_
            exact ih4 _ (e + 1) _ _ (by omega) (by omega) (by rw [frs_1 _ _ he0, hs9, dst_v (r := (-((w32 (h 24 (k * 12 + e))) - (w32 (h 6 e)))))]; first | omega | (refine Or.inl ⟨?_, ?_⟩ <;> omega)) (by omega)
          · rw [c_le (by first | exact xcmp_r _ _ | exact ⟨by omega, by omega⟩) (by first | exact xcmp_r _ _ | exact ⟨by omega, by omega⟩)] at c37
            simp only [decide_eq_true_eq, decide_eq_false_iff_not, Decidable.not_not] at c37
            show xEx G0 cdX1_farness (some .int) (xRn G0 MT (d + 1)) Q b 38 [some (.inr (.inr 9)), some (.inl k), some (.inl s9), some (.inl e), some (.inr (.inl ((w32 (h 24 (k * 12 + e))) - (w32 (h 6 e))))), none, some (.inr (.inl (-((w32 (h 24 (k * 12 + e))) - (w32 (h 6 e)))))), none] [.inl s9] h
            refine E_s 6 (i' := 4) (ls' := [some (.inr (.inr 9)), some (.inl k), some (.inl (s9 + 1000000)), some (.inl (e + 1)), some (.inr (.inl ((w32 (h 24 (k * 12 + e))) - (w32 (h 6 e))))), none, some (.inr (.inl (-((w32 (h 24 (k * 12 + e))) - (w32 (h 6 e)))))), none]) (sk' := []) (h' := h) rfl ?_
            exact ih4 _ (e + 1) _ _ (by omega) (by omega) (by rw [frs_1 _ _ he0, hs9, dst_v (r := 1000000)]; first | omega | (refine Or.inl ⟨?_, ?_⟩ <;> omega)) (by omega)
  exact key4 _ 0 0 none none (by omega) (by omega) rfl (Nat.lt_succ_self _)
set_option maxHeartbeats 1000000 in
theorem m_farOf (d b : Nat) (h : xH) (k : Int) (hk : 0 ≤ k ∧ k < 300) (hn : 0 ≤ h 66 4 ∧ h 66 4 ≤ 12) (hr : ∀ e, 0 ≤ e → e < h 66 4 → xr (h 77 (12 * k + e)) ∧ xr (h 67 (4 * e + 3))) {Q : xO → xH → Prop} (hQ : Q (.inl (some (.inl (frs (fun e => h 77 (12 * k + e)) (fun e => h 67 (4 * e + 3)) (h 66 4).toNat)))) h) : xRn G0 MT (d + 1) b 223 [.inr (.inr 66), .inl k] h Q := by
  refine R_of (M := mX12_farOf) rfl (Nat.le_of_ble_eq_true rfl) ?_
  show xEx G0 cdX12_farOf (some .int) (xRn G0 MT d) Q b 0 [some (.inr (.inr 66)), some (.inl k), none, none, none, none, none, none] [] h
  refine E_s 4 (i' := 4) (ls' := [some (.inr (.inr 66)), some (.inl k), some (.inl 0), some (.inl 0), none, none, none, none]) (sk' := []) (h' := h) rfl ?_
  have key4 : ∀ (n : Nat) (s9 e : Int) (v4 v6 : Option xV), (0 ≤ e) → (e ≤ h 66 4) → (s9 = frs (fun e => h 77 (12 * k + e)) (fun e => h 67 (4 * e + 3)) e.toNat) → ((h 66 4 - e).toNat) < n → xEx G0 cdX12_farOf (some .int) (xRn G0 MT d) Q b 4 [some (.inr (.inr 66)), some (.inl k), some (.inl s9), some (.inl e), v4, none, v6, none] [] h := by
    intro n
    induction n with
    | zero => intro s9 e v4 v6 _ _ _ hm; exact absurd hm (Nat.not_lt_zero _)
    | succ n ih4 =>
      intro s9 e v4 v6 he0 he9 hs9 hm4
      refine E_s 3 (i' := 7) (ls' := [some (.inr (.inr 66)), some (.inl k), some (.inl s9), some (.inl e), v4, none, v6, none]) (sk' := [.inl (h 66 4), .inl e]) (h' := h) rfl ?_
      refine E_b (x := (.if_icmp .ge 73, 50, [], [])) rfl rfl (fun c7 => ?_) (fun c7 => ?_)
      · rw [c_ge (by first | assumption | (refine ⟨?_, ?_⟩ <;> omega) | (simp only [xr] at *; omega)) (by first | assumption | (refine ⟨?_, ?_⟩ <;> omega) | (simp only [xr] at *; omega))] at c7
        simp only [decide_eq_true_eq, decide_eq_false_iff_not, Decidable.not_not] at c7
        show xEx G0 cdX12_farOf (some .int) (xRn G0 MT d) Q b 50 [some (.inr (.inr 66)), some (.inl k), some (.inl s9), some (.inl e), v4, none, v6, none] [] h
        refine E_s 1 (i' := 51) (ls' := [some (.inr (.inr 66)), some (.inl k), some (.inl s9), some (.inl e), v4, none, v6, none]) (sk' := [.inl s9]) (h' := h) rfl ?_
        exact E_ret (x := (.ireturn, 0, [], [])) (v := some (.inl s9)) rfl (Or.inl rfl) (by
          have e9 : e = h 66 4 := by omega
          rw [hs9, e9]
          exact hQ)
      · rw [c_ge (by first | assumption | (refine ⟨?_, ?_⟩ <;> omega) | (simp only [xr] at *; omega)) (by first | assumption | (refine ⟨?_, ?_⟩ <;> omega) | (simp only [xr] at *; omega))] at c7
        simp only [decide_eq_true_eq, decide_eq_false_iff_not, Decidable.not_not] at c7
        show xEx G0 cdX12_farOf (some .int) (xRn G0 MT d) Q b 8 [some (.inr (.inr 66)), some (.inl k), some (.inl s9), some (.inl e), v4, none, v6, none] [] h
        obtain ⟨r1, r2⟩ := hr e he0 (by omega)
        have p1 := r1.1
        have p2 := r1.2
        have p3 := r2.1
        have p4 := r2.2
        have w1 : w32 (h 77 (12 * k + e)) = h 77 (12 * k + e) := w32_id r1
        have w2 : w32 (h 67 (4 * e + 3)) = h 67 (4 * e + 3) := w32_id r2
        have x1 := xcmp_i (a := w32 (h 77 (12 * k + e)) - w32 (h 67 (4 * e + 3))) (b := 0) (by omega) (by omega)
        have x2 := xcmp_i (a := w32 (h 77 (12 * k + e)) - w32 (h 67 (4 * e + 3))) (b := 1000000) (by omega) (by omega)
        have x3 := xcmp_i (a := -(w32 (h 77 (12 * k + e)) - w32 (h 67 (4 * e + 3)))) (b := 1000000) (by omega) (by omega)
        refine E_s 7 (i' := 15) (ls' := [some (.inr (.inr 66)), some (.inl k), some (.inl s9), some (.inl e), v4, none, v6, none]) (sk' := [.inl ((12 * k) + e), .inr (.inr 77)]) (h' := h) rfl ?_
        refine E_ld (x := (.iaload, 0, [], [])) (ty := .int) (n := 3600) rfl rfl rfl (by omega) (by omega) ?_
        show xEx G0 cdX12_farOf (some .int) (xRn G0 MT d) Q b 16 [some (.inr (.inr 66)), some (.inl k), some (.inl s9), some (.inl e), v4, none, v6, none] [.inl (h 77 ((12 * k) + e))] h
        refine E_s 8 (i' := 24) (ls' := [some (.inr (.inr 66)), some (.inl k), some (.inl s9), some (.inl e), v4, none, v6, none]) (sk' := [.inl ((4 * e) + 3), .inr (.inr 67), .inr (.inl (w32 (h 77 ((12 * k) + e))))]) (h' := h) rfl ?_
        refine E_ld (x := (.iaload, 0, [], [])) (ty := .int) (n := 48) rfl rfl rfl (by omega) (by omega) ?_
        show xEx G0 cdX12_farOf (some .int) (xRn G0 MT d) Q b 25 [some (.inr (.inr 66)), some (.inl k), some (.inl s9), some (.inl e), v4, none, v6, none] [.inl (h 67 ((4 * e) + 3)), .inr (.inl (w32 (h 77 ((12 * k) + e))))] h
        refine E_s 6 (i' := 31) (ls' := [some (.inr (.inr 66)), some (.inl k), some (.inl s9), some (.inl e), some (.inr (.inl ((w32 (h 77 ((12 * k) + e))) - (w32 (h 67 ((4 * e) + 3)))))), none, v6, none]) (sk' := [.inl (xcmp ((w32 (h 77 ((12 * k) + e))) - (w32 (h 67 ((4 * e) + 3)))) 0)]) (h' := h) rfl ?_
        refine E_b (x := (.ifCond .ge 9, 35, [], [])) rfl rfl (fun c31 => ?_) (fun c31 => ?_)
        · rw [c_ge (by first | exact xcmp_r _ _ | exact ⟨by omega, by omega⟩) (by first | exact xcmp_r _ _ | exact ⟨by omega, by omega⟩)] at c31
          simp only [decide_eq_true_eq, decide_eq_false_iff_not, Decidable.not_not] at c31
          show xEx G0 cdX12_farOf (some .int) (xRn G0 MT d) Q b 35 [some (.inr (.inr 66)), some (.inl k), some (.inl s9), some (.inl e), some (.inr (.inl ((w32 (h 77 ((12 * k) + e))) - (w32 (h 67 ((4 * e) + 3)))))), none, v6, none] [] h
          refine E_s 6 (i' := 41) (ls' := [some (.inr (.inr 66)), some (.inl k), some (.inl s9), some (.inl e), some (.inr (.inl ((w32 (h 77 ((12 * k) + e))) - (w32 (h 67 ((4 * e) + 3)))))), none, some (.inr (.inl ((w32 (h 77 ((12 * k) + e))) - (w32 (h 67 ((4 * e) + 3)))))), none]) (sk' := [.inl (xcmp ((w32 (h 77 ((12 * k) + e))) - (w32 (h 67 ((4 * e) + 3)))) 1000000), .inl s9]) (h' := h) rfl ?_
          refine E_b (x := (.ifCond .le 9, 44, [], [])) rfl rfl (fun c41 => ?_) (fun c41 => ?_)
          · rw [c_le (by first | exact xcmp_r _ _ | exact ⟨by omega, by omega⟩) (by first | exact xcmp_r _ _ | exact ⟨by omega, by omega⟩)] at c41
            simp only [decide_eq_true_eq, decide_eq_false_iff_not, Decidable.not_not] at c41
            show xEx G0 cdX12_farOf (some .int) (xRn G0 MT d) Q b 44 [some (.inr (.inr 66)), some (.inl k), some (.inl s9), some (.inl e), some (.inr (.inl ((w32 (h 77 ((12 * k) + e))) - (w32 (h 67 ((4 * e) + 3)))))), none, some (.inr (.inl ((w32 (h 77 ((12 * k) + e))) - (w32 (h 67 ((4 * e) + 3)))))), none] [.inl s9] h
            refine E_s 6 (i' := 4) (ls' := [some (.inr (.inr 66)), some (.inl k), some (.inl (s9 + ((w32 (h 77 ((12 * k) + e))) - (w32 (h 67 ((4 * e) + 3)))))), some (.inl (e + 1)), some (.inr (.inl ((w32 (h 77 ((12 * k) + e))) - (w32 (h 67 ((4 * e) + 3)))))), none, some (.inr (.inl ((w32 (h 77 ((12 * k) + e))) - (w32 (h 67 ((4 * e) + 3)))))), none]) (sk' := []) (h' := h) rfl ?_
            exact ih4 _ (e + 1) _ _ (by omega) (by omega) (by rw [frs_1 _ _ he0, hs9, dst_v (r := ((w32 (h 77 ((12 * k) + e))) - (w32 (h 67 ((4 * e) + 3)))))]; first | omega | (refine Or.inl ⟨?_, ?_⟩ <;> omega)) (by omega)
          · rw [c_le (by first | exact xcmp_r _ _ | exact ⟨by omega, by omega⟩) (by first | exact xcmp_r _ _ | exact ⟨by omega, by omega⟩)] at c41
            simp only [decide_eq_true_eq, decide_eq_false_iff_not, Decidable.not_not] at c41
            show xEx G0 cdX12_farOf (some .int) (xRn G0 MT d) Q b 42 [some (.inr (.inr 66)), some (.inl k), some (.inl s9), some (.inl e), some (.inr (.inl ((w32 (h 77 ((12 * k) + e))) - (w32 (h 67 ((4 * e) + 3)))))), none, some (.inr (.inl ((w32 (h 77 ((12 * k) + e))) - (w32 (h 67 ((4 * e) + 3)))))), none] [.inl s9] h
            refine E_s 6 (i' := 4) (ls' := [some (.inr (.inr 66)), some (.inl k), some (.inl (s9 + 1000000)), some (.inl (e + 1)), some (.inr (.inl ((w32 (h 77 ((12 * k) + e))) - (w32 (h 67 ((4 * e) + 3)))))), none, some (.inr (.inl ((w32 (h 77 ((12 * k) + e))) - (w32 (h 67 ((4 * e) + 3)))))), none]) (sk' := []) (h' := h) rfl ?_
            exact ih4 _ (e + 1) _ _ (by omega) (by omega) (by rw [frs_1 _ _ he0, hs9, dst_v (r := 1000000)]; first | omega | (refine Or.inl ⟨?_, ?_⟩ <;> omega)) (by omega)
        · rw [c_ge (by first | exact xcmp_r _ _ | exact ⟨by omega, by omega⟩) (by first | exact xcmp_r _ _ | exact ⟨by omega, by omega⟩)] at c31
          simp only [decide_eq_true_eq, decide_eq_false_iff_not, Decidable.not_not] at c31
          show xEx G0 cdX12_farOf (some .int) (xRn G0 MT d) Q b 32 [some (.inr (.inr 66)), some (.inl k), some (.inl s9), some (.inl e), some (.inr (.inl ((w32 (h 77 ((12 * k) + e))) - (w32 (h 67 ((4 * e) + 3)))))), none, v6, none] [] h
          refine E_s 8 (i' := 41) (ls' := [some (.inr (.inr 66)), some (.inl k), some (.inl s9), some (.inl e), some (.inr (.inl ((w32 (h 77 ((12 * k) + e))) - (w32 (h 67 ((4 * e) + 3)))))), none, some (.inr (.inl (-((w32 (h 77 ((12 * k) + e))) - (w32 (h 67 ((4 * e) + 3))))))), none]) (sk' := [.inl (xcmp (-((w32 (h 77 ((12 * k) + e))) - (w32 (h 67 ((4 * e) + 3))))) 1000000), .inl s9]) (h' := h) rfl ?_
          refine E_b (x := (.ifCond .le 9, 44, [], [])) rfl rfl (fun c41 => ?_) (fun c41 => ?_)
          · rw [c_le (by first | exact xcmp_r _ _ | exact ⟨by omega, by omega⟩) (by first | exact xcmp_r _ _ | exact ⟨by omega, by omega⟩)] at c41
            simp only [decide_eq_true_eq, decide_eq_false_iff_not, Decidable.not_not] at c41
            show xEx G0 cdX12_farOf (some .int) (xRn G0 MT d) Q b 44 [some (.inr (.inr 66)), some (.inl k), some (.inl s9), some (.inl e), some (.inr (.inl ((w32 (h 77 ((12 * k) + e))) - (w32 (h 67 ((4 * e) + 3)))))), none, some (.inr (.inl (-((w32 (h 77 ((12 * k) + e))) - (w32 (h 67 ((4 * e) + 3))))))), none] [.inl s9] h
            refine E_s 6 (i' := 4) (ls' := [some (.inr (.inr 66)), some (.inl k), some (.inl (s9 + (-((w32 (h 77 ((12 * k) + e))) - (w32 (h 67 ((4 * e) + 3))))))), some (.inl (e + 1)), some (.inr (.inl ((w32 (h 77 ((12 * k) + e))) - (w32 (h 67 ((4 * e) + 3)))))), none, some (.inr (.inl (-((w32 (h 77 ((12 * k) + e))) - (w32 (h 67 ((4 * e) + 3))))))), none]) (sk' := []) (h' := h) rfl ?_
            exact ih4 _ (e + 1) _ _ (by omega) (by omega) (by rw [frs_1 _ _ he0, hs9, dst_v (r := (-((w32 (h 77 ((12 * k) + e))) - (w32 (h 67 ((4 * e) + 3))))))]; first | omega | (refine Or.inl ⟨?_, ?_⟩ <;> omega)) (by omega)
          · rw [c_le (by first | exact xcmp_r _ _ | exact ⟨by omega, by omega⟩) (by first | exact xcmp_r _ _ | exact ⟨by omega, by omega⟩)] at c41
            simp only [decide_eq_true_eq, decide_eq_false_iff_not, Decidable.not_not] at c41
            show xEx G0 cdX12_farOf (some .int) (xRn G0 MT d) Q b 42 [some (.inr (.inr 66)), some (.inl k), some (.inl s9), some (.inl e), some (.inr (.inl ((w32 (h 77 ((12 * k) + e))) - (w32 (h 67 ((4 * e) + 3)))))), none, some (.inr (.inl (-((w32 (h 77 ((12 * k) + e))) - (w32 (h 67 ((4 * e) + 3))))))), none] [.inl s9] h
            refine E_s 6 (i' := 4) (ls' := [some (.inr (.inr 66)), some (.inl k), some (.inl (s9 + 1000000)), some (.inl (e + 1)), some (.inr (.inl ((w32 (h 77 ((12 * k) + e))) - (w32 (h 67 ((4 * e) + 3)))))), none, some (.inr (.inl (-((w32 (h 77 ((12 * k) + e))) - (w32 (h 67 ((4 * e) + 3))))))), none]) (sk' := []) (h' := h) rfl ?_
            exact ih4 _ (e + 1) _ _ (by omega) (by omega) (by rw [frs_1 _ _ he0, hs9, dst_v (r := 1000000)]; first | omega | (refine Or.inl ⟨?_, ?_⟩ <;> omega)) (by omega)
  exact key4 _ 0 0 none none (by omega) (by omega) rfl (Nat.lt_succ_self _)
