def hm (f : Int → Int) : Nat → Int
  | 0 => 0
  | e + 1 => w32 (xxor (hm f e) (f e) * (-1640531535))
/-- the slot of OUTPUTS -/
def HS (n : Int) (f : Int → Int) : Int := xushr (hm f n.toNat) 23
theorem hm_congr {f g : Int → Int} : ∀ (k : Nat), (∀ e : Nat, e < k → f e = g e) → hm f k = hm g k
  | 0, _ => rfl
  | k + 1, h => by
    simp only [hm]
    rw [hm_congr k (fun e he => h e (by omega)), h k (by omega)]
theorem HS_congr {n : Int} {f g : Int → Int} (h : ∀ e : Int, 0 ≤ e → e < n → f e = g e) : HS n f = HS n g := by
  unfold HS
  rw [hm_congr n.toNat (fun e he => h e (by omega) (by omega))]
theorem ofInt_w32 (a : Int) : Int32.ofInt (w32 a) = Int32.ofInt a := by unfold w32; rw [Int32.ofInt_toInt]
theorem xxor_w (a b : Int) : xxor (w32 a) b = xxor a b := by unfold xxor; rw [ofInt_w32]
theorem xushr_w (a b : Int) : xushr (w32 a) b = xushr a b := by unfold xushr; rw [ofInt_w32]
theorem xushr_r (a : Int) : 0 ≤ xushr a 23 ∧ xushr a 23 ≤ 511 := by
  unfold xushr
  have h := pk_ushr (Int32.ofInt a) (Int32.ofInt 23) 23 (by decide)
  generalize ((Int32.ofInt a).toUInt32 >>> ((Int32.ofInt 23).toUInt32 &&& Int32.toUInt32 31)).toInt32 = z at h
  have h2 : (Int32.ofInt a).toBitVec.toNat < 2 ^ 32 := (Int32.ofInt a).toBitVec.isLt
  have h3 : z.toBitVec.toNat < 512 := by rw [h]; omega
  have h4 : z.toInt = (z.toBitVec.toNat : Int) := by
    show z.toBitVec.toInt = _
    rw [BitVec.toInt_eq_toNat_cond, if_pos (by omega)]
  omega
theorem HS_r (n : Int) (f : Int → Int) : 0 ≤ HS n f ∧ HS n f ≤ 511 := xushr_r _
theorem hm_s {f : Int → Int} {m e : Int} (he : 0 ≤ e) (h : w32 m = hm f e.toNat) : w32 (xxor m (f e) * (-1640531535)) = hm f (e + 1).toNat := by
  have e1 : (e + 1).toNat = e.toNat + 1 := by omega
  have e2 : ((e.toNat : Nat) : Int) = e := Int.toNat_of_nonneg he
  rw [e1]
  simp only [hm, e2, ← h, xxor_w]
/-- what reckon leaves behind: the row behind the last KEPT one, and its slot -/
def RK (h h' : xH) (o : Int → Int) : Prop := (∀ a, a ≠ 24 → a ≠ 9 → h' a = h a) ∧ (∀ j, j ≠ 23 → h' 9 j = h 9 j) ∧ (∀ j, ¬ (h 9 9 * 12 ≤ j ∧ j < h 9 9 * 12 + h 1 2) → h' 24 j = h 24 j) ∧ (∀ e, 0 ≤ e → e < h 1 2 → h' 24 (h 9 9 * 12 + e) = o e) ∧ h' 9 23 = HS (h 1 2) o
set_option maxHeartbeats 1000000 in
theorem c_slotOf (d b : Nat) (h : xH) (row : Int) (hn : 0 ≤ h 1 2 ∧ h 1 2 ≤ 12) (hrow : 0 ≤ row ∧ row ≤ 3600) {Q : xO → xH → Prop} (hQ : Q (.inl (some (.inl (HS (h 1 2) (fun e => h 24 (row + e)))))) h) : xRn G0 MT (d + 1) b 12 [.inr (.inr 9), .inl row] h Q := by
  refine R_of (M := mX1_slotOf) rfl (Nat.le_of_ble_eq_true rfl) ?_
  show xEx G0 cdX1_slotOf (some .int) (xRn G0 MT d) Q b 0 [some (.inr (.inr 9)), some (.inl row), none, none] [] h
  refine E_s 4 (i' := 4) (ls' := [some (.inr (.inr 9)), some (.inl row), some (.inl 0), some (.inl 0)]) (sk' := []) (h' := h) rfl ?_
  have key4 : ∀ (n : Nat) (m e : Int), (0 ≤ e) → (e ≤ h 1 2) → (w32 m = hm (fun e => h 24 (row + e)) e.toNat) → ((h 1 2 - e).toNat) < n → xEx G0 cdX1_slotOf (some .int) (xRn G0 MT d) Q b 4 [some (.inr (.inr 9)), some (.inl row), some (.inl m), some (.inl e)] [] h := by
    intro n
    induction n with
    | zero => intro m e _ _ _ hm; exact absurd hm (Nat.not_lt_zero _)
    | succ n ih4 =>
      intro m e he0 he1 hmm hm4
      refine E_s 4 (i' := 8) (ls' := [some (.inr (.inr 9)), some (.inl row), some (.inl m), some (.inl e)]) (sk' := [.inl (h 1 2), .inl e]) (h' := h) rfl ?_
      refine E_b (x := (.if_icmp .ge 23, 22, [], [])) rfl rfl (fun c8 => ?_) (fun c8 => ?_)
      · rw [c_ge (by first | assumption | (refine ⟨?_, ?_⟩ <;> omega) | (simp only [xr] at *; omega)) (by first | assumption | (refine ⟨?_, ?_⟩ <;> omega) | (simp only [xr] at *; omega))] at c8
        simp only [decide_eq_true_eq, decide_eq_false_iff_not, Decidable.not_not] at c8
        show xEx G0 cdX1_slotOf (some .int) (xRn G0 MT d) Q b 22 [some (.inr (.inr 9)), some (.inl row), some (.inl m), some (.inl e)] [] h
        refine E_s 3 (i' := 25) (ls' := [some (.inr (.inr 9)), some (.inl row), some (.inl m), some (.inl e)]) (sk' := [.inl (xushr m 23)]) (h' := h) rfl ?_
        exact E_ret (x := (.ireturn, 0, [], [])) (v := some (.inl (xushr m 23))) rfl (Or.inl rfl) (by
          have e9 : e = h 1 2 := (by omega)
          rw [e9] at hmm
          rw [show xushr m 23 = HS (h 1 2) (fun e => h 24 (row + e)) by unfold HS; rw [← hmm, xushr_w]]
          exact hQ)
      · rw [c_ge (by first | assumption | (refine ⟨?_, ?_⟩ <;> omega) | (simp only [xr] at *; omega)) (by first | assumption | (refine ⟨?_, ?_⟩ <;> omega) | (simp only [xr] at *; omega))] at c8
        simp only [decide_eq_true_eq, decide_eq_false_iff_not, Decidable.not_not] at c8
        show xEx G0 cdX1_slotOf (some .int) (xRn G0 MT d) Q b 9 [some (.inr (.inr 9)), some (.inl row), some (.inl m), some (.inl e)] [] h
        refine E_s 6 (i' := 15) (ls' := [some (.inr (.inr 9)), some (.inl row), some (.inl m), some (.inl e)]) (sk' := [.inl (row + e), .inr (.inr 24), .inl m]) (h' := h) rfl ?_
        refine E_ld (x := (.iaload, 0, [], [])) (ty := .int) (n := 3612) rfl rfl rfl (by omega) (by omega) ?_
        show xEx G0 cdX1_slotOf (some .int) (xRn G0 MT d) Q b 16 [some (.inr (.inr 9)), some (.inl row), some (.inl m), some (.inl e)] [.inl (h 24 (row + e)), .inl m] h
        refine E_s 6 (i' := 4) (ls' := [some (.inr (.inr 9)), some (.inl row), some (.inl ((xxor m (h 24 (row + e))) * (-1640531535))), some (.inl (e + 1))]) (sk' := []) (h' := h) rfl ?_
        exact ih4 _ (e + 1) (by omega) (by omega) (hm_s (f := fun e => h 24 (row + e)) he0 hmm) (by omega)
  exact key4 _ 0 0 (by omega) (by omega) w32_0 (Nat.lt_succ_self _)
set_option maxHeartbeats 1000000 in
theorem c_reckon_in0 (d b : Nat) (h : xH) (b9 : Int) (hn : 0 ≤ h 1 2 ∧ h 1 2 ≤ 12) (hK : 0 ≤ h 9 9 ∧ h 9 9 ≤ 300) {Q : xO → xH → Prop} (hQ : ∀ h', RK h h' (fun e => h 3 e) → Q (.inl none) h') : xRn G0 MT (d + 2) b 11 [.inr (.inr 9), .inl 10, .inl 0, .inl b9] h Q := by
  refine R_of (M := mX1_reckon) rfl (Nat.le_of_ble_eq_true rfl) ?_
  show xEx G0 cdX1_reckon none (xRn G0 MT (d + 1)) Q b 0 [some (.inr (.inr 9)), some (.inl 10), some (.inl 0), some (.inl b9), none, none, none, none] [] h
  refine E_s 7 (i' := 7) (ls' := [some (.inr (.inr 9)), some (.inl 10), some (.inl 0), some (.inl b9), some (.inl ((h 9 9) * 12)), none, none, none]) (sk' := [.inl 10, .inl 10]) (h' := h) rfl ?_
  refine E_b (x := (.if_icmp .ne 32, 22, [], [])) rfl rfl (fun c7 => ?_) (fun c7 => ?_)
  · rw [c_ne (by first | assumption | (refine ⟨?_, ?_⟩ <;> omega) | (simp only [xr] at *; omega)) (by first | assumption | (refine ⟨?_, ?_⟩ <;> omega) | (simp only [xr] at *; omega))] at c7
    simp only [decide_eq_true_eq, decide_eq_false_iff_not, Decidable.not_not] at c7
    show xEx G0 cdX1_reckon none (xRn G0 MT (d + 1)) Q b 22 [some (.inr (.inr 9)), some (.inl 10), some (.inl 0), some (.inl b9), some (.inl ((h 9 9) * 12)), none, none, none] [] h
    exact absurd c7 (by decide)
  · rw [c_ne (by first | assumption | (refine ⟨?_, ?_⟩ <;> omega) | (simp only [xr] at *; omega)) (by first | assumption | (refine ⟨?_, ?_⟩ <;> omega) | (simp only [xr] at *; omega))] at c7
    simp only [decide_eq_true_eq, decide_eq_false_iff_not, Decidable.not_not] at c7
    show xEx G0 cdX1_reckon none (xRn G0 MT (d + 1)) Q b 8 [some (.inr (.inr 9)), some (.inl 10), some (.inl 0), some (.inl b9), some (.inl ((h 9 9) * 12)), none, none, none] [] h
    refine E_s 4 (i' := 12) (ls' := [some (.inr (.inr 9)), some (.inl 10), some (.inl 0), some (.inl b9), some (.inl ((h 9 9) * 12)), none, none, none]) (sk' := [.inl 0, .inr (.inr 2)]) (h' := h) rfl ?_
    refine E_ald (x := (.aaload, 0, [], [])) 0 rfl rfl rfl (rfl) rfl ?_
    show xEx G0 cdX1_reckon none (xRn G0 MT (d + 1)) Q b 13 [some (.inr (.inr 9)), some (.inl 10), some (.inl 0), some (.inl b9), some (.inl ((h 9 9) * 12)), none, none, none] [.inr (.inr 3)] h
    refine E_s 7 (i' := 20) (ls' := [some (.inr (.inr 9)), some (.inl 10), some (.inl 0), some (.inl b9), some (.inl ((h 9 9) * 12)), none, none, none]) (sk' := [.inl (h 1 2), .inl ((h 9 9) * 12), .inr (.inr 24), .inl 0, .inr (.inr 3)]) (h' := h) rfl ?_
    refine E_cpy (x := (.invokestatic 103, 0, [], [])) rfl rfl rfl rfl rfl rfl (by omega) (by omega) (by omega) (by omega) (by omega) (Nat.le_of_ble_eq_true rfl) ?_
    show xEx G0 cdX1_reckon none (xRn G0 MT (d + 1)) Q b 21 [some (.inr (.inr 9)), some (.inl 10), some (.inl 0), some (.inl b9), some (.inl ((h 9 9) * 12)), none, none, none] [] (xcpy h 3 0 24 ((h 9 9) * 12) (h 1 2))
    refine E_s 4 (i' := 76) (ls' := [some (.inr (.inr 9)), some (.inl 10), some (.inl 0), some (.inl b9), some (.inl ((h 9 9) * 12)), none, none, none]) (sk' := [.inl ((h 9 9) * 12), .inr (.inr 9), .inr (.inr 9)]) (h' := (xcpy h 3 0 24 ((h 9 9) * 12) (h 1 2))) rfl ?_
    refine E_ci (x := (.invokevirtual 116, 1, [(1, 12)], [0])) (r := (HS ((xcpy h 3 0 24 (h 9 9 * 12) (h 1 2)) 1 2) (fun e => (xcpy h 3 0 24 (h 9 9 * 12) (h 1 2)) 24 (h 9 9 * 12 + e)))) (h' := (xcpy h 3 0 24 ((h 9 9) * 12) (h 1 2))) rfl rfl (Nat.le_of_ble_eq_true rfl) (c_slotOf d 0 (xcpy h 3 0 24 (h 9 9 * 12) (h 1 2)) (h 9 9 * 12) (by first | exact hn | (rw [he1]; exact hn)) (by omega) ⟨rfl, rfl⟩) ?_
    show xEx G0 cdX1_reckon none (xRn G0 MT (d + 1)) Q b 77 [some (.inr (.inr 9)), some (.inl 10), some (.inl 0), some (.inl b9), some (.inl ((h 9 9) * 12)), none, none, none] [.inl (HS ((xcpy h 3 0 24 (h 9 9 * 12) (h 1 2)) 1 2) (fun e => (xcpy h 3 0 24 (h 9 9 * 12) (h 1 2)) 24 (h 9 9 * 12 + e))), .inr (.inr 9)] (xcpy h 3 0 24 ((h 9 9) * 12) (h 1 2))
    refine E_s 1 (i' := 78) (ls' := [some (.inr (.inr 9)), some (.inl 10), some (.inl 0), some (.inl b9), some (.inl ((h 9 9) * 12)), none, none, none]) (sk' := []) (h' := (xup (xcpy h 3 0 24 ((h 9 9) * 12) (h 1 2)) 9 23 (HS ((xcpy h 3 0 24 (h 9 9 * 12) (h 1 2)) 1 2) (fun e => (xcpy h 3 0 24 (h 9 9 * 12) (h 1 2)) 24 (h 9 9 * 12 + e))))) rfl ?_
    exact E_ret (x := (.return_, 0, [], [])) (v := none) rfl (trivial) (hQ _ (by
      refine ⟨fun a h1 h2 => ?_, fun j h1 => ?_, fun j h1 => ?_, fun e h1 h2 => ?_, ?_⟩
      · funext j; simp [xup, xcpy, h1, h2]
      · simp [xup, xcpy, h1]
      · simp only [xup, xcpy]; simp [h1]
      · simp only [xup, xcpy]; simp; rw [if_pos (by omega)]; congr 1; omega
      · rw [xup_s]; exact HS_congr (fun e h1 h2 => by have h2 : e < h 1 2 := h2; simp only [xcpy, if_true]; rw [if_pos (by constructor <;> omega)]; congr 1; omega)))
set_option maxHeartbeats 1000000 in
theorem c_reckon_in1 (d b : Nat) (h : xH) (b9 : Int) (hn : 0 ≤ h 1 2 ∧ h 1 2 ≤ 12) (hK : 0 ≤ h 9 9 ∧ h 9 9 ≤ 300) {Q : xO → xH → Prop} (hQ : ∀ h', RK h h' (fun e => h 4 e) → Q (.inl none) h') : xRn G0 MT (d + 2) b 11 [.inr (.inr 9), .inl 10, .inl 1, .inl b9] h Q := by
  refine R_of (M := mX1_reckon) rfl (Nat.le_of_ble_eq_true rfl) ?_
  show xEx G0 cdX1_reckon none (xRn G0 MT (d + 1)) Q b 0 [some (.inr (.inr 9)), some (.inl 10), some (.inl 1), some (.inl b9), none, none, none, none] [] h
  refine E_s 7 (i' := 7) (ls' := [some (.inr (.inr 9)), some (.inl 10), some (.inl 1), some (.inl b9), some (.inl ((h 9 9) * 12)), none, none, none]) (sk' := [.inl 10, .inl 10]) (h' := h) rfl ?_
  refine E_b (x := (.if_icmp .ne 32, 22, [], [])) rfl rfl (fun c7 => ?_) (fun c7 => ?_)
  · rw [c_ne (by first | assumption | (refine ⟨?_, ?_⟩ <;> omega) | (simp only [xr] at *; omega)) (by first | assumption | (refine ⟨?_, ?_⟩ <;> omega) | (simp only [xr] at *; omega))] at c7
    simp only [decide_eq_true_eq, decide_eq_false_iff_not, Decidable.not_not] at c7
    show xEx G0 cdX1_reckon none (xRn G0 MT (d + 1)) Q b 22 [some (.inr (.inr 9)), some (.inl 10), some (.inl 1), some (.inl b9), some (.inl ((h 9 9) * 12)), none, none, none] [] h
    exact absurd c7 (by decide)
  · rw [c_ne (by first | assumption | (refine ⟨?_, ?_⟩ <;> omega) | (simp only [xr] at *; omega)) (by first | assumption | (refine ⟨?_, ?_⟩ <;> omega) | (simp only [xr] at *; omega))] at c7
    simp only [decide_eq_true_eq, decide_eq_false_iff_not, Decidable.not_not] at c7
    show xEx G0 cdX1_reckon none (xRn G0 MT (d + 1)) Q b 8 [some (.inr (.inr 9)), some (.inl 10), some (.inl 1), some (.inl b9), some (.inl ((h 9 9) * 12)), none, none, none] [] h
    refine E_s 4 (i' := 12) (ls' := [some (.inr (.inr 9)), some (.inl 10), some (.inl 1), some (.inl b9), some (.inl ((h 9 9) * 12)), none, none, none]) (sk' := [.inl 1, .inr (.inr 2)]) (h' := h) rfl ?_
    refine E_ald (x := (.aaload, 0, [], [])) 1 rfl rfl rfl (rfl) rfl ?_
    show xEx G0 cdX1_reckon none (xRn G0 MT (d + 1)) Q b 13 [some (.inr (.inr 9)), some (.inl 10), some (.inl 1), some (.inl b9), some (.inl ((h 9 9) * 12)), none, none, none] [.inr (.inr 4)] h
    refine E_s 7 (i' := 20) (ls' := [some (.inr (.inr 9)), some (.inl 10), some (.inl 1), some (.inl b9), some (.inl ((h 9 9) * 12)), none, none, none]) (sk' := [.inl (h 1 2), .inl ((h 9 9) * 12), .inr (.inr 24), .inl 0, .inr (.inr 4)]) (h' := h) rfl ?_
    refine E_cpy (x := (.invokestatic 103, 0, [], [])) rfl rfl rfl rfl rfl rfl (by omega) (by omega) (by omega) (by omega) (by omega) (Nat.le_of_ble_eq_true rfl) ?_
    show xEx G0 cdX1_reckon none (xRn G0 MT (d + 1)) Q b 21 [some (.inr (.inr 9)), some (.inl 10), some (.inl 1), some (.inl b9), some (.inl ((h 9 9) * 12)), none, none, none] [] (xcpy h 4 0 24 ((h 9 9) * 12) (h 1 2))
    refine E_s 4 (i' := 76) (ls' := [some (.inr (.inr 9)), some (.inl 10), some (.inl 1), some (.inl b9), some (.inl ((h 9 9) * 12)), none, none, none]) (sk' := [.inl ((h 9 9) * 12), .inr (.inr 9), .inr (.inr 9)]) (h' := (xcpy h 4 0 24 ((h 9 9) * 12) (h 1 2))) rfl ?_
    refine E_ci (x := (.invokevirtual 116, 1, [(1, 12)], [0])) (r := (HS ((xcpy h 4 0 24 (h 9 9 * 12) (h 1 2)) 1 2) (fun e => (xcpy h 4 0 24 (h 9 9 * 12) (h 1 2)) 24 (h 9 9 * 12 + e)))) (h' := (xcpy h 4 0 24 ((h 9 9) * 12) (h 1 2))) rfl rfl (Nat.le_of_ble_eq_true rfl) (c_slotOf d 0 (xcpy h 4 0 24 (h 9 9 * 12) (h 1 2)) (h 9 9 * 12) (by first | exact hn | (rw [he1]; exact hn)) (by omega) ⟨rfl, rfl⟩) ?_
    show xEx G0 cdX1_reckon none (xRn G0 MT (d + 1)) Q b 77 [some (.inr (.inr 9)), some (.inl 10), some (.inl 1), some (.inl b9), some (.inl ((h 9 9) * 12)), none, none, none] [.inl (HS ((xcpy h 4 0 24 (h 9 9 * 12) (h 1 2)) 1 2) (fun e => (xcpy h 4 0 24 (h 9 9 * 12) (h 1 2)) 24 (h 9 9 * 12 + e))), .inr (.inr 9)] (xcpy h 4 0 24 ((h 9 9) * 12) (h 1 2))
    refine E_s 1 (i' := 78) (ls' := [some (.inr (.inr 9)), some (.inl 10), some (.inl 1), some (.inl b9), some (.inl ((h 9 9) * 12)), none, none, none]) (sk' := []) (h' := (xup (xcpy h 4 0 24 ((h 9 9) * 12) (h 1 2)) 9 23 (HS ((xcpy h 4 0 24 (h 9 9 * 12) (h 1 2)) 1 2) (fun e => (xcpy h 4 0 24 (h 9 9 * 12) (h 1 2)) 24 (h 9 9 * 12 + e))))) rfl ?_
    exact E_ret (x := (.return_, 0, [], [])) (v := none) rfl (trivial) (hQ _ (by
      refine ⟨fun a h1 h2 => ?_, fun j h1 => ?_, fun j h1 => ?_, fun e h1 h2 => ?_, ?_⟩
      · funext j; simp [xup, xcpy, h1, h2]
      · simp [xup, xcpy, h1]
      · simp only [xup, xcpy]; simp [h1]
      · simp only [xup, xcpy]; simp; rw [if_pos (by omega)]; congr 1; omega
      · rw [xup_s]; exact HS_congr (fun e h1 h2 => by have h2 : e < h 1 2 := h2; simp only [xcpy, if_true]; rw [if_pos (by constructor <;> omega)]; congr 1; omega)))
set_option maxHeartbeats 1000000 in
theorem c_reckon_in2 (d b : Nat) (h : xH) (b9 : Int) (hn : 0 ≤ h 1 2 ∧ h 1 2 ≤ 12) (hK : 0 ≤ h 9 9 ∧ h 9 9 ≤ 300) {Q : xO → xH → Prop} (hQ : ∀ h', RK h h' (fun e => h 5 e) → Q (.inl none) h') : xRn G0 MT (d + 2) b 11 [.inr (.inr 9), .inl 10, .inl 2, .inl b9] h Q := by
  refine R_of (M := mX1_reckon) rfl (Nat.le_of_ble_eq_true rfl) ?_
  show xEx G0 cdX1_reckon none (xRn G0 MT (d + 1)) Q b 0 [some (.inr (.inr 9)), some (.inl 10), some (.inl 2), some (.inl b9), none, none, none, none] [] h
  refine E_s 7 (i' := 7) (ls' := [some (.inr (.inr 9)), some (.inl 10), some (.inl 2), some (.inl b9), some (.inl ((h 9 9) * 12)), none, none, none]) (sk' := [.inl 10, .inl 10]) (h' := h) rfl ?_
  refine E_b (x := (.if_icmp .ne 32, 22, [], [])) rfl rfl (fun c7 => ?_) (fun c7 => ?_)
  · rw [c_ne (by first | assumption | (refine ⟨?_, ?_⟩ <;> omega) | (simp only [xr] at *; omega)) (by first | assumption | (refine ⟨?_, ?_⟩ <;> omega) | (simp only [xr] at *; omega))] at c7
    simp only [decide_eq_true_eq, decide_eq_false_iff_not, Decidable.not_not] at c7
    show xEx G0 cdX1_reckon none (xRn G0 MT (d + 1)) Q b 22 [some (.inr (.inr 9)), some (.inl 10), some (.inl 2), some (.inl b9), some (.inl ((h 9 9) * 12)), none, none, none] [] h
    exact absurd c7 (by decide)
  · rw [c_ne (by first | assumption | (refine ⟨?_, ?_⟩ <;> omega) | (simp only [xr] at *; omega)) (by first | assumption | (refine ⟨?_, ?_⟩ <;> omega) | (simp only [xr] at *; omega))] at c7
    simp only [decide_eq_true_eq, decide_eq_false_iff_not, Decidable.not_not] at c7
    show xEx G0 cdX1_reckon none (xRn G0 MT (d + 1)) Q b 8 [some (.inr (.inr 9)), some (.inl 10), some (.inl 2), some (.inl b9), some (.inl ((h 9 9) * 12)), none, none, none] [] h
    refine E_s 4 (i' := 12) (ls' := [some (.inr (.inr 9)), some (.inl 10), some (.inl 2), some (.inl b9), some (.inl ((h 9 9) * 12)), none, none, none]) (sk' := [.inl 2, .inr (.inr 2)]) (h' := h) rfl ?_
    refine E_ald (x := (.aaload, 0, [], [])) 2 rfl rfl rfl (rfl) rfl ?_
    show xEx G0 cdX1_reckon none (xRn G0 MT (d + 1)) Q b 13 [some (.inr (.inr 9)), some (.inl 10), some (.inl 2), some (.inl b9), some (.inl ((h 9 9) * 12)), none, none, none] [.inr (.inr 5)] h
    refine E_s 7 (i' := 20) (ls' := [some (.inr (.inr 9)), some (.inl 10), some (.inl 2), some (.inl b9), some (.inl ((h 9 9) * 12)), none, none, none]) (sk' := [.inl (h 1 2), .inl ((h 9 9) * 12), .inr (.inr 24), .inl 0, .inr (.inr 5)]) (h' := h) rfl ?_
    refine E_cpy (x := (.invokestatic 103, 0, [], [])) rfl rfl rfl rfl rfl rfl (by omega) (by omega) (by omega) (by omega) (by omega) (Nat.le_of_ble_eq_true rfl) ?_
    show xEx G0 cdX1_reckon none (xRn G0 MT (d + 1)) Q b 21 [some (.inr (.inr 9)), some (.inl 10), some (.inl 2), some (.inl b9), some (.inl ((h 9 9) * 12)), none, none, none] [] (xcpy h 5 0 24 ((h 9 9) * 12) (h 1 2))
    refine E_s 4 (i' := 76) (ls' := [some (.inr (.inr 9)), some (.inl 10), some (.inl 2), some (.inl b9), some (.inl ((h 9 9) * 12)), none, none, none]) (sk' := [.inl ((h 9 9) * 12), .inr (.inr 9), .inr (.inr 9)]) (h' := (xcpy h 5 0 24 ((h 9 9) * 12) (h 1 2))) rfl ?_
    refine E_ci (x := (.invokevirtual 116, 1, [(1, 12)], [0])) (r := (HS ((xcpy h 5 0 24 (h 9 9 * 12) (h 1 2)) 1 2) (fun e => (xcpy h 5 0 24 (h 9 9 * 12) (h 1 2)) 24 (h 9 9 * 12 + e)))) (h' := (xcpy h 5 0 24 ((h 9 9) * 12) (h 1 2))) rfl rfl (Nat.le_of_ble_eq_true rfl) (c_slotOf d 0 (xcpy h 5 0 24 (h 9 9 * 12) (h 1 2)) (h 9 9 * 12) (by first | exact hn | (rw [he1]; exact hn)) (by omega) ⟨rfl, rfl⟩) ?_
    show xEx G0 cdX1_reckon none (xRn G0 MT (d + 1)) Q b 77 [some (.inr (.inr 9)), some (.inl 10), some (.inl 2), some (.inl b9), some (.inl ((h 9 9) * 12)), none, none, none] [.inl (HS ((xcpy h 5 0 24 (h 9 9 * 12) (h 1 2)) 1 2) (fun e => (xcpy h 5 0 24 (h 9 9 * 12) (h 1 2)) 24 (h 9 9 * 12 + e))), .inr (.inr 9)] (xcpy h 5 0 24 ((h 9 9) * 12) (h 1 2))
    refine E_s 1 (i' := 78) (ls' := [some (.inr (.inr 9)), some (.inl 10), some (.inl 2), some (.inl b9), some (.inl ((h 9 9) * 12)), none, none, none]) (sk' := []) (h' := (xup (xcpy h 5 0 24 ((h 9 9) * 12) (h 1 2)) 9 23 (HS ((xcpy h 5 0 24 (h 9 9 * 12) (h 1 2)) 1 2) (fun e => (xcpy h 5 0 24 (h 9 9 * 12) (h 1 2)) 24 (h 9 9 * 12 + e))))) rfl ?_
    exact E_ret (x := (.return_, 0, [], [])) (v := none) rfl (trivial) (hQ _ (by
      refine ⟨fun a h1 h2 => ?_, fun j h1 => ?_, fun j h1 => ?_, fun e h1 h2 => ?_, ?_⟩
      · funext j; simp [xup, xcpy, h1, h2]
      · simp [xup, xcpy, h1]
      · simp only [xup, xcpy]; simp [h1]
      · simp only [xup, xcpy]; simp; rw [if_pos (by omega)]; congr 1; omega
      · rw [xup_s]; exact HS_congr (fun e h1 h2 => by have h2 : e < h 1 2 := h2; simp only [xcpy, if_true]; rw [if_pos (by constructor <;> omega)]; congr 1; omega)))
set_option maxHeartbeats 1000000 in
theorem c_reckon_c (d b : Nat) (h : xH) (v b9 : Int) (hn : 0 ≤ h 1 2 ∧ h 1 2 ≤ 12) (hK : 0 ≤ h 9 9 ∧ h 9 9 ≤ 300) {Q : xO → xH → Prop} (hQ : ∀ h', RK h h' (fun _ => v) → Q (.inl none) h') : xRn G0 MT (d + 3) b 11 [.inr (.inr 9), .inl 11, .inl v, .inl b9] h Q := by
  refine R_of (M := mX1_reckon) rfl (Nat.le_of_ble_eq_true rfl) ?_
  show xEx G0 cdX1_reckon none (xRn G0 MT (d + 2)) Q b 0 [some (.inr (.inr 9)), some (.inl 11), some (.inl v), some (.inl b9), none, none, none, none] [] h
  refine E_s 7 (i' := 7) (ls' := [some (.inr (.inr 9)), some (.inl 11), some (.inl v), some (.inl b9), some (.inl ((h 9 9) * 12)), none, none, none]) (sk' := [.inl 10, .inl 11]) (h' := h) rfl ?_
  refine E_b (x := (.if_icmp .ne 32, 22, [], [])) rfl rfl (fun c7 => ?_) (fun c7 => ?_)
  · rw [c_ne (by first | assumption | (refine ⟨?_, ?_⟩ <;> omega) | (simp only [xr] at *; omega)) (by first | assumption | (refine ⟨?_, ?_⟩ <;> omega) | (simp only [xr] at *; omega))] at c7
    simp only [decide_eq_true_eq, decide_eq_false_iff_not, Decidable.not_not] at c7
    show xEx G0 cdX1_reckon none (xRn G0 MT (d + 2)) Q b 22 [some (.inr (.inr 9)), some (.inl 11), some (.inl v), some (.inl b9), some (.inl ((h 9 9) * 12)), none, none, none] [] h
    refine E_s 2 (i' := 24) (ls' := [some (.inr (.inr 9)), some (.inl 11), some (.inl v), some (.inl b9), some (.inl ((h 9 9) * 12)), none, none, none]) (sk' := [.inl 11, .inl 11]) (h' := h) rfl ?_
    refine E_b (x := (.if_icmp .ne 26, 36, [], [])) rfl rfl (fun c24 => ?_) (fun c24 => ?_)
    · rw [c_ne (by first | assumption | (refine ⟨?_, ?_⟩ <;> omega) | (simp only [xr] at *; omega)) (by first | assumption | (refine ⟨?_, ?_⟩ <;> omega) | (simp only [xr] at *; omega))] at c24
      simp only [decide_eq_true_eq, decide_eq_false_iff_not, Decidable.not_not] at c24
      show xEx G0 cdX1_reckon none (xRn G0 MT (d + 2)) Q b 36 [some (.inr (.inr 9)), some (.inl 11), some (.inl v), some (.inl b9), some (.inl ((h 9 9) * 12)), none, none, none] [] h
      exact absurd c24 (by decide)
    · rw [c_ne (by first | assumption | (refine ⟨?_, ?_⟩ <;> omega) | (simp only [xr] at *; omega)) (by first | assumption | (refine ⟨?_, ?_⟩ <;> omega) | (simp only [xr] at *; omega))] at c24
      simp only [decide_eq_true_eq, decide_eq_false_iff_not, Decidable.not_not] at c24
      show xEx G0 cdX1_reckon none (xRn G0 MT (d + 2)) Q b 25 [some (.inr (.inr 9)), some (.inl 11), some (.inl v), some (.inl b9), some (.inl ((h 9 9) * 12)), none, none, none] [] h
      refine E_s 9 (i' := 34) (ls' := [some (.inr (.inr 9)), some (.inl 11), some (.inl v), some (.inl b9), some (.inl ((h 9 9) * 12)), none, none, none]) (sk' := [.inl v, .inl (((h 9 9) * 12) + (h 1 2)), .inl ((h 9 9) * 12), .inr (.inr 24)]) (h' := h) rfl ?_
      refine E_cv (x := (.invokestatic 109, 4, [(0, 256)], [])) (q := fun h9 => h9 = xfill h 24 (h 9 9 * 12) (h 9 9 * 12 + h 1 2) v) rfl rfl (Nat.le_of_ble_eq_true rfl) (c_fill_outs d 0 h (h 9 9 * 12) (h 9 9 * 12 + h 1 2) v (by omega) (by omega) (by omega) ⟨rfl, rfl⟩) (fun h1 e1 => ?_)
      have he1 : h1 1 2 = h 1 2 := by rw [e1]; rfl
      show xEx G0 cdX1_reckon none (xRn G0 MT (d + 2)) Q b 35 [some (.inr (.inr 9)), some (.inl 11), some (.inl v), some (.inl b9), some (.inl ((h 9 9) * 12)), none, none, none] [] h1
      refine E_s 4 (i' := 76) (ls' := [some (.inr (.inr 9)), some (.inl 11), some (.inl v), some (.inl b9), some (.inl ((h 9 9) * 12)), none, none, none]) (sk' := [.inl ((h 9 9) * 12), .inr (.inr 9), .inr (.inr 9)]) (h' := h1) rfl ?_
      refine E_ci (x := (.invokevirtual 116, 1, [(1, 12)], [0])) (r := (HS (h1 1 2) (fun e => h1 24 (h 9 9 * 12 + e)))) (h' := h1) rfl rfl (Nat.le_of_ble_eq_true rfl) (c_slotOf (d + 1) 0 h1 (h 9 9 * 12) (by first | exact hn | (rw [he1]; exact hn)) (by omega) ⟨rfl, rfl⟩) ?_
      show xEx G0 cdX1_reckon none (xRn G0 MT (d + 2)) Q b 77 [some (.inr (.inr 9)), some (.inl 11), some (.inl v), some (.inl b9), some (.inl ((h 9 9) * 12)), none, none, none] [.inl (HS (h1 1 2) (fun e => h1 24 (h 9 9 * 12 + e))), .inr (.inr 9)] h1
      refine E_s 1 (i' := 78) (ls' := [some (.inr (.inr 9)), some (.inl 11), some (.inl v), some (.inl b9), some (.inl ((h 9 9) * 12)), none, none, none]) (sk' := []) (h' := (xup h1 9 23 (HS (h1 1 2) (fun e => h1 24 (h 9 9 * 12 + e))))) rfl ?_
      exact E_ret (x := (.return_, 0, [], [])) (v := none) rfl (trivial) (hQ _ (by
        subst e1
        refine ⟨fun a h1 h2 => ?_, fun j h1 => ?_, fun j h1 => ?_, fun e h1 h2 => ?_, ?_⟩
        · funext j; simp [xup, xfill, h1, h2]
        · simp [xup, xfill, h1]
        · simp only [xup, xfill]; simp [h1]
        · simp only [xup, xfill]; simp; intro h3; omega
        · rw [xup_s, he1]; exact HS_congr (fun e h1 h2 => by simp only [xfill, if_true]; rw [if_pos (by constructor <;> omega)])))
  · rw [c_ne (by first | assumption | (refine ⟨?_, ?_⟩ <;> omega) | (simp only [xr] at *; omega)) (by first | assumption | (refine ⟨?_, ?_⟩ <;> omega) | (simp only [xr] at *; omega))] at c7
    simp only [decide_eq_true_eq, decide_eq_false_iff_not, Decidable.not_not] at c7
    show xEx G0 cdX1_reckon none (xRn G0 MT (d + 2)) Q b 8 [some (.inr (.inr 9)), some (.inl 11), some (.inl v), some (.inl b9), some (.inl ((h 9 9) * 12)), none, none, none] [] h
    exact absurd c7 (by decide)
set_option maxHeartbeats 1000000 in
theorem c_reckon_o (d b : Nat) (h : xH) (p x y : Int) (hn : 0 ≤ h 1 2 ∧ h 1 2 ≤ 12) (hK : 0 ≤ h 9 9 ∧ h 9 9 ≤ 300) (hp : 0 ≤ p ∧ p ≤ 9) (hx : 0 ≤ x ∧ x < h 9 9) (hy : 0 ≤ y ∧ y < h 9 9) (hr : ∀ k e : Int, 0 ≤ k → k < h 9 9 → 0 ≤ e → e < h 1 2 → xr (h 24 (k * 12 + e))) {Q : xO → xH → Prop} (hQ : ∀ h', RK h h' (fun e => ap p (h 24 (x * 12 + e)) (h 24 (y * 12 + e))) → Q (.inl none) h') : xRn G0 MT (d + 3) b 11 [.inr (.inr 9), .inl p, .inl x, .inl y] h Q := by
  refine R_of (M := mX1_reckon) rfl (Nat.le_of_ble_eq_true rfl) ?_
  show xEx G0 cdX1_reckon none (xRn G0 MT (d + 2)) Q b 0 [some (.inr (.inr 9)), some (.inl p), some (.inl x), some (.inl y), none, none, none, none] [] h
  refine E_s 7 (i' := 7) (ls' := [some (.inr (.inr 9)), some (.inl p), some (.inl x), some (.inl y), some (.inl ((h 9 9) * 12)), none, none, none]) (sk' := [.inl 10, .inl p]) (h' := h) rfl ?_
  refine E_b (x := (.if_icmp .ne 32, 22, [], [])) rfl rfl (fun c7 => ?_) (fun c7 => ?_)
  · rw [c_ne (by first | assumption | (refine ⟨?_, ?_⟩ <;> omega) | (simp only [xr] at *; omega)) (by first | assumption | (refine ⟨?_, ?_⟩ <;> omega) | (simp only [xr] at *; omega))] at c7
    simp only [decide_eq_true_eq, decide_eq_false_iff_not, Decidable.not_not] at c7
    show xEx G0 cdX1_reckon none (xRn G0 MT (d + 2)) Q b 22 [some (.inr (.inr 9)), some (.inl p), some (.inl x), some (.inl y), some (.inl ((h 9 9) * 12)), none, none, none] [] h
    refine E_s 2 (i' := 24) (ls' := [some (.inr (.inr 9)), some (.inl p), some (.inl x), some (.inl y), some (.inl ((h 9 9) * 12)), none, none, none]) (sk' := [.inl 11, .inl p]) (h' := h) rfl ?_
    refine E_b (x := (.if_icmp .ne 26, 36, [], [])) rfl rfl (fun c24 => ?_) (fun c24 => ?_)
    · rw [c_ne (by first | assumption | (refine ⟨?_, ?_⟩ <;> omega) | (simp only [xr] at *; omega)) (by first | assumption | (refine ⟨?_, ?_⟩ <;> omega) | (simp only [xr] at *; omega))] at c24
      simp only [decide_eq_true_eq, decide_eq_false_iff_not, Decidable.not_not] at c24
      show xEx G0 cdX1_reckon none (xRn G0 MT (d + 2)) Q b 36 [some (.inr (.inr 9)), some (.inl p), some (.inl x), some (.inl y), some (.inl ((h 9 9) * 12)), none, none, none] [] h
      refine E_s 10 (i' := 46) (ls' := [some (.inr (.inr 9)), some (.inl p), some (.inl x), some (.inl y), some (.inl ((h 9 9) * 12)), some (.inl (x * 12)), some (.inl (y * 12)), some (.inl 0)]) (sk' := []) (h' := h) rfl ?_
      have key46 : ∀ (n : Nat) (hh : xH) (e : Int), (0 ≤ e) → (e ≤ h 1 2) → (∀ a, a ≠ 24 → hh a = h a) → (∀ j, ¬ (h 9 9 * 12 ≤ j ∧ j < h 9 9 * 12 + e) → hh 24 j = h 24 j) → (∀ q, 0 ≤ q → q < e → hh 24 (h 9 9 * 12 + q) = ap p (h 24 (x * 12 + q)) (h 24 (y * 12 + q))) → ((h 1 2 - e).toNat) < n → xEx G0 cdX1_reckon none (xRn G0 MT (d + 2)) Q b 46 [some (.inr (.inr 9)), some (.inl p), some (.inl x), some (.inl y), some (.inl ((h 9 9) * 12)), some (.inl (x * 12)), some (.inl (y * 12)), some (.inl e)] [] hh := by
        intro n
        induction n with
        | zero => intro hh e _ _ _ _ _ hm; exact absurd hm (Nat.not_lt_zero _)
        | succ n ih46 =>
          intro hh e he0 he1 ha ho hv hm46
          have hn9 : hh 1 2 = h 1 2 := by rw [ha 1 (by decide)]
          refine E_s 4 (i' := 50) (ls' := [some (.inr (.inr 9)), some (.inl p), some (.inl x), some (.inl y), some (.inl ((h 9 9) * 12)), some (.inl (x * 12)), some (.inl (y * 12)), some (.inl e)]) (sk' := [.inl (hh 1 2), .inl e]) (h' := hh) rfl ?_
          refine E_b (x := (.if_icmp .ge 43, 73, [], [])) rfl rfl (fun c50 => ?_) (fun c50 => ?_)
          · rw [c_ge (by first | assumption | (refine ⟨?_, ?_⟩ <;> omega) | (simp only [xr] at *; omega)) (by first | assumption | (refine ⟨?_, ?_⟩ <;> omega) | (simp only [xr] at *; omega))] at c50
            simp only [decide_eq_true_eq, decide_eq_false_iff_not, Decidable.not_not] at c50
            show xEx G0 cdX1_reckon none (xRn G0 MT (d + 2)) Q b 73 [some (.inr (.inr 9)), some (.inl p), some (.inl x), some (.inl y), some (.inl ((h 9 9) * 12)), some (.inl (x * 12)), some (.inl (y * 12)), some (.inl e)] [] hh
            refine E_s 3 (i' := 76) (ls' := [some (.inr (.inr 9)), some (.inl p), some (.inl x), some (.inl y), some (.inl ((h 9 9) * 12)), some (.inl (x * 12)), some (.inl (y * 12)), some (.inl e)]) (sk' := [.inl ((h 9 9) * 12), .inr (.inr 9), .inr (.inr 9)]) (h' := hh) rfl ?_
            refine E_ci (x := (.invokevirtual 116, 1, [(1, 12)], [0])) (r := (HS (hh 1 2) (fun e => hh 24 (h 9 9 * 12 + e)))) (h' := hh) rfl rfl (Nat.le_of_ble_eq_true rfl) (c_slotOf (d + 1) 0 hh (h 9 9 * 12) (by rw [hn9]; exact hn) (by omega) ⟨rfl, rfl⟩) ?_
            show xEx G0 cdX1_reckon none (xRn G0 MT (d + 2)) Q b 77 [some (.inr (.inr 9)), some (.inl p), some (.inl x), some (.inl y), some (.inl ((h 9 9) * 12)), some (.inl (x * 12)), some (.inl (y * 12)), some (.inl e)] [.inl (HS (hh 1 2) (fun e => hh 24 (h 9 9 * 12 + e))), .inr (.inr 9)] hh
            refine E_s 1 (i' := 78) (ls' := [some (.inr (.inr 9)), some (.inl p), some (.inl x), some (.inl y), some (.inl ((h 9 9) * 12)), some (.inl (x * 12)), some (.inl (y * 12)), some (.inl e)]) (sk' := []) (h' := (xup hh 9 23 (HS (hh 1 2) (fun e => hh 24 (h 9 9 * 12 + e))))) rfl ?_
            exact E_ret (x := (.return_, 0, [], [])) (v := none) rfl (trivial) (hQ _ (by
              have e9 : e = h 1 2 := (by omega)
              subst e9
              refine ⟨fun a h1 h2 => ?_, fun j h1 => ?_, fun j h1 => ?_, fun e h1 h2 => ?_, ?_⟩
              · rw [← ha a h1]; funext j; exact xup_a h2
              · rw [xup_j h1, ha 9 (by decide)]
              · rw [xup_a (by decide)]; exact ho j h1
              · rw [xup_a (by decide)]; exact hv e h1 h2
              · rw [xup_s, hn9]; exact HS_congr (fun e h1 h2 => hv e h1 h2)))
          · rw [c_ge (by first | assumption | (refine ⟨?_, ?_⟩ <;> omega) | (simp only [xr] at *; omega)) (by first | assumption | (refine ⟨?_, ?_⟩ <;> omega) | (simp only [xr] at *; omega))] at c50
            simp only [decide_eq_true_eq, decide_eq_false_iff_not, Decidable.not_not] at c50
            show xEx G0 cdX1_reckon none (xRn G0 MT (d + 2)) Q b 51 [some (.inr (.inr 9)), some (.inl p), some (.inl x), some (.inl y), some (.inl ((h 9 9) * 12)), some (.inl (x * 12)), some (.inl (y * 12)), some (.inl e)] [] hh
            refine E_s 11 (i' := 62) (ls' := [some (.inr (.inr 9)), some (.inl p), some (.inl x), some (.inl y), some (.inl ((h 9 9) * 12)), some (.inl (x * 12)), some (.inl (y * 12)), some (.inl e)]) (sk' := [.inl ((x * 12) + e), .inr (.inr 24), .inl p, .inl (((h 9 9) * 12) + e), .inr (.inr 24)]) (h' := hh) rfl ?_
            refine E_ld (x := (.iaload, 0, [], [])) (ty := .int) (n := 3612) rfl rfl rfl (by omega) (by omega) ?_
            show xEx G0 cdX1_reckon none (xRn G0 MT (d + 2)) Q b 63 [some (.inr (.inr 9)), some (.inl p), some (.inl x), some (.inl y), some (.inl ((h 9 9) * 12)), some (.inl (x * 12)), some (.inl (y * 12)), some (.inl e)] [.inl (hh 24 ((x * 12) + e)), .inl p, .inl (((h 9 9) * 12) + e), .inr (.inr 24)] hh
            refine E_s 5 (i' := 68) (ls' := [some (.inr (.inr 9)), some (.inl p), some (.inl x), some (.inl y), some (.inl ((h 9 9) * 12)), some (.inl (x * 12)), some (.inl (y * 12)), some (.inl e)]) (sk' := [.inl ((y * 12) + e), .inr (.inr 24), .inl (hh 24 ((x * 12) + e)), .inl p, .inl (((h 9 9) * 12) + e), .inr (.inr 24)]) (h' := hh) rfl ?_
            refine E_ld (x := (.iaload, 0, [], [])) (ty := .int) (n := 3612) rfl rfl rfl (by omega) (by omega) ?_
            show xEx G0 cdX1_reckon none (xRn G0 MT (d + 2)) Q b 69 [some (.inr (.inr 9)), some (.inl p), some (.inl x), some (.inl y), some (.inl ((h 9 9) * 12)), some (.inl (x * 12)), some (.inl (y * 12)), some (.inl e)] [.inl (hh 24 ((y * 12) + e)), .inl (hh 24 ((x * 12) + e)), .inl p, .inl (((h 9 9) * 12) + e), .inr (.inr 24)] hh
            refine E_cp (x := (.invokestatic 112, 3, [(0, 40)], [])) (q := fun r h9 => w32 r = ap p (hh 24 (x * 12 + e)) (hh 24 (y * 12 + e)) ∧ h9 = hh) rfl rfl (Nat.le_of_ble_eq_true rfl) (c_apply (d + 1) 0 hh p (hh 24 (x * 12 + e)) (hh 24 (y * 12 + e)) hp (by rw [ho _ (by omega)]; exact hr x e (by omega) (by omega) he0 (by omega)) (by rw [ho _ (by omega)]; exact hr y e (by omega) (by omega) he0 (by omega)) (fun v hv9 => ⟨v, rfl, hv9, rfl⟩)) (fun r h9 hr9 => ?_)
            obtain ⟨hr9, rfl⟩ := hr9
            show xEx G0 cdX1_reckon none (xRn G0 MT (d + 2)) Q b 70 [some (.inr (.inr 9)), some (.inl p), some (.inl x), some (.inl y), some (.inl ((h 9 9) * 12)), some (.inl (x * 12)), some (.inl (y * 12)), some (.inl e)] [.inl r, .inl (((h 9 9) * 12) + e), .inr (.inr 24)] h9
            refine E_ti (y := w32 r) (w32_w r).symm ?_
            refine E_sd (x := (.iastore, 0, [], [])) (ty := .int) (n := 3612) (y := (w32 r)) rfl rfl rfl (by omega) (by omega) (trivial) ?_
            show xEx G0 cdX1_reckon none (xRn G0 MT (d + 2)) Q b 71 [some (.inr (.inr 9)), some (.inl p), some (.inl x), some (.inl y), some (.inl ((h 9 9) * 12)), some (.inl (x * 12)), some (.inl (y * 12)), some (.inl e)] [] (xup h9 24 (((h 9 9) * 12) + e) (w32 r))
            refine E_s 2 (i' := 46) (ls' := [some (.inr (.inr 9)), some (.inl p), some (.inl x), some (.inl y), some (.inl ((h 9 9) * 12)), some (.inl (x * 12)), some (.inl (y * 12)), some (.inl (e + 1))]) (sk' := []) (h' := (xup h9 24 (((h 9 9) * 12) + e) (w32 r))) rfl ?_
            exact ih46 _ (e + 1) (by omega) (by omega) (fun a h1 => by rw [← ha a h1]; exact xup_o _ _ _ _ a h1) (fun j h1 => by rw [xup_j (by omega)]; exact ho j (by omega)) (fun q h1 h2 => by
              rcases Int.lt_or_eq_of_le (show q ≤ e by omega) with z9 | z9
              · rw [xup_j (by omega)]; exact hv q h1 z9
              · subst z9; rw [xup_s, hr9, ho _ (by omega), ho _ (by omega)]) (by omega)
      exact key46 _ h 0 (by omega) (by omega) (fun _ _ => rfl) (fun _ _ => rfl) (fun q h1 h2 => by omega) (Nat.lt_succ_self _)
    · rw [c_ne (by first | assumption | (refine ⟨?_, ?_⟩ <;> omega) | (simp only [xr] at *; omega)) (by first | assumption | (refine ⟨?_, ?_⟩ <;> omega) | (simp only [xr] at *; omega))] at c24
      simp only [decide_eq_true_eq, decide_eq_false_iff_not, Decidable.not_not] at c24
      show xEx G0 cdX1_reckon none (xRn G0 MT (d + 2)) Q b 25 [some (.inr (.inr 9)), some (.inl p), some (.inl x), some (.inl y), some (.inl ((h 9 9) * 12)), none, none, none] [] h
      exact absurd c24 (by omega)
  · rw [c_ne (by first | assumption | (refine ⟨?_, ?_⟩ <;> omega) | (simp only [xr] at *; omega)) (by first | assumption | (refine ⟨?_, ?_⟩ <;> omega) | (simp only [xr] at *; omega))] at c7
    simp only [decide_eq_true_eq, decide_eq_false_iff_not, Decidable.not_not] at c7
    show xEx G0 cdX1_reckon none (xRn G0 MT (d + 2)) Q b 8 [some (.inr (.inr 9)), some (.inl p), some (.inl x), some (.inl y), some (.inl ((h 9 9) * 12)), none, none, none] [] h
    exact absurd c7 (by omega)
/-- r is the last one below K with s r = v; -1: there is none -/
def lst (s : Int → Int) (v K r : Int) : Prop := (r = -1 ∧ ∀ k, 0 ≤ k → k < K → s k ≠ v) ∨ (0 ≤ r ∧ r < K ∧ s r = v ∧ ∀ k, r < k → k < K → s k ≠ v)
theorem lst_r {s : Int → Int} {v K r : Int} (h : lst s v K r) (hK : K ≤ 4096) : xr r := by
  rcases h with ⟨h, -⟩ | ⟨h1, h2, -⟩ <;> constructor <;> omega
/-- the chains of KEPT EXPRESSIONS by their slots -/
def chn (h : xH) (K : Int) : Prop := (∀ v, 0 ≤ v → v ≤ 511 → lst (h 27) v K (h 25 v)) ∧ ∀ k, 0 ≤ k → k < K → 0 ≤ h 27 k ∧ h 27 k ≤ 511 ∧ lst (h 27) (h 27 k) k (h 26 k)
set_option maxHeartbeats 1000000 in
theorem c_comesToReckoned (d b : Nat) (h : xH) (row : Int) (hn : 0 ≤ h 1 2 ∧ h 1 2 ≤ 12) (hK : 0 ≤ h 9 9 ∧ h 9 9 ≤ 300) (hrow : 0 ≤ row ∧ row ≤ 3600) (hr : ∀ e, 0 ≤ e → e < h 1 2 → xr (h 24 (row + e)) ∧ xr (h 24 (h 9 9 * 12 + e))) {Q : xO → xH → Prop} (h1 : (∀ e, 0 ≤ e → e < h 1 2 → h 24 (row + e) = h 24 (h 9 9 * 12 + e)) → Q (.inl (some (.inl 1))) h) (h0 : ¬ (∀ e, 0 ≤ e → e < h 1 2 → h 24 (row + e) = h 24 (h 9 9 * 12 + e)) → Q (.inl (some (.inl 0))) h) : xRn G0 MT (d + 1) b 15 [.inr (.inr 9), .inl row] h Q := by
  refine R_of (M := mX1_comesToReckoned) rfl (Nat.le_of_ble_eq_true rfl) ?_
  show xEx G0 cdX1_comesToReckoned (some .boolean) (xRn G0 MT d) Q b 0 [some (.inr (.inr 9)), some (.inl row), none, none] [] h
  refine E_s 7 (i' := 7) (ls' := [some (.inr (.inr 9)), some (.inl row), some (.inl ((h 9 9) * 12)), some (.inl 0)]) (sk' := []) (h' := h) rfl ?_
  have key7 : ∀ (n : Nat) (e : Int), (0 ≤ e) → (e ≤ h 1 2) → (∀ q, 0 ≤ q → q < e → h 24 (row + q) = h 24 (h 9 9 * 12 + q)) → ((h 1 2 - e).toNat) < n → xEx G0 cdX1_comesToReckoned (some .boolean) (xRn G0 MT d) Q b 7 [some (.inr (.inr 9)), some (.inl row), some (.inl ((h 9 9) * 12)), some (.inl e)] [] h := by
    intro n
    induction n with
    | zero => intro e _ _ _ hm; exact absurd hm (Nat.not_lt_zero _)
    | succ n ih7 =>
      intro e he0 he1 hs hm7
      refine E_s 4 (i' := 11) (ls' := [some (.inr (.inr 9)), some (.inl row), some (.inl ((h 9 9) * 12)), some (.inl e)]) (sk' := [.inl (h 1 2), .inl e]) (h' := h) rfl ?_
      refine E_b (x := (.if_icmp .ge 30, 29, [], [])) rfl rfl (fun c11 => ?_) (fun c11 => ?_)
      · rw [c_ge (by first | assumption | (refine ⟨?_, ?_⟩ <;> omega) | (simp only [xr] at *; omega)) (by first | assumption | (refine ⟨?_, ?_⟩ <;> omega) | (simp only [xr] at *; omega))] at c11
        simp only [decide_eq_true_eq, decide_eq_false_iff_not, Decidable.not_not] at c11
        show xEx G0 cdX1_comesToReckoned (some .boolean) (xRn G0 MT d) Q b 29 [some (.inr (.inr 9)), some (.inl row), some (.inl ((h 9 9) * 12)), some (.inl e)] [] h
        refine E_s 1 (i' := 30) (ls' := [some (.inr (.inr 9)), some (.inl row), some (.inl ((h 9 9) * 12)), some (.inl e)]) (sk' := [.inl 1]) (h' := h) rfl ?_
        exact E_ret (x := (.ireturn, 0, [], [])) (v := some (.inl 1)) rfl (Or.inr ⟨rfl, by omega⟩) (h1 (fun q hq0 hq1 => hs q hq0 (by omega)))
      · rw [c_ge (by first | assumption | (refine ⟨?_, ?_⟩ <;> omega) | (simp only [xr] at *; omega)) (by first | assumption | (refine ⟨?_, ?_⟩ <;> omega) | (simp only [xr] at *; omega))] at c11
        simp only [decide_eq_true_eq, decide_eq_false_iff_not, Decidable.not_not] at c11
        show xEx G0 cdX1_comesToReckoned (some .boolean) (xRn G0 MT d) Q b 12 [some (.inr (.inr 9)), some (.inl row), some (.inl ((h 9 9) * 12)), some (.inl e)] [] h
        obtain ⟨r1, r2⟩ := hr e he0 (by omega)
        refine E_s 5 (i' := 17) (ls' := [some (.inr (.inr 9)), some (.inl row), some (.inl ((h 9 9) * 12)), some (.inl e)]) (sk' := [.inl (row + e), .inr (.inr 24)]) (h' := h) rfl ?_
        refine E_ld (x := (.iaload, 0, [], [])) (ty := .int) (n := 3612) rfl rfl rfl (by omega) (by omega) ?_
        show xEx G0 cdX1_comesToReckoned (some .boolean) (xRn G0 MT d) Q b 18 [some (.inr (.inr 9)), some (.inl row), some (.inl ((h 9 9) * 12)), some (.inl e)] [.inl (h 24 (row + e))] h
        refine E_s 5 (i' := 23) (ls' := [some (.inr (.inr 9)), some (.inl row), some (.inl ((h 9 9) * 12)), some (.inl e)]) (sk' := [.inl (((h 9 9) * 12) + e), .inr (.inr 24), .inl (h 24 (row + e))]) (h' := h) rfl ?_
        refine E_ld (x := (.iaload, 0, [], [])) (ty := .int) (n := 3612) rfl rfl rfl (by omega) (by omega) ?_
        show xEx G0 cdX1_comesToReckoned (some .boolean) (xRn G0 MT d) Q b 24 [some (.inr (.inr 9)), some (.inl row), some (.inl ((h 9 9) * 12)), some (.inl e)] [.inl (h 24 (((h 9 9) * 12) + e)), .inl (h 24 (row + e))] h
        refine E_b (x := (.if_icmp .eq 5, 27, [], [])) rfl rfl (fun c24 => ?_) (fun c24 => ?_)
        · rw [c_eq (by first | assumption | (refine ⟨?_, ?_⟩ <;> omega) | (simp only [xr] at *; omega)) (by first | assumption | (refine ⟨?_, ?_⟩ <;> omega) | (simp only [xr] at *; omega))] at c24
          simp only [decide_eq_true_eq, decide_eq_false_iff_not, Decidable.not_not] at c24
          show xEx G0 cdX1_comesToReckoned (some .boolean) (xRn G0 MT d) Q b 27 [some (.inr (.inr 9)), some (.inl row), some (.inl ((h 9 9) * 12)), some (.inl e)] [] h
          refine E_s 2 (i' := 7) (ls' := [some (.inr (.inr 9)), some (.inl row), some (.inl ((h 9 9) * 12)), some (.inl (e + 1))]) (sk' := []) (h' := h) rfl ?_
          exact ih7 (e + 1) (by omega) (by omega) (fun q hq0 hq1 => by
            rcases Int.lt_or_eq_of_le (show q ≤ e by omega) with z9 | z9
            · exact hs q hq0 z9
            · subst z9; exact c24) (by omega)
        · rw [c_eq (by first | assumption | (refine ⟨?_, ?_⟩ <;> omega) | (simp only [xr] at *; omega)) (by first | assumption | (refine ⟨?_, ?_⟩ <;> omega) | (simp only [xr] at *; omega))] at c24
          simp only [decide_eq_true_eq, decide_eq_false_iff_not, Decidable.not_not] at c24
          show xEx G0 cdX1_comesToReckoned (some .boolean) (xRn G0 MT d) Q b 25 [some (.inr (.inr 9)), some (.inl row), some (.inl ((h 9 9) * 12)), some (.inl e)] [] h
          refine E_s 1 (i' := 26) (ls' := [some (.inr (.inr 9)), some (.inl row), some (.inl ((h 9 9) * 12)), some (.inl e)]) (sk' := [.inl 0]) (h' := h) rfl ?_
          exact E_ret (x := (.ireturn, 0, [], [])) (v := some (.inl 0)) rfl (Or.inr ⟨rfl, by omega⟩) (h0 (fun z9 => c24 (z9 e he0 (by omega))))
  exact key7 _ 0 (by omega) (by omega) (fun q hq0 hq1 => by omega) (Nat.lt_succ_self _)
set_option maxHeartbeats 1000000 in
theorem c_holder (d b : Nat) (h : xH) (hn : 0 ≤ h 1 2 ∧ h 1 2 ≤ 12) (hK : 0 ≤ h 9 9 ∧ h 9 9 ≤ 300) (hc : chn h (h 9 9)) (hs : 0 ≤ h 9 23 ∧ h 9 23 ≤ 511) (hr : ∀ k e, 0 ≤ k → k ≤ h 9 9 → 0 ≤ e → e < h 1 2 → xr (h 24 (k * 12 + e))) (hsl : ∀ k, 0 ≤ k → k < h 9 9 → (∀ e, 0 ≤ e → e < h 1 2 → h 24 (k * 12 + e) = h 24 (h 9 9 * 12 + e)) → h 27 k = h 9 23) {Q : xO → xH → Prop} (h1 : ∀ k, 0 ≤ k → k < h 9 9 → (∀ e, 0 ≤ e → e < h 1 2 → h 24 (k * 12 + e) = h 24 (h 9 9 * 12 + e)) → Q (.inl (some (.inl k))) h) (h0 : (∀ k, 0 ≤ k → k < h 9 9 → ¬ (∀ e, 0 ≤ e → e < h 1 2 → h 24 (k * 12 + e) = h 24 (h 9 9 * 12 + e))) → Q (.inl (some (.inl (-1)))) h) : xRn G0 MT (d + 2) b 14 [.inr (.inr 9)] h Q := by
  refine R_of (M := mX1_holder) rfl (Nat.le_of_ble_eq_true rfl) ?_
  show xEx G0 cdX1_holder (some .int) (xRn G0 MT (d + 1)) Q b 0 [some (.inr (.inr 9)), none, none] [] h
  refine E_s 4 (i' := 4) (ls' := [some (.inr (.inr 9)), none, none]) (sk' := [.inl (h 9 23), .inr (.inr 25)]) (h' := h) rfl ?_
  refine E_ld (x := (.iaload, 0, [], [])) (ty := .int) (n := 512) rfl rfl rfl (by omega) (by omega) ?_
  show xEx G0 cdX1_holder (some .int) (xRn G0 MT (d + 1)) Q b 5 [some (.inr (.inr 9)), none, none] [.inl (h 25 (h 9 23))] h
  refine E_s 3 (i' := 8) (ls' := [some (.inr (.inr 9)), some (.inl (h 25 (h 9 23))), some (.inl 0)]) (sk' := []) (h' := h) rfl ?_
  have key8 : ∀ (n : Nat) (k st K1 : Int), (0 ≤ st) → (st + K1 ≤ 300) → (0 ≤ K1) → (K1 ≤ h 9 9) → (lst (h 27) (h 9 23) K1 k) → (∀ k, K1 ≤ k → k < h 9 9 → ¬ (∀ e, 0 ≤ e → e < h 1 2 → h 24 (k * 12 + e) = h 24 (h 9 9 * 12 + e))) → (K1.toNat) < n → xEx G0 cdX1_holder (some .int) (xRn G0 MT (d + 1)) Q b 8 [some (.inr (.inr 9)), some (.inl k), some (.inl st)] [] h := by
    intro n
    induction n with
    | zero => intro k st K1 _ _ _ _ _ _ hm; exact absurd hm (Nat.not_lt_zero _)
    | succ n ih8 =>
      intro k st K1 hst hK1 hK2 hK3 hl hno hm8
      have rk := lst_r hl (by omega)
      refine E_s 2 (i' := 10) (ls' := [some (.inr (.inr 9)), some (.inl k), some (.inl st)]) (sk' := [.inl 300, .inl st]) (h' := h) rfl ?_
      refine E_b (x := (.if_icmp .ge 34, 29, [], [])) rfl rfl (fun c10 => ?_) (fun c10 => ?_)
      · rw [c_ge (by first | assumption | (refine ⟨?_, ?_⟩ <;> omega) | (simp only [xr] at *; omega)) (by first | assumption | (refine ⟨?_, ?_⟩ <;> omega) | (simp only [xr] at *; omega))] at c10
        simp only [decide_eq_true_eq, decide_eq_false_iff_not, Decidable.not_not] at c10
        show xEx G0 cdX1_holder (some .int) (xRn G0 MT (d + 1)) Q b 29 [some (.inr (.inr 9)), some (.inl k), some (.inl st)] [] h
        refine E_s 1 (i' := 30) (ls' := [some (.inr (.inr 9)), some (.inl k), some (.inl st)]) (sk' := [.inl (-1)]) (h' := h) rfl ?_
        exact E_ret (x := (.ireturn, 0, [], [])) (v := some (.inl (-1))) rfl (Or.inl rfl) (h0 (fun j h3 h4 => by
          rcases hl with ⟨-, hl⟩ | hl
          · intro h5
            rcases Int.lt_or_le j K1 with z8 | z8
            · exact hl j h3 z8 (hsl j h3 h4 h5)
            · exact hno j z8 h4 h5
          · omega))
      · rw [c_ge (by first | assumption | (refine ⟨?_, ?_⟩ <;> omega) | (simp only [xr] at *; omega)) (by first | assumption | (refine ⟨?_, ?_⟩ <;> omega) | (simp only [xr] at *; omega))] at c10
        simp only [decide_eq_true_eq, decide_eq_false_iff_not, Decidable.not_not] at c10
        show xEx G0 cdX1_holder (some .int) (xRn G0 MT (d + 1)) Q b 11 [some (.inr (.inr 9)), some (.inl k), some (.inl st)] [] h
        refine E_s 2 (i' := 13) (ls' := [some (.inr (.inr 9)), some (.inl k), some (.inl st)]) (sk' := [.inl (-1), .inl k]) (h' := h) rfl ?_
        refine E_b (x := (.if_icmp .eq 29, 29, [], [])) rfl rfl (fun c13 => ?_) (fun c13 => ?_)
        · rw [c_eq (by first | assumption | (refine ⟨?_, ?_⟩ <;> omega) | (simp only [xr] at *; omega)) (by first | assumption | (refine ⟨?_, ?_⟩ <;> omega) | (simp only [xr] at *; omega))] at c13
          simp only [decide_eq_true_eq, decide_eq_false_iff_not, Decidable.not_not] at c13
          show xEx G0 cdX1_holder (some .int) (xRn G0 MT (d + 1)) Q b 29 [some (.inr (.inr 9)), some (.inl k), some (.inl st)] [] h
          refine E_s 1 (i' := 30) (ls' := [some (.inr (.inr 9)), some (.inl k), some (.inl st)]) (sk' := [.inl (-1)]) (h' := h) rfl ?_
          exact E_ret (x := (.ireturn, 0, [], [])) (v := some (.inl (-1))) rfl (Or.inl rfl) (h0 (fun j h3 h4 => by
            rcases hl with ⟨-, hl⟩ | hl
            · intro h5
              rcases Int.lt_or_le j K1 with z8 | z8
              · exact hl j h3 z8 (hsl j h3 h4 h5)
              · exact hno j z8 h4 h5
            · omega))
        · rw [c_eq (by first | assumption | (refine ⟨?_, ?_⟩ <;> omega) | (simp only [xr] at *; omega)) (by first | assumption | (refine ⟨?_, ?_⟩ <;> omega) | (simp only [xr] at *; omega))] at c13
          simp only [decide_eq_true_eq, decide_eq_false_iff_not, Decidable.not_not] at c13
          show xEx G0 cdX1_holder (some .int) (xRn G0 MT (d + 1)) Q b 14 [some (.inr (.inr 9)), some (.inl k), some (.inl st)] [] h
          have hkk : 0 ≤ k ∧ k < K1 ∧ h 27 k = h 9 23 ∧ ∀ j, k < j → j < K1 → h 27 j ≠ h 9 23 := by
            rcases hl with hl | hl
            · exact absurd hl.1 c13
            · exact hl
          refine E_s 4 (i' := 18) (ls' := [some (.inr (.inr 9)), some (.inl k), some (.inl st)]) (sk' := [.inl (k * 12), .inr (.inr 9)]) (h' := h) rfl ?_
          refine E_cp (x := (.invokevirtual 123, 1, [(1, 15)], [0])) (q := fun r h9 => ((r = 1 ∧ ∀ e, 0 ≤ e → e < h 1 2 → h 24 (k * 12 + e) = h 24 (h 9 9 * 12 + e)) ∨ (r = 0 ∧ ¬ (∀ e, 0 ≤ e → e < h 1 2 → h 24 (k * 12 + e) = h 24 (h 9 9 * 12 + e)))) ∧ h = h9) rfl rfl (Nat.le_of_ble_eq_true rfl) (c_comesToReckoned d 0 h (k * 12) hn hK (by omega) (fun e h3 h4 => ⟨hr k e (by omega) (by omega) h3 h4, hr _ e (by omega) (by omega) h3 h4⟩) (fun z9 => ⟨1, rfl, Or.inl ⟨rfl, z9⟩, rfl⟩) (fun z9 => ⟨0, rfl, Or.inr ⟨rfl, z9⟩, rfl⟩)) (fun r h9 hq => ?_)
          obtain ⟨hq, rfl⟩ := hq
          show xEx G0 cdX1_holder (some .int) (xRn G0 MT (d + 1)) Q b 19 [some (.inr (.inr 9)), some (.inl k), some (.inl st)] [.inl r] h
          refine E_b (x := (.ifCond .eq 5, 22, [], [])) rfl rfl (fun c19 => ?_) (fun c19 => ?_)
          · rw [c_eq (by first | exact ⟨by omega, by omega⟩ | (rcases hq with ⟨hq, -⟩ | ⟨hq, -⟩ <;> subst hq <;> exact ⟨by omega, by omega⟩)) (by first | exact ⟨by omega, by omega⟩ | (rcases hq with ⟨hq, -⟩ | ⟨hq, -⟩ <;> subst hq <;> exact ⟨by omega, by omega⟩))] at c19
            simp only [decide_eq_true_eq, decide_eq_false_iff_not, Decidable.not_not] at c19
            show xEx G0 cdX1_holder (some .int) (xRn G0 MT (d + 1)) Q b 22 [some (.inr (.inr 9)), some (.inl k), some (.inl st)] [] h
            have hneq : ¬ (∀ e, 0 ≤ e → e < h 1 2 → h 24 (k * 12 + e) = h 24 (h 9 9 * 12 + e)) := by
              rcases hq with ⟨hq, -⟩ | ⟨-, hq⟩
              · omega
              · exact hq
            refine E_s 3 (i' := 25) (ls' := [some (.inr (.inr 9)), some (.inl k), some (.inl st)]) (sk' := [.inl k, .inr (.inr 26)]) (h' := h) rfl ?_
            refine E_ld (x := (.iaload, 0, [], [])) (ty := .int) (n := 300) rfl rfl rfl (by omega) (by omega) ?_
            show xEx G0 cdX1_holder (some .int) (xRn G0 MT (d + 1)) Q b 26 [some (.inr (.inr 9)), some (.inl k), some (.inl st)] [.inl (h 26 k)] h
            refine E_s 3 (i' := 8) (ls' := [some (.inr (.inr 9)), some (.inl (h 26 k)), some (.inl (st + 1))]) (sk' := []) (h' := h) rfl ?_
            exact ih8 _ (st + 1) k (by omega) (by omega) (by omega) (by omega) (by rw [← hkk.2.2.1]; exact (hc.2 k (by omega) (by omega)).2.2) (fun j h1 h2 => by
              rcases Int.lt_or_eq_of_le h1 with z9 | z9
              · intro h3
                rcases Int.lt_or_le j K1 with z8 | z8
                · exact hkk.2.2.2 j z9 z8 (hsl j (by omega) h2 h3)
                · exact hno j z8 h2 h3
              · rw [← z9]; exact hneq) (by omega)
          · rw [c_eq (by first | exact ⟨by omega, by omega⟩ | (rcases hq with ⟨hq, -⟩ | ⟨hq, -⟩ <;> subst hq <;> exact ⟨by omega, by omega⟩)) (by first | exact ⟨by omega, by omega⟩ | (rcases hq with ⟨hq, -⟩ | ⟨hq, -⟩ <;> subst hq <;> exact ⟨by omega, by omega⟩))] at c19
            simp only [decide_eq_true_eq, decide_eq_false_iff_not, Decidable.not_not] at c19
            show xEx G0 cdX1_holder (some .int) (xRn G0 MT (d + 1)) Q b 20 [some (.inr (.inr 9)), some (.inl k), some (.inl st)] [] h
            refine E_s 1 (i' := 21) (ls' := [some (.inr (.inr 9)), some (.inl k), some (.inl st)]) (sk' := [.inl k]) (h' := h) rfl ?_
            exact E_ret (x := (.ireturn, 0, [], [])) (v := some (.inl k)) rfl (Or.inl rfl) (h1 k (by omega) (by omega) (by rcases hq with ⟨-, hq⟩ | ⟨hq, -⟩; exact hq; omega))
  exact key8 _ _ 0 (h 9 9) (by omega) (by omega) (by omega) (by omega) (hc.1 _ hs.1 hs.2) (fun k h1 h2 => by omega) (Nat.lt_succ_self _)
