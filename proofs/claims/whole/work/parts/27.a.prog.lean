/-! PROGRAMS: the way down a tree, what is counted of its nodes -/
noncomputable def wlk (as f : Int → Int) : Nat → Int → Int
  | 0, nd => nd
  | d + 1, nd => if as nd = -1 then nd else if f (as nd) = 1 then wlk as f d (2 * nd + 1) else wlk as f d (2 * nd + 2)
noncomputable def wak (as f : Int → Int) : Nat → Int → Int → Int
  | 0, _, _ => -1
  | d + 1, nd, k => if as nd = -1 then -1 else if k = 0 then 2 * as nd + f (as nd) else if f (as nd) = 1 then wak as f d (2 * nd + 1) (k - 1) else wak as f d (2 * nd + 2) (k - 1)
theorem st1 {st : Int} (h0 : 0 ≤ st) (h1 : st < 3) : (3 - st).toNat = (3 - (st + 1)).toNat + 1 := by omega
theorem TR_s {as le : Int → Int} {S T : xH} {st nd : Int} (h : TRp as le S T (3 - st).toNat nd) (h0 : 0 ≤ st) (h1 : st < 3) (ha : ¬ as nd = -1) : 0 ≤ as nd ∧ as nd < T 0 0 ∧ le nd = -1 ∧ TRp as le S T (3 - (st + 1)).toNat (2 * nd + 1) ∧ TRp as le S T (3 - (st + 1)).toNat (2 * nd + 2) := by
  rw [st1 h0 h1] at h
  rcases h with ⟨a, -⟩ | h
  · exact absurd a ha
  · exact h
theorem TR_e {as le : Int → Int} {S T : xH} {nd : Int} : ∀ {m : Nat}, TRp as le S T m nd → as nd = -1 → 0 ≤ le nd ∧ le nd < S 0 0
  | 0, h, _ => h.2
  | m + 1, h, ha => by
    rcases h with h | ⟨a, -⟩
    · exact h.2
    · omega
theorem TR_3 {as le : Int → Int} {S T : xH} {st nd : Int} (h : TRp as le S T (3 - st).toNat nd) (h1 : st = 3) : as nd = -1 := by
  subst h1
  exact h.1
theorem wlk_e {as f : Int → Int} {nd : Int} (ha : as nd = -1) : ∀ m : Nat, wlk as f m nd = nd
  | 0 => rfl
  | m + 1 => by unfold wlk; rw [if_pos ha]
theorem wlk_1 {as f : Int → Int} {st nd : Int} (h0 : 0 ≤ st) (h1 : st < 3) (ha : ¬ as nd = -1) (hf : f (as nd) = 1) : wlk as f (3 - st).toNat nd = wlk as f (3 - (st + 1)).toNat (2 * nd + 1) := by
  rw [st1 h0 h1, wlk, if_neg ha, if_pos hf]
theorem wlk_2 {as f : Int → Int} {st nd : Int} (h0 : 0 ≤ st) (h1 : st < 3) (ha : ¬ as nd = -1) (hf : ¬ f (as nd) = 1) : wlk as f (3 - st).toNat nd = wlk as f (3 - (st + 1)).toNat (2 * nd + 2) := by
  rw [st1 h0 h1, wlk, if_neg ha, if_neg hf]
theorem wak_e {as f : Int → Int} {nd k : Int} (ha : as nd = -1) : ∀ m : Nat, wak as f m nd k = -1
  | 0 => rfl
  | m + 1 => by unfold wak; rw [if_pos ha]
theorem wak_k {as f : Int → Int} {st nd k : Int} (h0 : 0 ≤ st) (h1 : st < 3) (ha : ¬ as nd = -1) (hk : k = 0) : wak as f (3 - st).toNat nd k = 2 * as nd + f (as nd) := by
  rw [st1 h0 h1, wak, if_neg ha, if_pos hk]
theorem wak_1 {as f : Int → Int} {st nd k : Int} (h0 : 0 ≤ st) (h1 : st < 3) (ha : ¬ as nd = -1) (hk : ¬ k - st = 0) (hf : f (as nd) = 1) : wak as f (3 - st).toNat nd (k - st) = wak as f (3 - (st + 1)).toNat (2 * nd + 1) (k - (st + 1)) := by
  rw [st1 h0 h1, wak, if_neg ha, if_neg hk, if_pos hf]
  congr 1
  omega
theorem wak_2 {as f : Int → Int} {st nd k : Int} (h0 : 0 ≤ st) (h1 : st < 3) (ha : ¬ as nd = -1) (hk : ¬ k - st = 0) (hf : ¬ f (as nd) = 1) : wak as f (3 - st).toNat nd (k - st) = wak as f (3 - (st + 1)).toNat (2 * nd + 2) (k - (st + 1)) := by
  rw [st1 h0 h1, wak, if_neg ha, if_neg hk, if_neg hf]
  congr 1
  omega
/-- a tree's leaf is there -/
theorem wlk_l {as le f : Int → Int} {S T : xH} : ∀ (m : Nat) (nd : Int), TRp as le S T m nd → as (wlk as f m nd) = -1 ∧ 0 ≤ le (wlk as f m nd) ∧ le (wlk as f m nd) < S 0 0
  | 0, nd, h => h
  | m + 1, nd, h => by
    unfold wlk
    rcases h with h | ⟨a, b, c, e, g⟩
    · rw [if_pos h.1]; exact h
    · rw [if_neg (by omega)]
      split
      · exact wlk_l m _ e
      · exact wlk_l m _ g
/-- a way by answers that are alike -/
theorem wlk_f {as le f g : Int → Int} {S T : xH} (hf : ∀ t, 0 ≤ t → t < T 0 0 → f t = g t) : ∀ (m : Nat) (nd : Int), TRp as le S T m nd → wlk as f m nd = wlk as g m nd
  | 0, nd, h => rfl
  | m + 1, nd, h => by
    unfold wlk
    rcases h with h | ⟨a, b, c, e, r⟩
    · rw [if_pos h.1, if_pos h.1]
    · have n1 : ¬ as nd = -1 := by omega
      rw [if_neg n1, if_neg n1, hf _ a b, wlk_f hf m _ e, wlk_f hf m _ r]
theorem wak_f {as le f g : Int → Int} {S T : xH} (hf : ∀ t, 0 ≤ t → t < T 0 0 → f t = g t) : ∀ (m : Nat) (nd k : Int), TRp as le S T m nd → wak as f m nd k = wak as g m nd k
  | 0, nd, k, h => rfl
  | m + 1, nd, k, h => by
    unfold wak
    rcases h with h | ⟨a, b, c, e, r⟩
    · rw [if_pos h.1, if_pos h.1]
    · have n1 : ¬ as nd = -1 := by omega
      rw [if_neg n1, if_neg n1, hf _ a b, wak_f hf m _ _ e, wak_f hf m _ _ r]
/-- sums over nodes -/
def smN (g : Int → Int) : Nat → Int
  | 0 => 0
  | m + 1 => smN g m + g m
theorem smN_s {g : Int → Int} {q : Int} (h : 0 ≤ q) : smN g (q + 1).toNat = smN g q.toNat + g q := by
  have e : (q + 1).toNat = q.toNat + 1 := by omega
  rw [e, smN, Int.toNat_of_nonneg h]
def lvN (q : Int) : Int := if q = 0 then 1 else if q < 3 then 2 else 3
noncomputable def dpN (as : Int → Int) : Nat → Int
  | 0 => 0
  | m + 1 => if as m = -1 then dpN as m else lvN m
theorem dpN_0 {as : Int → Int} {q : Int} (h : 0 ≤ q) (z : as q = -1) : dpN as (q + 1).toNat = dpN as q.toNat := by
  have e : (q + 1).toNat = q.toNat + 1 := by omega
  rw [e, dpN, Int.toNat_of_nonneg h, if_pos z]
theorem dpN_1 {as : Int → Int} {q : Int} (h : 0 ≤ q) (z : ¬ as q = -1) : dpN as (q + 1).toNat = lvN q := by
  have e : (q + 1).toNat = q.toNat + 1 := by omega
  rw [e, dpN, Int.toNat_of_nonneg h, if_neg z]
theorem lvN_m (q : Int) (h : 0 ≤ q) : lvN q ≤ lvN (q + 1) ∧ 1 ≤ lvN q ∧ lvN q ≤ 3 := by
  unfold lvN
  split
  · split
    · omega
    · split <;> omega
  · split
    · split
      · omega
      · split <;> omega
    · split
      · omega
      · split <;> omega
theorem dpN_r (as : Int → Int) : ∀ m : Nat, 0 ≤ dpN as m ∧ dpN as m ≤ lvN m ∧ dpN as m ≤ 3
  | 0 => ⟨Int.le_refl _, by show (0 : Int) ≤ lvN 0; decide, by show (0 : Int) ≤ 3; decide⟩
  | m + 1 => by
    have i := dpN_r as m
    have j := lvN_m (m : Int) (by omega)
    unfold dpN
    have e : ((m + 1 : Nat) : Int) = (m : Int) + 1 := by omega
    rw [e]
    split <;> omega
def ifN (as : Int → Int) : Int → Prop := fun q => ¬ as q = -1
def lfN (le : Int → Int) : Int → Prop := fun q => ¬ le q = -1 ∧ ∀ j, 0 ≤ j → j < q → ¬ le j = le q
noncomputable def psN (as le : Int → Int) (S T : xH) (p : Int) : Int → Int := fun q => (if as q = -1 then 0 else pin (T 11 (as q)) p) + (if le q = -1 then 0 else pin (S 11 (le q)) p)
set_option maxHeartbeats 1000000 in
theorem c_nb1 (d b : Nat) (h : xH) (nd : Int) {Q : xO → xH → Prop} (hQ : Q (.inl (some (.inl (2 * nd + 1)))) h) : xRn G0 MT (d + 1) b 45 [.inl nd, .inl 1] h Q := by
  refine R_of (M := mX6_nodeBehind) rfl (Nat.le_of_ble_eq_true rfl) ?_
  show xEx G0 cdX6_nodeBehind (some .int) (xRn G0 MT d) Q b 0 [some (.inl nd), some (.inl 1)] [] h
  refine E_s 4 (i' := 4) (ls' := [some (.inl nd), some (.inl 1)]) (sk' := [.inl 1, .inl (2 * nd)]) (h' := h) rfl ?_
  refine E_b (x := (.ifCond .eq 7, 7, [], [])) rfl rfl (fun c4 => ?_) (fun c4 => ?_)
  · show xEx G0 cdX6_nodeBehind (some .int) (xRn G0 MT d) Q b 7 [some (.inl nd), some (.inl 1)] [.inl (2 * nd)] h
    exact absurd c4 (by decide)
  · show xEx G0 cdX6_nodeBehind (some .int) (xRn G0 MT d) Q b 5 [some (.inl nd), some (.inl 1)] [.inl (2 * nd)] h
    refine E_s 3 (i' := 9) (ls' := [some (.inl nd), some (.inl 1)]) (sk' := [.inl ((2 * nd) + 1)]) (h' := h) rfl ?_
    exact E_ret (x := (.ireturn, 0, [], [])) (v := some (.inl ((2 * nd) + 1))) rfl (Or.inl rfl) (hQ)
set_option maxHeartbeats 1000000 in
theorem c_nb0 (d b : Nat) (h : xH) (nd : Int) {Q : xO → xH → Prop} (hQ : Q (.inl (some (.inl (2 * nd + 2)))) h) : xRn G0 MT (d + 1) b 45 [.inl nd, .inl 0] h Q := by
  refine R_of (M := mX6_nodeBehind) rfl (Nat.le_of_ble_eq_true rfl) ?_
  show xEx G0 cdX6_nodeBehind (some .int) (xRn G0 MT d) Q b 0 [some (.inl nd), some (.inl 0)] [] h
  refine E_s 4 (i' := 4) (ls' := [some (.inl nd), some (.inl 0)]) (sk' := [.inl 0, .inl (2 * nd)]) (h' := h) rfl ?_
  refine E_b (x := (.ifCond .eq 7, 7, [], [])) rfl rfl (fun c4 => ?_) (fun c4 => ?_)
  · show xEx G0 cdX6_nodeBehind (some .int) (xRn G0 MT d) Q b 7 [some (.inl nd), some (.inl 0)] [.inl (2 * nd)] h
    refine E_s 2 (i' := 9) (ls' := [some (.inl nd), some (.inl 0)]) (sk' := [.inl ((2 * nd) + 2)]) (h' := h) rfl ?_
    exact E_ret (x := (.ireturn, 0, [], [])) (v := some (.inl ((2 * nd) + 2))) rfl (Or.inl rfl) (hQ)
  · show xEx G0 cdX6_nodeBehind (some .int) (xRn G0 MT d) Q b 5 [some (.inl nd), some (.inl 0)] [.inl (2 * nd)] h
    exact absurd c4 (by decide)
set_option maxHeartbeats 1000000 in
theorem c_prComes (d b : Nat) (h S T : xH) (ev : EV h S T) (rx : ∀ i, 0 ≤ i → i ≤ 2 → xr (h 63 i)) (hr : ∀ nd, 0 ≤ nd → nd < 15 → -1 ≤ h 57 nd ∧ h 57 nd < T 0 0 ∧ -1 ≤ h 58 nd ∧ h 58 nd < S 0 0) (tr : TRp (h 57) (h 58) S T 3 0) {Q : xO → xH → Prop} (hQ : ∀ v, w32 v = VE S (h 63) (h 58 (wlk (h 57) (VU S T (h 63)) 3 0)) → Q (.inl (some (.inl (v)))) h) : xRn G0 MT (d + 24) b 53 [.inr (.inr 56), .inr (.inr 63)] h Q := by
  refine R_of (M := mX6_comesTo) rfl (Nat.le_of_ble_eq_true rfl) ?_
  show xEx G0 cdX6_comesTo (some .int) (xRn G0 MT (d + 23)) Q b 0 [some (.inr (.inr 56)), some (.inr (.inr 63)), none, none] [] h
  refine E_s 4 (i' := 4) (ls' := [some (.inr (.inr 56)), some (.inr (.inr 63)), some (.inl 0), some (.inl 0)]) (sk' := []) (h' := h) rfl ?_
  have key4 : ∀ (n : Nat) (st nd : Int), (0 ≤ st) → (st ≤ 3) → (0 ≤ nd) → ((st = 0 ∧ nd ≤ 0) ∨ (st = 1 ∧ nd ≤ 2) ∨ (st = 2 ∧ nd ≤ 6) ∨ (st = 3 ∧ nd ≤ 14)) → (TRp (h 57) (h 58) S T (3 - st).toNat nd) → (wlk (h 57) (VU S T (h 63)) (3 - st).toNat nd = wlk (h 57) (VU S T (h 63)) 3 0) → ((3 - st).toNat) < n → xEx G0 cdX6_comesTo (some .int) (xRn G0 MT (d + 23)) Q b 4 [some (.inr (.inr 56)), some (.inr (.inr 63)), some (.inl nd), some (.inl st)] [] h := by
    intro n
    induction n with
    | zero => intro st nd _ _ _ _ _ _ hm; exact absurd hm (Nat.not_lt_zero _)
    | succ n ih4 =>
      intro st nd hs0 hs9 hn0 hn9 htr hwl hm4
      refine E_s 2 (i' := 6) (ls' := [some (.inr (.inr 56)), some (.inr (.inr 63)), some (.inl nd), some (.inl st)]) (sk' := [.inl 3, .inl st]) (h' := h) rfl ?_
      refine E_b (x := (.if_icmp .ge 47, 31, [], [])) rfl rfl (fun c6 => ?_) (fun c6 => ?_)
      · rw [c_ge (by first | assumption | (refine ⟨?_, ?_⟩ <;> omega) | (simp only [xr] at *; omega)) (by first | assumption | (refine ⟨?_, ?_⟩ <;> omega) | (simp only [xr] at *; omega))] at c6
        simp only [decide_eq_true_eq, decide_eq_false_iff_not, Decidable.not_not] at c6
        show xEx G0 cdX6_comesTo (some .int) (xRn G0 MT (d + 23)) Q b 31 [some (.inr (.inr 56)), some (.inr (.inr 63)), some (.inl nd), some (.inl st)] [] h
        have hrn9 := hr nd hn0 (by omega)
        have ha : h 57 nd = -1 := by
          first
          | exact c12
          | exact TR_3 htr (by omega)
        have hl := TR_e htr ha
        have hw9 := hwl
        rw [wlk_e ha] at hw9
        refine E_s 5 (i' := 36) (ls' := [some (.inr (.inr 56)), some (.inr (.inr 63)), some (.inl nd), some (.inl st)]) (sk' := [.inl nd, .inr (.inr 58), .inr (.inr 9)]) (h' := h) rfl ?_
        refine E_ld (x := (.iaload, 0, [], [])) (ty := .int) (n := 15) rfl rfl rfl (by omega) (by omega) ?_
        show xEx G0 cdX6_comesTo (some .int) (xRn G0 MT (d + 23)) Q b 37 [some (.inr (.inr 56)), some (.inr (.inr 63)), some (.inl nd), some (.inl st)] [.inl (h 58 nd), .inr (.inr 9)] h
        refine E_s 1 (i' := 38) (ls' := [some (.inr (.inr 56)), some (.inr (.inr 63)), some (.inl nd), some (.inl st)]) (sk' := [.inr (.inr 63), .inl (h 58 nd), .inr (.inr 9)]) (h' := h) rfl ?_
        refine E_cp (x := (.invokevirtual 46, 2, [(1, 24)], [1])) (q := fun r h9 => w32 r = VE S (h 63) (h 58 nd) ∧ h = h9) rfl rfl (Nat.le_of_ble_eq_true rfl) (c_comesTo (d + 11) 0 h S (h 58 nd) ev.1 ev.2.1 ev.2.2.1.2 hl rx (fun v hv => ⟨v, rfl, hv, rfl⟩)) (fun r h9 hv => ?_)
        obtain ⟨hv, rfl⟩ := hv
        show xEx G0 cdX6_comesTo (some .int) (xRn G0 MT (d + 23)) Q b 39 [some (.inr (.inr 56)), some (.inr (.inr 63)), some (.inl nd), some (.inl st)] [.inl r] h
        exact E_ret (x := (.ireturn, 0, [], [])) (v := some (.inl r)) rfl (Or.inl rfl) (hQ _ (by rw [hv, hw9]))
      · rw [c_ge (by first | assumption | (refine ⟨?_, ?_⟩ <;> omega) | (simp only [xr] at *; omega)) (by first | assumption | (refine ⟨?_, ?_⟩ <;> omega) | (simp only [xr] at *; omega))] at c6
        simp only [decide_eq_true_eq, decide_eq_false_iff_not, Decidable.not_not] at c6
        show xEx G0 cdX6_comesTo (some .int) (xRn G0 MT (d + 23)) Q b 7 [some (.inr (.inr 56)), some (.inr (.inr 63)), some (.inl nd), some (.inl st)] [] h
        have hrn := hr nd hn0 (by omega)
        have h49 := ev.2.2.2.2.2
        have h39 := ev.2.2.1
        refine E_s 3 (i' := 10) (ls' := [some (.inr (.inr 56)), some (.inr (.inr 63)), some (.inl nd), some (.inl st)]) (sk' := [.inl nd, .inr (.inr 57)]) (h' := h) rfl ?_
        refine E_ld (x := (.iaload, 0, [], [])) (ty := .int) (n := 15) rfl rfl rfl (by omega) (by omega) ?_
        show xEx G0 cdX6_comesTo (some .int) (xRn G0 MT (d + 23)) Q b 11 [some (.inr (.inr 56)), some (.inr (.inr 63)), some (.inl nd), some (.inl st)] [.inl (h 57 nd)] h
        refine E_s 1 (i' := 12) (ls' := [some (.inr (.inr 56)), some (.inr (.inr 63)), some (.inl nd), some (.inl st)]) (sk' := [.inl (-1), .inl (h 57 nd)]) (h' := h) rfl ?_
        refine E_b (x := (.if_icmp .eq 37, 31, [], [])) rfl rfl (fun c12 => ?_) (fun c12 => ?_)
        · rw [c_eq (by first | assumption | (refine ⟨?_, ?_⟩ <;> omega) | (simp only [xr] at *; omega)) (by first | assumption | (refine ⟨?_, ?_⟩ <;> omega) | (simp only [xr] at *; omega))] at c12
          simp only [decide_eq_true_eq, decide_eq_false_iff_not, Decidable.not_not] at c12
          show xEx G0 cdX6_comesTo (some .int) (xRn G0 MT (d + 23)) Q b 31 [some (.inr (.inr 56)), some (.inr (.inr 63)), some (.inl nd), some (.inl st)] [] h
          have hrn9 := hr nd hn0 (by omega)
          have ha : h 57 nd = -1 := by
            first
            | exact c12
            | exact TR_3 htr (by omega)
          have hl := TR_e htr ha
          have hw9 := hwl
          rw [wlk_e ha] at hw9
          refine E_s 5 (i' := 36) (ls' := [some (.inr (.inr 56)), some (.inr (.inr 63)), some (.inl nd), some (.inl st)]) (sk' := [.inl nd, .inr (.inr 58), .inr (.inr 9)]) (h' := h) rfl ?_
          refine E_ld (x := (.iaload, 0, [], [])) (ty := .int) (n := 15) rfl rfl rfl (by omega) (by omega) ?_
          show xEx G0 cdX6_comesTo (some .int) (xRn G0 MT (d + 23)) Q b 37 [some (.inr (.inr 56)), some (.inr (.inr 63)), some (.inl nd), some (.inl st)] [.inl (h 58 nd), .inr (.inr 9)] h
          refine E_s 1 (i' := 38) (ls' := [some (.inr (.inr 56)), some (.inr (.inr 63)), some (.inl nd), some (.inl st)]) (sk' := [.inr (.inr 63), .inl (h 58 nd), .inr (.inr 9)]) (h' := h) rfl ?_
          refine E_cp (x := (.invokevirtual 46, 2, [(1, 24)], [1])) (q := fun r h9 => w32 r = VE S (h 63) (h 58 nd) ∧ h = h9) rfl rfl (Nat.le_of_ble_eq_true rfl) (c_comesTo (d + 11) 0 h S (h 58 nd) ev.1 ev.2.1 ev.2.2.1.2 hl rx (fun v hv => ⟨v, rfl, hv, rfl⟩)) (fun r h9 hv => ?_)
          obtain ⟨hv, rfl⟩ := hv
          show xEx G0 cdX6_comesTo (some .int) (xRn G0 MT (d + 23)) Q b 39 [some (.inr (.inr 56)), some (.inr (.inr 63)), some (.inl nd), some (.inl st)] [.inl r] h
          exact E_ret (x := (.ireturn, 0, [], [])) (v := some (.inl r)) rfl (Or.inl rfl) (hQ _ (by rw [hv, hw9]))
        · rw [c_eq (by first | assumption | (refine ⟨?_, ?_⟩ <;> omega) | (simp only [xr] at *; omega)) (by first | assumption | (refine ⟨?_, ?_⟩ <;> omega) | (simp only [xr] at *; omega))] at c12
          simp only [decide_eq_true_eq, decide_eq_false_iff_not, Decidable.not_not] at c12
          show xEx G0 cdX6_comesTo (some .int) (xRn G0 MT (d + 23)) Q b 13 [some (.inr (.inr 56)), some (.inr (.inr 63)), some (.inl nd), some (.inl st)] [] h
          have tt := TR_s htr hs0 (by omega) c12
          refine E_s 6 (i' := 19) (ls' := [some (.inr (.inr 56)), some (.inr (.inr 63)), some (.inl nd), some (.inl st)]) (sk' := [.inl nd, .inr (.inr 57), .inr (.inr 28), .inl nd]) (h' := h) rfl ?_
          refine E_ld (x := (.iaload, 0, [], [])) (ty := .int) (n := 15) rfl rfl rfl (by omega) (by omega) ?_
          show xEx G0 cdX6_comesTo (some .int) (xRn G0 MT (d + 23)) Q b 20 [some (.inr (.inr 56)), some (.inr (.inr 63)), some (.inl nd), some (.inl st)] [.inl (h 57 nd), .inr (.inr 28), .inl nd] h
          refine E_s 1 (i' := 21) (ls' := [some (.inr (.inr 56)), some (.inr (.inr 63)), some (.inl nd), some (.inl st)]) (sk' := [.inr (.inr 63), .inl (h 57 nd), .inr (.inr 28), .inl nd]) (h' := h) rfl ?_
          refine E_cp (x := (.invokevirtual 36, 2, [(7, 24)], [1])) (q := fun r h9 => w32 r = VU S T (h 63) (h 57 nd) ∧ h = h9) rfl rfl (Nat.le_of_ble_eq_true rfl) (c_comesToT d 0 h S T (h 57 nd) ev.1 ev.2.1 ev.2.2.1.2 ev.2.2.2.1 ev.2.2.2.2.1 ev.2.2.2.2.2.2 ⟨tt.1, tt.2.1⟩ rx (fun v hv => ⟨v, rfl, hv, rfl⟩)) (fun r h9 hv => ?_)
          obtain ⟨hv, rfl⟩ := hv
          show xEx G0 cdX6_comesTo (some .int) (xRn G0 MT (d + 23)) Q b 22 [some (.inr (.inr 56)), some (.inr (.inr 63)), some (.inl nd), some (.inl st)] [.inl r, .inl nd] h
          have u0 : VU S T (h 63) (h 57 nd) = 0 ∨ VU S T (h 63) (h 57 nd) = 1 := vU_01 S T _ 150 _
          refine E_ti (y := (VU S T (h 63) (h 57 nd))) (by rw [hv, w32_id]; exact ⟨by omega, by omega⟩) ?_
          refine E_s 1 (i' := 23) (ls' := [some (.inr (.inr 56)), some (.inr (.inr 63)), some (.inl nd), some (.inl st)]) (sk' := [.inl 1, .inl (VU S T (h 63) (h 57 nd)), .inl nd]) (h' := h) rfl ?_
          refine E_b (x := (.if_icmp .ne 7, 26, [], [])) rfl rfl (fun c23 => ?_) (fun c23 => ?_)
          · rw [c_ne (by first | assumption | (refine ⟨?_, ?_⟩ <;> omega) | (simp only [xr] at *; omega)) (by first | assumption | (refine ⟨?_, ?_⟩ <;> omega) | (simp only [xr] at *; omega))] at c23
            simp only [decide_eq_true_eq, decide_eq_false_iff_not, Decidable.not_not] at c23
            show xEx G0 cdX6_comesTo (some .int) (xRn G0 MT (d + 23)) Q b 26 [some (.inr (.inr 56)), some (.inr (.inr 63)), some (.inl nd), some (.inl st)] [.inl nd] h
            refine E_s 1 (i' := 27) (ls' := [some (.inr (.inr 56)), some (.inr (.inr 63)), some (.inl nd), some (.inl st)]) (sk' := [.inl 0, .inl nd]) (h' := h) rfl ?_
            refine E_ci (x := (.invokestatic 42, 2, [(0, 45)], [])) (r := (2 * nd + 2)) (h' := h) rfl rfl (Nat.le_of_ble_eq_true rfl) (c_nb0 (d + 22) 0 h nd ⟨rfl, rfl⟩) ?_
            show xEx G0 cdX6_comesTo (some .int) (xRn G0 MT (d + 23)) Q b 28 [some (.inr (.inr 56)), some (.inr (.inr 63)), some (.inl nd), some (.inl st)] [.inl (2 * nd + 2)] h
            refine E_s 3 (i' := 4) (ls' := [some (.inr (.inr 56)), some (.inr (.inr 63)), some (.inl (2 * nd + 2)), some (.inl (st + 1))]) (sk' := []) (h' := h) rfl ?_
            exact ih4 (st + 1) (2 * nd + 2) (by omega) (by omega) (by omega) (by omega) tt.2.2.2.2 ((wlk_2 hs0 (by omega) c12 c23).symm.trans hwl) (by omega)
          · rw [c_ne (by first | assumption | (refine ⟨?_, ?_⟩ <;> omega) | (simp only [xr] at *; omega)) (by first | assumption | (refine ⟨?_, ?_⟩ <;> omega) | (simp only [xr] at *; omega))] at c23
            simp only [decide_eq_true_eq, decide_eq_false_iff_not, Decidable.not_not] at c23
            show xEx G0 cdX6_comesTo (some .int) (xRn G0 MT (d + 23)) Q b 24 [some (.inr (.inr 56)), some (.inr (.inr 63)), some (.inl nd), some (.inl st)] [.inl nd] h
            refine E_s 2 (i' := 27) (ls' := [some (.inr (.inr 56)), some (.inr (.inr 63)), some (.inl nd), some (.inl st)]) (sk' := [.inl 1, .inl nd]) (h' := h) rfl ?_
            refine E_ci (x := (.invokestatic 42, 2, [(0, 45)], [])) (r := (2 * nd + 1)) (h' := h) rfl rfl (Nat.le_of_ble_eq_true rfl) (c_nb1 (d + 22) 0 h nd ⟨rfl, rfl⟩) ?_
            show xEx G0 cdX6_comesTo (some .int) (xRn G0 MT (d + 23)) Q b 28 [some (.inr (.inr 56)), some (.inr (.inr 63)), some (.inl nd), some (.inl st)] [.inl (2 * nd + 1)] h
            refine E_s 3 (i' := 4) (ls' := [some (.inr (.inr 56)), some (.inr (.inr 63)), some (.inl (2 * nd + 1)), some (.inl (st + 1))]) (sk' := []) (h' := h) rfl ?_
            exact ih4 (st + 1) (2 * nd + 1) (by omega) (by omega) (by omega) (by omega) tt.2.2.2.1 ((wlk_1 hs0 (by omega) c12 c23).symm.trans hwl) (by omega)
  exact key4 _ 0 0 (by omega) (by omega) (by omega) (by omega) tr rfl (Nat.lt_succ_self _)
set_option maxHeartbeats 1000000 in
theorem c_prLeaf (d b : Nat) (h S T : xH) (e : Int) (h4 : T 0 0 ≤ 150) (hr : ∀ nd, 0 ≤ nd → nd < 15 → -1 ≤ h 57 nd ∧ h 57 nd < T 0 0 ∧ -1 ≤ h 58 nd ∧ h 58 nd < S 0 0) (tr : TRp (h 57) (h 58) S T 3 0) {Q : xO → xH → Prop} (hQ : Q (.inl (some (.inl (h 58 (wlk (h 57) (fun t => xand (xshr (h 39 t) e) 1) 3 0))))) h) : xRn G0 MT (d + 2) b 54 [.inr (.inr 56), .inl e] h Q := by
  refine R_of (M := mX6_leafOf) rfl (Nat.le_of_ble_eq_true rfl) ?_
  show xEx G0 cdX6_leafOf (some .int) (xRn G0 MT (d + 1)) Q b 0 [some (.inr (.inr 56)), some (.inl e), none, none] [] h
  refine E_s 4 (i' := 4) (ls' := [some (.inr (.inr 56)), some (.inl e), some (.inl 0), some (.inl 0)]) (sk' := []) (h' := h) rfl ?_
  have key4 : ∀ (n : Nat) (st nd : Int), (0 ≤ st) → (st ≤ 3) → (0 ≤ nd) → ((st = 0 ∧ nd ≤ 0) ∨ (st = 1 ∧ nd ≤ 2) ∨ (st = 2 ∧ nd ≤ 6) ∨ (st = 3 ∧ nd ≤ 14)) → (TRp (h 57) (h 58) S T (3 - st).toNat nd) → (wlk (h 57) (fun t => xand (xshr (h 39 t) e) 1) (3 - st).toNat nd = wlk (h 57) (fun t => xand (xshr (h 39 t) e) 1) 3 0) → ((3 - st).toNat) < n → xEx G0 cdX6_leafOf (some .int) (xRn G0 MT (d + 1)) Q b 4 [some (.inr (.inr 56)), some (.inl e), some (.inl nd), some (.inl st)] [] h := by
    intro n
    induction n with
    | zero => intro st nd _ _ _ _ _ _ hm; exact absurd hm (Nat.not_lt_zero _)
    | succ n ih4 =>
      intro st nd hs0 hs9 hn0 hn9 htr hwl hm4
      refine E_s 2 (i' := 6) (ls' := [some (.inr (.inr 56)), some (.inl e), some (.inl nd), some (.inl st)]) (sk' := [.inl 3, .inl st]) (h' := h) rfl ?_
      refine E_b (x := (.if_icmp .ge 47, 31, [], [])) rfl rfl (fun c6 => ?_) (fun c6 => ?_)
      · rw [c_ge (by first | assumption | (refine ⟨?_, ?_⟩ <;> omega) | (simp only [xr] at *; omega)) (by first | assumption | (refine ⟨?_, ?_⟩ <;> omega) | (simp only [xr] at *; omega))] at c6
        simp only [decide_eq_true_eq, decide_eq_false_iff_not, Decidable.not_not] at c6
        show xEx G0 cdX6_leafOf (some .int) (xRn G0 MT (d + 1)) Q b 31 [some (.inr (.inr 56)), some (.inl e), some (.inl nd), some (.inl st)] [] h
        have hrn9 := hr nd hn0 (by omega)
        have ha : h 57 nd = -1 := by
          first
          | exact c12
          | exact TR_3 htr (by omega)
        have hw9 := hwl
        rw [wlk_e ha] at hw9
        refine E_s 3 (i' := 34) (ls' := [some (.inr (.inr 56)), some (.inl e), some (.inl nd), some (.inl st)]) (sk' := [.inl nd, .inr (.inr 58)]) (h' := h) rfl ?_
        refine E_ld (x := (.iaload, 0, [], [])) (ty := .int) (n := 15) rfl rfl rfl (by omega) (by omega) ?_
        show xEx G0 cdX6_leafOf (some .int) (xRn G0 MT (d + 1)) Q b 35 [some (.inr (.inr 56)), some (.inl e), some (.inl nd), some (.inl st)] [.inl (h 58 nd)] h
        exact E_ret (x := (.ireturn, 0, [], [])) (v := some (.inl (h 58 nd))) rfl (Or.inl rfl) (by
          rw [← hw9] at hQ
          exact hQ)
      · rw [c_ge (by first | assumption | (refine ⟨?_, ?_⟩ <;> omega) | (simp only [xr] at *; omega)) (by first | assumption | (refine ⟨?_, ?_⟩ <;> omega) | (simp only [xr] at *; omega))] at c6
        simp only [decide_eq_true_eq, decide_eq_false_iff_not, Decidable.not_not] at c6
        show xEx G0 cdX6_leafOf (some .int) (xRn G0 MT (d + 1)) Q b 7 [some (.inr (.inr 56)), some (.inl e), some (.inl nd), some (.inl st)] [] h
        have hrn := hr nd hn0 (by omega)
        refine E_s 3 (i' := 10) (ls' := [some (.inr (.inr 56)), some (.inl e), some (.inl nd), some (.inl st)]) (sk' := [.inl nd, .inr (.inr 57)]) (h' := h) rfl ?_
        refine E_ld (x := (.iaload, 0, [], [])) (ty := .int) (n := 15) rfl rfl rfl (by omega) (by omega) ?_
        show xEx G0 cdX6_leafOf (some .int) (xRn G0 MT (d + 1)) Q b 11 [some (.inr (.inr 56)), some (.inl e), some (.inl nd), some (.inl st)] [.inl (h 57 nd)] h
        refine E_s 1 (i' := 12) (ls' := [some (.inr (.inr 56)), some (.inl e), some (.inl nd), some (.inl st)]) (sk' := [.inl (-1), .inl (h 57 nd)]) (h' := h) rfl ?_
        refine E_b (x := (.if_icmp .eq 37, 31, [], [])) rfl rfl (fun c12 => ?_) (fun c12 => ?_)
        · rw [c_eq (by first | assumption | (refine ⟨?_, ?_⟩ <;> omega) | (simp only [xr] at *; omega)) (by first | assumption | (refine ⟨?_, ?_⟩ <;> omega) | (simp only [xr] at *; omega))] at c12
          simp only [decide_eq_true_eq, decide_eq_false_iff_not, Decidable.not_not] at c12
          show xEx G0 cdX6_leafOf (some .int) (xRn G0 MT (d + 1)) Q b 31 [some (.inr (.inr 56)), some (.inl e), some (.inl nd), some (.inl st)] [] h
          have hrn9 := hr nd hn0 (by omega)
          have ha : h 57 nd = -1 := by
            first
            | exact c12
            | exact TR_3 htr (by omega)
          have hw9 := hwl
          rw [wlk_e ha] at hw9
          refine E_s 3 (i' := 34) (ls' := [some (.inr (.inr 56)), some (.inl e), some (.inl nd), some (.inl st)]) (sk' := [.inl nd, .inr (.inr 58)]) (h' := h) rfl ?_
          refine E_ld (x := (.iaload, 0, [], [])) (ty := .int) (n := 15) rfl rfl rfl (by omega) (by omega) ?_
          show xEx G0 cdX6_leafOf (some .int) (xRn G0 MT (d + 1)) Q b 35 [some (.inr (.inr 56)), some (.inl e), some (.inl nd), some (.inl st)] [.inl (h 58 nd)] h
          exact E_ret (x := (.ireturn, 0, [], [])) (v := some (.inl (h 58 nd))) rfl (Or.inl rfl) (by
            rw [← hw9] at hQ
            exact hQ)
        · rw [c_eq (by first | assumption | (refine ⟨?_, ?_⟩ <;> omega) | (simp only [xr] at *; omega)) (by first | assumption | (refine ⟨?_, ?_⟩ <;> omega) | (simp only [xr] at *; omega))] at c12
          simp only [decide_eq_true_eq, decide_eq_false_iff_not, Decidable.not_not] at c12
          show xEx G0 cdX6_leafOf (some .int) (xRn G0 MT (d + 1)) Q b 13 [some (.inr (.inr 56)), some (.inl e), some (.inl nd), some (.inl st)] [] h
          have tt := TR_s htr hs0 (by omega) c12
          refine E_s 6 (i' := 19) (ls' := [some (.inr (.inr 56)), some (.inl e), some (.inl nd), some (.inl st)]) (sk' := [.inl nd, .inr (.inr 57), .inr (.inr 28), .inl nd]) (h' := h) rfl ?_
          refine E_ld (x := (.iaload, 0, [], [])) (ty := .int) (n := 15) rfl rfl rfl (by omega) (by omega) ?_
          show xEx G0 cdX6_leafOf (some .int) (xRn G0 MT (d + 1)) Q b 20 [some (.inr (.inr 56)), some (.inl e), some (.inl nd), some (.inl st)] [.inl (h 57 nd), .inr (.inr 28), .inl nd] h
          refine E_s 1 (i' := 21) (ls' := [some (.inr (.inr 56)), some (.inl e), some (.inl nd), some (.inl st)]) (sk' := [.inl e, .inl (h 57 nd), .inr (.inr 28), .inl nd]) (h' := h) rfl ?_
          refine E_ci (x := (.invokevirtual 49, 2, [(7, 90)], [0])) (r := (xand (xshr (h 39 (h 57 nd)) e) 1)) (h' := h) rfl rfl (Nat.le_of_ble_eq_true rfl) (c_outputOnT d 0 h (h 57 nd) e ⟨tt.1, by omega⟩ ⟨rfl, rfl⟩) ?_
          show xEx G0 cdX6_leafOf (some .int) (xRn G0 MT (d + 1)) Q b 22 [some (.inr (.inr 56)), some (.inl e), some (.inl nd), some (.inl st)] [.inl (xand (xshr (h 39 (h 57 nd)) e) 1), .inl nd] h
          refine E_s 1 (i' := 23) (ls' := [some (.inr (.inr 56)), some (.inl e), some (.inl nd), some (.inl st)]) (sk' := [.inl 1, .inl (xand (xshr (h 39 (h 57 nd)) e) 1), .inl nd]) (h' := h) rfl ?_
          refine E_b (x := (.if_icmp .ne 7, 26, [], [])) rfl rfl (fun c23 => ?_) (fun c23 => ?_)
          · rw [c_ne (by first | exact xand_r _ _ | exact ⟨by omega, by omega⟩) (by first | exact xand_r _ _ | exact ⟨by omega, by omega⟩)] at c23
            simp only [decide_eq_true_eq, decide_eq_false_iff_not, Decidable.not_not] at c23
            show xEx G0 cdX6_leafOf (some .int) (xRn G0 MT (d + 1)) Q b 26 [some (.inr (.inr 56)), some (.inl e), some (.inl nd), some (.inl st)] [.inl nd] h
            refine E_s 1 (i' := 27) (ls' := [some (.inr (.inr 56)), some (.inl e), some (.inl nd), some (.inl st)]) (sk' := [.inl 0, .inl nd]) (h' := h) rfl ?_
            refine E_ci (x := (.invokestatic 42, 2, [(0, 45)], [])) (r := (2 * nd + 2)) (h' := h) rfl rfl (Nat.le_of_ble_eq_true rfl) (c_nb0 d 0 h nd ⟨rfl, rfl⟩) ?_
            show xEx G0 cdX6_leafOf (some .int) (xRn G0 MT (d + 1)) Q b 28 [some (.inr (.inr 56)), some (.inl e), some (.inl nd), some (.inl st)] [.inl (2 * nd + 2)] h
            refine E_s 3 (i' := 4) (ls' := [some (.inr (.inr 56)), some (.inl e), some (.inl (2 * nd + 2)), some (.inl (st + 1))]) (sk' := []) (h' := h) rfl ?_
            exact ih4 (st + 1) (2 * nd + 2) (by omega) (by omega) (by omega) (by omega) tt.2.2.2.2 ((wlk_2 hs0 (by omega) c12 c23).symm.trans hwl) (by omega)
          · rw [c_ne (by first | exact xand_r _ _ | exact ⟨by omega, by omega⟩) (by first | exact xand_r _ _ | exact ⟨by omega, by omega⟩)] at c23
            simp only [decide_eq_true_eq, decide_eq_false_iff_not, Decidable.not_not] at c23
            show xEx G0 cdX6_leafOf (some .int) (xRn G0 MT (d + 1)) Q b 24 [some (.inr (.inr 56)), some (.inl e), some (.inl nd), some (.inl st)] [.inl nd] h
            refine E_s 2 (i' := 27) (ls' := [some (.inr (.inr 56)), some (.inl e), some (.inl nd), some (.inl st)]) (sk' := [.inl 1, .inl nd]) (h' := h) rfl ?_
            refine E_ci (x := (.invokestatic 42, 2, [(0, 45)], [])) (r := (2 * nd + 1)) (h' := h) rfl rfl (Nat.le_of_ble_eq_true rfl) (c_nb1 d 0 h nd ⟨rfl, rfl⟩) ?_
            show xEx G0 cdX6_leafOf (some .int) (xRn G0 MT (d + 1)) Q b 28 [some (.inr (.inr 56)), some (.inl e), some (.inl nd), some (.inl st)] [.inl (2 * nd + 1)] h
            refine E_s 3 (i' := 4) (ls' := [some (.inr (.inr 56)), some (.inl e), some (.inl (2 * nd + 1)), some (.inl (st + 1))]) (sk' := []) (h' := h) rfl ?_
            exact ih4 (st + 1) (2 * nd + 1) (by omega) (by omega) (by omega) (by omega) tt.2.2.2.1 ((wlk_1 hs0 (by omega) c12 c23).symm.trans hwl) (by omega)
  exact key4 _ 0 0 (by omega) (by omega) (by omega) (by omega) tr rfl (Nat.lt_succ_self _)
set_option maxHeartbeats 1000000 in
theorem c_prWay (d b : Nat) (h S T : xH) (k : Int) (hk : xr k) (ev : EV h S T) (rx : ∀ i, 0 ≤ i → i ≤ 2 → xr (h 63 i)) (hr : ∀ nd, 0 ≤ nd → nd < 15 → -1 ≤ h 57 nd ∧ h 57 nd < T 0 0 ∧ -1 ≤ h 58 nd ∧ h 58 nd < S 0 0) (tr : TRp (h 57) (h 58) S T 3 0) {Q : xO → xH → Prop} (hQ : Q (.inl (some (.inl (wak (h 57) (VU S T (h 63)) 3 0 k)))) h) : xRn G0 MT (d + 24) b 55 [.inr (.inr 56), .inr (.inr 63), .inl k] h Q := by
  refine R_of (M := mX6_askedOnWay) rfl (Nat.le_of_ble_eq_true rfl) ?_
  show xEx G0 cdX6_askedOnWay (some .int) (xRn G0 MT (d + 23)) Q b 0 [some (.inr (.inr 56)), some (.inr (.inr 63)), some (.inl k), none, none, none] [] h
  refine E_s 4 (i' := 4) (ls' := [some (.inr (.inr 56)), some (.inr (.inr 63)), some (.inl k), some (.inl 0), some (.inl 0), none]) (sk' := []) (h' := h) rfl ?_
  have key4 : ∀ (n : Nat) (st nd : Int) (v5 : Option xV), (0 ≤ st) → (st ≤ 3) → (0 ≤ nd) → ((st = 0 ∧ nd ≤ 0) ∨ (st = 1 ∧ nd ≤ 2) ∨ (st = 2 ∧ nd ≤ 6) ∨ (st = 3 ∧ nd ≤ 14)) → (TRp (h 57) (h 58) S T (3 - st).toNat nd) → (wak (h 57) (VU S T (h 63)) (3 - st).toNat nd (k - st) = wak (h 57) (VU S T (h 63)) 3 0 k) → ((3 - st).toNat) < n → xEx G0 cdX6_askedOnWay (some .int) (xRn G0 MT (d + 23)) Q b 4 [some (.inr (.inr 56)), some (.inr (.inr 63)), some (.inl k), some (.inl nd), some (.inl st), v5] [] h := by
    intro n
    induction n with
    | zero => intro st nd v5 _ _ _ _ _ _ hm; exact absurd hm (Nat.not_lt_zero _)
    | succ n ih4 =>
      intro st nd v5 hs0 hs9 hn0 hn9 htr hwl hm4
      refine E_s 2 (i' := 6) (ls' := [some (.inr (.inr 56)), some (.inr (.inr 63)), some (.inl k), some (.inl nd), some (.inl st), v5]) (sk' := [.inl 3, .inl st]) (h' := h) rfl ?_
      refine E_b (x := (.if_icmp .ge 69, 45, [], [])) rfl rfl (fun c6 => ?_) (fun c6 => ?_)
      · rw [c_ge (by first | assumption | (refine ⟨?_, ?_⟩ <;> omega) | (simp only [xr] at *; omega)) (by first | assumption | (refine ⟨?_, ?_⟩ <;> omega) | (simp only [xr] at *; omega))] at c6
        simp only [decide_eq_true_eq, decide_eq_false_iff_not, Decidable.not_not] at c6
        show xEx G0 cdX6_askedOnWay (some .int) (xRn G0 MT (d + 23)) Q b 45 [some (.inr (.inr 56)), some (.inr (.inr 63)), some (.inl k), some (.inl nd), some (.inl st), v5] [] h
        have ha : h 57 nd = -1 := by
          first
          | exact c12
          | exact TR_3 htr (by omega)
        rw [wak_e ha] at hwl
        refine E_s 1 (i' := 46) (ls' := [some (.inr (.inr 56)), some (.inr (.inr 63)), some (.inl k), some (.inl nd), some (.inl st), v5]) (sk' := [.inl (-1)]) (h' := h) rfl ?_
        exact E_ret (x := (.ireturn, 0, [], [])) (v := some (.inl (-1))) rfl (Or.inl rfl) (by
          rw [hwl]
          exact hQ)
      · rw [c_ge (by first | assumption | (refine ⟨?_, ?_⟩ <;> omega) | (simp only [xr] at *; omega)) (by first | assumption | (refine ⟨?_, ?_⟩ <;> omega) | (simp only [xr] at *; omega))] at c6
        simp only [decide_eq_true_eq, decide_eq_false_iff_not, Decidable.not_not] at c6
        show xEx G0 cdX6_askedOnWay (some .int) (xRn G0 MT (d + 23)) Q b 7 [some (.inr (.inr 56)), some (.inr (.inr 63)), some (.inl k), some (.inl nd), some (.inl st), v5] [] h
        have hrn := hr nd hn0 (by omega)
        have h49 := ev.2.2.2.2.2
        have h39 := ev.2.2.1
        refine E_s 3 (i' := 10) (ls' := [some (.inr (.inr 56)), some (.inr (.inr 63)), some (.inl k), some (.inl nd), some (.inl st), v5]) (sk' := [.inl nd, .inr (.inr 57)]) (h' := h) rfl ?_
        refine E_ld (x := (.iaload, 0, [], [])) (ty := .int) (n := 15) rfl rfl rfl (by omega) (by omega) ?_
        show xEx G0 cdX6_askedOnWay (some .int) (xRn G0 MT (d + 23)) Q b 11 [some (.inr (.inr 56)), some (.inr (.inr 63)), some (.inl k), some (.inl nd), some (.inl st), v5] [.inl (h 57 nd)] h
        refine E_s 1 (i' := 12) (ls' := [some (.inr (.inr 56)), some (.inr (.inr 63)), some (.inl k), some (.inl nd), some (.inl st), v5]) (sk' := [.inl (-1), .inl (h 57 nd)]) (h' := h) rfl ?_
        refine E_b (x := (.if_icmp .eq 59, 45, [], [])) rfl rfl (fun c12 => ?_) (fun c12 => ?_)
        · rw [c_eq (by first | assumption | (refine ⟨?_, ?_⟩ <;> omega) | (simp only [xr] at *; omega)) (by first | assumption | (refine ⟨?_, ?_⟩ <;> omega) | (simp only [xr] at *; omega))] at c12
          simp only [decide_eq_true_eq, decide_eq_false_iff_not, Decidable.not_not] at c12
          show xEx G0 cdX6_askedOnWay (some .int) (xRn G0 MT (d + 23)) Q b 45 [some (.inr (.inr 56)), some (.inr (.inr 63)), some (.inl k), some (.inl nd), some (.inl st), v5] [] h
          have ha : h 57 nd = -1 := by
            first
            | exact c12
            | exact TR_3 htr (by omega)
          rw [wak_e ha] at hwl
          refine E_s 1 (i' := 46) (ls' := [some (.inr (.inr 56)), some (.inr (.inr 63)), some (.inl k), some (.inl nd), some (.inl st), v5]) (sk' := [.inl (-1)]) (h' := h) rfl ?_
          exact E_ret (x := (.ireturn, 0, [], [])) (v := some (.inl (-1))) rfl (Or.inl rfl) (by
            rw [hwl]
            exact hQ)
        · rw [c_eq (by first | assumption | (refine ⟨?_, ?_⟩ <;> omega) | (simp only [xr] at *; omega)) (by first | assumption | (refine ⟨?_, ?_⟩ <;> omega) | (simp only [xr] at *; omega))] at c12
          simp only [decide_eq_true_eq, decide_eq_false_iff_not, Decidable.not_not] at c12
          show xEx G0 cdX6_askedOnWay (some .int) (xRn G0 MT (d + 23)) Q b 13 [some (.inr (.inr 56)), some (.inr (.inr 63)), some (.inl k), some (.inl nd), some (.inl st), v5] [] h
          have tt := TR_s htr hs0 (by omega) c12
          refine E_s 5 (i' := 18) (ls' := [some (.inr (.inr 56)), some (.inr (.inr 63)), some (.inl k), some (.inl nd), some (.inl st), v5]) (sk' := [.inl nd, .inr (.inr 57), .inr (.inr 28)]) (h' := h) rfl ?_
          refine E_ld (x := (.iaload, 0, [], [])) (ty := .int) (n := 15) rfl rfl rfl (by omega) (by omega) ?_
          show xEx G0 cdX6_askedOnWay (some .int) (xRn G0 MT (d + 23)) Q b 19 [some (.inr (.inr 56)), some (.inr (.inr 63)), some (.inl k), some (.inl nd), some (.inl st), v5] [.inl (h 57 nd), .inr (.inr 28)] h
          refine E_s 1 (i' := 20) (ls' := [some (.inr (.inr 56)), some (.inr (.inr 63)), some (.inl k), some (.inl nd), some (.inl st), v5]) (sk' := [.inr (.inr 63), .inl (h 57 nd), .inr (.inr 28)]) (h' := h) rfl ?_
          refine E_cp (x := (.invokevirtual 36, 2, [(7, 24)], [1])) (q := fun r h9 => w32 r = VU S T (h 63) (h 57 nd) ∧ h = h9) rfl rfl (Nat.le_of_ble_eq_true rfl) (c_comesToT d 0 h S T (h 57 nd) ev.1 ev.2.1 ev.2.2.1.2 ev.2.2.2.1 ev.2.2.2.2.1 ev.2.2.2.2.2.2 ⟨tt.1, tt.2.1⟩ rx (fun v hv => ⟨v, rfl, hv, rfl⟩)) (fun r h9 hv => ?_)
          obtain ⟨hv, rfl⟩ := hv
          show xEx G0 cdX6_askedOnWay (some .int) (xRn G0 MT (d + 23)) Q b 21 [some (.inr (.inr 56)), some (.inr (.inr 63)), some (.inl k), some (.inl nd), some (.inl st), v5] [.inl r] h
          have u0 : VU S T (h 63) (h 57 nd) = 0 ∨ VU S T (h 63) (h 57 nd) = 1 := vU_01 S T _ 150 _
          refine E_ti (y := (VU S T (h 63) (h 57 nd))) (by rw [hv, w32_id]; exact ⟨by omega, by omega⟩) ?_
          refine E_s 3 (i' := 24) (ls' := [some (.inr (.inr 56)), some (.inr (.inr 63)), some (.inl k), some (.inl nd), some (.inl st), some (.inl (VU S T (h 63) (h 57 nd)))]) (sk' := [.inl k, .inl st]) (h' := h) rfl ?_
          refine E_b (x := (.if_icmp .ne 15, 34, [], [])) rfl rfl (fun c24 => ?_) (fun c24 => ?_)
          · rw [c_ne (by first | assumption | (refine ⟨?_, ?_⟩ <;> omega) | (simp only [xr] at *; omega)) (by first | assumption | (refine ⟨?_, ?_⟩ <;> omega) | (simp only [xr] at *; omega))] at c24
            simp only [decide_eq_true_eq, decide_eq_false_iff_not, Decidable.not_not] at c24
            show xEx G0 cdX6_askedOnWay (some .int) (xRn G0 MT (d + 23)) Q b 34 [some (.inr (.inr 56)), some (.inr (.inr 63)), some (.inl k), some (.inl nd), some (.inl st), some (.inl (VU S T (h 63) (h 57 nd)))] [] h
            refine E_s 3 (i' := 37) (ls' := [some (.inr (.inr 56)), some (.inr (.inr 63)), some (.inl k), some (.inl nd), some (.inl st), some (.inl (VU S T (h 63) (h 57 nd)))]) (sk' := [.inl 1, .inl (VU S T (h 63) (h 57 nd)), .inl nd]) (h' := h) rfl ?_
            refine E_b (x := (.if_icmp .ne 7, 40, [], [])) rfl rfl (fun c37 => ?_) (fun c37 => ?_)
            · rw [c_ne (by first | assumption | (refine ⟨?_, ?_⟩ <;> omega) | (simp only [xr] at *; omega)) (by first | assumption | (refine ⟨?_, ?_⟩ <;> omega) | (simp only [xr] at *; omega))] at c37
              simp only [decide_eq_true_eq, decide_eq_false_iff_not, Decidable.not_not] at c37
              show xEx G0 cdX6_askedOnWay (some .int) (xRn G0 MT (d + 23)) Q b 40 [some (.inr (.inr 56)), some (.inr (.inr 63)), some (.inl k), some (.inl nd), some (.inl st), some (.inl (VU S T (h 63) (h 57 nd)))] [.inl nd] h
              refine E_s 1 (i' := 41) (ls' := [some (.inr (.inr 56)), some (.inr (.inr 63)), some (.inl k), some (.inl nd), some (.inl st), some (.inl (VU S T (h 63) (h 57 nd)))]) (sk' := [.inl 0, .inl nd]) (h' := h) rfl ?_
              refine E_ci (x := (.invokestatic 42, 2, [(0, 45)], [])) (r := (2 * nd + 2)) (h' := h) rfl rfl (Nat.le_of_ble_eq_true rfl) (c_nb0 (d + 22) 0 h nd ⟨rfl, rfl⟩) ?_
              show xEx G0 cdX6_askedOnWay (some .int) (xRn G0 MT (d + 23)) Q b 42 [some (.inr (.inr 56)), some (.inr (.inr 63)), some (.inl k), some (.inl nd), some (.inl st), some (.inl (VU S T (h 63) (h 57 nd)))] [.inl (2 * nd + 2)] h
              refine E_s 3 (i' := 4) (ls' := [some (.inr (.inr 56)), some (.inr (.inr 63)), some (.inl k), some (.inl (2 * nd + 2)), some (.inl (st + 1)), some (.inl (VU S T (h 63) (h 57 nd)))]) (sk' := []) (h' := h) rfl ?_
              exact ih4 (st + 1) (2 * nd + 2) _ (by omega) (by omega) (by omega) (by omega) tt.2.2.2.2 ((wak_2 hs0 (by omega) c12 (by omega) c37).symm.trans hwl) (by omega)
            · rw [c_ne (by first | assumption | (refine ⟨?_, ?_⟩ <;> omega) | (simp only [xr] at *; omega)) (by first | assumption | (refine ⟨?_, ?_⟩ <;> omega) | (simp only [xr] at *; omega))] at c37
              simp only [decide_eq_true_eq, decide_eq_false_iff_not, Decidable.not_not] at c37
              show xEx G0 cdX6_askedOnWay (some .int) (xRn G0 MT (d + 23)) Q b 38 [some (.inr (.inr 56)), some (.inr (.inr 63)), some (.inl k), some (.inl nd), some (.inl st), some (.inl (VU S T (h 63) (h 57 nd)))] [.inl nd] h
              refine E_s 2 (i' := 41) (ls' := [some (.inr (.inr 56)), some (.inr (.inr 63)), some (.inl k), some (.inl nd), some (.inl st), some (.inl (VU S T (h 63) (h 57 nd)))]) (sk' := [.inl 1, .inl nd]) (h' := h) rfl ?_
              refine E_ci (x := (.invokestatic 42, 2, [(0, 45)], [])) (r := (2 * nd + 1)) (h' := h) rfl rfl (Nat.le_of_ble_eq_true rfl) (c_nb1 (d + 22) 0 h nd ⟨rfl, rfl⟩) ?_
              show xEx G0 cdX6_askedOnWay (some .int) (xRn G0 MT (d + 23)) Q b 42 [some (.inr (.inr 56)), some (.inr (.inr 63)), some (.inl k), some (.inl nd), some (.inl st), some (.inl (VU S T (h 63) (h 57 nd)))] [.inl (2 * nd + 1)] h
              refine E_s 3 (i' := 4) (ls' := [some (.inr (.inr 56)), some (.inr (.inr 63)), some (.inl k), some (.inl (2 * nd + 1)), some (.inl (st + 1)), some (.inl (VU S T (h 63) (h 57 nd)))]) (sk' := []) (h' := h) rfl ?_
              exact ih4 (st + 1) (2 * nd + 1) _ (by omega) (by omega) (by omega) (by omega) tt.2.2.2.1 ((wak_1 hs0 (by omega) c12 (by omega) c37).symm.trans hwl) (by omega)
          · rw [c_ne (by first | assumption | (refine ⟨?_, ?_⟩ <;> omega) | (simp only [xr] at *; omega)) (by first | assumption | (refine ⟨?_, ?_⟩ <;> omega) | (simp only [xr] at *; omega))] at c24
            simp only [decide_eq_true_eq, decide_eq_false_iff_not, Decidable.not_not] at c24
            show xEx G0 cdX6_askedOnWay (some .int) (xRn G0 MT (d + 23)) Q b 25 [some (.inr (.inr 56)), some (.inr (.inr 63)), some (.inl k), some (.inl nd), some (.inl st), some (.inl (VU S T (h 63) (h 57 nd)))] [] h
            refine E_s 4 (i' := 29) (ls' := [some (.inr (.inr 56)), some (.inr (.inr 63)), some (.inl k), some (.inl nd), some (.inl st), some (.inl (VU S T (h 63) (h 57 nd)))]) (sk' := [.inl nd, .inr (.inr 57), .inl 2]) (h' := h) rfl ?_
            refine E_ld (x := (.iaload, 0, [], [])) (ty := .int) (n := 15) rfl rfl rfl (by omega) (by omega) ?_
            show xEx G0 cdX6_askedOnWay (some .int) (xRn G0 MT (d + 23)) Q b 30 [some (.inr (.inr 56)), some (.inr (.inr 63)), some (.inl k), some (.inl nd), some (.inl st), some (.inl (VU S T (h 63) (h 57 nd)))] [.inl (h 57 nd), .inl 2] h
            refine E_s 3 (i' := 33) (ls' := [some (.inr (.inr 56)), some (.inr (.inr 63)), some (.inl k), some (.inl nd), some (.inl st), some (.inl (VU S T (h 63) (h 57 nd)))]) (sk' := [.inl ((2 * (h 57 nd)) + (VU S T (h 63) (h 57 nd)))]) (h' := h) rfl ?_
            exact E_ret (x := (.ireturn, 0, [], [])) (v := some (.inl ((2 * (h 57 nd)) + (VU S T (h 63) (h 57 nd))))) rfl (Or.inl rfl) (by
              have r9 := hQ
              rw [← hwl, wak_k hs0 (by omega) c12 (by omega)] at r9
              exact r9)
  exact key4 _ 0 0 _ (by omega) (by omega) (by omega) (by omega) tr (congrArg (wak (h 57) (VU S T (h 63)) 3 0) (Int.sub_zero k)) (Nat.lt_succ_self _)
set_option maxHeartbeats 1000000 in
theorem c_prParts (d b : Nat) (h S T : xH) (p n0 : Int) (wt : Int → Int) (hp : 0 ≤ p ∧ p ≤ 9) (hR : RC h S) (hRT : RCT h T) (hF : FW n0 wt 9 S) (hT : FWT S 7 T) (h3 : S 0 0 ≤ 300) (h4 : T 0 0 ≤ 150) (hr : ∀ nd, 0 ≤ nd → nd < 15 → -1 ≤ h 57 nd ∧ h 57 nd < T 0 0 ∧ -1 ≤ h 58 nd ∧ h 58 nd < S 0 0) (tr : TRp (h 57) (h 58) S T 3 0) {Q : xO → xH → Prop} (hQ : Q (.inl (some (.inl (smN (psN (h 57) (h 58) S T p) 15)))) h) : xRn G0 MT (d + 2) b 56 [.inr (.inr 56), .inl p] h Q := by
  refine R_of (M := mX6_partsIn) rfl (Nat.le_of_ble_eq_true rfl) ?_
  show xEx G0 cdX6_partsIn (some .int) (xRn G0 MT (d + 1)) Q b 0 [some (.inr (.inr 56)), some (.inl p), none, none] [] h
  refine E_s 4 (i' := 4) (ls' := [some (.inr (.inr 56)), some (.inl p), some (.inl 0), some (.inl 0)]) (sk' := []) (h' := h) rfl ?_
  have key4 : ∀ (n : Nat) (q w : Int), (0 ≤ q) → (q ≤ 15) → (w = smN (psN (h 57) (h 58) S T p) q.toNat) → ((15 - q).toNat) < n → xEx G0 cdX6_partsIn (some .int) (xRn G0 MT (d + 1)) Q b 4 [some (.inr (.inr 56)), some (.inl p), some (.inl w), some (.inl q)] [] h := by
    intro n
    induction n with
    | zero => intro q w _ _ _ hm; exact absurd hm (Nat.not_lt_zero _)
    | succ n ih4 =>
      intro q w hq0 hq9 hn hm4
      refine E_s 2 (i' := 6) (ls' := [some (.inr (.inr 56)), some (.inl p), some (.inl w), some (.inl q)]) (sk' := [.inl 15, .inl q]) (h' := h) rfl ?_
      refine E_b (x := (.if_icmp .ge 63, 43, [], [])) rfl rfl (fun c6 => ?_) (fun c6 => ?_)
      · rw [c_ge (by first | assumption | (refine ⟨?_, ?_⟩ <;> omega) | (simp only [xr] at *; omega)) (by first | assumption | (refine ⟨?_, ?_⟩ <;> omega) | (simp only [xr] at *; omega))] at c6
        simp only [decide_eq_true_eq, decide_eq_false_iff_not, Decidable.not_not] at c6
        show xEx G0 cdX6_partsIn (some .int) (xRn G0 MT (d + 1)) Q b 43 [some (.inr (.inr 56)), some (.inl p), some (.inl w), some (.inl q)] [] h
        refine E_s 1 (i' := 44) (ls' := [some (.inr (.inr 56)), some (.inl p), some (.inl w), some (.inl q)]) (sk' := [.inl w]) (h' := h) rfl ?_
        exact E_ret (x := (.ireturn, 0, [], [])) (v := some (.inl w)) rfl (Or.inl rfl) (by
          have e9 : q = 15 := by omega
          subst e9
          rw [hn]
          exact hQ)
      · rw [c_ge (by first | assumption | (refine ⟨?_, ?_⟩ <;> omega) | (simp only [xr] at *; omega)) (by first | assumption | (refine ⟨?_, ?_⟩ <;> omega) | (simp only [xr] at *; omega))] at c6
        simp only [decide_eq_true_eq, decide_eq_false_iff_not, Decidable.not_not] at c6
        show xEx G0 cdX6_partsIn (some .int) (xRn G0 MT (d + 1)) Q b 7 [some (.inr (.inr 56)), some (.inl p), some (.inl w), some (.inl q)] [] h
        have hrn := hr q hq0 (by omega)
        refine E_s 3 (i' := 10) (ls' := [some (.inr (.inr 56)), some (.inl p), some (.inl w), some (.inl q)]) (sk' := [.inl q, .inr (.inr 57)]) (h' := h) rfl ?_
        refine E_ld (x := (.iaload, 0, [], [])) (ty := .int) (n := 15) rfl rfl rfl (by omega) (by omega) ?_
        show xEx G0 cdX6_partsIn (some .int) (xRn G0 MT (d + 1)) Q b 11 [some (.inr (.inr 56)), some (.inl p), some (.inl w), some (.inl q)] [.inl (h 57 q)] h
        refine E_s 1 (i' := 12) (ls' := [some (.inr (.inr 56)), some (.inl p), some (.inl w), some (.inl q)]) (sk' := [.inl (-1), .inl (h 57 q)]) (h' := h) rfl ?_
        refine E_b (x := (.if_icmp .eq 20, 24, [], [])) rfl rfl (fun c12 => ?_) (fun c12 => ?_)
        · rw [c_eq (by first | assumption | (refine ⟨?_, ?_⟩ <;> omega) | (simp only [xr] at *; omega)) (by first | assumption | (refine ⟨?_, ?_⟩ <;> omega) | (simp only [xr] at *; omega))] at c12
          simp only [decide_eq_true_eq, decide_eq_false_iff_not, Decidable.not_not] at c12
          show xEx G0 cdX6_partsIn (some .int) (xRn G0 MT (d + 1)) Q b 24 [some (.inr (.inr 56)), some (.inl p), some (.inl w), some (.inl q)] [] h
          have a0 := c12
          refine E_s 3 (i' := 27) (ls' := [some (.inr (.inr 56)), some (.inl p), some (.inl w), some (.inl q)]) (sk' := [.inl q, .inr (.inr 58)]) (h' := h) rfl ?_
          refine E_ld (x := (.iaload, 0, [], [])) (ty := .int) (n := 15) rfl rfl rfl (by omega) (by omega) ?_
          show xEx G0 cdX6_partsIn (some .int) (xRn G0 MT (d + 1)) Q b 28 [some (.inr (.inr 56)), some (.inl p), some (.inl w), some (.inl q)] [.inl (h 58 q)] h
          refine E_s 1 (i' := 29) (ls' := [some (.inr (.inr 56)), some (.inl p), some (.inl w), some (.inl q)]) (sk' := [.inl (-1), .inl (h 58 q)]) (h' := h) rfl ?_
          refine E_b (x := (.if_icmp .eq 20, 41, [], [])) rfl rfl (fun c29 => ?_) (fun c29 => ?_)
          · rw [c_eq (by first | assumption | (refine ⟨?_, ?_⟩ <;> omega) | (simp only [xr] at *; omega)) (by first | assumption | (refine ⟨?_, ?_⟩ <;> omega) | (simp only [xr] at *; omega))] at c29
            simp only [decide_eq_true_eq, decide_eq_false_iff_not, Decidable.not_not] at c29
            show xEx G0 cdX6_partsIn (some .int) (xRn G0 MT (d + 1)) Q b 41 [some (.inr (.inr 56)), some (.inl p), some (.inl w), some (.inl q)] [] h
            have b0 := c29
            refine E_s 2 (i' := 4) (ls' := [some (.inr (.inr 56)), some (.inl p), some (.inl w), some (.inl (q + 1))]) (sk' := []) (h' := h) rfl ?_
            exact ih4 (q + 1) (w) (by omega) (by omega) (by
              have e9 : psN (h 57) (h 58) S T p q = 0 + 0 := by
                unfold psN
                rw [if_pos a0, if_pos b0]
              rw [smN_s hq0, hn, e9]
              omega) (by omega)
          · rw [c_eq (by first | assumption | (refine ⟨?_, ?_⟩ <;> omega) | (simp only [xr] at *; omega)) (by first | assumption | (refine ⟨?_, ?_⟩ <;> omega) | (simp only [xr] at *; omega))] at c29
            simp only [decide_eq_true_eq, decide_eq_false_iff_not, Decidable.not_not] at c29
            show xEx G0 cdX6_partsIn (some .int) (xRn G0 MT (d + 1)) Q b 30 [some (.inr (.inr 56)), some (.inl p), some (.inl w), some (.inl q)] [] h
            have b1 : ¬ h 58 q = -1 := c29
            have g2 : h 19 (h 58 q) = S 11 (h 58 q) := (hR.2.2.2.2.2.1 _ (by omega) (by omega)).2.2.2.2.2.2.1
            refine E_s 6 (i' := 36) (ls' := [some (.inr (.inr 56)), some (.inl p), some (.inl w), some (.inl q)]) (sk' := [.inl q, .inr (.inr 58), .inr (.inr 9), .inl w]) (h' := h) rfl ?_
            refine E_ld (x := (.iaload, 0, [], [])) (ty := .int) (n := 15) rfl rfl rfl (by omega) (by omega) ?_
            show xEx G0 cdX6_partsIn (some .int) (xRn G0 MT (d + 1)) Q b 37 [some (.inr (.inr 56)), some (.inl p), some (.inl w), some (.inl q)] [.inl (h 58 q), .inr (.inr 9), .inl w] h
            refine E_s 1 (i' := 38) (ls' := [some (.inr (.inr 56)), some (.inl p), some (.inl w), some (.inl q)]) (sk' := [.inl p, .inl (h 58 q), .inr (.inr 9), .inl w]) (h' := h) rfl ?_
            refine E_ci (x := (.invokevirtual 56, 2, [(1, 28)], [1])) (r := (pin (h 19 (h 58 q)) p)) (h' := h) rfl rfl (Nat.le_of_ble_eq_true rfl) (c_partsIn0 d 0 h (h 58 q) p ⟨by omega, by omega⟩ ⟨rfl, rfl⟩) ?_
            show xEx G0 cdX6_partsIn (some .int) (xRn G0 MT (d + 1)) Q b 39 [some (.inr (.inr 56)), some (.inl p), some (.inl w), some (.inl q)] [.inl (pin (h 19 (h 58 q)) p), .inl w] h
            refine E_s 2 (i' := 41) (ls' := [some (.inr (.inr 56)), some (.inl p), some (.inl (w + (pin (h 19 (h 58 q)) p))), some (.inl q)]) (sk' := []) (h' := h) rfl ?_
            have b0 := c29
            refine E_s 2 (i' := 4) (ls' := [some (.inr (.inr 56)), some (.inl p), some (.inl (w + (pin (h 19 (h 58 q)) p))), some (.inl (q + 1))]) (sk' := []) (h' := h) rfl ?_
            exact ih4 (q + 1) (w + (pin (h 19 (h 58 q)) p)) (by omega) (by omega) (by
              have e9 : psN (h 57) (h 58) S T p q = 0 + pin (h 19 (h 58 q)) p := by
                unfold psN
                rw [if_pos a0, if_neg b1, ← g2]
              rw [smN_s hq0, hn, e9]
              omega) (by omega)
        · rw [c_eq (by first | assumption | (refine ⟨?_, ?_⟩ <;> omega) | (simp only [xr] at *; omega)) (by first | assumption | (refine ⟨?_, ?_⟩ <;> omega) | (simp only [xr] at *; omega))] at c12
          simp only [decide_eq_true_eq, decide_eq_false_iff_not, Decidable.not_not] at c12
          show xEx G0 cdX6_partsIn (some .int) (xRn G0 MT (d + 1)) Q b 13 [some (.inr (.inr 56)), some (.inl p), some (.inl w), some (.inl q)] [] h
          have a1 : ¬ h 57 q = -1 := c12
          have g1 : h 38 (h 57 q) = T 11 (h 57 q) := (hRT.2.2.2.2.2.2.1 _ (by omega) (by omega)).2.2.2.2.2.2.1
          refine E_s 6 (i' := 19) (ls' := [some (.inr (.inr 56)), some (.inl p), some (.inl w), some (.inl q)]) (sk' := [.inl q, .inr (.inr 57), .inr (.inr 28), .inl w]) (h' := h) rfl ?_
          refine E_ld (x := (.iaload, 0, [], [])) (ty := .int) (n := 15) rfl rfl rfl (by omega) (by omega) ?_
          show xEx G0 cdX6_partsIn (some .int) (xRn G0 MT (d + 1)) Q b 20 [some (.inr (.inr 56)), some (.inl p), some (.inl w), some (.inl q)] [.inl (h 57 q), .inr (.inr 28), .inl w] h
          refine E_s 1 (i' := 21) (ls' := [some (.inr (.inr 56)), some (.inl p), some (.inl w), some (.inl q)]) (sk' := [.inl p, .inl (h 57 q), .inr (.inr 28), .inl w]) (h' := h) rfl ?_
          refine E_ci (x := (.invokevirtual 53, 2, [(7, 28)], [1])) (r := (pin (h 38 (h 57 q)) p)) (h' := h) rfl rfl (Nat.le_of_ble_eq_true rfl) (c_partsIn1 d 0 h (h 57 q) p ⟨by omega, by omega⟩ ⟨rfl, rfl⟩) ?_
          show xEx G0 cdX6_partsIn (some .int) (xRn G0 MT (d + 1)) Q b 22 [some (.inr (.inr 56)), some (.inl p), some (.inl w), some (.inl q)] [.inl (pin (h 38 (h 57 q)) p), .inl w] h
          refine E_s 2 (i' := 24) (ls' := [some (.inr (.inr 56)), some (.inl p), some (.inl (w + (pin (h 38 (h 57 q)) p))), some (.inl q)]) (sk' := []) (h' := h) rfl ?_
          have a0 := c12
          refine E_s 3 (i' := 27) (ls' := [some (.inr (.inr 56)), some (.inl p), some (.inl (w + (pin (h 38 (h 57 q)) p))), some (.inl q)]) (sk' := [.inl q, .inr (.inr 58)]) (h' := h) rfl ?_
          refine E_ld (x := (.iaload, 0, [], [])) (ty := .int) (n := 15) rfl rfl rfl (by omega) (by omega) ?_
          show xEx G0 cdX6_partsIn (some .int) (xRn G0 MT (d + 1)) Q b 28 [some (.inr (.inr 56)), some (.inl p), some (.inl (w + (pin (h 38 (h 57 q)) p))), some (.inl q)] [.inl (h 58 q)] h
          refine E_s 1 (i' := 29) (ls' := [some (.inr (.inr 56)), some (.inl p), some (.inl (w + (pin (h 38 (h 57 q)) p))), some (.inl q)]) (sk' := [.inl (-1), .inl (h 58 q)]) (h' := h) rfl ?_
          refine E_b (x := (.if_icmp .eq 20, 41, [], [])) rfl rfl (fun c29 => ?_) (fun c29 => ?_)
          · rw [c_eq (by first | assumption | (refine ⟨?_, ?_⟩ <;> omega) | (simp only [xr] at *; omega)) (by first | assumption | (refine ⟨?_, ?_⟩ <;> omega) | (simp only [xr] at *; omega))] at c29
            simp only [decide_eq_true_eq, decide_eq_false_iff_not, Decidable.not_not] at c29
            show xEx G0 cdX6_partsIn (some .int) (xRn G0 MT (d + 1)) Q b 41 [some (.inr (.inr 56)), some (.inl p), some (.inl (w + (pin (h 38 (h 57 q)) p))), some (.inl q)] [] h
            have b0 := c29
            refine E_s 2 (i' := 4) (ls' := [some (.inr (.inr 56)), some (.inl p), some (.inl (w + (pin (h 38 (h 57 q)) p))), some (.inl (q + 1))]) (sk' := []) (h' := h) rfl ?_
            exact ih4 (q + 1) (w + (pin (h 38 (h 57 q)) p)) (by omega) (by omega) (by
              have e9 : psN (h 57) (h 58) S T p q = pin (h 38 (h 57 q)) p + 0 := by
                unfold psN
                rw [if_neg a1, ← g1, if_pos b0]
              rw [smN_s hq0, hn, e9]
              omega) (by omega)
          · rw [c_eq (by first | assumption | (refine ⟨?_, ?_⟩ <;> omega) | (simp only [xr] at *; omega)) (by first | assumption | (refine ⟨?_, ?_⟩ <;> omega) | (simp only [xr] at *; omega))] at c29
            simp only [decide_eq_true_eq, decide_eq_false_iff_not, Decidable.not_not] at c29
            show xEx G0 cdX6_partsIn (some .int) (xRn G0 MT (d + 1)) Q b 30 [some (.inr (.inr 56)), some (.inl p), some (.inl (w + (pin (h 38 (h 57 q)) p))), some (.inl q)] [] h
            have b1 : ¬ h 58 q = -1 := c29
            have g2 : h 19 (h 58 q) = S 11 (h 58 q) := (hR.2.2.2.2.2.1 _ (by omega) (by omega)).2.2.2.2.2.2.1
            refine E_s 6 (i' := 36) (ls' := [some (.inr (.inr 56)), some (.inl p), some (.inl (w + (pin (h 38 (h 57 q)) p))), some (.inl q)]) (sk' := [.inl q, .inr (.inr 58), .inr (.inr 9), .inl (w + (pin (h 38 (h 57 q)) p))]) (h' := h) rfl ?_
            refine E_ld (x := (.iaload, 0, [], [])) (ty := .int) (n := 15) rfl rfl rfl (by omega) (by omega) ?_
            show xEx G0 cdX6_partsIn (some .int) (xRn G0 MT (d + 1)) Q b 37 [some (.inr (.inr 56)), some (.inl p), some (.inl (w + (pin (h 38 (h 57 q)) p))), some (.inl q)] [.inl (h 58 q), .inr (.inr 9), .inl (w + (pin (h 38 (h 57 q)) p))] h
            refine E_s 1 (i' := 38) (ls' := [some (.inr (.inr 56)), some (.inl p), some (.inl (w + (pin (h 38 (h 57 q)) p))), some (.inl q)]) (sk' := [.inl p, .inl (h 58 q), .inr (.inr 9), .inl (w + (pin (h 38 (h 57 q)) p))]) (h' := h) rfl ?_
            refine E_ci (x := (.invokevirtual 56, 2, [(1, 28)], [1])) (r := (pin (h 19 (h 58 q)) p)) (h' := h) rfl rfl (Nat.le_of_ble_eq_true rfl) (c_partsIn0 d 0 h (h 58 q) p ⟨by omega, by omega⟩ ⟨rfl, rfl⟩) ?_
            show xEx G0 cdX6_partsIn (some .int) (xRn G0 MT (d + 1)) Q b 39 [some (.inr (.inr 56)), some (.inl p), some (.inl (w + (pin (h 38 (h 57 q)) p))), some (.inl q)] [.inl (pin (h 19 (h 58 q)) p), .inl (w + (pin (h 38 (h 57 q)) p))] h
            refine E_s 2 (i' := 41) (ls' := [some (.inr (.inr 56)), some (.inl p), some (.inl ((w + (pin (h 38 (h 57 q)) p)) + (pin (h 19 (h 58 q)) p))), some (.inl q)]) (sk' := []) (h' := h) rfl ?_
            have b0 := c29
            refine E_s 2 (i' := 4) (ls' := [some (.inr (.inr 56)), some (.inl p), some (.inl ((w + (pin (h 38 (h 57 q)) p)) + (pin (h 19 (h 58 q)) p))), some (.inl (q + 1))]) (sk' := []) (h' := h) rfl ?_
            exact ih4 (q + 1) ((w + (pin (h 38 (h 57 q)) p)) + (pin (h 19 (h 58 q)) p)) (by omega) (by omega) (by
              have e9 : psN (h 57) (h 58) S T p q = pin (h 38 (h 57 q)) p + pin (h 19 (h 58 q)) p := by
                unfold psN
                rw [if_neg a1, ← g1, if_neg b1, ← g2]
              rw [smN_s hq0, hn, e9]
              omega) (by omega)
  exact key4 _ 0 0 (by omega) (by omega) rfl (Nat.lt_succ_self _)
set_option maxHeartbeats 1000000 in
theorem c_prIfs (d b : Nat) (h S T : xH) (h4 : T 0 0 ≤ 150) (hr : ∀ nd, 0 ≤ nd → nd < 15 → -1 ≤ h 57 nd ∧ h 57 nd < T 0 0 ∧ -1 ≤ h 58 nd ∧ h 58 nd < S 0 0) (tr : TRp (h 57) (h 58) S T 3 0) {Q : xO → xH → Prop} (hQ : Q (.inl (some (.inl (cN (ifN (h 57)) 15)))) h) : xRn G0 MT (d + 1) b 49 [.inr (.inr 56)] h Q := by
  refine R_of (M := mX6_countIfs) rfl (Nat.le_of_ble_eq_true rfl) ?_
  show xEx G0 cdX6_countIfs (some .int) (xRn G0 MT d) Q b 0 [some (.inr (.inr 56)), none, none] [] h
  refine E_s 4 (i' := 4) (ls' := [some (.inr (.inr 56)), some (.inl 0), some (.inl 0)]) (sk' := []) (h' := h) rfl ?_
  have key4 : ∀ (n : Nat) (q w : Int), (0 ≤ q) → (q ≤ 15) → (w = cN (ifN (h 57)) q.toNat) → ((15 - q).toNat) < n → xEx G0 cdX6_countIfs (some .int) (xRn G0 MT d) Q b 4 [some (.inr (.inr 56)), some (.inl w), some (.inl q)] [] h := by
    intro n
    induction n with
    | zero => intro q w _ _ _ hm; exact absurd hm (Nat.not_lt_zero _)
    | succ n ih4 =>
      intro q w hq0 hq9 hn hm4
      refine E_s 2 (i' := 6) (ls' := [some (.inr (.inr 56)), some (.inl w), some (.inl q)]) (sk' := [.inl 15, .inl q]) (h' := h) rfl ?_
      refine E_b (x := (.if_icmp .ge 22, 16, [], [])) rfl rfl (fun c6 => ?_) (fun c6 => ?_)
      · rw [c_ge (by first | assumption | (refine ⟨?_, ?_⟩ <;> omega) | (simp only [xr] at *; omega)) (by first | assumption | (refine ⟨?_, ?_⟩ <;> omega) | (simp only [xr] at *; omega))] at c6
        simp only [decide_eq_true_eq, decide_eq_false_iff_not, Decidable.not_not] at c6
        show xEx G0 cdX6_countIfs (some .int) (xRn G0 MT d) Q b 16 [some (.inr (.inr 56)), some (.inl w), some (.inl q)] [] h
        refine E_s 1 (i' := 17) (ls' := [some (.inr (.inr 56)), some (.inl w), some (.inl q)]) (sk' := [.inl w]) (h' := h) rfl ?_
        exact E_ret (x := (.ireturn, 0, [], [])) (v := some (.inl w)) rfl (Or.inl rfl) (by
          have e9 : q = 15 := by omega
          subst e9
          rw [hn]
          exact hQ)
      · rw [c_ge (by first | assumption | (refine ⟨?_, ?_⟩ <;> omega) | (simp only [xr] at *; omega)) (by first | assumption | (refine ⟨?_, ?_⟩ <;> omega) | (simp only [xr] at *; omega))] at c6
        simp only [decide_eq_true_eq, decide_eq_false_iff_not, Decidable.not_not] at c6
        show xEx G0 cdX6_countIfs (some .int) (xRn G0 MT d) Q b 7 [some (.inr (.inr 56)), some (.inl w), some (.inl q)] [] h
        have hrn := hr q hq0 (by omega)
        refine E_s 3 (i' := 10) (ls' := [some (.inr (.inr 56)), some (.inl w), some (.inl q)]) (sk' := [.inl q, .inr (.inr 57)]) (h' := h) rfl ?_
        refine E_ld (x := (.iaload, 0, [], [])) (ty := .int) (n := 15) rfl rfl rfl (by omega) (by omega) ?_
        show xEx G0 cdX6_countIfs (some .int) (xRn G0 MT d) Q b 11 [some (.inr (.inr 56)), some (.inl w), some (.inl q)] [.inl (h 57 q)] h
        refine E_s 1 (i' := 12) (ls' := [some (.inr (.inr 56)), some (.inl w), some (.inl q)]) (sk' := [.inl (-1), .inl (h 57 q)]) (h' := h) rfl ?_
        refine E_b (x := (.if_icmp .eq 6, 14, [], [])) rfl rfl (fun c12 => ?_) (fun c12 => ?_)
        · rw [c_eq (by first | assumption | (refine ⟨?_, ?_⟩ <;> omega) | (simp only [xr] at *; omega)) (by first | assumption | (refine ⟨?_, ?_⟩ <;> omega) | (simp only [xr] at *; omega))] at c12
          simp only [decide_eq_true_eq, decide_eq_false_iff_not, Decidable.not_not] at c12
          show xEx G0 cdX6_countIfs (some .int) (xRn G0 MT d) Q b 14 [some (.inr (.inr 56)), some (.inl w), some (.inl q)] [] h
          refine E_s 2 (i' := 4) (ls' := [some (.inr (.inr 56)), some (.inl w), some (.inl (q + 1))]) (sk' := []) (h' := h) rfl ?_
          exact ih4 (q + 1) (w) (by omega) (by omega) (by
            rw [cN_n hq0 (fun z => z c12), hn]) (by omega)
        · rw [c_eq (by first | assumption | (refine ⟨?_, ?_⟩ <;> omega) | (simp only [xr] at *; omega)) (by first | assumption | (refine ⟨?_, ?_⟩ <;> omega) | (simp only [xr] at *; omega))] at c12
          simp only [decide_eq_true_eq, decide_eq_false_iff_not, Decidable.not_not] at c12
          show xEx G0 cdX6_countIfs (some .int) (xRn G0 MT d) Q b 13 [some (.inr (.inr 56)), some (.inl w), some (.inl q)] [] h
          refine E_s 3 (i' := 4) (ls' := [some (.inr (.inr 56)), some (.inl (w + 1)), some (.inl (q + 1))]) (sk' := []) (h' := h) rfl ?_
          exact ih4 (q + 1) (w + 1) (by omega) (by omega) (by
            rw [cN_p hq0 c12, hn]) (by omega)
  exact key4 _ 0 0 (by omega) (by omega) rfl (Nat.lt_succ_self _)
set_option maxHeartbeats 1000000 in
theorem c_prDeep (d b : Nat) (h S T : xH) (h4 : T 0 0 ≤ 150) (hr : ∀ nd, 0 ≤ nd → nd < 15 → -1 ≤ h 57 nd ∧ h 57 nd < T 0 0 ∧ -1 ≤ h 58 nd ∧ h 58 nd < S 0 0) (tr : TRp (h 57) (h 58) S T 3 0) {Q : xO → xH → Prop} (hQ : Q (.inl (some (.inl (dpN (h 57) 15)))) h) : xRn G0 MT (d + 1) b 50 [.inr (.inr 56)] h Q := by
  refine R_of (M := mX6_deepestIf) rfl (Nat.le_of_ble_eq_true rfl) ?_
  show xEx G0 cdX6_deepestIf (some .int) (xRn G0 MT d) Q b 0 [some (.inr (.inr 56)), none, none] [] h
  refine E_s 4 (i' := 4) (ls' := [some (.inr (.inr 56)), some (.inl 0), some (.inl 0)]) (sk' := []) (h' := h) rfl ?_
  have key4 : ∀ (n : Nat) (q w : Int), (0 ≤ q) → (q ≤ 15) → (w = dpN (h 57) q.toNat) → ((15 - q).toNat) < n → xEx G0 cdX6_deepestIf (some .int) (xRn G0 MT d) Q b 4 [some (.inr (.inr 56)), some (.inl w), some (.inl q)] [] h := by
    intro n
    induction n with
    | zero => intro q w _ _ _ hm; exact absurd hm (Nat.not_lt_zero _)
    | succ n ih4 =>
      intro q w hq0 hq9 hn hm4
      refine E_s 2 (i' := 6) (ls' := [some (.inr (.inr 56)), some (.inl w), some (.inl q)]) (sk' := [.inl 15, .inl q]) (h' := h) rfl ?_
      refine E_b (x := (.if_icmp .ge 38, 26, [], [])) rfl rfl (fun c6 => ?_) (fun c6 => ?_)
      · rw [c_ge (by first | assumption | (refine ⟨?_, ?_⟩ <;> omega) | (simp only [xr] at *; omega)) (by first | assumption | (refine ⟨?_, ?_⟩ <;> omega) | (simp only [xr] at *; omega))] at c6
        simp only [decide_eq_true_eq, decide_eq_false_iff_not, Decidable.not_not] at c6
        show xEx G0 cdX6_deepestIf (some .int) (xRn G0 MT d) Q b 26 [some (.inr (.inr 56)), some (.inl w), some (.inl q)] [] h
        refine E_s 1 (i' := 27) (ls' := [some (.inr (.inr 56)), some (.inl w), some (.inl q)]) (sk' := [.inl w]) (h' := h) rfl ?_
        exact E_ret (x := (.ireturn, 0, [], [])) (v := some (.inl w)) rfl (Or.inl rfl) (by
          have e9 : q = 15 := by omega
          subst e9
          rw [hn]
          exact hQ)
      · rw [c_ge (by first | assumption | (refine ⟨?_, ?_⟩ <;> omega) | (simp only [xr] at *; omega)) (by first | assumption | (refine ⟨?_, ?_⟩ <;> omega) | (simp only [xr] at *; omega))] at c6
        simp only [decide_eq_true_eq, decide_eq_false_iff_not, Decidable.not_not] at c6
        show xEx G0 cdX6_deepestIf (some .int) (xRn G0 MT d) Q b 7 [some (.inr (.inr 56)), some (.inl w), some (.inl q)] [] h
        have hrn := hr q hq0 (by omega)
        refine E_s 3 (i' := 10) (ls' := [some (.inr (.inr 56)), some (.inl w), some (.inl q)]) (sk' := [.inl q, .inr (.inr 57)]) (h' := h) rfl ?_
        refine E_ld (x := (.iaload, 0, [], [])) (ty := .int) (n := 15) rfl rfl rfl (by omega) (by omega) ?_
        show xEx G0 cdX6_deepestIf (some .int) (xRn G0 MT d) Q b 11 [some (.inr (.inr 56)), some (.inl w), some (.inl q)] [.inl (h 57 q)] h
        refine E_s 1 (i' := 12) (ls' := [some (.inr (.inr 56)), some (.inl w), some (.inl q)]) (sk' := [.inl (-1), .inl (h 57 q)]) (h' := h) rfl ?_
        refine E_b (x := (.if_icmp .eq 22, 24, [], [])) rfl rfl (fun c12 => ?_) (fun c12 => ?_)
        · rw [c_eq (by first | assumption | (refine ⟨?_, ?_⟩ <;> omega) | (simp only [xr] at *; omega)) (by first | assumption | (refine ⟨?_, ?_⟩ <;> omega) | (simp only [xr] at *; omega))] at c12
          simp only [decide_eq_true_eq, decide_eq_false_iff_not, Decidable.not_not] at c12
          show xEx G0 cdX6_deepestIf (some .int) (xRn G0 MT d) Q b 24 [some (.inr (.inr 56)), some (.inl w), some (.inl q)] [] h
          refine E_s 2 (i' := 4) (ls' := [some (.inr (.inr 56)), some (.inl w), some (.inl (q + 1))]) (sk' := []) (h' := h) rfl ?_
          exact ih4 (q + 1) (w) (by omega) (by omega) (by
            rw [dpN_0 hq0 c12, hn]) (by omega)
        · rw [c_eq (by first | assumption | (refine ⟨?_, ?_⟩ <;> omega) | (simp only [xr] at *; omega)) (by first | assumption | (refine ⟨?_, ?_⟩ <;> omega) | (simp only [xr] at *; omega))] at c12
          simp only [decide_eq_true_eq, decide_eq_false_iff_not, Decidable.not_not] at c12
          show xEx G0 cdX6_deepestIf (some .int) (xRn G0 MT d) Q b 13 [some (.inr (.inr 56)), some (.inl w), some (.inl q)] [] h
          refine E_s 1 (i' := 14) (ls' := [some (.inr (.inr 56)), some (.inl w), some (.inl q)]) (sk' := [.inl q]) (h' := h) rfl ?_
          refine E_b (x := (.ifCond .ne 7, 17, [], [])) rfl rfl (fun c14 => ?_) (fun c14 => ?_)
          · rw [c_ne (by first | assumption | (refine ⟨?_, ?_⟩ <;> omega) | (simp only [xr] at *; omega)) (by first | assumption | (refine ⟨?_, ?_⟩ <;> omega) | (simp only [xr] at *; omega))] at c14
            simp only [decide_eq_true_eq, decide_eq_false_iff_not, Decidable.not_not] at c14
            show xEx G0 cdX6_deepestIf (some .int) (xRn G0 MT d) Q b 17 [some (.inr (.inr 56)), some (.inl w), some (.inl q)] [] h
            refine E_s 2 (i' := 19) (ls' := [some (.inr (.inr 56)), some (.inl w), some (.inl q)]) (sk' := [.inl 3, .inl q]) (h' := h) rfl ?_
            refine E_b (x := (.if_icmp .ge 7, 22, [], [])) rfl rfl (fun c19 => ?_) (fun c19 => ?_)
            · rw [c_ge (by first | assumption | (refine ⟨?_, ?_⟩ <;> omega) | (simp only [xr] at *; omega)) (by first | assumption | (refine ⟨?_, ?_⟩ <;> omega) | (simp only [xr] at *; omega))] at c19
              simp only [decide_eq_true_eq, decide_eq_false_iff_not, Decidable.not_not] at c19
              show xEx G0 cdX6_deepestIf (some .int) (xRn G0 MT d) Q b 22 [some (.inr (.inr 56)), some (.inl w), some (.inl q)] [] h
              refine E_s 4 (i' := 4) (ls' := [some (.inr (.inr 56)), some (.inl 3), some (.inl (q + 1))]) (sk' := []) (h' := h) rfl ?_
              exact ih4 (q + 1) (3) (by omega) (by omega) (by
                rw [dpN_1 hq0 c12]
                unfold lvN
                rw [if_neg (by omega), if_neg (by omega)]) (by omega)
            · rw [c_ge (by first | assumption | (refine ⟨?_, ?_⟩ <;> omega) | (simp only [xr] at *; omega)) (by first | assumption | (refine ⟨?_, ?_⟩ <;> omega) | (simp only [xr] at *; omega))] at c19
              simp only [decide_eq_true_eq, decide_eq_false_iff_not, Decidable.not_not] at c19
              show xEx G0 cdX6_deepestIf (some .int) (xRn G0 MT d) Q b 20 [some (.inr (.inr 56)), some (.inl w), some (.inl q)] [] h
              refine E_s 5 (i' := 4) (ls' := [some (.inr (.inr 56)), some (.inl 2), some (.inl (q + 1))]) (sk' := []) (h' := h) rfl ?_
              exact ih4 (q + 1) (2) (by omega) (by omega) (by
                rw [dpN_1 hq0 c12]
                unfold lvN
                rw [if_neg (by omega), if_pos (by omega)]) (by omega)
          · rw [c_ne (by first | assumption | (refine ⟨?_, ?_⟩ <;> omega) | (simp only [xr] at *; omega)) (by first | assumption | (refine ⟨?_, ?_⟩ <;> omega) | (simp only [xr] at *; omega))] at c14
            simp only [decide_eq_true_eq, decide_eq_false_iff_not, Decidable.not_not] at c14
            show xEx G0 cdX6_deepestIf (some .int) (xRn G0 MT d) Q b 15 [some (.inr (.inr 56)), some (.inl w), some (.inl q)] [] h
            refine E_s 5 (i' := 4) (ls' := [some (.inr (.inr 56)), some (.inl 1), some (.inl (q + 1))]) (sk' := []) (h' := h) rfl ?_
            exact ih4 (q + 1) (1) (by omega) (by omega) (by
              rw [dpN_1 hq0 c12]
              unfold lvN
              rw [if_pos (by omega)]) (by omega)
  exact key4 _ 0 0 (by omega) (by omega) rfl (Nat.lt_succ_self _)
set_option maxHeartbeats 1000000 in
theorem c_ahead (d b : Nat) (h S T : xH) (q : Int) (hq : 0 ≤ q ∧ q < 15) (h3 : S 0 0 ≤ 300) (hr : ∀ nd, 0 ≤ nd → nd < 15 → -1 ≤ h 57 nd ∧ h 57 nd < T 0 0 ∧ -1 ≤ h 58 nd ∧ h 58 nd < S 0 0) (tr : TRp (h 57) (h 58) S T 3 0) {Q : xO → xH → Prop} (h1 : (∃ j, 0 ≤ j ∧ j < q ∧ h 58 j = h 58 q) → Q (.inl (some (.inl (1)))) h) (h0 : (∀ j, 0 ≤ j → j < q → ¬ h 58 j = h 58 q) → Q (.inl (some (.inl (0)))) h) : xRn G0 MT (d + 1) b 52 [.inr (.inr 56), .inl q] h Q := by
  refine R_of (M := mX6_standsAhead) rfl (Nat.le_of_ble_eq_true rfl) ?_
  show xEx G0 cdX6_standsAhead (some .boolean) (xRn G0 MT d) Q b 0 [some (.inr (.inr 56)), some (.inl q), none] [] h
  refine E_s 2 (i' := 2) (ls' := [some (.inr (.inr 56)), some (.inl q), some (.inl 0)]) (sk' := []) (h' := h) rfl ?_
  have key2 : ∀ (n : Nat) (j : Int), (0 ≤ j) → (j ≤ q) → (∀ i, 0 ≤ i → i < j → ¬ h 58 i = h 58 q) → ((q - j).toNat) < n → xEx G0 cdX6_standsAhead (some .boolean) (xRn G0 MT d) Q b 2 [some (.inr (.inr 56)), some (.inl q), some (.inl j)] [] h := by
    intro n
    induction n with
    | zero => intro j _ _ _ hm; exact absurd hm (Nat.not_lt_zero _)
    | succ n ih2 =>
      intro j hj0 hj9 hno hm2
      refine E_s 2 (i' := 4) (ls' := [some (.inr (.inr 56)), some (.inl q), some (.inl j)]) (sk' := [.inl q, .inl j]) (h' := h) rfl ?_
      refine E_b (x := (.if_icmp .ge 26, 18, [], [])) rfl rfl (fun c4 => ?_) (fun c4 => ?_)
      · rw [c_ge (by first | assumption | (refine ⟨?_, ?_⟩ <;> omega) | (simp only [xr] at *; omega)) (by first | assumption | (refine ⟨?_, ?_⟩ <;> omega) | (simp only [xr] at *; omega))] at c4
        simp only [decide_eq_true_eq, decide_eq_false_iff_not, Decidable.not_not] at c4
        show xEx G0 cdX6_standsAhead (some .boolean) (xRn G0 MT d) Q b 18 [some (.inr (.inr 56)), some (.inl q), some (.inl j)] [] h
        refine E_s 1 (i' := 19) (ls' := [some (.inr (.inr 56)), some (.inl q), some (.inl j)]) (sk' := [.inl 0]) (h' := h) rfl ?_
        exact E_ret (x := (.ireturn, 0, [], [])) (v := some (.inl 0)) rfl (Or.inr ⟨rfl, by omega⟩) (h0 (fun i z1 z2 => hno i z1 (by omega)))
      · rw [c_ge (by first | assumption | (refine ⟨?_, ?_⟩ <;> omega) | (simp only [xr] at *; omega)) (by first | assumption | (refine ⟨?_, ?_⟩ <;> omega) | (simp only [xr] at *; omega))] at c4
        simp only [decide_eq_true_eq, decide_eq_false_iff_not, Decidable.not_not] at c4
        show xEx G0 cdX6_standsAhead (some .boolean) (xRn G0 MT d) Q b 5 [some (.inr (.inr 56)), some (.inl q), some (.inl j)] [] h
        have hr1 := hr j hj0 (by omega)
        have hr2 := hr q hq.1 hq.2
        refine E_s 3 (i' := 8) (ls' := [some (.inr (.inr 56)), some (.inl q), some (.inl j)]) (sk' := [.inl j, .inr (.inr 58)]) (h' := h) rfl ?_
        refine E_ld (x := (.iaload, 0, [], [])) (ty := .int) (n := 15) rfl rfl rfl (by omega) (by omega) ?_
        show xEx G0 cdX6_standsAhead (some .boolean) (xRn G0 MT d) Q b 9 [some (.inr (.inr 56)), some (.inl q), some (.inl j)] [.inl (h 58 j)] h
        refine E_s 3 (i' := 12) (ls' := [some (.inr (.inr 56)), some (.inl q), some (.inl j)]) (sk' := [.inl q, .inr (.inr 58), .inl (h 58 j)]) (h' := h) rfl ?_
        refine E_ld (x := (.iaload, 0, [], [])) (ty := .int) (n := 15) rfl rfl rfl (by omega) (by omega) ?_
        show xEx G0 cdX6_standsAhead (some .boolean) (xRn G0 MT d) Q b 13 [some (.inr (.inr 56)), some (.inl q), some (.inl j)] [.inl (h 58 q), .inl (h 58 j)] h
        refine E_b (x := (.if_icmp .ne 5, 16, [], [])) rfl rfl (fun c13 => ?_) (fun c13 => ?_)
        · rw [c_ne (by first | assumption | (refine ⟨?_, ?_⟩ <;> omega) | (simp only [xr] at *; omega)) (by first | assumption | (refine ⟨?_, ?_⟩ <;> omega) | (simp only [xr] at *; omega))] at c13
          simp only [decide_eq_true_eq, decide_eq_false_iff_not, Decidable.not_not] at c13
          show xEx G0 cdX6_standsAhead (some .boolean) (xRn G0 MT d) Q b 16 [some (.inr (.inr 56)), some (.inl q), some (.inl j)] [] h
          refine E_s 2 (i' := 2) (ls' := [some (.inr (.inr 56)), some (.inl q), some (.inl (j + 1))]) (sk' := []) (h' := h) rfl ?_
          exact ih2 (j + 1) (by omega) (by omega) (fun i z1 z2 => by
            rcases Int.lt_or_eq_of_le (show i ≤ j by omega) with z9 | z9
            · exact hno i z1 z9
            · subst z9; exact c13) (by omega)
        · rw [c_ne (by first | assumption | (refine ⟨?_, ?_⟩ <;> omega) | (simp only [xr] at *; omega)) (by first | assumption | (refine ⟨?_, ?_⟩ <;> omega) | (simp only [xr] at *; omega))] at c13
          simp only [decide_eq_true_eq, decide_eq_false_iff_not, Decidable.not_not] at c13
          show xEx G0 cdX6_standsAhead (some .boolean) (xRn G0 MT d) Q b 14 [some (.inr (.inr 56)), some (.inl q), some (.inl j)] [] h
          refine E_s 1 (i' := 15) (ls' := [some (.inr (.inr 56)), some (.inl q), some (.inl j)]) (sk' := [.inl 1]) (h' := h) rfl ?_
          exact E_ret (x := (.ireturn, 0, [], [])) (v := some (.inl 1)) rfl (Or.inr ⟨rfl, by omega⟩) (h1 ⟨j, hj0, by omega, c13⟩)
  exact key2 _ 0 (by omega) (by omega) (fun i z1 z2 => by omega) (Nat.lt_succ_self _)
set_option maxHeartbeats 1000000 in
theorem c_prLeaves (d b : Nat) (h S T : xH) (h3 : S 0 0 ≤ 300) (hr : ∀ nd, 0 ≤ nd → nd < 15 → -1 ≤ h 57 nd ∧ h 57 nd < T 0 0 ∧ -1 ≤ h 58 nd ∧ h 58 nd < S 0 0) (tr : TRp (h 57) (h 58) S T 3 0) {Q : xO → xH → Prop} (hQ : Q (.inl (some (.inl (cN (lfN (h 58)) 15)))) h) : xRn G0 MT (d + 2) b 51 [.inr (.inr 56)] h Q := by
  refine R_of (M := mX6_countLeaves) rfl (Nat.le_of_ble_eq_true rfl) ?_
  show xEx G0 cdX6_countLeaves (some .int) (xRn G0 MT (d + 1)) Q b 0 [some (.inr (.inr 56)), none, none] [] h
  refine E_s 4 (i' := 4) (ls' := [some (.inr (.inr 56)), some (.inl 0), some (.inl 0)]) (sk' := []) (h' := h) rfl ?_
  have key4 : ∀ (n : Nat) (q w : Int), (0 ≤ q) → (q ≤ 15) → (w = cN (lfN (h 58)) q.toNat) → ((15 - q).toNat) < n → xEx G0 cdX6_countLeaves (some .int) (xRn G0 MT (d + 1)) Q b 4 [some (.inr (.inr 56)), some (.inl w), some (.inl q)] [] h := by
    intro n
    induction n with
    | zero => intro q w _ _ _ hm; exact absurd hm (Nat.not_lt_zero _)
    | succ n ih4 =>
      intro q w hq0 hq9 hn hm4
      refine E_s 2 (i' := 6) (ls' := [some (.inr (.inr 56)), some (.inl w), some (.inl q)]) (sk' := [.inl 15, .inl q]) (h' := h) rfl ?_
      refine E_b (x := (.if_icmp .ge 30, 20, [], [])) rfl rfl (fun c6 => ?_) (fun c6 => ?_)
      · rw [c_ge (by first | assumption | (refine ⟨?_, ?_⟩ <;> omega) | (simp only [xr] at *; omega)) (by first | assumption | (refine ⟨?_, ?_⟩ <;> omega) | (simp only [xr] at *; omega))] at c6
        simp only [decide_eq_true_eq, decide_eq_false_iff_not, Decidable.not_not] at c6
        show xEx G0 cdX6_countLeaves (some .int) (xRn G0 MT (d + 1)) Q b 20 [some (.inr (.inr 56)), some (.inl w), some (.inl q)] [] h
        refine E_s 1 (i' := 21) (ls' := [some (.inr (.inr 56)), some (.inl w), some (.inl q)]) (sk' := [.inl w]) (h' := h) rfl ?_
        exact E_ret (x := (.ireturn, 0, [], [])) (v := some (.inl w)) rfl (Or.inl rfl) (by
          have e9 : q = 15 := by omega
          subst e9
          rw [hn]
          exact hQ)
      · rw [c_ge (by first | assumption | (refine ⟨?_, ?_⟩ <;> omega) | (simp only [xr] at *; omega)) (by first | assumption | (refine ⟨?_, ?_⟩ <;> omega) | (simp only [xr] at *; omega))] at c6
        simp only [decide_eq_true_eq, decide_eq_false_iff_not, Decidable.not_not] at c6
        show xEx G0 cdX6_countLeaves (some .int) (xRn G0 MT (d + 1)) Q b 7 [some (.inr (.inr 56)), some (.inl w), some (.inl q)] [] h
        have hrn := hr q hq0 (by omega)
        refine E_s 3 (i' := 10) (ls' := [some (.inr (.inr 56)), some (.inl w), some (.inl q)]) (sk' := [.inl q, .inr (.inr 58)]) (h' := h) rfl ?_
        refine E_ld (x := (.iaload, 0, [], [])) (ty := .int) (n := 15) rfl rfl rfl (by omega) (by omega) ?_
        show xEx G0 cdX6_countLeaves (some .int) (xRn G0 MT (d + 1)) Q b 11 [some (.inr (.inr 56)), some (.inl w), some (.inl q)] [.inl (h 58 q)] h
        refine E_s 1 (i' := 12) (ls' := [some (.inr (.inr 56)), some (.inl w), some (.inl q)]) (sk' := [.inl (-1), .inl (h 58 q)]) (h' := h) rfl ?_
        refine E_b (x := (.if_icmp .eq 14, 18, [], [])) rfl rfl (fun c12 => ?_) (fun c12 => ?_)
        · rw [c_eq (by first | assumption | (refine ⟨?_, ?_⟩ <;> omega) | (simp only [xr] at *; omega)) (by first | assumption | (refine ⟨?_, ?_⟩ <;> omega) | (simp only [xr] at *; omega))] at c12
          simp only [decide_eq_true_eq, decide_eq_false_iff_not, Decidable.not_not] at c12
          show xEx G0 cdX6_countLeaves (some .int) (xRn G0 MT (d + 1)) Q b 18 [some (.inr (.inr 56)), some (.inl w), some (.inl q)] [] h
          have hnl : ¬ lfN (h 58) q := by
            first
            | exact fun z => z.1 c12
            | exact fun z => by
                rcases hq1 with ⟨y, j, j0, j1, j2⟩ | ⟨y, -⟩
                · exact z.2 j j0 j1 j2
                · omega
          try clear hq1
          refine E_s 2 (i' := 4) (ls' := [some (.inr (.inr 56)), some (.inl w), some (.inl (q + 1))]) (sk' := []) (h' := h) rfl ?_
          exact ih4 (q + 1) (w) (by omega) (by omega) (by
            rw [cN_n hq0 hnl, hn]) (by omega)
        · rw [c_eq (by first | assumption | (refine ⟨?_, ?_⟩ <;> omega) | (simp only [xr] at *; omega)) (by first | assumption | (refine ⟨?_, ?_⟩ <;> omega) | (simp only [xr] at *; omega))] at c12
          simp only [decide_eq_true_eq, decide_eq_false_iff_not, Decidable.not_not] at c12
          show xEx G0 cdX6_countLeaves (some .int) (xRn G0 MT (d + 1)) Q b 13 [some (.inr (.inr 56)), some (.inl w), some (.inl q)] [] h
          refine E_s 2 (i' := 15) (ls' := [some (.inr (.inr 56)), some (.inl w), some (.inl q)]) (sk' := [.inl q, .inr (.inr 56)]) (h' := h) rfl ?_
          refine E_cp (x := (.invokevirtual 32, 1, [(4, 52)], [0])) (q := fun r h9 => ((r = 1 ∧ ∃ j, 0 ≤ j ∧ j < q ∧ h 58 j = h 58 q) ∨ (r = 0 ∧ ∀ j, 0 ≤ j → j < q → ¬ h 58 j = h 58 q)) ∧ h = h9) rfl rfl (Nat.le_of_ble_eq_true rfl) (c_ahead d 0 h S T q ⟨hq0, by omega⟩ h3 hr tr (fun z => ⟨_, rfl, Or.inl ⟨rfl, z⟩, rfl⟩) (fun z => ⟨_, rfl, Or.inr ⟨rfl, z⟩, rfl⟩)) (fun r h9 hq1 => ?_)
          obtain ⟨hq1, rfl⟩ := hq1
          show xEx G0 cdX6_countLeaves (some .int) (xRn G0 MT (d + 1)) Q b 16 [some (.inr (.inr 56)), some (.inl w), some (.inl q)] [.inl r] h
          have hr01 : r = 0 ∨ r = 1 := by
            rcases hq1 with z | z
            · exact Or.inr z.1
            · exact Or.inl z.1
          refine E_b (x := (.ifCond .ne 6, 18, [], [])) rfl rfl (fun c16 => ?_) (fun c16 => ?_)
          · rw [c_ne (by first | assumption | (refine ⟨?_, ?_⟩ <;> omega) | (simp only [xr] at *; omega)) (by first | assumption | (refine ⟨?_, ?_⟩ <;> omega) | (simp only [xr] at *; omega))] at c16
            simp only [decide_eq_true_eq, decide_eq_false_iff_not, Decidable.not_not] at c16
            show xEx G0 cdX6_countLeaves (some .int) (xRn G0 MT (d + 1)) Q b 18 [some (.inr (.inr 56)), some (.inl w), some (.inl q)] [] h
            have hnl : ¬ lfN (h 58) q := by
              first
              | exact fun z => z.1 c12
              | exact fun z => by
                  rcases hq1 with ⟨y, j, j0, j1, j2⟩ | ⟨y, -⟩
                  · exact z.2 j j0 j1 j2
                  · omega
            try clear hq1
            refine E_s 2 (i' := 4) (ls' := [some (.inr (.inr 56)), some (.inl w), some (.inl (q + 1))]) (sk' := []) (h' := h) rfl ?_
            exact ih4 (q + 1) (w) (by omega) (by omega) (by
              rw [cN_n hq0 hnl, hn]) (by omega)
          · rw [c_ne (by first | assumption | (refine ⟨?_, ?_⟩ <;> omega) | (simp only [xr] at *; omega)) (by first | assumption | (refine ⟨?_, ?_⟩ <;> omega) | (simp only [xr] at *; omega))] at c16
            simp only [decide_eq_true_eq, decide_eq_false_iff_not, Decidable.not_not] at c16
            show xEx G0 cdX6_countLeaves (some .int) (xRn G0 MT (d + 1)) Q b 17 [some (.inr (.inr 56)), some (.inl w), some (.inl q)] [] h
            refine E_s 1 (i' := 18) (ls' := [some (.inr (.inr 56)), some (.inl (w + 1)), some (.inl q)]) (sk' := []) (h' := h) rfl ?_
            skip
            refine E_s 2 (i' := 4) (ls' := [some (.inr (.inr 56)), some (.inl (w + 1)), some (.inl (q + 1))]) (sk' := []) (h' := h) rfl ?_
            exact ih4 (q + 1) (w + 1) (by omega) (by omega) (by
              rw [cN_p hq0 ⟨c12, by
                rcases hq1 with ⟨z, -⟩ | ⟨z, y⟩
                · omega
                · exact y⟩, hn]) (by omega)
  exact key4 _ 0 0 (by omega) (by omega) rfl (Nat.lt_succ_self _)
