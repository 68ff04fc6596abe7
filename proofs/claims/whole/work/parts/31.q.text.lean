/-! the reference's pile, turn by turn -/
abbrev Lp (d b : Nat) (Q : xO → xH → Prop) (f0 : Int) (y : Option xV) (h : xH) : Prop := xEx2 RX12 G0 cdX12_writes (some .int) (xRn2 G0 MT (d + 3)) Q b 9 [some (.inr (.inr 66)), some (.inl f0), y] [] h
def wr (f : Int → Int) (n : Int) : List Int → Int → Int
  | [] => f
  | v :: t => wr (fun j => if j = n then v else f j) (n + 1) t
theorem wr_a : ∀ (s t : List Int) (f : Int → Int) (n : Int), wr f n (s ++ t) = wr (wr f n s) (n + (s.length : Nat)) t
  | [], t, f, n => by
    show wr f n t = wr f (n + ((0 : Nat) : Int)) t
    rw [show n + ((0 : Nat) : Int) = n by omega]
  | v :: s, t, f, n => by
    show wr (fun j => if j = n then v else f j) (n + 1) (s ++ t) = wr (wr (fun j => if j = n then v else f j) (n + 1) s) (n + ((v :: s).length : Nat)) t
    rw [wr_a s t, show n + 1 + (s.length : Nat) = n + ((v :: s).length : Nat) by simp only [List.length_cons]; omega]
theorem wr_o : ∀ (s : List Int) (f : Int → Int) (n j : Int), j < n → wr f n s j = f j
  | [], _, _, _, _ => rfl
  | v :: s, f, n, j, h => by
    show wr (fun j => if j = n then v else f j) (n + 1) s j = f j
    rw [wr_o s _ _ _ (by omega), if_neg (by omega)]
theorem wr_e : ∀ (s : List Int) (f g : Int → Int) (n j : Int), n ≤ j → j < n + (s.length : Nat) → wr f n s j = wr g n s j
  | [], _, _, n, j, h1, h2 => by
    simp only [List.length_nil] at h2
    omega
  | v :: s, f, g, n, j, h1, h2 => by
    show wr (fun j => if j = n then v else f j) (n + 1) s j = wr (fun j => if j = n then v else g j) (n + 1) s j
    simp only [List.length_cons] at h2
    by_cases c : j = n
    · rw [wr_o s _ _ _ (by omega), wr_o s _ _ _ (by omega), if_pos c, if_pos c]
    · exact wr_e s _ _ (n + 1) j (by omega) (by omega)
theorem tadds_w : ∀ (s : List Int) (h : xH), tadds h s 65 = wr (h 65) (h 64 1) s
  | [], _ => rfl
  | v :: s, h => by
    show tadds (tadd h v) s 65 = wr (fun j => if j = h 64 1 then v else h 65 j) (h 64 1 + 1) s
    rw [tadds_w s, tadd_l]
    rfl
theorem padds_w : ∀ (s : List Int) (h : xH), padds h s 96 = wr (h 96) (h 66 45) s
  | [], _ => rfl
  | v :: s, h => by
    show padds (padd h v) s 96 = wr (fun j => if j = h 66 45 then v else h 96 j) (h 66 45 + 1) s
    rw [padds_w s, padd_l]
    rfl
theorem padds_l : ∀ (s : List Int) (h : xH), padds h s 66 45 = h 66 45 + (s.length : Nat)
  | [], h => by show h 66 45 = h 66 45 + ((0 : Nat) : Int); omega
  | v :: s, h => by
    show padds (padd h v) s 66 45 = _
    rw [padds_l s, padd_l]
    simp only [List.length_cons]
    omega
theorem padd_o {h : xH} {v : Int} {a : Nat} (h1 : a ≠ 66) (h2 : a ≠ 96) : padd h v a = h a := by
  unfold padd
  rw [xup_o _ _ _ _ a h1, xup_o _ _ _ _ a h2]
theorem padds_o {a : Nat} (h1 : a ≠ 66) (h2 : a ≠ 96) : ∀ (s : List Int) (h : xH), padds h s a = h a
  | [], _ => rfl
  | v :: s, h => by
    show padds (padd h v) s a = _
    rw [padds_o h1 h2 s, padd_o h1 h2]
theorem padd_j {h : xH} {v j : Int} (h1 : j ≠ 45) : padd h v 66 j = h 66 j := by
  unfold padd xup
  rw [if_pos rfl, if_neg h1, if_neg (by decide)]
theorem padds_j {j : Int} (h1 : j ≠ 45) : ∀ (s : List Int) (h : xH), padds h s 66 j = h 66 j
  | [], _ => rfl
  | v :: s, h => by
    show padds (padd h v) s 66 j = _
    rw [padds_j h1 s, padd_j h1]
/-- one more was written, and what lay on the pile from p on is gone -/
def PW (h h' : xH) (p : Int) (t : List Int) : Prop := (∀ a, a ≠ 66 → a ≠ 96 → a ≠ 97 → h' a = h a) ∧ (∀ j, j ≠ 45 → j ≠ 47 → h' 66 j = h 66 j) ∧ (∀ j, j < p → h' 97 j = h 97 j) ∧ h' 66 47 = p ∧ h' 66 45 = h 66 45 + (t.length : Nat) ∧ h' 96 = wr (h 96) (h 66 45) t
theorem PW.tr {h h1 h2 : xH} {p q : Int} {s t : List Int} (a : PW h h1 p s) (b : PW h1 h2 q t) (hq : q ≤ p) : PW h h2 q (s ++ t) := by
  obtain ⟨a1, a2, a3, a4, a5, a6⟩ := a
  obtain ⟨b1, b2, b3, b4, b5, b6⟩ := b
  refine ⟨fun x q1 q2 q3 => (b1 x q1 q2 q3).trans (a1 x q1 q2 q3), fun j q1 q2 => (b2 j q1 q2).trans (a2 j q1 q2), fun j q1 => (b3 j q1).trans (a3 j (by omega)), b4, ?_, ?_⟩
  · rw [b5, a5, List.length_append]
    omega
  · rw [b6, a6, a5, wr_a]
def OKH (h0 h : xH) : Prop := ∀ a, a ≠ 66 → a ≠ 96 → a ≠ 97 → h a = h0 a
theorem OKH.pw {h0 h h' : xH} {p : Int} {t : List Int} (o : OKH h0 h) (a : PW h h' p t) : OKH h0 h' := fun x q1 q2 q3 => (a.1 x q1 q2 q3).trans (o x q1 q2 q3)
/-- a heap whose top is taken off, with bytes written -/
theorem PW_t {h : xH} {p : Int} (t : List Int) (hp : h 66 47 - 1 = p) : PW h (padds (xup h 66 47 (h 66 47 - 1)) t) p t := by
  have e45 : xup h 66 47 (h 66 47 - 1) 66 45 = h 66 45 := by unfold xup; rw [if_pos rfl, if_neg (by decide)]
  refine ⟨fun a q1 q2 q3 => ?_, fun j q1 q2 => ?_, fun j q => ?_, ?_, ?_, ?_⟩
  · rw [padds_o q1 q2, xup_o _ _ _ _ a q1]
  · rw [padds_j q1]
    unfold xup
    rw [if_pos rfl, if_neg q2]
  · rw [padds_o (by decide) (by decide), xup_o _ _ _ _ 97 (by decide)]
  · rw [padds_j (by decide), xup_s]
    exact hp
  · rw [padds_l, e45]
  · rw [padds_w, e45, xup_o _ _ _ _ 96 (by decide)]
set_option maxHeartbeats 1000000 in
theorem it_B (d b : Nat) {Q : xO → xH → Prop} (f0 : Int) (y : Option xV) (h : xH) (v : Int) (hc : h 97 (h 66 47 - 1) = 3000 + v) (hv : 0 ≤ v ∧ v ≤ 127) (hw : 0 ≤ h 66 45 ∧ h 66 45 < 1024) (hp : 1 ≤ h 66 47 ∧ h 66 47 ≤ 400) (cut9 : ∀ y9 : Option xV, Lp d b Q f0 y9 (padd (xup h 66 47 (h 66 47 - 1)) v)) : Lp d b Q f0 y h := by
  show xEx2 RX12 G0 cdX12_writes (some .int) (xRn2 G0 MT (d + 3)) Q b 9 [some (.inr (.inr 66)), some (.inl f0), y] [] h
  refine E2_s 2 (i' := 11) (ls' := [some (.inr (.inr 66)), some (.inl f0), y]) (sk' := [.inl (h 66 47)]) (h' := h) rfl ?_
  refine E2_b (x := (.ifCond .le 88, 55, [], [])) rfl rfl (fun c11 => ?_) (fun c11 => ?_)
  · rw [c_le (by first | assumption | (refine ⟨?_, ?_⟩ <;> omega) | (simp only [xr] at *; omega)) (by first | assumption | (refine ⟨?_, ?_⟩ <;> omega) | (simp only [xr] at *; omega))] at c11
    simp only [decide_eq_true_eq, decide_eq_false_iff_not, Decidable.not_not] at c11
    show xEx2 RX12 G0 cdX12_writes (some .int) (xRn2 G0 MT (d + 3)) Q b 55 [some (.inr (.inr 66)), some (.inl f0), y] [] h
    exfalso; omega
  · rw [c_le (by first | assumption | (refine ⟨?_, ?_⟩ <;> omega) | (simp only [xr] at *; omega)) (by first | assumption | (refine ⟨?_, ?_⟩ <;> omega) | (simp only [xr] at *; omega))] at c11
    simp only [decide_eq_true_eq, decide_eq_false_iff_not, Decidable.not_not] at c11
    show xEx2 RX12 G0 cdX12_writes (some .int) (xRn2 G0 MT (d + 3)) Q b 12 [some (.inr (.inr 66)), some (.inl f0), y] [] h
    refine E2_s 10 (i' := 22) (ls' := [some (.inr (.inr 66)), some (.inl f0), y]) (sk' := [.inl ((h 66 47) - 1), .inr (.inr 97)]) (h' := (xup h 66 47 ((h 66 47) - 1))) rfl ?_
    refine E2_ld (x := (.iaload, 0, [], [])) (ty := .int) (n := 400) rfl rfl rfl (by omega) (by omega) ?_
    show xEx2 RX12 G0 cdX12_writes (some .int) (xRn2 G0 MT (d + 3)) Q b 23 [some (.inr (.inr 66)), some (.inl f0), y] [.inl (h 97 ((h 66 47) - 1))] (xup h 66 47 ((h 66 47) - 1))
    refine E2_s 1 (i' := 24) (ls' := [some (.inr (.inr 66)), some (.inl f0), some (.inl (h 97 ((h 66 47) - 1)))]) (sk' := []) (h' := (xup h 66 47 ((h 66 47) - 1))) rfl ?_
    have ht : h 97 (h 66 47 - 1) = 3000 + v := hc
    refine E2_s 2 (i' := 26) (ls' := [some (.inr (.inr 66)), some (.inl f0), some (.inl (h 97 ((h 66 47) - 1)))]) (sk' := [.inl 3000, .inl (h 97 ((h 66 47) - 1))]) (h' := (xup h 66 47 ((h 66 47) - 1))) rfl ?_
    refine E2_b (x := (.if_icmp .lt 15, 33, [], [])) rfl rfl (fun c26 => ?_) (fun c26 => ?_)
    · rw [c_lt (by first | assumption | (refine ⟨?_, ?_⟩ <;> omega) | (simp only [xr] at *; omega)) (by first | assumption | (refine ⟨?_, ?_⟩ <;> omega) | (simp only [xr] at *; omega))] at c26
      simp only [decide_eq_true_eq, decide_eq_false_iff_not, Decidable.not_not] at c26
      show xEx2 RX12 G0 cdX12_writes (some .int) (xRn2 G0 MT (d + 3)) Q b 33 [some (.inr (.inr 66)), some (.inl f0), some (.inl (h 97 ((h 66 47) - 1)))] [] (xup h 66 47 ((h 66 47) - 1))
      refine E2_s 2 (i' := 35) (ls' := [some (.inr (.inr 66)), some (.inl f0), some (.inl (h 97 ((h 66 47) - 1)))]) (sk' := [.inl 2000, .inl (h 97 ((h 66 47) - 1))]) (h' := (xup h 66 47 ((h 66 47) - 1))) rfl ?_
      refine E2_b (x := (.if_icmp .lt 15, 42, [], [])) rfl rfl (fun c35 => ?_) (fun c35 => ?_)
      · rw [c_lt (by first | assumption | (refine ⟨?_, ?_⟩ <;> omega) | (simp only [xr] at *; omega)) (by first | assumption | (refine ⟨?_, ?_⟩ <;> omega) | (simp only [xr] at *; omega))] at c35
        simp only [decide_eq_true_eq, decide_eq_false_iff_not, Decidable.not_not] at c35
        show xEx2 RX12 G0 cdX12_writes (some .int) (xRn2 G0 MT (d + 3)) Q b 42 [some (.inr (.inr 66)), some (.inl f0), some (.inl (h 97 ((h 66 47) - 1)))] [] (xup h 66 47 ((h 66 47) - 1))
        refine E2_s 2 (i' := 44) (ls' := [some (.inr (.inr 66)), some (.inl f0), some (.inl (h 97 ((h 66 47) - 1)))]) (sk' := [.inl 1000, .inl (h 97 ((h 66 47) - 1))]) (h' := (xup h 66 47 ((h 66 47) - 1))) rfl ?_
        refine E2_b (x := (.if_icmp .lt 15, 51, [], [])) rfl rfl (fun c44 => ?_) (fun c44 => ?_)
        · rw [c_lt (by first | assumption | (refine ⟨?_, ?_⟩ <;> omega) | (simp only [xr] at *; omega)) (by first | assumption | (refine ⟨?_, ?_⟩ <;> omega) | (simp only [xr] at *; omega))] at c44
          simp only [decide_eq_true_eq, decide_eq_false_iff_not, Decidable.not_not] at c44
          show xEx2 RX12 G0 cdX12_writes (some .int) (xRn2 G0 MT (d + 3)) Q b 51 [some (.inr (.inr 66)), some (.inl f0), some (.inl (h 97 ((h 66 47) - 1)))] [] (xup h 66 47 ((h 66 47) - 1))
          refine E2_s 2 (i' := 53) (ls' := [some (.inr (.inr 66)), some (.inl f0), some (.inl (h 97 ((h 66 47) - 1)))]) (sk' := [.inl (h 97 ((h 66 47) - 1)), .inr (.inr 66)]) (h' := (xup h 66 47 ((h 66 47) - 1))) rfl ?_
          exfalso; omega
        · rw [c_lt (by first | assumption | (refine ⟨?_, ?_⟩ <;> omega) | (simp only [xr] at *; omega)) (by first | assumption | (refine ⟨?_, ?_⟩ <;> omega) | (simp only [xr] at *; omega))] at c44
          simp only [decide_eq_true_eq, decide_eq_false_iff_not, Decidable.not_not] at c44
          show xEx2 RX12 G0 cdX12_writes (some .int) (xRn2 G0 MT (d + 3)) Q b 45 [some (.inr (.inr 66)), some (.inl f0), some (.inl (h 97 ((h 66 47) - 1)))] [] (xup h 66 47 ((h 66 47) - 1))
          refine E2_s 4 (i' := 49) (ls' := [some (.inr (.inr 66)), some (.inl f0), some (.inl (h 97 ((h 66 47) - 1)))]) (sk' := [.inl ((h 97 ((h 66 47) - 1)) - 1000), .inr (.inr 66)]) (h' := (xup h 66 47 ((h 66 47) - 1))) rfl ?_
          exfalso; omega
      · rw [c_lt (by first | assumption | (refine ⟨?_, ?_⟩ <;> omega) | (simp only [xr] at *; omega)) (by first | assumption | (refine ⟨?_, ?_⟩ <;> omega) | (simp only [xr] at *; omega))] at c35
        simp only [decide_eq_true_eq, decide_eq_false_iff_not, Decidable.not_not] at c35
        show xEx2 RX12 G0 cdX12_writes (some .int) (xRn2 G0 MT (d + 3)) Q b 36 [some (.inr (.inr 66)), some (.inl f0), some (.inl (h 97 ((h 66 47) - 1)))] [] (xup h 66 47 ((h 66 47) - 1))
        refine E2_s 4 (i' := 40) (ls' := [some (.inr (.inr 66)), some (.inl f0), some (.inl (h 97 ((h 66 47) - 1)))]) (sk' := [.inl ((h 97 ((h 66 47) - 1)) - 2000), .inr (.inr 66)]) (h' := (xup h 66 47 ((h 66 47) - 1))) rfl ?_
        exfalso; omega
    · rw [c_lt (by first | assumption | (refine ⟨?_, ?_⟩ <;> omega) | (simp only [xr] at *; omega)) (by first | assumption | (refine ⟨?_, ?_⟩ <;> omega) | (simp only [xr] at *; omega))] at c26
      simp only [decide_eq_true_eq, decide_eq_false_iff_not, Decidable.not_not] at c26
      show xEx2 RX12 G0 cdX12_writes (some .int) (xRn2 G0 MT (d + 3)) Q b 27 [some (.inr (.inr 66)), some (.inl f0), some (.inl (h 97 ((h 66 47) - 1)))] [] (xup h 66 47 ((h 66 47) - 1))
      refine E2_s 4 (i' := 31) (ls' := [some (.inr (.inr 66)), some (.inl f0), some (.inl (h 97 ((h 66 47) - 1)))]) (sk' := [.inl ((h 97 ((h 66 47) - 1)) - 3000), .inr (.inr 66)]) (h' := (xup h 66 47 ((h 66 47) - 1))) rfl ?_
      refine E2_ti (y := v) (by rw [show h 97 (h 66 47 - 1) - 3000 = v by omega]) ?_
      refine E2_cv (x := (.invokevirtual 331, 1, [(10, 205)], [0])) (q := fun h9 => h9 = (padd (xup h 66 47 (h 66 47 - 1)) v)) rfl rfl (Nat.le_of_ble_eq_true rfl) (xRn_2 _ _ _ _ _ _ (m_puts (d + 2) 0 (xup h 66 47 (h 66 47 - 1)) v hv (show 0 ≤ (xup h 66 47 (h 66 47 - 1)) 66 45 ∧ (xup h 66 47 (h 66 47 - 1)) 66 45 < 1024 from hw) ⟨rfl, rfl⟩)) (fun h9 e9 => ?_)
      subst e9
      show xEx2 RX12 G0 cdX12_writes (some .int) (xRn2 G0 MT (d + 3)) Q b 32 [some (.inr (.inr 66)), some (.inl f0), some (.inl (h 97 ((h 66 47) - 1)))] [] (padd (xup h 66 47 (h 66 47 - 1)) v)
      refine E2_s 2 (i' := 9) (ls' := [some (.inr (.inr 66)), some (.inl f0), some (.inl (h 97 ((h 66 47) - 1)))]) (sk' := []) (h' := (padd (xup h 66 47 (h 66 47 - 1)) v)) rfl ?_
      exact cut9 _
set_option maxHeartbeats 1000000 in
theorem it_E (d b : Nat) {Q : xO → xH → Prop} (f0 : Int) (y : Option xV) (h : xH) (k : Int) (hc : h 97 (h 66 47 - 1) = k) (hk : 0 ≤ k ∧ k < 301) (h1 : 0 ≤ h 69 k ∧ h 69 k ≤ 11) (h2 : h 69 k = 10 → 0 ≤ h 70 k ∧ h 70 k ≤ 2) (h3 : h 69 k = 11 → -99 ≤ h 70 k ∧ h 70 k ≤ 99) (hp8 : h 66 47 + 7 ≤ 400) (hw : 0 ≤ h 66 45 ∧ h 66 45 + 3 ≤ 1024) (hp : 1 ≤ h 66 47 ∧ h 66 47 ≤ 400) (cut9 : ∀ y9 : Option xV, Lp d b Q f0 y9 (wxE (xup h 66 47 (h 66 47 - 1)) (h 69 k) (h 70 k) (h 71 k))) : Lp d b Q f0 y h := by
  show xEx2 RX12 G0 cdX12_writes (some .int) (xRn2 G0 MT (d + 3)) Q b 9 [some (.inr (.inr 66)), some (.inl f0), y] [] h
  refine E2_s 2 (i' := 11) (ls' := [some (.inr (.inr 66)), some (.inl f0), y]) (sk' := [.inl (h 66 47)]) (h' := h) rfl ?_
  refine E2_b (x := (.ifCond .le 88, 55, [], [])) rfl rfl (fun c11 => ?_) (fun c11 => ?_)
  · rw [c_le (by first | assumption | (refine ⟨?_, ?_⟩ <;> omega) | (simp only [xr] at *; omega)) (by first | assumption | (refine ⟨?_, ?_⟩ <;> omega) | (simp only [xr] at *; omega))] at c11
    simp only [decide_eq_true_eq, decide_eq_false_iff_not, Decidable.not_not] at c11
    show xEx2 RX12 G0 cdX12_writes (some .int) (xRn2 G0 MT (d + 3)) Q b 55 [some (.inr (.inr 66)), some (.inl f0), y] [] h
    exfalso; omega
  · rw [c_le (by first | assumption | (refine ⟨?_, ?_⟩ <;> omega) | (simp only [xr] at *; omega)) (by first | assumption | (refine ⟨?_, ?_⟩ <;> omega) | (simp only [xr] at *; omega))] at c11
    simp only [decide_eq_true_eq, decide_eq_false_iff_not, Decidable.not_not] at c11
    show xEx2 RX12 G0 cdX12_writes (some .int) (xRn2 G0 MT (d + 3)) Q b 12 [some (.inr (.inr 66)), some (.inl f0), y] [] h
    refine E2_s 10 (i' := 22) (ls' := [some (.inr (.inr 66)), some (.inl f0), y]) (sk' := [.inl ((h 66 47) - 1), .inr (.inr 97)]) (h' := (xup h 66 47 ((h 66 47) - 1))) rfl ?_
    refine E2_ld (x := (.iaload, 0, [], [])) (ty := .int) (n := 400) rfl rfl rfl (by omega) (by omega) ?_
    show xEx2 RX12 G0 cdX12_writes (some .int) (xRn2 G0 MT (d + 3)) Q b 23 [some (.inr (.inr 66)), some (.inl f0), y] [.inl (h 97 ((h 66 47) - 1))] (xup h 66 47 ((h 66 47) - 1))
    refine E2_s 1 (i' := 24) (ls' := [some (.inr (.inr 66)), some (.inl f0), some (.inl (h 97 ((h 66 47) - 1)))]) (sk' := []) (h' := (xup h 66 47 ((h 66 47) - 1))) rfl ?_
    have ht : h 97 (h 66 47 - 1) = k := hc
    refine E2_s 2 (i' := 26) (ls' := [some (.inr (.inr 66)), some (.inl f0), some (.inl (h 97 ((h 66 47) - 1)))]) (sk' := [.inl 3000, .inl (h 97 ((h 66 47) - 1))]) (h' := (xup h 66 47 ((h 66 47) - 1))) rfl ?_
    refine E2_b (x := (.if_icmp .lt 15, 33, [], [])) rfl rfl (fun c26 => ?_) (fun c26 => ?_)
    · rw [c_lt (by first | assumption | (refine ⟨?_, ?_⟩ <;> omega) | (simp only [xr] at *; omega)) (by first | assumption | (refine ⟨?_, ?_⟩ <;> omega) | (simp only [xr] at *; omega))] at c26
      simp only [decide_eq_true_eq, decide_eq_false_iff_not, Decidable.not_not] at c26
      show xEx2 RX12 G0 cdX12_writes (some .int) (xRn2 G0 MT (d + 3)) Q b 33 [some (.inr (.inr 66)), some (.inl f0), some (.inl (h 97 ((h 66 47) - 1)))] [] (xup h 66 47 ((h 66 47) - 1))
      refine E2_s 2 (i' := 35) (ls' := [some (.inr (.inr 66)), some (.inl f0), some (.inl (h 97 ((h 66 47) - 1)))]) (sk' := [.inl 2000, .inl (h 97 ((h 66 47) - 1))]) (h' := (xup h 66 47 ((h 66 47) - 1))) rfl ?_
      refine E2_b (x := (.if_icmp .lt 15, 42, [], [])) rfl rfl (fun c35 => ?_) (fun c35 => ?_)
      · rw [c_lt (by first | assumption | (refine ⟨?_, ?_⟩ <;> omega) | (simp only [xr] at *; omega)) (by first | assumption | (refine ⟨?_, ?_⟩ <;> omega) | (simp only [xr] at *; omega))] at c35
        simp only [decide_eq_true_eq, decide_eq_false_iff_not, Decidable.not_not] at c35
        show xEx2 RX12 G0 cdX12_writes (some .int) (xRn2 G0 MT (d + 3)) Q b 42 [some (.inr (.inr 66)), some (.inl f0), some (.inl (h 97 ((h 66 47) - 1)))] [] (xup h 66 47 ((h 66 47) - 1))
        refine E2_s 2 (i' := 44) (ls' := [some (.inr (.inr 66)), some (.inl f0), some (.inl (h 97 ((h 66 47) - 1)))]) (sk' := [.inl 1000, .inl (h 97 ((h 66 47) - 1))]) (h' := (xup h 66 47 ((h 66 47) - 1))) rfl ?_
        refine E2_b (x := (.if_icmp .lt 15, 51, [], [])) rfl rfl (fun c44 => ?_) (fun c44 => ?_)
        · rw [c_lt (by first | assumption | (refine ⟨?_, ?_⟩ <;> omega) | (simp only [xr] at *; omega)) (by first | assumption | (refine ⟨?_, ?_⟩ <;> omega) | (simp only [xr] at *; omega))] at c44
          simp only [decide_eq_true_eq, decide_eq_false_iff_not, Decidable.not_not] at c44
          show xEx2 RX12 G0 cdX12_writes (some .int) (xRn2 G0 MT (d + 3)) Q b 51 [some (.inr (.inr 66)), some (.inl f0), some (.inl (h 97 ((h 66 47) - 1)))] [] (xup h 66 47 ((h 66 47) - 1))
          refine E2_s 2 (i' := 53) (ls' := [some (.inr (.inr 66)), some (.inl f0), some (.inl (h 97 ((h 66 47) - 1)))]) (sk' := [.inl (h 97 ((h 66 47) - 1)), .inr (.inr 66)]) (h' := (xup h 66 47 ((h 66 47) - 1))) rfl ?_
          refine E2_ti (y := k) (by rw [show h 97 (h 66 47 - 1) = k by omega]) ?_
          refine E2_cv (x := (.invokevirtual 366, 1, [(10, 209)], [0])) (q := fun h9 => h9 = (wxE (xup h 66 47 (h 66 47 - 1)) (h 69 k) (h 70 k) (h 71 k))) rfl rfl (Nat.le_of_ble_eq_true rfl) (m_wrE d 0 (xup h 66 47 (h 66 47 - 1)) k hk h1 h2 h3 (by rw [(show (xup h 66 47 (h 66 47 - 1)) 66 47 = h 66 47 - 1 from xup_s)]; omega) (show 0 ≤ (xup h 66 47 (h 66 47 - 1)) 66 45 ∧ (xup h 66 47 (h 66 47 - 1)) 66 45 + 3 ≤ 1024 from hw) ⟨rfl, rfl⟩) (fun h9 e9 => ?_)
          subst e9
          show xEx2 RX12 G0 cdX12_writes (some .int) (xRn2 G0 MT (d + 3)) Q b 54 [some (.inr (.inr 66)), some (.inl f0), some (.inl (h 97 ((h 66 47) - 1)))] [] (wxE (xup h 66 47 (h 66 47 - 1)) (h 69 k) (h 70 k) (h 71 k))
          refine E2_s 1 (i' := 9) (ls' := [some (.inr (.inr 66)), some (.inl f0), some (.inl (h 97 ((h 66 47) - 1)))]) (sk' := []) (h' := (wxE (xup h 66 47 (h 66 47 - 1)) (h 69 k) (h 70 k) (h 71 k))) rfl ?_
          exact cut9 _
        · rw [c_lt (by first | assumption | (refine ⟨?_, ?_⟩ <;> omega) | (simp only [xr] at *; omega)) (by first | assumption | (refine ⟨?_, ?_⟩ <;> omega) | (simp only [xr] at *; omega))] at c44
          simp only [decide_eq_true_eq, decide_eq_false_iff_not, Decidable.not_not] at c44
          show xEx2 RX12 G0 cdX12_writes (some .int) (xRn2 G0 MT (d + 3)) Q b 45 [some (.inr (.inr 66)), some (.inl f0), some (.inl (h 97 ((h 66 47) - 1)))] [] (xup h 66 47 ((h 66 47) - 1))
          refine E2_s 4 (i' := 49) (ls' := [some (.inr (.inr 66)), some (.inl f0), some (.inl (h 97 ((h 66 47) - 1)))]) (sk' := [.inl ((h 97 ((h 66 47) - 1)) - 1000), .inr (.inr 66)]) (h' := (xup h 66 47 ((h 66 47) - 1))) rfl ?_
          exfalso; omega
      · rw [c_lt (by first | assumption | (refine ⟨?_, ?_⟩ <;> omega) | (simp only [xr] at *; omega)) (by first | assumption | (refine ⟨?_, ?_⟩ <;> omega) | (simp only [xr] at *; omega))] at c35
        simp only [decide_eq_true_eq, decide_eq_false_iff_not, Decidable.not_not] at c35
        show xEx2 RX12 G0 cdX12_writes (some .int) (xRn2 G0 MT (d + 3)) Q b 36 [some (.inr (.inr 66)), some (.inl f0), some (.inl (h 97 ((h 66 47) - 1)))] [] (xup h 66 47 ((h 66 47) - 1))
        refine E2_s 4 (i' := 40) (ls' := [some (.inr (.inr 66)), some (.inl f0), some (.inl (h 97 ((h 66 47) - 1)))]) (sk' := [.inl ((h 97 ((h 66 47) - 1)) - 2000), .inr (.inr 66)]) (h' := (xup h 66 47 ((h 66 47) - 1))) rfl ?_
        exfalso; omega
    · rw [c_lt (by first | assumption | (refine ⟨?_, ?_⟩ <;> omega) | (simp only [xr] at *; omega)) (by first | assumption | (refine ⟨?_, ?_⟩ <;> omega) | (simp only [xr] at *; omega))] at c26
      simp only [decide_eq_true_eq, decide_eq_false_iff_not, Decidable.not_not] at c26
      show xEx2 RX12 G0 cdX12_writes (some .int) (xRn2 G0 MT (d + 3)) Q b 27 [some (.inr (.inr 66)), some (.inl f0), some (.inl (h 97 ((h 66 47) - 1)))] [] (xup h 66 47 ((h 66 47) - 1))
      refine E2_s 4 (i' := 31) (ls' := [some (.inr (.inr 66)), some (.inl f0), some (.inl (h 97 ((h 66 47) - 1)))]) (sk' := [.inl ((h 97 ((h 66 47) - 1)) - 3000), .inr (.inr 66)]) (h' := (xup h 66 47 ((h 66 47) - 1))) rfl ?_
      exfalso; omega
set_option maxHeartbeats 1000000 in
theorem it_T (d b : Nat) {Q : xO → xH → Prop} (f0 : Int) (y : Option xV) (h : xH) (k : Int) (hc : h 97 (h 66 47 - 1) = 1000 + k) (hk : 0 ≤ k ∧ k < 151) (h1 : 0 ≤ h 79 k ∧ h 79 k ≤ 3) (hp8 : h 66 47 + 7 ≤ 400) (hp : 1 ≤ h 66 47 ∧ h 66 47 ≤ 400) (cut9 : ∀ y9 : Option xV, Lp d b Q f0 y9 (wxT (xup h 66 47 (h 66 47 - 1)) (h 79 k) (h 80 k) (h 81 k))) : Lp d b Q f0 y h := by
  show xEx2 RX12 G0 cdX12_writes (some .int) (xRn2 G0 MT (d + 3)) Q b 9 [some (.inr (.inr 66)), some (.inl f0), y] [] h
  refine E2_s 2 (i' := 11) (ls' := [some (.inr (.inr 66)), some (.inl f0), y]) (sk' := [.inl (h 66 47)]) (h' := h) rfl ?_
  refine E2_b (x := (.ifCond .le 88, 55, [], [])) rfl rfl (fun c11 => ?_) (fun c11 => ?_)
  · rw [c_le (by first | assumption | (refine ⟨?_, ?_⟩ <;> omega) | (simp only [xr] at *; omega)) (by first | assumption | (refine ⟨?_, ?_⟩ <;> omega) | (simp only [xr] at *; omega))] at c11
    simp only [decide_eq_true_eq, decide_eq_false_iff_not, Decidable.not_not] at c11
    show xEx2 RX12 G0 cdX12_writes (some .int) (xRn2 G0 MT (d + 3)) Q b 55 [some (.inr (.inr 66)), some (.inl f0), y] [] h
    exfalso; omega
  · rw [c_le (by first | assumption | (refine ⟨?_, ?_⟩ <;> omega) | (simp only [xr] at *; omega)) (by first | assumption | (refine ⟨?_, ?_⟩ <;> omega) | (simp only [xr] at *; omega))] at c11
    simp only [decide_eq_true_eq, decide_eq_false_iff_not, Decidable.not_not] at c11
    show xEx2 RX12 G0 cdX12_writes (some .int) (xRn2 G0 MT (d + 3)) Q b 12 [some (.inr (.inr 66)), some (.inl f0), y] [] h
    refine E2_s 10 (i' := 22) (ls' := [some (.inr (.inr 66)), some (.inl f0), y]) (sk' := [.inl ((h 66 47) - 1), .inr (.inr 97)]) (h' := (xup h 66 47 ((h 66 47) - 1))) rfl ?_
    refine E2_ld (x := (.iaload, 0, [], [])) (ty := .int) (n := 400) rfl rfl rfl (by omega) (by omega) ?_
    show xEx2 RX12 G0 cdX12_writes (some .int) (xRn2 G0 MT (d + 3)) Q b 23 [some (.inr (.inr 66)), some (.inl f0), y] [.inl (h 97 ((h 66 47) - 1))] (xup h 66 47 ((h 66 47) - 1))
    refine E2_s 1 (i' := 24) (ls' := [some (.inr (.inr 66)), some (.inl f0), some (.inl (h 97 ((h 66 47) - 1)))]) (sk' := []) (h' := (xup h 66 47 ((h 66 47) - 1))) rfl ?_
    have ht : h 97 (h 66 47 - 1) = 1000 + k := hc
    refine E2_s 2 (i' := 26) (ls' := [some (.inr (.inr 66)), some (.inl f0), some (.inl (h 97 ((h 66 47) - 1)))]) (sk' := [.inl 3000, .inl (h 97 ((h 66 47) - 1))]) (h' := (xup h 66 47 ((h 66 47) - 1))) rfl ?_
    refine E2_b (x := (.if_icmp .lt 15, 33, [], [])) rfl rfl (fun c26 => ?_) (fun c26 => ?_)
    · rw [c_lt (by first | assumption | (refine ⟨?_, ?_⟩ <;> omega) | (simp only [xr] at *; omega)) (by first | assumption | (refine ⟨?_, ?_⟩ <;> omega) | (simp only [xr] at *; omega))] at c26
      simp only [decide_eq_true_eq, decide_eq_false_iff_not, Decidable.not_not] at c26
      show xEx2 RX12 G0 cdX12_writes (some .int) (xRn2 G0 MT (d + 3)) Q b 33 [some (.inr (.inr 66)), some (.inl f0), some (.inl (h 97 ((h 66 47) - 1)))] [] (xup h 66 47 ((h 66 47) - 1))
      refine E2_s 2 (i' := 35) (ls' := [some (.inr (.inr 66)), some (.inl f0), some (.inl (h 97 ((h 66 47) - 1)))]) (sk' := [.inl 2000, .inl (h 97 ((h 66 47) - 1))]) (h' := (xup h 66 47 ((h 66 47) - 1))) rfl ?_
      refine E2_b (x := (.if_icmp .lt 15, 42, [], [])) rfl rfl (fun c35 => ?_) (fun c35 => ?_)
      · rw [c_lt (by first | assumption | (refine ⟨?_, ?_⟩ <;> omega) | (simp only [xr] at *; omega)) (by first | assumption | (refine ⟨?_, ?_⟩ <;> omega) | (simp only [xr] at *; omega))] at c35
        simp only [decide_eq_true_eq, decide_eq_false_iff_not, Decidable.not_not] at c35
        show xEx2 RX12 G0 cdX12_writes (some .int) (xRn2 G0 MT (d + 3)) Q b 42 [some (.inr (.inr 66)), some (.inl f0), some (.inl (h 97 ((h 66 47) - 1)))] [] (xup h 66 47 ((h 66 47) - 1))
        refine E2_s 2 (i' := 44) (ls' := [some (.inr (.inr 66)), some (.inl f0), some (.inl (h 97 ((h 66 47) - 1)))]) (sk' := [.inl 1000, .inl (h 97 ((h 66 47) - 1))]) (h' := (xup h 66 47 ((h 66 47) - 1))) rfl ?_
        refine E2_b (x := (.if_icmp .lt 15, 51, [], [])) rfl rfl (fun c44 => ?_) (fun c44 => ?_)
        · rw [c_lt (by first | assumption | (refine ⟨?_, ?_⟩ <;> omega) | (simp only [xr] at *; omega)) (by first | assumption | (refine ⟨?_, ?_⟩ <;> omega) | (simp only [xr] at *; omega))] at c44
          simp only [decide_eq_true_eq, decide_eq_false_iff_not, Decidable.not_not] at c44
          show xEx2 RX12 G0 cdX12_writes (some .int) (xRn2 G0 MT (d + 3)) Q b 51 [some (.inr (.inr 66)), some (.inl f0), some (.inl (h 97 ((h 66 47) - 1)))] [] (xup h 66 47 ((h 66 47) - 1))
          refine E2_s 2 (i' := 53) (ls' := [some (.inr (.inr 66)), some (.inl f0), some (.inl (h 97 ((h 66 47) - 1)))]) (sk' := [.inl (h 97 ((h 66 47) - 1)), .inr (.inr 66)]) (h' := (xup h 66 47 ((h 66 47) - 1))) rfl ?_
          exfalso; omega
        · rw [c_lt (by first | assumption | (refine ⟨?_, ?_⟩ <;> omega) | (simp only [xr] at *; omega)) (by first | assumption | (refine ⟨?_, ?_⟩ <;> omega) | (simp only [xr] at *; omega))] at c44
          simp only [decide_eq_true_eq, decide_eq_false_iff_not, Decidable.not_not] at c44
          show xEx2 RX12 G0 cdX12_writes (some .int) (xRn2 G0 MT (d + 3)) Q b 45 [some (.inr (.inr 66)), some (.inl f0), some (.inl (h 97 ((h 66 47) - 1)))] [] (xup h 66 47 ((h 66 47) - 1))
          refine E2_s 4 (i' := 49) (ls' := [some (.inr (.inr 66)), some (.inl f0), some (.inl (h 97 ((h 66 47) - 1)))]) (sk' := [.inl ((h 97 ((h 66 47) - 1)) - 1000), .inr (.inr 66)]) (h' := (xup h 66 47 ((h 66 47) - 1))) rfl ?_
          refine E2_ti (y := k) (by rw [show h 97 (h 66 47 - 1) - 1000 = k by omega]) ?_
          refine E2_cv (x := (.invokevirtual 363, 1, [(10, 210)], [0])) (q := fun h9 => h9 = (wxT (xup h 66 47 (h 66 47 - 1)) (h 79 k) (h 80 k) (h 81 k))) rfl rfl (Nat.le_of_ble_eq_true rfl) (m_wrT d 0 (xup h 66 47 (h 66 47 - 1)) k hk h1 (by rw [(show (xup h 66 47 (h 66 47 - 1)) 66 47 = h 66 47 - 1 from xup_s)]; omega) ⟨rfl, rfl⟩) (fun h9 e9 => ?_)
          subst e9
          show xEx2 RX12 G0 cdX12_writes (some .int) (xRn2 G0 MT (d + 3)) Q b 50 [some (.inr (.inr 66)), some (.inl f0), some (.inl (h 97 ((h 66 47) - 1)))] [] (wxT (xup h 66 47 (h 66 47 - 1)) (h 79 k) (h 80 k) (h 81 k))
          refine E2_s 2 (i' := 9) (ls' := [some (.inr (.inr 66)), some (.inl f0), some (.inl (h 97 ((h 66 47) - 1)))]) (sk' := []) (h' := (wxT (xup h 66 47 (h 66 47 - 1)) (h 79 k) (h 80 k) (h 81 k))) rfl ?_
          exact cut9 _
      · rw [c_lt (by first | assumption | (refine ⟨?_, ?_⟩ <;> omega) | (simp only [xr] at *; omega)) (by first | assumption | (refine ⟨?_, ?_⟩ <;> omega) | (simp only [xr] at *; omega))] at c35
        simp only [decide_eq_true_eq, decide_eq_false_iff_not, Decidable.not_not] at c35
        show xEx2 RX12 G0 cdX12_writes (some .int) (xRn2 G0 MT (d + 3)) Q b 36 [some (.inr (.inr 66)), some (.inl f0), some (.inl (h 97 ((h 66 47) - 1)))] [] (xup h 66 47 ((h 66 47) - 1))
        refine E2_s 4 (i' := 40) (ls' := [some (.inr (.inr 66)), some (.inl f0), some (.inl (h 97 ((h 66 47) - 1)))]) (sk' := [.inl ((h 97 ((h 66 47) - 1)) - 2000), .inr (.inr 66)]) (h' := (xup h 66 47 ((h 66 47) - 1))) rfl ?_
        exfalso; omega
    · rw [c_lt (by first | assumption | (refine ⟨?_, ?_⟩ <;> omega) | (simp only [xr] at *; omega)) (by first | assumption | (refine ⟨?_, ?_⟩ <;> omega) | (simp only [xr] at *; omega))] at c26
      simp only [decide_eq_true_eq, decide_eq_false_iff_not, Decidable.not_not] at c26
      show xEx2 RX12 G0 cdX12_writes (some .int) (xRn2 G0 MT (d + 3)) Q b 27 [some (.inr (.inr 66)), some (.inl f0), some (.inl (h 97 ((h 66 47) - 1)))] [] (xup h 66 47 ((h 66 47) - 1))
      refine E2_s 4 (i' := 31) (ls' := [some (.inr (.inr 66)), some (.inl f0), some (.inl (h 97 ((h 66 47) - 1)))]) (sk' := [.inl ((h 97 ((h 66 47) - 1)) - 3000), .inr (.inr 66)]) (h' := (xup h 66 47 ((h 66 47) - 1))) rfl ?_
      exfalso; omega
set_option maxHeartbeats 1000000 in
theorem it_N (d b : Nat) {Q : xO → xH → Prop} (f0 : Int) (y : Option xV) (h : xH) (k : Int) (hc : h 97 (h 66 47 - 1) = 2000 + k) (hk : 0 ≤ k ∧ k < 16) (h1 : xr (h 105 k)) (hp8 : h 66 47 + 7 ≤ 400) (hp : 1 ≤ h 66 47 ∧ h 66 47 ≤ 400) (cut9 : ∀ y9 : Option xV, Lp d b Q f0 y9 (wxN (xup h 66 47 (h 66 47 - 1)) (h 105 k) (h 106 k) k)) : Lp d b Q f0 y h := by
  show xEx2 RX12 G0 cdX12_writes (some .int) (xRn2 G0 MT (d + 3)) Q b 9 [some (.inr (.inr 66)), some (.inl f0), y] [] h
  refine E2_s 2 (i' := 11) (ls' := [some (.inr (.inr 66)), some (.inl f0), y]) (sk' := [.inl (h 66 47)]) (h' := h) rfl ?_
  refine E2_b (x := (.ifCond .le 88, 55, [], [])) rfl rfl (fun c11 => ?_) (fun c11 => ?_)
  · rw [c_le (by first | assumption | (refine ⟨?_, ?_⟩ <;> omega) | (simp only [xr] at *; omega)) (by first | assumption | (refine ⟨?_, ?_⟩ <;> omega) | (simp only [xr] at *; omega))] at c11
    simp only [decide_eq_true_eq, decide_eq_false_iff_not, Decidable.not_not] at c11
    show xEx2 RX12 G0 cdX12_writes (some .int) (xRn2 G0 MT (d + 3)) Q b 55 [some (.inr (.inr 66)), some (.inl f0), y] [] h
    exfalso; omega
  · rw [c_le (by first | assumption | (refine ⟨?_, ?_⟩ <;> omega) | (simp only [xr] at *; omega)) (by first | assumption | (refine ⟨?_, ?_⟩ <;> omega) | (simp only [xr] at *; omega))] at c11
    simp only [decide_eq_true_eq, decide_eq_false_iff_not, Decidable.not_not] at c11
    show xEx2 RX12 G0 cdX12_writes (some .int) (xRn2 G0 MT (d + 3)) Q b 12 [some (.inr (.inr 66)), some (.inl f0), y] [] h
    refine E2_s 10 (i' := 22) (ls' := [some (.inr (.inr 66)), some (.inl f0), y]) (sk' := [.inl ((h 66 47) - 1), .inr (.inr 97)]) (h' := (xup h 66 47 ((h 66 47) - 1))) rfl ?_
    refine E2_ld (x := (.iaload, 0, [], [])) (ty := .int) (n := 400) rfl rfl rfl (by omega) (by omega) ?_
    show xEx2 RX12 G0 cdX12_writes (some .int) (xRn2 G0 MT (d + 3)) Q b 23 [some (.inr (.inr 66)), some (.inl f0), y] [.inl (h 97 ((h 66 47) - 1))] (xup h 66 47 ((h 66 47) - 1))
    refine E2_s 1 (i' := 24) (ls' := [some (.inr (.inr 66)), some (.inl f0), some (.inl (h 97 ((h 66 47) - 1)))]) (sk' := []) (h' := (xup h 66 47 ((h 66 47) - 1))) rfl ?_
    have ht : h 97 (h 66 47 - 1) = 2000 + k := hc
    refine E2_s 2 (i' := 26) (ls' := [some (.inr (.inr 66)), some (.inl f0), some (.inl (h 97 ((h 66 47) - 1)))]) (sk' := [.inl 3000, .inl (h 97 ((h 66 47) - 1))]) (h' := (xup h 66 47 ((h 66 47) - 1))) rfl ?_
    refine E2_b (x := (.if_icmp .lt 15, 33, [], [])) rfl rfl (fun c26 => ?_) (fun c26 => ?_)
    · rw [c_lt (by first | assumption | (refine ⟨?_, ?_⟩ <;> omega) | (simp only [xr] at *; omega)) (by first | assumption | (refine ⟨?_, ?_⟩ <;> omega) | (simp only [xr] at *; omega))] at c26
      simp only [decide_eq_true_eq, decide_eq_false_iff_not, Decidable.not_not] at c26
      show xEx2 RX12 G0 cdX12_writes (some .int) (xRn2 G0 MT (d + 3)) Q b 33 [some (.inr (.inr 66)), some (.inl f0), some (.inl (h 97 ((h 66 47) - 1)))] [] (xup h 66 47 ((h 66 47) - 1))
      refine E2_s 2 (i' := 35) (ls' := [some (.inr (.inr 66)), some (.inl f0), some (.inl (h 97 ((h 66 47) - 1)))]) (sk' := [.inl 2000, .inl (h 97 ((h 66 47) - 1))]) (h' := (xup h 66 47 ((h 66 47) - 1))) rfl ?_
      refine E2_b (x := (.if_icmp .lt 15, 42, [], [])) rfl rfl (fun c35 => ?_) (fun c35 => ?_)
      · rw [c_lt (by first | assumption | (refine ⟨?_, ?_⟩ <;> omega) | (simp only [xr] at *; omega)) (by first | assumption | (refine ⟨?_, ?_⟩ <;> omega) | (simp only [xr] at *; omega))] at c35
        simp only [decide_eq_true_eq, decide_eq_false_iff_not, Decidable.not_not] at c35
        show xEx2 RX12 G0 cdX12_writes (some .int) (xRn2 G0 MT (d + 3)) Q b 42 [some (.inr (.inr 66)), some (.inl f0), some (.inl (h 97 ((h 66 47) - 1)))] [] (xup h 66 47 ((h 66 47) - 1))
        refine E2_s 2 (i' := 44) (ls' := [some (.inr (.inr 66)), some (.inl f0), some (.inl (h 97 ((h 66 47) - 1)))]) (sk' := [.inl 1000, .inl (h 97 ((h 66 47) - 1))]) (h' := (xup h 66 47 ((h 66 47) - 1))) rfl ?_
        refine E2_b (x := (.if_icmp .lt 15, 51, [], [])) rfl rfl (fun c44 => ?_) (fun c44 => ?_)
        · rw [c_lt (by first | assumption | (refine ⟨?_, ?_⟩ <;> omega) | (simp only [xr] at *; omega)) (by first | assumption | (refine ⟨?_, ?_⟩ <;> omega) | (simp only [xr] at *; omega))] at c44
          simp only [decide_eq_true_eq, decide_eq_false_iff_not, Decidable.not_not] at c44
          show xEx2 RX12 G0 cdX12_writes (some .int) (xRn2 G0 MT (d + 3)) Q b 51 [some (.inr (.inr 66)), some (.inl f0), some (.inl (h 97 ((h 66 47) - 1)))] [] (xup h 66 47 ((h 66 47) - 1))
          refine E2_s 2 (i' := 53) (ls' := [some (.inr (.inr 66)), some (.inl f0), some (.inl (h 97 ((h 66 47) - 1)))]) (sk' := [.inl (h 97 ((h 66 47) - 1)), .inr (.inr 66)]) (h' := (xup h 66 47 ((h 66 47) - 1))) rfl ?_
          exfalso; omega
        · rw [c_lt (by first | assumption | (refine ⟨?_, ?_⟩ <;> omega) | (simp only [xr] at *; omega)) (by first | assumption | (refine ⟨?_, ?_⟩ <;> omega) | (simp only [xr] at *; omega))] at c44
          simp only [decide_eq_true_eq, decide_eq_false_iff_not, Decidable.not_not] at c44
          show xEx2 RX12 G0 cdX12_writes (some .int) (xRn2 G0 MT (d + 3)) Q b 45 [some (.inr (.inr 66)), some (.inl f0), some (.inl (h 97 ((h 66 47) - 1)))] [] (xup h 66 47 ((h 66 47) - 1))
          refine E2_s 4 (i' := 49) (ls' := [some (.inr (.inr 66)), some (.inl f0), some (.inl (h 97 ((h 66 47) - 1)))]) (sk' := [.inl ((h 97 ((h 66 47) - 1)) - 1000), .inr (.inr 66)]) (h' := (xup h 66 47 ((h 66 47) - 1))) rfl ?_
          exfalso; omega
      · rw [c_lt (by first | assumption | (refine ⟨?_, ?_⟩ <;> omega) | (simp only [xr] at *; omega)) (by first | assumption | (refine ⟨?_, ?_⟩ <;> omega) | (simp only [xr] at *; omega))] at c35
        simp only [decide_eq_true_eq, decide_eq_false_iff_not, Decidable.not_not] at c35
        show xEx2 RX12 G0 cdX12_writes (some .int) (xRn2 G0 MT (d + 3)) Q b 36 [some (.inr (.inr 66)), some (.inl f0), some (.inl (h 97 ((h 66 47) - 1)))] [] (xup h 66 47 ((h 66 47) - 1))
        refine E2_s 4 (i' := 40) (ls' := [some (.inr (.inr 66)), some (.inl f0), some (.inl (h 97 ((h 66 47) - 1)))]) (sk' := [.inl ((h 97 ((h 66 47) - 1)) - 2000), .inr (.inr 66)]) (h' := (xup h 66 47 ((h 66 47) - 1))) rfl ?_
        refine E2_ti (y := k) (by rw [show h 97 (h 66 47 - 1) - 2000 = k by omega]) ?_
        refine E2_cv (x := (.invokevirtual 360, 1, [(10, 211)], [0])) (q := fun h9 => h9 = (wxN (xup h 66 47 (h 66 47 - 1)) (h 105 k) (h 106 k) k)) rfl rfl (Nat.le_of_ble_eq_true rfl) (xRn_2 _ _ _ _ _ _ (m_wrN (d + 1) 0 (xup h 66 47 (h 66 47 - 1)) k hk h1 (by rw [(show (xup h 66 47 (h 66 47 - 1)) 66 47 = h 66 47 - 1 from xup_s)]; omega) ⟨rfl, rfl⟩)) (fun h9 e9 => ?_)
        subst e9
        show xEx2 RX12 G0 cdX12_writes (some .int) (xRn2 G0 MT (d + 3)) Q b 41 [some (.inr (.inr 66)), some (.inl f0), some (.inl (h 97 ((h 66 47) - 1)))] [] (wxN (xup h 66 47 (h 66 47 - 1)) (h 105 k) (h 106 k) k)
        refine E2_s 2 (i' := 9) (ls' := [some (.inr (.inr 66)), some (.inl f0), some (.inl (h 97 ((h 66 47) - 1)))]) (sk' := []) (h' := (wxN (xup h 66 47 (h 66 47 - 1)) (h 105 k) (h 106 k) k)) rfl ?_
        exact cut9 _
    · rw [c_lt (by first | assumption | (refine ⟨?_, ?_⟩ <;> omega) | (simp only [xr] at *; omega)) (by first | assumption | (refine ⟨?_, ?_⟩ <;> omega) | (simp only [xr] at *; omega))] at c26
      simp only [decide_eq_true_eq, decide_eq_false_iff_not, Decidable.not_not] at c26
      show xEx2 RX12 G0 cdX12_writes (some .int) (xRn2 G0 MT (d + 3)) Q b 27 [some (.inr (.inr 66)), some (.inl f0), some (.inl (h 97 ((h 66 47) - 1)))] [] (xup h 66 47 ((h 66 47) - 1))
      refine E2_s 4 (i' := 31) (ls' := [some (.inr (.inr 66)), some (.inl f0), some (.inl (h 97 ((h 66 47) - 1)))]) (sk' := [.inl ((h 97 ((h 66 47) - 1)) - 3000), .inr (.inr 66)]) (h' := (xup h 66 47 ((h 66 47) - 1))) rfl ?_
      exfalso; omega
