theorem ppshs_a (h : xH) : ∀ s t : List Int, ppshs h (s ++ t) = ppshs (ppshs h s) t := by
  intro s
  induction s generalizing h with
  | nil => intro t; rfl
  | cons v s ih => intro t; exact ih (ppsh h v) t
theorem ppshs_l : ∀ (s : List Int) (h : xH), ppshs h s 66 47 = h 66 47 + (s.length : Nat)
  | [], h => by simp [ppshs]
  | v :: s, h => by
    show ppshs (ppsh h v) s 66 47 = _
    rw [ppshs_l s, ppsh_l]
    simp only [List.length_cons]
    omega
/-- a word on the pile: its last first -/
def wrd (s : List Int) : List Int := (s.reverse).map (fun v => 3000 + v)
theorem drop_s {s : List Int} : ∀ {i : Nat}, i < s.length → s.drop i = s.getD i 0 :: s.drop (i + 1) := by
  induction s with
  | nil => intro i h; simp at h
  | cons v s ih =>
    intro i h
    cases i with
    | zero => simp
    | succ i =>
      have := ih (i := i) (by simp at h; omega)
      simp only [List.drop_succ_cons, List.getD_cons_succ]
      exact this
set_option maxHeartbeats 1000000 in
theorem m_word (d b : Nat) (h : xH) (j : Nat) (q : String × Nat × List Int) (hs : xSite[j]? = some q) (hl : 0 ≤ h 66 47 ∧ h 66 47 + (q.2.2.length : Nat) ≤ 400) {Q : xO → xH → Prop} (hQ : Q (.inl none) (ppshs h (wrd q.2.2))) : xRn2 G0 MT (d + 2) b 204 [.inr (.inr 66), .inr (.inr (1000 + j))] h Q := by
  refine R2_of (M := mX12_pushesWord) rfl (Nat.le_of_ble_eq_true rfl) ?_
  show xEx2 RX12 G0 cdX12_pushesWord none (xRn2 G0 MT (d + 1)) Q b 0 [some (.inr (.inr 66)), some (.inr (.inr (1000 + j))), none] [] h
  skip
  refine E2_s 1 (i' := 1) (ls' := [some (.inr (.inr 66)), some (.inr (.inr (1000 + j))), none]) (sk' := [.inr (.inr (1000 + j))]) (h' := h) rfl ?_
  refine E2_len (x := (.invokevirtual 316, 0, [], [])) rfl rfl (List.Mem.tail _ (List.Mem.head _)) hs (Nat.le_of_ble_eq_true rfl) ?_
  show xEx2 RX12 G0 cdX12_pushesWord none (xRn2 G0 MT (d + 1)) Q b 2 [some (.inr (.inr 66)), some (.inr (.inr (1000 + j))), none] [.inl ((q.2.2.length : Nat) : Int)] h
  refine E2_s 3 (i' := 5) (ls' := [some (.inr (.inr 66)), some (.inr (.inr (1000 + j))), some (.inl (((q.2.2.length : Nat) : Int) - 1))]) (sk' := []) (h' := h) rfl ?_
  have key5 : ∀ (n : Nat) (i : Int), (-1 ≤ i) → (i < ((q.2.2.length : Nat) : Int)) → ((i + 1).toNat) < n → xEx2 RX12 G0 cdX12_pushesWord none (xRn2 G0 MT (d + 1)) Q b 5 [some (.inr (.inr 66)), some (.inr (.inr (1000 + j))), some (.inl i)] [] (ppshs h (wrd (q.2.2.drop (i + 1).toNat))) := by
    intro n
    induction n with
    | zero => intro i _ _ hm; exact absurd hm (Nat.not_lt_zero _)
    | succ n ih5 =>
      intro i i0 i1 hm5
      refine E2_s 1 (i' := 6) (ls' := [some (.inr (.inr 66)), some (.inr (.inr (1000 + j))), some (.inl i)]) (sk' := [.inl i]) (h' := (ppshs h (wrd (q.2.2.drop (i + 1).toNat)))) rfl ?_
      refine E2_b (x := (.ifCond .lt 22, 16, [], [])) rfl rfl (fun c6 => ?_) (fun c6 => ?_)
      · rw [c_lt (by first | assumption | (refine ⟨?_, ?_⟩ <;> omega) | (simp only [xr] at *; omega)) (by first | assumption | (refine ⟨?_, ?_⟩ <;> omega) | (simp only [xr] at *; omega))] at c6
        simp only [decide_eq_true_eq, decide_eq_false_iff_not, Decidable.not_not] at c6
        show xEx2 RX12 G0 cdX12_pushesWord none (xRn2 G0 MT (d + 1)) Q b 16 [some (.inr (.inr 66)), some (.inr (.inr (1000 + j))), some (.inl i)] [] (ppshs h (wrd (q.2.2.drop (i + 1).toNat)))
        exact E2_ret (x := (.return_, 0, [], [])) (v := none) rfl (trivial) (by
          have r9 := hQ
          rw [show i = -1 by omega]
          exact r9)
      · rw [c_lt (by first | assumption | (refine ⟨?_, ?_⟩ <;> omega) | (simp only [xr] at *; omega)) (by first | assumption | (refine ⟨?_, ?_⟩ <;> omega) | (simp only [xr] at *; omega))] at c6
        simp only [decide_eq_true_eq, decide_eq_false_iff_not, Decidable.not_not] at c6
        show xEx2 RX12 G0 cdX12_pushesWord none (xRn2 G0 MT (d + 1)) Q b 7 [some (.inr (.inr 66)), some (.inr (.inr (1000 + j))), some (.inl i)] [] (ppshs h (wrd (q.2.2.drop (i + 1).toNat)))
        refine E2_s 4 (i' := 11) (ls' := [some (.inr (.inr 66)), some (.inr (.inr (1000 + j))), some (.inl i)]) (sk' := [.inl i, .inr (.inr (1000 + j)), .inl 3000, .inr (.inr 66)]) (h' := (ppshs h (wrd (q.2.2.drop (i + 1).toNat)))) rfl ?_
        refine E2_chr (x := (.invokevirtual 321, 1, [], [])) rfl rfl (List.Mem.tail _ (List.Mem.head _)) hs (Nat.le_of_ble_eq_true rfl) (by omega) (by omega) ?_
        show xEx2 RX12 G0 cdX12_pushesWord none (xRn2 G0 MT (d + 1)) Q b 12 [some (.inr (.inr 66)), some (.inr (.inr (1000 + j))), some (.inl i)] [.inl (q.2.2.getD i.toNat 0), .inl 3000, .inr (.inr 66)] (ppshs h (wrd (q.2.2.drop (i + 1).toNat)))
        refine E2_s 1 (i' := 13) (ls' := [some (.inr (.inr 66)), some (.inr (.inr (1000 + j))), some (.inl i)]) (sk' := [.inl (3000 + (q.2.2.getD i.toNat 0)), .inr (.inr 66)]) (h' := (ppshs h (wrd (q.2.2.drop (i + 1).toNat)))) rfl ?_
        have ll : (ppshs h (wrd (q.2.2.drop (i + 1).toNat))) 66 47 = h 66 47 + (((q.2.2.length : Nat) : Int) - 1 - i) := by rw [ppshs_l]; unfold wrd; rw [List.length_map, List.length_reverse, List.length_drop]; omega
        refine E2_cv (x := (.invokevirtual 325, 1, [(10, 203)], [0])) (q := fun h9 => h9 = (ppsh (ppshs h (wrd (q.2.2.drop (i + 1).toNat))) (3000 + (q.2.2.getD i.toNat 0)))) rfl rfl (Nat.le_of_ble_eq_true rfl) (xRn_2 _ _ _ _ _ _ (m_push d 0 (ppshs h (wrd (q.2.2.drop (i + 1).toNat))) (3000 + (q.2.2.getD i.toNat 0)) (by rw [ll]; omega) ⟨rfl, rfl⟩)) (fun h9 e9 => ?_)
        subst e9
        show xEx2 RX12 G0 cdX12_pushesWord none (xRn2 G0 MT (d + 1)) Q b 14 [some (.inr (.inr 66)), some (.inr (.inr (1000 + j))), some (.inl i)] [] (ppsh (ppshs h (wrd (q.2.2.drop (i + 1).toNat))) (3000 + (q.2.2.getD i.toNat 0)))
        refine E2_s 2 (i' := 5) (ls' := [some (.inr (.inr 66)), some (.inr (.inr (1000 + j))), some (.inl (i + (-1)))]) (sk' := []) (h' := (ppsh (ppshs h (wrd (q.2.2.drop (i + 1).toNat))) (3000 + (q.2.2.getD i.toNat 0)))) rfl ?_
        have e2 : ppsh (ppshs h (wrd (q.2.2.drop (i + 1).toNat))) (3000 + q.2.2.getD i.toNat 0) = ppshs h (wrd (q.2.2.drop (i + (-1) + 1).toNat)) := by
          rw [show (i + (-1) + 1).toNat = i.toNat by omega, drop_s (s := q.2.2) (i := i.toNat) (by omega), show (i + 1).toNat = i.toNat + 1 by omega]
          unfold wrd
          rw [List.reverse_cons, List.map_append, ppshs_a]
          rfl
        rw [show (ppsh (ppshs h (wrd (q.2.2.drop (i + 1).toNat))) (3000 + (q.2.2.getD i.toNat 0))) = _ from e2]
        exact ih5 (i + (-1)) (by omega) (by omega) (by omega)
  have e0 := key5 _ (((q.2.2.length : Nat) : Int) - 1) (by omega) (by omega) (Nat.lt_succ_self _)
  have z0 : ppshs h (wrd (q.2.2.drop ((((q.2.2.length : Nat) : Int) - 1) + 1).toNat)) = h := by rw [show ((((q.2.2.length : Nat) : Int) - 1) + 1).toNat = q.2.2.length by omega, List.drop_length]; rfl
  rw [z0] at e0
  exact e0
