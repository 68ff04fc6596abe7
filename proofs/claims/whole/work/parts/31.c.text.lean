theorem E2_sw {own : String} {G : List xS} {cd : List xI} {rt : Option FieldType} {call : xCal} {Q : xO → xH → Prop} {b i : Nat} {ls : xL} {sk : List xV} {h : xH} {x : xI} {z : Int} {t : Nat} {d lo hi : Int} {offs : Array Int} (hx : cd[i]? = some x) (hi : x.1 = .tableswitch d lo hi offs) (ht : xsw x.2.2.1 x.2.1.toNat (w32 z) = t) (hk : xEx2 own G cd rt call Q b t ls sk h) : xEx2 own G cd rt call Q b i ls (.inl z :: sk) h := by
  subst ht
  refine E2_s 1 (i' := xsw x.2.2.1 x.2.1.toNat (w32 z)) (ls' := ls) (sk' := sk) (h' := h) ?_ hk
  obtain ⟨ins, a, l1, l2⟩ := x
  simp only at hi
  subst hi
  show (match cd[i]? with | some x => (match sx G x i ls (.inl z :: sk) h with | some s' => xsn G cd 0 s' | none => none) | none => none) = _
  rw [hx]
  rfl
theorem E2_cx {own : String} {G : List xS} {cd : List xI} {rt : Option FieldType} {call : xCal} {Q : xO → xH → Prop} {b1 b2 i : Nat} {ls : xL} {sk : List xV} {h : xH} {x : xI} {mm : Nat} {as rest : List xV} {v : Option xV} {q : xH → Prop} (hx : cd[i]? = some x) (hs : xcl G x sk = some (mm, as, rest)) (hw : (rest.map xcat).sum ≤ 8) (hU : x.2.2.2.head? = some 1 → False) (hc : call b1 mm as h (fun o h9 => (o = .inl v ∧ q h9) ∨ ∃ E, o = .inr E ∧ Q (.inr E) h9)) (hk : ∀ h' : xH, q h' → xEx2 own G cd rt call Q b2 (i + 1) ls (v.toList ++ rest) h') : xEx2 own G cd rt call Q (b1 + b2) i ls sk h := by
  refine E2_call hx hs hw (fun z => (hU z).elim) hc (fun v9 h9 z => ?_) (fun E h9 z => ?_)
  · rcases z with ⟨z1, z2⟩ | ⟨E, z1, -⟩
    · cases z1
      exact hk h9 z2
    · cases z1
  · rcases z with ⟨z1, -⟩ | ⟨E9, z1, z2⟩
    · cases z1
    · cases z1
      exact z2
theorem tadds_l : ∀ (s : List Int) (h : xH), tadds h s 64 1 = h 64 1 + (s.length : Nat)
  | [], h => by simp [tadds]
  | v :: s, h => by
    show tadds (tadd h v) s 64 1 = _
    rw [tadds_l s, tadd_l]
    simp only [List.length_cons]
    omega
theorem take_s {s : List Int} : ∀ {i : Nat}, i < s.length → s.take (i + 1) = s.take i ++ [s.getD i 0] := by
  induction s with
  | nil => intro i h; simp at h
  | cons v s ih =>
    intro i h
    cases i with
    | zero => simp
    | succ i =>
      have := ih (i := i) (by simp at h; omega)
      simp only [List.take_succ_cons, List.cons_append, List.getD_cons_succ]
      rw [this]
theorem mem_g {s : List Int} {i : Nat} (h : i < s.length) : s.getD i 0 ∈ s := by
  rw [List.getD_eq_getElem?_getD, List.getElem?_eq_getElem h]
  exact List.getElem_mem h
set_option maxHeartbeats 1000000 in
theorem c_tall (d b : Nat) (h : xH) (j : Nat) (q : String × Nat × List Int) (hs : xSite[j]? = some q) (hb : ∀ v ∈ q.2.2, 0 ≤ v ∧ v ≤ 127) (hl : 0 ≤ h 64 1 ∧ h 64 1 + (q.2.2.length : Nat) ≤ 1024) {Q : xO → xH → Prop} (hQ : Q (.inl none) (tadds h q.2.2)) : xRn2 G0 MT (d + 2) b 95 [.inr (.inr 64), .inr (.inr (1000 + j))] h Q := by
  refine R2_of (M := mX10_addAll) rfl (Nat.le_of_ble_eq_true rfl) ?_
  show xEx2 RX10 G0 cdX10_addAll none (xRn2 G0 MT (d + 1)) Q b 0 [some (.inr (.inr 64)), some (.inr (.inr (1000 + j))), none] [] h
  refine E2_s 2 (i' := 2) (ls' := [some (.inr (.inr 64)), some (.inr (.inr (1000 + j))), some (.inl 0)]) (sk' := []) (h' := h) rfl ?_
  have key2 : ∀ (n : Nat) (i : Int), (0 ≤ i) → (i ≤ ((q.2.2.length : Nat) : Int)) → ((((q.2.2.length : Nat) : Int) - i).toNat) < n → xEx2 RX10 G0 cdX10_addAll none (xRn2 G0 MT (d + 1)) Q b 2 [some (.inr (.inr 64)), some (.inr (.inr (1000 + j))), some (.inl i)] [] (tadds h (q.2.2.take i.toNat)) := by
    intro n
    induction n with
    | zero => intro i _ _ hm; exact absurd hm (Nat.not_lt_zero _)
    | succ n ih2 =>
      intro i i0 i1 hm2
      have ql : ((q.2.2.length : Nat) : Int) ≤ 1024 := by omega
      refine E2_s 2 (i' := 4) (ls' := [some (.inr (.inr 64)), some (.inr (.inr (1000 + j))), some (.inl i)]) (sk' := [.inr (.inr (1000 + j)), .inl i]) (h' := (tadds h (q.2.2.take i.toNat))) rfl ?_
      refine E2_len (x := (.invokevirtual 17, 0, [], [])) rfl rfl (List.Mem.head _) hs (Nat.le_of_ble_eq_true rfl) ?_
      show xEx2 RX10 G0 cdX10_addAll none (xRn2 G0 MT (d + 1)) Q b 5 [some (.inr (.inr 64)), some (.inr (.inr (1000 + j))), some (.inl i)] [.inl ((q.2.2.length : Nat) : Int), .inl i] (tadds h (q.2.2.take i.toNat))
      refine E2_b (x := (.if_icmp .ge 18, 13, [], [])) rfl rfl (fun c5 => ?_) (fun c5 => ?_)
      · rw [c_ge (by first | assumption | (refine ⟨?_, ?_⟩ <;> omega) | (simp only [xr] at *; omega)) (by first | assumption | (refine ⟨?_, ?_⟩ <;> omega) | (simp only [xr] at *; omega))] at c5
        simp only [decide_eq_true_eq, decide_eq_false_iff_not, Decidable.not_not] at c5
        show xEx2 RX10 G0 cdX10_addAll none (xRn2 G0 MT (d + 1)) Q b 13 [some (.inr (.inr 64)), some (.inr (.inr (1000 + j))), some (.inl i)] [] (tadds h (q.2.2.take i.toNat))
        exact E2_ret (x := (.return_, 0, [], [])) (v := none) rfl (trivial) (by
          have r9 := hQ
          rw [← List.take_of_length_le (l := q.2.2) (i := i.toNat) (by omega)] at r9
          exact r9)
      · rw [c_ge (by first | assumption | (refine ⟨?_, ?_⟩ <;> omega) | (simp only [xr] at *; omega)) (by first | assumption | (refine ⟨?_, ?_⟩ <;> omega) | (simp only [xr] at *; omega))] at c5
        simp only [decide_eq_true_eq, decide_eq_false_iff_not, Decidable.not_not] at c5
        show xEx2 RX10 G0 cdX10_addAll none (xRn2 G0 MT (d + 1)) Q b 6 [some (.inr (.inr 64)), some (.inr (.inr (1000 + j))), some (.inl i)] [] (tadds h (q.2.2.take i.toNat))
        refine E2_s 3 (i' := 9) (ls' := [some (.inr (.inr 64)), some (.inr (.inr (1000 + j))), some (.inl i)]) (sk' := [.inl i, .inr (.inr (1000 + j)), .inr (.inr 64)]) (h' := (tadds h (q.2.2.take i.toNat))) rfl ?_
        refine E2_chr (x := (.invokevirtual 22, 1, [], [])) rfl rfl (List.Mem.head _) hs (Nat.le_of_ble_eq_true rfl) (by omega) (by omega) ?_
        show xEx2 RX10 G0 cdX10_addAll none (xRn2 G0 MT (d + 1)) Q b 10 [some (.inr (.inr 64)), some (.inr (.inr (1000 + j))), some (.inl i)] [.inl (q.2.2.getD i.toNat 0), .inr (.inr 64)] (tadds h (q.2.2.take i.toNat))
        have gm := hb _ (mem_g (s := q.2.2) (i := i.toNat) (by omega))
        have ll : (tadds h (q.2.2.take i.toNat)) 64 1 = h 64 1 + i := by rw [tadds_l, List.length_take]; omega
        refine E2_cv (x := (.invokevirtual 26, 1, [(8, 94)], [0])) (q := fun h9 => h9 = (tadd (tadds h (q.2.2.take i.toNat)) (q.2.2.getD i.toNat 0))) rfl rfl (Nat.le_of_ble_eq_true rfl) (xRn_2 _ _ _ _ _ _ (c_tadd d 0 (tadds h (q.2.2.take i.toNat)) (q.2.2.getD i.toNat 0) gm (by rw [ll]; omega) ⟨rfl, rfl⟩)) (fun h9 e9 => ?_)
        subst e9
        show xEx2 RX10 G0 cdX10_addAll none (xRn2 G0 MT (d + 1)) Q b 11 [some (.inr (.inr 64)), some (.inr (.inr (1000 + j))), some (.inl i)] [] (tadd (tadds h (q.2.2.take i.toNat)) (q.2.2.getD i.toNat 0))
        refine E2_s 2 (i' := 2) (ls' := [some (.inr (.inr 64)), some (.inr (.inr (1000 + j))), some (.inl (i + 1))]) (sk' := []) (h' := (tadd (tadds h (q.2.2.take i.toNat)) (q.2.2.getD i.toNat 0))) rfl ?_
        have e2 : tadd (tadds h (q.2.2.take i.toNat)) (q.2.2.getD i.toNat 0) = tadds h (q.2.2.take (i + 1).toNat) := by rw [show (i + 1).toNat = i.toNat + 1 by omega, take_s (by omega), tadds_a]; rfl
        rw [e2]
        exact ih2 (i + 1) (by omega) (by omega) (by omega)
  have e0 := key2 _ 0 (by omega) (by omega) (Nat.lt_succ_self _)
  have z0 : tadds h (q.2.2.take (0 : Int).toNat) = h := by simp [tadds]
  rw [z0] at e0
  exact e0
