theorem cpy_o {h : xH} {s d : Nat} {sp dp n : Int} {a : Nat} (e : a ≠ d) : xcpy h s sp d dp n a = h a := by funext j; simp [xcpy, e]
theorem cpy_s {h : xH} {d : Nat} {p n : Int} (j : Int) : xcpy h d (p + 1) d p (n - p - 1) d j = if p ≤ j ∧ j < n - 1 then h d (j + 1) else h d j := by
  unfold xcpy
  rw [if_pos rfl]
  by_cases z : p ≤ j ∧ j < n - 1
  · rw [if_pos z, if_pos (by omega)]
    congr 1
    omega
  · rw [if_neg z, if_neg (by omega)]
def RMV (h h9 : xH) (p : Int) : Prop := (∀ a, a < 3 ∨ 6 < a → a ≠ 1 → h9 a = h a) ∧ (∀ a, 3 ≤ a → a ≤ 6 → ∀ j, h9 a j = if p ≤ j ∧ j < h 1 2 - 1 then h a (j + 1) else h a j) ∧ (∀ j, j ≠ 2 → h9 1 j = h 1 j) ∧ h9 1 2 = h 1 2 - 1
set_option maxHeartbeats 1000000 in
theorem c_remove (d b : Nat) (h : xH) (p : Int) (hn : 0 ≤ h 1 2 ∧ h 1 2 ≤ 12) (hp : 0 ≤ p ∧ p < h 1 2) {Q : xO → xH → Prop} (hQ : ∀ h', RMV h h' p → Q (.inl none) h') : xRn G0 MT (d + 1) b 4 [.inr (.inr 1), .inl p] h Q := by
  refine R_of (M := mX0_remove) rfl (Nat.le_of_ble_eq_true rfl) ?_
  show xEx G0 cdX0_remove none (xRn G0 MT d) Q b 0 [some (.inr (.inr 1)), some (.inl p), none] [] h
  refine E_s 6 (i' := 6) (ls' := [some (.inr (.inr 1)), some (.inl p), some (.inl 0)]) (sk' := [.inl 4, .inl 0]) (h' := h) rfl ?_
  refine E_b (x := (.if_icmp .ge 36, 28, [], [])) rfl rfl (fun c6 => ?_) (fun c6 => ?_)
  · show xEx G0 cdX0_remove none (xRn G0 MT d) Q b 28 [some (.inr (.inr 1)), some (.inl p), some (.inl 0)] [] h
    exact absurd c6 (by decide)
  · show xEx G0 cdX0_remove none (xRn G0 MT d) Q b 7 [some (.inr (.inr 1)), some (.inl p), some (.inl 0)] [] h
    refine E_s 3 (i' := 10) (ls' := [some (.inr (.inr 1)), some (.inl p), some (.inl 0)]) (sk' := [.inl 0, .inr (.inr 2)]) (h' := h) rfl ?_
    refine E_ald (x := (.aaload, 0, [], [])) 0 rfl rfl rfl (rfl) rfl ?_
    show xEx G0 cdX0_remove none (xRn G0 MT d) Q b 11 [some (.inr (.inr 1)), some (.inl p), some (.inl 0)] [.inr (.inr 3)] h
    refine E_s 6 (i' := 17) (ls' := [some (.inr (.inr 1)), some (.inl p), some (.inl 0)]) (sk' := [.inl 0, .inr (.inr 2), .inl (p + 1), .inr (.inr 3)]) (h' := h) rfl ?_
    refine E_ald (x := (.aaload, 0, [], [])) 0 rfl rfl rfl (rfl) rfl ?_
    show xEx G0 cdX0_remove none (xRn G0 MT d) Q b 18 [some (.inr (.inr 1)), some (.inl p), some (.inl 0)] [.inr (.inr 3), .inl (p + 1), .inr (.inr 3)] h
    refine E_s 7 (i' := 25) (ls' := [some (.inr (.inr 1)), some (.inl p), some (.inl 0)]) (sk' := [.inl (((h 1 2) - p) - 1), .inl p, .inr (.inr 3), .inl (p + 1), .inr (.inr 3)]) (h' := h) rfl ?_
    refine E_cpy (x := (.invokestatic 21, 0, [], [])) rfl rfl rfl rfl rfl rfl (by omega) (by omega) (by omega) (by omega) (by omega) (Nat.le_of_ble_eq_true rfl) ?_
    show xEx G0 cdX0_remove none (xRn G0 MT d) Q b 26 [some (.inr (.inr 1)), some (.inl p), some (.inl 0)] [] (xcpy h 3 (p + 1) 3 p (((h 1 2) - p) - 1))
    refine E_s 6 (i' := 6) (ls' := [some (.inr (.inr 1)), some (.inl p), some (.inl 1)]) (sk' := [.inl 4, .inl 1]) (h' := (xcpy h 3 (p + 1) 3 p (((h 1 2) - p) - 1))) rfl ?_
    refine E_b (x := (.if_icmp .ge 36, 28, [], [])) rfl rfl (fun c6 => ?_) (fun c6 => ?_)
    · show xEx G0 cdX0_remove none (xRn G0 MT d) Q b 28 [some (.inr (.inr 1)), some (.inl p), some (.inl 1)] [] (xcpy h 3 (p + 1) 3 p (((h 1 2) - p) - 1))
      exact absurd c6 (by decide)
    · show xEx G0 cdX0_remove none (xRn G0 MT d) Q b 7 [some (.inr (.inr 1)), some (.inl p), some (.inl 1)] [] (xcpy h 3 (p + 1) 3 p (((h 1 2) - p) - 1))
      refine E_s 3 (i' := 10) (ls' := [some (.inr (.inr 1)), some (.inl p), some (.inl 1)]) (sk' := [.inl 1, .inr (.inr 2)]) (h' := (xcpy h 3 (p + 1) 3 p (((h 1 2) - p) - 1))) rfl ?_
      refine E_ald (x := (.aaload, 0, [], [])) 1 rfl rfl rfl (rfl) rfl ?_
      show xEx G0 cdX0_remove none (xRn G0 MT d) Q b 11 [some (.inr (.inr 1)), some (.inl p), some (.inl 1)] [.inr (.inr 4)] (xcpy h 3 (p + 1) 3 p (((h 1 2) - p) - 1))
      refine E_s 6 (i' := 17) (ls' := [some (.inr (.inr 1)), some (.inl p), some (.inl 1)]) (sk' := [.inl 1, .inr (.inr 2), .inl (p + 1), .inr (.inr 4)]) (h' := (xcpy h 3 (p + 1) 3 p (((h 1 2) - p) - 1))) rfl ?_
      refine E_ald (x := (.aaload, 0, [], [])) 1 rfl rfl rfl (rfl) rfl ?_
      show xEx G0 cdX0_remove none (xRn G0 MT d) Q b 18 [some (.inr (.inr 1)), some (.inl p), some (.inl 1)] [.inr (.inr 4), .inl (p + 1), .inr (.inr 4)] (xcpy h 3 (p + 1) 3 p (((h 1 2) - p) - 1))
      refine E_s 7 (i' := 25) (ls' := [some (.inr (.inr 1)), some (.inl p), some (.inl 1)]) (sk' := [.inl (((h 1 2) - p) - 1), .inl p, .inr (.inr 4), .inl (p + 1), .inr (.inr 4)]) (h' := (xcpy h 3 (p + 1) 3 p (((h 1 2) - p) - 1))) rfl ?_
      refine E_cpy (x := (.invokestatic 21, 0, [], [])) rfl rfl rfl rfl rfl rfl (by omega) (by omega) (by omega) (by omega) (by omega) (Nat.le_of_ble_eq_true rfl) ?_
      show xEx G0 cdX0_remove none (xRn G0 MT d) Q b 26 [some (.inr (.inr 1)), some (.inl p), some (.inl 1)] [] (xcpy (xcpy h 3 (p + 1) 3 p (((h 1 2) - p) - 1)) 4 (p + 1) 4 p (((h 1 2) - p) - 1))
      refine E_s 6 (i' := 6) (ls' := [some (.inr (.inr 1)), some (.inl p), some (.inl 2)]) (sk' := [.inl 4, .inl 2]) (h' := (xcpy (xcpy h 3 (p + 1) 3 p (((h 1 2) - p) - 1)) 4 (p + 1) 4 p (((h 1 2) - p) - 1))) rfl ?_
      refine E_b (x := (.if_icmp .ge 36, 28, [], [])) rfl rfl (fun c6 => ?_) (fun c6 => ?_)
      · show xEx G0 cdX0_remove none (xRn G0 MT d) Q b 28 [some (.inr (.inr 1)), some (.inl p), some (.inl 2)] [] (xcpy (xcpy h 3 (p + 1) 3 p (((h 1 2) - p) - 1)) 4 (p + 1) 4 p (((h 1 2) - p) - 1))
        exact absurd c6 (by decide)
      · show xEx G0 cdX0_remove none (xRn G0 MT d) Q b 7 [some (.inr (.inr 1)), some (.inl p), some (.inl 2)] [] (xcpy (xcpy h 3 (p + 1) 3 p (((h 1 2) - p) - 1)) 4 (p + 1) 4 p (((h 1 2) - p) - 1))
        refine E_s 3 (i' := 10) (ls' := [some (.inr (.inr 1)), some (.inl p), some (.inl 2)]) (sk' := [.inl 2, .inr (.inr 2)]) (h' := (xcpy (xcpy h 3 (p + 1) 3 p (((h 1 2) - p) - 1)) 4 (p + 1) 4 p (((h 1 2) - p) - 1))) rfl ?_
        refine E_ald (x := (.aaload, 0, [], [])) 2 rfl rfl rfl (rfl) rfl ?_
        show xEx G0 cdX0_remove none (xRn G0 MT d) Q b 11 [some (.inr (.inr 1)), some (.inl p), some (.inl 2)] [.inr (.inr 5)] (xcpy (xcpy h 3 (p + 1) 3 p (((h 1 2) - p) - 1)) 4 (p + 1) 4 p (((h 1 2) - p) - 1))
        refine E_s 6 (i' := 17) (ls' := [some (.inr (.inr 1)), some (.inl p), some (.inl 2)]) (sk' := [.inl 2, .inr (.inr 2), .inl (p + 1), .inr (.inr 5)]) (h' := (xcpy (xcpy h 3 (p + 1) 3 p (((h 1 2) - p) - 1)) 4 (p + 1) 4 p (((h 1 2) - p) - 1))) rfl ?_
        refine E_ald (x := (.aaload, 0, [], [])) 2 rfl rfl rfl (rfl) rfl ?_
        show xEx G0 cdX0_remove none (xRn G0 MT d) Q b 18 [some (.inr (.inr 1)), some (.inl p), some (.inl 2)] [.inr (.inr 5), .inl (p + 1), .inr (.inr 5)] (xcpy (xcpy h 3 (p + 1) 3 p (((h 1 2) - p) - 1)) 4 (p + 1) 4 p (((h 1 2) - p) - 1))
        refine E_s 7 (i' := 25) (ls' := [some (.inr (.inr 1)), some (.inl p), some (.inl 2)]) (sk' := [.inl (((h 1 2) - p) - 1), .inl p, .inr (.inr 5), .inl (p + 1), .inr (.inr 5)]) (h' := (xcpy (xcpy h 3 (p + 1) 3 p (((h 1 2) - p) - 1)) 4 (p + 1) 4 p (((h 1 2) - p) - 1))) rfl ?_
        refine E_cpy (x := (.invokestatic 21, 0, [], [])) rfl rfl rfl rfl rfl rfl (by omega) (by omega) (by omega) (by omega) (by omega) (Nat.le_of_ble_eq_true rfl) ?_
        show xEx G0 cdX0_remove none (xRn G0 MT d) Q b 26 [some (.inr (.inr 1)), some (.inl p), some (.inl 2)] [] (xcpy (xcpy (xcpy h 3 (p + 1) 3 p (((h 1 2) - p) - 1)) 4 (p + 1) 4 p (((h 1 2) - p) - 1)) 5 (p + 1) 5 p (((h 1 2) - p) - 1))
        refine E_s 6 (i' := 6) (ls' := [some (.inr (.inr 1)), some (.inl p), some (.inl 3)]) (sk' := [.inl 4, .inl 3]) (h' := (xcpy (xcpy (xcpy h 3 (p + 1) 3 p (((h 1 2) - p) - 1)) 4 (p + 1) 4 p (((h 1 2) - p) - 1)) 5 (p + 1) 5 p (((h 1 2) - p) - 1))) rfl ?_
        refine E_b (x := (.if_icmp .ge 36, 28, [], [])) rfl rfl (fun c6 => ?_) (fun c6 => ?_)
        · show xEx G0 cdX0_remove none (xRn G0 MT d) Q b 28 [some (.inr (.inr 1)), some (.inl p), some (.inl 3)] [] (xcpy (xcpy (xcpy h 3 (p + 1) 3 p (((h 1 2) - p) - 1)) 4 (p + 1) 4 p (((h 1 2) - p) - 1)) 5 (p + 1) 5 p (((h 1 2) - p) - 1))
          exact absurd c6 (by decide)
        · show xEx G0 cdX0_remove none (xRn G0 MT d) Q b 7 [some (.inr (.inr 1)), some (.inl p), some (.inl 3)] [] (xcpy (xcpy (xcpy h 3 (p + 1) 3 p (((h 1 2) - p) - 1)) 4 (p + 1) 4 p (((h 1 2) - p) - 1)) 5 (p + 1) 5 p (((h 1 2) - p) - 1))
          refine E_s 3 (i' := 10) (ls' := [some (.inr (.inr 1)), some (.inl p), some (.inl 3)]) (sk' := [.inl 3, .inr (.inr 2)]) (h' := (xcpy (xcpy (xcpy h 3 (p + 1) 3 p (((h 1 2) - p) - 1)) 4 (p + 1) 4 p (((h 1 2) - p) - 1)) 5 (p + 1) 5 p (((h 1 2) - p) - 1))) rfl ?_
          refine E_ald (x := (.aaload, 0, [], [])) 3 rfl rfl rfl (rfl) rfl ?_
          show xEx G0 cdX0_remove none (xRn G0 MT d) Q b 11 [some (.inr (.inr 1)), some (.inl p), some (.inl 3)] [.inr (.inr 6)] (xcpy (xcpy (xcpy h 3 (p + 1) 3 p (((h 1 2) - p) - 1)) 4 (p + 1) 4 p (((h 1 2) - p) - 1)) 5 (p + 1) 5 p (((h 1 2) - p) - 1))
          refine E_s 6 (i' := 17) (ls' := [some (.inr (.inr 1)), some (.inl p), some (.inl 3)]) (sk' := [.inl 3, .inr (.inr 2), .inl (p + 1), .inr (.inr 6)]) (h' := (xcpy (xcpy (xcpy h 3 (p + 1) 3 p (((h 1 2) - p) - 1)) 4 (p + 1) 4 p (((h 1 2) - p) - 1)) 5 (p + 1) 5 p (((h 1 2) - p) - 1))) rfl ?_
          refine E_ald (x := (.aaload, 0, [], [])) 3 rfl rfl rfl (rfl) rfl ?_
          show xEx G0 cdX0_remove none (xRn G0 MT d) Q b 18 [some (.inr (.inr 1)), some (.inl p), some (.inl 3)] [.inr (.inr 6), .inl (p + 1), .inr (.inr 6)] (xcpy (xcpy (xcpy h 3 (p + 1) 3 p (((h 1 2) - p) - 1)) 4 (p + 1) 4 p (((h 1 2) - p) - 1)) 5 (p + 1) 5 p (((h 1 2) - p) - 1))
          refine E_s 7 (i' := 25) (ls' := [some (.inr (.inr 1)), some (.inl p), some (.inl 3)]) (sk' := [.inl (((h 1 2) - p) - 1), .inl p, .inr (.inr 6), .inl (p + 1), .inr (.inr 6)]) (h' := (xcpy (xcpy (xcpy h 3 (p + 1) 3 p (((h 1 2) - p) - 1)) 4 (p + 1) 4 p (((h 1 2) - p) - 1)) 5 (p + 1) 5 p (((h 1 2) - p) - 1))) rfl ?_
          refine E_cpy (x := (.invokestatic 21, 0, [], [])) rfl rfl rfl rfl rfl rfl (by omega) (by omega) (by omega) (by omega) (by omega) (Nat.le_of_ble_eq_true rfl) ?_
          show xEx G0 cdX0_remove none (xRn G0 MT d) Q b 26 [some (.inr (.inr 1)), some (.inl p), some (.inl 3)] [] (xcpy (xcpy (xcpy (xcpy h 3 (p + 1) 3 p (((h 1 2) - p) - 1)) 4 (p + 1) 4 p (((h 1 2) - p) - 1)) 5 (p + 1) 5 p (((h 1 2) - p) - 1)) 6 (p + 1) 6 p (((h 1 2) - p) - 1))
          refine E_s 6 (i' := 6) (ls' := [some (.inr (.inr 1)), some (.inl p), some (.inl 4)]) (sk' := [.inl 4, .inl 4]) (h' := (xcpy (xcpy (xcpy (xcpy h 3 (p + 1) 3 p (((h 1 2) - p) - 1)) 4 (p + 1) 4 p (((h 1 2) - p) - 1)) 5 (p + 1) 5 p (((h 1 2) - p) - 1)) 6 (p + 1) 6 p (((h 1 2) - p) - 1))) rfl ?_
          refine E_b (x := (.if_icmp .ge 36, 28, [], [])) rfl rfl (fun c6 => ?_) (fun c6 => ?_)
          · show xEx G0 cdX0_remove none (xRn G0 MT d) Q b 28 [some (.inr (.inr 1)), some (.inl p), some (.inl 4)] [] (xcpy (xcpy (xcpy (xcpy h 3 (p + 1) 3 p (((h 1 2) - p) - 1)) 4 (p + 1) 4 p (((h 1 2) - p) - 1)) 5 (p + 1) 5 p (((h 1 2) - p) - 1)) 6 (p + 1) 6 p (((h 1 2) - p) - 1))
            refine E_s 6 (i' := 34) (ls' := [some (.inr (.inr 1)), some (.inl p), some (.inl 4)]) (sk' := []) (h' := (xup (xcpy (xcpy (xcpy (xcpy h 3 (p + 1) 3 p (((h 1 2) - p) - 1)) 4 (p + 1) 4 p (((h 1 2) - p) - 1)) 5 (p + 1) 5 p (((h 1 2) - p) - 1)) 6 (p + 1) 6 p (((h 1 2) - p) - 1)) 1 2 ((h 1 2) - 1))) rfl ?_
            exact E_ret (x := (.return_, 0, [], [])) (v := none) rfl (trivial) (hQ _ ⟨fun a z1 z2 => by rw [xup_o _ _ _ _ a z2, cpy_o (by omega), cpy_o (by omega), cpy_o (by omega), cpy_o (by omega)], fun a z1 z2 j => by
              have e : a = 3 ∨ a = 4 ∨ a = 5 ∨ a = 6 := by omega
              rw [xup_o _ _ _ _ a (by omega)]
              rcases e with rfl | rfl | rfl | rfl
              · rw [cpy_o (by decide), cpy_o (by decide), cpy_o (by decide)]; exact cpy_s j
              · rw [cpy_o (by decide), cpy_o (by decide)]
                exact cpy_s j
              · rw [cpy_o (by decide)]
                exact cpy_s j
              · exact cpy_s j, fun j z => by rw [xup_j z, cpy_o (by decide), cpy_o (by decide), cpy_o (by decide), cpy_o (by decide)], rfl⟩)
          · show xEx G0 cdX0_remove none (xRn G0 MT d) Q b 7 [some (.inr (.inr 1)), some (.inl p), some (.inl 4)] [] (xcpy (xcpy (xcpy (xcpy h 3 (p + 1) 3 p (((h 1 2) - p) - 1)) 4 (p + 1) 4 p (((h 1 2) - p) - 1)) 5 (p + 1) 5 p (((h 1 2) - p) - 1)) 6 (p + 1) 6 p (((h 1 2) - p) - 1))
            exact absurd c6 (by decide)
set_option maxHeartbeats 1000000 in
theorem o_drop (d  : Nat) (h : xH) (p : Int) (hp : xr p) (hk : KOK h) (hn : 0 ≤ h 1 2 ∧ h 1 2 ≤ 12) {Q : xO → xH → Prop} (h1 : 0 ≤ p ∧ p < h 1 2 → ∀ g h', RMV h g p → FGC g h' → Q (.inl (some (.inl (h' 1 2)))) h') (h0 : ¬ (0 ≤ p ∧ p < h 1 2) → Q (.inr "java/util/NoSuchElementException") h) : xRn G0 MT (d + 6) 1 99 [.inr (.inr 0), .inl p] h Q := by
  refine R_of (M := mX11_drop) rfl (Nat.le_of_ble_eq_true rfl) ?_
  show xEx G0 cdX11_drop (some .int) (xRn G0 MT (d + 5)) Q 1 0 [some (.inr (.inr 0)), some (.inl p)] [] h
  refine E_s 2 (i' := 2) (ls' := [some (.inr (.inr 0)), some (.inl p)]) (sk' := [.inl p, .inr (.inr 0)]) (h' := h) rfl ?_
  refine E_cx (x := (.invokevirtual 115, 1, [(9, 145)], [0])) (b1 := 1) (b2 := 0) (v := none) (q := fun h9 => (0 ≤ p ∧ p < h 1 2) ∧ h = h9) rfl rfl (Nat.le_of_ble_eq_true rfl) (fun z => by cases z) (c_refNoExample (d + 4) h p hp hn (fun z => Or.inl ⟨rfl, z, rfl⟩) (fun z => Or.inr ⟨_, rfl, h0 z⟩)) (fun h9 hq9 => ?_)
  obtain ⟨q1, rfl⟩ := hq9
  show xEx G0 cdX11_drop (some .int) (xRn G0 MT (d + 5)) Q 0 3 [some (.inr (.inr 0)), some (.inl p)] [] h
  refine E_s 3 (i' := 6) (ls' := [some (.inr (.inr 0)), some (.inl p)]) (sk' := [.inl p, .inr (.inr 1)]) (h' := h) rfl ?_
  refine E_cv (x := (.invokevirtual 119, 1, [(0, 4)], [0])) (q := fun h9 => RMV h h9 p) rfl rfl (Nat.le_of_ble_eq_true rfl) (c_remove (d + 4) 0 h p hn q1 (fun h9 z => ⟨rfl, z⟩)) (fun g1 hg => ?_)
  show xEx G0 cdX11_drop (some .int) (xRn G0 MT (d + 5)) Q 0 7 [some (.inr (.inr 0)), some (.inl p)] [] g1
  refine E_s 1 (i' := 8) (ls' := [some (.inr (.inr 0)), some (.inl p)]) (sk' := [.inr (.inr 0)]) (h' := g1) rfl ?_
  have hk9 : KOK (g1) := KOK_of (fun a ha => hg.1 a (by omega) (by omega)) hk
  refine E_cv (x := (.invokevirtual 93, 0, [(9, 140)], [0])) (q := fun h9 => FGC (g1) h9) rfl rfl (Nat.le_of_ble_eq_true rfl) (c_forgetAll d 0 (g1) hk9.1 hk9.2.1 hk9.2.2.1 hk9.2.2.2 (fun h9 z => ⟨rfl, z⟩)) (fun hF1 hf => ?_)
  show xEx G0 cdX11_drop (some .int) (xRn G0 MT (d + 5)) Q 0 9 [some (.inr (.inr 0)), some (.inl p)] [] hF1
  refine E_s 3 (i' := 12) (ls' := [some (.inr (.inr 0)), some (.inl p)]) (sk' := [.inl (hF1 1 2)]) (h' := hF1) rfl ?_
  exact E_ret (x := (.ireturn, 0, [], [])) (v := some (.inl (hF1 1 2))) rfl (Or.inl rfl) (h1 q1 _ _ hg hf)
set_option maxHeartbeats 1000000 in
theorem m_drop (d b : Nat) (h : xH) (p : Int) (hp : xr p) (hn : 0 ≤ h 66 4 ∧ h 66 4 ≤ 12) {Q : xO → xH → Prop} (h1 : 0 ≤ p ∧ p < h 66 4 → ∀ hh h', ((∀ a, a ≠ 67 → hh a = xup h 66 0 0 a) ∧ (∀ j, hh 67 j = if 4 * p ≤ j ∧ j < 4 * h 66 4 - 4 then h 67 (j + 4) else h 67 j)) → FGR (xup hh 66 4 (h 66 4 - 1)) h' → Q (.inl (some (.inl (h' 66 4)))) h') (h0 : ¬ (0 ≤ p ∧ p < h 66 4) → Q (.inl (some (.inl 0))) (xup h 66 0 1)) : xRn G0 MT (d + 3) b 163 [.inr (.inr 66), .inl p] h Q := by
  refine R_of (M := mX12_drop) rfl (Nat.le_of_ble_eq_true rfl) ?_
  show xEx G0 cdX12_drop (some .int) (xRn G0 MT (d + 2)) Q b 0 [some (.inr (.inr 66)), some (.inl p), none] [] h
  refine E_s 3 (i' := 3) (ls' := [some (.inr (.inr 66)), some (.inl p), none]) (sk' := [.inl p, .inr (.inr 66), .inr (.inr 66)]) (h' := h) rfl ?_
  refine E_cp (x := (.invokevirtual 193, 1, [(10, 162)], [0])) (q := fun r h9 => ((r = 1 ∧ (0 ≤ p ∧ p < h 66 4)) ∨ (r = 0 ∧ ¬ (0 ≤ p ∧ p < h 66 4))) ∧ h = h9) rfl rfl (Nat.le_of_ble_eq_true rfl) (m_isExample d 0 h p hp hn (fun z => ⟨_, rfl, Or.inl ⟨rfl, z⟩, rfl⟩) (fun z => ⟨_, rfl, Or.inr ⟨rfl, z⟩, rfl⟩)) (fun r h9 q1 => ?_)
  obtain ⟨q1, rfl⟩ := q1
  show xEx G0 cdX12_drop (some .int) (xRn G0 MT (d + 2)) Q b 4 [some (.inr (.inr 66)), some (.inl p), none] [.inl r, .inr (.inr 66)] h
  refine E_b (x := (.ifCond .eq 7, 7, [], [])) rfl rfl (fun c4 => ?_) (fun c4 => ?_)
  · rw [c_eq (by first | assumption | (refine ⟨?_, ?_⟩ <;> omega) | (simp only [xr] at *; omega)) (by first | assumption | (refine ⟨?_, ?_⟩ <;> omega) | (simp only [xr] at *; omega))] at c4
    simp only [decide_eq_true_eq, decide_eq_false_iff_not, Decidable.not_not] at c4
    show xEx G0 cdX12_drop (some .int) (xRn G0 MT (d + 2)) Q b 7 [some (.inr (.inr 66)), some (.inl p), none] [.inr (.inr 66)] h
    refine E_s 4 (i' := 11) (ls' := [some (.inr (.inr 66)), some (.inl p), none]) (sk' := [.inl 1]) (h' := (xup h 66 0 1)) rfl ?_
    refine E_b (x := (.ifCond .le 5, 14, [], [])) rfl rfl (fun c11 => ?_) (fun c11 => ?_)
    · show xEx G0 cdX12_drop (some .int) (xRn G0 MT (d + 2)) Q b 14 [some (.inr (.inr 66)), some (.inl p), none] [] (xup h 66 0 1)
      exact absurd c11 (by decide)
    · show xEx G0 cdX12_drop (some .int) (xRn G0 MT (d + 2)) Q b 12 [some (.inr (.inr 66)), some (.inl p), none] [] (xup h 66 0 1)
      refine E_s 1 (i' := 13) (ls' := [some (.inr (.inr 66)), some (.inl p), none]) (sk' := [.inl 0]) (h' := (xup h 66 0 1)) rfl ?_
      exact E_ret (x := (.ireturn, 0, [], [])) (v := some (.inl 0)) rfl (Or.inl rfl) (h0 (by omega))
  · rw [c_eq (by first | assumption | (refine ⟨?_, ?_⟩ <;> omega) | (simp only [xr] at *; omega)) (by first | assumption | (refine ⟨?_, ?_⟩ <;> omega) | (simp only [xr] at *; omega))] at c4
    simp only [decide_eq_true_eq, decide_eq_false_iff_not, Decidable.not_not] at c4
    show xEx G0 cdX12_drop (some .int) (xRn G0 MT (d + 2)) Q b 5 [some (.inr (.inr 66)), some (.inl p), none] [.inr (.inr 66)] h
    refine E_s 5 (i' := 11) (ls' := [some (.inr (.inr 66)), some (.inl p), none]) (sk' := [.inl 0]) (h' := (xup h 66 0 0)) rfl ?_
    refine E_b (x := (.ifCond .le 5, 14, [], [])) rfl rfl (fun c11 => ?_) (fun c11 => ?_)
    · show xEx G0 cdX12_drop (some .int) (xRn G0 MT (d + 2)) Q b 14 [some (.inr (.inr 66)), some (.inl p), none] [] (xup h 66 0 0)
      refine E_s 4 (i' := 18) (ls' := [some (.inr (.inr 66)), some (.inl p), some (.inl (4 * p))]) (sk' := []) (h' := (xup h 66 0 0)) rfl ?_
      have key18 : ∀ (n : Nat) (hh : xH) (k : Int), (4 * p ≤ k) → (k ≤ 4 * h 66 4 - 4) → (∀ a, a ≠ 67 → hh a = xup h 66 0 0 a) → (∀ j, hh 67 j = if 4 * p ≤ j ∧ j < k then h 67 (j + 4) else h 67 j) → ((4 * h 66 4 - 4 - k).toNat) < n → xEx G0 cdX12_drop (some .int) (xRn G0 MT (d + 2)) Q b 18 [some (.inr (.inr 66)), some (.inl p), some (.inl k)] [] hh := by
        intro n
        induction n with
        | zero => intro hh k _ _ _ _ hm; exact absurd hm (Nat.not_lt_zero _)
        | succ n ih18 =>
          intro hh k hk0 hk9 hfr hz hm18
          have q9 : 0 ≤ p ∧ p < h 66 4 := by omega
          have e66 : hh 66 4 = h 66 4 := by rw [hfr 66 (by decide)]; rfl
          refine E_s 7 (i' := 25) (ls' := [some (.inr (.inr 66)), some (.inl p), some (.inl k)]) (sk' := [.inl ((4 * (hh 66 4)) - 4), .inl k]) (h' := hh) rfl ?_
          
          refine E_b (x := (.if_icmp .ge 23, 38, [], [])) rfl rfl (fun c25 => ?_) (fun c25 => ?_)
          · rw [c_ge (by first | assumption | (refine ⟨?_, ?_⟩ <;> omega) | (simp only [xr] at *; omega)) (by first | assumption | (refine ⟨?_, ?_⟩ <;> omega) | (simp only [xr] at *; omega))] at c25
            simp only [decide_eq_true_eq, decide_eq_false_iff_not, Decidable.not_not] at c25
            show xEx G0 cdX12_drop (some .int) (xRn G0 MT (d + 2)) Q b 38 [some (.inr (.inr 66)), some (.inl p), some (.inl k)] [] hh
            refine E_s 7 (i' := 45) (ls' := [some (.inr (.inr 66)), some (.inl p), some (.inl k)]) (sk' := [.inr (.inr 66)]) (h' := (xup hh 66 4 ((hh 66 4) - 1))) rfl ?_
            refine E_cv (x := (.invokevirtual 184, 0, [(10, 157)], [0])) (q := fun h9 => FGR (xup hh 66 4 ((hh 66 4) - 1)) h9) rfl rfl (Nat.le_of_ble_eq_true rfl) (m_goes (d + 1) 0 (xup hh 66 4 ((hh 66 4) - 1)) (fun h9 z => ⟨rfl, z⟩)) (fun hF2 hf => ?_)
            show xEx G0 cdX12_drop (some .int) (xRn G0 MT (d + 2)) Q b 46 [some (.inr (.inr 66)), some (.inl p), some (.inl k)] [] hF2
            refine E_s 2 (i' := 48) (ls' := [some (.inr (.inr 66)), some (.inl p), some (.inl k)]) (sk' := [.inl (hF2 66 4)]) (h' := hF2) rfl ?_
            exact E_ret (x := (.ireturn, 0, [], [])) (v := some (.inl (hF2 66 4))) rfl (Or.inl rfl) (h1 (by omega) _ _ ⟨hfr, fun j => by rw [hz j, show k = 4 * h 66 4 - 4 by omega]⟩ (by rw [e66] at hf; exact hf))
          · rw [c_ge (by first | assumption | (refine ⟨?_, ?_⟩ <;> omega) | (simp only [xr] at *; omega)) (by first | assumption | (refine ⟨?_, ?_⟩ <;> omega) | (simp only [xr] at *; omega))] at c25
            simp only [decide_eq_true_eq, decide_eq_false_iff_not, Decidable.not_not] at c25
            show xEx G0 cdX12_drop (some .int) (xRn G0 MT (d + 2)) Q b 26 [some (.inr (.inr 66)), some (.inl p), some (.inl k)] [] hh
            refine E_s 8 (i' := 34) (ls' := [some (.inr (.inr 66)), some (.inl p), some (.inl k)]) (sk' := [.inl (k + 4), .inr (.inr 67), .inl k, .inr (.inr 67)]) (h' := hh) rfl ?_
            refine E_ld (x := (.iaload, 0, [], [])) (ty := .int) (n := 48) rfl rfl rfl (by omega) (by omega) ?_
            show xEx G0 cdX12_drop (some .int) (xRn G0 MT (d + 2)) Q b 35 [some (.inr (.inr 66)), some (.inl p), some (.inl k)] [.inl (hh 67 (k + 4)), .inl k, .inr (.inr 67)] hh
            refine E_sd (x := (.iastore, 0, [], [])) (ty := .int) (n := 48) (y := (hh 67 (k + 4))) rfl rfl rfl (by omega) (by omega) (trivial) ?_
            show xEx G0 cdX12_drop (some .int) (xRn G0 MT (d + 2)) Q b 36 [some (.inr (.inr 66)), some (.inl p), some (.inl k)] [] (xup hh 67 k (hh 67 (k + 4)))
            refine E_s 2 (i' := 18) (ls' := [some (.inr (.inr 66)), some (.inl p), some (.inl (k + 1))]) (sk' := []) (h' := (xup hh 67 k (hh 67 (k + 4)))) rfl ?_
            exact ih18 _ (k + 1) (by omega) (by omega) (fun a ha => by rw [xup_o _ _ _ _ a ha]; exact hfr a ha) (fun j => by
              by_cases e : j = k
              · subst e
                rw [xup_s, if_pos (by omega), hz, if_neg (by omega)]
              · rw [xup_j e, hz]
                by_cases e2 : 4 * p ≤ j ∧ j < k
                · rw [if_pos e2, if_pos (by omega)]
                · rw [if_neg e2, if_neg (by omega)]) (by omega)
      exact key18 _ (xup h 66 0 0) (4 * p) (by omega) (by omega) (fun _ _ => rfl) (fun j => by rw [if_neg (by omega)]; rfl) (Nat.lt_succ_self _)
    · show xEx G0 cdX12_drop (some .int) (xRn G0 MT (d + 2)) Q b 12 [some (.inr (.inr 66)), some (.inl p), none] [] (xup h 66 0 0)
      exact absurd c11 (by decide)
set_option maxHeartbeats 1000000 in
theorem o_part (d  : Nat) (h : xH) (p m : Int) (hp : xr p) (hm : m = 0 ∨ m = 1) (hk : KOK h) {Q : xO → xH → Prop} (h1 : 0 ≤ p ∧ p ≤ 9 → ∀ r v h', ((r = 0 ∧ (xand (xshr (h 7 2) p) 1 = 1 ↔ m = 1)) ∨ (r = 1 ∧ ¬ (xand (xshr (h 7 2) p) 1 = 1 ↔ m = 1))) → v = (if m = 0 then xand (h 7 2) (xxor (xshl 1 p) (-1)) else xor_ (h 7 2) (xshl 1 p)) → FGC (xup h 7 2 v) h' → Q (.inl (some (.inl r))) h') (h0 : ¬ (0 ≤ p ∧ p ≤ 9) → Q (.inr "java/lang/IllegalArgumentException") h) : xRn G0 MT (d + 6) 1 100 [.inr (.inr 0), .inl p, .inl m] h Q := by
  refine R_of (M := mX11_part) rfl (Nat.le_of_ble_eq_true rfl) ?_
  show xEx G0 cdX11_part (some .boolean) (xRn G0 MT (d + 5)) Q 1 0 [some (.inr (.inr 0)), some (.inl p), some (.inl m), none] [] h
  refine E_s 1 (i' := 1) (ls' := [some (.inr (.inr 0)), some (.inl p), some (.inl m), none]) (sk' := [.inl p]) (h' := h) rfl ?_
  refine E_cx (x := (.invokestatic 122, 1, [(0, 150)], [])) (b1 := 1) (b2 := 0) (v := none) (q := fun h9 => (0 ≤ p ∧ p ≤ 9) ∧ h = h9) rfl rfl (Nat.le_of_ble_eq_true rfl) (fun z => by cases z) (c_refNoPart (d + 4) h p hp (fun z => Or.inl ⟨rfl, z, rfl⟩) (fun z => Or.inr ⟨_, rfl, h0 z⟩)) (fun h9 hq9 => ?_)
  obtain ⟨q1, rfl⟩ := hq9
  show xEx G0 cdX11_part (some .boolean) (xRn G0 MT (d + 5)) Q 0 2 [some (.inr (.inr 0)), some (.inl p), some (.inl m), none] [] h
  refine E_s 3 (i' := 5) (ls' := [some (.inr (.inr 0)), some (.inl p), some (.inl m), none]) (sk' := [.inl p, .inr (.inr 7)]) (h' := h) rfl ?_
  refine E_ci (x := (.invokevirtual 125, 1, [(6, 73)], [0])) (r := (if xand (xshr (h 7 2) p) 1 = 1 then 1 else 0)) (h' := h) rfl rfl (Nat.le_of_ble_eq_true rfl) (c_mayUse (d + 4) 0 h p ⟨rfl, rfl⟩) ?_
  show xEx G0 cdX11_part (some .boolean) (xRn G0 MT (d + 5)) Q 0 6 [some (.inr (.inr 0)), some (.inl p), some (.inl m), none] [.inl (if xand (xshr (h 7 2) p) 1 = 1 then 1 else 0)] h
  refine E_s 1 (i' := 7) (ls' := [some (.inr (.inr 0)), some (.inl p), some (.inl m), none]) (sk' := [.inl m, .inl (if xand (xshr (h 7 2) p) 1 = 1 then 1 else 0)]) (h' := h) rfl ?_
  refine E_b (x := (.if_icmp .eq 7, 10, [], [])) rfl rfl (fun c7 => ?_) (fun c7 => ?_)
  · rw [c_eq (by first | (split <;> exact ⟨by omega, by omega⟩) | (rcases hm with e | e <;> rw [e] <;> exact ⟨by omega, by omega⟩)) (by first | (split <;> exact ⟨by omega, by omega⟩) | (rcases hm with e | e <;> rw [e] <;> exact ⟨by omega, by omega⟩))] at c7
    simp only [decide_eq_true_eq, decide_eq_false_iff_not, Decidable.not_not] at c7
    show xEx G0 cdX11_part (some .boolean) (xRn G0 MT (d + 5)) Q 0 10 [some (.inr (.inr 0)), some (.inl p), some (.inl m), none] [] h
    refine E_s 5 (i' := 15) (ls' := [some (.inr (.inr 0)), some (.inl p), some (.inl m), some (.inl 0)]) (sk' := [.inl m, .inr (.inr 7)]) (h' := h) rfl ?_
    refine E_b (x := (.ifCond .eq 17, 24, [], [])) rfl rfl (fun c15 => ?_) (fun c15 => ?_)
    · rw [c_eq (by rcases hm with e | e <;> (try rw [e]) <;> exact ⟨by omega, by omega⟩) (by rcases hm with e | e <;> (try rw [e]) <;> exact ⟨by omega, by omega⟩)] at c15
      simp only [decide_eq_true_eq, decide_eq_false_iff_not, Decidable.not_not] at c15
      show xEx G0 cdX11_part (some .boolean) (xRn G0 MT (d + 5)) Q 0 24 [some (.inr (.inr 0)), some (.inl p), some (.inl m), some (.inl 0)] [.inr (.inr 7)] h
      refine E_s 11 (i' := 35) (ls' := [some (.inr (.inr 0)), some (.inl p), some (.inl m), some (.inl 0)]) (sk' := [.inr (.inr 0)]) (h' := (xup h 7 2 (xand (h 7 2) (xxor (xshl 1 p) (-1))))) rfl ?_
      have hk9 : KOK (xup h 7 2 (xand (h 7 2) (xxor (xshl 1 p) (-1)))) := KOK_of (up9 (by decide)) hk
      refine E_cv (x := (.invokevirtual 93, 0, [(9, 140)], [0])) (q := fun h9 => FGC (xup h 7 2 (xand (h 7 2) (xxor (xshl 1 p) (-1)))) h9) rfl rfl (Nat.le_of_ble_eq_true rfl) (c_forgetAll d 0 (xup h 7 2 (xand (h 7 2) (xxor (xshl 1 p) (-1)))) hk9.1 hk9.2.1 hk9.2.2.1 hk9.2.2.2 (fun h9 z => ⟨rfl, z⟩)) (fun hF1 hf => ?_)
      show xEx G0 cdX11_part (some .boolean) (xRn G0 MT (d + 5)) Q 0 36 [some (.inr (.inr 0)), some (.inl p), some (.inl m), some (.inl 0)] [] hF1
      refine E_s 1 (i' := 37) (ls' := [some (.inr (.inr 0)), some (.inl p), some (.inl m), some (.inl 0)]) (sk' := [.inl 0]) (h' := hF1) rfl ?_
      exact E_ret (x := (.ireturn, 0, [], [])) (v := some (.inl 0)) rfl (Or.inr ⟨rfl, by omega⟩) (h1 q1 _ _ _ (by
        by_cases e : xand (xshr (h 7 2) p) 1 = 1
        · rw [if_pos e] at c7
          simp only [e, true_iff, true_and]
          omega
        · rw [if_neg e] at c7
          simp only [e, false_iff, true_and]
          omega) (by first | rw [if_pos c15] | rw [if_neg c15]) hf)
    · rw [c_eq (by rcases hm with e | e <;> (try rw [e]) <;> exact ⟨by omega, by omega⟩) (by rcases hm with e | e <;> (try rw [e]) <;> exact ⟨by omega, by omega⟩)] at c15
      simp only [decide_eq_true_eq, decide_eq_false_iff_not, Decidable.not_not] at c15
      show xEx G0 cdX11_part (some .boolean) (xRn G0 MT (d + 5)) Q 0 16 [some (.inr (.inr 0)), some (.inl p), some (.inl m), some (.inl 0)] [.inr (.inr 7)] h
      refine E_s 10 (i' := 35) (ls' := [some (.inr (.inr 0)), some (.inl p), some (.inl m), some (.inl 0)]) (sk' := [.inr (.inr 0)]) (h' := (xup h 7 2 (xor_ (h 7 2) (xshl 1 p)))) rfl ?_
      have hk9 : KOK (xup h 7 2 (xor_ (h 7 2) (xshl 1 p))) := KOK_of (up9 (by decide)) hk
      refine E_cv (x := (.invokevirtual 93, 0, [(9, 140)], [0])) (q := fun h9 => FGC (xup h 7 2 (xor_ (h 7 2) (xshl 1 p))) h9) rfl rfl (Nat.le_of_ble_eq_true rfl) (c_forgetAll d 0 (xup h 7 2 (xor_ (h 7 2) (xshl 1 p))) hk9.1 hk9.2.1 hk9.2.2.1 hk9.2.2.2 (fun h9 z => ⟨rfl, z⟩)) (fun hF1 hf => ?_)
      show xEx G0 cdX11_part (some .boolean) (xRn G0 MT (d + 5)) Q 0 36 [some (.inr (.inr 0)), some (.inl p), some (.inl m), some (.inl 0)] [] hF1
      refine E_s 1 (i' := 37) (ls' := [some (.inr (.inr 0)), some (.inl p), some (.inl m), some (.inl 0)]) (sk' := [.inl 0]) (h' := hF1) rfl ?_
      exact E_ret (x := (.ireturn, 0, [], [])) (v := some (.inl 0)) rfl (Or.inr ⟨rfl, by omega⟩) (h1 q1 _ _ _ (by
        by_cases e : xand (xshr (h 7 2) p) 1 = 1
        · rw [if_pos e] at c7
          simp only [e, true_iff, true_and]
          omega
        · rw [if_neg e] at c7
          simp only [e, false_iff, true_and]
          omega) (by first | rw [if_pos c15] | rw [if_neg c15]) hf)
  · rw [c_eq (by first | (split <;> exact ⟨by omega, by omega⟩) | (rcases hm with e | e <;> rw [e] <;> exact ⟨by omega, by omega⟩)) (by first | (split <;> exact ⟨by omega, by omega⟩) | (rcases hm with e | e <;> rw [e] <;> exact ⟨by omega, by omega⟩))] at c7
    simp only [decide_eq_true_eq, decide_eq_false_iff_not, Decidable.not_not] at c7
    show xEx G0 cdX11_part (some .boolean) (xRn G0 MT (d + 5)) Q 0 8 [some (.inr (.inr 0)), some (.inl p), some (.inl m), none] [] h
    refine E_s 6 (i' := 15) (ls' := [some (.inr (.inr 0)), some (.inl p), some (.inl m), some (.inl 1)]) (sk' := [.inl m, .inr (.inr 7)]) (h' := h) rfl ?_
    refine E_b (x := (.ifCond .eq 17, 24, [], [])) rfl rfl (fun c15 => ?_) (fun c15 => ?_)
    · rw [c_eq (by rcases hm with e | e <;> (try rw [e]) <;> exact ⟨by omega, by omega⟩) (by rcases hm with e | e <;> (try rw [e]) <;> exact ⟨by omega, by omega⟩)] at c15
      simp only [decide_eq_true_eq, decide_eq_false_iff_not, Decidable.not_not] at c15
      show xEx G0 cdX11_part (some .boolean) (xRn G0 MT (d + 5)) Q 0 24 [some (.inr (.inr 0)), some (.inl p), some (.inl m), some (.inl 1)] [.inr (.inr 7)] h
      refine E_s 11 (i' := 35) (ls' := [some (.inr (.inr 0)), some (.inl p), some (.inl m), some (.inl 1)]) (sk' := [.inr (.inr 0)]) (h' := (xup h 7 2 (xand (h 7 2) (xxor (xshl 1 p) (-1))))) rfl ?_
      have hk9 : KOK (xup h 7 2 (xand (h 7 2) (xxor (xshl 1 p) (-1)))) := KOK_of (up9 (by decide)) hk
      refine E_cv (x := (.invokevirtual 93, 0, [(9, 140)], [0])) (q := fun h9 => FGC (xup h 7 2 (xand (h 7 2) (xxor (xshl 1 p) (-1)))) h9) rfl rfl (Nat.le_of_ble_eq_true rfl) (c_forgetAll d 0 (xup h 7 2 (xand (h 7 2) (xxor (xshl 1 p) (-1)))) hk9.1 hk9.2.1 hk9.2.2.1 hk9.2.2.2 (fun h9 z => ⟨rfl, z⟩)) (fun hF1 hf => ?_)
      show xEx G0 cdX11_part (some .boolean) (xRn G0 MT (d + 5)) Q 0 36 [some (.inr (.inr 0)), some (.inl p), some (.inl m), some (.inl 1)] [] hF1
      refine E_s 1 (i' := 37) (ls' := [some (.inr (.inr 0)), some (.inl p), some (.inl m), some (.inl 1)]) (sk' := [.inl 1]) (h' := hF1) rfl ?_
      exact E_ret (x := (.ireturn, 0, [], [])) (v := some (.inl 1)) rfl (Or.inr ⟨rfl, by omega⟩) (h1 q1 _ _ _ (by
        by_cases e : xand (xshr (h 7 2) p) 1 = 1
        · rw [if_pos e] at c7
          simp only [e, true_iff, true_and]
          omega
        · rw [if_neg e] at c7
          simp only [e, false_iff, true_and]
          omega) (by first | rw [if_pos c15] | rw [if_neg c15]) hf)
    · rw [c_eq (by rcases hm with e | e <;> (try rw [e]) <;> exact ⟨by omega, by omega⟩) (by rcases hm with e | e <;> (try rw [e]) <;> exact ⟨by omega, by omega⟩)] at c15
      simp only [decide_eq_true_eq, decide_eq_false_iff_not, Decidable.not_not] at c15
      show xEx G0 cdX11_part (some .boolean) (xRn G0 MT (d + 5)) Q 0 16 [some (.inr (.inr 0)), some (.inl p), some (.inl m), some (.inl 1)] [.inr (.inr 7)] h
      refine E_s 10 (i' := 35) (ls' := [some (.inr (.inr 0)), some (.inl p), some (.inl m), some (.inl 1)]) (sk' := [.inr (.inr 0)]) (h' := (xup h 7 2 (xor_ (h 7 2) (xshl 1 p)))) rfl ?_
      have hk9 : KOK (xup h 7 2 (xor_ (h 7 2) (xshl 1 p))) := KOK_of (up9 (by decide)) hk
      refine E_cv (x := (.invokevirtual 93, 0, [(9, 140)], [0])) (q := fun h9 => FGC (xup h 7 2 (xor_ (h 7 2) (xshl 1 p))) h9) rfl rfl (Nat.le_of_ble_eq_true rfl) (c_forgetAll d 0 (xup h 7 2 (xor_ (h 7 2) (xshl 1 p))) hk9.1 hk9.2.1 hk9.2.2.1 hk9.2.2.2 (fun h9 z => ⟨rfl, z⟩)) (fun hF1 hf => ?_)
      show xEx G0 cdX11_part (some .boolean) (xRn G0 MT (d + 5)) Q 0 36 [some (.inr (.inr 0)), some (.inl p), some (.inl m), some (.inl 1)] [] hF1
      refine E_s 1 (i' := 37) (ls' := [some (.inr (.inr 0)), some (.inl p), some (.inl m), some (.inl 1)]) (sk' := [.inl 1]) (h' := hF1) rfl ?_
      exact E_ret (x := (.ireturn, 0, [], [])) (v := some (.inl 1)) rfl (Or.inr ⟨rfl, by omega⟩) (h1 q1 _ _ _ (by
        by_cases e : xand (xshr (h 7 2) p) 1 = 1
        · rw [if_pos e] at c7
          simp only [e, true_iff, true_and]
          omega
        · rw [if_neg e] at c7
          simp only [e, false_iff, true_and]
          omega) (by first | rw [if_pos c15] | rw [if_neg c15]) hf)
set_option maxHeartbeats 1000000 in
theorem m_part (d b : Nat) (h : xH) (p m : Int) (hp : xr p) (hm : m = 0 ∨ m = 1) {Q : xO → xH → Prop} (h1 : 0 ≤ p ∧ p ≤ 9 → ∀ r v h', ((r = 0 ∧ (xand (xshr (h 66 3) p) 1 = 1 ↔ m = 1)) ∨ (r = 1 ∧ ¬ (xand (xshr (h 66 3) p) 1 = 1 ↔ m = 1))) → v = (if m = 0 then xand (h 66 3) (xxor (xshl 1 p) (-1)) else xor_ (h 66 3) (xshl 1 p)) → FGR (xup (xup h 66 0 0) 66 3 v) h' → Q (.inl (some (.inl r))) h') (h0 : ¬ (0 ≤ p ∧ p ≤ 9) → Q (.inl (some (.inl 0))) (xup h 66 0 1)) : xRn G0 MT (d + 3) b 165 [.inr (.inr 66), .inl p, .inl m] h Q := by
  refine R_of (M := mX12_part) rfl (Nat.le_of_ble_eq_true rfl) ?_
  show xEx G0 cdX12_part (some .boolean) (xRn G0 MT (d + 2)) Q b 0 [some (.inr (.inr 66)), some (.inl p), some (.inl m), none] [] h
  refine E_s 2 (i' := 2) (ls' := [some (.inr (.inr 66)), some (.inl p), some (.inl m), none]) (sk' := [.inl p, .inr (.inr 66)]) (h' := h) rfl ?_
  refine E_cp (x := (.invokestatic 197, 1, [(0, 164)], [])) (q := fun r h9 => ((r = 1 ∧ (0 ≤ p ∧ p ≤ 9)) ∨ (r = 0 ∧ ¬ (0 ≤ p ∧ p ≤ 9))) ∧ h = h9) rfl rfl (Nat.le_of_ble_eq_true rfl) (m_isPart d 0 h p hp (fun z => ⟨_, rfl, Or.inl ⟨rfl, z⟩, rfl⟩) (fun z => ⟨_, rfl, Or.inr ⟨rfl, z⟩, rfl⟩)) (fun r h9 q1 => ?_)
  obtain ⟨q1, rfl⟩ := q1
  show xEx G0 cdX12_part (some .boolean) (xRn G0 MT (d + 2)) Q b 3 [some (.inr (.inr 66)), some (.inl p), some (.inl m), none] [.inl r, .inr (.inr 66)] h
  refine E_b (x := (.ifCond .eq 7, 6, [], [])) rfl rfl (fun c3 => ?_) (fun c3 => ?_)
  · rw [c_eq (by first | assumption | (refine ⟨?_, ?_⟩ <;> omega) | (simp only [xr] at *; omega)) (by first | assumption | (refine ⟨?_, ?_⟩ <;> omega) | (simp only [xr] at *; omega))] at c3
    simp only [decide_eq_true_eq, decide_eq_false_iff_not, Decidable.not_not] at c3
    show xEx G0 cdX12_part (some .boolean) (xRn G0 MT (d + 2)) Q b 6 [some (.inr (.inr 66)), some (.inl p), some (.inl m), none] [.inr (.inr 66)] h
    refine E_s 4 (i' := 10) (ls' := [some (.inr (.inr 66)), some (.inl p), some (.inl m), none]) (sk' := [.inl 1]) (h' := (xup h 66 0 1)) rfl ?_
    refine E_b (x := (.ifCond .le 5, 13, [], [])) rfl rfl (fun c10 => ?_) (fun c10 => ?_)
    · show xEx G0 cdX12_part (some .boolean) (xRn G0 MT (d + 2)) Q b 13 [some (.inr (.inr 66)), some (.inl p), some (.inl m), none] [] (xup h 66 0 1)
      exact absurd c10 (by decide)
    · show xEx G0 cdX12_part (some .boolean) (xRn G0 MT (d + 2)) Q b 11 [some (.inr (.inr 66)), some (.inl p), some (.inl m), none] [] (xup h 66 0 1)
      refine E_s 1 (i' := 12) (ls' := [some (.inr (.inr 66)), some (.inl p), some (.inl m), none]) (sk' := [.inl 0]) (h' := (xup h 66 0 1)) rfl ?_
      exact E_ret (x := (.ireturn, 0, [], [])) (v := some (.inl 0)) rfl (Or.inr ⟨rfl, by omega⟩) (h0 (by omega))
  · rw [c_eq (by first | assumption | (refine ⟨?_, ?_⟩ <;> omega) | (simp only [xr] at *; omega)) (by first | assumption | (refine ⟨?_, ?_⟩ <;> omega) | (simp only [xr] at *; omega))] at c3
    simp only [decide_eq_true_eq, decide_eq_false_iff_not, Decidable.not_not] at c3
    show xEx G0 cdX12_part (some .boolean) (xRn G0 MT (d + 2)) Q b 4 [some (.inr (.inr 66)), some (.inl p), some (.inl m), none] [.inr (.inr 66)] h
    refine E_s 5 (i' := 10) (ls' := [some (.inr (.inr 66)), some (.inl p), some (.inl m), none]) (sk' := [.inl 0]) (h' := (xup h 66 0 0)) rfl ?_
    refine E_b (x := (.ifCond .le 5, 13, [], [])) rfl rfl (fun c10 => ?_) (fun c10 => ?_)
    · show xEx G0 cdX12_part (some .boolean) (xRn G0 MT (d + 2)) Q b 13 [some (.inr (.inr 66)), some (.inl p), some (.inl m), none] [] (xup h 66 0 0)
      refine E_s 7 (i' := 20) (ls' := [some (.inr (.inr 66)), some (.inl p), some (.inl m), none]) (sk' := [.inl 1, .inl (xand (xshr (h 66 3) p) 1)]) (h' := (xup h 66 0 0)) rfl ?_
      refine E_b (x := (.if_icmp .ne 7, 23, [], [])) rfl rfl (fun c20 => ?_) (fun c20 => ?_)
      · rw [c_ne (by first | exact xand_r _ _ | exact ⟨by omega, by omega⟩) (by first | exact xand_r _ _ | exact ⟨by omega, by omega⟩)] at c20
        simp only [decide_eq_true_eq, decide_eq_false_iff_not, Decidable.not_not] at c20
        show xEx G0 cdX12_part (some .boolean) (xRn G0 MT (d + 2)) Q b 23 [some (.inr (.inr 66)), some (.inl p), some (.inl m), none] [] (xup h 66 0 0)
        refine E_s 4 (i' := 27) (ls' := [some (.inr (.inr 66)), some (.inl p), some (.inl m), some (.inl 0)]) (sk' := [.inl m, .inr (.inr 66)]) (h' := (xup h 66 0 0)) rfl ?_
        refine E_b (x := (.ifCond .eq 14, 35, [], [])) rfl rfl (fun c27 => ?_) (fun c27 => ?_)
        · rw [c_eq (by rcases hm with e | e <;> (try rw [e]) <;> exact ⟨by omega, by omega⟩) (by rcases hm with e | e <;> (try rw [e]) <;> exact ⟨by omega, by omega⟩)] at c27
          simp only [decide_eq_true_eq, decide_eq_false_iff_not, Decidable.not_not] at c27
          show xEx G0 cdX12_part (some .boolean) (xRn G0 MT (d + 2)) Q b 35 [some (.inr (.inr 66)), some (.inl p), some (.inl m), some (.inl 0)] [.inr (.inr 66)] (xup h 66 0 0)
          refine E_s 10 (i' := 45) (ls' := [some (.inr (.inr 66)), some (.inl p), some (.inl m), some (.inl 0)]) (sk' := [.inr (.inr 66)]) (h' := (xup (xup h 66 0 0) 66 3 (xand (h 66 3) (xxor (xshl 1 p) (-1))))) rfl ?_
          refine E_cv (x := (.invokevirtual 184, 0, [(10, 157)], [0])) (q := fun h9 => FGR (xup (xup h 66 0 0) 66 3 (xand (h 66 3) (xxor (xshl 1 p) (-1)))) h9) rfl rfl (Nat.le_of_ble_eq_true rfl) (m_goes (d + 1) 0 (xup (xup h 66 0 0) 66 3 (xand (h 66 3) (xxor (xshl 1 p) (-1)))) (fun h9 z => ⟨rfl, z⟩)) (fun hF2 hf => ?_)
          show xEx G0 cdX12_part (some .boolean) (xRn G0 MT (d + 2)) Q b 46 [some (.inr (.inr 66)), some (.inl p), some (.inl m), some (.inl 0)] [] hF2
          refine E_s 2 (i' := 48) (ls' := [some (.inr (.inr 66)), some (.inl p), some (.inl m), some (.inl 0)]) (sk' := [.inl m, .inl 0]) (h' := hF2) rfl ?_
          refine E_b (x := (.if_icmp .eq 7, 51, [], [])) rfl rfl (fun c48 => ?_) (fun c48 => ?_)
          · rw [c_eq (by first | exact ⟨by omega, by omega⟩ | (rcases hm with e | e <;> rw [e] <;> exact ⟨by omega, by omega⟩)) (by first | exact ⟨by omega, by omega⟩ | (rcases hm with e | e <;> rw [e] <;> exact ⟨by omega, by omega⟩))] at c48
            simp only [decide_eq_true_eq, decide_eq_false_iff_not, Decidable.not_not] at c48
            show xEx G0 cdX12_part (some .boolean) (xRn G0 MT (d + 2)) Q b 51 [some (.inr (.inr 66)), some (.inl p), some (.inl m), some (.inl 0)] [] hF2
            refine E_s 1 (i' := 52) (ls' := [some (.inr (.inr 66)), some (.inl p), some (.inl m), some (.inl 0)]) (sk' := [.inl 0]) (h' := hF2) rfl ?_
            exact E_ret (x := (.ireturn, 0, [], [])) (v := some (.inl 0)) rfl (Or.inr ⟨rfl, by omega⟩) (h1 (by omega) _ _ _ (by omega) (by first | rw [if_pos c27] | rw [if_neg c27]) hf)
          · rw [c_eq (by first | exact ⟨by omega, by omega⟩ | (rcases hm with e | e <;> rw [e] <;> exact ⟨by omega, by omega⟩)) (by first | exact ⟨by omega, by omega⟩ | (rcases hm with e | e <;> rw [e] <;> exact ⟨by omega, by omega⟩))] at c48
            simp only [decide_eq_true_eq, decide_eq_false_iff_not, Decidable.not_not] at c48
            show xEx G0 cdX12_part (some .boolean) (xRn G0 MT (d + 2)) Q b 49 [some (.inr (.inr 66)), some (.inl p), some (.inl m), some (.inl 0)] [] hF2
            refine E_s 2 (i' := 52) (ls' := [some (.inr (.inr 66)), some (.inl p), some (.inl m), some (.inl 0)]) (sk' := [.inl 1]) (h' := hF2) rfl ?_
            exact E_ret (x := (.ireturn, 0, [], [])) (v := some (.inl 1)) rfl (Or.inr ⟨rfl, by omega⟩) (h1 (by omega) _ _ _ (by omega) (by first | rw [if_pos c27] | rw [if_neg c27]) hf)
        · rw [c_eq (by rcases hm with e | e <;> (try rw [e]) <;> exact ⟨by omega, by omega⟩) (by rcases hm with e | e <;> (try rw [e]) <;> exact ⟨by omega, by omega⟩)] at c27
          simp only [decide_eq_true_eq, decide_eq_false_iff_not, Decidable.not_not] at c27
          show xEx G0 cdX12_part (some .boolean) (xRn G0 MT (d + 2)) Q b 28 [some (.inr (.inr 66)), some (.inl p), some (.inl m), some (.inl 0)] [.inr (.inr 66)] (xup h 66 0 0)
          refine E_s 9 (i' := 45) (ls' := [some (.inr (.inr 66)), some (.inl p), some (.inl m), some (.inl 0)]) (sk' := [.inr (.inr 66)]) (h' := (xup (xup h 66 0 0) 66 3 (xor_ (h 66 3) (xshl 1 p)))) rfl ?_
          refine E_cv (x := (.invokevirtual 184, 0, [(10, 157)], [0])) (q := fun h9 => FGR (xup (xup h 66 0 0) 66 3 (xor_ (h 66 3) (xshl 1 p))) h9) rfl rfl (Nat.le_of_ble_eq_true rfl) (m_goes (d + 1) 0 (xup (xup h 66 0 0) 66 3 (xor_ (h 66 3) (xshl 1 p))) (fun h9 z => ⟨rfl, z⟩)) (fun hF2 hf => ?_)
          show xEx G0 cdX12_part (some .boolean) (xRn G0 MT (d + 2)) Q b 46 [some (.inr (.inr 66)), some (.inl p), some (.inl m), some (.inl 0)] [] hF2
          refine E_s 2 (i' := 48) (ls' := [some (.inr (.inr 66)), some (.inl p), some (.inl m), some (.inl 0)]) (sk' := [.inl m, .inl 0]) (h' := hF2) rfl ?_
          refine E_b (x := (.if_icmp .eq 7, 51, [], [])) rfl rfl (fun c48 => ?_) (fun c48 => ?_)
          · rw [c_eq (by first | exact ⟨by omega, by omega⟩ | (rcases hm with e | e <;> rw [e] <;> exact ⟨by omega, by omega⟩)) (by first | exact ⟨by omega, by omega⟩ | (rcases hm with e | e <;> rw [e] <;> exact ⟨by omega, by omega⟩))] at c48
            simp only [decide_eq_true_eq, decide_eq_false_iff_not, Decidable.not_not] at c48
            show xEx G0 cdX12_part (some .boolean) (xRn G0 MT (d + 2)) Q b 51 [some (.inr (.inr 66)), some (.inl p), some (.inl m), some (.inl 0)] [] hF2
            refine E_s 1 (i' := 52) (ls' := [some (.inr (.inr 66)), some (.inl p), some (.inl m), some (.inl 0)]) (sk' := [.inl 0]) (h' := hF2) rfl ?_
            exact E_ret (x := (.ireturn, 0, [], [])) (v := some (.inl 0)) rfl (Or.inr ⟨rfl, by omega⟩) (h1 (by omega) _ _ _ (by omega) (by first | rw [if_pos c27] | rw [if_neg c27]) hf)
          · rw [c_eq (by first | exact ⟨by omega, by omega⟩ | (rcases hm with e | e <;> rw [e] <;> exact ⟨by omega, by omega⟩)) (by first | exact ⟨by omega, by omega⟩ | (rcases hm with e | e <;> rw [e] <;> exact ⟨by omega, by omega⟩))] at c48
            simp only [decide_eq_true_eq, decide_eq_false_iff_not, Decidable.not_not] at c48
            show xEx G0 cdX12_part (some .boolean) (xRn G0 MT (d + 2)) Q b 49 [some (.inr (.inr 66)), some (.inl p), some (.inl m), some (.inl 0)] [] hF2
            refine E_s 2 (i' := 52) (ls' := [some (.inr (.inr 66)), some (.inl p), some (.inl m), some (.inl 0)]) (sk' := [.inl 1]) (h' := hF2) rfl ?_
            exact E_ret (x := (.ireturn, 0, [], [])) (v := some (.inl 1)) rfl (Or.inr ⟨rfl, by omega⟩) (h1 (by omega) _ _ _ (by omega) (by first | rw [if_pos c27] | rw [if_neg c27]) hf)
      · rw [c_ne (by first | exact xand_r _ _ | exact ⟨by omega, by omega⟩) (by first | exact xand_r _ _ | exact ⟨by omega, by omega⟩)] at c20
        simp only [decide_eq_true_eq, decide_eq_false_iff_not, Decidable.not_not] at c20
        show xEx G0 cdX12_part (some .boolean) (xRn G0 MT (d + 2)) Q b 21 [some (.inr (.inr 66)), some (.inl p), some (.inl m), none] [] (xup h 66 0 0)
        refine E_s 5 (i' := 27) (ls' := [some (.inr (.inr 66)), some (.inl p), some (.inl m), some (.inl 1)]) (sk' := [.inl m, .inr (.inr 66)]) (h' := (xup h 66 0 0)) rfl ?_
        refine E_b (x := (.ifCond .eq 14, 35, [], [])) rfl rfl (fun c27 => ?_) (fun c27 => ?_)
        · rw [c_eq (by rcases hm with e | e <;> (try rw [e]) <;> exact ⟨by omega, by omega⟩) (by rcases hm with e | e <;> (try rw [e]) <;> exact ⟨by omega, by omega⟩)] at c27
          simp only [decide_eq_true_eq, decide_eq_false_iff_not, Decidable.not_not] at c27
          show xEx G0 cdX12_part (some .boolean) (xRn G0 MT (d + 2)) Q b 35 [some (.inr (.inr 66)), some (.inl p), some (.inl m), some (.inl 1)] [.inr (.inr 66)] (xup h 66 0 0)
          refine E_s 10 (i' := 45) (ls' := [some (.inr (.inr 66)), some (.inl p), some (.inl m), some (.inl 1)]) (sk' := [.inr (.inr 66)]) (h' := (xup (xup h 66 0 0) 66 3 (xand (h 66 3) (xxor (xshl 1 p) (-1))))) rfl ?_
          refine E_cv (x := (.invokevirtual 184, 0, [(10, 157)], [0])) (q := fun h9 => FGR (xup (xup h 66 0 0) 66 3 (xand (h 66 3) (xxor (xshl 1 p) (-1)))) h9) rfl rfl (Nat.le_of_ble_eq_true rfl) (m_goes (d + 1) 0 (xup (xup h 66 0 0) 66 3 (xand (h 66 3) (xxor (xshl 1 p) (-1)))) (fun h9 z => ⟨rfl, z⟩)) (fun hF2 hf => ?_)
          show xEx G0 cdX12_part (some .boolean) (xRn G0 MT (d + 2)) Q b 46 [some (.inr (.inr 66)), some (.inl p), some (.inl m), some (.inl 1)] [] hF2
          refine E_s 2 (i' := 48) (ls' := [some (.inr (.inr 66)), some (.inl p), some (.inl m), some (.inl 1)]) (sk' := [.inl m, .inl 1]) (h' := hF2) rfl ?_
          refine E_b (x := (.if_icmp .eq 7, 51, [], [])) rfl rfl (fun c48 => ?_) (fun c48 => ?_)
          · rw [c_eq (by first | exact ⟨by omega, by omega⟩ | (rcases hm with e | e <;> rw [e] <;> exact ⟨by omega, by omega⟩)) (by first | exact ⟨by omega, by omega⟩ | (rcases hm with e | e <;> rw [e] <;> exact ⟨by omega, by omega⟩))] at c48
            simp only [decide_eq_true_eq, decide_eq_false_iff_not, Decidable.not_not] at c48
            show xEx G0 cdX12_part (some .boolean) (xRn G0 MT (d + 2)) Q b 51 [some (.inr (.inr 66)), some (.inl p), some (.inl m), some (.inl 1)] [] hF2
            refine E_s 1 (i' := 52) (ls' := [some (.inr (.inr 66)), some (.inl p), some (.inl m), some (.inl 1)]) (sk' := [.inl 0]) (h' := hF2) rfl ?_
            exact E_ret (x := (.ireturn, 0, [], [])) (v := some (.inl 0)) rfl (Or.inr ⟨rfl, by omega⟩) (h1 (by omega) _ _ _ (by omega) (by first | rw [if_pos c27] | rw [if_neg c27]) hf)
          · rw [c_eq (by first | exact ⟨by omega, by omega⟩ | (rcases hm with e | e <;> rw [e] <;> exact ⟨by omega, by omega⟩)) (by first | exact ⟨by omega, by omega⟩ | (rcases hm with e | e <;> rw [e] <;> exact ⟨by omega, by omega⟩))] at c48
            simp only [decide_eq_true_eq, decide_eq_false_iff_not, Decidable.not_not] at c48
            show xEx G0 cdX12_part (some .boolean) (xRn G0 MT (d + 2)) Q b 49 [some (.inr (.inr 66)), some (.inl p), some (.inl m), some (.inl 1)] [] hF2
            refine E_s 2 (i' := 52) (ls' := [some (.inr (.inr 66)), some (.inl p), some (.inl m), some (.inl 1)]) (sk' := [.inl 1]) (h' := hF2) rfl ?_
            exact E_ret (x := (.ireturn, 0, [], [])) (v := some (.inl 1)) rfl (Or.inr ⟨rfl, by omega⟩) (h1 (by omega) _ _ _ (by omega) (by first | rw [if_pos c27] | rw [if_neg c27]) hf)
        · rw [c_eq (by rcases hm with e | e <;> (try rw [e]) <;> exact ⟨by omega, by omega⟩) (by rcases hm with e | e <;> (try rw [e]) <;> exact ⟨by omega, by omega⟩)] at c27
          simp only [decide_eq_true_eq, decide_eq_false_iff_not, Decidable.not_not] at c27
          show xEx G0 cdX12_part (some .boolean) (xRn G0 MT (d + 2)) Q b 28 [some (.inr (.inr 66)), some (.inl p), some (.inl m), some (.inl 1)] [.inr (.inr 66)] (xup h 66 0 0)
          refine E_s 9 (i' := 45) (ls' := [some (.inr (.inr 66)), some (.inl p), some (.inl m), some (.inl 1)]) (sk' := [.inr (.inr 66)]) (h' := (xup (xup h 66 0 0) 66 3 (xor_ (h 66 3) (xshl 1 p)))) rfl ?_
          refine E_cv (x := (.invokevirtual 184, 0, [(10, 157)], [0])) (q := fun h9 => FGR (xup (xup h 66 0 0) 66 3 (xor_ (h 66 3) (xshl 1 p))) h9) rfl rfl (Nat.le_of_ble_eq_true rfl) (m_goes (d + 1) 0 (xup (xup h 66 0 0) 66 3 (xor_ (h 66 3) (xshl 1 p))) (fun h9 z => ⟨rfl, z⟩)) (fun hF2 hf => ?_)
          show xEx G0 cdX12_part (some .boolean) (xRn G0 MT (d + 2)) Q b 46 [some (.inr (.inr 66)), some (.inl p), some (.inl m), some (.inl 1)] [] hF2
          refine E_s 2 (i' := 48) (ls' := [some (.inr (.inr 66)), some (.inl p), some (.inl m), some (.inl 1)]) (sk' := [.inl m, .inl 1]) (h' := hF2) rfl ?_
          refine E_b (x := (.if_icmp .eq 7, 51, [], [])) rfl rfl (fun c48 => ?_) (fun c48 => ?_)
          · rw [c_eq (by first | exact ⟨by omega, by omega⟩ | (rcases hm with e | e <;> rw [e] <;> exact ⟨by omega, by omega⟩)) (by first | exact ⟨by omega, by omega⟩ | (rcases hm with e | e <;> rw [e] <;> exact ⟨by omega, by omega⟩))] at c48
            simp only [decide_eq_true_eq, decide_eq_false_iff_not, Decidable.not_not] at c48
            show xEx G0 cdX12_part (some .boolean) (xRn G0 MT (d + 2)) Q b 51 [some (.inr (.inr 66)), some (.inl p), some (.inl m), some (.inl 1)] [] hF2
            refine E_s 1 (i' := 52) (ls' := [some (.inr (.inr 66)), some (.inl p), some (.inl m), some (.inl 1)]) (sk' := [.inl 0]) (h' := hF2) rfl ?_
            exact E_ret (x := (.ireturn, 0, [], [])) (v := some (.inl 0)) rfl (Or.inr ⟨rfl, by omega⟩) (h1 (by omega) _ _ _ (by omega) (by first | rw [if_pos c27] | rw [if_neg c27]) hf)
          · rw [c_eq (by first | exact ⟨by omega, by omega⟩ | (rcases hm with e | e <;> rw [e] <;> exact ⟨by omega, by omega⟩)) (by first | exact ⟨by omega, by omega⟩ | (rcases hm with e | e <;> rw [e] <;> exact ⟨by omega, by omega⟩))] at c48
            simp only [decide_eq_true_eq, decide_eq_false_iff_not, Decidable.not_not] at c48
            show xEx G0 cdX12_part (some .boolean) (xRn G0 MT (d + 2)) Q b 49 [some (.inr (.inr 66)), some (.inl p), some (.inl m), some (.inl 1)] [] hF2
            refine E_s 2 (i' := 52) (ls' := [some (.inr (.inr 66)), some (.inl p), some (.inl m), some (.inl 1)]) (sk' := [.inl 1]) (h' := hF2) rfl ?_
            exact E_ret (x := (.ireturn, 0, [], [])) (v := some (.inl 1)) rfl (Or.inr ⟨rfl, by omega⟩) (h1 (by omega) _ _ _ (by omega) (by first | rw [if_pos c27] | rw [if_neg c27]) hf)
    · show xEx G0 cdX12_part (some .boolean) (xRn G0 MT (d + 2)) Q b 11 [some (.inr (.inr 66)), some (.inl p), some (.inl m), none] [] (xup h 66 0 0)
      exact absurd c10 (by decide)
def ADC (h h9 : xH) (v : Int) : Prop := (∀ a, a ≠ 7 → a ≠ 8 → h9 a = h a) ∧ (∀ j, j ≠ 1 → h9 7 j = h 7 j) ∧ h9 7 1 = h 7 1 + 1 ∧ h9 8 = ins (h 8) (h 7 1) v
set_option maxHeartbeats 1000000 in
theorem c_addConstant (d b : Nat) (h : xH) (v : Int) (hc : 0 ≤ h 7 1 ∧ h 7 1 < 10) (hv : xr v) (hr : ∀ q : Int, 0 ≤ q → q < h 7 1 → xr (h 8 q)) {Q : xO → xH → Prop} (hQ : ∀ h', ADC h h' v → Q (.inl none) h') : xRn G0 MT (d + 1) b 76 [.inr (.inr 7), .inl v] h Q := by
  refine R_of (M := mX8_addConstant) rfl (Nat.le_of_ble_eq_true rfl) ?_
  show xEx G0 cdX8_addConstant none (xRn G0 MT d) Q b 0 [some (.inr (.inr 7)), some (.inl v), none] [] h
  refine E_s 3 (i' := 3) (ls' := [some (.inr (.inr 7)), some (.inl v), some (.inl (h 7 1))]) (sk' := []) (h' := h) rfl ?_
  have key3 : ∀ (n : Nat) (hh : xH) (k : Int), (0 ≤ k) → (k ≤ h 7 1) → (∀ a, a ≠ 8 → hh a = h a) → (∀ j, hh 8 j = if k < j ∧ j ≤ h 7 1 then h 8 (j - 1) else h 8 j) → (insP (h 8) v (h 7 1).toNat = insP (h 8) v k.toNat) → (k.toNat) < n → xEx G0 cdX8_addConstant none (xRn G0 MT d) Q b 3 [some (.inr (.inr 7)), some (.inl v), some (.inl k)] [] hh := by
    intro n
    induction n with
    | zero => intro hh k _ _ _ _ _ hm; exact absurd hm (Nat.not_lt_zero _)
    | succ n ih3 =>
      intro hh k hk0 hk9 hfr hz hp hm3
      have e66 : hh 7 = h 7 := hfr _ (by decide)
      refine E_s 1 (i' := 4) (ls' := [some (.inr (.inr 7)), some (.inl v), some (.inl k)]) (sk' := [.inl k]) (h' := hh) rfl ?_
      refine E_b (x := (.ifCond .le 35, 25, [], [])) rfl rfl (fun c4 => ?_) (fun c4 => ?_)
      · rw [c_le (by first | assumption | (refine ⟨?_, ?_⟩ <;> omega) | (simp only [xr] at *; omega)) (by first | assumption | (refine ⟨?_, ?_⟩ <;> omega) | (simp only [xr] at *; omega))] at c4
        simp only [decide_eq_true_eq, decide_eq_false_iff_not, Decidable.not_not] at c4
        show xEx G0 cdX8_addConstant none (xRn G0 MT d) Q b 25 [some (.inr (.inr 7)), some (.inl v), some (.inl k)] [] hh
        have hP : (insP (h 8) v (h 7 1).toNat : Int) = k := by
          rw [hp]
          first | exact insP_x hk0 (Or.inl (by omega)) | exact insP_x hk0 (Or.inr (by rw [← e9]; omega))
        refine E_s 4 (i' := 29) (ls' := [some (.inr (.inr 7)), some (.inl v), some (.inl k)]) (sk' := [.inl v, .inl k, .inr (.inr 8)]) (h' := hh) rfl ?_
        refine E_sd (x := (.iastore, 0, [], [])) (ty := .int) (n := 10) (y := v) rfl rfl rfl (by omega) (by omega) (trivial) ?_
        show xEx G0 cdX8_addConstant none (xRn G0 MT d) Q b 30 [some (.inr (.inr 7)), some (.inl v), some (.inl k)] [] (xup hh 8 k v)
        refine E_s 6 (i' := 36) (ls' := [some (.inr (.inr 7)), some (.inl v), some (.inl k)]) (sk' := []) (h' := (xup (xup hh 8 k v) 7 1 ((hh 7 1) + 1))) rfl ?_
        exact E_ret (x := (.return_, 0, [], [])) (v := none) rfl (trivial) (hQ _ ⟨fun a z1 z2 => by rw [xup_o _ _ _ _ a z1, xup_o _ _ _ _ a z2]; exact hfr a z2, fun j z => by rw [xup_j z, xup_a (by decide), e66], by rw [xup_s, e66], by
          funext j
          rw [xup_a (by decide)]
          unfold ins
          rw [hP]
          by_cases e : j = k
          · subst e
            rw [xup_s, if_neg (by omega), if_pos rfl]
          · rw [xup_j e, hz]
            by_cases e2 : j < k
            · rw [if_pos e2, if_neg (by omega)]
            · rw [if_neg e2, if_neg e]
              by_cases e3 : j ≤ h 7 1
              · rw [if_pos e3, if_pos (by omega)]
              · rw [if_neg e3, if_neg (by omega)]⟩)
      · rw [c_le (by first | assumption | (refine ⟨?_, ?_⟩ <;> omega) | (simp only [xr] at *; omega)) (by first | assumption | (refine ⟨?_, ?_⟩ <;> omega) | (simp only [xr] at *; omega))] at c4
        simp only [decide_eq_true_eq, decide_eq_false_iff_not, Decidable.not_not] at c4
        show xEx G0 cdX8_addConstant none (xRn G0 MT d) Q b 5 [some (.inr (.inr 7)), some (.inl v), some (.inl k)] [] hh
        refine E_s 5 (i' := 10) (ls' := [some (.inr (.inr 7)), some (.inl v), some (.inl k)]) (sk' := [.inl (k - 1), .inr (.inr 8)]) (h' := hh) rfl ?_
        have r9 := hr (k - 1) (by omega) (by omega)
        have e9 : hh 8 (k - 1) = h 8 (k - 1) := by rw [hz, if_neg (by omega)]
        refine E_ld (x := (.iaload, 0, [], [])) (ty := .int) (n := 10) rfl rfl rfl (by omega) (by omega) ?_
        show xEx G0 cdX8_addConstant none (xRn G0 MT d) Q b 11 [some (.inr (.inr 7)), some (.inl v), some (.inl k)] [.inl (hh 8 (k - 1))] hh
        refine E_s 1 (i' := 12) (ls' := [some (.inr (.inr 7)), some (.inl v), some (.inl k)]) (sk' := [.inl v, .inl (hh 8 (k - 1))]) (h' := hh) rfl ?_
        
        refine E_b (x := (.if_icmp .le 23, 25, [], [])) rfl rfl (fun c12 => ?_) (fun c12 => ?_)
        · rw [c_le (by first | (rw [e9]; exact r9) | exact hv) (by first | (rw [e9]; exact r9) | exact hv)] at c12
          simp only [decide_eq_true_eq, decide_eq_false_iff_not, Decidable.not_not] at c12
          show xEx G0 cdX8_addConstant none (xRn G0 MT d) Q b 25 [some (.inr (.inr 7)), some (.inl v), some (.inl k)] [] hh
          have hP : (insP (h 8) v (h 7 1).toNat : Int) = k := by
            rw [hp]
            first | exact insP_x hk0 (Or.inl (by omega)) | exact insP_x hk0 (Or.inr (by rw [← e9]; omega))
          refine E_s 4 (i' := 29) (ls' := [some (.inr (.inr 7)), some (.inl v), some (.inl k)]) (sk' := [.inl v, .inl k, .inr (.inr 8)]) (h' := hh) rfl ?_
          refine E_sd (x := (.iastore, 0, [], [])) (ty := .int) (n := 10) (y := v) rfl rfl rfl (by omega) (by omega) (trivial) ?_
          show xEx G0 cdX8_addConstant none (xRn G0 MT d) Q b 30 [some (.inr (.inr 7)), some (.inl v), some (.inl k)] [] (xup hh 8 k v)
          refine E_s 6 (i' := 36) (ls' := [some (.inr (.inr 7)), some (.inl v), some (.inl k)]) (sk' := []) (h' := (xup (xup hh 8 k v) 7 1 ((hh 7 1) + 1))) rfl ?_
          exact E_ret (x := (.return_, 0, [], [])) (v := none) rfl (trivial) (hQ _ ⟨fun a z1 z2 => by rw [xup_o _ _ _ _ a z1, xup_o _ _ _ _ a z2]; exact hfr a z2, fun j z => by rw [xup_j z, xup_a (by decide), e66], by rw [xup_s, e66], by
            funext j
            rw [xup_a (by decide)]
            unfold ins
            rw [hP]
            by_cases e : j = k
            · subst e
              rw [xup_s, if_neg (by omega), if_pos rfl]
            · rw [xup_j e, hz]
              by_cases e2 : j < k
              · rw [if_pos e2, if_neg (by omega)]
              · rw [if_neg e2, if_neg e]
                by_cases e3 : j ≤ h 7 1
                · rw [if_pos e3, if_pos (by omega)]
                · rw [if_neg e3, if_neg (by omega)]⟩)
        · rw [c_le (by first | (rw [e9]; exact r9) | exact hv) (by first | (rw [e9]; exact r9) | exact hv)] at c12
          simp only [decide_eq_true_eq, decide_eq_false_iff_not, Decidable.not_not] at c12
          show xEx G0 cdX8_addConstant none (xRn G0 MT d) Q b 13 [some (.inr (.inr 7)), some (.inl v), some (.inl k)] [] hh
          refine E_s 8 (i' := 21) (ls' := [some (.inr (.inr 7)), some (.inl v), some (.inl k)]) (sk' := [.inl (k - 1), .inr (.inr 8), .inl k, .inr (.inr 8)]) (h' := hh) rfl ?_
          refine E_ld (x := (.iaload, 0, [], [])) (ty := .int) (n := 10) rfl rfl rfl (by omega) (by omega) ?_
          show xEx G0 cdX8_addConstant none (xRn G0 MT d) Q b 22 [some (.inr (.inr 7)), some (.inl v), some (.inl k)] [.inl (hh 8 (k - 1)), .inl k, .inr (.inr 8)] hh
          refine E_sd (x := (.iastore, 0, [], [])) (ty := .int) (n := 10) (y := (hh 8 (k - 1))) rfl rfl rfl (by omega) (by omega) (trivial) ?_
          show xEx G0 cdX8_addConstant none (xRn G0 MT d) Q b 23 [some (.inr (.inr 7)), some (.inl v), some (.inl k)] [] (xup hh 8 k (hh 8 (k - 1)))
          refine E_s 2 (i' := 3) (ls' := [some (.inr (.inr 7)), some (.inl v), some (.inl (k + (-1)))]) (sk' := []) (h' := (xup hh 8 k (hh 8 (k - 1)))) rfl ?_
          exact ih3 _ (k - 1) (by omega) (by omega) (fun a ha => by rw [xup_o _ _ _ _ a ha]; exact hfr a ha) (fun j => by
            by_cases e : j = k
            · subst e
              rw [xup_s, if_pos (by omega), hz, if_neg (by omega)]
            · rw [xup_j e, hz]
              by_cases e2 : k < j ∧ j ≤ h 7 1
              · rw [if_pos e2, if_pos (by omega)]
              · rw [if_neg e2, if_neg (by omega)]) (by
            rw [hp]
            exact insP_s (by omega) (by rw [hz, if_neg (by omega)] at c12; omega)) (by omega)
  exact key3 _ h (h 7 1) (by omega) (by omega) (fun _ _ => rfl) (fun j => by rw [if_neg (by omega)]) rfl (Nat.lt_succ_self _)
def ADM (h h9 : xH) (v : Int) : Prop := (∀ a, a ≠ 66 → a ≠ 68 → h9 a = h a) ∧ (∀ j, j ≠ 6 → h9 66 j = h 66 j) ∧ h9 66 6 = h 66 6 + 1 ∧ h9 68 = ins (h 68) (h 66 6) v
set_option maxHeartbeats 1000000 in
theorem m_comesConstant (d b : Nat) (h : xH) (v : Int) (hc : 0 ≤ h 66 6 ∧ h 66 6 < 10) (hv : xr v) (hr : ∀ q : Int, 0 ≤ q → q < h 66 6 → xr (h 68 q)) {Q : xO → xH → Prop} (hQ : ∀ h', ADM h h' v → Q (.inl none) h') : xRn G0 MT (d + 1) b 167 [.inr (.inr 66), .inl v] h Q := by
  refine R_of (M := mX12_comesConstant) rfl (Nat.le_of_ble_eq_true rfl) ?_
  show xEx G0 cdX12_comesConstant none (xRn G0 MT d) Q b 0 [some (.inr (.inr 66)), some (.inl v), none] [] h
  refine E_s 3 (i' := 3) (ls' := [some (.inr (.inr 66)), some (.inl v), some (.inl (h 66 6))]) (sk' := []) (h' := h) rfl ?_
  have key3 : ∀ (n : Nat) (hh : xH) (k : Int), (0 ≤ k) → (k ≤ h 66 6) → (∀ a, a ≠ 68 → hh a = h a) → (∀ j, hh 68 j = if k < j ∧ j ≤ h 66 6 then h 68 (j - 1) else h 68 j) → (insP (h 68) v (h 66 6).toNat = insP (h 68) v k.toNat) → (k.toNat) < n → xEx G0 cdX12_comesConstant none (xRn G0 MT d) Q b 3 [some (.inr (.inr 66)), some (.inl v), some (.inl k)] [] hh := by
    intro n
    induction n with
    | zero => intro hh k _ _ _ _ _ hm; exact absurd hm (Nat.not_lt_zero _)
    | succ n ih3 =>
      intro hh k hk0 hk9 hfr hz hp hm3
      have e66 : hh 66 = h 66 := hfr _ (by decide)
      refine E_s 1 (i' := 4) (ls' := [some (.inr (.inr 66)), some (.inl v), some (.inl k)]) (sk' := [.inl k]) (h' := hh) rfl ?_
      refine E_b (x := (.ifCond .le 35, 25, [], [])) rfl rfl (fun c4 => ?_) (fun c4 => ?_)
      · rw [c_le (by first | assumption | (refine ⟨?_, ?_⟩ <;> omega) | (simp only [xr] at *; omega)) (by first | assumption | (refine ⟨?_, ?_⟩ <;> omega) | (simp only [xr] at *; omega))] at c4
        simp only [decide_eq_true_eq, decide_eq_false_iff_not, Decidable.not_not] at c4
        show xEx G0 cdX12_comesConstant none (xRn G0 MT d) Q b 25 [some (.inr (.inr 66)), some (.inl v), some (.inl k)] [] hh
        have hP : (insP (h 68) v (h 66 6).toNat : Int) = k := by
          rw [hp]
          first | exact insP_x hk0 (Or.inl (by omega)) | exact insP_x hk0 (Or.inr (by rw [← e9]; omega))
        refine E_s 4 (i' := 29) (ls' := [some (.inr (.inr 66)), some (.inl v), some (.inl k)]) (sk' := [.inl v, .inl k, .inr (.inr 68)]) (h' := hh) rfl ?_
        refine E_sd (x := (.iastore, 0, [], [])) (ty := .int) (n := 10) (y := v) rfl rfl rfl (by omega) (by omega) (trivial) ?_
        show xEx G0 cdX12_comesConstant none (xRn G0 MT d) Q b 30 [some (.inr (.inr 66)), some (.inl v), some (.inl k)] [] (xup hh 68 k v)
        refine E_s 6 (i' := 36) (ls' := [some (.inr (.inr 66)), some (.inl v), some (.inl k)]) (sk' := []) (h' := (xup (xup hh 68 k v) 66 6 ((hh 66 6) + 1))) rfl ?_
        exact E_ret (x := (.return_, 0, [], [])) (v := none) rfl (trivial) (hQ _ ⟨fun a z1 z2 => by rw [xup_o _ _ _ _ a z1, xup_o _ _ _ _ a z2]; exact hfr a z2, fun j z => by rw [xup_j z, xup_a (by decide), e66], by rw [xup_s, e66], by
          funext j
          rw [xup_a (by decide)]
          unfold ins
          rw [hP]
          by_cases e : j = k
          · subst e
            rw [xup_s, if_neg (by omega), if_pos rfl]
          · rw [xup_j e, hz]
            by_cases e2 : j < k
            · rw [if_pos e2, if_neg (by omega)]
            · rw [if_neg e2, if_neg e]
              by_cases e3 : j ≤ h 66 6
              · rw [if_pos e3, if_pos (by omega)]
              · rw [if_neg e3, if_neg (by omega)]⟩)
      · rw [c_le (by first | assumption | (refine ⟨?_, ?_⟩ <;> omega) | (simp only [xr] at *; omega)) (by first | assumption | (refine ⟨?_, ?_⟩ <;> omega) | (simp only [xr] at *; omega))] at c4
        simp only [decide_eq_true_eq, decide_eq_false_iff_not, Decidable.not_not] at c4
        show xEx G0 cdX12_comesConstant none (xRn G0 MT d) Q b 5 [some (.inr (.inr 66)), some (.inl v), some (.inl k)] [] hh
        refine E_s 5 (i' := 10) (ls' := [some (.inr (.inr 66)), some (.inl v), some (.inl k)]) (sk' := [.inl (k - 1), .inr (.inr 68)]) (h' := hh) rfl ?_
        have r9 := hr (k - 1) (by omega) (by omega)
        have e9 : hh 68 (k - 1) = h 68 (k - 1) := by rw [hz, if_neg (by omega)]
        refine E_ld (x := (.iaload, 0, [], [])) (ty := .int) (n := 10) rfl rfl rfl (by omega) (by omega) ?_
        show xEx G0 cdX12_comesConstant none (xRn G0 MT d) Q b 11 [some (.inr (.inr 66)), some (.inl v), some (.inl k)] [.inl (hh 68 (k - 1))] hh
        refine E_s 1 (i' := 12) (ls' := [some (.inr (.inr 66)), some (.inl v), some (.inl k)]) (sk' := [.inl v, .inl (hh 68 (k - 1))]) (h' := hh) rfl ?_
        
        refine E_b (x := (.if_icmp .le 23, 25, [], [])) rfl rfl (fun c12 => ?_) (fun c12 => ?_)
        · rw [c_le (by first | (rw [e9]; exact r9) | exact hv) (by first | (rw [e9]; exact r9) | exact hv)] at c12
          simp only [decide_eq_true_eq, decide_eq_false_iff_not, Decidable.not_not] at c12
          show xEx G0 cdX12_comesConstant none (xRn G0 MT d) Q b 25 [some (.inr (.inr 66)), some (.inl v), some (.inl k)] [] hh
          have hP : (insP (h 68) v (h 66 6).toNat : Int) = k := by
            rw [hp]
            first | exact insP_x hk0 (Or.inl (by omega)) | exact insP_x hk0 (Or.inr (by rw [← e9]; omega))
          refine E_s 4 (i' := 29) (ls' := [some (.inr (.inr 66)), some (.inl v), some (.inl k)]) (sk' := [.inl v, .inl k, .inr (.inr 68)]) (h' := hh) rfl ?_
          refine E_sd (x := (.iastore, 0, [], [])) (ty := .int) (n := 10) (y := v) rfl rfl rfl (by omega) (by omega) (trivial) ?_
          show xEx G0 cdX12_comesConstant none (xRn G0 MT d) Q b 30 [some (.inr (.inr 66)), some (.inl v), some (.inl k)] [] (xup hh 68 k v)
          refine E_s 6 (i' := 36) (ls' := [some (.inr (.inr 66)), some (.inl v), some (.inl k)]) (sk' := []) (h' := (xup (xup hh 68 k v) 66 6 ((hh 66 6) + 1))) rfl ?_
          exact E_ret (x := (.return_, 0, [], [])) (v := none) rfl (trivial) (hQ _ ⟨fun a z1 z2 => by rw [xup_o _ _ _ _ a z1, xup_o _ _ _ _ a z2]; exact hfr a z2, fun j z => by rw [xup_j z, xup_a (by decide), e66], by rw [xup_s, e66], by
            funext j
            rw [xup_a (by decide)]
            unfold ins
            rw [hP]
            by_cases e : j = k
            · subst e
              rw [xup_s, if_neg (by omega), if_pos rfl]
            · rw [xup_j e, hz]
              by_cases e2 : j < k
              · rw [if_pos e2, if_neg (by omega)]
              · rw [if_neg e2, if_neg e]
                by_cases e3 : j ≤ h 66 6
                · rw [if_pos e3, if_pos (by omega)]
                · rw [if_neg e3, if_neg (by omega)]⟩)
        · rw [c_le (by first | (rw [e9]; exact r9) | exact hv) (by first | (rw [e9]; exact r9) | exact hv)] at c12
          simp only [decide_eq_true_eq, decide_eq_false_iff_not, Decidable.not_not] at c12
          show xEx G0 cdX12_comesConstant none (xRn G0 MT d) Q b 13 [some (.inr (.inr 66)), some (.inl v), some (.inl k)] [] hh
          refine E_s 8 (i' := 21) (ls' := [some (.inr (.inr 66)), some (.inl v), some (.inl k)]) (sk' := [.inl (k - 1), .inr (.inr 68), .inl k, .inr (.inr 68)]) (h' := hh) rfl ?_
          refine E_ld (x := (.iaload, 0, [], [])) (ty := .int) (n := 10) rfl rfl rfl (by omega) (by omega) ?_
          show xEx G0 cdX12_comesConstant none (xRn G0 MT d) Q b 22 [some (.inr (.inr 66)), some (.inl v), some (.inl k)] [.inl (hh 68 (k - 1)), .inl k, .inr (.inr 68)] hh
          refine E_sd (x := (.iastore, 0, [], [])) (ty := .int) (n := 10) (y := (hh 68 (k - 1))) rfl rfl rfl (by omega) (by omega) (trivial) ?_
          show xEx G0 cdX12_comesConstant none (xRn G0 MT d) Q b 23 [some (.inr (.inr 66)), some (.inl v), some (.inl k)] [] (xup hh 68 k (hh 68 (k - 1)))
          refine E_s 2 (i' := 3) (ls' := [some (.inr (.inr 66)), some (.inl v), some (.inl (k + (-1)))]) (sk' := []) (h' := (xup hh 68 k (hh 68 (k - 1)))) rfl ?_
          exact ih3 _ (k - 1) (by omega) (by omega) (fun a ha => by rw [xup_o _ _ _ _ a ha]; exact hfr a ha) (fun j => by
            by_cases e : j = k
            · subst e
              rw [xup_s, if_pos (by omega), hz, if_neg (by omega)]
            · rw [xup_j e, hz]
              by_cases e2 : k < j ∧ j ≤ h 66 6
              · rw [if_pos e2, if_pos (by omega)]
              · rw [if_neg e2, if_neg (by omega)]) (by
            rw [hp]
            exact insP_s (by omega) (by rw [hz, if_neg (by omega)] at c12; omega)) (by omega)
  exact key3 _ h (h 66 6) (by omega) (by omega) (fun _ _ => rfl) (fun j => by rw [if_neg (by omega)]) rfl (Nat.lt_succ_self _)
