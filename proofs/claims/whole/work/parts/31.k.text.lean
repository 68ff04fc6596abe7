theorem tadd_o {h : xH} {v : Int} {a : Nat} (h1 : a ≠ 64) (h2 : a ≠ 65) : tadd h v a = h a := by
  unfold tadd
  rw [xup_o _ _ _ _ a h1, xup_o _ _ _ _ a h2]
theorem tadds_o {a : Nat} (h1 : a ≠ 64) (h2 : a ≠ 65) : ∀ (s : List Int) (h : xH), tadds h s a = h a
  | [], _ => rfl
  | v :: s, h => by
    show tadds (tadd h v) s a = _
    rw [tadds_o h1 h2 s, tadd_o h1 h2]
theorem ta1 (h : xH) (s : List Int) (v : Int) : tadd (tadds h s) v = tadds h (s ++ [v]) := by rw [tadds_a]; rfl
/-- a call that returns one thing, for certain -/
theorem E2_cr {own : String} {G : List xS} {cd : List xI} {rt : Option FieldType} {call : xCal} {Q : xO → xH → Prop} {b i : Nat} {ls : xL} {sk : List xV} {h : xH} {x : xI} {mm : Nat} {as rest : List xV} {v : xV} (hx : cd[i]? = some x) (hs : xcl G x sk = some (mm, as, rest)) (hw : (rest.map xcat).sum ≤ 8) (hc : call 0 mm as h (fun o h9 => o = .inl (some v) ∧ h9 = h)) (hk : xEx2 own G cd rt call Q b (i + 1) ls (v :: rest) h) : xEx2 own G cd rt call Q b i ls sk h := by
  rw [← Nat.zero_add b]
  refine E2_call hx hs hw (fun _ E h9 z => by cases z.1) hc (fun v9 h9 z => ?_) (fun E h9 z => by cases z.1)
  obtain ⟨hv, rfl⟩ := z
  cases hv
  exact hk
/-- the bytes that open a PART -/
def opB (k : Int) : List Int := if k = 3 then [109, 105, 110, 40] else if k = 4 then [109, 97, 120, 40] else if k = 5 then [45, 40] else if k = 8 then [97, 98, 115, 40] else if k = 9 then [115, 103, 110, 40] else [40]
def opK (k : Int) : Nat := if k = 3 then 9 else if k = 4 then 11 else if k = 5 then 13 else if k = 8 then 15 else if k = 9 then 17 else 19
theorem opn_s (k : Int) : xSite[opn k]? = some (RX4, opK k, opB k) := by
  unfold opn opK opB
  by_cases h3 : k = 3
  · simp only [if_pos h3]; rfl
  by_cases h4 : k = 4
  · simp only [if_neg h3, if_pos h4]; rfl
  by_cases h5 : k = 5
  · simp only [if_neg h3, if_neg h4, if_pos h5]; rfl
  by_cases h8 : k = 8
  · simp only [if_neg h3, if_neg h4, if_neg h5, if_pos h8]; rfl
  by_cases h9 : k = 9
  · simp only [if_neg h3, if_neg h4, if_neg h5, if_neg h8, if_pos h9]; rfl
  · simp only [if_neg h3, if_neg h4, if_neg h5, if_neg h8, if_neg h9]; rfl
theorem opn_b (k : Int) : ∀ v ∈ opB k, 0 ≤ v ∧ v ≤ 127 := by
  unfold opB
  split
  · decide
  split
  · decide
  split
  · decide
  split
  · decide
  split
  · decide
  · decide
theorem tx1_u {k u w : Int} {f : Int → List Int} (h : k = 5 ∨ k = 8 ∨ k = 9) : tx1 k u w f = opB k ++ f u ++ [41] := by
  unfold tx1 opB wrU
  rw [if_neg (by omega), if_neg (by omega), if_pos h, if_neg (show ¬ k = 3 by omega), if_neg (show ¬ k = 4 by omega)]
  rcases h with h | h | h
  · rw [if_pos h, if_pos h]
  · rw [if_neg (show ¬ k = 5 by omega), if_neg (show ¬ k = 5 by omega), if_pos h, if_pos h]
  · rw [if_neg (show ¬ k = 5 by omega), if_neg (show ¬ k = 5 by omega), if_neg (show ¬ k = 8 by omega), if_neg (show ¬ k = 8 by omega), if_pos h]
theorem tx1_b {k u w : Int} {f : Int → List Int} (h : ¬ (k = 5 ∨ k = 8 ∨ k = 9)) (h0 : 0 ≤ k ∧ k ≤ 9) : tx1 k u w f = opB k ++ f u ++ [sgB k] ++ f w ++ [41] := by
  unfold tx1 opB
  rw [if_neg (show ¬ k = 10 by omega), if_neg (show ¬ k = 11 by omega), if_neg h, if_neg (show ¬ k = 5 by omega), if_neg (show ¬ k = 8 by omega), if_neg (show ¬ k = 9 by omega)]
  by_cases h3 : k = 3
  · rw [if_pos h3, if_pos h3]; rfl
  · by_cases h4 : k = 4
    · rw [if_neg h3, if_neg h3, if_pos h4, if_pos h4]; rfl
    · rw [if_neg h3, if_neg h3, if_neg h4, if_neg h4]; rfl
theorem mid_s {k : Int} (h : ¬ (k = 5 ∨ k = 8 ∨ k = 9)) (h0 : 0 ≤ k ∧ k ≤ 9) : ([43, 45, 42, 44, 44, 32, 47, 37, 32, 32] : List Int).getD k.toNat 0 = sgB k ∧ 0 ≤ sgB k ∧ sgB k ≤ 127 := by
  have : k = 0 ∨ k = 1 ∨ k = 2 ∨ k = 3 ∨ k = 4 ∨ k = 6 ∨ k = 7 := by omega
  rcases this with rfl | rfl | rfl | rfl | rfl | rfl | rfl <;> decide
