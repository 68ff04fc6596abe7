/-! what a code on the pile comes to -/
def DZ (h0 : xH) (d b : Nat) (Q : xO → xH → Prop) (f0 m c : Int) (t : List Int) : Prop := ∀ (h : xH) (y : Option xV), OKH h0 h → 1 ≤ h 66 47 → h 66 47 - 1 + m ≤ 400 → h 97 (h 66 47 - 1) = c → 0 ≤ h 66 45 → h 66 45 + (t.length : Nat) + 3 ≤ 1024 → (∀ (h' : xH) (y' : Option xV), PW h h' (h 66 47 - 1) t → Lp d b Q f0 y' h') → Lp d b Q f0 y h
section
variable {h0 : xH} {d b : Nat} {Q : xO → xH → Prop} {f0 : Int}
theorem DZ.up {m m' c : Int} {t : List Int} (h : DZ h0 d b Q f0 m c t) (hm : m ≤ m') : DZ h0 d b Q f0 m' c t := fun g y o p1 p2 p3 p4 p5 k => h g y o p1 (by omega) p3 p4 p5 k
/-- codes from the top down, and the text they come to -/
def PL (D : Int → List Int → Prop) : List Int → List Int → Prop
  | [], s => s = []
  | c :: r, s => ∃ t s', D c t ∧ PL D r s' ∧ s = t ++ s'
theorem PL.nil {D : Int → List Int → Prop} : PL D [] [] := rfl
theorem PL.cons {D : Int → List Int → Prop} {c : Int} {r t s : List Int} (h : D c t) (k : PL D r s) : PL D (c :: r) (t ++ s) := ⟨t, s, h, k, rfl⟩
theorem PL.app {D : Int → List Int → Prop} : ∀ {r r' s s' : List Int}, PL D r s → PL D r' s' → PL D (r ++ r') (s ++ s')
  | [], _, _, _, a, b => by cases a; exact b
  | c :: r, _, _, _, a, b => by
    obtain ⟨t, s, h1, h2, rfl⟩ := a
    rw [List.append_assoc]
    exact PL.cons h1 (PL.app h2 b)
theorem PL.one {D : Int → List Int → Prop} {c : Int} {t : List Int} (h : D c t) : PL D [c] t := by
  have := PL.cons h PL.nil
  rwa [List.append_nil] at this
def STK (f : Int → Int) (p : Int) : List Int → Prop
  | [] => True
  | c :: r => f (p + (r.length : Nat)) = c ∧ STK f p r
theorem STK_fr {f f' : Int → Int} {p : Int} : ∀ (r : List Int), (∀ j, j < p + (r.length : Nat) → f' j = f j) → STK f p r → STK f' p r
  | [], _, _ => trivial
  | c :: r, e, h => ⟨(e _ (by simp only [List.length_cons]; omega)).trans h.1, STK_fr r (fun j z => e j (by simp only [List.length_cons]; omega)) h.2⟩
theorem STK_app {f : Int → Int} {p v : Int} : ∀ (r : List Int), STK f (p + 1) r → f p = v → STK f p (r ++ [v])
  | [], _, e => ⟨by show f (p + ((0 : Nat) : Int)) = v; rw [show p + ((0 : Nat) : Int) = p by omega]; exact e, trivial⟩
  | c :: r, h, e => ⟨by
      have := h.1
      show f (p + ((r ++ [v]).length : Nat)) = c
      rw [List.length_append, List.length_cons, List.length_nil, show p + ((r.length + (0 + 1) : Nat) : Int) = p + 1 + (r.length : Nat) by omega]
      exact this, STK_app r h.2 e⟩
theorem DZ_list {m : Int} : ∀ {r t : List Int}, PL (DZ h0 d b Q f0 m) r t → ∀ (h : xH) (y : Option xV) (p : Int), OKH h0 h → 0 ≤ p → h 66 47 = p + (r.length : Nat) → STK (h 97) p r → p + (r.length : Nat) + m ≤ 401 → 0 ≤ h 66 45 → h 66 45 + (t.length : Nat) + 3 ≤ 1024 → (∀ (h' : xH) (y' : Option xV), PW h h' p t → Lp d b Q f0 y' h') → Lp d b Q f0 y h
  | [], t, hl => by
    intro h y p o p0 hp st hm w0 w1 k
    cases hl
    refine k h y ⟨fun _ _ _ _ => rfl, fun _ _ _ => rfl, fun _ _ => rfl, ?_, ?_, rfl⟩
    · rw [hp]; show p + ((0 : Nat) : Int) = p; omega
    · show h 66 45 = h 66 45 + ((0 : Nat) : Int); omega
  | c :: r, t9, hl => by
    obtain ⟨t, s, hc, hr, rfl⟩ := hl
    intro h y p o p0 hp st hm w0 w1 k
    rw [List.length_cons] at hp hm
    rw [List.length_append] at w1
    have e : h 66 47 - 1 = p + (r.length : Nat) := by omega
    refine hc h y o (by omega) (by omega) (by rw [e]; exact st.1) w0 (by omega) (fun h' y' pw => ?_)
    rw [e] at pw
    have q5 := pw.2.2.2.2.1
    exact DZ_list hr h' y' p (o.pw pw) p0 pw.2.2.2.1 (STK_fr r (fun j z => pw.2.2.1 j z) st.2) (by omega) (by omega) (by omega) (fun h2 y2 pw2 => k h2 y2 (pw.tr pw2 (by omega)))
theorem DZ_B {v : Int} (hv : 0 ≤ v ∧ v ≤ 127) : DZ h0 d b Q f0 1 (3000 + v) [v] := fun h y o p1 p2 hc w0 w1 k => by
  rw [List.length_cons, List.length_nil] at w1
  exact it_B d b f0 y h v hc hv (by omega) (by omega) (fun y9 => k _ y9 (PW_t [v] rfl))
theorem PL_w {m : Int} (hm : 1 ≤ m) : ∀ (s : List Int), (∀ v ∈ s, 0 ≤ v ∧ v ≤ 127) → PL (DZ h0 d b Q f0 m) (s.map (fun v => 3000 + v)) s
  | [], _ => PL.nil
  | v :: s, h => PL.cons (t := [v]) ((DZ_B (h v List.mem_cons_self)).up hm) (PL_w hm s (fun x hx => h x (List.mem_cons_of_mem _ hx)))
theorem ppsh_o {h : xH} {v : Int} {a : Nat} (h1 : a ≠ 66) (h2 : a ≠ 97) : ppsh h v a = h a := by
  unfold ppsh
  rw [xup_o _ _ _ _ a h1, xup_o _ _ _ _ a h2]
theorem ppsh_j {h : xH} {v j : Int} (h1 : j ≠ 47) : ppsh h v 66 j = h 66 j := by
  unfold ppsh xup
  rw [if_pos rfl, if_neg h1, if_neg (by decide)]
theorem ppsh_p {h : xH} {v j : Int} : ppsh h v 97 j = if j = h 66 47 then v else h 97 j := by
  unfold ppsh
  rw [xup_o _ _ _ _ 97 (by decide)]
  rfl
theorem ppshs_o {a : Nat} (h1 : a ≠ 66) (h2 : a ≠ 97) : ∀ (s : List Int) (h : xH), ppshs h s a = h a
  | [], _ => rfl
  | v :: s, h => by
    show ppshs (ppsh h v) s a = _
    rw [ppshs_o h1 h2 s, ppsh_o h1 h2]
theorem ppshs_j {j : Int} (h1 : j ≠ 47) : ∀ (s : List Int) (h : xH), ppshs h s 66 j = h 66 j
  | [], _ => rfl
  | v :: s, h => by
    show ppshs (ppsh h v) s 66 j = _
    rw [ppshs_j h1 s, ppsh_j h1]
theorem ppshs_p : ∀ (s : List Int) (h : xH) (j : Int), j < h 66 47 → ppshs h s 97 j = h 97 j
  | [], _, _, _ => rfl
  | v :: s, h, j, hj => by
    show ppshs (ppsh h v) s 97 j = _
    rw [ppshs_p s (ppsh h v) j (by rw [ppsh_l]; omega), ppsh_p, if_neg (by omega)]
theorem ppshs_k : ∀ (s : List Int) (h : xH), STK (ppshs h s 97) (h 66 47) s.reverse
  | [], _ => trivial
  | v :: s, h => by
    show STK (ppshs (ppsh h v) s 97) (h 66 47) (v :: s).reverse
    rw [List.reverse_cons]
    have i := ppshs_k s (ppsh h v)
    rw [ppsh_l] at i
    refine STK_app _ i ?_
    rw [ppshs_p s (ppsh h v) _ (by rw [ppsh_l]; omega), ppsh_p, if_pos rfl]
/-- a code that lays others -/
theorem DZ_push {m : Int} {l t : List Int} (hl : PL (DZ h0 d b Q f0 m) l.reverse t) (h : xH) (y : Option xV) (o : OKH h0 h) (p1 : 1 ≤ h 66 47) (p2 : h 66 47 - 1 + (l.length : Nat) + m ≤ 400) (w0 : 0 ≤ h 66 45) (w1 : h 66 45 + (t.length : Nat) + 3 ≤ 1024) (k : ∀ (h' : xH) (y' : Option xV), PW h h' (h 66 47 - 1) t → Lp d b Q f0 y' h') : Lp d b Q f0 y (ppshs (xup h 66 47 (h 66 47 - 1)) l) := by
  have e47 : xup h 66 47 (h 66 47 - 1) 66 47 = h 66 47 - 1 := xup_s
  have e45 : xup h 66 47 (h 66 47 - 1) 66 45 = h 66 45 := by unfold xup; rw [if_pos rfl, if_neg (by decide)]
  have st := ppshs_k l (xup h 66 47 (h 66 47 - 1))
  rw [e47] at st
  have oa : ∀ a, a ≠ 66 → a ≠ 97 → ppshs (xup h 66 47 (h 66 47 - 1)) l a = h a := fun a q1 q2 => by rw [ppshs_o q1 q2, xup_o _ _ _ _ a q1]
  have oj : ∀ j, j ≠ 47 → ppshs (xup h 66 47 (h 66 47 - 1)) l 66 j = h 66 j := fun j q1 => by
    rw [ppshs_j q1]
    unfold xup
    rw [if_pos rfl, if_neg q1]
  refine DZ_list hl _ y (h 66 47 - 1) (fun a q1 q2 q3 => ?_) (by omega) ?_ st ?_ ?_ ?_ (fun h' y' pw => ?_)
  · rw [oa a q1 q3]; exact o a q1 q2 q3
  · rw [ppshs_l, e47, List.length_reverse]
  · rw [List.length_reverse]; omega
  · rw [oj 45 (by decide)]; exact w0
  · rw [oj 45 (by decide)]; exact w1
  · obtain ⟨a1, a2, a3, a4, a5, a6⟩ := pw
    refine k h' y' ⟨fun a q1 q2 q3 => (a1 a q1 q2 q3).trans (oa a q1 q3), fun j q1 q2 => (a2 j q1 q2).trans (oj j q2), fun j q => (a3 j q).trans ?_, a4, ?_, ?_⟩
    · rw [ppshs_p l _ _ (by rw [e47]; exact q), xup_o _ _ _ _ 97 (by decide)]
    · rw [a5, oj 45 (by decide)]
    · rw [a6, oj 45 (by decide), oa 96 (by decide) (by decide)]
theorem wrd_r (s : List Int) : (wrd s).reverse = s.map (fun v => 3000 + v) := by
  unfold wrd
  rw [← List.map_reverse, List.reverse_reverse]
theorem wrU_b (k : Int) : ∀ v ∈ wrU k, 0 ≤ v ∧ v ≤ 127 := by
  unfold wrU
  split
  · decide
  split
  · decide
  · decide
theorem sgB_b (k : Int) : 0 ≤ sgB k ∧ sgB k ≤ 127 := by
  unfold sgB sgc
  split
  · omega
  split
  · omega
  split
  · omega
  split
  · omega
  split <;> omega
/-- an EXPRESSION on the pile -/
theorem DZ_E1 {m k c1 c2 c3 : Int} {f : Int → List Int} (hm : 1 ≤ m) (hk : 0 ≤ k ∧ k < 301) (e1 : h0 69 k = c1) (e2 : h0 70 k = c2) (e3 : ¬ (c1 = 5 ∨ c1 = 8 ∨ c1 = 9) → c1 ≤ 9 → h0 71 k = c3) (r1 : 0 ≤ c1 ∧ c1 ≤ 11) (r2 : c1 = 10 → 0 ≤ c2 ∧ c2 ≤ 2) (r3 : c1 = 11 → -99 ≤ c2 ∧ c2 ≤ 99) (d1 : c1 ≤ 9 → DZ h0 d b Q f0 m c2 (f c2)) (d2 : c1 ≤ 9 → ¬ (c1 = 5 ∨ c1 = 8 ∨ c1 = 9) → DZ h0 d b Q f0 m c3 (f c3)) : DZ h0 d b Q f0 (m + 8) k (tx1 c1 c2 c3 f) := fun h y o p1 p2 hc w0 w1 K => by
  have g1 : h 69 k = c1 := by rw [o 69 (by decide) (by decide) (by decide)]; exact e1
  have g2 : h 70 k = c2 := by rw [o 70 (by decide) (by decide) (by decide)]; exact e2
  have g3 : ¬ (c1 = 5 ∨ c1 = 8 ∨ c1 = 9) → c1 ≤ 9 → h 71 k = c3 := fun a b => by rw [o 71 (by decide) (by decide) (by decide)]; exact e3 a b
  refine it_E d b f0 y h k hc hk (by rw [g1]; exact r1) (by rw [g1, g2]; exact r2) (by rw [g1, g2]; exact r3) (by omega) (by omega) (by omega) (fun y9 => ?_)
  rw [g1, g2]
  have t9 : ((tx1 c1 c2 c3 f).length : Int) ≤ 1024 := by omega
  by_cases a : c1 = 10
  · have et : tx1 c1 c2 c3 f = [120 + c2] := by unfold tx1; rw [if_pos a]
    have ew : wxE (xup h 66 47 (h 66 47 - 1)) c1 c2 (h 71 k) = padds (xup h 66 47 (h 66 47 - 1)) [120 + c2] := by unfold wxE; rw [if_pos a]; rfl
    rw [et] at K
    rw [ew]
    exact K _ y9 (PW_t _ rfl)
  by_cases a2 : c1 = 11
  · have et : tx1 c1 c2 c3 f = dgt c2 := by unfold tx1; rw [if_neg a, if_pos a2]
    have ew : wxE (xup h 66 47 (h 66 47 - 1)) c1 c2 (h 71 k) = padds (xup h 66 47 (h 66 47 - 1)) (dgt c2) := by unfold wxE; rw [if_neg a, if_pos a2]
    rw [et] at K
    rw [ew]
    exact K _ y9 (PW_t _ rfl)
  by_cases a3 : c1 = 5 ∨ c1 = 8 ∨ c1 = 9
  · have et : tx1 c1 c2 c3 f = wrU c1 ++ f c2 ++ [41] := by unfold tx1; rw [if_neg a, if_neg a2, if_pos a3]
    have ew : wxE (xup h 66 47 (h 66 47 - 1)) c1 c2 (h 71 k) = ppshs (xup h 66 47 (h 66 47 - 1)) ([3041, c2] ++ wrd (wrU c1)) := by unfold wxE; rw [if_neg a, if_neg a2, if_pos a3]
    rw [et] at K w1
    rw [ew]
    have pl : PL (DZ h0 d b Q f0 m) ([3041, c2] ++ wrd (wrU c1)).reverse (wrU c1 ++ f c2 ++ [41]) := by
      rw [List.reverse_append, wrd_r, List.append_assoc]
      exact (PL_w hm _ (wrU_b c1)).app (PL.cons (d1 (by omega)) (PL.one ((DZ_B (v := 41) (by omega)).up hm)))
    have ln : (wrU c1).length ≤ 4 := wrU_r c1
    refine DZ_push pl h y9 o p1 ?_ w0 w1 K
    rw [List.length_append, show (wrd (wrU c1)).length = (wrU c1).length by unfold wrd; rw [List.length_map, List.length_reverse]]
    simp only [List.length_cons, List.length_nil]
    omega
  · have et : tx1 c1 c2 c3 f = (if c1 = 3 then [109, 105, 110] else if c1 = 4 then [109, 97, 120] else []) ++ ([40] ++ (f c2 ++ ([sgB c1] ++ (f c3 ++ [41])))) := by
      unfold tx1
      rw [if_neg a, if_neg a2, if_neg a3]
      simp only [List.append_assoc]
    have ew : wxE (xup h 66 47 (h 66 47 - 1)) c1 c2 (h 71 k) = ppshs (xup h 66 47 (h 66 47 - 1)) ([3041, c3, 3000 + sgB c1, c2, 3040] ++ wrB c1) := by unfold wxE; rw [if_neg a, if_neg a2, if_neg a3, g3 a3 (by omega)]
    rw [et] at K w1
    rw [ew]
    have plB : PL (DZ h0 d b Q f0 m) (wrB c1).reverse (if c1 = 3 then [109, 105, 110] else if c1 = 4 then [109, 97, 120] else []) := by
      unfold wrB
      by_cases z3 : c1 = 3
      · rw [if_pos z3, if_pos z3, wrd_r]; exact PL_w hm _ (by decide)
      by_cases z4 : c1 = 4
      · rw [if_neg z3, if_neg z3, if_pos z4, if_pos z4, wrd_r]; exact PL_w hm _ (by decide)
      · rw [if_neg z3, if_neg z3, if_neg z4, if_neg z4]; exact PL.nil
    have lnB : (wrB c1).length ≤ 3 := by
      unfold wrB
      split
      · decide
      split
      · decide
      · decide
    have pl : PL (DZ h0 d b Q f0 m) ([3041, c3, 3000 + sgB c1, c2, 3040] ++ wrB c1).reverse ((if c1 = 3 then [109, 105, 110] else if c1 = 4 then [109, 97, 120] else []) ++ ([40] ++ (f c2 ++ ([sgB c1] ++ (f c3 ++ [41]))))) := by
      rw [List.reverse_append]
      exact plB.app (PL.cons ((DZ_B (v := 40) (by omega)).up hm) (PL.cons (d1 (by omega)) (PL.cons ((DZ_B (sgB_b c1)).up hm) (PL.cons (d2 (by omega) a3) (PL.one ((DZ_B (v := 41) (by omega)).up hm))))))
    refine DZ_push pl h y9 o p1 ?_ w0 w1 K
    rw [List.length_append]
    simp only [List.length_cons, List.length_nil]
    omega
/-- a TEST on the pile -/
theorem DZ_T1 {m k c1 c2 c3 : Int} {f g : Int → List Int} (hm : 1 ≤ m) (hk : 0 ≤ k ∧ k < 151) (e1 : h0 79 k = c1) (e2 : h0 80 k = c2) (e3 : c1 ≠ 2 → h0 81 k = c3) (r1 : 0 ≤ c1 ∧ c1 ≤ 3) (d1 : c1 ≤ 1 → DZ h0 d b Q f0 m c2 (f c2) ∧ DZ h0 d b Q f0 m c3 (f c3)) (d2 : 2 ≤ c1 → DZ h0 d b Q f0 m (1000 + c2) (g c2)) (d3 : c1 = 3 → DZ h0 d b Q f0 m (1000 + c3) (g c3)) : DZ h0 d b Q f0 (m + 8) (1000 + k) (tt1 c1 c2 c3 f g) := fun h y o p1 p2 hc w0 w1 K => by
  have g1 : h 79 k = c1 := by rw [o 79 (by decide) (by decide) (by decide)]; exact e1
  have g2 : h 80 k = c2 := by rw [o 80 (by decide) (by decide) (by decide)]; exact e2
  have g3 : c1 ≠ 2 → h 81 k = c3 := fun a => by rw [o 81 (by decide) (by decide) (by decide)]; exact e3 a
  refine it_T d b f0 y h k hc hk (by rw [g1]; exact r1) (by omega) (by omega) (fun y9 => ?_)
  rw [g1, g2]
  by_cases a : c1 = 2
  · have et : tt1 c1 c2 c3 f g = [33, 40] ++ (g c2 ++ [41]) := by unfold tt1; rw [if_pos a, List.append_assoc]
    have ew : wxT (xup h 66 47 (h 66 47 - 1)) c1 c2 (h 81 k) = ppshs (xup h 66 47 (h 66 47 - 1)) ([3041, 1000 + c2] ++ wrd [33, 40]) := by unfold wxT; rw [if_pos a]
    rw [et] at K w1
    rw [ew]
    have pl : PL (DZ h0 d b Q f0 m) ([3041, 1000 + c2] ++ wrd [33, 40]).reverse ([33, 40] ++ (g c2 ++ [41])) := by
      rw [List.reverse_append, wrd_r]
      exact (PL_w hm _ (by decide)).app (PL.cons (d2 (by omega)) (PL.one ((DZ_B (v := 41) (by omega)).up hm)))
    exact DZ_push pl h y9 o p1 (by show h 66 47 - 1 + ((4 : Nat) : Int) + m ≤ 400; omega) w0 w1 K
  by_cases a3 : c1 = 3
  · have et : tt1 c1 c2 c3 f g = [40] ++ (g c2 ++ ([38] ++ (g c3 ++ [41]))) := by unfold tt1; rw [if_neg a, if_pos a3]; simp only [List.append_assoc]
    have ew : wxT (xup h 66 47 (h 66 47 - 1)) c1 c2 (h 81 k) = ppshs (xup h 66 47 (h 66 47 - 1)) [3041, 1000 + c3, 3000 + 38, 1000 + c2, 3000 + 40] := by unfold wxT; rw [if_neg a, if_pos a3, g3 a]
    rw [et] at K w1
    rw [ew]
    have pl : PL (DZ h0 d b Q f0 m) ([3041, 1000 + c3, 3000 + 38, 1000 + c2, 3000 + 40] : List Int).reverse ([40] ++ (g c2 ++ ([38] ++ (g c3 ++ [41])))) :=
      PL.cons ((DZ_B (v := 40) (by omega)).up hm) (PL.cons (d2 (by omega)) (PL.cons ((DZ_B (v := 38) (by omega)).up hm) (PL.cons (d3 a3) (PL.one ((DZ_B (v := 41) (by omega)).up hm)))))
    exact DZ_push pl h y9 o p1 (by show h 66 47 - 1 + ((5 : Nat) : Int) + m ≤ 400; omega) w0 w1 K
  · have et : tt1 c1 c2 c3 f g = [40] ++ (f c2 ++ ([if c1 = 0 then 60 else 61] ++ (f c3 ++ [41]))) := by unfold tt1; rw [if_neg a, if_neg a3]; simp only [List.append_assoc]
    have ew : wxT (xup h 66 47 (h 66 47 - 1)) c1 c2 (h 81 k) = ppshs (xup h 66 47 (h 66 47 - 1)) [3041, c3, 3000 + (if c1 = 0 then 60 else 61), c2, 3000 + 40] := by unfold wxT; rw [if_neg a, if_neg a3, g3 a]
    rw [et] at K w1
    rw [ew]
    have d9 := d1 (by omega)
    have pl : PL (DZ h0 d b Q f0 m) ([3041, c3, 3000 + (if c1 = 0 then 60 else 61), c2, 3000 + 40] : List Int).reverse ([40] ++ (f c2 ++ ([if c1 = 0 then 60 else 61] ++ (f c3 ++ [41])))) :=
      PL.cons ((DZ_B (v := 40) (by omega)).up hm) (PL.cons d9.1 (PL.cons ((DZ_B (v := if c1 = 0 then 60 else 61) (by split <;> omega)).up hm) (PL.cons d9.2 (PL.one ((DZ_B (v := 41) (by omega)).up hm)))))
    exact DZ_push pl h y9 o p1 (by show h 66 47 - 1 + ((5 : Nat) : Int) + m ≤ 400; omega) w0 w1 K
/-- a node on the pile -/
theorem DZ_N1 {m nd a l : Int} {S T : xH} {N : Int → List Int} (hm : 1 ≤ m) (hk : 0 ≤ nd ∧ nd ≤ 14) (e1 : h0 105 (nd + 1) = a) (e2 : h0 106 (nd + 1) = l) (r1 : xr a) (d1 : a = -1 → DZ h0 d b Q f0 m l (TE S l)) (d2 : ¬ a = -1 → DZ h0 d b Q f0 m (1000 + a) (TT S T a) ∧ DZ h0 d b Q f0 m (2000 + (2 * nd + 1 + 1)) (N (2 * nd + 1)) ∧ DZ h0 d b Q f0 m (2000 + (2 * nd + 2 + 1)) (N (2 * nd + 2))) : DZ h0 d b Q f0 (m + 8) (2000 + (nd + 1)) (tn1 S T N a l nd) := fun h y o p1 p2 hc w0 w1 K => by
  have g1 : h 105 (nd + 1) = a := by rw [o 105 (by decide) (by decide) (by decide)]; exact e1
  have g2 : h 106 (nd + 1) = l := by rw [o 106 (by decide) (by decide) (by decide)]; exact e2
  refine it_N d b f0 y h (nd + 1) hc (by omega) (by rw [g1]; exact r1) (by omega) (by omega) (fun y9 => ?_)
  rw [g1, g2]
  by_cases z : a = -1
  · have ew : wxN (xup h 66 47 (h 66 47 - 1)) a l (nd + 1) = ppshs (xup h 66 47 (h 66 47 - 1)) [l] := by unfold wxN; rw [if_pos z]; rfl
    rw [tn_p z] at K w1
    rw [ew]
    exact DZ_push (l := [l]) (PL.one (d1 z)) h y9 o p1 (by show h 66 47 - 1 + ((1 : Nat) : Int) + m ≤ 400; omega) w0 w1 K
  · have et : tn1 S T N a l nd = [91] ++ (TT S T a ++ ([63] ++ (N (2 * nd + 1) ++ ([58] ++ (N (2 * nd + 2) ++ [93]))))) := by rw [tn_n z]; simp only [List.append_assoc]
    have ew : wxN (xup h 66 47 (h 66 47 - 1)) a l (nd + 1) = ppshs (xup h 66 47 (h 66 47 - 1)) [3093, 2000 + 2 * (nd + 1) + 1, 3058, 2000 + 2 * (nd + 1), 3063, 1000 + a, 3091] := by unfold wxN; rw [if_neg z]
    rw [et] at K w1
    rw [ew]
    obtain ⟨q1, q2, q3⟩ := d2 z
    rw [show 2000 + (2 * nd + 1 + 1) = 2000 + 2 * (nd + 1) by omega] at q2
    rw [show 2000 + (2 * nd + 2 + 1) = 2000 + 2 * (nd + 1) + 1 by omega] at q3
    have pl : PL (DZ h0 d b Q f0 m) ([3093, 2000 + 2 * (nd + 1) + 1, 3058, 2000 + 2 * (nd + 1), 3063, 1000 + a, 3091] : List Int).reverse ([91] ++ (TT S T a ++ ([63] ++ (N (2 * nd + 1) ++ ([58] ++ (N (2 * nd + 2) ++ [93])))))) :=
      PL.cons ((DZ_B (v := 91) (by omega)).up hm) (PL.cons q1 (PL.cons ((DZ_B (v := 63) (by omega)).up hm) (PL.cons q2 (PL.cons ((DZ_B (v := 58) (by omega)).up hm) (PL.cons q3 (PL.one ((DZ_B (v := 93) (by omega)).up hm)))))))
    exact DZ_push pl h y9 o p1 (by show h 66 47 - 1 + ((7 : Nat) : Int) + m ≤ 400; omega) w0 w1 K
end
