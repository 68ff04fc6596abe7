/-- after the reference's GROWTH of EXPRESSIONS -/
theorem RI_ge {h h1 g g' S S1 T : xH} (h4 : T 0 0 ≤ 150) (f1 : FA h h1) (fs : FS g g') (r : RI h g S T) (de : DE h1 g' S1) : RI h1 g' S1 T := by
  obtain ⟨a, b, c, d, x⟩ := r
  obtain ⟨s1, s2, s3, s4, s5, s6⟩ := fs
  have m : ∀ j, (j ≠ 8 ∧ j ≠ 35 ∧ j ≠ 36 ∧ j ≠ 37 ∧ j ≠ 39 ∧ j ≠ 40 ∧ j ≠ 41) → g' 66 j = g 66 j := fun j z => s2 j z.1 z.2.1 z.2.2.1 z.2.2.2.1 z.2.2.2.2.1 z.2.2.2.2.2.1 z.2.2.2.2.2.2
  have e : ∀ a, (a < 9 ∨ 27 < a) → h1 a = h a := f1.1
  have a' := DB_fr ⟨m 4 (by decide), m 1 (by decide), m 6 (by decide), m 3 (by decide), m 2 (by decide)⟩ (s1 _ (by decide)) (s1 _ (by decide)) a
  have c' := DT_fr h4 (m 19 (by decide)) (m 33 (by decide)) s3 (fun k _ => ⟨by rw [s1 79 (by decide)], by rw [s1 80 (by decide)], by rw [s1 81 (by decide)]⟩) (fun a z1 z2 => s1 a (by omega)) ⟨s4, s6, s5⟩ c
  have d' := DP_fr ⟨m 50 (by decide), m 60 (by decide), m 51 (by decide)⟩ (s1 _ (by decide)) (s1 _ (by decide)) d
  have x' := DX_fr (m 45 (by decide)) (s1 _ (by decide)) x
  refine ⟨?_, de, ?_, ?_, ?_⟩
  · unfold DB; rw [e 1 (by decide), e 3 (by decide), e 4 (by decide), e 5 (by decide), e 6 (by decide), e 7 (by decide), e 8 (by decide), e 0 (by decide)]; exact a'
  · unfold DT; rw [e 28 (by decide)]; exact c'
  · unfold DP; rw [e 56 (by decide), e 57 (by decide), e 58 (by decide)]; exact d'
  · unfold DX; rw [e 64 (by decide), e 65 (by decide)]; exact x'
theorem RI_gt {h h1 g g' S T T1 : xH} (h3 : S 0 0 ≤ 300) (f1 : FB h h1) (fs : FST g g') (r : RI h g S T) (dt : DT h1 g' T1) : RI h1 g' S T1 := by
  obtain ⟨a, b, c, d, x⟩ := r
  obtain ⟨s1, s2, s3, s4, s5, s6⟩ := fs
  have m : ∀ j, (j ≠ 19 ∧ j ≠ 33 ∧ j ≠ 35 ∧ j ≠ 36 ∧ j ≠ 37 ∧ j ≠ 39 ∧ j ≠ 40 ∧ j ≠ 41) → g' 66 j = g 66 j := fun j z => s2 j z.1 z.2.1 z.2.2.1 z.2.2.2.1 z.2.2.2.2.1 z.2.2.2.2.2.1 z.2.2.2.2.2.2.1 z.2.2.2.2.2.2.2
  have e : ∀ a, (a < 28 ∨ 43 < a) → h1 a = h a := f1
  have a' := DB_fr ⟨m 4 (by decide), m 1 (by decide), m 6 (by decide), m 3 (by decide), m 2 (by decide)⟩ (s1 _ (by decide)) (s1 _ (by decide)) a
  have b' := DE_fr h3 (m 8 (by decide)) (m 4 (by decide)) s3 (fun k _ => ⟨by rw [s1 69 (by decide)], by rw [s1 70 (by decide)], by rw [s1 71 (by decide)]⟩) (fun a z1 z2 => s1 a (by omega)) ⟨s4, s6, s5⟩ b
  have d' := DP_fr ⟨m 50 (by decide), m 60 (by decide), m 51 (by decide)⟩ (s1 _ (by decide)) (s1 _ (by decide)) d
  have x' := DX_fr (m 45 (by decide)) (s1 _ (by decide)) x
  refine ⟨?_, ?_, dt, ?_, ?_⟩
  · unfold DB; rw [e 1 (by decide), e 3 (by decide), e 4 (by decide), e 5 (by decide), e 6 (by decide), e 7 (by decide), e 8 (by decide), e 0 (by decide)]; exact a'
  · unfold DE; rw [e 9 (by decide)]; exact b'
  · unfold DP; rw [e 56 (by decide), e 57 (by decide), e 58 (by decide)]; exact d'
  · unfold DX; rw [e 64 (by decide), e 65 (by decide)]; exact x'
theorem CI_ge {h h1 S S1 T : xH} (c : CI h S T) (ce : CE h1 S1) (st : STB S S1) (f : FA h h1) : CI h1 S1 T := by
  obtain ⟨a, b, c, d, s, x⟩ := c
  have e : ∀ a, (a < 9 ∨ 27 < a) → h1 a = h a := f.1
  exact ⟨CB_fr (fun a z => e a (by omega)) a, ce, CT_fr st (fun a z => e a (by omega)) c, CP_fr st (STB.rf _) (fun a z => e a (by omega)) d, IS_fr st (STB.rf _) (fun a z1 z2 => e a (by omega)) (e 1 (by decide)) s, CX_fr (e _ (by decide)) x⟩
theorem CI_gt {h h1 S T T1 : xH} (c : CI h S T) (ct : CT h1 S T1) (st : STB T T1) (f : FB h h1) : CI h1 S T1 := by
  obtain ⟨a, b, c, d, s, x⟩ := c
  have e : ∀ a, (a < 28 ∨ 43 < a) → h1 a = h a := f
  exact ⟨CB_fr (fun a z => e a (by omega)) a, CE_fr (fun a z => e a (by omega)) b, ct, CP_fr (STB.rf _) st (fun a z => e a (by omega)) d, IS_fr (STB.rf _) st (fun a z1 z2 => e a (by omega)) (e 1 (by decide)) s, CX_fr (e _ (by decide)) x⟩
/-- the class has gone ahead: what of the reference is still as it was -/
theorem RI_go {h h1 g S T : xH} (h3 : S 0 0 ≤ 300) (h4 : T 0 0 ≤ 150) (k : ∀ a, 66 ≤ a → h1 a = h a) (f : FM h1 g) (r : RI h h S T) : RI h g S T := by
  have r1 : RI h h1 S T := by
    unfold RI DB DE DT DP DX RR RRT at *
    rw [k 66 (by decide), k 67 (by decide), k 68 (by decide), k 69 (by decide), k 70 (by decide), k 71 (by decide), k 72 (by decide), k 73 (by decide), k 74 (by decide), k 75 (by decide), k 76 (by decide), k 77 (by decide), k 78 (by decide), k 79 (by decide), k 80 (by decide), k 81 (by decide), k 82 (by decide), k 83 (by decide), k 84 (by decide), k 85 (by decide), k 86 (by decide), k 87 (by decide), k 88 (by decide), k 89 (by decide), k 90 (by decide), k 91 (by decide), k 96 (by decide), k 105 (by decide), k 106 (by decide)]
    exact r
  exact FM_RI h3 h4 f r1
theorem FM_cl {g g' : xH} (f : FM g g') : ∀ a, a < 59 → g' a = g a := fun a z => f.1 a (by unfold scr; omega) (by omega) (by omega) (by omega) (by omega) (by omega) (by omega) (by omega)
set_option maxHeartbeats 1000000 in
theorem CO_grow0 (d : Nat) {h : xH} (hI : Inv h)  : CO (d + 9) 0 104 191 [.inl 0] [] h := by
  obtain ⟨S, T, ci, ri⟩ := Inv_i.mp hI
  obtain ⟨cb, ce, ct, cp, is_, cx⟩ := id ci
  have h3 : S 0 0 ≤ 300 := ce.2.1.2.1
  have h4 : T 0 0 ≤ 150 := ct.2.1.2.1
  have hmm : 0 ≤ h 0 9 ∧ h 0 9 ≤ 20000 := by have := cb.2.2.2.2.2; omega
  have m2 : h 66 2 = h 0 9 := ri.1.2.2.2.2.1
  refine o_grow0 d h (a_ge d 0 h S (h 0 9) cb ce hmm (fun r h1 S1 G ce1 st f1 => ⟨r, rfl, fun u => ?_⟩))
  have k : ∀ a, 66 ≤ a → h1 a = h a := fun a z => f1.1 a (by omega)
  have r1 := RI_go (g := xup (xup (xup h1 112 0 u) 66 0 0) 66 35 (h1 66 2)) h3 h4 k ((((FM.rf h1).up (Or.inl (by unfold scr; decide))).up (Or.inr ⟨rfl, by unfold mdf; decide⟩)).up (Or.inr ⟨rfl, by unfold mdf; decide⟩)) ri
  refine m_grow0 (d + 2) 0 (xup h1 112 0 u) (b_ge (d + 2) 0 h (xup (xup (xup h1 112 0 u) 66 0 0) 66 35 (h1 66 2)) S (h 0 9) cb ce r1.1 r1.2.1 (by rw [xup_s, k _ (by decide)]; exact m2) hmm G (fun g de fs _ => ⟨r, rfl, ?_⟩))
  refine ⟨Inv_mk (fun a z => ?_) (CI_ge ci ce1 st f1) (RI_ge h4 f1 fs r1 de), ?_, AG_v ?_ rfl⟩
  · rw [fs.1 a (by omega), xup_o _ _ _ _ a (by omega), xup_o _ _ _ _ a (by omega), xup_o _ _ _ _ a (by omega)]
  · rw [fs.1 _ (by decide)]; rfl
  · rw [fs.2.1 _ (by decide) (by decide) (by decide) (by decide) (by decide) (by decide) (by decide)]; rfl
set_option maxHeartbeats 1000000 in
theorem CO_grow1 (d : Nat) {h : xH} (hI : Inv h)  : CO (d + 9) 0 104 191 [.inl 1] [] h := by
  obtain ⟨S, T, ci, ri⟩ := Inv_i.mp hI
  obtain ⟨cb, ce, ct, cp, is_, cx⟩ := id ci
  have h3 : S 0 0 ≤ 300 := ce.2.1.2.1
  have h4 : T 0 0 ≤ 150 := ct.2.1.2.1
  have hmm : 0 ≤ h 0 9 ∧ h 0 9 ≤ 20000 := by have := cb.2.2.2.2.2; omega
  have m2 : h 66 2 = h 0 9 := ri.1.2.2.2.2.1
  refine o_grow1 d h (a_gt d 0 h S T (h 0 9) cb ce ct hmm (fun r h1 T1 G ct1 st f1 => ⟨r, rfl, fun u => ?_⟩))
  have k : ∀ a, 66 ≤ a → h1 a = h a := fun a z => f1 a (by omega)
  have r1 := RI_go (g := xup (xup (xup h1 112 0 u) 66 0 0) 66 35 (h1 66 2)) h3 h4 k ((((FM.rf h1).up (Or.inl (by unfold scr; decide))).up (Or.inr ⟨rfl, by unfold mdf; decide⟩)).up (Or.inr ⟨rfl, by unfold mdf; decide⟩)) ri
  refine m_grow1 (d + 2) 0 (xup h1 112 0 u) (b_gt (d + 2) 0 h (xup (xup (xup h1 112 0 u) 66 0 0) 66 35 (h1 66 2)) S T (h 0 9) cb ce ct r1.1 r1.2.1.1 r1.2.2.1 (by rw [xup_s, k _ (by decide)]; exact m2) hmm G (fun g dt fs _ => ⟨r, rfl, ?_⟩))
  refine ⟨Inv_mk (fun a z => ?_) (CI_gt ci ct1 st f1) (RI_gt h3 f1 fs r1 dt), ?_, AG_v ?_ rfl⟩
  · rw [fs.1 a (by omega), xup_o _ _ _ _ a (by omega), xup_o _ _ _ _ a (by omega), xup_o _ _ _ _ a (by omega)]
  · rw [fs.1 _ (by decide)]; rfl
  · rw [fs.2.1 _ (by decide) (by decide) (by decide) (by decide) (by decide) (by decide) (by decide) (by decide)]; rfl
