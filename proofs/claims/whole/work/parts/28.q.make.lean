theorem xrem2 : ∀ t : Fin 65, xrem ((t.val : Nat) : Int) 2 = ((t.val : Nat) : Int) % 2 := by decide +kernel
theorem xrem_2 {t : Int} (h0 : 0 ≤ t) (h1 : t ≤ 64) : xrem t 2 = t % 2 := by
  have := xrem2 ⟨t.toNat, by omega⟩
  rw [show t = ((t.toNat : Nat) : Int) by omega]
  exact this
theorem GE_f {h S h' S' : xH} {mm r : Int} (cb : CB h) (ce : CE h S) (hmm : 0 ≤ mm ∧ mm ≤ 20000) (G : GEr h S mm r h' S') : (0 ≤ r ∧ r ≤ 3) ∧ (r = 0 → h' 9 13 = h 9 13 + 1) ∧ (r ≠ 2 → 0 ≤ mm - (S' 0 2 - S 0 2) ∧ mm - (S' 0 2 - S 0 2) ≤ 20000) := by
  rcases G with ⟨rfl, -, rfl, rfl⟩ | ⟨rfl, -, -, rfl, rfl⟩ | ⟨rfl, -⟩ | ⟨rfl, -, q2, q3, q4, rfl, q6, q7⟩
  · omega
  · omega
  · omega
  · obtain ⟨w, -, e, -⟩ := mz_F cb ce hmm q2 q3
    obtain ⟨-, -, -, -, -, -, -, -, w9, w10, w11, w12⟩ := w
    refine ⟨by omega, fun z => ?_, fun _ => by omega⟩
    rw [q6, if_neg (by omega)]
theorem GT_f {h S T h' T' : xH} {mm r : Int} (cb : CB h) (ce : CE h S) (ct : CT h S T) (hmm : 0 ≤ mm ∧ mm ≤ 20000) (G : GTr h T mm r h' T') : (0 ≤ r ∧ r ≤ 3) ∧ (r = 0 → h 28 13 + 1 ≤ h' 28 13) ∧ (r ≠ 2 → 0 ≤ mm - (T' 0 2 - T 0 2) ∧ mm - (T' 0 2 - T 0 2) ≤ 20000) := by
  rcases G with ⟨rfl, -, rfl, rfl⟩ | ⟨rfl, -, -, rfl, rfl⟩ | ⟨rfl, -⟩ | ⟨rfl, -, q2, q3, q4, rfl, q6, q7⟩
  · omega
  · omega
  · omega
  · obtain ⟨w, -, e, -⟩ := mz_T cb ce ct hmm q2 q3
    obtain ⟨-, -, -, -, -, -, -, -, w9, w10, w11, w12, -⟩ := w
    refine ⟨by omega, fun z => ?_, fun _ => by omega⟩
    rw [q6, if_neg (by omega)]
    unfold zT
    split <;> omega
/-- after a PROGRAM was sought -/
theorem SET_ci {h h' S T : xH} {m : Nat} {ifs : Int} (hi : 0 ≤ ifs ∧ ifs ≤ 3) (ci : CI h S T) (hm : m = (h 1 2).toNat) (s : SETP h h' S T m ifs) : CI h' S T := by
  obtain ⟨s1, s2, s3⟩ := s
  subst hm
  have o := OKS_ci ci
  have x1 : h' 1 = h 1 := s1 _ (by omega)
  have n1 : 0 ≤ h 1 2 ∧ h 1 2 ≤ 12 := ci.1.1
  exact CI_sv ci (fun a z => s1 a (by omega)) (CP_TV o hi s3) (IS_of (m := (h 1 2).toNat) (by rw [x1]; exact n1.1) (by rw [x1]) (Or.inl rfl) s2)
def LV (hh : xH) (mE mT turn : Int) : Prop := (mE = 1 → (turn + 1) / 2 ≤ hh 9 13) ∧ (mT = 1 → turn / 2 ≤ hh 28 13)
theorem LV_end {hh : xH} {mE mT turn : Int} (l : LV hh mE mT turn) (lE : 0 ≤ hh 9 13 ∧ hh 9 13 ≤ 9) (lT : hh 28 13 = 0 ∨ (3 ≤ hh 28 13 ∧ hh 28 13 ≤ 7)) (z : 64 ≤ turn) : ¬ (mE = 1 ∨ mT = 1) := by
  obtain ⟨l1, l2⟩ := l
  rintro (y | y)
  · have := l1 y; omega
  · have := l2 y; omega
theorem LV_k {hh : xH} {mE mT turn : Int} (l : LV hh mE mT turn) (z : (turn % 2 = 0 ∧ mE = 0) ∨ (turn % 2 = 1 ∧ mT = 0)) : LV hh mE mT (turn + 1) := by
  obtain ⟨l1, l2⟩ := l
  exact ⟨fun y => by have := l1 y; omega, fun y => by have := l2 y; omega⟩
theorem LV_E {hh h1 h2 : xH} {mE mT turn r e2 t2 : Int} (l : LV hh mE mT turn) (z : turn % 2 = 0) (m1 : mE = 1) (a : r = 0 → h1 9 13 = hh 9 13 + 1) (b : h1 28 = hh 28) (c : h2 9 = h1 9) (e : h2 28 = h1 28) (f : e2 = 1 → r = 0) (g : t2 = mT) : LV h2 e2 t2 (turn + 1) := by
  obtain ⟨l1, l2⟩ := l
  exact ⟨fun y => by rw [c, a (f y)]; have := l1 m1; omega, fun y => by rw [e, b]; have := l2 (by omega); omega⟩
theorem LV_T {hh h1 h2 : xH} {mE mT turn r e2 t2 : Int} (l : LV hh mE mT turn) (z : turn % 2 = 1) (m1 : mT = 1) (a : r = 0 → hh 28 13 + 1 ≤ h1 28 13) (b : h1 9 = hh 9) (c : h2 9 = h1 9) (e : h2 28 = h1 28) (f : t2 = 1 → r = 0) (g : e2 = mE) : LV h2 e2 t2 (turn + 1) := by
  obtain ⟨l1, l2⟩ := l
  exact ⟨fun y => by rw [c, b]; have := l1 (by omega); omega, fun y => by rw [e]; have := a (f y); have := l2 m1; omega⟩
/-- as make goes on, turn by turn -/
def MKI (h hh SS TT : xH) (left mE mT turn sz : Int) : Prop := CI hh SS TT ∧ hh 1 = h 1 ∧ (0 ≤ left ∧ left ≤ 20000) ∧ (mE = 0 ∨ mE = 1) ∧ (mT = 0 ∨ mT = 1) ∧ (0 ≤ turn ∧ turn ≤ 64) ∧ LV hh mE mT turn ∧ (-1 ≤ sz ∧ sz < 1000000)
set_option maxHeartbeats 4000000 in
theorem o_make (d  : Nat) (h S T : xH) (ifs : Int) (hx : xr ifs) (ci : CI h S T) (m : Nat) (hm : m = (h 1 2).toNat) (P : xH → xH → xH → Int → Int → Int → Int → Int → Prop) {Q : xO → xH → Prop} (hA : ¬ (0 ≤ ifs ∧ ifs ≤ 3) → Q (.inr "java/lang/IllegalArgumentException") h) (hS : (0 ≤ ifs ∧ ifs ≤ 3) → ¬ (h 1 2 ≠ 0) → Q (.inr "java/lang/IllegalStateException") h) (hP0 : (0 ≤ ifs ∧ ifs ≤ 3) → h 1 2 ≠ 0 → ∀ h1 mT, SETP h h1 S T m ifs → mT = (if ifs > 0 then 1 else 0) → P h1 S T (h 0 9) 1 mT 0 (sno (szf S T (S 0 0) (T 0 0) (-1) ifs.toNat (xshl 1 (h 1 2) - 1)))) (hPE : ∀ hh SS TT left mE mT r h1 S1 h2 left2 mE2 mT2 te2, P hh SS TT left mE mT 0 (-1) → CI hh SS TT → hh 1 = h 1 → (0 ≤ left ∧ left ≤ 20000) → mE = 1 → (mT = 0 ∨ mT = 1) → GEr hh SS left r h1 S1 → CE h1 S1 → STB SS S1 → FA hh h1 → r ≠ 2 → SETP h1 h2 S1 TT m ifs → left2 = left - (S1 0 2 - SS 0 2) → mE2 = (if r = 0 then 1 else 0) → mT2 = mT → te2 = 1 → P h2 S1 TT left2 mE2 mT2 te2 (sno (szf S1 TT (S1 0 0) (TT 0 0) (-1) ifs.toNat (xshl 1 (h1 1 2) - 1)))) (hPT : ∀ hh SS TT left mE mT r h1 T1 h2 left2 mE2 mT2 te2, P hh SS TT left mE mT 1 (-1) → CI hh SS TT → hh 1 = h 1 → (0 ≤ left ∧ left ≤ 20000) → mT = 1 → (mE = 0 ∨ mE = 1) → GTr hh TT left r h1 T1 → CT h1 SS T1 → STB TT T1 → FB hh h1 → r ≠ 2 → SETP h1 h2 SS T1 m ifs → left2 = left - (T1 0 2 - TT 0 2) → mT2 = (if r = 0 then 1 else 0) → mE2 = mE → te2 = 0 → P h2 SS T1 left2 mE2 mT2 te2 (sno (szf SS T1 (SS 0 0) (T1 0 0) (-1) ifs.toNat (xshl 1 (h1 1 2) - 1)))) (hPK : ∀ hh SS TT left mE mT te te2, P hh SS TT left mE mT te (-1) → ((te = 0 ∧ te2 = 1 ∧ mE = 0 ∧ mT = 1) ∨ (te = 1 ∧ te2 = 0 ∧ mT = 0 ∧ mE = 1)) → P hh SS TT left mE mT te2 (-1)) (hB0 : ∀ hh SS TT left mE mT h1 S1, P hh SS TT left mE mT 0 (-1) → CI hh SS TT → hh 1 = h 1 → (0 ≤ left ∧ left ≤ 20000) → mE = 1 → (mT = 0 ∨ mT = 1) → GEr hh SS left 2 h1 S1 → CE h1 S1 → STB SS S1 → FA hh h1 → Q (.inl (some (.inl (-2)))) h1) (hB1 : ∀ hh SS TT left mE mT h1 T1, P hh SS TT left mE mT 1 (-1) → CI hh SS TT → hh 1 = h 1 → (0 ≤ left ∧ left ≤ 20000) → mT = 1 → (mE = 0 ∨ mE = 1) → GTr hh TT left 2 h1 T1 → CT h1 SS T1 → STB TT T1 → FB hh h1 → Q (.inl (some (.inl (-2)))) h1) (hQ : ∀ hh SS TT left mE mT te sz, P hh SS TT left mE mT te sz → CI hh SS TT → ¬ (sz = -1 ∧ (mE = 1 ∨ mT = 1)) → (mE = 0 ∨ mE = 1) → (mT = 0 ∨ mT = 1) → Q (.inl (some (.inl sz))) hh) : xRn G0 MT (d + 10) 2 122 [.inr (.inr 0), .inl ifs] h Q := by
  refine R_of (M := mX11_make) rfl (Nat.le_of_ble_eq_true rfl) ?_
  show xEx G0 cdX11_make (some .int) (xRn G0 MT (d + 9)) Q 2 0 [some (.inr (.inr 0)), some (.inl ifs), none, none, none, none, none, none, none, none, none] [] h
  obtain ⟨v1, v2, v3, v4, v5, v6⟩ := EV_ci ci
  have hn : 0 ≤ h 1 2 ∧ h 1 2 ≤ 12 := ci.1.1
  have o : OKS S T (S 0 0) (T 0 0) m := hm ▸ OKS_ci ci
  have is0 : IS h S T := ci.2.2.2.2.1
  refine E_s 1 (i' := 1) (ls' := [some (.inr (.inr 0)), some (.inl ifs), none, none, none, none, none, none, none, none, none]) (sk' := [.inl ifs]) (h' := h) rfl ?_
  refine E_cx (x := (.invokestatic 282, 1, [(0, 151)], [])) (b1 := 1) (b2 := 1) (v := none) (q := fun h9 => (0 ≤ ifs ∧ ifs ≤ 3) ∧ h = h9) rfl rfl (Nat.le_of_ble_eq_true rfl) (fun z => by cases z) (c_refNoIfs (d + 8) h ifs hx (fun z9 => Or.inl ⟨rfl, z9, rfl⟩) (fun z9 => Or.inr ⟨_, rfl, hA z9⟩)) (fun h9 hq9 => ?_)
  obtain ⟨hi, rfl⟩ := hq9
  show xEx G0 cdX11_make (some .int) (xRn G0 MT (d + 9)) Q 1 2 [some (.inr (.inr 0)), some (.inl ifs), none, none, none, none, none, none, none, none, none] [] h
  refine E_s 1 (i' := 3) (ls' := [some (.inr (.inr 0)), some (.inl ifs), none, none, none, none, none, none, none, none, none]) (sk' := [.inr (.inr 0)]) (h' := h) rfl ?_
  refine E_cx (x := (.invokevirtual 285, 0, [(9, 146)], [0])) (b1 := 1) (b2 := 0) (v := none) (q := fun h9 => (h 1 2 ≠ 0) ∧ h = h9) rfl rfl (Nat.le_of_ble_eq_true rfl) (fun z => by cases z) (c_refNoExamples (d + 8) h hn (fun z9 => Or.inl ⟨rfl, z9, rfl⟩) (fun z9 => Or.inr ⟨_, rfl, hS hi z9⟩)) (fun h9 hq9 => ?_)
  obtain ⟨he, rfl⟩ := hq9
  show xEx G0 cdX11_make (some .int) (xRn G0 MT (d + 9)) Q 0 4 [some (.inr (.inr 0)), some (.inl ifs), none, none, none, none, none, none, none, none, none] [] h
  refine E_s 2 (i' := 6) (ls' := [some (.inr (.inr 0)), some (.inl ifs), none, none, none, none, none, none, none, none, none]) (sk' := [.inl ifs, .inr (.inr 0)]) (h' := h) rfl ?_
  refine E_cp (x := (.invokevirtual 288, 1, [(9, 141)], [0])) (q := fun r h9 => r = sno (szf S T (S 0 0) (T 0 0) (-1) ifs.toNat (xshl 1 (h 1 2) - 1)) ∧ SETP h h9 S T m ifs) rfl rfl (Nat.le_of_ble_eq_true rfl) (c_settleP d 0 h S T ifs hi is0 v1 v4 m o hm hn (fun h9 z => ⟨_, rfl, rfl, z⟩)) (fun r1 h1 hq1 => ?_)
  obtain ⟨er, sp⟩ := hq1
  have ci1 := SET_ci hi ci hm sp
  have zr1 := sno_r (szf_r (p := -1) o ifs.toNat (xshl 1 (h 1 2) - 1))
  show xEx G0 cdX11_make (some .int) (xRn G0 MT (d + 9)) Q 0 7 [some (.inr (.inr 0)), some (.inl ifs), none, none, none, none, none, none, none, none, none] [.inl r1] h1
  refine E_s 1 (i' := 8) (ls' := [some (.inr (.inr 0)), some (.inl ifs), some (.inl r1), none, none, none, none, none, none, none, none]) (sk' := []) (h' := h1) rfl ?_
  have al : 0 ≤ h1 0 9 ∧ h1 0 9 ≤ 20000 := by rw [sp.1 0 (by decide)]; have := ci.1.2.2.2.2.2; omega
  have hPZ : ∀ {mT : Int}, mT = (if ifs > 0 then 1 else 0) → P h1 S T (h1 0 9) 1 mT 0 (sno (szf S T (S 0 0) (T 0 0) (-1) ifs.toNat (xshl 1 (h 1 2) - 1))) := fun z => by rw [sp.1 0 (by decide)]; exact hP0 hi he h1 _ sp z
  refine E_s 6 (i' := 14) (ls' := [some (.inr (.inr 0)), some (.inl ifs), some (.inl r1), some (.inl (h1 0 9)), some (.inl 1), none, none, none, none, none, none]) (sk' := [.inl ifs]) (h' := h1) rfl ?_
  refine E_b (x := (.ifCond .le 7, 17, [], [])) rfl rfl (fun c14 => ?_) (fun c14 => ?_)
  · rw [c_le (by first | assumption | (refine ⟨?_, ?_⟩ <;> omega) | (simp only [xr] at *; omega)) (by first | assumption | (refine ⟨?_, ?_⟩ <;> omega) | (simp only [xr] at *; omega))] at c14
    simp only [decide_eq_true_eq, decide_eq_false_iff_not, Decidable.not_not] at c14
    show xEx G0 cdX11_make (some .int) (xRn G0 MT (d + 9)) Q 0 17 [some (.inr (.inr 0)), some (.inl ifs), some (.inl r1), some (.inl (h1 0 9)), some (.inl 1), none, none, none, none, none, none] [] h1
    refine E_s 4 (i' := 21) (ls' := [some (.inr (.inr 0)), some (.inl ifs), some (.inl r1), some (.inl (h1 0 9)), some (.inl 1), some (.inl 0), some (.inl 0), none, none, none, none]) (sk' := []) (h' := h1) rfl ?_
    have key21 : ∀ (n : Nat) (hh SS TT : xH) (left mE mT turn sz : Int) (l7 l8 l9_ l10 : Option xV), (MKI h hh SS TT left mE mT turn sz) → (P hh SS TT left mE mT (turn % 2) sz) → ((64 - turn).toNat) < n → xEx G0 cdX11_make (some .int) (xRn G0 MT (d + 9)) Q 0 21 [some (.inr (.inr 0)), some (.inl ifs), some (.inl sz), some (.inl left), some (.inl mE), some (.inl mT), some (.inl turn), l7, l8, l9_, l10] [] hh := by
      intro n
      induction n with
      | zero => intro hh SS TT left mE mT turn sz l7 l8 l9_ l10 _ _ hm; exact absurd hm (Nat.not_lt_zero _)
      | succ n ih21 =>
        intro hh SS TT left mE mT turn sz l7 l8 l9_ l10 iv pp hm21
        obtain ⟨ci, ex9, lr, mEr, mTr, tr, lv, zr⟩ := iv
        have lE : 0 ≤ hh 9 13 ∧ hh 9 13 ≤ 9 := ci.2.1.2.2.2.2.2.1
        have lT : hh 28 13 = 0 ∨ (3 ≤ hh 28 13 ∧ hh 28 13 ≤ 7) := ci.2.2.1.2.2.2.2.2.1
        refine E_s 2 (i' := 23) (ls' := [some (.inr (.inr 0)), some (.inl ifs), some (.inl sz), some (.inl left), some (.inl mE), some (.inl mT), some (.inl turn), l7, l8, l9_, l10]) (sk' := [.inl 64, .inl turn]) (h' := hh) rfl ?_
        refine E_b (x := (.if_icmp .ge 148, 95, [], [])) rfl rfl (fun c23 => ?_) (fun c23 => ?_)
        · rw [c_ge (by first | assumption | (refine ⟨?_, ?_⟩ <;> omega) | (simp only [xr] at *; omega)) (by first | assumption | (refine ⟨?_, ?_⟩ <;> omega) | (simp only [xr] at *; omega))] at c23
          simp only [decide_eq_true_eq, decide_eq_false_iff_not, Decidable.not_not] at c23
          show xEx G0 cdX11_make (some .int) (xRn G0 MT (d + 9)) Q 0 95 [some (.inr (.inr 0)), some (.inl ifs), some (.inl sz), some (.inl left), some (.inl mE), some (.inl mT), some (.inl turn), l7, l8, l9_, l10] [] hh
          refine E_s 1 (i' := 96) (ls' := [some (.inr (.inr 0)), some (.inl ifs), some (.inl sz), some (.inl left), some (.inl mE), some (.inl mT), some (.inl turn), l7, l8, l9_, l10]) (sk' := [.inl sz]) (h' := hh) rfl ?_
          exact E_ret (x := (.ireturn, 0, [], [])) (v := some (.inl sz)) rfl (Or.inl rfl) (hQ hh SS TT left mE mT _ sz pp ci (by first | (intro y9; exact LV_end lv lE lT (by omega) y9.2) | omega) mEr mTr)
        · rw [c_ge (by first | assumption | (refine ⟨?_, ?_⟩ <;> omega) | (simp only [xr] at *; omega)) (by first | assumption | (refine ⟨?_, ?_⟩ <;> omega) | (simp only [xr] at *; omega))] at c23
          simp only [decide_eq_true_eq, decide_eq_false_iff_not, Decidable.not_not] at c23
          show xEx G0 cdX11_make (some .int) (xRn G0 MT (d + 9)) Q 0 24 [some (.inr (.inr 0)), some (.inl ifs), some (.inl sz), some (.inl left), some (.inl mE), some (.inl mT), some (.inl turn), l7, l8, l9_, l10] [] hh
          refine E_s 2 (i' := 26) (ls' := [some (.inr (.inr 0)), some (.inl ifs), some (.inl sz), some (.inl left), some (.inl mE), some (.inl mT), some (.inl turn), l7, l8, l9_, l10]) (sk' := [.inl (-1), .inl sz]) (h' := hh) rfl ?_
          refine E_b (x := (.if_icmp .ne 143, 95, [], [])) rfl rfl (fun c26 => ?_) (fun c26 => ?_)
          · rw [c_ne (by first | assumption | (refine ⟨?_, ?_⟩ <;> omega) | (simp only [xr] at *; omega)) (by first | assumption | (refine ⟨?_, ?_⟩ <;> omega) | (simp only [xr] at *; omega))] at c26
            simp only [decide_eq_true_eq, decide_eq_false_iff_not, Decidable.not_not] at c26
            show xEx G0 cdX11_make (some .int) (xRn G0 MT (d + 9)) Q 0 95 [some (.inr (.inr 0)), some (.inl ifs), some (.inl sz), some (.inl left), some (.inl mE), some (.inl mT), some (.inl turn), l7, l8, l9_, l10] [] hh
            refine E_s 1 (i' := 96) (ls' := [some (.inr (.inr 0)), some (.inl ifs), some (.inl sz), some (.inl left), some (.inl mE), some (.inl mT), some (.inl turn), l7, l8, l9_, l10]) (sk' := [.inl sz]) (h' := hh) rfl ?_
            exact E_ret (x := (.ireturn, 0, [], [])) (v := some (.inl sz)) rfl (Or.inl rfl) (hQ hh SS TT left mE mT _ sz pp ci (by first | (intro y9; exact LV_end lv lE lT (by omega) y9.2) | omega) mEr mTr)
          · rw [c_ne (by first | assumption | (refine ⟨?_, ?_⟩ <;> omega) | (simp only [xr] at *; omega)) (by first | assumption | (refine ⟨?_, ?_⟩ <;> omega) | (simp only [xr] at *; omega))] at c26
            simp only [decide_eq_true_eq, decide_eq_false_iff_not, Decidable.not_not] at c26
            show xEx G0 cdX11_make (some .int) (xRn G0 MT (d + 9)) Q 0 27 [some (.inr (.inr 0)), some (.inl ifs), some (.inl sz), some (.inl left), some (.inl mE), some (.inl mT), some (.inl turn), l7, l8, l9_, l10] [] hh
            have cut31 : ∀ (_u : Unit), (mE = 1 ∨ mT = 1) → xEx G0 cdX11_make (some .int) (xRn G0 MT (d + 9)) Q 0 31 [some (.inr (.inr 0)), some (.inl ifs), some (.inl sz), some (.inl left), some (.inl mE), some (.inl mT), some (.inl turn), l7, l8, l9_, l10] [] hh := by
              intro _u q31
              have ez : sz = -1 := by omega
              have ppz : P hh SS TT left mE mT (turn % 2) (-1) := by rw [← ez]; exact pp
              refine E_s 2 (i' := 33) (ls' := [some (.inr (.inr 0)), some (.inl ifs), some (.inl sz), some (.inl left), some (.inl mE), some (.inl mT), some (.inl turn), l7, l8, l9_, l10]) (sk' := [.inl 2, .inl turn]) (h' := hh) rfl ?_
              refine E_rem (x := (.irem, 0, [], [])) rfl rfl (by decide) ?_
              show xEx G0 cdX11_make (some .int) (xRn G0 MT (d + 9)) Q 0 34 [some (.inr (.inr 0)), some (.inl ifs), some (.inl sz), some (.inl left), some (.inl mE), some (.inl mT), some (.inl turn), l7, l8, l9_, l10] [.inl (xrem turn 2)] hh
              have xe := xrem_2 tr.1 tr.2
              have xx := xrem_r turn 2
              refine E_s 1 (i' := 35) (ls' := [some (.inr (.inr 0)), some (.inl ifs), some (.inl sz), some (.inl left), some (.inl mE), some (.inl mT), some (.inl turn), l7, l8, l9_, l10]) (sk' := [.inl 1, .inl (xrem turn 2)]) (h' := hh) rfl ?_
              refine E_b (x := (.if_icmp .ne 7, 38, [], [])) rfl rfl (fun c35 => ?_) (fun c35 => ?_)
              · rw [c_ne (by first | assumption | (refine ⟨?_, ?_⟩ <;> omega) | (simp only [xr] at *; omega)) (by first | assumption | (refine ⟨?_, ?_⟩ <;> omega) | (simp only [xr] at *; omega))] at c35
                simp only [decide_eq_true_eq, decide_eq_false_iff_not, Decidable.not_not] at c35
                show xEx G0 cdX11_make (some .int) (xRn G0 MT (d + 9)) Q 0 38 [some (.inr (.inr 0)), some (.inl ifs), some (.inl sz), some (.inl left), some (.inl mE), some (.inl mT), some (.inl turn), l7, l8, l9_, l10] [] hh
                refine E_s 3 (i' := 41) (ls' := [some (.inr (.inr 0)), some (.inl ifs), some (.inl sz), some (.inl left), some (.inl mE), some (.inl mT), some (.inl turn), some (.inl 0), l8, l9_, l10]) (sk' := [.inl 0]) (h' := hh) rfl ?_
                refine E_b (x := (.ifCond .eq 11, 45, [], [])) rfl rfl (fun c41 => ?_) (fun c41 => ?_)
                · show xEx G0 cdX11_make (some .int) (xRn G0 MT (d + 9)) Q 0 45 [some (.inr (.inr 0)), some (.inl ifs), some (.inl sz), some (.inl left), some (.inl mE), some (.inl mT), some (.inl turn), some (.inl 0), l8, l9_, l10] [] hh
                  refine E_s 1 (i' := 46) (ls' := [some (.inr (.inr 0)), some (.inl ifs), some (.inl sz), some (.inl left), some (.inl mE), some (.inl mT), some (.inl turn), some (.inl 0), l8, l9_, l10]) (sk' := [.inl mE]) (h' := hh) rfl ?_
                  refine E_b (x := (.ifCond .ne 6, 48, [], [])) rfl rfl (fun c46 => ?_) (fun c46 => ?_)
                  · rw [c_ne (by first | assumption | (refine ⟨?_, ?_⟩ <;> omega) | (simp only [xr] at *; omega)) (by first | assumption | (refine ⟨?_, ?_⟩ <;> omega) | (simp only [xr] at *; omega))] at c46
                    simp only [decide_eq_true_eq, decide_eq_false_iff_not, Decidable.not_not] at c46
                    show xEx G0 cdX11_make (some .int) (xRn G0 MT (d + 9)) Q 0 48 [some (.inr (.inr 0)), some (.inl ifs), some (.inl sz), some (.inl left), some (.inl mE), some (.inl mT), some (.inl turn), some (.inl 0), l8, l9_, l10] [] hh
                    have te9 : turn % 2 = 0 := by omega
                    have pp0 : P hh SS TT left mE mT 0 (-1) := by rw [te9] at ppz; exact ppz
                    refine E_s 2 (i' := 50) (ls' := [some (.inr (.inr 0)), some (.inl ifs), some (.inl sz), some (.inl left), some (.inl mE), some (.inl mT), some (.inl turn), some (.inl 0), l8, l9_, l10]) (sk' := [.inl 0, .inr (.inr 0)]) (h' := hh) rfl ?_
                    refine E_cx (x := (.invokevirtual 161, 1, [(9, 142)], [0])) (b1 := 0) (b2 := 0) (v := (some (.inr (.inr 9)))) (q := fun h9 => (True) ∧ hh = h9) rfl rfl (Nat.le_of_ble_eq_true rfl) (fun z => by cases z) (c_growthOf0 (d + 8) 0 hh (Or.inl ⟨rfl, trivial, rfl⟩)) (fun h9 hq9 => ?_)
                    obtain ⟨_t, rfl⟩ := hq9
                    show xEx G0 cdX11_make (some .int) (xRn G0 MT (d + 9)) Q 0 51 [some (.inr (.inr 0)), some (.inl ifs), some (.inl sz), some (.inl left), some (.inl mE), some (.inl mT), some (.inl turn), some (.inl 0), l8, l9_, l10] [.inr (.inr 9)] hh
                    refine E_s 6 (i' := 57) (ls' := [some (.inr (.inr 0)), some (.inl ifs), some (.inl sz), some (.inl left), some (.inl mE), some (.inl mT), some (.inl turn), some (.inl 0), some (.inr (.inr 9)), some (.inl (hh 9 12)), l10]) (sk' := [.inl left, .inr (.inr 9)]) (h' := hh) rfl ?_
                    refine E_cp (x := (.invokevirtual 165, 1, [(1, 33), (7, 33)], [1])) (q := fun r h9 => ∃ S9, GEr hh SS left r h9 S9 ∧ CE h9 S9 ∧ STB SS S9 ∧ FA hh h9) rfl rfl (Nat.le_of_ble_eq_true rfl) (a_ge (d + 1) 0 hh SS left ci.1 ci.2.1 lr (fun r h9 S9 z1 z2 z3 z4 => ⟨_, rfl, S9, z1, z2, z3, z4⟩)) (fun r2 h1 hq2 => ?_)
                    obtain ⟨S1, G, ce1, st1, f1⟩ := hq2
                    have ci1 := CI_ge ci ce1 st1 f1
                    have gf := GE_f ci.1 ci.2.1 lr G
                    have x1 : h1 1 = hh 1 := f1.1 _ (by decide)
                    have md0 : hh 9 12 = SS 0 2 := ci.2.1.1.2.2.1
                    have md1 : h1 9 12 = S1 0 2 := ce1.1.2.2.1
                    have lvT : h1 28 = hh 28 := f1.1 _ (by decide)
                    show xEx G0 cdX11_make (some .int) (xRn G0 MT (d + 9)) Q 0 58 [some (.inr (.inr 0)), some (.inl ifs), some (.inl sz), some (.inl left), some (.inl mE), some (.inl mT), some (.inl turn), some (.inl 0), some (.inr (.inr 9)), some (.inl (hh 9 12)), l10] [.inl r2] h1
                    have gr := gf.1
                    refine E_s 3 (i' := 61) (ls' := [some (.inr (.inr 0)), some (.inl ifs), some (.inl sz), some (.inl left), some (.inl mE), some (.inl mT), some (.inl turn), some (.inl 0), some (.inr (.inr 9)), some (.inl (hh 9 12)), some (.inl r2)]) (sk' := [.inl 2, .inl r2]) (h' := h1) rfl ?_
                    refine E_b (x := (.if_icmp .ne 6, 64, [], [])) rfl rfl (fun c61 => ?_) (fun c61 => ?_)
                    · rw [c_ne (by first | assumption | (refine ⟨?_, ?_⟩ <;> omega) | (simp only [xr] at *; omega)) (by first | assumption | (refine ⟨?_, ?_⟩ <;> omega) | (simp only [xr] at *; omega))] at c61
                      simp only [decide_eq_true_eq, decide_eq_false_iff_not, Decidable.not_not] at c61
                      show xEx G0 cdX11_make (some .int) (xRn G0 MT (d + 9)) Q 0 64 [some (.inr (.inr 0)), some (.inl ifs), some (.inl sz), some (.inl left), some (.inl mE), some (.inl mT), some (.inl turn), some (.inl 0), some (.inr (.inr 9)), some (.inl (hh 9 12)), some (.inl r2)] [] h1
                      refine E_s 7 (i' := 71) (ls' := [some (.inr (.inr 0)), some (.inl ifs), some (.inl sz), some (.inl (left - ((h1 9 12) - (hh 9 12)))), some (.inl mE), some (.inl mT), some (.inl turn), some (.inl 0), some (.inr (.inr 9)), some (.inl (hh 9 12)), some (.inl r2)]) (sk' := []) (h' := h1) rfl ?_
                      have cut89 : ∀ (e2 t2 : Int), (e2 = (if r2 = 0 then 1 else 0)) → (t2 = mT) → xEx G0 cdX11_make (some .int) (xRn G0 MT (d + 9)) Q 0 89 [some (.inr (.inr 0)), some (.inl ifs), some (.inl sz), some (.inl (left - ((h1 9 12) - (hh 9 12)))), some (.inl e2), some (.inl t2), some (.inl turn), some (.inl 0), some (.inr (.inr 9)), some (.inl (hh 9 12)), some (.inl r2)] [] h1 := by
                        intro e2 t2 hE2 hT2
                        refine E_s 2 (i' := 91) (ls' := [some (.inr (.inr 0)), some (.inl ifs), some (.inl sz), some (.inl (left - ((h1 9 12) - (hh 9 12)))), some (.inl e2), some (.inl t2), some (.inl turn), some (.inl 0), some (.inr (.inr 9)), some (.inl (hh 9 12)), some (.inl r2)]) (sk' := [.inl ifs, .inr (.inr 0)]) (h' := h1) rfl ?_
                        have fl2 : (e2 = 0 ∨ e2 = 1) ∧ (e2 = 1 → r2 = 0) := by
                          by_cases y9 : r2 = 0
                          · rw [if_pos y9] at hE2; omega
                          · rw [if_neg y9] at hE2; omega
                        obtain ⟨fl2, fl3⟩ := fl2
                        have hm1 : m = (h1 1 2).toNat := by rw [x1, ex9]; exact hm
                        have hn1 : 0 ≤ h1 1 2 ∧ h1 1 2 ≤ 12 := by rw [x1, ex9]; exact hn
                        have o1 : OKS S1 TT (S1 0 0) (TT 0 0) m := hm1 ▸ OKS_ci ci1
                        obtain ⟨u1, -, -, u4, -, -⟩ := EV_ci ci1
                        refine E_cp (x := (.invokevirtual 288, 1, [(9, 141)], [0])) (q := fun r h9 => r = sno (szf S1 TT (S1 0 0) (TT 0 0) (-1) ifs.toNat (xshl 1 (h1 1 2) - 1)) ∧ SETP h1 h9 S1 TT m ifs) rfl rfl (Nat.le_of_ble_eq_true rfl) (c_settleP d 0 h1 S1 TT ifs hi ci1.2.2.2.2.1 u1 u4 m o1 hm1 hn1 (fun h9 z => ⟨_, rfl, rfl, z⟩)) (fun r3 h2 hq3 => ?_)
                        obtain ⟨er3, sp3⟩ := hq3
                        have ci2 := SET_ci hi ci1 hm1 sp3
                        have zr3 := sno_r (szf_r (p := -1) o1 ifs.toNat (xshl 1 (h1 1 2) - 1))
                        have x2 : h2 1 = h1 1 := sp3.1 _ (by decide)
                        have l9 : h2 9 = h1 9 := sp3.1 _ (by decide)
                        have l28 : h2 28 = h1 28 := sp3.1 _ (by decide)
                        show xEx G0 cdX11_make (some .int) (xRn G0 MT (d + 9)) Q 0 92 [some (.inr (.inr 0)), some (.inl ifs), some (.inl sz), some (.inl (left - ((h1 9 12) - (hh 9 12)))), some (.inl e2), some (.inl t2), some (.inl turn), some (.inl 0), some (.inr (.inr 9)), some (.inl (hh 9 12)), some (.inl r2)] [.inl r3] h2
                        refine E_s 3 (i' := 21) (ls' := [some (.inr (.inr 0)), some (.inl ifs), some (.inl r3), some (.inl (left - ((h1 9 12) - (hh 9 12)))), some (.inl e2), some (.inl t2), some (.inl (turn + 1)), some (.inl 0), some (.inr (.inr 9)), some (.inl (hh 9 12)), some (.inl r2)]) (sk' := []) (h' := h2) rfl ?_
                        exact ih21 h2 S1 TT (left - ((h1 9 12) - (hh 9 12))) e2 t2 (turn + 1) r3 _ _ _ _ ⟨ci2, by rw [x2, x1, ex9], by have := gf.2.2 (by omega); omega, by omega, by omega, by omega, LV_E lv (by omega) (by omega) gf.2.1 lvT l9 l28 fl3 hT2, by omega⟩ (by rw [er3]; exact (hPE hh SS TT left mE mT r2 h1 S1 h2 _ _ _ _ pp0 ci ex9 lr (by omega) mTr G ce1 st1 f1 (by omega) sp3 (by omega) hE2 hT2 (by omega))) (by omega)
                      refine E_s 1 (i' := 72) (ls' := [some (.inr (.inr 0)), some (.inl ifs), some (.inl sz), some (.inl (left - ((h1 9 12) - (hh 9 12)))), some (.inl mE), some (.inl mT), some (.inl turn), some (.inl 0), some (.inr (.inr 9)), some (.inl (hh 9 12)), some (.inl r2)]) (sk' := [.inl r2]) (h' := h1) rfl ?_
                      refine E_b (x := (.ifCond .eq 37, 89, [], [])) rfl rfl (fun c72 => ?_) (fun c72 => ?_)
                      · rw [c_eq (by first | assumption | (refine ⟨?_, ?_⟩ <;> omega) | (simp only [xr] at *; omega)) (by first | assumption | (refine ⟨?_, ?_⟩ <;> omega) | (simp only [xr] at *; omega))] at c72
                        simp only [decide_eq_true_eq, decide_eq_false_iff_not, Decidable.not_not] at c72
                        show xEx G0 cdX11_make (some .int) (xRn G0 MT (d + 9)) Q 0 89 [some (.inr (.inr 0)), some (.inl ifs), some (.inl sz), some (.inl (left - ((h1 9 12) - (hh 9 12)))), some (.inl mE), some (.inl mT), some (.inl turn), some (.inl 0), some (.inr (.inr 9)), some (.inl (hh 9 12)), some (.inl r2)] [] h1
                        exact cut89 mE mT (by first | rw [if_pos (by omega)]; omega | rw [if_neg (by omega)]) (by omega)
                      · rw [c_eq (by first | assumption | (refine ⟨?_, ?_⟩ <;> omega) | (simp only [xr] at *; omega)) (by first | assumption | (refine ⟨?_, ?_⟩ <;> omega) | (simp only [xr] at *; omega))] at c72
                        simp only [decide_eq_true_eq, decide_eq_false_iff_not, Decidable.not_not] at c72
                        show xEx G0 cdX11_make (some .int) (xRn G0 MT (d + 9)) Q 0 73 [some (.inr (.inr 0)), some (.inl ifs), some (.inl sz), some (.inl (left - ((h1 9 12) - (hh 9 12)))), some (.inl mE), some (.inl mT), some (.inl turn), some (.inl 0), some (.inr (.inr 9)), some (.inl (hh 9 12)), some (.inl r2)] [] h1
                        refine E_s 1 (i' := 74) (ls' := [some (.inr (.inr 0)), some (.inl ifs), some (.inl sz), some (.inl (left - ((h1 9 12) - (hh 9 12)))), some (.inl mE), some (.inl mT), some (.inl turn), some (.inl 0), some (.inr (.inr 9)), some (.inl (hh 9 12)), some (.inl r2)]) (sk' := [.inl mE]) (h' := h1) rfl ?_
                        refine E_b (x := (.ifCond .eq 12, 79, [], [])) rfl rfl (fun c74 => ?_) (fun c74 => ?_)
                        · rw [c_eq (by first | assumption | (refine ⟨?_, ?_⟩ <;> omega) | (simp only [xr] at *; omega)) (by first | assumption | (refine ⟨?_, ?_⟩ <;> omega) | (simp only [xr] at *; omega))] at c74
                          simp only [decide_eq_true_eq, decide_eq_false_iff_not, Decidable.not_not] at c74
                          show xEx G0 cdX11_make (some .int) (xRn G0 MT (d + 9)) Q 0 79 [some (.inr (.inr 0)), some (.inl ifs), some (.inl sz), some (.inl (left - ((h1 9 12) - (hh 9 12)))), some (.inl mE), some (.inl mT), some (.inl turn), some (.inl 0), some (.inr (.inr 9)), some (.inl (hh 9 12)), some (.inl r2)] [] h1
                          refine E_s 3 (i' := 82) (ls' := [some (.inr (.inr 0)), some (.inl ifs), some (.inl sz), some (.inl (left - ((h1 9 12) - (hh 9 12)))), some (.inl 0), some (.inl mT), some (.inl turn), some (.inl 0), some (.inr (.inr 9)), some (.inl (hh 9 12)), some (.inl r2)]) (sk' := [.inl mT]) (h' := h1) rfl ?_
                          refine E_b (x := (.ifCond .eq 12, 87, [], [])) rfl rfl (fun c82 => ?_) (fun c82 => ?_)
                          · rw [c_eq (by first | assumption | (refine ⟨?_, ?_⟩ <;> omega) | (simp only [xr] at *; omega)) (by first | assumption | (refine ⟨?_, ?_⟩ <;> omega) | (simp only [xr] at *; omega))] at c82
                            simp only [decide_eq_true_eq, decide_eq_false_iff_not, Decidable.not_not] at c82
                            show xEx G0 cdX11_make (some .int) (xRn G0 MT (d + 9)) Q 0 87 [some (.inr (.inr 0)), some (.inl ifs), some (.inl sz), some (.inl (left - ((h1 9 12) - (hh 9 12)))), some (.inl 0), some (.inl mT), some (.inl turn), some (.inl 0), some (.inr (.inr 9)), some (.inl (hh 9 12)), some (.inl r2)] [] h1
                            refine E_s 2 (i' := 89) (ls' := [some (.inr (.inr 0)), some (.inl ifs), some (.inl sz), some (.inl (left - ((h1 9 12) - (hh 9 12)))), some (.inl 0), some (.inl 0), some (.inl turn), some (.inl 0), some (.inr (.inr 9)), some (.inl (hh 9 12)), some (.inl r2)]) (sk' := []) (h' := h1) rfl ?_
                            exact cut89 0 0 (by first | rw [if_pos (by omega)]; omega | rw [if_neg (by omega)]) (by omega)
                          · rw [c_eq (by first | assumption | (refine ⟨?_, ?_⟩ <;> omega) | (simp only [xr] at *; omega)) (by first | assumption | (refine ⟨?_, ?_⟩ <;> omega) | (simp only [xr] at *; omega))] at c82
                            simp only [decide_eq_true_eq, decide_eq_false_iff_not, Decidable.not_not] at c82
                            show xEx G0 cdX11_make (some .int) (xRn G0 MT (d + 9)) Q 0 83 [some (.inr (.inr 0)), some (.inl ifs), some (.inl sz), some (.inl (left - ((h1 9 12) - (hh 9 12)))), some (.inl 0), some (.inl mT), some (.inl turn), some (.inl 0), some (.inr (.inr 9)), some (.inl (hh 9 12)), some (.inl r2)] [] h1
                            refine E_s 1 (i' := 84) (ls' := [some (.inr (.inr 0)), some (.inl ifs), some (.inl sz), some (.inl (left - ((h1 9 12) - (hh 9 12)))), some (.inl 0), some (.inl mT), some (.inl turn), some (.inl 0), some (.inr (.inr 9)), some (.inl (hh 9 12)), some (.inl r2)]) (sk' := [.inl 0]) (h' := h1) rfl ?_
                            refine E_b (x := (.ifCond .ne 7, 87, [], [])) rfl rfl (fun c84 => ?_) (fun c84 => ?_)
                            · show xEx G0 cdX11_make (some .int) (xRn G0 MT (d + 9)) Q 0 87 [some (.inr (.inr 0)), some (.inl ifs), some (.inl sz), some (.inl (left - ((h1 9 12) - (hh 9 12)))), some (.inl 0), some (.inl mT), some (.inl turn), some (.inl 0), some (.inr (.inr 9)), some (.inl (hh 9 12)), some (.inl r2)] [] h1
                              exact absurd c84 (by decide)
                            · show xEx G0 cdX11_make (some .int) (xRn G0 MT (d + 9)) Q 0 85 [some (.inr (.inr 0)), some (.inl ifs), some (.inl sz), some (.inl (left - ((h1 9 12) - (hh 9 12)))), some (.inl 0), some (.inl mT), some (.inl turn), some (.inl 0), some (.inr (.inr 9)), some (.inl (hh 9 12)), some (.inl r2)] [] h1
                              refine E_s 3 (i' := 89) (ls' := [some (.inr (.inr 0)), some (.inl ifs), some (.inl sz), some (.inl (left - ((h1 9 12) - (hh 9 12)))), some (.inl 0), some (.inl 1), some (.inl turn), some (.inl 0), some (.inr (.inr 9)), some (.inl (hh 9 12)), some (.inl r2)]) (sk' := []) (h' := h1) rfl ?_
                              exact cut89 0 1 (by first | rw [if_pos (by omega)]; omega | rw [if_neg (by omega)]) (by omega)
                        · rw [c_eq (by first | assumption | (refine ⟨?_, ?_⟩ <;> omega) | (simp only [xr] at *; omega)) (by first | assumption | (refine ⟨?_, ?_⟩ <;> omega) | (simp only [xr] at *; omega))] at c74
                          simp only [decide_eq_true_eq, decide_eq_false_iff_not, Decidable.not_not] at c74
                          show xEx G0 cdX11_make (some .int) (xRn G0 MT (d + 9)) Q 0 75 [some (.inr (.inr 0)), some (.inl ifs), some (.inl sz), some (.inl (left - ((h1 9 12) - (hh 9 12)))), some (.inl mE), some (.inl mT), some (.inl turn), some (.inl 0), some (.inr (.inr 9)), some (.inl (hh 9 12)), some (.inl r2)] [] h1
                          refine E_s 1 (i' := 76) (ls' := [some (.inr (.inr 0)), some (.inl ifs), some (.inl sz), some (.inl (left - ((h1 9 12) - (hh 9 12)))), some (.inl mE), some (.inl mT), some (.inl turn), some (.inl 0), some (.inr (.inr 9)), some (.inl (hh 9 12)), some (.inl r2)]) (sk' := [.inl 0]) (h' := h1) rfl ?_
                          refine E_b (x := (.ifCond .eq 7, 79, [], [])) rfl rfl (fun c76 => ?_) (fun c76 => ?_)
                          · show xEx G0 cdX11_make (some .int) (xRn G0 MT (d + 9)) Q 0 79 [some (.inr (.inr 0)), some (.inl ifs), some (.inl sz), some (.inl (left - ((h1 9 12) - (hh 9 12)))), some (.inl mE), some (.inl mT), some (.inl turn), some (.inl 0), some (.inr (.inr 9)), some (.inl (hh 9 12)), some (.inl r2)] [] h1
                            refine E_s 3 (i' := 82) (ls' := [some (.inr (.inr 0)), some (.inl ifs), some (.inl sz), some (.inl (left - ((h1 9 12) - (hh 9 12)))), some (.inl 0), some (.inl mT), some (.inl turn), some (.inl 0), some (.inr (.inr 9)), some (.inl (hh 9 12)), some (.inl r2)]) (sk' := [.inl mT]) (h' := h1) rfl ?_
                            refine E_b (x := (.ifCond .eq 12, 87, [], [])) rfl rfl (fun c82 => ?_) (fun c82 => ?_)
                            · rw [c_eq (by first | assumption | (refine ⟨?_, ?_⟩ <;> omega) | (simp only [xr] at *; omega)) (by first | assumption | (refine ⟨?_, ?_⟩ <;> omega) | (simp only [xr] at *; omega))] at c82
                              simp only [decide_eq_true_eq, decide_eq_false_iff_not, Decidable.not_not] at c82
                              show xEx G0 cdX11_make (some .int) (xRn G0 MT (d + 9)) Q 0 87 [some (.inr (.inr 0)), some (.inl ifs), some (.inl sz), some (.inl (left - ((h1 9 12) - (hh 9 12)))), some (.inl 0), some (.inl mT), some (.inl turn), some (.inl 0), some (.inr (.inr 9)), some (.inl (hh 9 12)), some (.inl r2)] [] h1
                              refine E_s 2 (i' := 89) (ls' := [some (.inr (.inr 0)), some (.inl ifs), some (.inl sz), some (.inl (left - ((h1 9 12) - (hh 9 12)))), some (.inl 0), some (.inl 0), some (.inl turn), some (.inl 0), some (.inr (.inr 9)), some (.inl (hh 9 12)), some (.inl r2)]) (sk' := []) (h' := h1) rfl ?_
                              exact cut89 0 0 (by first | rw [if_pos (by omega)]; omega | rw [if_neg (by omega)]) (by omega)
                            · rw [c_eq (by first | assumption | (refine ⟨?_, ?_⟩ <;> omega) | (simp only [xr] at *; omega)) (by first | assumption | (refine ⟨?_, ?_⟩ <;> omega) | (simp only [xr] at *; omega))] at c82
                              simp only [decide_eq_true_eq, decide_eq_false_iff_not, Decidable.not_not] at c82
                              show xEx G0 cdX11_make (some .int) (xRn G0 MT (d + 9)) Q 0 83 [some (.inr (.inr 0)), some (.inl ifs), some (.inl sz), some (.inl (left - ((h1 9 12) - (hh 9 12)))), some (.inl 0), some (.inl mT), some (.inl turn), some (.inl 0), some (.inr (.inr 9)), some (.inl (hh 9 12)), some (.inl r2)] [] h1
                              refine E_s 1 (i' := 84) (ls' := [some (.inr (.inr 0)), some (.inl ifs), some (.inl sz), some (.inl (left - ((h1 9 12) - (hh 9 12)))), some (.inl 0), some (.inl mT), some (.inl turn), some (.inl 0), some (.inr (.inr 9)), some (.inl (hh 9 12)), some (.inl r2)]) (sk' := [.inl 0]) (h' := h1) rfl ?_
                              refine E_b (x := (.ifCond .ne 7, 87, [], [])) rfl rfl (fun c84 => ?_) (fun c84 => ?_)
                              · show xEx G0 cdX11_make (some .int) (xRn G0 MT (d + 9)) Q 0 87 [some (.inr (.inr 0)), some (.inl ifs), some (.inl sz), some (.inl (left - ((h1 9 12) - (hh 9 12)))), some (.inl 0), some (.inl mT), some (.inl turn), some (.inl 0), some (.inr (.inr 9)), some (.inl (hh 9 12)), some (.inl r2)] [] h1
                                exact absurd c84 (by decide)
                              · show xEx G0 cdX11_make (some .int) (xRn G0 MT (d + 9)) Q 0 85 [some (.inr (.inr 0)), some (.inl ifs), some (.inl sz), some (.inl (left - ((h1 9 12) - (hh 9 12)))), some (.inl 0), some (.inl mT), some (.inl turn), some (.inl 0), some (.inr (.inr 9)), some (.inl (hh 9 12)), some (.inl r2)] [] h1
                                refine E_s 3 (i' := 89) (ls' := [some (.inr (.inr 0)), some (.inl ifs), some (.inl sz), some (.inl (left - ((h1 9 12) - (hh 9 12)))), some (.inl 0), some (.inl 1), some (.inl turn), some (.inl 0), some (.inr (.inr 9)), some (.inl (hh 9 12)), some (.inl r2)]) (sk' := []) (h' := h1) rfl ?_
                                exact cut89 0 1 (by first | rw [if_pos (by omega)]; omega | rw [if_neg (by omega)]) (by omega)
                          · show xEx G0 cdX11_make (some .int) (xRn G0 MT (d + 9)) Q 0 77 [some (.inr (.inr 0)), some (.inl ifs), some (.inl sz), some (.inl (left - ((h1 9 12) - (hh 9 12)))), some (.inl mE), some (.inl mT), some (.inl turn), some (.inl 0), some (.inr (.inr 9)), some (.inl (hh 9 12)), some (.inl r2)] [] h1
                            exact absurd c76 (by decide)
                    · rw [c_ne (by first | assumption | (refine ⟨?_, ?_⟩ <;> omega) | (simp only [xr] at *; omega)) (by first | assumption | (refine ⟨?_, ?_⟩ <;> omega) | (simp only [xr] at *; omega))] at c61
                      simp only [decide_eq_true_eq, decide_eq_false_iff_not, Decidable.not_not] at c61
                      show xEx G0 cdX11_make (some .int) (xRn G0 MT (d + 9)) Q 0 62 [some (.inr (.inr 0)), some (.inl ifs), some (.inl sz), some (.inl left), some (.inl mE), some (.inl mT), some (.inl turn), some (.inl 0), some (.inr (.inr 9)), some (.inl (hh 9 12)), some (.inl r2)] [] h1
                      refine E_s 1 (i' := 63) (ls' := [some (.inr (.inr 0)), some (.inl ifs), some (.inl sz), some (.inl left), some (.inl mE), some (.inl mT), some (.inl turn), some (.inl 0), some (.inr (.inr 9)), some (.inl (hh 9 12)), some (.inl r2)]) (sk' := [.inl (-2)]) (h' := h1) rfl ?_
                      exact E_ret (x := (.ireturn, 0, [], [])) (v := some (.inl (-2))) rfl (Or.inl rfl) (by
                        have q9 : r2 = 2 := by omega
                        subst q9
                        exact hB0 hh SS TT left mE mT h1 S1 pp0 ci ex9 lr (by omega) mTr G ce1 st1 f1)
                  · rw [c_ne (by first | assumption | (refine ⟨?_, ?_⟩ <;> omega) | (simp only [xr] at *; omega)) (by first | assumption | (refine ⟨?_, ?_⟩ <;> omega) | (simp only [xr] at *; omega))] at c46
                    simp only [decide_eq_true_eq, decide_eq_false_iff_not, Decidable.not_not] at c46
                    show xEx G0 cdX11_make (some .int) (xRn G0 MT (d + 9)) Q 0 47 [some (.inr (.inr 0)), some (.inl ifs), some (.inl sz), some (.inl left), some (.inl mE), some (.inl mT), some (.inl turn), some (.inl 0), l8, l9_, l10] [] hh
                    refine E_s 3 (i' := 21) (ls' := [some (.inr (.inr 0)), some (.inl ifs), some (.inl sz), some (.inl left), some (.inl mE), some (.inl mT), some (.inl (turn + 1)), some (.inl 0), l8, l9_, l10]) (sk' := []) (h' := hh) rfl ?_
                    exact ih21 hh SS TT left mE mT (turn + 1) sz _ _ _ _ ⟨ci, ex9, lr, mEr, mTr, by omega, LV_k lv (by omega), zr⟩ (by rw [ez]; exact hPK hh SS TT left mE mT (turn % 2) ((turn + 1) % 2) ppz (by omega)) (by omega)
                · show xEx G0 cdX11_make (some .int) (xRn G0 MT (d + 9)) Q 0 42 [some (.inr (.inr 0)), some (.inl ifs), some (.inl sz), some (.inl left), some (.inl mE), some (.inl mT), some (.inl turn), some (.inl 0), l8, l9_, l10] [] hh
                  exact absurd c41 (by decide)
              · rw [c_ne (by first | assumption | (refine ⟨?_, ?_⟩ <;> omega) | (simp only [xr] at *; omega)) (by first | assumption | (refine ⟨?_, ?_⟩ <;> omega) | (simp only [xr] at *; omega))] at c35
                simp only [decide_eq_true_eq, decide_eq_false_iff_not, Decidable.not_not] at c35
                show xEx G0 cdX11_make (some .int) (xRn G0 MT (d + 9)) Q 0 36 [some (.inr (.inr 0)), some (.inl ifs), some (.inl sz), some (.inl left), some (.inl mE), some (.inl mT), some (.inl turn), l7, l8, l9_, l10] [] hh
                refine E_s 4 (i' := 41) (ls' := [some (.inr (.inr 0)), some (.inl ifs), some (.inl sz), some (.inl left), some (.inl mE), some (.inl mT), some (.inl turn), some (.inl 1), l8, l9_, l10]) (sk' := [.inl 1]) (h' := hh) rfl ?_
                refine E_b (x := (.ifCond .eq 11, 45, [], [])) rfl rfl (fun c41 => ?_) (fun c41 => ?_)
                · show xEx G0 cdX11_make (some .int) (xRn G0 MT (d + 9)) Q 0 45 [some (.inr (.inr 0)), some (.inl ifs), some (.inl sz), some (.inl left), some (.inl mE), some (.inl mT), some (.inl turn), some (.inl 1), l8, l9_, l10] [] hh
                  exact absurd c41 (by decide)
                · show xEx G0 cdX11_make (some .int) (xRn G0 MT (d + 9)) Q 0 42 [some (.inr (.inr 0)), some (.inl ifs), some (.inl sz), some (.inl left), some (.inl mE), some (.inl mT), some (.inl turn), some (.inl 1), l8, l9_, l10] [] hh
                  refine E_s 1 (i' := 43) (ls' := [some (.inr (.inr 0)), some (.inl ifs), some (.inl sz), some (.inl left), some (.inl mE), some (.inl mT), some (.inl turn), some (.inl 1), l8, l9_, l10]) (sk' := [.inl mT]) (h' := hh) rfl ?_
                  refine E_b (x := (.ifCond .ne 14, 48, [], [])) rfl rfl (fun c43 => ?_) (fun c43 => ?_)
                  · rw [c_ne (by first | assumption | (refine ⟨?_, ?_⟩ <;> omega) | (simp only [xr] at *; omega)) (by first | assumption | (refine ⟨?_, ?_⟩ <;> omega) | (simp only [xr] at *; omega))] at c43
                    simp only [decide_eq_true_eq, decide_eq_false_iff_not, Decidable.not_not] at c43
                    show xEx G0 cdX11_make (some .int) (xRn G0 MT (d + 9)) Q 0 48 [some (.inr (.inr 0)), some (.inl ifs), some (.inl sz), some (.inl left), some (.inl mE), some (.inl mT), some (.inl turn), some (.inl 1), l8, l9_, l10] [] hh
                    have te9 : turn % 2 = 1 := by omega
                    have pp1 : P hh SS TT left mE mT 1 (-1) := by rw [te9] at ppz; exact ppz
                    refine E_s 2 (i' := 50) (ls' := [some (.inr (.inr 0)), some (.inl ifs), some (.inl sz), some (.inl left), some (.inl mE), some (.inl mT), some (.inl turn), some (.inl 1), l8, l9_, l10]) (sk' := [.inl 1, .inr (.inr 0)]) (h' := hh) rfl ?_
                    refine E_cx (x := (.invokevirtual 161, 1, [(9, 142)], [0])) (b1 := 0) (b2 := 0) (v := (some (.inr (.inr 28)))) (q := fun h9 => (True) ∧ hh = h9) rfl rfl (Nat.le_of_ble_eq_true rfl) (fun z => by cases z) (c_growthOf1 (d + 8) 0 hh (Or.inl ⟨rfl, trivial, rfl⟩)) (fun h9 hq9 => ?_)
                    obtain ⟨_t, rfl⟩ := hq9
                    show xEx G0 cdX11_make (some .int) (xRn G0 MT (d + 9)) Q 0 51 [some (.inr (.inr 0)), some (.inl ifs), some (.inl sz), some (.inl left), some (.inl mE), some (.inl mT), some (.inl turn), some (.inl 1), l8, l9_, l10] [.inr (.inr 28)] hh
                    refine E_s 6 (i' := 57) (ls' := [some (.inr (.inr 0)), some (.inl ifs), some (.inl sz), some (.inl left), some (.inl mE), some (.inl mT), some (.inl turn), some (.inl 1), some (.inr (.inr 28)), some (.inl (hh 28 12)), l10]) (sk' := [.inl left, .inr (.inr 28)]) (h' := hh) rfl ?_
                    refine E_cp (x := (.invokevirtual 165, 1, [(1, 33), (7, 33)], [1])) (q := fun r h9 => ∃ T9, GTr hh TT left r h9 T9 ∧ CT h9 SS T9 ∧ STB TT T9 ∧ FB hh h9) rfl rfl (Nat.le_of_ble_eq_true rfl) (a_gt (d + 1) 0 hh SS TT left ci.1 ci.2.1 ci.2.2.1 lr (fun r h9 T9 z1 z2 z3 z4 => ⟨_, rfl, T9, z1, z2, z3, z4⟩)) (fun r2 h1 hq2 => ?_)
                    obtain ⟨T1, G, ct1, st1, f1⟩ := hq2
                    have ci1 := CI_gt ci ct1 st1 f1
                    have gf := GT_f ci.1 ci.2.1 ci.2.2.1 lr G
                    have x1 : h1 1 = hh 1 := f1 _ (by decide)
                    have md0 : hh 28 12 = TT 0 2 := ci.2.2.1.1.2.2.1
                    have md1 : h1 28 12 = T1 0 2 := ct1.1.2.2.1
                    have lvE : h1 9 = hh 9 := f1 _ (by decide)
                    show xEx G0 cdX11_make (some .int) (xRn G0 MT (d + 9)) Q 0 58 [some (.inr (.inr 0)), some (.inl ifs), some (.inl sz), some (.inl left), some (.inl mE), some (.inl mT), some (.inl turn), some (.inl 1), some (.inr (.inr 28)), some (.inl (hh 28 12)), l10] [.inl r2] h1
                    have gr := gf.1
                    refine E_s 3 (i' := 61) (ls' := [some (.inr (.inr 0)), some (.inl ifs), some (.inl sz), some (.inl left), some (.inl mE), some (.inl mT), some (.inl turn), some (.inl 1), some (.inr (.inr 28)), some (.inl (hh 28 12)), some (.inl r2)]) (sk' := [.inl 2, .inl r2]) (h' := h1) rfl ?_
                    refine E_b (x := (.if_icmp .ne 6, 64, [], [])) rfl rfl (fun c61 => ?_) (fun c61 => ?_)
                    · rw [c_ne (by first | assumption | (refine ⟨?_, ?_⟩ <;> omega) | (simp only [xr] at *; omega)) (by first | assumption | (refine ⟨?_, ?_⟩ <;> omega) | (simp only [xr] at *; omega))] at c61
                      simp only [decide_eq_true_eq, decide_eq_false_iff_not, Decidable.not_not] at c61
                      show xEx G0 cdX11_make (some .int) (xRn G0 MT (d + 9)) Q 0 64 [some (.inr (.inr 0)), some (.inl ifs), some (.inl sz), some (.inl left), some (.inl mE), some (.inl mT), some (.inl turn), some (.inl 1), some (.inr (.inr 28)), some (.inl (hh 28 12)), some (.inl r2)] [] h1
                      refine E_s 7 (i' := 71) (ls' := [some (.inr (.inr 0)), some (.inl ifs), some (.inl sz), some (.inl (left - ((h1 28 12) - (hh 28 12)))), some (.inl mE), some (.inl mT), some (.inl turn), some (.inl 1), some (.inr (.inr 28)), some (.inl (hh 28 12)), some (.inl r2)]) (sk' := []) (h' := h1) rfl ?_
                      have cut89 : ∀ (e2 t2 : Int), (t2 = (if r2 = 0 then 1 else 0)) → (e2 = mE) → xEx G0 cdX11_make (some .int) (xRn G0 MT (d + 9)) Q 0 89 [some (.inr (.inr 0)), some (.inl ifs), some (.inl sz), some (.inl (left - ((h1 28 12) - (hh 28 12)))), some (.inl e2), some (.inl t2), some (.inl turn), some (.inl 1), some (.inr (.inr 28)), some (.inl (hh 28 12)), some (.inl r2)] [] h1 := by
                        intro e2 t2 hT2 hE2
                        refine E_s 2 (i' := 91) (ls' := [some (.inr (.inr 0)), some (.inl ifs), some (.inl sz), some (.inl (left - ((h1 28 12) - (hh 28 12)))), some (.inl e2), some (.inl t2), some (.inl turn), some (.inl 1), some (.inr (.inr 28)), some (.inl (hh 28 12)), some (.inl r2)]) (sk' := [.inl ifs, .inr (.inr 0)]) (h' := h1) rfl ?_
                        have fl2 : (t2 = 0 ∨ t2 = 1) ∧ (t2 = 1 → r2 = 0) := by
                          by_cases y9 : r2 = 0
                          · rw [if_pos y9] at hT2; omega
                          · rw [if_neg y9] at hT2; omega
                        obtain ⟨fl2, fl3⟩ := fl2
                        have hm1 : m = (h1 1 2).toNat := by rw [x1, ex9]; exact hm
                        have hn1 : 0 ≤ h1 1 2 ∧ h1 1 2 ≤ 12 := by rw [x1, ex9]; exact hn
                        have o1 : OKS SS T1 (SS 0 0) (T1 0 0) m := hm1 ▸ OKS_ci ci1
                        obtain ⟨u1, -, -, u4, -, -⟩ := EV_ci ci1
                        refine E_cp (x := (.invokevirtual 288, 1, [(9, 141)], [0])) (q := fun r h9 => r = sno (szf SS T1 (SS 0 0) (T1 0 0) (-1) ifs.toNat (xshl 1 (h1 1 2) - 1)) ∧ SETP h1 h9 SS T1 m ifs) rfl rfl (Nat.le_of_ble_eq_true rfl) (c_settleP d 0 h1 SS T1 ifs hi ci1.2.2.2.2.1 u1 u4 m o1 hm1 hn1 (fun h9 z => ⟨_, rfl, rfl, z⟩)) (fun r3 h2 hq3 => ?_)
                        obtain ⟨er3, sp3⟩ := hq3
                        have ci2 := SET_ci hi ci1 hm1 sp3
                        have zr3 := sno_r (szf_r (p := -1) o1 ifs.toNat (xshl 1 (h1 1 2) - 1))
                        have x2 : h2 1 = h1 1 := sp3.1 _ (by decide)
                        have l9 : h2 9 = h1 9 := sp3.1 _ (by decide)
                        have l28 : h2 28 = h1 28 := sp3.1 _ (by decide)
                        show xEx G0 cdX11_make (some .int) (xRn G0 MT (d + 9)) Q 0 92 [some (.inr (.inr 0)), some (.inl ifs), some (.inl sz), some (.inl (left - ((h1 28 12) - (hh 28 12)))), some (.inl e2), some (.inl t2), some (.inl turn), some (.inl 1), some (.inr (.inr 28)), some (.inl (hh 28 12)), some (.inl r2)] [.inl r3] h2
                        refine E_s 3 (i' := 21) (ls' := [some (.inr (.inr 0)), some (.inl ifs), some (.inl r3), some (.inl (left - ((h1 28 12) - (hh 28 12)))), some (.inl e2), some (.inl t2), some (.inl (turn + 1)), some (.inl 1), some (.inr (.inr 28)), some (.inl (hh 28 12)), some (.inl r2)]) (sk' := []) (h' := h2) rfl ?_
                        exact ih21 h2 SS T1 (left - ((h1 28 12) - (hh 28 12))) e2 t2 (turn + 1) r3 _ _ _ _ ⟨ci2, by rw [x2, x1, ex9], by have := gf.2.2 (by omega); omega, by omega, by omega, by omega, LV_T lv (by omega) (by omega) gf.2.1 lvE l9 l28 fl3 hE2, by omega⟩ (by rw [er3]; exact (hPT hh SS TT left mE mT r2 h1 T1 h2 _ _ _ _ pp1 ci ex9 lr (by omega) mEr G ct1 st1 f1 (by omega) sp3 (by omega) hT2 hE2 (by omega))) (by omega)
                      refine E_s 1 (i' := 72) (ls' := [some (.inr (.inr 0)), some (.inl ifs), some (.inl sz), some (.inl (left - ((h1 28 12) - (hh 28 12)))), some (.inl mE), some (.inl mT), some (.inl turn), some (.inl 1), some (.inr (.inr 28)), some (.inl (hh 28 12)), some (.inl r2)]) (sk' := [.inl r2]) (h' := h1) rfl ?_
                      refine E_b (x := (.ifCond .eq 37, 89, [], [])) rfl rfl (fun c72 => ?_) (fun c72 => ?_)
                      · rw [c_eq (by first | assumption | (refine ⟨?_, ?_⟩ <;> omega) | (simp only [xr] at *; omega)) (by first | assumption | (refine ⟨?_, ?_⟩ <;> omega) | (simp only [xr] at *; omega))] at c72
                        simp only [decide_eq_true_eq, decide_eq_false_iff_not, Decidable.not_not] at c72
                        show xEx G0 cdX11_make (some .int) (xRn G0 MT (d + 9)) Q 0 89 [some (.inr (.inr 0)), some (.inl ifs), some (.inl sz), some (.inl (left - ((h1 28 12) - (hh 28 12)))), some (.inl mE), some (.inl mT), some (.inl turn), some (.inl 1), some (.inr (.inr 28)), some (.inl (hh 28 12)), some (.inl r2)] [] h1
                        exact cut89 mE mT (by first | rw [if_pos (by omega)]; omega | rw [if_neg (by omega)]) (by omega)
                      · rw [c_eq (by first | assumption | (refine ⟨?_, ?_⟩ <;> omega) | (simp only [xr] at *; omega)) (by first | assumption | (refine ⟨?_, ?_⟩ <;> omega) | (simp only [xr] at *; omega))] at c72
                        simp only [decide_eq_true_eq, decide_eq_false_iff_not, Decidable.not_not] at c72
                        show xEx G0 cdX11_make (some .int) (xRn G0 MT (d + 9)) Q 0 73 [some (.inr (.inr 0)), some (.inl ifs), some (.inl sz), some (.inl (left - ((h1 28 12) - (hh 28 12)))), some (.inl mE), some (.inl mT), some (.inl turn), some (.inl 1), some (.inr (.inr 28)), some (.inl (hh 28 12)), some (.inl r2)] [] h1
                        refine E_s 1 (i' := 74) (ls' := [some (.inr (.inr 0)), some (.inl ifs), some (.inl sz), some (.inl (left - ((h1 28 12) - (hh 28 12)))), some (.inl mE), some (.inl mT), some (.inl turn), some (.inl 1), some (.inr (.inr 28)), some (.inl (hh 28 12)), some (.inl r2)]) (sk' := [.inl mE]) (h' := h1) rfl ?_
                        refine E_b (x := (.ifCond .eq 12, 79, [], [])) rfl rfl (fun c74 => ?_) (fun c74 => ?_)
                        · rw [c_eq (by first | assumption | (refine ⟨?_, ?_⟩ <;> omega) | (simp only [xr] at *; omega)) (by first | assumption | (refine ⟨?_, ?_⟩ <;> omega) | (simp only [xr] at *; omega))] at c74
                          simp only [decide_eq_true_eq, decide_eq_false_iff_not, Decidable.not_not] at c74
                          show xEx G0 cdX11_make (some .int) (xRn G0 MT (d + 9)) Q 0 79 [some (.inr (.inr 0)), some (.inl ifs), some (.inl sz), some (.inl (left - ((h1 28 12) - (hh 28 12)))), some (.inl mE), some (.inl mT), some (.inl turn), some (.inl 1), some (.inr (.inr 28)), some (.inl (hh 28 12)), some (.inl r2)] [] h1
                          refine E_s 3 (i' := 82) (ls' := [some (.inr (.inr 0)), some (.inl ifs), some (.inl sz), some (.inl (left - ((h1 28 12) - (hh 28 12)))), some (.inl 0), some (.inl mT), some (.inl turn), some (.inl 1), some (.inr (.inr 28)), some (.inl (hh 28 12)), some (.inl r2)]) (sk' := [.inl mT]) (h' := h1) rfl ?_
                          refine E_b (x := (.ifCond .eq 12, 87, [], [])) rfl rfl (fun c82 => ?_) (fun c82 => ?_)
                          · rw [c_eq (by first | assumption | (refine ⟨?_, ?_⟩ <;> omega) | (simp only [xr] at *; omega)) (by first | assumption | (refine ⟨?_, ?_⟩ <;> omega) | (simp only [xr] at *; omega))] at c82
                            simp only [decide_eq_true_eq, decide_eq_false_iff_not, Decidable.not_not] at c82
                            show xEx G0 cdX11_make (some .int) (xRn G0 MT (d + 9)) Q 0 87 [some (.inr (.inr 0)), some (.inl ifs), some (.inl sz), some (.inl (left - ((h1 28 12) - (hh 28 12)))), some (.inl 0), some (.inl mT), some (.inl turn), some (.inl 1), some (.inr (.inr 28)), some (.inl (hh 28 12)), some (.inl r2)] [] h1
                            refine E_s 2 (i' := 89) (ls' := [some (.inr (.inr 0)), some (.inl ifs), some (.inl sz), some (.inl (left - ((h1 28 12) - (hh 28 12)))), some (.inl 0), some (.inl 0), some (.inl turn), some (.inl 1), some (.inr (.inr 28)), some (.inl (hh 28 12)), some (.inl r2)]) (sk' := []) (h' := h1) rfl ?_
                            exact cut89 0 0 (by first | rw [if_pos (by omega)]; omega | rw [if_neg (by omega)]) (by omega)
                          · rw [c_eq (by first | assumption | (refine ⟨?_, ?_⟩ <;> omega) | (simp only [xr] at *; omega)) (by first | assumption | (refine ⟨?_, ?_⟩ <;> omega) | (simp only [xr] at *; omega))] at c82
                            simp only [decide_eq_true_eq, decide_eq_false_iff_not, Decidable.not_not] at c82
                            show xEx G0 cdX11_make (some .int) (xRn G0 MT (d + 9)) Q 0 83 [some (.inr (.inr 0)), some (.inl ifs), some (.inl sz), some (.inl (left - ((h1 28 12) - (hh 28 12)))), some (.inl 0), some (.inl mT), some (.inl turn), some (.inl 1), some (.inr (.inr 28)), some (.inl (hh 28 12)), some (.inl r2)] [] h1
                            refine E_s 1 (i' := 84) (ls' := [some (.inr (.inr 0)), some (.inl ifs), some (.inl sz), some (.inl (left - ((h1 28 12) - (hh 28 12)))), some (.inl 0), some (.inl mT), some (.inl turn), some (.inl 1), some (.inr (.inr 28)), some (.inl (hh 28 12)), some (.inl r2)]) (sk' := [.inl 1]) (h' := h1) rfl ?_
                            refine E_b (x := (.ifCond .ne 7, 87, [], [])) rfl rfl (fun c84 => ?_) (fun c84 => ?_)
                            · show xEx G0 cdX11_make (some .int) (xRn G0 MT (d + 9)) Q 0 87 [some (.inr (.inr 0)), some (.inl ifs), some (.inl sz), some (.inl (left - ((h1 28 12) - (hh 28 12)))), some (.inl 0), some (.inl mT), some (.inl turn), some (.inl 1), some (.inr (.inr 28)), some (.inl (hh 28 12)), some (.inl r2)] [] h1
                              refine E_s 2 (i' := 89) (ls' := [some (.inr (.inr 0)), some (.inl ifs), some (.inl sz), some (.inl (left - ((h1 28 12) - (hh 28 12)))), some (.inl 0), some (.inl 0), some (.inl turn), some (.inl 1), some (.inr (.inr 28)), some (.inl (hh 28 12)), some (.inl r2)]) (sk' := []) (h' := h1) rfl ?_
                              exact cut89 0 0 (by first | rw [if_pos (by omega)]; omega | rw [if_neg (by omega)]) (by omega)
                            · show xEx G0 cdX11_make (some .int) (xRn G0 MT (d + 9)) Q 0 85 [some (.inr (.inr 0)), some (.inl ifs), some (.inl sz), some (.inl (left - ((h1 28 12) - (hh 28 12)))), some (.inl 0), some (.inl mT), some (.inl turn), some (.inl 1), some (.inr (.inr 28)), some (.inl (hh 28 12)), some (.inl r2)] [] h1
                              exact absurd c84 (by decide)
                        · rw [c_eq (by first | assumption | (refine ⟨?_, ?_⟩ <;> omega) | (simp only [xr] at *; omega)) (by first | assumption | (refine ⟨?_, ?_⟩ <;> omega) | (simp only [xr] at *; omega))] at c74
                          simp only [decide_eq_true_eq, decide_eq_false_iff_not, Decidable.not_not] at c74
                          show xEx G0 cdX11_make (some .int) (xRn G0 MT (d + 9)) Q 0 75 [some (.inr (.inr 0)), some (.inl ifs), some (.inl sz), some (.inl (left - ((h1 28 12) - (hh 28 12)))), some (.inl mE), some (.inl mT), some (.inl turn), some (.inl 1), some (.inr (.inr 28)), some (.inl (hh 28 12)), some (.inl r2)] [] h1
                          refine E_s 1 (i' := 76) (ls' := [some (.inr (.inr 0)), some (.inl ifs), some (.inl sz), some (.inl (left - ((h1 28 12) - (hh 28 12)))), some (.inl mE), some (.inl mT), some (.inl turn), some (.inl 1), some (.inr (.inr 28)), some (.inl (hh 28 12)), some (.inl r2)]) (sk' := [.inl 1]) (h' := h1) rfl ?_
                          refine E_b (x := (.ifCond .eq 7, 79, [], [])) rfl rfl (fun c76 => ?_) (fun c76 => ?_)
                          · show xEx G0 cdX11_make (some .int) (xRn G0 MT (d + 9)) Q 0 79 [some (.inr (.inr 0)), some (.inl ifs), some (.inl sz), some (.inl (left - ((h1 28 12) - (hh 28 12)))), some (.inl mE), some (.inl mT), some (.inl turn), some (.inl 1), some (.inr (.inr 28)), some (.inl (hh 28 12)), some (.inl r2)] [] h1
                            exact absurd c76 (by decide)
                          · show xEx G0 cdX11_make (some .int) (xRn G0 MT (d + 9)) Q 0 77 [some (.inr (.inr 0)), some (.inl ifs), some (.inl sz), some (.inl (left - ((h1 28 12) - (hh 28 12)))), some (.inl mE), some (.inl mT), some (.inl turn), some (.inl 1), some (.inr (.inr 28)), some (.inl (hh 28 12)), some (.inl r2)] [] h1
                            refine E_s 4 (i' := 82) (ls' := [some (.inr (.inr 0)), some (.inl ifs), some (.inl sz), some (.inl (left - ((h1 28 12) - (hh 28 12)))), some (.inl 1), some (.inl mT), some (.inl turn), some (.inl 1), some (.inr (.inr 28)), some (.inl (hh 28 12)), some (.inl r2)]) (sk' := [.inl mT]) (h' := h1) rfl ?_
                            refine E_b (x := (.ifCond .eq 12, 87, [], [])) rfl rfl (fun c82 => ?_) (fun c82 => ?_)
                            · rw [c_eq (by first | assumption | (refine ⟨?_, ?_⟩ <;> omega) | (simp only [xr] at *; omega)) (by first | assumption | (refine ⟨?_, ?_⟩ <;> omega) | (simp only [xr] at *; omega))] at c82
                              simp only [decide_eq_true_eq, decide_eq_false_iff_not, Decidable.not_not] at c82
                              show xEx G0 cdX11_make (some .int) (xRn G0 MT (d + 9)) Q 0 87 [some (.inr (.inr 0)), some (.inl ifs), some (.inl sz), some (.inl (left - ((h1 28 12) - (hh 28 12)))), some (.inl 1), some (.inl mT), some (.inl turn), some (.inl 1), some (.inr (.inr 28)), some (.inl (hh 28 12)), some (.inl r2)] [] h1
                              refine E_s 2 (i' := 89) (ls' := [some (.inr (.inr 0)), some (.inl ifs), some (.inl sz), some (.inl (left - ((h1 28 12) - (hh 28 12)))), some (.inl 1), some (.inl 0), some (.inl turn), some (.inl 1), some (.inr (.inr 28)), some (.inl (hh 28 12)), some (.inl r2)]) (sk' := []) (h' := h1) rfl ?_
                              exact cut89 1 0 (by first | rw [if_pos (by omega)]; omega | rw [if_neg (by omega)]) (by omega)
                            · rw [c_eq (by first | assumption | (refine ⟨?_, ?_⟩ <;> omega) | (simp only [xr] at *; omega)) (by first | assumption | (refine ⟨?_, ?_⟩ <;> omega) | (simp only [xr] at *; omega))] at c82
                              simp only [decide_eq_true_eq, decide_eq_false_iff_not, Decidable.not_not] at c82
                              show xEx G0 cdX11_make (some .int) (xRn G0 MT (d + 9)) Q 0 83 [some (.inr (.inr 0)), some (.inl ifs), some (.inl sz), some (.inl (left - ((h1 28 12) - (hh 28 12)))), some (.inl 1), some (.inl mT), some (.inl turn), some (.inl 1), some (.inr (.inr 28)), some (.inl (hh 28 12)), some (.inl r2)] [] h1
                              refine E_s 1 (i' := 84) (ls' := [some (.inr (.inr 0)), some (.inl ifs), some (.inl sz), some (.inl (left - ((h1 28 12) - (hh 28 12)))), some (.inl 1), some (.inl mT), some (.inl turn), some (.inl 1), some (.inr (.inr 28)), some (.inl (hh 28 12)), some (.inl r2)]) (sk' := [.inl 1]) (h' := h1) rfl ?_
                              refine E_b (x := (.ifCond .ne 7, 87, [], [])) rfl rfl (fun c84 => ?_) (fun c84 => ?_)
                              · show xEx G0 cdX11_make (some .int) (xRn G0 MT (d + 9)) Q 0 87 [some (.inr (.inr 0)), some (.inl ifs), some (.inl sz), some (.inl (left - ((h1 28 12) - (hh 28 12)))), some (.inl 1), some (.inl mT), some (.inl turn), some (.inl 1), some (.inr (.inr 28)), some (.inl (hh 28 12)), some (.inl r2)] [] h1
                                refine E_s 2 (i' := 89) (ls' := [some (.inr (.inr 0)), some (.inl ifs), some (.inl sz), some (.inl (left - ((h1 28 12) - (hh 28 12)))), some (.inl 1), some (.inl 0), some (.inl turn), some (.inl 1), some (.inr (.inr 28)), some (.inl (hh 28 12)), some (.inl r2)]) (sk' := []) (h' := h1) rfl ?_
                                exact cut89 1 0 (by first | rw [if_pos (by omega)]; omega | rw [if_neg (by omega)]) (by omega)
                              · show xEx G0 cdX11_make (some .int) (xRn G0 MT (d + 9)) Q 0 85 [some (.inr (.inr 0)), some (.inl ifs), some (.inl sz), some (.inl (left - ((h1 28 12) - (hh 28 12)))), some (.inl 1), some (.inl mT), some (.inl turn), some (.inl 1), some (.inr (.inr 28)), some (.inl (hh 28 12)), some (.inl r2)] [] h1
                                exact absurd c84 (by decide)
                    · rw [c_ne (by first | assumption | (refine ⟨?_, ?_⟩ <;> omega) | (simp only [xr] at *; omega)) (by first | assumption | (refine ⟨?_, ?_⟩ <;> omega) | (simp only [xr] at *; omega))] at c61
                      simp only [decide_eq_true_eq, decide_eq_false_iff_not, Decidable.not_not] at c61
                      show xEx G0 cdX11_make (some .int) (xRn G0 MT (d + 9)) Q 0 62 [some (.inr (.inr 0)), some (.inl ifs), some (.inl sz), some (.inl left), some (.inl mE), some (.inl mT), some (.inl turn), some (.inl 1), some (.inr (.inr 28)), some (.inl (hh 28 12)), some (.inl r2)] [] h1
                      refine E_s 1 (i' := 63) (ls' := [some (.inr (.inr 0)), some (.inl ifs), some (.inl sz), some (.inl left), some (.inl mE), some (.inl mT), some (.inl turn), some (.inl 1), some (.inr (.inr 28)), some (.inl (hh 28 12)), some (.inl r2)]) (sk' := [.inl (-2)]) (h' := h1) rfl ?_
                      exact E_ret (x := (.ireturn, 0, [], [])) (v := some (.inl (-2))) rfl (Or.inl rfl) (by
                        have q9 : r2 = 2 := by omega
                        subst q9
                        exact hB1 hh SS TT left mE mT h1 T1 pp1 ci ex9 lr (by omega) mEr G ct1 st1 f1)
                  · rw [c_ne (by first | assumption | (refine ⟨?_, ?_⟩ <;> omega) | (simp only [xr] at *; omega)) (by first | assumption | (refine ⟨?_, ?_⟩ <;> omega) | (simp only [xr] at *; omega))] at c43
                    simp only [decide_eq_true_eq, decide_eq_false_iff_not, Decidable.not_not] at c43
                    show xEx G0 cdX11_make (some .int) (xRn G0 MT (d + 9)) Q 0 44 [some (.inr (.inr 0)), some (.inl ifs), some (.inl sz), some (.inl left), some (.inl mE), some (.inl mT), some (.inl turn), some (.inl 1), l8, l9_, l10] [] hh
                    refine E_s 3 (i' := 21) (ls' := [some (.inr (.inr 0)), some (.inl ifs), some (.inl sz), some (.inl left), some (.inl mE), some (.inl mT), some (.inl (turn + 1)), some (.inl 1), l8, l9_, l10]) (sk' := []) (h' := hh) rfl ?_
                    exact ih21 hh SS TT left mE mT (turn + 1) sz _ _ _ _ ⟨ci, ex9, lr, mEr, mTr, by omega, LV_k lv (by omega), zr⟩ (by rw [ez]; exact hPK hh SS TT left mE mT (turn % 2) ((turn + 1) % 2) ppz (by omega)) (by omega)
            refine E_s 1 (i' := 28) (ls' := [some (.inr (.inr 0)), some (.inl ifs), some (.inl sz), some (.inl left), some (.inl mE), some (.inl mT), some (.inl turn), l7, l8, l9_, l10]) (sk' := [.inl mE]) (h' := hh) rfl ?_
            refine E_b (x := (.ifCond .ne 8, 31, [], [])) rfl rfl (fun c28 => ?_) (fun c28 => ?_)
            · rw [c_ne (by first | assumption | (refine ⟨?_, ?_⟩ <;> omega) | (simp only [xr] at *; omega)) (by first | assumption | (refine ⟨?_, ?_⟩ <;> omega) | (simp only [xr] at *; omega))] at c28
              simp only [decide_eq_true_eq, decide_eq_false_iff_not, Decidable.not_not] at c28
              show xEx G0 cdX11_make (some .int) (xRn G0 MT (d + 9)) Q 0 31 [some (.inr (.inr 0)), some (.inl ifs), some (.inl sz), some (.inl left), some (.inl mE), some (.inl mT), some (.inl turn), l7, l8, l9_, l10] [] hh
              exact cut31 () (by omega)
            · rw [c_ne (by first | assumption | (refine ⟨?_, ?_⟩ <;> omega) | (simp only [xr] at *; omega)) (by first | assumption | (refine ⟨?_, ?_⟩ <;> omega) | (simp only [xr] at *; omega))] at c28
              simp only [decide_eq_true_eq, decide_eq_false_iff_not, Decidable.not_not] at c28
              show xEx G0 cdX11_make (some .int) (xRn G0 MT (d + 9)) Q 0 29 [some (.inr (.inr 0)), some (.inl ifs), some (.inl sz), some (.inl left), some (.inl mE), some (.inl mT), some (.inl turn), l7, l8, l9_, l10] [] hh
              refine E_s 1 (i' := 30) (ls' := [some (.inr (.inr 0)), some (.inl ifs), some (.inl sz), some (.inl left), some (.inl mE), some (.inl mT), some (.inl turn), l7, l8, l9_, l10]) (sk' := [.inl mT]) (h' := hh) rfl ?_
              refine E_b (x := (.ifCond .eq 133, 95, [], [])) rfl rfl (fun c30 => ?_) (fun c30 => ?_)
              · rw [c_eq (by first | assumption | (refine ⟨?_, ?_⟩ <;> omega) | (simp only [xr] at *; omega)) (by first | assumption | (refine ⟨?_, ?_⟩ <;> omega) | (simp only [xr] at *; omega))] at c30
                simp only [decide_eq_true_eq, decide_eq_false_iff_not, Decidable.not_not] at c30
                show xEx G0 cdX11_make (some .int) (xRn G0 MT (d + 9)) Q 0 95 [some (.inr (.inr 0)), some (.inl ifs), some (.inl sz), some (.inl left), some (.inl mE), some (.inl mT), some (.inl turn), l7, l8, l9_, l10] [] hh
                refine E_s 1 (i' := 96) (ls' := [some (.inr (.inr 0)), some (.inl ifs), some (.inl sz), some (.inl left), some (.inl mE), some (.inl mT), some (.inl turn), l7, l8, l9_, l10]) (sk' := [.inl sz]) (h' := hh) rfl ?_
                exact E_ret (x := (.ireturn, 0, [], [])) (v := some (.inl sz)) rfl (Or.inl rfl) (hQ hh SS TT left mE mT _ sz pp ci (by first | (intro y9; exact LV_end lv lE lT (by omega) y9.2) | omega) mEr mTr)
              · rw [c_eq (by first | assumption | (refine ⟨?_, ?_⟩ <;> omega) | (simp only [xr] at *; omega)) (by first | assumption | (refine ⟨?_, ?_⟩ <;> omega) | (simp only [xr] at *; omega))] at c30
                simp only [decide_eq_true_eq, decide_eq_false_iff_not, Decidable.not_not] at c30
                show xEx G0 cdX11_make (some .int) (xRn G0 MT (d + 9)) Q 0 31 [some (.inr (.inr 0)), some (.inl ifs), some (.inl sz), some (.inl left), some (.inl mE), some (.inl mT), some (.inl turn), l7, l8, l9_, l10] [] hh
                exact cut31 () (by omega)
    exact key21 _ h1 S T (h1 0 9) 1 0 0 r1 none none none none ⟨ci1, sp.1 _ (by decide), al, Or.inr rfl, by omega, by omega, ⟨fun _ => by rw [sp.1 9 (by decide)]; have := ci.2.1.2.2.2.2.2.1; omega, fun _ => by rw [sp.1 28 (by decide)]; have := ci.2.2.1.2.2.2.2.2.1; omega⟩, by omega⟩ (by rw [er]; exact hPZ (by first | rw [if_pos (by omega)] | rw [if_neg (by omega)])) (Nat.lt_succ_self _)
  · rw [c_le (by first | assumption | (refine ⟨?_, ?_⟩ <;> omega) | (simp only [xr] at *; omega)) (by first | assumption | (refine ⟨?_, ?_⟩ <;> omega) | (simp only [xr] at *; omega))] at c14
    simp only [decide_eq_true_eq, decide_eq_false_iff_not, Decidable.not_not] at c14
    show xEx G0 cdX11_make (some .int) (xRn G0 MT (d + 9)) Q 0 15 [some (.inr (.inr 0)), some (.inl ifs), some (.inl r1), some (.inl (h1 0 9)), some (.inl 1), none, none, none, none, none, none] [] h1
    refine E_s 5 (i' := 21) (ls' := [some (.inr (.inr 0)), some (.inl ifs), some (.inl r1), some (.inl (h1 0 9)), some (.inl 1), some (.inl 1), some (.inl 0), none, none, none, none]) (sk' := []) (h' := h1) rfl ?_
    have key21 : ∀ (n : Nat) (hh SS TT : xH) (left mE mT turn sz : Int) (l7 l8 l9_ l10 : Option xV), (MKI h hh SS TT left mE mT turn sz) → (P hh SS TT left mE mT (turn % 2) sz) → ((64 - turn).toNat) < n → xEx G0 cdX11_make (some .int) (xRn G0 MT (d + 9)) Q 0 21 [some (.inr (.inr 0)), some (.inl ifs), some (.inl sz), some (.inl left), some (.inl mE), some (.inl mT), some (.inl turn), l7, l8, l9_, l10] [] hh := by
      intro n
      induction n with
      | zero => intro hh SS TT left mE mT turn sz l7 l8 l9_ l10 _ _ hm; exact absurd hm (Nat.not_lt_zero _)
      | succ n ih21 =>
        intro hh SS TT left mE mT turn sz l7 l8 l9_ l10 iv pp hm21
        obtain ⟨ci, ex9, lr, mEr, mTr, tr, lv, zr⟩ := iv
        have lE : 0 ≤ hh 9 13 ∧ hh 9 13 ≤ 9 := ci.2.1.2.2.2.2.2.1
        have lT : hh 28 13 = 0 ∨ (3 ≤ hh 28 13 ∧ hh 28 13 ≤ 7) := ci.2.2.1.2.2.2.2.2.1
        refine E_s 2 (i' := 23) (ls' := [some (.inr (.inr 0)), some (.inl ifs), some (.inl sz), some (.inl left), some (.inl mE), some (.inl mT), some (.inl turn), l7, l8, l9_, l10]) (sk' := [.inl 64, .inl turn]) (h' := hh) rfl ?_
        refine E_b (x := (.if_icmp .ge 148, 95, [], [])) rfl rfl (fun c23 => ?_) (fun c23 => ?_)
        · rw [c_ge (by first | assumption | (refine ⟨?_, ?_⟩ <;> omega) | (simp only [xr] at *; omega)) (by first | assumption | (refine ⟨?_, ?_⟩ <;> omega) | (simp only [xr] at *; omega))] at c23
          simp only [decide_eq_true_eq, decide_eq_false_iff_not, Decidable.not_not] at c23
          show xEx G0 cdX11_make (some .int) (xRn G0 MT (d + 9)) Q 0 95 [some (.inr (.inr 0)), some (.inl ifs), some (.inl sz), some (.inl left), some (.inl mE), some (.inl mT), some (.inl turn), l7, l8, l9_, l10] [] hh
          refine E_s 1 (i' := 96) (ls' := [some (.inr (.inr 0)), some (.inl ifs), some (.inl sz), some (.inl left), some (.inl mE), some (.inl mT), some (.inl turn), l7, l8, l9_, l10]) (sk' := [.inl sz]) (h' := hh) rfl ?_
          exact E_ret (x := (.ireturn, 0, [], [])) (v := some (.inl sz)) rfl (Or.inl rfl) (hQ hh SS TT left mE mT _ sz pp ci (by first | (intro y9; exact LV_end lv lE lT (by omega) y9.2) | omega) mEr mTr)
        · rw [c_ge (by first | assumption | (refine ⟨?_, ?_⟩ <;> omega) | (simp only [xr] at *; omega)) (by first | assumption | (refine ⟨?_, ?_⟩ <;> omega) | (simp only [xr] at *; omega))] at c23
          simp only [decide_eq_true_eq, decide_eq_false_iff_not, Decidable.not_not] at c23
          show xEx G0 cdX11_make (some .int) (xRn G0 MT (d + 9)) Q 0 24 [some (.inr (.inr 0)), some (.inl ifs), some (.inl sz), some (.inl left), some (.inl mE), some (.inl mT), some (.inl turn), l7, l8, l9_, l10] [] hh
          refine E_s 2 (i' := 26) (ls' := [some (.inr (.inr 0)), some (.inl ifs), some (.inl sz), some (.inl left), some (.inl mE), some (.inl mT), some (.inl turn), l7, l8, l9_, l10]) (sk' := [.inl (-1), .inl sz]) (h' := hh) rfl ?_
          refine E_b (x := (.if_icmp .ne 143, 95, [], [])) rfl rfl (fun c26 => ?_) (fun c26 => ?_)
          · rw [c_ne (by first | assumption | (refine ⟨?_, ?_⟩ <;> omega) | (simp only [xr] at *; omega)) (by first | assumption | (refine ⟨?_, ?_⟩ <;> omega) | (simp only [xr] at *; omega))] at c26
            simp only [decide_eq_true_eq, decide_eq_false_iff_not, Decidable.not_not] at c26
            show xEx G0 cdX11_make (some .int) (xRn G0 MT (d + 9)) Q 0 95 [some (.inr (.inr 0)), some (.inl ifs), some (.inl sz), some (.inl left), some (.inl mE), some (.inl mT), some (.inl turn), l7, l8, l9_, l10] [] hh
            refine E_s 1 (i' := 96) (ls' := [some (.inr (.inr 0)), some (.inl ifs), some (.inl sz), some (.inl left), some (.inl mE), some (.inl mT), some (.inl turn), l7, l8, l9_, l10]) (sk' := [.inl sz]) (h' := hh) rfl ?_
            exact E_ret (x := (.ireturn, 0, [], [])) (v := some (.inl sz)) rfl (Or.inl rfl) (hQ hh SS TT left mE mT _ sz pp ci (by first | (intro y9; exact LV_end lv lE lT (by omega) y9.2) | omega) mEr mTr)
          · rw [c_ne (by first | assumption | (refine ⟨?_, ?_⟩ <;> omega) | (simp only [xr] at *; omega)) (by first | assumption | (refine ⟨?_, ?_⟩ <;> omega) | (simp only [xr] at *; omega))] at c26
            simp only [decide_eq_true_eq, decide_eq_false_iff_not, Decidable.not_not] at c26
            show xEx G0 cdX11_make (some .int) (xRn G0 MT (d + 9)) Q 0 27 [some (.inr (.inr 0)), some (.inl ifs), some (.inl sz), some (.inl left), some (.inl mE), some (.inl mT), some (.inl turn), l7, l8, l9_, l10] [] hh
            have cut31 : ∀ (_u : Unit), (mE = 1 ∨ mT = 1) → xEx G0 cdX11_make (some .int) (xRn G0 MT (d + 9)) Q 0 31 [some (.inr (.inr 0)), some (.inl ifs), some (.inl sz), some (.inl left), some (.inl mE), some (.inl mT), some (.inl turn), l7, l8, l9_, l10] [] hh := by
              intro _u q31
              have ez : sz = -1 := by omega
              have ppz : P hh SS TT left mE mT (turn % 2) (-1) := by rw [← ez]; exact pp
              refine E_s 2 (i' := 33) (ls' := [some (.inr (.inr 0)), some (.inl ifs), some (.inl sz), some (.inl left), some (.inl mE), some (.inl mT), some (.inl turn), l7, l8, l9_, l10]) (sk' := [.inl 2, .inl turn]) (h' := hh) rfl ?_
              refine E_rem (x := (.irem, 0, [], [])) rfl rfl (by decide) ?_
              show xEx G0 cdX11_make (some .int) (xRn G0 MT (d + 9)) Q 0 34 [some (.inr (.inr 0)), some (.inl ifs), some (.inl sz), some (.inl left), some (.inl mE), some (.inl mT), some (.inl turn), l7, l8, l9_, l10] [.inl (xrem turn 2)] hh
              have xe := xrem_2 tr.1 tr.2
              have xx := xrem_r turn 2
              refine E_s 1 (i' := 35) (ls' := [some (.inr (.inr 0)), some (.inl ifs), some (.inl sz), some (.inl left), some (.inl mE), some (.inl mT), some (.inl turn), l7, l8, l9_, l10]) (sk' := [.inl 1, .inl (xrem turn 2)]) (h' := hh) rfl ?_
              refine E_b (x := (.if_icmp .ne 7, 38, [], [])) rfl rfl (fun c35 => ?_) (fun c35 => ?_)
              · rw [c_ne (by first | assumption | (refine ⟨?_, ?_⟩ <;> omega) | (simp only [xr] at *; omega)) (by first | assumption | (refine ⟨?_, ?_⟩ <;> omega) | (simp only [xr] at *; omega))] at c35
                simp only [decide_eq_true_eq, decide_eq_false_iff_not, Decidable.not_not] at c35
                show xEx G0 cdX11_make (some .int) (xRn G0 MT (d + 9)) Q 0 38 [some (.inr (.inr 0)), some (.inl ifs), some (.inl sz), some (.inl left), some (.inl mE), some (.inl mT), some (.inl turn), l7, l8, l9_, l10] [] hh
                refine E_s 3 (i' := 41) (ls' := [some (.inr (.inr 0)), some (.inl ifs), some (.inl sz), some (.inl left), some (.inl mE), some (.inl mT), some (.inl turn), some (.inl 0), l8, l9_, l10]) (sk' := [.inl 0]) (h' := hh) rfl ?_
                refine E_b (x := (.ifCond .eq 11, 45, [], [])) rfl rfl (fun c41 => ?_) (fun c41 => ?_)
                · show xEx G0 cdX11_make (some .int) (xRn G0 MT (d + 9)) Q 0 45 [some (.inr (.inr 0)), some (.inl ifs), some (.inl sz), some (.inl left), some (.inl mE), some (.inl mT), some (.inl turn), some (.inl 0), l8, l9_, l10] [] hh
                  refine E_s 1 (i' := 46) (ls' := [some (.inr (.inr 0)), some (.inl ifs), some (.inl sz), some (.inl left), some (.inl mE), some (.inl mT), some (.inl turn), some (.inl 0), l8, l9_, l10]) (sk' := [.inl mE]) (h' := hh) rfl ?_
                  refine E_b (x := (.ifCond .ne 6, 48, [], [])) rfl rfl (fun c46 => ?_) (fun c46 => ?_)
                  · rw [c_ne (by first | assumption | (refine ⟨?_, ?_⟩ <;> omega) | (simp only [xr] at *; omega)) (by first | assumption | (refine ⟨?_, ?_⟩ <;> omega) | (simp only [xr] at *; omega))] at c46
                    simp only [decide_eq_true_eq, decide_eq_false_iff_not, Decidable.not_not] at c46
                    show xEx G0 cdX11_make (some .int) (xRn G0 MT (d + 9)) Q 0 48 [some (.inr (.inr 0)), some (.inl ifs), some (.inl sz), some (.inl left), some (.inl mE), some (.inl mT), some (.inl turn), some (.inl 0), l8, l9_, l10] [] hh
                    have te9 : turn % 2 = 0 := by omega
                    have pp0 : P hh SS TT left mE mT 0 (-1) := by rw [te9] at ppz; exact ppz
                    refine E_s 2 (i' := 50) (ls' := [some (.inr (.inr 0)), some (.inl ifs), some (.inl sz), some (.inl left), some (.inl mE), some (.inl mT), some (.inl turn), some (.inl 0), l8, l9_, l10]) (sk' := [.inl 0, .inr (.inr 0)]) (h' := hh) rfl ?_
                    refine E_cx (x := (.invokevirtual 161, 1, [(9, 142)], [0])) (b1 := 0) (b2 := 0) (v := (some (.inr (.inr 9)))) (q := fun h9 => (True) ∧ hh = h9) rfl rfl (Nat.le_of_ble_eq_true rfl) (fun z => by cases z) (c_growthOf0 (d + 8) 0 hh (Or.inl ⟨rfl, trivial, rfl⟩)) (fun h9 hq9 => ?_)
                    obtain ⟨_t, rfl⟩ := hq9
                    show xEx G0 cdX11_make (some .int) (xRn G0 MT (d + 9)) Q 0 51 [some (.inr (.inr 0)), some (.inl ifs), some (.inl sz), some (.inl left), some (.inl mE), some (.inl mT), some (.inl turn), some (.inl 0), l8, l9_, l10] [.inr (.inr 9)] hh
                    refine E_s 6 (i' := 57) (ls' := [some (.inr (.inr 0)), some (.inl ifs), some (.inl sz), some (.inl left), some (.inl mE), some (.inl mT), some (.inl turn), some (.inl 0), some (.inr (.inr 9)), some (.inl (hh 9 12)), l10]) (sk' := [.inl left, .inr (.inr 9)]) (h' := hh) rfl ?_
                    refine E_cp (x := (.invokevirtual 165, 1, [(1, 33), (7, 33)], [1])) (q := fun r h9 => ∃ S9, GEr hh SS left r h9 S9 ∧ CE h9 S9 ∧ STB SS S9 ∧ FA hh h9) rfl rfl (Nat.le_of_ble_eq_true rfl) (a_ge (d + 1) 0 hh SS left ci.1 ci.2.1 lr (fun r h9 S9 z1 z2 z3 z4 => ⟨_, rfl, S9, z1, z2, z3, z4⟩)) (fun r2 h1 hq2 => ?_)
                    obtain ⟨S1, G, ce1, st1, f1⟩ := hq2
                    have ci1 := CI_ge ci ce1 st1 f1
                    have gf := GE_f ci.1 ci.2.1 lr G
                    have x1 : h1 1 = hh 1 := f1.1 _ (by decide)
                    have md0 : hh 9 12 = SS 0 2 := ci.2.1.1.2.2.1
                    have md1 : h1 9 12 = S1 0 2 := ce1.1.2.2.1
                    have lvT : h1 28 = hh 28 := f1.1 _ (by decide)
                    show xEx G0 cdX11_make (some .int) (xRn G0 MT (d + 9)) Q 0 58 [some (.inr (.inr 0)), some (.inl ifs), some (.inl sz), some (.inl left), some (.inl mE), some (.inl mT), some (.inl turn), some (.inl 0), some (.inr (.inr 9)), some (.inl (hh 9 12)), l10] [.inl r2] h1
                    have gr := gf.1
                    refine E_s 3 (i' := 61) (ls' := [some (.inr (.inr 0)), some (.inl ifs), some (.inl sz), some (.inl left), some (.inl mE), some (.inl mT), some (.inl turn), some (.inl 0), some (.inr (.inr 9)), some (.inl (hh 9 12)), some (.inl r2)]) (sk' := [.inl 2, .inl r2]) (h' := h1) rfl ?_
                    refine E_b (x := (.if_icmp .ne 6, 64, [], [])) rfl rfl (fun c61 => ?_) (fun c61 => ?_)
                    · rw [c_ne (by first | assumption | (refine ⟨?_, ?_⟩ <;> omega) | (simp only [xr] at *; omega)) (by first | assumption | (refine ⟨?_, ?_⟩ <;> omega) | (simp only [xr] at *; omega))] at c61
                      simp only [decide_eq_true_eq, decide_eq_false_iff_not, Decidable.not_not] at c61
                      show xEx G0 cdX11_make (some .int) (xRn G0 MT (d + 9)) Q 0 64 [some (.inr (.inr 0)), some (.inl ifs), some (.inl sz), some (.inl left), some (.inl mE), some (.inl mT), some (.inl turn), some (.inl 0), some (.inr (.inr 9)), some (.inl (hh 9 12)), some (.inl r2)] [] h1
                      refine E_s 7 (i' := 71) (ls' := [some (.inr (.inr 0)), some (.inl ifs), some (.inl sz), some (.inl (left - ((h1 9 12) - (hh 9 12)))), some (.inl mE), some (.inl mT), some (.inl turn), some (.inl 0), some (.inr (.inr 9)), some (.inl (hh 9 12)), some (.inl r2)]) (sk' := []) (h' := h1) rfl ?_
                      have cut89 : ∀ (e2 t2 : Int), (e2 = (if r2 = 0 then 1 else 0)) → (t2 = mT) → xEx G0 cdX11_make (some .int) (xRn G0 MT (d + 9)) Q 0 89 [some (.inr (.inr 0)), some (.inl ifs), some (.inl sz), some (.inl (left - ((h1 9 12) - (hh 9 12)))), some (.inl e2), some (.inl t2), some (.inl turn), some (.inl 0), some (.inr (.inr 9)), some (.inl (hh 9 12)), some (.inl r2)] [] h1 := by
                        intro e2 t2 hE2 hT2
                        refine E_s 2 (i' := 91) (ls' := [some (.inr (.inr 0)), some (.inl ifs), some (.inl sz), some (.inl (left - ((h1 9 12) - (hh 9 12)))), some (.inl e2), some (.inl t2), some (.inl turn), some (.inl 0), some (.inr (.inr 9)), some (.inl (hh 9 12)), some (.inl r2)]) (sk' := [.inl ifs, .inr (.inr 0)]) (h' := h1) rfl ?_
                        have fl2 : (e2 = 0 ∨ e2 = 1) ∧ (e2 = 1 → r2 = 0) := by
                          by_cases y9 : r2 = 0
                          · rw [if_pos y9] at hE2; omega
                          · rw [if_neg y9] at hE2; omega
                        obtain ⟨fl2, fl3⟩ := fl2
                        have hm1 : m = (h1 1 2).toNat := by rw [x1, ex9]; exact hm
                        have hn1 : 0 ≤ h1 1 2 ∧ h1 1 2 ≤ 12 := by rw [x1, ex9]; exact hn
                        have o1 : OKS S1 TT (S1 0 0) (TT 0 0) m := hm1 ▸ OKS_ci ci1
                        obtain ⟨u1, -, -, u4, -, -⟩ := EV_ci ci1
                        refine E_cp (x := (.invokevirtual 288, 1, [(9, 141)], [0])) (q := fun r h9 => r = sno (szf S1 TT (S1 0 0) (TT 0 0) (-1) ifs.toNat (xshl 1 (h1 1 2) - 1)) ∧ SETP h1 h9 S1 TT m ifs) rfl rfl (Nat.le_of_ble_eq_true rfl) (c_settleP d 0 h1 S1 TT ifs hi ci1.2.2.2.2.1 u1 u4 m o1 hm1 hn1 (fun h9 z => ⟨_, rfl, rfl, z⟩)) (fun r3 h2 hq3 => ?_)
                        obtain ⟨er3, sp3⟩ := hq3
                        have ci2 := SET_ci hi ci1 hm1 sp3
                        have zr3 := sno_r (szf_r (p := -1) o1 ifs.toNat (xshl 1 (h1 1 2) - 1))
                        have x2 : h2 1 = h1 1 := sp3.1 _ (by decide)
                        have l9 : h2 9 = h1 9 := sp3.1 _ (by decide)
                        have l28 : h2 28 = h1 28 := sp3.1 _ (by decide)
                        show xEx G0 cdX11_make (some .int) (xRn G0 MT (d + 9)) Q 0 92 [some (.inr (.inr 0)), some (.inl ifs), some (.inl sz), some (.inl (left - ((h1 9 12) - (hh 9 12)))), some (.inl e2), some (.inl t2), some (.inl turn), some (.inl 0), some (.inr (.inr 9)), some (.inl (hh 9 12)), some (.inl r2)] [.inl r3] h2
                        refine E_s 3 (i' := 21) (ls' := [some (.inr (.inr 0)), some (.inl ifs), some (.inl r3), some (.inl (left - ((h1 9 12) - (hh 9 12)))), some (.inl e2), some (.inl t2), some (.inl (turn + 1)), some (.inl 0), some (.inr (.inr 9)), some (.inl (hh 9 12)), some (.inl r2)]) (sk' := []) (h' := h2) rfl ?_
                        exact ih21 h2 S1 TT (left - ((h1 9 12) - (hh 9 12))) e2 t2 (turn + 1) r3 _ _ _ _ ⟨ci2, by rw [x2, x1, ex9], by have := gf.2.2 (by omega); omega, by omega, by omega, by omega, LV_E lv (by omega) (by omega) gf.2.1 lvT l9 l28 fl3 hT2, by omega⟩ (by rw [er3]; exact (hPE hh SS TT left mE mT r2 h1 S1 h2 _ _ _ _ pp0 ci ex9 lr (by omega) mTr G ce1 st1 f1 (by omega) sp3 (by omega) hE2 hT2 (by omega))) (by omega)
                      refine E_s 1 (i' := 72) (ls' := [some (.inr (.inr 0)), some (.inl ifs), some (.inl sz), some (.inl (left - ((h1 9 12) - (hh 9 12)))), some (.inl mE), some (.inl mT), some (.inl turn), some (.inl 0), some (.inr (.inr 9)), some (.inl (hh 9 12)), some (.inl r2)]) (sk' := [.inl r2]) (h' := h1) rfl ?_
                      refine E_b (x := (.ifCond .eq 37, 89, [], [])) rfl rfl (fun c72 => ?_) (fun c72 => ?_)
                      · rw [c_eq (by first | assumption | (refine ⟨?_, ?_⟩ <;> omega) | (simp only [xr] at *; omega)) (by first | assumption | (refine ⟨?_, ?_⟩ <;> omega) | (simp only [xr] at *; omega))] at c72
                        simp only [decide_eq_true_eq, decide_eq_false_iff_not, Decidable.not_not] at c72
                        show xEx G0 cdX11_make (some .int) (xRn G0 MT (d + 9)) Q 0 89 [some (.inr (.inr 0)), some (.inl ifs), some (.inl sz), some (.inl (left - ((h1 9 12) - (hh 9 12)))), some (.inl mE), some (.inl mT), some (.inl turn), some (.inl 0), some (.inr (.inr 9)), some (.inl (hh 9 12)), some (.inl r2)] [] h1
                        exact cut89 mE mT (by first | rw [if_pos (by omega)]; omega | rw [if_neg (by omega)]) (by omega)
                      · rw [c_eq (by first | assumption | (refine ⟨?_, ?_⟩ <;> omega) | (simp only [xr] at *; omega)) (by first | assumption | (refine ⟨?_, ?_⟩ <;> omega) | (simp only [xr] at *; omega))] at c72
                        simp only [decide_eq_true_eq, decide_eq_false_iff_not, Decidable.not_not] at c72
                        show xEx G0 cdX11_make (some .int) (xRn G0 MT (d + 9)) Q 0 73 [some (.inr (.inr 0)), some (.inl ifs), some (.inl sz), some (.inl (left - ((h1 9 12) - (hh 9 12)))), some (.inl mE), some (.inl mT), some (.inl turn), some (.inl 0), some (.inr (.inr 9)), some (.inl (hh 9 12)), some (.inl r2)] [] h1
                        refine E_s 1 (i' := 74) (ls' := [some (.inr (.inr 0)), some (.inl ifs), some (.inl sz), some (.inl (left - ((h1 9 12) - (hh 9 12)))), some (.inl mE), some (.inl mT), some (.inl turn), some (.inl 0), some (.inr (.inr 9)), some (.inl (hh 9 12)), some (.inl r2)]) (sk' := [.inl mE]) (h' := h1) rfl ?_
                        refine E_b (x := (.ifCond .eq 12, 79, [], [])) rfl rfl (fun c74 => ?_) (fun c74 => ?_)
                        · rw [c_eq (by first | assumption | (refine ⟨?_, ?_⟩ <;> omega) | (simp only [xr] at *; omega)) (by first | assumption | (refine ⟨?_, ?_⟩ <;> omega) | (simp only [xr] at *; omega))] at c74
                          simp only [decide_eq_true_eq, decide_eq_false_iff_not, Decidable.not_not] at c74
                          show xEx G0 cdX11_make (some .int) (xRn G0 MT (d + 9)) Q 0 79 [some (.inr (.inr 0)), some (.inl ifs), some (.inl sz), some (.inl (left - ((h1 9 12) - (hh 9 12)))), some (.inl mE), some (.inl mT), some (.inl turn), some (.inl 0), some (.inr (.inr 9)), some (.inl (hh 9 12)), some (.inl r2)] [] h1
                          refine E_s 3 (i' := 82) (ls' := [some (.inr (.inr 0)), some (.inl ifs), some (.inl sz), some (.inl (left - ((h1 9 12) - (hh 9 12)))), some (.inl 0), some (.inl mT), some (.inl turn), some (.inl 0), some (.inr (.inr 9)), some (.inl (hh 9 12)), some (.inl r2)]) (sk' := [.inl mT]) (h' := h1) rfl ?_
                          refine E_b (x := (.ifCond .eq 12, 87, [], [])) rfl rfl (fun c82 => ?_) (fun c82 => ?_)
                          · rw [c_eq (by first | assumption | (refine ⟨?_, ?_⟩ <;> omega) | (simp only [xr] at *; omega)) (by first | assumption | (refine ⟨?_, ?_⟩ <;> omega) | (simp only [xr] at *; omega))] at c82
                            simp only [decide_eq_true_eq, decide_eq_false_iff_not, Decidable.not_not] at c82
                            show xEx G0 cdX11_make (some .int) (xRn G0 MT (d + 9)) Q 0 87 [some (.inr (.inr 0)), some (.inl ifs), some (.inl sz), some (.inl (left - ((h1 9 12) - (hh 9 12)))), some (.inl 0), some (.inl mT), some (.inl turn), some (.inl 0), some (.inr (.inr 9)), some (.inl (hh 9 12)), some (.inl r2)] [] h1
                            refine E_s 2 (i' := 89) (ls' := [some (.inr (.inr 0)), some (.inl ifs), some (.inl sz), some (.inl (left - ((h1 9 12) - (hh 9 12)))), some (.inl 0), some (.inl 0), some (.inl turn), some (.inl 0), some (.inr (.inr 9)), some (.inl (hh 9 12)), some (.inl r2)]) (sk' := []) (h' := h1) rfl ?_
                            exact cut89 0 0 (by first | rw [if_pos (by omega)]; omega | rw [if_neg (by omega)]) (by omega)
                          · rw [c_eq (by first | assumption | (refine ⟨?_, ?_⟩ <;> omega) | (simp only [xr] at *; omega)) (by first | assumption | (refine ⟨?_, ?_⟩ <;> omega) | (simp only [xr] at *; omega))] at c82
                            simp only [decide_eq_true_eq, decide_eq_false_iff_not, Decidable.not_not] at c82
                            show xEx G0 cdX11_make (some .int) (xRn G0 MT (d + 9)) Q 0 83 [some (.inr (.inr 0)), some (.inl ifs), some (.inl sz), some (.inl (left - ((h1 9 12) - (hh 9 12)))), some (.inl 0), some (.inl mT), some (.inl turn), some (.inl 0), some (.inr (.inr 9)), some (.inl (hh 9 12)), some (.inl r2)] [] h1
                            refine E_s 1 (i' := 84) (ls' := [some (.inr (.inr 0)), some (.inl ifs), some (.inl sz), some (.inl (left - ((h1 9 12) - (hh 9 12)))), some (.inl 0), some (.inl mT), some (.inl turn), some (.inl 0), some (.inr (.inr 9)), some (.inl (hh 9 12)), some (.inl r2)]) (sk' := [.inl 0]) (h' := h1) rfl ?_
                            refine E_b (x := (.ifCond .ne 7, 87, [], [])) rfl rfl (fun c84 => ?_) (fun c84 => ?_)
                            · show xEx G0 cdX11_make (some .int) (xRn G0 MT (d + 9)) Q 0 87 [some (.inr (.inr 0)), some (.inl ifs), some (.inl sz), some (.inl (left - ((h1 9 12) - (hh 9 12)))), some (.inl 0), some (.inl mT), some (.inl turn), some (.inl 0), some (.inr (.inr 9)), some (.inl (hh 9 12)), some (.inl r2)] [] h1
                              exact absurd c84 (by decide)
                            · show xEx G0 cdX11_make (some .int) (xRn G0 MT (d + 9)) Q 0 85 [some (.inr (.inr 0)), some (.inl ifs), some (.inl sz), some (.inl (left - ((h1 9 12) - (hh 9 12)))), some (.inl 0), some (.inl mT), some (.inl turn), some (.inl 0), some (.inr (.inr 9)), some (.inl (hh 9 12)), some (.inl r2)] [] h1
                              refine E_s 3 (i' := 89) (ls' := [some (.inr (.inr 0)), some (.inl ifs), some (.inl sz), some (.inl (left - ((h1 9 12) - (hh 9 12)))), some (.inl 0), some (.inl 1), some (.inl turn), some (.inl 0), some (.inr (.inr 9)), some (.inl (hh 9 12)), some (.inl r2)]) (sk' := []) (h' := h1) rfl ?_
                              exact cut89 0 1 (by first | rw [if_pos (by omega)]; omega | rw [if_neg (by omega)]) (by omega)
                        · rw [c_eq (by first | assumption | (refine ⟨?_, ?_⟩ <;> omega) | (simp only [xr] at *; omega)) (by first | assumption | (refine ⟨?_, ?_⟩ <;> omega) | (simp only [xr] at *; omega))] at c74
                          simp only [decide_eq_true_eq, decide_eq_false_iff_not, Decidable.not_not] at c74
                          show xEx G0 cdX11_make (some .int) (xRn G0 MT (d + 9)) Q 0 75 [some (.inr (.inr 0)), some (.inl ifs), some (.inl sz), some (.inl (left - ((h1 9 12) - (hh 9 12)))), some (.inl mE), some (.inl mT), some (.inl turn), some (.inl 0), some (.inr (.inr 9)), some (.inl (hh 9 12)), some (.inl r2)] [] h1
                          refine E_s 1 (i' := 76) (ls' := [some (.inr (.inr 0)), some (.inl ifs), some (.inl sz), some (.inl (left - ((h1 9 12) - (hh 9 12)))), some (.inl mE), some (.inl mT), some (.inl turn), some (.inl 0), some (.inr (.inr 9)), some (.inl (hh 9 12)), some (.inl r2)]) (sk' := [.inl 0]) (h' := h1) rfl ?_
                          refine E_b (x := (.ifCond .eq 7, 79, [], [])) rfl rfl (fun c76 => ?_) (fun c76 => ?_)
                          · show xEx G0 cdX11_make (some .int) (xRn G0 MT (d + 9)) Q 0 79 [some (.inr (.inr 0)), some (.inl ifs), some (.inl sz), some (.inl (left - ((h1 9 12) - (hh 9 12)))), some (.inl mE), some (.inl mT), some (.inl turn), some (.inl 0), some (.inr (.inr 9)), some (.inl (hh 9 12)), some (.inl r2)] [] h1
                            refine E_s 3 (i' := 82) (ls' := [some (.inr (.inr 0)), some (.inl ifs), some (.inl sz), some (.inl (left - ((h1 9 12) - (hh 9 12)))), some (.inl 0), some (.inl mT), some (.inl turn), some (.inl 0), some (.inr (.inr 9)), some (.inl (hh 9 12)), some (.inl r2)]) (sk' := [.inl mT]) (h' := h1) rfl ?_
                            refine E_b (x := (.ifCond .eq 12, 87, [], [])) rfl rfl (fun c82 => ?_) (fun c82 => ?_)
                            · rw [c_eq (by first | assumption | (refine ⟨?_, ?_⟩ <;> omega) | (simp only [xr] at *; omega)) (by first | assumption | (refine ⟨?_, ?_⟩ <;> omega) | (simp only [xr] at *; omega))] at c82
                              simp only [decide_eq_true_eq, decide_eq_false_iff_not, Decidable.not_not] at c82
                              show xEx G0 cdX11_make (some .int) (xRn G0 MT (d + 9)) Q 0 87 [some (.inr (.inr 0)), some (.inl ifs), some (.inl sz), some (.inl (left - ((h1 9 12) - (hh 9 12)))), some (.inl 0), some (.inl mT), some (.inl turn), some (.inl 0), some (.inr (.inr 9)), some (.inl (hh 9 12)), some (.inl r2)] [] h1
                              refine E_s 2 (i' := 89) (ls' := [some (.inr (.inr 0)), some (.inl ifs), some (.inl sz), some (.inl (left - ((h1 9 12) - (hh 9 12)))), some (.inl 0), some (.inl 0), some (.inl turn), some (.inl 0), some (.inr (.inr 9)), some (.inl (hh 9 12)), some (.inl r2)]) (sk' := []) (h' := h1) rfl ?_
                              exact cut89 0 0 (by first | rw [if_pos (by omega)]; omega | rw [if_neg (by omega)]) (by omega)
                            · rw [c_eq (by first | assumption | (refine ⟨?_, ?_⟩ <;> omega) | (simp only [xr] at *; omega)) (by first | assumption | (refine ⟨?_, ?_⟩ <;> omega) | (simp only [xr] at *; omega))] at c82
                              simp only [decide_eq_true_eq, decide_eq_false_iff_not, Decidable.not_not] at c82
                              show xEx G0 cdX11_make (some .int) (xRn G0 MT (d + 9)) Q 0 83 [some (.inr (.inr 0)), some (.inl ifs), some (.inl sz), some (.inl (left - ((h1 9 12) - (hh 9 12)))), some (.inl 0), some (.inl mT), some (.inl turn), some (.inl 0), some (.inr (.inr 9)), some (.inl (hh 9 12)), some (.inl r2)] [] h1
                              refine E_s 1 (i' := 84) (ls' := [some (.inr (.inr 0)), some (.inl ifs), some (.inl sz), some (.inl (left - ((h1 9 12) - (hh 9 12)))), some (.inl 0), some (.inl mT), some (.inl turn), some (.inl 0), some (.inr (.inr 9)), some (.inl (hh 9 12)), some (.inl r2)]) (sk' := [.inl 0]) (h' := h1) rfl ?_
                              refine E_b (x := (.ifCond .ne 7, 87, [], [])) rfl rfl (fun c84 => ?_) (fun c84 => ?_)
                              · show xEx G0 cdX11_make (some .int) (xRn G0 MT (d + 9)) Q 0 87 [some (.inr (.inr 0)), some (.inl ifs), some (.inl sz), some (.inl (left - ((h1 9 12) - (hh 9 12)))), some (.inl 0), some (.inl mT), some (.inl turn), some (.inl 0), some (.inr (.inr 9)), some (.inl (hh 9 12)), some (.inl r2)] [] h1
                                exact absurd c84 (by decide)
                              · show xEx G0 cdX11_make (some .int) (xRn G0 MT (d + 9)) Q 0 85 [some (.inr (.inr 0)), some (.inl ifs), some (.inl sz), some (.inl (left - ((h1 9 12) - (hh 9 12)))), some (.inl 0), some (.inl mT), some (.inl turn), some (.inl 0), some (.inr (.inr 9)), some (.inl (hh 9 12)), some (.inl r2)] [] h1
                                refine E_s 3 (i' := 89) (ls' := [some (.inr (.inr 0)), some (.inl ifs), some (.inl sz), some (.inl (left - ((h1 9 12) - (hh 9 12)))), some (.inl 0), some (.inl 1), some (.inl turn), some (.inl 0), some (.inr (.inr 9)), some (.inl (hh 9 12)), some (.inl r2)]) (sk' := []) (h' := h1) rfl ?_
                                exact cut89 0 1 (by first | rw [if_pos (by omega)]; omega | rw [if_neg (by omega)]) (by omega)
                          · show xEx G0 cdX11_make (some .int) (xRn G0 MT (d + 9)) Q 0 77 [some (.inr (.inr 0)), some (.inl ifs), some (.inl sz), some (.inl (left - ((h1 9 12) - (hh 9 12)))), some (.inl mE), some (.inl mT), some (.inl turn), some (.inl 0), some (.inr (.inr 9)), some (.inl (hh 9 12)), some (.inl r2)] [] h1
                            exact absurd c76 (by decide)
                    · rw [c_ne (by first | assumption | (refine ⟨?_, ?_⟩ <;> omega) | (simp only [xr] at *; omega)) (by first | assumption | (refine ⟨?_, ?_⟩ <;> omega) | (simp only [xr] at *; omega))] at c61
                      simp only [decide_eq_true_eq, decide_eq_false_iff_not, Decidable.not_not] at c61
                      show xEx G0 cdX11_make (some .int) (xRn G0 MT (d + 9)) Q 0 62 [some (.inr (.inr 0)), some (.inl ifs), some (.inl sz), some (.inl left), some (.inl mE), some (.inl mT), some (.inl turn), some (.inl 0), some (.inr (.inr 9)), some (.inl (hh 9 12)), some (.inl r2)] [] h1
                      refine E_s 1 (i' := 63) (ls' := [some (.inr (.inr 0)), some (.inl ifs), some (.inl sz), some (.inl left), some (.inl mE), some (.inl mT), some (.inl turn), some (.inl 0), some (.inr (.inr 9)), some (.inl (hh 9 12)), some (.inl r2)]) (sk' := [.inl (-2)]) (h' := h1) rfl ?_
                      exact E_ret (x := (.ireturn, 0, [], [])) (v := some (.inl (-2))) rfl (Or.inl rfl) (by
                        have q9 : r2 = 2 := by omega
                        subst q9
                        exact hB0 hh SS TT left mE mT h1 S1 pp0 ci ex9 lr (by omega) mTr G ce1 st1 f1)
                  · rw [c_ne (by first | assumption | (refine ⟨?_, ?_⟩ <;> omega) | (simp only [xr] at *; omega)) (by first | assumption | (refine ⟨?_, ?_⟩ <;> omega) | (simp only [xr] at *; omega))] at c46
                    simp only [decide_eq_true_eq, decide_eq_false_iff_not, Decidable.not_not] at c46
                    show xEx G0 cdX11_make (some .int) (xRn G0 MT (d + 9)) Q 0 47 [some (.inr (.inr 0)), some (.inl ifs), some (.inl sz), some (.inl left), some (.inl mE), some (.inl mT), some (.inl turn), some (.inl 0), l8, l9_, l10] [] hh
                    refine E_s 3 (i' := 21) (ls' := [some (.inr (.inr 0)), some (.inl ifs), some (.inl sz), some (.inl left), some (.inl mE), some (.inl mT), some (.inl (turn + 1)), some (.inl 0), l8, l9_, l10]) (sk' := []) (h' := hh) rfl ?_
                    exact ih21 hh SS TT left mE mT (turn + 1) sz _ _ _ _ ⟨ci, ex9, lr, mEr, mTr, by omega, LV_k lv (by omega), zr⟩ (by rw [ez]; exact hPK hh SS TT left mE mT (turn % 2) ((turn + 1) % 2) ppz (by omega)) (by omega)
                · show xEx G0 cdX11_make (some .int) (xRn G0 MT (d + 9)) Q 0 42 [some (.inr (.inr 0)), some (.inl ifs), some (.inl sz), some (.inl left), some (.inl mE), some (.inl mT), some (.inl turn), some (.inl 0), l8, l9_, l10] [] hh
                  exact absurd c41 (by decide)
              · rw [c_ne (by first | assumption | (refine ⟨?_, ?_⟩ <;> omega) | (simp only [xr] at *; omega)) (by first | assumption | (refine ⟨?_, ?_⟩ <;> omega) | (simp only [xr] at *; omega))] at c35
                simp only [decide_eq_true_eq, decide_eq_false_iff_not, Decidable.not_not] at c35
                show xEx G0 cdX11_make (some .int) (xRn G0 MT (d + 9)) Q 0 36 [some (.inr (.inr 0)), some (.inl ifs), some (.inl sz), some (.inl left), some (.inl mE), some (.inl mT), some (.inl turn), l7, l8, l9_, l10] [] hh
                refine E_s 4 (i' := 41) (ls' := [some (.inr (.inr 0)), some (.inl ifs), some (.inl sz), some (.inl left), some (.inl mE), some (.inl mT), some (.inl turn), some (.inl 1), l8, l9_, l10]) (sk' := [.inl 1]) (h' := hh) rfl ?_
                refine E_b (x := (.ifCond .eq 11, 45, [], [])) rfl rfl (fun c41 => ?_) (fun c41 => ?_)
                · show xEx G0 cdX11_make (some .int) (xRn G0 MT (d + 9)) Q 0 45 [some (.inr (.inr 0)), some (.inl ifs), some (.inl sz), some (.inl left), some (.inl mE), some (.inl mT), some (.inl turn), some (.inl 1), l8, l9_, l10] [] hh
                  exact absurd c41 (by decide)
                · show xEx G0 cdX11_make (some .int) (xRn G0 MT (d + 9)) Q 0 42 [some (.inr (.inr 0)), some (.inl ifs), some (.inl sz), some (.inl left), some (.inl mE), some (.inl mT), some (.inl turn), some (.inl 1), l8, l9_, l10] [] hh
                  refine E_s 1 (i' := 43) (ls' := [some (.inr (.inr 0)), some (.inl ifs), some (.inl sz), some (.inl left), some (.inl mE), some (.inl mT), some (.inl turn), some (.inl 1), l8, l9_, l10]) (sk' := [.inl mT]) (h' := hh) rfl ?_
                  refine E_b (x := (.ifCond .ne 14, 48, [], [])) rfl rfl (fun c43 => ?_) (fun c43 => ?_)
                  · rw [c_ne (by first | assumption | (refine ⟨?_, ?_⟩ <;> omega) | (simp only [xr] at *; omega)) (by first | assumption | (refine ⟨?_, ?_⟩ <;> omega) | (simp only [xr] at *; omega))] at c43
                    simp only [decide_eq_true_eq, decide_eq_false_iff_not, Decidable.not_not] at c43
                    show xEx G0 cdX11_make (some .int) (xRn G0 MT (d + 9)) Q 0 48 [some (.inr (.inr 0)), some (.inl ifs), some (.inl sz), some (.inl left), some (.inl mE), some (.inl mT), some (.inl turn), some (.inl 1), l8, l9_, l10] [] hh
                    have te9 : turn % 2 = 1 := by omega
                    have pp1 : P hh SS TT left mE mT 1 (-1) := by rw [te9] at ppz; exact ppz
                    refine E_s 2 (i' := 50) (ls' := [some (.inr (.inr 0)), some (.inl ifs), some (.inl sz), some (.inl left), some (.inl mE), some (.inl mT), some (.inl turn), some (.inl 1), l8, l9_, l10]) (sk' := [.inl 1, .inr (.inr 0)]) (h' := hh) rfl ?_
                    refine E_cx (x := (.invokevirtual 161, 1, [(9, 142)], [0])) (b1 := 0) (b2 := 0) (v := (some (.inr (.inr 28)))) (q := fun h9 => (True) ∧ hh = h9) rfl rfl (Nat.le_of_ble_eq_true rfl) (fun z => by cases z) (c_growthOf1 (d + 8) 0 hh (Or.inl ⟨rfl, trivial, rfl⟩)) (fun h9 hq9 => ?_)
                    obtain ⟨_t, rfl⟩ := hq9
                    show xEx G0 cdX11_make (some .int) (xRn G0 MT (d + 9)) Q 0 51 [some (.inr (.inr 0)), some (.inl ifs), some (.inl sz), some (.inl left), some (.inl mE), some (.inl mT), some (.inl turn), some (.inl 1), l8, l9_, l10] [.inr (.inr 28)] hh
                    refine E_s 6 (i' := 57) (ls' := [some (.inr (.inr 0)), some (.inl ifs), some (.inl sz), some (.inl left), some (.inl mE), some (.inl mT), some (.inl turn), some (.inl 1), some (.inr (.inr 28)), some (.inl (hh 28 12)), l10]) (sk' := [.inl left, .inr (.inr 28)]) (h' := hh) rfl ?_
                    refine E_cp (x := (.invokevirtual 165, 1, [(1, 33), (7, 33)], [1])) (q := fun r h9 => ∃ T9, GTr hh TT left r h9 T9 ∧ CT h9 SS T9 ∧ STB TT T9 ∧ FB hh h9) rfl rfl (Nat.le_of_ble_eq_true rfl) (a_gt (d + 1) 0 hh SS TT left ci.1 ci.2.1 ci.2.2.1 lr (fun r h9 T9 z1 z2 z3 z4 => ⟨_, rfl, T9, z1, z2, z3, z4⟩)) (fun r2 h1 hq2 => ?_)
                    obtain ⟨T1, G, ct1, st1, f1⟩ := hq2
                    have ci1 := CI_gt ci ct1 st1 f1
                    have gf := GT_f ci.1 ci.2.1 ci.2.2.1 lr G
                    have x1 : h1 1 = hh 1 := f1 _ (by decide)
                    have md0 : hh 28 12 = TT 0 2 := ci.2.2.1.1.2.2.1
                    have md1 : h1 28 12 = T1 0 2 := ct1.1.2.2.1
                    have lvE : h1 9 = hh 9 := f1 _ (by decide)
                    show xEx G0 cdX11_make (some .int) (xRn G0 MT (d + 9)) Q 0 58 [some (.inr (.inr 0)), some (.inl ifs), some (.inl sz), some (.inl left), some (.inl mE), some (.inl mT), some (.inl turn), some (.inl 1), some (.inr (.inr 28)), some (.inl (hh 28 12)), l10] [.inl r2] h1
                    have gr := gf.1
                    refine E_s 3 (i' := 61) (ls' := [some (.inr (.inr 0)), some (.inl ifs), some (.inl sz), some (.inl left), some (.inl mE), some (.inl mT), some (.inl turn), some (.inl 1), some (.inr (.inr 28)), some (.inl (hh 28 12)), some (.inl r2)]) (sk' := [.inl 2, .inl r2]) (h' := h1) rfl ?_
                    refine E_b (x := (.if_icmp .ne 6, 64, [], [])) rfl rfl (fun c61 => ?_) (fun c61 => ?_)
                    · rw [c_ne (by first | assumption | (refine ⟨?_, ?_⟩ <;> omega) | (simp only [xr] at *; omega)) (by first | assumption | (refine ⟨?_, ?_⟩ <;> omega) | (simp only [xr] at *; omega))] at c61
                      simp only [decide_eq_true_eq, decide_eq_false_iff_not, Decidable.not_not] at c61
                      show xEx G0 cdX11_make (some .int) (xRn G0 MT (d + 9)) Q 0 64 [some (.inr (.inr 0)), some (.inl ifs), some (.inl sz), some (.inl left), some (.inl mE), some (.inl mT), some (.inl turn), some (.inl 1), some (.inr (.inr 28)), some (.inl (hh 28 12)), some (.inl r2)] [] h1
                      refine E_s 7 (i' := 71) (ls' := [some (.inr (.inr 0)), some (.inl ifs), some (.inl sz), some (.inl (left - ((h1 28 12) - (hh 28 12)))), some (.inl mE), some (.inl mT), some (.inl turn), some (.inl 1), some (.inr (.inr 28)), some (.inl (hh 28 12)), some (.inl r2)]) (sk' := []) (h' := h1) rfl ?_
                      have cut89 : ∀ (e2 t2 : Int), (t2 = (if r2 = 0 then 1 else 0)) → (e2 = mE) → xEx G0 cdX11_make (some .int) (xRn G0 MT (d + 9)) Q 0 89 [some (.inr (.inr 0)), some (.inl ifs), some (.inl sz), some (.inl (left - ((h1 28 12) - (hh 28 12)))), some (.inl e2), some (.inl t2), some (.inl turn), some (.inl 1), some (.inr (.inr 28)), some (.inl (hh 28 12)), some (.inl r2)] [] h1 := by
                        intro e2 t2 hT2 hE2
                        refine E_s 2 (i' := 91) (ls' := [some (.inr (.inr 0)), some (.inl ifs), some (.inl sz), some (.inl (left - ((h1 28 12) - (hh 28 12)))), some (.inl e2), some (.inl t2), some (.inl turn), some (.inl 1), some (.inr (.inr 28)), some (.inl (hh 28 12)), some (.inl r2)]) (sk' := [.inl ifs, .inr (.inr 0)]) (h' := h1) rfl ?_
                        have fl2 : (t2 = 0 ∨ t2 = 1) ∧ (t2 = 1 → r2 = 0) := by
                          by_cases y9 : r2 = 0
                          · rw [if_pos y9] at hT2; omega
                          · rw [if_neg y9] at hT2; omega
                        obtain ⟨fl2, fl3⟩ := fl2
                        have hm1 : m = (h1 1 2).toNat := by rw [x1, ex9]; exact hm
                        have hn1 : 0 ≤ h1 1 2 ∧ h1 1 2 ≤ 12 := by rw [x1, ex9]; exact hn
                        have o1 : OKS SS T1 (SS 0 0) (T1 0 0) m := hm1 ▸ OKS_ci ci1
                        obtain ⟨u1, -, -, u4, -, -⟩ := EV_ci ci1
                        refine E_cp (x := (.invokevirtual 288, 1, [(9, 141)], [0])) (q := fun r h9 => r = sno (szf SS T1 (SS 0 0) (T1 0 0) (-1) ifs.toNat (xshl 1 (h1 1 2) - 1)) ∧ SETP h1 h9 SS T1 m ifs) rfl rfl (Nat.le_of_ble_eq_true rfl) (c_settleP d 0 h1 SS T1 ifs hi ci1.2.2.2.2.1 u1 u4 m o1 hm1 hn1 (fun h9 z => ⟨_, rfl, rfl, z⟩)) (fun r3 h2 hq3 => ?_)
                        obtain ⟨er3, sp3⟩ := hq3
                        have ci2 := SET_ci hi ci1 hm1 sp3
                        have zr3 := sno_r (szf_r (p := -1) o1 ifs.toNat (xshl 1 (h1 1 2) - 1))
                        have x2 : h2 1 = h1 1 := sp3.1 _ (by decide)
                        have l9 : h2 9 = h1 9 := sp3.1 _ (by decide)
                        have l28 : h2 28 = h1 28 := sp3.1 _ (by decide)
                        show xEx G0 cdX11_make (some .int) (xRn G0 MT (d + 9)) Q 0 92 [some (.inr (.inr 0)), some (.inl ifs), some (.inl sz), some (.inl (left - ((h1 28 12) - (hh 28 12)))), some (.inl e2), some (.inl t2), some (.inl turn), some (.inl 1), some (.inr (.inr 28)), some (.inl (hh 28 12)), some (.inl r2)] [.inl r3] h2
                        refine E_s 3 (i' := 21) (ls' := [some (.inr (.inr 0)), some (.inl ifs), some (.inl r3), some (.inl (left - ((h1 28 12) - (hh 28 12)))), some (.inl e2), some (.inl t2), some (.inl (turn + 1)), some (.inl 1), some (.inr (.inr 28)), some (.inl (hh 28 12)), some (.inl r2)]) (sk' := []) (h' := h2) rfl ?_
                        exact ih21 h2 SS T1 (left - ((h1 28 12) - (hh 28 12))) e2 t2 (turn + 1) r3 _ _ _ _ ⟨ci2, by rw [x2, x1, ex9], by have := gf.2.2 (by omega); omega, by omega, by omega, by omega, LV_T lv (by omega) (by omega) gf.2.1 lvE l9 l28 fl3 hE2, by omega⟩ (by rw [er3]; exact (hPT hh SS TT left mE mT r2 h1 T1 h2 _ _ _ _ pp1 ci ex9 lr (by omega) mEr G ct1 st1 f1 (by omega) sp3 (by omega) hT2 hE2 (by omega))) (by omega)
                      refine E_s 1 (i' := 72) (ls' := [some (.inr (.inr 0)), some (.inl ifs), some (.inl sz), some (.inl (left - ((h1 28 12) - (hh 28 12)))), some (.inl mE), some (.inl mT), some (.inl turn), some (.inl 1), some (.inr (.inr 28)), some (.inl (hh 28 12)), some (.inl r2)]) (sk' := [.inl r2]) (h' := h1) rfl ?_
                      refine E_b (x := (.ifCond .eq 37, 89, [], [])) rfl rfl (fun c72 => ?_) (fun c72 => ?_)
                      · rw [c_eq (by first | assumption | (refine ⟨?_, ?_⟩ <;> omega) | (simp only [xr] at *; omega)) (by first | assumption | (refine ⟨?_, ?_⟩ <;> omega) | (simp only [xr] at *; omega))] at c72
                        simp only [decide_eq_true_eq, decide_eq_false_iff_not, Decidable.not_not] at c72
                        show xEx G0 cdX11_make (some .int) (xRn G0 MT (d + 9)) Q 0 89 [some (.inr (.inr 0)), some (.inl ifs), some (.inl sz), some (.inl (left - ((h1 28 12) - (hh 28 12)))), some (.inl mE), some (.inl mT), some (.inl turn), some (.inl 1), some (.inr (.inr 28)), some (.inl (hh 28 12)), some (.inl r2)] [] h1
                        exact cut89 mE mT (by first | rw [if_pos (by omega)]; omega | rw [if_neg (by omega)]) (by omega)
                      · rw [c_eq (by first | assumption | (refine ⟨?_, ?_⟩ <;> omega) | (simp only [xr] at *; omega)) (by first | assumption | (refine ⟨?_, ?_⟩ <;> omega) | (simp only [xr] at *; omega))] at c72
                        simp only [decide_eq_true_eq, decide_eq_false_iff_not, Decidable.not_not] at c72
                        show xEx G0 cdX11_make (some .int) (xRn G0 MT (d + 9)) Q 0 73 [some (.inr (.inr 0)), some (.inl ifs), some (.inl sz), some (.inl (left - ((h1 28 12) - (hh 28 12)))), some (.inl mE), some (.inl mT), some (.inl turn), some (.inl 1), some (.inr (.inr 28)), some (.inl (hh 28 12)), some (.inl r2)] [] h1
                        refine E_s 1 (i' := 74) (ls' := [some (.inr (.inr 0)), some (.inl ifs), some (.inl sz), some (.inl (left - ((h1 28 12) - (hh 28 12)))), some (.inl mE), some (.inl mT), some (.inl turn), some (.inl 1), some (.inr (.inr 28)), some (.inl (hh 28 12)), some (.inl r2)]) (sk' := [.inl mE]) (h' := h1) rfl ?_
                        refine E_b (x := (.ifCond .eq 12, 79, [], [])) rfl rfl (fun c74 => ?_) (fun c74 => ?_)
                        · rw [c_eq (by first | assumption | (refine ⟨?_, ?_⟩ <;> omega) | (simp only [xr] at *; omega)) (by first | assumption | (refine ⟨?_, ?_⟩ <;> omega) | (simp only [xr] at *; omega))] at c74
                          simp only [decide_eq_true_eq, decide_eq_false_iff_not, Decidable.not_not] at c74
                          show xEx G0 cdX11_make (some .int) (xRn G0 MT (d + 9)) Q 0 79 [some (.inr (.inr 0)), some (.inl ifs), some (.inl sz), some (.inl (left - ((h1 28 12) - (hh 28 12)))), some (.inl mE), some (.inl mT), some (.inl turn), some (.inl 1), some (.inr (.inr 28)), some (.inl (hh 28 12)), some (.inl r2)] [] h1
                          refine E_s 3 (i' := 82) (ls' := [some (.inr (.inr 0)), some (.inl ifs), some (.inl sz), some (.inl (left - ((h1 28 12) - (hh 28 12)))), some (.inl 0), some (.inl mT), some (.inl turn), some (.inl 1), some (.inr (.inr 28)), some (.inl (hh 28 12)), some (.inl r2)]) (sk' := [.inl mT]) (h' := h1) rfl ?_
                          refine E_b (x := (.ifCond .eq 12, 87, [], [])) rfl rfl (fun c82 => ?_) (fun c82 => ?_)
                          · rw [c_eq (by first | assumption | (refine ⟨?_, ?_⟩ <;> omega) | (simp only [xr] at *; omega)) (by first | assumption | (refine ⟨?_, ?_⟩ <;> omega) | (simp only [xr] at *; omega))] at c82
                            simp only [decide_eq_true_eq, decide_eq_false_iff_not, Decidable.not_not] at c82
                            show xEx G0 cdX11_make (some .int) (xRn G0 MT (d + 9)) Q 0 87 [some (.inr (.inr 0)), some (.inl ifs), some (.inl sz), some (.inl (left - ((h1 28 12) - (hh 28 12)))), some (.inl 0), some (.inl mT), some (.inl turn), some (.inl 1), some (.inr (.inr 28)), some (.inl (hh 28 12)), some (.inl r2)] [] h1
                            refine E_s 2 (i' := 89) (ls' := [some (.inr (.inr 0)), some (.inl ifs), some (.inl sz), some (.inl (left - ((h1 28 12) - (hh 28 12)))), some (.inl 0), some (.inl 0), some (.inl turn), some (.inl 1), some (.inr (.inr 28)), some (.inl (hh 28 12)), some (.inl r2)]) (sk' := []) (h' := h1) rfl ?_
                            exact cut89 0 0 (by first | rw [if_pos (by omega)]; omega | rw [if_neg (by omega)]) (by omega)
                          · rw [c_eq (by first | assumption | (refine ⟨?_, ?_⟩ <;> omega) | (simp only [xr] at *; omega)) (by first | assumption | (refine ⟨?_, ?_⟩ <;> omega) | (simp only [xr] at *; omega))] at c82
                            simp only [decide_eq_true_eq, decide_eq_false_iff_not, Decidable.not_not] at c82
                            show xEx G0 cdX11_make (some .int) (xRn G0 MT (d + 9)) Q 0 83 [some (.inr (.inr 0)), some (.inl ifs), some (.inl sz), some (.inl (left - ((h1 28 12) - (hh 28 12)))), some (.inl 0), some (.inl mT), some (.inl turn), some (.inl 1), some (.inr (.inr 28)), some (.inl (hh 28 12)), some (.inl r2)] [] h1
                            refine E_s 1 (i' := 84) (ls' := [some (.inr (.inr 0)), some (.inl ifs), some (.inl sz), some (.inl (left - ((h1 28 12) - (hh 28 12)))), some (.inl 0), some (.inl mT), some (.inl turn), some (.inl 1), some (.inr (.inr 28)), some (.inl (hh 28 12)), some (.inl r2)]) (sk' := [.inl 1]) (h' := h1) rfl ?_
                            refine E_b (x := (.ifCond .ne 7, 87, [], [])) rfl rfl (fun c84 => ?_) (fun c84 => ?_)
                            · show xEx G0 cdX11_make (some .int) (xRn G0 MT (d + 9)) Q 0 87 [some (.inr (.inr 0)), some (.inl ifs), some (.inl sz), some (.inl (left - ((h1 28 12) - (hh 28 12)))), some (.inl 0), some (.inl mT), some (.inl turn), some (.inl 1), some (.inr (.inr 28)), some (.inl (hh 28 12)), some (.inl r2)] [] h1
                              refine E_s 2 (i' := 89) (ls' := [some (.inr (.inr 0)), some (.inl ifs), some (.inl sz), some (.inl (left - ((h1 28 12) - (hh 28 12)))), some (.inl 0), some (.inl 0), some (.inl turn), some (.inl 1), some (.inr (.inr 28)), some (.inl (hh 28 12)), some (.inl r2)]) (sk' := []) (h' := h1) rfl ?_
                              exact cut89 0 0 (by first | rw [if_pos (by omega)]; omega | rw [if_neg (by omega)]) (by omega)
                            · show xEx G0 cdX11_make (some .int) (xRn G0 MT (d + 9)) Q 0 85 [some (.inr (.inr 0)), some (.inl ifs), some (.inl sz), some (.inl (left - ((h1 28 12) - (hh 28 12)))), some (.inl 0), some (.inl mT), some (.inl turn), some (.inl 1), some (.inr (.inr 28)), some (.inl (hh 28 12)), some (.inl r2)] [] h1
                              exact absurd c84 (by decide)
                        · rw [c_eq (by first | assumption | (refine ⟨?_, ?_⟩ <;> omega) | (simp only [xr] at *; omega)) (by first | assumption | (refine ⟨?_, ?_⟩ <;> omega) | (simp only [xr] at *; omega))] at c74
                          simp only [decide_eq_true_eq, decide_eq_false_iff_not, Decidable.not_not] at c74
                          show xEx G0 cdX11_make (some .int) (xRn G0 MT (d + 9)) Q 0 75 [some (.inr (.inr 0)), some (.inl ifs), some (.inl sz), some (.inl (left - ((h1 28 12) - (hh 28 12)))), some (.inl mE), some (.inl mT), some (.inl turn), some (.inl 1), some (.inr (.inr 28)), some (.inl (hh 28 12)), some (.inl r2)] [] h1
                          refine E_s 1 (i' := 76) (ls' := [some (.inr (.inr 0)), some (.inl ifs), some (.inl sz), some (.inl (left - ((h1 28 12) - (hh 28 12)))), some (.inl mE), some (.inl mT), some (.inl turn), some (.inl 1), some (.inr (.inr 28)), some (.inl (hh 28 12)), some (.inl r2)]) (sk' := [.inl 1]) (h' := h1) rfl ?_
                          refine E_b (x := (.ifCond .eq 7, 79, [], [])) rfl rfl (fun c76 => ?_) (fun c76 => ?_)
                          · show xEx G0 cdX11_make (some .int) (xRn G0 MT (d + 9)) Q 0 79 [some (.inr (.inr 0)), some (.inl ifs), some (.inl sz), some (.inl (left - ((h1 28 12) - (hh 28 12)))), some (.inl mE), some (.inl mT), some (.inl turn), some (.inl 1), some (.inr (.inr 28)), some (.inl (hh 28 12)), some (.inl r2)] [] h1
                            exact absurd c76 (by decide)
                          · show xEx G0 cdX11_make (some .int) (xRn G0 MT (d + 9)) Q 0 77 [some (.inr (.inr 0)), some (.inl ifs), some (.inl sz), some (.inl (left - ((h1 28 12) - (hh 28 12)))), some (.inl mE), some (.inl mT), some (.inl turn), some (.inl 1), some (.inr (.inr 28)), some (.inl (hh 28 12)), some (.inl r2)] [] h1
                            refine E_s 4 (i' := 82) (ls' := [some (.inr (.inr 0)), some (.inl ifs), some (.inl sz), some (.inl (left - ((h1 28 12) - (hh 28 12)))), some (.inl 1), some (.inl mT), some (.inl turn), some (.inl 1), some (.inr (.inr 28)), some (.inl (hh 28 12)), some (.inl r2)]) (sk' := [.inl mT]) (h' := h1) rfl ?_
                            refine E_b (x := (.ifCond .eq 12, 87, [], [])) rfl rfl (fun c82 => ?_) (fun c82 => ?_)
                            · rw [c_eq (by first | assumption | (refine ⟨?_, ?_⟩ <;> omega) | (simp only [xr] at *; omega)) (by first | assumption | (refine ⟨?_, ?_⟩ <;> omega) | (simp only [xr] at *; omega))] at c82
                              simp only [decide_eq_true_eq, decide_eq_false_iff_not, Decidable.not_not] at c82
                              show xEx G0 cdX11_make (some .int) (xRn G0 MT (d + 9)) Q 0 87 [some (.inr (.inr 0)), some (.inl ifs), some (.inl sz), some (.inl (left - ((h1 28 12) - (hh 28 12)))), some (.inl 1), some (.inl mT), some (.inl turn), some (.inl 1), some (.inr (.inr 28)), some (.inl (hh 28 12)), some (.inl r2)] [] h1
                              refine E_s 2 (i' := 89) (ls' := [some (.inr (.inr 0)), some (.inl ifs), some (.inl sz), some (.inl (left - ((h1 28 12) - (hh 28 12)))), some (.inl 1), some (.inl 0), some (.inl turn), some (.inl 1), some (.inr (.inr 28)), some (.inl (hh 28 12)), some (.inl r2)]) (sk' := []) (h' := h1) rfl ?_
                              exact cut89 1 0 (by first | rw [if_pos (by omega)]; omega | rw [if_neg (by omega)]) (by omega)
                            · rw [c_eq (by first | assumption | (refine ⟨?_, ?_⟩ <;> omega) | (simp only [xr] at *; omega)) (by first | assumption | (refine ⟨?_, ?_⟩ <;> omega) | (simp only [xr] at *; omega))] at c82
                              simp only [decide_eq_true_eq, decide_eq_false_iff_not, Decidable.not_not] at c82
                              show xEx G0 cdX11_make (some .int) (xRn G0 MT (d + 9)) Q 0 83 [some (.inr (.inr 0)), some (.inl ifs), some (.inl sz), some (.inl (left - ((h1 28 12) - (hh 28 12)))), some (.inl 1), some (.inl mT), some (.inl turn), some (.inl 1), some (.inr (.inr 28)), some (.inl (hh 28 12)), some (.inl r2)] [] h1
                              refine E_s 1 (i' := 84) (ls' := [some (.inr (.inr 0)), some (.inl ifs), some (.inl sz), some (.inl (left - ((h1 28 12) - (hh 28 12)))), some (.inl 1), some (.inl mT), some (.inl turn), some (.inl 1), some (.inr (.inr 28)), some (.inl (hh 28 12)), some (.inl r2)]) (sk' := [.inl 1]) (h' := h1) rfl ?_
                              refine E_b (x := (.ifCond .ne 7, 87, [], [])) rfl rfl (fun c84 => ?_) (fun c84 => ?_)
                              · show xEx G0 cdX11_make (some .int) (xRn G0 MT (d + 9)) Q 0 87 [some (.inr (.inr 0)), some (.inl ifs), some (.inl sz), some (.inl (left - ((h1 28 12) - (hh 28 12)))), some (.inl 1), some (.inl mT), some (.inl turn), some (.inl 1), some (.inr (.inr 28)), some (.inl (hh 28 12)), some (.inl r2)] [] h1
                                refine E_s 2 (i' := 89) (ls' := [some (.inr (.inr 0)), some (.inl ifs), some (.inl sz), some (.inl (left - ((h1 28 12) - (hh 28 12)))), some (.inl 1), some (.inl 0), some (.inl turn), some (.inl 1), some (.inr (.inr 28)), some (.inl (hh 28 12)), some (.inl r2)]) (sk' := []) (h' := h1) rfl ?_
                                exact cut89 1 0 (by first | rw [if_pos (by omega)]; omega | rw [if_neg (by omega)]) (by omega)
                              · show xEx G0 cdX11_make (some .int) (xRn G0 MT (d + 9)) Q 0 85 [some (.inr (.inr 0)), some (.inl ifs), some (.inl sz), some (.inl (left - ((h1 28 12) - (hh 28 12)))), some (.inl 1), some (.inl mT), some (.inl turn), some (.inl 1), some (.inr (.inr 28)), some (.inl (hh 28 12)), some (.inl r2)] [] h1
                                exact absurd c84 (by decide)
                    · rw [c_ne (by first | assumption | (refine ⟨?_, ?_⟩ <;> omega) | (simp only [xr] at *; omega)) (by first | assumption | (refine ⟨?_, ?_⟩ <;> omega) | (simp only [xr] at *; omega))] at c61
                      simp only [decide_eq_true_eq, decide_eq_false_iff_not, Decidable.not_not] at c61
                      show xEx G0 cdX11_make (some .int) (xRn G0 MT (d + 9)) Q 0 62 [some (.inr (.inr 0)), some (.inl ifs), some (.inl sz), some (.inl left), some (.inl mE), some (.inl mT), some (.inl turn), some (.inl 1), some (.inr (.inr 28)), some (.inl (hh 28 12)), some (.inl r2)] [] h1
                      refine E_s 1 (i' := 63) (ls' := [some (.inr (.inr 0)), some (.inl ifs), some (.inl sz), some (.inl left), some (.inl mE), some (.inl mT), some (.inl turn), some (.inl 1), some (.inr (.inr 28)), some (.inl (hh 28 12)), some (.inl r2)]) (sk' := [.inl (-2)]) (h' := h1) rfl ?_
                      exact E_ret (x := (.ireturn, 0, [], [])) (v := some (.inl (-2))) rfl (Or.inl rfl) (by
                        have q9 : r2 = 2 := by omega
                        subst q9
                        exact hB1 hh SS TT left mE mT h1 T1 pp1 ci ex9 lr (by omega) mEr G ct1 st1 f1)
                  · rw [c_ne (by first | assumption | (refine ⟨?_, ?_⟩ <;> omega) | (simp only [xr] at *; omega)) (by first | assumption | (refine ⟨?_, ?_⟩ <;> omega) | (simp only [xr] at *; omega))] at c43
                    simp only [decide_eq_true_eq, decide_eq_false_iff_not, Decidable.not_not] at c43
                    show xEx G0 cdX11_make (some .int) (xRn G0 MT (d + 9)) Q 0 44 [some (.inr (.inr 0)), some (.inl ifs), some (.inl sz), some (.inl left), some (.inl mE), some (.inl mT), some (.inl turn), some (.inl 1), l8, l9_, l10] [] hh
                    refine E_s 3 (i' := 21) (ls' := [some (.inr (.inr 0)), some (.inl ifs), some (.inl sz), some (.inl left), some (.inl mE), some (.inl mT), some (.inl (turn + 1)), some (.inl 1), l8, l9_, l10]) (sk' := []) (h' := hh) rfl ?_
                    exact ih21 hh SS TT left mE mT (turn + 1) sz _ _ _ _ ⟨ci, ex9, lr, mEr, mTr, by omega, LV_k lv (by omega), zr⟩ (by rw [ez]; exact hPK hh SS TT left mE mT (turn % 2) ((turn + 1) % 2) ppz (by omega)) (by omega)
            refine E_s 1 (i' := 28) (ls' := [some (.inr (.inr 0)), some (.inl ifs), some (.inl sz), some (.inl left), some (.inl mE), some (.inl mT), some (.inl turn), l7, l8, l9_, l10]) (sk' := [.inl mE]) (h' := hh) rfl ?_
            refine E_b (x := (.ifCond .ne 8, 31, [], [])) rfl rfl (fun c28 => ?_) (fun c28 => ?_)
            · rw [c_ne (by first | assumption | (refine ⟨?_, ?_⟩ <;> omega) | (simp only [xr] at *; omega)) (by first | assumption | (refine ⟨?_, ?_⟩ <;> omega) | (simp only [xr] at *; omega))] at c28
              simp only [decide_eq_true_eq, decide_eq_false_iff_not, Decidable.not_not] at c28
              show xEx G0 cdX11_make (some .int) (xRn G0 MT (d + 9)) Q 0 31 [some (.inr (.inr 0)), some (.inl ifs), some (.inl sz), some (.inl left), some (.inl mE), some (.inl mT), some (.inl turn), l7, l8, l9_, l10] [] hh
              exact cut31 () (by omega)
            · rw [c_ne (by first | assumption | (refine ⟨?_, ?_⟩ <;> omega) | (simp only [xr] at *; omega)) (by first | assumption | (refine ⟨?_, ?_⟩ <;> omega) | (simp only [xr] at *; omega))] at c28
              simp only [decide_eq_true_eq, decide_eq_false_iff_not, Decidable.not_not] at c28
              show xEx G0 cdX11_make (some .int) (xRn G0 MT (d + 9)) Q 0 29 [some (.inr (.inr 0)), some (.inl ifs), some (.inl sz), some (.inl left), some (.inl mE), some (.inl mT), some (.inl turn), l7, l8, l9_, l10] [] hh
              refine E_s 1 (i' := 30) (ls' := [some (.inr (.inr 0)), some (.inl ifs), some (.inl sz), some (.inl left), some (.inl mE), some (.inl mT), some (.inl turn), l7, l8, l9_, l10]) (sk' := [.inl mT]) (h' := hh) rfl ?_
              refine E_b (x := (.ifCond .eq 133, 95, [], [])) rfl rfl (fun c30 => ?_) (fun c30 => ?_)
              · rw [c_eq (by first | assumption | (refine ⟨?_, ?_⟩ <;> omega) | (simp only [xr] at *; omega)) (by first | assumption | (refine ⟨?_, ?_⟩ <;> omega) | (simp only [xr] at *; omega))] at c30
                simp only [decide_eq_true_eq, decide_eq_false_iff_not, Decidable.not_not] at c30
                show xEx G0 cdX11_make (some .int) (xRn G0 MT (d + 9)) Q 0 95 [some (.inr (.inr 0)), some (.inl ifs), some (.inl sz), some (.inl left), some (.inl mE), some (.inl mT), some (.inl turn), l7, l8, l9_, l10] [] hh
                refine E_s 1 (i' := 96) (ls' := [some (.inr (.inr 0)), some (.inl ifs), some (.inl sz), some (.inl left), some (.inl mE), some (.inl mT), some (.inl turn), l7, l8, l9_, l10]) (sk' := [.inl sz]) (h' := hh) rfl ?_
                exact E_ret (x := (.ireturn, 0, [], [])) (v := some (.inl sz)) rfl (Or.inl rfl) (hQ hh SS TT left mE mT _ sz pp ci (by first | (intro y9; exact LV_end lv lE lT (by omega) y9.2) | omega) mEr mTr)
              · rw [c_eq (by first | assumption | (refine ⟨?_, ?_⟩ <;> omega) | (simp only [xr] at *; omega)) (by first | assumption | (refine ⟨?_, ?_⟩ <;> omega) | (simp only [xr] at *; omega))] at c30
                simp only [decide_eq_true_eq, decide_eq_false_iff_not, Decidable.not_not] at c30
                show xEx G0 cdX11_make (some .int) (xRn G0 MT (d + 9)) Q 0 31 [some (.inr (.inr 0)), some (.inl ifs), some (.inl sz), some (.inl left), some (.inl mE), some (.inl mT), some (.inl turn), l7, l8, l9_, l10] [] hh
                exact cut31 () (by omega)
    exact key21 _ h1 S T (h1 0 9) 1 1 0 r1 none none none none ⟨ci1, sp.1 _ (by decide), al, Or.inr rfl, by omega, by omega, ⟨fun _ => by rw [sp.1 9 (by decide)]; have := ci.2.1.2.2.2.2.2.1; omega, fun _ => by rw [sp.1 28 (by decide)]; have := ci.2.2.1.2.2.2.2.2.1; omega⟩, by omega⟩ (by rw [er]; exact hPZ (by first | rw [if_pos (by omega)] | rw [if_neg (by omega)])) (Nat.lt_succ_self _)
