def SVF (h S T : xH) (p : Int) (m : Nat) : Prop := OKS S T (S 0 0) (T 0 0) m ∧ (∀ t, 0 ≤ t → t < T 0 0 → h 37 t = T 4 t ∧ h 39 t = T 6 t) ∧ (∀ k, 0 ≤ k → k < S 0 0 → h 18 k = S 4 k ∧ h 20 k = S 6 k) ∧ (∀ set, ir m set → h 45 set = (if lf S (S 0 0) p set = -1 then 300 else lf S (S 0 0) p set) ∧ h 48 set = sz0 S (S 0 0) p set) ∧ ir m (h 44 9) ∧ (∀ set, ir m set → ¬ sub set (h 44 9) → ∃ e : Nat, tb set e = true ∧ ∀ k, 0 ≤ k → k < S 0 0 → lk (S 11 k) p → tb (S 6 k) e = false) ∧ USB T (T 0 0) p (h 44 8) (h 55)
def SVM (h S T : xH) (p : Int) (m : Nat) : Prop := ∀ set, ir m set → (h 49 set = 0 ∨ h 49 set = szf S T (S 0 0) (T 0 0) p 1 set) ∧ (h 50 set = 0 ∨ h 50 set = szf S T (S 0 0) (T 0 0) p 2 set)
def FZ (h h' : xH) : Prop := ∀ a, a ≠ 49 → a ≠ 50 → h' a = h a
theorem FZ.rf (h : xH) : FZ h h := fun _ _ _ => rfl
theorem FZ.tr {h1 h2 h3 : xH} (a : FZ h1 h2) (b : FZ h2 h3) : FZ h1 h3 := fun x z1 z2 => (b x z1 z2).trans (a x z1 z2)
theorem FZ.up {h h' : xH} (f : FZ h h') {a : Nat} {j z : Int} (ha : a = 49 ∨ a = 50) : FZ h (xup h' a j z) := fun x z1 z2 => by rw [xup_o _ _ _ _ x (by omega)]; exact f x z1 z2
theorem SVF_z {h h' S T : xH} {p : Int} {m : Nat} (f : FZ h h') (v : SVF h S T p m) : SVF h' S T p m := by
  unfold SVF at *
  rw [f 37 (by decide) (by decide), f 39 (by decide) (by decide), f 18 (by decide) (by decide), f 20 (by decide) (by decide), f 45 (by decide) (by decide), f 48 (by decide) (by decide), f 44 (by decide) (by decide), f 55 (by decide) (by decide)]
  exact v
theorem SVM_1 {h S T : xH} {p set : Int} {m : Nat} (v : SVM h S T p m) (z : Int) (e : z = szf S T (S 0 0) (T 0 0) p 1 set) : SVM (xup h 49 set z) S T p m := fun s hs => by
  refine ⟨?_, (v s hs).2⟩
  by_cases y : s = set
  · rw [y, xup_s]; exact Or.inr e
  · rw [xup_j y]; exact (v s hs).1
theorem SVM_2 {h S T : xH} {p set : Int} {m : Nat} (v : SVM h S T p m) (z : Int) (e : z = szf S T (S 0 0) (T 0 0) p 2 set) : SVM (xup h 50 set z) S T p m := fun s hs => by
  refine ⟨(v s hs).1, ?_⟩
  by_cases y : s = set
  · rw [y, xup_s]; exact Or.inr e
  · rw [xup_j y]; exact (v s hs).2
theorem swf_r {T : xH} {f : Int → Int} {set t : Int} (h4 : 0 ≤ T 4 t ∧ T 4 t ≤ 7) (hf : ∀ s, 1 ≤ f s ∧ f s ≤ 1000000) : 1 ≤ swf T f set t ∧ swf T f set t ≤ 3000000 := by
  have a := hf (xand set (T 6 t))
  have c := hf (xxor set (xand set (T 6 t)))
  unfold swf
  split <;> omega
theorem ir4 {m : Nat} {a : Int} (hm : m ≤ 12) (h : ir m a) : 0 ≤ a ∧ a < 4096 := by
  have := Nat.pow_le_pow_right (n := 2) (i := m) (j := 12) (by decide) hm
  have := h.1
  have := h.2
  omega
set_option maxHeartbeats 1000000 in
theorem c_mayDo (d b : Nat) (h : xH) (t z : Int) (ht : 0 ≤ t ∧ t < 150) (h7 : 0 ≤ h 37 t ∧ h 37 t ≤ 7) (hz : xr z) {Q : xO → xH → Prop} (h1 : h 37 t + 3 ≤ z → Q (.inl (some (.inl (1)))) h) (h0 : ¬ (h 37 t + 3 ≤ z) → Q (.inl (some (.inl (0)))) h) : xRn G0 MT (d + 1) b 64 [.inr (.inr 44), .inl t, .inl z] h Q := by
  refine R_of (M := mX7_mayDo) rfl (Nat.le_of_ble_eq_true rfl) ?_
  show xEx G0 cdX7_mayDo (some .boolean) (xRn G0 MT d) Q b 0 [some (.inr (.inr 44)), some (.inl t), some (.inl z)] [] h
  refine E_s 4 (i' := 4) (ls' := [some (.inr (.inr 44)), some (.inl t), some (.inl z)]) (sk' := [.inl t, .inr (.inr 37)]) (h' := h) rfl ?_
  refine E_ld (x := (.iaload, 0, [], [])) (ty := .int) (n := 150) rfl rfl rfl (by omega) (by omega) ?_
  show xEx G0 cdX7_mayDo (some .boolean) (xRn G0 MT d) Q b 5 [some (.inr (.inr 44)), some (.inl t), some (.inl z)] [.inl (h 37 t)] h
  refine E_s 3 (i' := 8) (ls' := [some (.inr (.inr 44)), some (.inl t), some (.inl z)]) (sk' := [.inl z, .inl ((h 37 t) + 3)]) (h' := h) rfl ?_
  refine E_b (x := (.if_icmp .gt 7, 11, [], [])) rfl rfl (fun c8 => ?_) (fun c8 => ?_)
  · rw [c_gt (by first | assumption | (refine ⟨?_, ?_⟩ <;> omega) | (simp only [xr] at *; omega)) (by first | assumption | (refine ⟨?_, ?_⟩ <;> omega) | (simp only [xr] at *; omega))] at c8
    simp only [decide_eq_true_eq, decide_eq_false_iff_not, Decidable.not_not] at c8
    show xEx G0 cdX7_mayDo (some .boolean) (xRn G0 MT d) Q b 11 [some (.inr (.inr 44)), some (.inl t), some (.inl z)] [] h
    refine E_s 1 (i' := 12) (ls' := [some (.inr (.inr 44)), some (.inl t), some (.inl z)]) (sk' := [.inl 0]) (h' := h) rfl ?_
    exact E_ret (x := (.ireturn, 0, [], [])) (v := some (.inl 0)) rfl (Or.inr ⟨rfl, by omega⟩) (h0 (by omega))
  · rw [c_gt (by first | assumption | (refine ⟨?_, ?_⟩ <;> omega) | (simp only [xr] at *; omega)) (by first | assumption | (refine ⟨?_, ?_⟩ <;> omega) | (simp only [xr] at *; omega))] at c8
    simp only [decide_eq_true_eq, decide_eq_false_iff_not, Decidable.not_not] at c8
    show xEx G0 cdX7_mayDo (some .boolean) (xRn G0 MT d) Q b 9 [some (.inr (.inr 44)), some (.inl t), some (.inl z)] [] h
    refine E_s 2 (i' := 12) (ls' := [some (.inr (.inr 44)), some (.inl t), some (.inl z)]) (sk' := [.inl 1]) (h' := h) rfl ?_
    exact E_ret (x := (.ireturn, 0, [], [])) (v := some (.inl 1)) rfl (Or.inr ⟨rfl, by omega⟩) (h1 (by omega))
set_option maxHeartbeats 1000000 in
theorem c_szO0 (d b : Nat) (h S T : xH) (p set : Int) (m : Nat) (hV : SVF h S T p m) (hM : SVM h S T p m) (hs : ir m set) {Q : xO → xH → Prop} (hQ : Q (.inl (some (.inl (szf S T (S 0 0) (T 0 0) p 0 set)))) h) : xRn G0 MT (d + 1) b 63 [.inr (.inr 44), .inl set, .inl 0] h Q := by
  refine R_of (M := mX7_sizeOf) rfl (Nat.le_of_ble_eq_true rfl) ?_
  show xEx G0 cdX7_sizeOf (some .int) (xRn G0 MT d) Q b 0 [some (.inr (.inr 44)), some (.inl set), some (.inl 0), none, none, none, none] [] h
  have r4 := ir4 hV.1.1 hs
  have e0 : h 48 set = sz0 S (S 0 0) p set := (hV.2.2.2.1 set hs).2
  have z0 := sz0_r (p := p) hV.1 set
  refine E_s 1 (i' := 1) (ls' := [some (.inr (.inr 44)), some (.inl set), some (.inl 0), none, none, none, none]) (sk' := [.inl 0]) (h' := h) rfl ?_
  refine E_b (x := (.ifCond .gt 12, 9, [], [])) rfl rfl (fun c1 => ?_) (fun c1 => ?_)
  · show xEx G0 cdX7_sizeOf (some .int) (xRn G0 MT d) Q b 9 [some (.inr (.inr 44)), some (.inl set), some (.inl 0), none, none, none, none] [] h
    exact absurd c1 (by decide)
  · show xEx G0 cdX7_sizeOf (some .int) (xRn G0 MT d) Q b 2 [some (.inr (.inr 44)), some (.inl set), some (.inl 0), none, none, none, none] [] h
    refine E_s 3 (i' := 5) (ls' := [some (.inr (.inr 44)), some (.inl set), some (.inl 0), none, none, none, none]) (sk' := [.inl 0, .inr (.inr 46)]) (h' := h) rfl ?_
    refine E_ald (x := (.aaload, 0, [], [])) 0 rfl rfl rfl (rfl) rfl ?_
    show xEx G0 cdX7_sizeOf (some .int) (xRn G0 MT d) Q b 6 [some (.inr (.inr 44)), some (.inl set), some (.inl 0), none, none, none, none] [.inr (.inr 48)] h
    refine E_s 1 (i' := 7) (ls' := [some (.inr (.inr 44)), some (.inl set), some (.inl 0), none, none, none, none]) (sk' := [.inl set, .inr (.inr 48)]) (h' := h) rfl ?_
    refine E_ld (x := (.iaload, 0, [], [])) (ty := .int) (n := 4096) rfl rfl rfl (by omega) (by omega) ?_
    show xEx G0 cdX7_sizeOf (some .int) (xRn G0 MT d) Q b 8 [some (.inr (.inr 44)), some (.inl set), some (.inl 0), none, none, none, none] [.inl (h 48 set)] h
    exact E_ret (x := (.ireturn, 0, [], [])) (v := some (.inl (h 48 set))) rfl (Or.inl rfl) (by
      have r9 := hQ
      rw [show szf S T (S 0 0) (T 0 0) p 0 set = h 48 set from e0.symm] at r9
      exact r9)
set_option maxHeartbeats 1000000 in
theorem c_szW1 (d b : Nat) (h S T : xH) (p set : Int) (m : Nat) (t : Int) (hV : SVF h S T p m) (hM : SVM h S T p m) (hs : ir m set) (ht : 0 ≤ t ∧ t < T 0 0) {Q : xO → xH → Prop} (hQ : ∀ h', FZ h h' → SVM h' S T p m → Q (.inl (some (.inl (swf T (szf S T (S 0 0) (T 0 0) p 0) set t)))) h') : xRn G0 MT (d + 2) b 65 [.inr (.inr 44), .inl t, .inl set, .inl 1] h Q := by
  refine R_of (M := mX7_sizeWith) rfl (Nat.le_of_ble_eq_true rfl) ?_
  show xEx G0 cdX7_sizeWith (some .int) (xRn G0 MT (d + 1)) Q b 0 [some (.inr (.inr 44)), some (.inl t), some (.inl set), some (.inl 1), none, none, none] [] h
  have t6 := (hV.2.1 t ht.1 ht.2).2
  have o4 := hV.1.2.2.2.2 t ht.1 ht.2
  have hm12 := hV.1.1
  have is1 : ir m (xand set (h 39 t)) := by rw [t6]; exact xa_r hm12 hs o4.2.1
  have is2 : ir m (xxor set (xand set (h 39 t))) := xx_r hm12 hs is1
  have r4 := ir4 hm12 hs
  have r41 := ir4 hm12 is1
  have uk := hV.1.2.2.1
  refine E_s 5 (i' := 5) (ls' := [some (.inr (.inr 44)), some (.inl t), some (.inl set), some (.inl 1), none, none, none]) (sk' := [.inl t, .inr (.inr 39), .inl set]) (h' := h) rfl ?_
  refine E_ld (x := (.iaload, 0, [], [])) (ty := .int) (n := 150) rfl rfl rfl (by omega) (by omega) ?_
  show xEx G0 cdX7_sizeWith (some .int) (xRn G0 MT (d + 1)) Q b 6 [some (.inr (.inr 44)), some (.inl t), some (.inl set), some (.inl 1), none, none, none] [.inl (h 39 t), .inl set] h
  refine E_s 3 (i' := 9) (ls' := [some (.inr (.inr 44)), some (.inl t), some (.inl set), some (.inl 1), some (.inl (xand set (h 39 t))), none, none]) (sk' := [.inl (xand set (h 39 t))]) (h' := h) rfl ?_
  refine E_b (x := (.ifCond .eq 9, 13, [], [])) rfl rfl (fun c9 => ?_) (fun c9 => ?_)
  · rw [c_eq (by first | assumption | (refine ⟨?_, ?_⟩ <;> omega) | (simp only [xr] at *; omega)) (by first | assumption | (refine ⟨?_, ?_⟩ <;> omega) | (simp only [xr] at *; omega))] at c9
    simp only [decide_eq_true_eq, decide_eq_false_iff_not, Decidable.not_not] at c9
    show xEx G0 cdX7_sizeWith (some .int) (xRn G0 MT (d + 1)) Q b 13 [some (.inr (.inr 44)), some (.inl t), some (.inl set), some (.inl 1), some (.inl (xand set (h 39 t))), none, none] [] h
    refine E_s 1 (i' := 14) (ls' := [some (.inr (.inr 44)), some (.inl t), some (.inl set), some (.inl 1), some (.inl (xand set (h 39 t))), none, none]) (sk' := [.inl 1000000]) (h' := h) rfl ?_
    exact E_ret (x := (.ireturn, 0, [], [])) (v := some (.inl 1000000)) rfl (Or.inl rfl) (by
      have e9 : swf T (szf S T (S 0 0) (T 0 0) p 0) set t = 1000000 := by
        unfold swf
        rw [← t6]
        rw [if_pos (by first | exact Or.inl c9 | exact Or.inr (Or.inl c12))]
      have r9 := hQ _ (FZ.rf h) hM
      rw [e9] at r9
      exact r9)
  · rw [c_eq (by first | assumption | (refine ⟨?_, ?_⟩ <;> omega) | (simp only [xr] at *; omega)) (by first | assumption | (refine ⟨?_, ?_⟩ <;> omega) | (simp only [xr] at *; omega))] at c9
    simp only [decide_eq_true_eq, decide_eq_false_iff_not, Decidable.not_not] at c9
    show xEx G0 cdX7_sizeWith (some .int) (xRn G0 MT (d + 1)) Q b 10 [some (.inr (.inr 44)), some (.inl t), some (.inl set), some (.inl 1), some (.inl (xand set (h 39 t))), none, none] [] h
    refine E_s 2 (i' := 12) (ls' := [some (.inr (.inr 44)), some (.inl t), some (.inl set), some (.inl 1), some (.inl (xand set (h 39 t))), none, none]) (sk' := [.inl set, .inl (xand set (h 39 t))]) (h' := h) rfl ?_
    refine E_b (x := (.if_icmp .ne 6, 15, [], [])) rfl rfl (fun c12 => ?_) (fun c12 => ?_)
    · rw [c_ne (by first | assumption | (refine ⟨?_, ?_⟩ <;> omega) | (simp only [xr] at *; omega)) (by first | assumption | (refine ⟨?_, ?_⟩ <;> omega) | (simp only [xr] at *; omega))] at c12
      simp only [decide_eq_true_eq, decide_eq_false_iff_not, Decidable.not_not] at c12
      show xEx G0 cdX7_sizeWith (some .int) (xRn G0 MT (d + 1)) Q b 15 [some (.inr (.inr 44)), some (.inl t), some (.inl set), some (.inl 1), some (.inl (xand set (h 39 t))), none, none] [] h
      refine E_s 5 (i' := 20) (ls' := [some (.inr (.inr 44)), some (.inl t), some (.inl set), some (.inl 1), some (.inl (xand set (h 39 t))), none, none]) (sk' := [.inl 0, .inl (xand set (h 39 t)), .inr (.inr 44)]) (h' := h) rfl ?_
      refine E_ci (x := (.invokevirtual 99, 2, [(5, 63)], [0])) (r := (szf S T (S 0 0) (T 0 0) p 0 (xand set (h 39 t)))) (h' := h) rfl rfl (Nat.le_of_ble_eq_true rfl) (c_szO0 d 0 h S T p (xand set (h 39 t)) m hV hM is1 ⟨rfl, rfl⟩) ?_
      show xEx G0 cdX7_sizeWith (some .int) (xRn G0 MT (d + 1)) Q b 21 [some (.inr (.inr 44)), some (.inl t), some (.inl set), some (.inl 1), some (.inl (xand set (h 39 t))), none, none] [.inl (szf S T (S 0 0) (T 0 0) p 0 (xand set (h 39 t)))] h
      have a1 := szf_r (p := p) hV.1 0 (xand set (h 39 t))
      refine E_s 3 (i' := 24) (ls' := [some (.inr (.inr 44)), some (.inl t), some (.inl set), some (.inl 1), some (.inl (xand set (h 39 t))), some (.inl (szf S T (S 0 0) (T 0 0) p 0 (xand set (h 39 t)))), none]) (sk' := [.inl 1000000, .inl (szf S T (S 0 0) (T 0 0) p 0 (xand set (h 39 t)))]) (h' := h) rfl ?_
      refine E_b (x := (.if_icmp .ne 6, 27, [], [])) rfl rfl (fun c24 => ?_) (fun c24 => ?_)
      · rw [c_ne (by first | assumption | (refine ⟨?_, ?_⟩ <;> omega) | (simp only [xr] at *; omega)) (by first | assumption | (refine ⟨?_, ?_⟩ <;> omega) | (simp only [xr] at *; omega))] at c24
        simp only [decide_eq_true_eq, decide_eq_false_iff_not, Decidable.not_not] at c24
        show xEx G0 cdX7_sizeWith (some .int) (xRn G0 MT (d + 1)) Q b 27 [some (.inr (.inr 44)), some (.inl t), some (.inl set), some (.inl 1), some (.inl (xand set (h 39 t))), some (.inl (szf S T (S 0 0) (T 0 0) p 0 (xand set (h 39 t)))), none] [] h
        refine E_s 7 (i' := 34) (ls' := [some (.inr (.inr 44)), some (.inl t), some (.inl set), some (.inl 1), some (.inl (xand set (h 39 t))), some (.inl (szf S T (S 0 0) (T 0 0) p 0 (xand set (h 39 t)))), none]) (sk' := [.inl 0, .inl (xxor set (xand set (h 39 t))), .inr (.inr 44)]) (h' := h) rfl ?_
        refine E_ci (x := (.invokevirtual 99, 2, [(5, 63)], [0])) (r := (szf S T (S 0 0) (T 0 0) p 0 (xxor set (xand set (h 39 t))))) (h' := h) rfl rfl (Nat.le_of_ble_eq_true rfl) (c_szO0 d 0 h S T p (xxor set (xand set (h 39 t))) m hV hM is2 ⟨rfl, rfl⟩) ?_
        show xEx G0 cdX7_sizeWith (some .int) (xRn G0 MT (d + 1)) Q b 35 [some (.inr (.inr 44)), some (.inl t), some (.inl set), some (.inl 1), some (.inl (xand set (h 39 t))), some (.inl (szf S T (S 0 0) (T 0 0) p 0 (xand set (h 39 t)))), none] [.inl (szf S T (S 0 0) (T 0 0) p 0 (xxor set (xand set (h 39 t))))] h
        have a2 := szf_r (p := p) hV.1 0 (xxor set (xand set (h 39 t)))
        refine E_s 3 (i' := 38) (ls' := [some (.inr (.inr 44)), some (.inl t), some (.inl set), some (.inl 1), some (.inl (xand set (h 39 t))), some (.inl (szf S T (S 0 0) (T 0 0) p 0 (xand set (h 39 t)))), some (.inl (szf S T (S 0 0) (T 0 0) p 0 (xxor set (xand set (h 39 t)))))]) (sk' := [.inl 1000000, .inl (szf S T (S 0 0) (T 0 0) p 0 (xxor set (xand set (h 39 t))))]) (h' := h) rfl ?_
        refine E_b (x := (.if_icmp .ne 8, 41, [], [])) rfl rfl (fun c38 => ?_) (fun c38 => ?_)
        · rw [c_ne (by first | assumption | (refine ⟨?_, ?_⟩ <;> omega) | (simp only [xr] at *; omega)) (by first | assumption | (refine ⟨?_, ?_⟩ <;> omega) | (simp only [xr] at *; omega))] at c38
          simp only [decide_eq_true_eq, decide_eq_false_iff_not, Decidable.not_not] at c38
          show xEx G0 cdX7_sizeWith (some .int) (xRn G0 MT (d + 1)) Q b 41 [some (.inr (.inr 44)), some (.inl t), some (.inl set), some (.inl 1), some (.inl (xand set (h 39 t))), some (.inl (szf S T (S 0 0) (T 0 0) p 0 (xand set (h 39 t)))), some (.inl (szf S T (S 0 0) (T 0 0) p 0 (xxor set (xand set (h 39 t)))))] [] h
          refine E_s 4 (i' := 45) (ls' := [some (.inr (.inr 44)), some (.inl t), some (.inl set), some (.inl 1), some (.inl (xand set (h 39 t))), some (.inl (szf S T (S 0 0) (T 0 0) p 0 (xand set (h 39 t)))), some (.inl (szf S T (S 0 0) (T 0 0) p 0 (xxor set (xand set (h 39 t)))))]) (sk' := [.inl t, .inr (.inr 37)]) (h' := h) rfl ?_
          refine E_ld (x := (.iaload, 0, [], [])) (ty := .int) (n := 150) rfl rfl rfl (by omega) (by omega) ?_
          show xEx G0 cdX7_sizeWith (some .int) (xRn G0 MT (d + 1)) Q b 46 [some (.inr (.inr 44)), some (.inl t), some (.inl set), some (.inl 1), some (.inl (xand set (h 39 t))), some (.inl (szf S T (S 0 0) (T 0 0) p 0 (xand set (h 39 t)))), some (.inl (szf S T (S 0 0) (T 0 0) p 0 (xxor set (xand set (h 39 t)))))] [.inl (h 37 t)] h
          refine E_s 6 (i' := 52) (ls' := [some (.inr (.inr 44)), some (.inl t), some (.inl set), some (.inl 1), some (.inl (xand set (h 39 t))), some (.inl (szf S T (S 0 0) (T 0 0) p 0 (xand set (h 39 t)))), some (.inl (szf S T (S 0 0) (T 0 0) p 0 (xxor set (xand set (h 39 t)))))]) (sk' := [.inl ((((h 37 t) + 1) + (szf S T (S 0 0) (T 0 0) p 0 (xand set (h 39 t)))) + (szf S T (S 0 0) (T 0 0) p 0 (xxor set (xand set (h 39 t)))))]) (h' := h) rfl ?_
          exact E_ret (x := (.ireturn, 0, [], [])) (v := some (.inl ((((h 37 t) + 1) + (szf S T (S 0 0) (T 0 0) p 0 (xand set (h 39 t)))) + (szf S T (S 0 0) (T 0 0) p 0 (xxor set (xand set (h 39 t))))))) rfl (Or.inl rfl) (by
            have e9 : swf T (szf S T (S 0 0) (T 0 0) p 0) set t = (((h 37 t) + 1) + (szf S T (S 0 0) (T 0 0) p 0 (xand set (h 39 t)))) + (szf S T (S 0 0) (T 0 0) p 0 (xxor set (xand set (h 39 t)))) := by
              unfold swf
              rw [← t6]
              rw [if_neg (by
              rintro (y | y | y | y)
              · exact c9 y
              · exact c12 y
              · omega
              · omega), ← (hV.2.1 t ht.1 ht.2).1]
            have r9 := hQ _ (FZ.rf h) hM
            rw [e9] at r9
            exact r9)
        · rw [c_ne (by first | assumption | (refine ⟨?_, ?_⟩ <;> omega) | (simp only [xr] at *; omega)) (by first | assumption | (refine ⟨?_, ?_⟩ <;> omega) | (simp only [xr] at *; omega))] at c38
          simp only [decide_eq_true_eq, decide_eq_false_iff_not, Decidable.not_not] at c38
          show xEx G0 cdX7_sizeWith (some .int) (xRn G0 MT (d + 1)) Q b 39 [some (.inr (.inr 44)), some (.inl t), some (.inl set), some (.inl 1), some (.inl (xand set (h 39 t))), some (.inl (szf S T (S 0 0) (T 0 0) p 0 (xand set (h 39 t)))), some (.inl (szf S T (S 0 0) (T 0 0) p 0 (xxor set (xand set (h 39 t)))))] [] h
          refine E_s 2 (i' := 52) (ls' := [some (.inr (.inr 44)), some (.inl t), some (.inl set), some (.inl 1), some (.inl (xand set (h 39 t))), some (.inl (szf S T (S 0 0) (T 0 0) p 0 (xand set (h 39 t)))), some (.inl (szf S T (S 0 0) (T 0 0) p 0 (xxor set (xand set (h 39 t)))))]) (sk' := [.inl 1000000]) (h' := h) rfl ?_
          exact E_ret (x := (.ireturn, 0, [], [])) (v := some (.inl 1000000)) rfl (Or.inl rfl) (by
            have e9 : swf T (szf S T (S 0 0) (T 0 0) p 0) set t = 1000000 := by
              unfold swf
              rw [← t6]
              rw [if_pos (Or.inr (Or.inr (Or.inr (by omega))))]
            have r9 := hQ _ (FZ.rf h) hM
            rw [e9] at r9
            exact r9)
      · rw [c_ne (by first | assumption | (refine ⟨?_, ?_⟩ <;> omega) | (simp only [xr] at *; omega)) (by first | assumption | (refine ⟨?_, ?_⟩ <;> omega) | (simp only [xr] at *; omega))] at c24
        simp only [decide_eq_true_eq, decide_eq_false_iff_not, Decidable.not_not] at c24
        show xEx G0 cdX7_sizeWith (some .int) (xRn G0 MT (d + 1)) Q b 25 [some (.inr (.inr 44)), some (.inl t), some (.inl set), some (.inl 1), some (.inl (xand set (h 39 t))), some (.inl (szf S T (S 0 0) (T 0 0) p 0 (xand set (h 39 t)))), none] [] h
        refine E_s 1 (i' := 26) (ls' := [some (.inr (.inr 44)), some (.inl t), some (.inl set), some (.inl 1), some (.inl (xand set (h 39 t))), some (.inl (szf S T (S 0 0) (T 0 0) p 0 (xand set (h 39 t)))), none]) (sk' := [.inl 1000000]) (h' := h) rfl ?_
        exact E_ret (x := (.ireturn, 0, [], [])) (v := some (.inl 1000000)) rfl (Or.inl rfl) (by
          have e9 : swf T (szf S T (S 0 0) (T 0 0) p 0) set t = 1000000 := by
            unfold swf
            rw [← t6]
            rw [if_pos (Or.inr (Or.inr (Or.inl (by omega))))]
          have r9 := hQ _ (FZ.rf h) hM
          rw [e9] at r9
          exact r9)
    · rw [c_ne (by first | assumption | (refine ⟨?_, ?_⟩ <;> omega) | (simp only [xr] at *; omega)) (by first | assumption | (refine ⟨?_, ?_⟩ <;> omega) | (simp only [xr] at *; omega))] at c12
      simp only [decide_eq_true_eq, decide_eq_false_iff_not, Decidable.not_not] at c12
      show xEx G0 cdX7_sizeWith (some .int) (xRn G0 MT (d + 1)) Q b 13 [some (.inr (.inr 44)), some (.inl t), some (.inl set), some (.inl 1), some (.inl (xand set (h 39 t))), none, none] [] h
      refine E_s 1 (i' := 14) (ls' := [some (.inr (.inr 44)), some (.inl t), some (.inl set), some (.inl 1), some (.inl (xand set (h 39 t))), none, none]) (sk' := [.inl 1000000]) (h' := h) rfl ?_
      exact E_ret (x := (.ireturn, 0, [], [])) (v := some (.inl 1000000)) rfl (Or.inl rfl) (by
        have e9 : swf T (szf S T (S 0 0) (T 0 0) p 0) set t = 1000000 := by
          unfold swf
          rw [← t6]
          rw [if_pos (by first | exact Or.inl c9 | exact Or.inr (Or.inl c12))]
        have r9 := hQ _ (FZ.rf h) hM
        rw [e9] at r9
        exact r9)
set_option maxHeartbeats 1000000 in
theorem c_szO1 (d b : Nat) (h S T : xH) (p set : Int) (m : Nat) (hV : SVF h S T p m) (hM : SVM h S T p m) (hs : ir m set) {Q : xO → xH → Prop} (hQ : ∀ h', FZ h h' → SVM h' S T p m → Q (.inl (some (.inl (szf S T (S 0 0) (T 0 0) p 1 set)))) h') : xRn G0 MT (d + 3) b 63 [.inr (.inr 44), .inl set, .inl 1] h Q := by
  refine R_of (M := mX7_sizeOf) rfl (Nat.le_of_ble_eq_true rfl) ?_
  show xEx G0 cdX7_sizeOf (some .int) (xRn G0 MT (d + 2)) Q b 0 [some (.inr (.inr 44)), some (.inl set), some (.inl 1), none, none, none, none] [] h
  have r4 := ir4 hV.1.1 hs
  have e0 : h 48 set = (sz0 S (S 0 0) p set) := (hV.2.2.2.1 set hs).2
  have z0 := sz0_r (p := p) hV.1 set
  have zi := szf_r (p := p) hV.1 1 set
  have hM9 := (hM set hs).1
  refine E_s 1 (i' := 1) (ls' := [some (.inr (.inr 44)), some (.inl set), some (.inl 1), none, none, none, none]) (sk' := [.inl 1]) (h' := h) rfl ?_
  refine E_b (x := (.ifCond .gt 12, 9, [], [])) rfl rfl (fun c1 => ?_) (fun c1 => ?_)
  · show xEx G0 cdX7_sizeOf (some .int) (xRn G0 MT (d + 2)) Q b 9 [some (.inr (.inr 44)), some (.inl set), some (.inl 1), none, none, none, none] [] h
    refine E_s 2 (i' := 11) (ls' := [some (.inr (.inr 44)), some (.inl set), some (.inl 1), none, none, none, none]) (sk' := [.inl 2, .inl 1]) (h' := h) rfl ?_
    refine E_b (x := (.if_icmp .gt 7, 14, [], [])) rfl rfl (fun c11 => ?_) (fun c11 => ?_)
    · show xEx G0 cdX7_sizeOf (some .int) (xRn G0 MT (d + 2)) Q b 14 [some (.inr (.inr 44)), some (.inl set), some (.inl 1), none, none, none, none] [] h
      exact absurd c11 (by decide)
    · show xEx G0 cdX7_sizeOf (some .int) (xRn G0 MT (d + 2)) Q b 12 [some (.inr (.inr 44)), some (.inl set), some (.inl 1), none, none, none, none] [] h
      refine E_s 4 (i' := 17) (ls' := [some (.inr (.inr 44)), some (.inl set), some (.inl 1), some (.inl 1), none, none, none]) (sk' := [.inl 1]) (h' := h) rfl ?_
      refine E_b (x := (.ifCond .eq 23, 32, [], [])) rfl rfl (fun c17 => ?_) (fun c17 => ?_)
      · show xEx G0 cdX7_sizeOf (some .int) (xRn G0 MT (d + 2)) Q b 32 [some (.inr (.inr 44)), some (.inl set), some (.inl 1), some (.inl 1), none, none, none] [] h
        exact absurd c17 (by decide)
      · show xEx G0 cdX7_sizeOf (some .int) (xRn G0 MT (d + 2)) Q b 18 [some (.inr (.inr 44)), some (.inl set), some (.inl 1), some (.inl 1), none, none, none] [] h
        refine E_s 3 (i' := 21) (ls' := [some (.inr (.inr 44)), some (.inl set), some (.inl 1), some (.inl 1), none, none, none]) (sk' := [.inl 1, .inr (.inr 46)]) (h' := h) rfl ?_
        refine E_ald (x := (.aaload, 0, [], [])) 1 rfl rfl rfl (rfl) rfl ?_
        show xEx G0 cdX7_sizeOf (some .int) (xRn G0 MT (d + 2)) Q b 22 [some (.inr (.inr 44)), some (.inl set), some (.inl 1), some (.inl 1), none, none, none] [.inr (.inr 49)] h
        refine E_s 1 (i' := 23) (ls' := [some (.inr (.inr 44)), some (.inl set), some (.inl 1), some (.inl 1), none, none, none]) (sk' := [.inl set, .inr (.inr 49)]) (h' := h) rfl ?_
        refine E_ld (x := (.iaload, 0, [], [])) (ty := .int) (n := 4096) rfl rfl rfl (by omega) (by omega) ?_
        show xEx G0 cdX7_sizeOf (some .int) (xRn G0 MT (d + 2)) Q b 24 [some (.inr (.inr 44)), some (.inl set), some (.inl 1), some (.inl 1), none, none, none] [.inl (h 49 set)] h
        refine E_b (x := (.ifCond .eq 12, 32, [], [])) rfl rfl (fun c24 => ?_) (fun c24 => ?_)
        · rw [c_eq (by first | assumption | (refine ⟨?_, ?_⟩ <;> omega) | (simp only [xr] at *; omega)) (by first | assumption | (refine ⟨?_, ?_⟩ <;> omega) | (simp only [xr] at *; omega))] at c24
          simp only [decide_eq_true_eq, decide_eq_false_iff_not, Decidable.not_not] at c24
          show xEx G0 cdX7_sizeOf (some .int) (xRn G0 MT (d + 2)) Q b 32 [some (.inr (.inr 44)), some (.inl set), some (.inl 1), some (.inl 1), none, none, none] [] h
          refine E_s 3 (i' := 35) (ls' := [some (.inr (.inr 44)), some (.inl set), some (.inl 1), some (.inl 1), none, none, none]) (sk' := [.inl 0, .inr (.inr 46)]) (h' := h) rfl ?_
          refine E_ald (x := (.aaload, 0, [], [])) 0 rfl rfl rfl (rfl) rfl ?_
          show xEx G0 cdX7_sizeOf (some .int) (xRn G0 MT (d + 2)) Q b 36 [some (.inr (.inr 44)), some (.inl set), some (.inl 1), some (.inl 1), none, none, none] [.inr (.inr 48)] h
          refine E_s 1 (i' := 37) (ls' := [some (.inr (.inr 44)), some (.inl set), some (.inl 1), some (.inl 1), none, none, none]) (sk' := [.inl set, .inr (.inr 48)]) (h' := h) rfl ?_
          refine E_ld (x := (.iaload, 0, [], [])) (ty := .int) (n := 4096) rfl rfl rfl (by omega) (by omega) ?_
          show xEx G0 cdX7_sizeOf (some .int) (xRn G0 MT (d + 2)) Q b 38 [some (.inr (.inr 44)), some (.inl set), some (.inl 1), some (.inl 1), none, none, none] [.inl (h 48 set)] h
          refine E_s 7 (i' := 45) (ls' := [some (.inr (.inr 44)), some (.inl set), some (.inl 1), some (.inl 1), some (.inl (h 48 set)), none, none]) (sk' := [.inl (xand set (xxor (h 44 9) (-1)))]) (h' := h) rfl ?_
          refine E_b (x := (.ifCond .eq 6, 48, [], [])) rfl rfl (fun c45 => ?_) (fun c45 => ?_)
          · rw [c_eq (by first | exact xand_r _ _ | exact ⟨by omega, by omega⟩) (by first | exact xand_r _ _ | exact ⟨by omega, by omega⟩)] at c45
            simp only [decide_eq_true_eq, decide_eq_false_iff_not, Decidable.not_not] at c45
            show xEx G0 cdX7_sizeOf (some .int) (xRn G0 MT (d + 2)) Q b 48 [some (.inr (.inr 44)), some (.inl set), some (.inl 1), some (.inl 1), some (.inl (h 48 set)), none, none] [] h
            refine E_s 2 (i' := 50) (ls' := [some (.inr (.inr 44)), some (.inl set), some (.inl 1), some (.inl 1), some (.inl (h 48 set)), some (.inl 0), none]) (sk' := []) (h' := h) rfl ?_
            have key50 : ∀ (n : Nat) (hh : xH) (i9 bs : Int) (v6 : Option xV), (0 ≤ i9) → (i9 ≤ h 44 8) → (FZ h hh) → (SVM hh S T p m) → (bs = stpf T p (szf S T (S 0 0) (T 0 0) p 0) (sz0 S (S 0 0) p set) set (unx (T 0 0) (h 44 8) (h 55) i9).toNat) → ((h 44 8 - i9).toNat) < n → xEx G0 cdX7_sizeOf (some .int) (xRn G0 MT (d + 2)) Q b 50 [some (.inr (.inr 44)), some (.inl set), some (.inl 1), some (.inl 1), some (.inl bs), some (.inl i9), v6] [] hh := by
              intro n
              induction n with
              | zero => intro hh i9 bs v6 _ _ _ _ _ hm; exact absurd hm (Nat.not_lt_zero _)
              | succ n ih50 =>
                intro hh i9 bs v6 hi0 hi9 fz hm hbs hm50
                have ec : hh 44 8 = h 44 8 := by rw [fz _ (by decide) (by decide)]
                have bl : bs ≤ (sz0 S (S 0 0) p set) := by rw [hbs]; exact stpf_le _
                have uc := hV.2.2.2.2.2.2
                have ucb : 0 ≤ h 44 8 ∧ h 44 8 ≤ T 0 0 := ⟨uc.1, uc.2.1⟩
                have b1 : 1 ≤ bs := by
                  rw [hbs]
                  refine stpf_lo z0.1 _ (fun t z1 z2 hp => ?_)
                  have un : unx (T 0 0) (h 44 8) (h 55) i9 ≤ T 0 0 := by
                    unfold unx
                    split
                    · have := uc.2.2.1 i9 hi0 (by omega); omega
                    · omega
                  have o4 := (hV.1.2.2.2.2 t z1 (by omega)).1
                  have x1 := (szf_r (p := p) hV.1 0 (xand set (T 6 t))).1
                  have x2 := (szf_r (p := p) hV.1 0 (xxor set (xand set (T 6 t)))).1
                  unfold szt
                  omega
                have uk := hV.1.2.2.1
                refine E_s 3 (i' := 53) (ls' := [some (.inr (.inr 44)), some (.inl set), some (.inl 1), some (.inl 1), some (.inl bs), some (.inl i9), v6]) (sk' := [.inl (hh 44 8), .inl i9]) (h' := hh) rfl ?_
                refine E_b (x := (.if_icmp .ge 53, 80, [], [])) rfl rfl (fun c53 => ?_) (fun c53 => ?_)
                · rw [c_ge (by first | assumption | (refine ⟨?_, ?_⟩ <;> omega) | (simp only [xr] at *; omega)) (by first | assumption | (refine ⟨?_, ?_⟩ <;> omega) | (simp only [xr] at *; omega))] at c53
                  simp only [decide_eq_true_eq, decide_eq_false_iff_not, Decidable.not_not] at c53
                  show xEx G0 cdX7_sizeOf (some .int) (xRn G0 MT (d + 2)) Q b 80 [some (.inr (.inr 44)), some (.inl set), some (.inl 1), some (.inl 1), some (.inl bs), some (.inl i9), v6] [] hh
                  have hfin : bs = szf S T (S 0 0) (T 0 0) p 1 set := by
                    show bs = stpf T p (szf S T (S 0 0) (T 0 0) p 0) (sz0 S (S 0 0) p set) set (T 0 0).toNat
                    first
                    | (rw [hbs]; unfold unx; rw [if_neg (by omega)])
                    | (rw [us_x hV.1 hV.2.2.2.2.2.2 hi0 (by omega) (fun s => (szf_r (p := p) hV.1 0 s).1) (by rw [← hbu]; have := o0 q1 (by omega); rw [g4] at this; omega)]; exact hbu)
                  have r4 := ir4 hV.1.1 hs
                  refine E_s 1 (i' := 81) (ls' := [some (.inr (.inr 44)), some (.inl set), some (.inl 1), some (.inl 1), some (.inl bs), some (.inl i9), v6]) (sk' := [.inl 1]) (h' := hh) rfl ?_
                  refine E_b (x := (.ifCond .eq 13, 89, [], [])) rfl rfl (fun c81 => ?_) (fun c81 => ?_)
                  · show xEx G0 cdX7_sizeOf (some .int) (xRn G0 MT (d + 2)) Q b 89 [some (.inr (.inr 44)), some (.inl set), some (.inl 1), some (.inl 1), some (.inl bs), some (.inl i9), v6] [] hh
                    exact absurd c81 (by decide)
                  · show xEx G0 cdX7_sizeOf (some .int) (xRn G0 MT (d + 2)) Q b 82 [some (.inr (.inr 44)), some (.inl set), some (.inl 1), some (.inl 1), some (.inl bs), some (.inl i9), v6] [] hh
                    refine E_s 3 (i' := 85) (ls' := [some (.inr (.inr 44)), some (.inl set), some (.inl 1), some (.inl 1), some (.inl bs), some (.inl i9), v6]) (sk' := [.inl 1, .inr (.inr 46)]) (h' := hh) rfl ?_
                    refine E_ald (x := (.aaload, 0, [], [])) 1 rfl rfl rfl (rfl) rfl ?_
                    show xEx G0 cdX7_sizeOf (some .int) (xRn G0 MT (d + 2)) Q b 86 [some (.inr (.inr 44)), some (.inl set), some (.inl 1), some (.inl 1), some (.inl bs), some (.inl i9), v6] [.inr (.inr 49)] hh
                    refine E_s 2 (i' := 88) (ls' := [some (.inr (.inr 44)), some (.inl set), some (.inl 1), some (.inl 1), some (.inl bs), some (.inl i9), v6]) (sk' := [.inl bs, .inl set, .inr (.inr 49)]) (h' := hh) rfl ?_
                    refine E_sd (x := (.iastore, 0, [], [])) (ty := .int) (n := 4096) (y := bs) rfl rfl rfl (by omega) (by omega) (trivial) ?_
                    show xEx G0 cdX7_sizeOf (some .int) (xRn G0 MT (d + 2)) Q b 89 [some (.inr (.inr 44)), some (.inl set), some (.inl 1), some (.inl 1), some (.inl bs), some (.inl i9), v6] [] (xup hh 49 set bs)
                    refine E_s 1 (i' := 90) (ls' := [some (.inr (.inr 44)), some (.inl set), some (.inl 1), some (.inl 1), some (.inl bs), some (.inl i9), v6]) (sk' := [.inl bs]) (h' := (xup hh 49 set bs)) rfl ?_
                    exact E_ret (x := (.ireturn, 0, [], [])) (v := some (.inl bs)) rfl (Or.inl rfl) (by
                      have r9 := hQ _ (fz.up (Or.inl rfl)) (SVM_1 hm bs hfin)
                      rw [← hfin] at r9
                      exact r9)
                · rw [c_ge (by first | assumption | (refine ⟨?_, ?_⟩ <;> omega) | (simp only [xr] at *; omega)) (by first | assumption | (refine ⟨?_, ?_⟩ <;> omega) | (simp only [xr] at *; omega))] at c53
                  simp only [decide_eq_true_eq, decide_eq_false_iff_not, Decidable.not_not] at c53
                  show xEx G0 cdX7_sizeOf (some .int) (xRn G0 MT (d + 2)) Q b 54 [some (.inr (.inr 44)), some (.inl set), some (.inl 1), some (.inl 1), some (.inl bs), some (.inl i9), v6] [] hh
                  have hbu : bs = stpf T p (szf S T (S 0 0) (T 0 0) p 0) (sz0 S (S 0 0) p set) set (h 55 i9).toNat := by
                    rw [hbs]
                    unfold unx
                    rw [if_pos (by omega)]
                  refine E_s 4 (i' := 58) (ls' := [some (.inr (.inr 44)), some (.inl set), some (.inl 1), some (.inl 1), some (.inl bs), some (.inl i9), v6]) (sk' := [.inl i9, .inr (.inr 55), .inr (.inr 44)]) (h' := hh) rfl ?_
                  refine E_ld (x := (.iaload, 0, [], [])) (ty := .int) (n := 150) rfl rfl rfl (by omega) (by omega) ?_
                  show xEx G0 cdX7_sizeOf (some .int) (xRn G0 MT (d + 2)) Q b 59 [some (.inr (.inr 44)), some (.inl set), some (.inl 1), some (.inl 1), some (.inl bs), some (.inl i9), v6] [.inl (hh 55 i9), .inr (.inr 44)] hh
                  refine E_s 3 (i' := 62) (ls' := [some (.inr (.inr 44)), some (.inl set), some (.inl 1), some (.inl 1), some (.inl bs), some (.inl i9), v6]) (sk' := [.inl (bs - 1), .inl (hh 55 i9), .inr (.inr 44)]) (h' := hh) rfl ?_
                  have ub := hV.2.2.2.2.2.2.2.2.1 i9 hi0 (by omega)
                  have uu : hh 55 i9 = h 55 i9 := by rw [fz _ (by decide) (by decide)]
                  have o4 := hV.1.2.2.2.2 _ ub.1 ub.2.1
                  have g4 : hh 37 (hh 55 i9) = T 4 (h 55 i9) := by rw [uu, fz _ (by decide) (by decide)]; exact (hV.2.1 _ ub.1 ub.2.1).1
                  refine E_cp (x := (.invokevirtual 103, 2, [(5, 64)], [0])) (q := fun r1 h9 => ((r1 = 1 ∧ (hh 37 (hh 55 i9) + 3 ≤ bs - 1)) ∨ (r1 = 0 ∧ ¬ (hh 37 (hh 55 i9) + 3 ≤ bs - 1))) ∧ hh = h9) rfl rfl (Nat.le_of_ble_eq_true rfl) (c_mayDo (d + 1) 0 hh (hh 55 i9) (bs - 1) ⟨by rw [uu]; omega, by rw [uu]; omega⟩ ⟨by rw [g4]; omega, by rw [g4]; omega⟩ ⟨by omega, by omega⟩ (fun z => ⟨_, rfl, Or.inl ⟨rfl, z⟩, rfl⟩) (fun z => ⟨_, rfl, Or.inr ⟨rfl, z⟩, rfl⟩)) (fun r1 h9 q1 => ?_)
                  obtain ⟨q1, rfl⟩ := q1
                  show xEx G0 cdX7_sizeOf (some .int) (xRn G0 MT (d + 2)) Q b 63 [some (.inr (.inr 44)), some (.inl set), some (.inl 1), some (.inl 1), some (.inl bs), some (.inl i9), v6] [.inl r1] hh
                  refine E_b (x := (.ifCond .eq 35, 80, [], [])) rfl rfl (fun c63 => ?_) (fun c63 => ?_)
                  · rw [c_eq (by first | assumption | (refine ⟨?_, ?_⟩ <;> omega) | (simp only [xr] at *; omega)) (by first | assumption | (refine ⟨?_, ?_⟩ <;> omega) | (simp only [xr] at *; omega))] at c63
                    simp only [decide_eq_true_eq, decide_eq_false_iff_not, Decidable.not_not] at c63
                    show xEx G0 cdX7_sizeOf (some .int) (xRn G0 MT (d + 2)) Q b 80 [some (.inr (.inr 44)), some (.inl set), some (.inl 1), some (.inl 1), some (.inl bs), some (.inl i9), v6] [] hh
                    have hfin : bs = szf S T (S 0 0) (T 0 0) p 1 set := by
                      show bs = stpf T p (szf S T (S 0 0) (T 0 0) p 0) (sz0 S (S 0 0) p set) set (T 0 0).toNat
                      first
                      | (rw [hbs]; unfold unx; rw [if_neg (by omega)])
                      | (rw [us_x hV.1 hV.2.2.2.2.2.2 hi0 (by omega) (fun s => (szf_r (p := p) hV.1 0 s).1) (by rw [← hbu]; have := o0 q1 (by omega); rw [g4] at this; omega)]; exact hbu)
                    have r4 := ir4 hV.1.1 hs
                    refine E_s 1 (i' := 81) (ls' := [some (.inr (.inr 44)), some (.inl set), some (.inl 1), some (.inl 1), some (.inl bs), some (.inl i9), v6]) (sk' := [.inl 1]) (h' := hh) rfl ?_
                    refine E_b (x := (.ifCond .eq 13, 89, [], [])) rfl rfl (fun c81 => ?_) (fun c81 => ?_)
                    · show xEx G0 cdX7_sizeOf (some .int) (xRn G0 MT (d + 2)) Q b 89 [some (.inr (.inr 44)), some (.inl set), some (.inl 1), some (.inl 1), some (.inl bs), some (.inl i9), v6] [] hh
                      exact absurd c81 (by decide)
                    · show xEx G0 cdX7_sizeOf (some .int) (xRn G0 MT (d + 2)) Q b 82 [some (.inr (.inr 44)), some (.inl set), some (.inl 1), some (.inl 1), some (.inl bs), some (.inl i9), v6] [] hh
                      refine E_s 3 (i' := 85) (ls' := [some (.inr (.inr 44)), some (.inl set), some (.inl 1), some (.inl 1), some (.inl bs), some (.inl i9), v6]) (sk' := [.inl 1, .inr (.inr 46)]) (h' := hh) rfl ?_
                      refine E_ald (x := (.aaload, 0, [], [])) 1 rfl rfl rfl (rfl) rfl ?_
                      show xEx G0 cdX7_sizeOf (some .int) (xRn G0 MT (d + 2)) Q b 86 [some (.inr (.inr 44)), some (.inl set), some (.inl 1), some (.inl 1), some (.inl bs), some (.inl i9), v6] [.inr (.inr 49)] hh
                      refine E_s 2 (i' := 88) (ls' := [some (.inr (.inr 44)), some (.inl set), some (.inl 1), some (.inl 1), some (.inl bs), some (.inl i9), v6]) (sk' := [.inl bs, .inl set, .inr (.inr 49)]) (h' := hh) rfl ?_
                      refine E_sd (x := (.iastore, 0, [], [])) (ty := .int) (n := 4096) (y := bs) rfl rfl rfl (by omega) (by omega) (trivial) ?_
                      show xEx G0 cdX7_sizeOf (some .int) (xRn G0 MT (d + 2)) Q b 89 [some (.inr (.inr 44)), some (.inl set), some (.inl 1), some (.inl 1), some (.inl bs), some (.inl i9), v6] [] (xup hh 49 set bs)
                      refine E_s 1 (i' := 90) (ls' := [some (.inr (.inr 44)), some (.inl set), some (.inl 1), some (.inl 1), some (.inl bs), some (.inl i9), v6]) (sk' := [.inl bs]) (h' := (xup hh 49 set bs)) rfl ?_
                      exact E_ret (x := (.ireturn, 0, [], [])) (v := some (.inl bs)) rfl (Or.inl rfl) (by
                        have r9 := hQ _ (fz.up (Or.inl rfl)) (SVM_1 hm bs hfin)
                        rw [← hfin] at r9
                        exact r9)
                  · rw [c_eq (by first | assumption | (refine ⟨?_, ?_⟩ <;> omega) | (simp only [xr] at *; omega)) (by first | assumption | (refine ⟨?_, ?_⟩ <;> omega) | (simp only [xr] at *; omega))] at c63
                    simp only [decide_eq_true_eq, decide_eq_false_iff_not, Decidable.not_not] at c63
                    show xEx G0 cdX7_sizeOf (some .int) (xRn G0 MT (d + 2)) Q b 64 [some (.inr (.inr 44)), some (.inl set), some (.inl 1), some (.inl 1), some (.inl bs), some (.inl i9), v6] [] hh
                    refine E_s 4 (i' := 68) (ls' := [some (.inr (.inr 44)), some (.inl set), some (.inl 1), some (.inl 1), some (.inl bs), some (.inl i9), v6]) (sk' := [.inl i9, .inr (.inr 55), .inr (.inr 44)]) (h' := hh) rfl ?_
                    refine E_ld (x := (.iaload, 0, [], [])) (ty := .int) (n := 150) rfl rfl rfl (by omega) (by omega) ?_
                    show xEx G0 cdX7_sizeOf (some .int) (xRn G0 MT (d + 2)) Q b 69 [some (.inr (.inr 44)), some (.inl set), some (.inl 1), some (.inl 1), some (.inl bs), some (.inl i9), v6] [.inl (hh 55 i9), .inr (.inr 44)] hh
                    refine E_s 2 (i' := 71) (ls' := [some (.inr (.inr 44)), some (.inl set), some (.inl 1), some (.inl 1), some (.inl bs), some (.inl i9), v6]) (sk' := [.inl 1, .inl set, .inl (hh 55 i9), .inr (.inr 44)]) (h' := hh) rfl ?_
                    refine E_cp (x := (.invokevirtual 106, 3, [(5, 65)], [0])) (q := fun r h9 => r = swf T (szf S T (S 0 0) (T 0 0) p 0) set (hh 55 i9) ∧ FZ hh h9 ∧ SVM h9 S T p m) rfl rfl (Nat.le_of_ble_eq_true rfl) (c_szW1 d 0 hh S T p set m (hh 55 i9) (SVF_z fz hV) hm hs ⟨by rw [uu]; omega, by rw [uu]; omega⟩ (fun h9 z1 z2 => ⟨_, rfl, rfl, z1, z2⟩)) (fun r2 h2 hq2 => ?_)
                    obtain ⟨e2, f2, m2⟩ := hq2
                    rw [uu] at e2
                    have sr := swf_r (T := T) (f := (szf S T (S 0 0) (T 0 0) p 0)) (set := set) (t := (h 55 i9)) ⟨by omega, by omega⟩ (szf_r (p := p) hV.1 0)
                    have sl := swf_lt (T := T) (p := p) (f := (szf S T (S 0 0) (T 0 0) p 0)) (set := set) (b := bs) ub.2.2 (by omega) (szf_r (p := p) hV.1 0) (by omega)
                    show xEx G0 cdX7_sizeOf (some .int) (xRn G0 MT (d + 2)) Q b 72 [some (.inr (.inr 44)), some (.inl set), some (.inl 1), some (.inl 1), some (.inl bs), some (.inl i9), v6] [.inl r2] h2
                    refine E_s 3 (i' := 75) (ls' := [some (.inr (.inr 44)), some (.inl set), some (.inl 1), some (.inl 1), some (.inl bs), some (.inl i9), some (.inl r2)]) (sk' := [.inl bs, .inl r2]) (h' := h2) rfl ?_
                    refine E_b (x := (.if_icmp .ge 7, 78, [], [])) rfl rfl (fun c75 => ?_) (fun c75 => ?_)
                    · rw [c_ge (by first | assumption | (refine ⟨?_, ?_⟩ <;> omega) | (simp only [xr] at *; omega)) (by first | assumption | (refine ⟨?_, ?_⟩ <;> omega) | (simp only [xr] at *; omega))] at c75
                      simp only [decide_eq_true_eq, decide_eq_false_iff_not, Decidable.not_not] at c75
                      show xEx G0 cdX7_sizeOf (some .int) (xRn G0 MT (d + 2)) Q b 78 [some (.inr (.inr 44)), some (.inl set), some (.inl 1), some (.inl 1), some (.inl bs), some (.inl i9), some (.inl r2)] [] h2
                      refine E_s 2 (i' := 50) (ls' := [some (.inr (.inr 44)), some (.inl set), some (.inl 1), some (.inl 1), some (.inl bs), some (.inl (i9 + 1)), some (.inl r2)]) (sk' := []) (h' := h2) rfl ?_
                      exact ih50 _ (i9 + 1) (bs) _ (by omega) (by omega) (fz.tr f2) m2 (by
                        rw [us_s hV.2.2.2.2.2.2 hi0 (by omega), stpf_n ub.1 (by rw [← hbu, ← sl, ← e2]; omega), ← hbu]) (by omega)
                    · rw [c_ge (by first | assumption | (refine ⟨?_, ?_⟩ <;> omega) | (simp only [xr] at *; omega)) (by first | assumption | (refine ⟨?_, ?_⟩ <;> omega) | (simp only [xr] at *; omega))] at c75
                      simp only [decide_eq_true_eq, decide_eq_false_iff_not, Decidable.not_not] at c75
                      show xEx G0 cdX7_sizeOf (some .int) (xRn G0 MT (d + 2)) Q b 76 [some (.inr (.inr 44)), some (.inl set), some (.inl 1), some (.inl 1), some (.inl bs), some (.inl i9), some (.inl r2)] [] h2
                      refine E_s 4 (i' := 50) (ls' := [some (.inr (.inr 44)), some (.inl set), some (.inl 1), some (.inl 1), some (.inl r2), some (.inl (i9 + 1)), some (.inl r2)]) (sk' := []) (h' := h2) rfl ?_
                      exact ih50 _ (i9 + 1) (r2) _ (by omega) (by omega) (fz.tr f2) m2 (by
                        rw [us_s hV.2.2.2.2.2.2 hi0 (by omega)]
                        have y9 := sl.mp (by rw [← e2]; omega)
                        rw [stpf_y ub.1 (by rw [← hbu]; exact y9), e2]
                        have y8 := (swf_eq (T := T) (p := p) (f := (szf S T (S 0 0) (T 0 0) p 0)) (set := set) (t := (h 55 i9)) (b := swf T (szf S T (S 0 0) (T 0 0) p 0) set (h 55 i9)) ub.2.2 (by omega) (szf_r (p := p) hV.1 0) (by rw [← e2]; omega)).mp rfl
                        exact y8.2.symm) (by omega)
            exact key50 _ h 0 _ none (by omega) hV.2.2.2.2.2.2.1 (FZ.rf h) hM (by rw [us_0 hV.2.2.2.2.2.2]; exact e0) (Nat.lt_succ_self _)
          · rw [c_eq (by first | exact xand_r _ _ | exact ⟨by omega, by omega⟩) (by first | exact xand_r _ _ | exact ⟨by omega, by omega⟩)] at c45
            simp only [decide_eq_true_eq, decide_eq_false_iff_not, Decidable.not_not] at c45
            show xEx G0 cdX7_sizeOf (some .int) (xRn G0 MT (d + 2)) Q b 46 [some (.inr (.inr 44)), some (.inl set), some (.inl 1), some (.inl 1), some (.inl (h 48 set)), none, none] [] h
            refine E_s 1 (i' := 47) (ls' := [some (.inr (.inr 44)), some (.inl set), some (.inl 1), some (.inl 1), some (.inl (h 48 set)), none, none]) (sk' := [.inl (h 48 set)]) (h' := h) rfl ?_
            exact E_ret (x := (.ireturn, 0, [], [])) (v := some (.inl (h 48 set))) rfl (Or.inl rfl) (by
              have r9 := hQ h (FZ.rf h) hM
              obtain ⟨e, u1, u2⟩ := hV.2.2.2.2.2.1 set hs c45
              have s1 := szf_un hV.1 u2 0 set hs u1
              have s2 := szf_un hV.1 u2 1 set hs u1
              have s1 : sz0 S (S 0 0) p set = 1000000 := s1
              rw [s2, ← s1, ← e0] at r9
              exact r9)
        · rw [c_eq (by first | assumption | (refine ⟨?_, ?_⟩ <;> omega) | (simp only [xr] at *; omega)) (by first | assumption | (refine ⟨?_, ?_⟩ <;> omega) | (simp only [xr] at *; omega))] at c24
          simp only [decide_eq_true_eq, decide_eq_false_iff_not, Decidable.not_not] at c24
          show xEx G0 cdX7_sizeOf (some .int) (xRn G0 MT (d + 2)) Q b 25 [some (.inr (.inr 44)), some (.inl set), some (.inl 1), some (.inl 1), none, none, none] [] h
          have e9 : h 49 set = szf S T (S 0 0) (T 0 0) p 1 set := by omega
          refine E_s 3 (i' := 28) (ls' := [some (.inr (.inr 44)), some (.inl set), some (.inl 1), some (.inl 1), none, none, none]) (sk' := [.inl 1, .inr (.inr 46)]) (h' := h) rfl ?_
          refine E_ald (x := (.aaload, 0, [], [])) 1 rfl rfl rfl (rfl) rfl ?_
          show xEx G0 cdX7_sizeOf (some .int) (xRn G0 MT (d + 2)) Q b 29 [some (.inr (.inr 44)), some (.inl set), some (.inl 1), some (.inl 1), none, none, none] [.inr (.inr 49)] h
          refine E_s 1 (i' := 30) (ls' := [some (.inr (.inr 44)), some (.inl set), some (.inl 1), some (.inl 1), none, none, none]) (sk' := [.inl set, .inr (.inr 49)]) (h' := h) rfl ?_
          refine E_ld (x := (.iaload, 0, [], [])) (ty := .int) (n := 4096) rfl rfl rfl (by omega) (by omega) ?_
          show xEx G0 cdX7_sizeOf (some .int) (xRn G0 MT (d + 2)) Q b 31 [some (.inr (.inr 44)), some (.inl set), some (.inl 1), some (.inl 1), none, none, none] [.inl (h 49 set)] h
          exact E_ret (x := (.ireturn, 0, [], [])) (v := some (.inl (h 49 set))) rfl (Or.inl rfl) (by
            have r9 := hQ h (FZ.rf h) hM
            rw [← e9] at r9
            exact r9)
  · show xEx G0 cdX7_sizeOf (some .int) (xRn G0 MT (d + 2)) Q b 2 [some (.inr (.inr 44)), some (.inl set), some (.inl 1), none, none, none, none] [] h
    exact absurd c1 (by decide)
set_option maxHeartbeats 1000000 in
theorem c_szW2 (d b : Nat) (h S T : xH) (p set : Int) (m : Nat) (t : Int) (hV : SVF h S T p m) (hM : SVM h S T p m) (hs : ir m set) (ht : 0 ≤ t ∧ t < T 0 0) {Q : xO → xH → Prop} (hQ : ∀ h', FZ h h' → SVM h' S T p m → Q (.inl (some (.inl (swf T (szf S T (S 0 0) (T 0 0) p 1) set t)))) h') : xRn G0 MT (d + 4) b 65 [.inr (.inr 44), .inl t, .inl set, .inl 2] h Q := by
  refine R_of (M := mX7_sizeWith) rfl (Nat.le_of_ble_eq_true rfl) ?_
  show xEx G0 cdX7_sizeWith (some .int) (xRn G0 MT (d + 3)) Q b 0 [some (.inr (.inr 44)), some (.inl t), some (.inl set), some (.inl 2), none, none, none] [] h
  have t6 := (hV.2.1 t ht.1 ht.2).2
  have o4 := hV.1.2.2.2.2 t ht.1 ht.2
  have hm12 := hV.1.1
  have is1 : ir m (xand set (h 39 t)) := by rw [t6]; exact xa_r hm12 hs o4.2.1
  have is2 : ir m (xxor set (xand set (h 39 t))) := xx_r hm12 hs is1
  have r4 := ir4 hm12 hs
  have r41 := ir4 hm12 is1
  have uk := hV.1.2.2.1
  refine E_s 5 (i' := 5) (ls' := [some (.inr (.inr 44)), some (.inl t), some (.inl set), some (.inl 2), none, none, none]) (sk' := [.inl t, .inr (.inr 39), .inl set]) (h' := h) rfl ?_
  refine E_ld (x := (.iaload, 0, [], [])) (ty := .int) (n := 150) rfl rfl rfl (by omega) (by omega) ?_
  show xEx G0 cdX7_sizeWith (some .int) (xRn G0 MT (d + 3)) Q b 6 [some (.inr (.inr 44)), some (.inl t), some (.inl set), some (.inl 2), none, none, none] [.inl (h 39 t), .inl set] h
  refine E_s 3 (i' := 9) (ls' := [some (.inr (.inr 44)), some (.inl t), some (.inl set), some (.inl 2), some (.inl (xand set (h 39 t))), none, none]) (sk' := [.inl (xand set (h 39 t))]) (h' := h) rfl ?_
  refine E_b (x := (.ifCond .eq 9, 13, [], [])) rfl rfl (fun c9 => ?_) (fun c9 => ?_)
  · rw [c_eq (by first | assumption | (refine ⟨?_, ?_⟩ <;> omega) | (simp only [xr] at *; omega)) (by first | assumption | (refine ⟨?_, ?_⟩ <;> omega) | (simp only [xr] at *; omega))] at c9
    simp only [decide_eq_true_eq, decide_eq_false_iff_not, Decidable.not_not] at c9
    show xEx G0 cdX7_sizeWith (some .int) (xRn G0 MT (d + 3)) Q b 13 [some (.inr (.inr 44)), some (.inl t), some (.inl set), some (.inl 2), some (.inl (xand set (h 39 t))), none, none] [] h
    refine E_s 1 (i' := 14) (ls' := [some (.inr (.inr 44)), some (.inl t), some (.inl set), some (.inl 2), some (.inl (xand set (h 39 t))), none, none]) (sk' := [.inl 1000000]) (h' := h) rfl ?_
    exact E_ret (x := (.ireturn, 0, [], [])) (v := some (.inl 1000000)) rfl (Or.inl rfl) (by
      have e9 : swf T (szf S T (S 0 0) (T 0 0) p 1) set t = 1000000 := by
        unfold swf
        rw [← t6]
        rw [if_pos (by first | exact Or.inl c9 | exact Or.inr (Or.inl c12))]
      have r9 := hQ _ (FZ.rf h) hM
      rw [e9] at r9
      exact r9)
  · rw [c_eq (by first | assumption | (refine ⟨?_, ?_⟩ <;> omega) | (simp only [xr] at *; omega)) (by first | assumption | (refine ⟨?_, ?_⟩ <;> omega) | (simp only [xr] at *; omega))] at c9
    simp only [decide_eq_true_eq, decide_eq_false_iff_not, Decidable.not_not] at c9
    show xEx G0 cdX7_sizeWith (some .int) (xRn G0 MT (d + 3)) Q b 10 [some (.inr (.inr 44)), some (.inl t), some (.inl set), some (.inl 2), some (.inl (xand set (h 39 t))), none, none] [] h
    refine E_s 2 (i' := 12) (ls' := [some (.inr (.inr 44)), some (.inl t), some (.inl set), some (.inl 2), some (.inl (xand set (h 39 t))), none, none]) (sk' := [.inl set, .inl (xand set (h 39 t))]) (h' := h) rfl ?_
    refine E_b (x := (.if_icmp .ne 6, 15, [], [])) rfl rfl (fun c12 => ?_) (fun c12 => ?_)
    · rw [c_ne (by first | assumption | (refine ⟨?_, ?_⟩ <;> omega) | (simp only [xr] at *; omega)) (by first | assumption | (refine ⟨?_, ?_⟩ <;> omega) | (simp only [xr] at *; omega))] at c12
      simp only [decide_eq_true_eq, decide_eq_false_iff_not, Decidable.not_not] at c12
      show xEx G0 cdX7_sizeWith (some .int) (xRn G0 MT (d + 3)) Q b 15 [some (.inr (.inr 44)), some (.inl t), some (.inl set), some (.inl 2), some (.inl (xand set (h 39 t))), none, none] [] h
      refine E_s 5 (i' := 20) (ls' := [some (.inr (.inr 44)), some (.inl t), some (.inl set), some (.inl 2), some (.inl (xand set (h 39 t))), none, none]) (sk' := [.inl 1, .inl (xand set (h 39 t)), .inr (.inr 44)]) (h' := h) rfl ?_
      refine E_cp (x := (.invokevirtual 99, 2, [(5, 63)], [0])) (q := fun r h9 => r = szf S T (S 0 0) (T 0 0) p 1 (xand set (h 39 t)) ∧ FZ h h9 ∧ SVM h9 S T p m) rfl rfl (Nat.le_of_ble_eq_true rfl) (c_szO1 d 0 h S T p (xand set (h 39 t)) m hV hM is1 (fun h9 z1 z2 => ⟨_, rfl, rfl, z1, z2⟩)) (fun r1 h1 hq1 => ?_)
      obtain ⟨e1, f1, m1⟩ := hq1
      have a1 := szf_r (p := p) hV.1 1 (xand set (h 39 t))
      show xEx G0 cdX7_sizeWith (some .int) (xRn G0 MT (d + 3)) Q b 21 [some (.inr (.inr 44)), some (.inl t), some (.inl set), some (.inl 2), some (.inl (xand set (h 39 t))), none, none] [.inl r1] h1
      refine E_s 3 (i' := 24) (ls' := [some (.inr (.inr 44)), some (.inl t), some (.inl set), some (.inl 2), some (.inl (xand set (h 39 t))), some (.inl r1), none]) (sk' := [.inl 1000000, .inl r1]) (h' := h1) rfl ?_
      refine E_b (x := (.if_icmp .ne 6, 27, [], [])) rfl rfl (fun c24 => ?_) (fun c24 => ?_)
      · rw [c_ne (by first | assumption | (refine ⟨?_, ?_⟩ <;> omega) | (simp only [xr] at *; omega)) (by first | assumption | (refine ⟨?_, ?_⟩ <;> omega) | (simp only [xr] at *; omega))] at c24
        simp only [decide_eq_true_eq, decide_eq_false_iff_not, Decidable.not_not] at c24
        show xEx G0 cdX7_sizeWith (some .int) (xRn G0 MT (d + 3)) Q b 27 [some (.inr (.inr 44)), some (.inl t), some (.inl set), some (.inl 2), some (.inl (xand set (h 39 t))), some (.inl r1), none] [] h1
        refine E_s 7 (i' := 34) (ls' := [some (.inr (.inr 44)), some (.inl t), some (.inl set), some (.inl 2), some (.inl (xand set (h 39 t))), some (.inl r1), none]) (sk' := [.inl 1, .inl (xxor set (xand set (h 39 t))), .inr (.inr 44)]) (h' := h1) rfl ?_
        refine E_cp (x := (.invokevirtual 99, 2, [(5, 63)], [0])) (q := fun r h9 => r = szf S T (S 0 0) (T 0 0) p 1 (xxor set (xand set (h 39 t))) ∧ FZ h1 h9 ∧ SVM h9 S T p m) rfl rfl (Nat.le_of_ble_eq_true rfl) (c_szO1 d 0 h1 S T p (xxor set (xand set (h 39 t))) m (SVF_z f1 hV) m1 is2 (fun h9 z1 z2 => ⟨_, rfl, rfl, z1, z2⟩)) (fun r2 h2 hq2 => ?_)
        obtain ⟨e2, f2, m2⟩ := hq2
        show xEx G0 cdX7_sizeWith (some .int) (xRn G0 MT (d + 3)) Q b 35 [some (.inr (.inr 44)), some (.inl t), some (.inl set), some (.inl 2), some (.inl (xand set (h 39 t))), some (.inl r1), none] [.inl r2] h2
        have a2 := szf_r (p := p) hV.1 1 (xxor set (xand set (h 39 t)))
        refine E_s 3 (i' := 38) (ls' := [some (.inr (.inr 44)), some (.inl t), some (.inl set), some (.inl 2), some (.inl (xand set (h 39 t))), some (.inl r1), some (.inl r2)]) (sk' := [.inl 1000000, .inl r2]) (h' := h2) rfl ?_
        refine E_b (x := (.if_icmp .ne 8, 41, [], [])) rfl rfl (fun c38 => ?_) (fun c38 => ?_)
        · rw [c_ne (by first | assumption | (refine ⟨?_, ?_⟩ <;> omega) | (simp only [xr] at *; omega)) (by first | assumption | (refine ⟨?_, ?_⟩ <;> omega) | (simp only [xr] at *; omega))] at c38
          simp only [decide_eq_true_eq, decide_eq_false_iff_not, Decidable.not_not] at c38
          show xEx G0 cdX7_sizeWith (some .int) (xRn G0 MT (d + 3)) Q b 41 [some (.inr (.inr 44)), some (.inl t), some (.inl set), some (.inl 2), some (.inl (xand set (h 39 t))), some (.inl r1), some (.inl r2)] [] h2
          refine E_s 4 (i' := 45) (ls' := [some (.inr (.inr 44)), some (.inl t), some (.inl set), some (.inl 2), some (.inl (xand set (h 39 t))), some (.inl r1), some (.inl r2)]) (sk' := [.inl t, .inr (.inr 37)]) (h' := h2) rfl ?_
          refine E_ld (x := (.iaload, 0, [], [])) (ty := .int) (n := 150) rfl rfl rfl (by omega) (by omega) ?_
          show xEx G0 cdX7_sizeWith (some .int) (xRn G0 MT (d + 3)) Q b 46 [some (.inr (.inr 44)), some (.inl t), some (.inl set), some (.inl 2), some (.inl (xand set (h 39 t))), some (.inl r1), some (.inl r2)] [.inl (h2 37 t)] h2
          refine E_s 6 (i' := 52) (ls' := [some (.inr (.inr 44)), some (.inl t), some (.inl set), some (.inl 2), some (.inl (xand set (h 39 t))), some (.inl r1), some (.inl r2)]) (sk' := [.inl ((((h2 37 t) + 1) + r1) + r2)]) (h' := h2) rfl ?_
          exact E_ret (x := (.ireturn, 0, [], [])) (v := some (.inl ((((h2 37 t) + 1) + r1) + r2))) rfl (Or.inl rfl) (by
            have e9 : swf T (szf S T (S 0 0) (T 0 0) p 1) set t = (((h2 37 t) + 1) + r1) + r2 := by
              unfold swf
              rw [← t6]
              rw [if_neg (by
              rintro (y | y | y | y)
              · exact c9 y
              · exact c12 y
              · omega
              · omega), ← e1, ← e2, ← (hV.2.1 t ht.1 ht.2).1]
              rw [f2 _ (by decide) (by decide), f1 _ (by decide) (by decide)]
            have r9 := hQ _ (f1.tr f2) m2
            rw [e9] at r9
            exact r9)
        · rw [c_ne (by first | assumption | (refine ⟨?_, ?_⟩ <;> omega) | (simp only [xr] at *; omega)) (by first | assumption | (refine ⟨?_, ?_⟩ <;> omega) | (simp only [xr] at *; omega))] at c38
          simp only [decide_eq_true_eq, decide_eq_false_iff_not, Decidable.not_not] at c38
          show xEx G0 cdX7_sizeWith (some .int) (xRn G0 MT (d + 3)) Q b 39 [some (.inr (.inr 44)), some (.inl t), some (.inl set), some (.inl 2), some (.inl (xand set (h 39 t))), some (.inl r1), some (.inl r2)] [] h2
          refine E_s 2 (i' := 52) (ls' := [some (.inr (.inr 44)), some (.inl t), some (.inl set), some (.inl 2), some (.inl (xand set (h 39 t))), some (.inl r1), some (.inl r2)]) (sk' := [.inl 1000000]) (h' := h2) rfl ?_
          exact E_ret (x := (.ireturn, 0, [], [])) (v := some (.inl 1000000)) rfl (Or.inl rfl) (by
            have e9 : swf T (szf S T (S 0 0) (T 0 0) p 1) set t = 1000000 := by
              unfold swf
              rw [← t6]
              rw [if_pos (Or.inr (Or.inr (Or.inr (by omega))))]
            have r9 := hQ _ (f1.tr f2) m2
            rw [e9] at r9
            exact r9)
      · rw [c_ne (by first | assumption | (refine ⟨?_, ?_⟩ <;> omega) | (simp only [xr] at *; omega)) (by first | assumption | (refine ⟨?_, ?_⟩ <;> omega) | (simp only [xr] at *; omega))] at c24
        simp only [decide_eq_true_eq, decide_eq_false_iff_not, Decidable.not_not] at c24
        show xEx G0 cdX7_sizeWith (some .int) (xRn G0 MT (d + 3)) Q b 25 [some (.inr (.inr 44)), some (.inl t), some (.inl set), some (.inl 2), some (.inl (xand set (h 39 t))), some (.inl r1), none] [] h1
        refine E_s 1 (i' := 26) (ls' := [some (.inr (.inr 44)), some (.inl t), some (.inl set), some (.inl 2), some (.inl (xand set (h 39 t))), some (.inl r1), none]) (sk' := [.inl 1000000]) (h' := h1) rfl ?_
        exact E_ret (x := (.ireturn, 0, [], [])) (v := some (.inl 1000000)) rfl (Or.inl rfl) (by
          have e9 : swf T (szf S T (S 0 0) (T 0 0) p 1) set t = 1000000 := by
            unfold swf
            rw [← t6]
            rw [if_pos (Or.inr (Or.inr (Or.inl (by omega))))]
          have r9 := hQ _ f1 m1
          rw [e9] at r9
          exact r9)
    · rw [c_ne (by first | assumption | (refine ⟨?_, ?_⟩ <;> omega) | (simp only [xr] at *; omega)) (by first | assumption | (refine ⟨?_, ?_⟩ <;> omega) | (simp only [xr] at *; omega))] at c12
      simp only [decide_eq_true_eq, decide_eq_false_iff_not, Decidable.not_not] at c12
      show xEx G0 cdX7_sizeWith (some .int) (xRn G0 MT (d + 3)) Q b 13 [some (.inr (.inr 44)), some (.inl t), some (.inl set), some (.inl 2), some (.inl (xand set (h 39 t))), none, none] [] h
      refine E_s 1 (i' := 14) (ls' := [some (.inr (.inr 44)), some (.inl t), some (.inl set), some (.inl 2), some (.inl (xand set (h 39 t))), none, none]) (sk' := [.inl 1000000]) (h' := h) rfl ?_
      exact E_ret (x := (.ireturn, 0, [], [])) (v := some (.inl 1000000)) rfl (Or.inl rfl) (by
        have e9 : swf T (szf S T (S 0 0) (T 0 0) p 1) set t = 1000000 := by
          unfold swf
          rw [← t6]
          rw [if_pos (by first | exact Or.inl c9 | exact Or.inr (Or.inl c12))]
        have r9 := hQ _ (FZ.rf h) hM
        rw [e9] at r9
        exact r9)
set_option maxHeartbeats 1000000 in
theorem c_szO2 (d b : Nat) (h S T : xH) (p set : Int) (m : Nat) (hV : SVF h S T p m) (hM : SVM h S T p m) (hs : ir m set) {Q : xO → xH → Prop} (hQ : ∀ h', FZ h h' → SVM h' S T p m → Q (.inl (some (.inl (szf S T (S 0 0) (T 0 0) p 2 set)))) h') : xRn G0 MT (d + 5) b 63 [.inr (.inr 44), .inl set, .inl 2] h Q := by
  refine R_of (M := mX7_sizeOf) rfl (Nat.le_of_ble_eq_true rfl) ?_
  show xEx G0 cdX7_sizeOf (some .int) (xRn G0 MT (d + 4)) Q b 0 [some (.inr (.inr 44)), some (.inl set), some (.inl 2), none, none, none, none] [] h
  have r4 := ir4 hV.1.1 hs
  have e0 : h 48 set = (sz0 S (S 0 0) p set) := (hV.2.2.2.1 set hs).2
  have z0 := sz0_r (p := p) hV.1 set
  have zi := szf_r (p := p) hV.1 2 set
  have hM9 := (hM set hs).2
  refine E_s 1 (i' := 1) (ls' := [some (.inr (.inr 44)), some (.inl set), some (.inl 2), none, none, none, none]) (sk' := [.inl 2]) (h' := h) rfl ?_
  refine E_b (x := (.ifCond .gt 12, 9, [], [])) rfl rfl (fun c1 => ?_) (fun c1 => ?_)
  · show xEx G0 cdX7_sizeOf (some .int) (xRn G0 MT (d + 4)) Q b 9 [some (.inr (.inr 44)), some (.inl set), some (.inl 2), none, none, none, none] [] h
    refine E_s 2 (i' := 11) (ls' := [some (.inr (.inr 44)), some (.inl set), some (.inl 2), none, none, none, none]) (sk' := [.inl 2, .inl 2]) (h' := h) rfl ?_
    refine E_b (x := (.if_icmp .gt 7, 14, [], [])) rfl rfl (fun c11 => ?_) (fun c11 => ?_)
    · show xEx G0 cdX7_sizeOf (some .int) (xRn G0 MT (d + 4)) Q b 14 [some (.inr (.inr 44)), some (.inl set), some (.inl 2), none, none, none, none] [] h
      exact absurd c11 (by decide)
    · show xEx G0 cdX7_sizeOf (some .int) (xRn G0 MT (d + 4)) Q b 12 [some (.inr (.inr 44)), some (.inl set), some (.inl 2), none, none, none, none] [] h
      refine E_s 4 (i' := 17) (ls' := [some (.inr (.inr 44)), some (.inl set), some (.inl 2), some (.inl 1), none, none, none]) (sk' := [.inl 1]) (h' := h) rfl ?_
      refine E_b (x := (.ifCond .eq 23, 32, [], [])) rfl rfl (fun c17 => ?_) (fun c17 => ?_)
      · show xEx G0 cdX7_sizeOf (some .int) (xRn G0 MT (d + 4)) Q b 32 [some (.inr (.inr 44)), some (.inl set), some (.inl 2), some (.inl 1), none, none, none] [] h
        exact absurd c17 (by decide)
      · show xEx G0 cdX7_sizeOf (some .int) (xRn G0 MT (d + 4)) Q b 18 [some (.inr (.inr 44)), some (.inl set), some (.inl 2), some (.inl 1), none, none, none] [] h
        refine E_s 3 (i' := 21) (ls' := [some (.inr (.inr 44)), some (.inl set), some (.inl 2), some (.inl 1), none, none, none]) (sk' := [.inl 2, .inr (.inr 46)]) (h' := h) rfl ?_
        refine E_ald (x := (.aaload, 0, [], [])) 2 rfl rfl rfl (rfl) rfl ?_
        show xEx G0 cdX7_sizeOf (some .int) (xRn G0 MT (d + 4)) Q b 22 [some (.inr (.inr 44)), some (.inl set), some (.inl 2), some (.inl 1), none, none, none] [.inr (.inr 50)] h
        refine E_s 1 (i' := 23) (ls' := [some (.inr (.inr 44)), some (.inl set), some (.inl 2), some (.inl 1), none, none, none]) (sk' := [.inl set, .inr (.inr 50)]) (h' := h) rfl ?_
        refine E_ld (x := (.iaload, 0, [], [])) (ty := .int) (n := 4096) rfl rfl rfl (by omega) (by omega) ?_
        show xEx G0 cdX7_sizeOf (some .int) (xRn G0 MT (d + 4)) Q b 24 [some (.inr (.inr 44)), some (.inl set), some (.inl 2), some (.inl 1), none, none, none] [.inl (h 50 set)] h
        refine E_b (x := (.ifCond .eq 12, 32, [], [])) rfl rfl (fun c24 => ?_) (fun c24 => ?_)
        · rw [c_eq (by first | assumption | (refine ⟨?_, ?_⟩ <;> omega) | (simp only [xr] at *; omega)) (by first | assumption | (refine ⟨?_, ?_⟩ <;> omega) | (simp only [xr] at *; omega))] at c24
          simp only [decide_eq_true_eq, decide_eq_false_iff_not, Decidable.not_not] at c24
          show xEx G0 cdX7_sizeOf (some .int) (xRn G0 MT (d + 4)) Q b 32 [some (.inr (.inr 44)), some (.inl set), some (.inl 2), some (.inl 1), none, none, none] [] h
          refine E_s 3 (i' := 35) (ls' := [some (.inr (.inr 44)), some (.inl set), some (.inl 2), some (.inl 1), none, none, none]) (sk' := [.inl 0, .inr (.inr 46)]) (h' := h) rfl ?_
          refine E_ald (x := (.aaload, 0, [], [])) 0 rfl rfl rfl (rfl) rfl ?_
          show xEx G0 cdX7_sizeOf (some .int) (xRn G0 MT (d + 4)) Q b 36 [some (.inr (.inr 44)), some (.inl set), some (.inl 2), some (.inl 1), none, none, none] [.inr (.inr 48)] h
          refine E_s 1 (i' := 37) (ls' := [some (.inr (.inr 44)), some (.inl set), some (.inl 2), some (.inl 1), none, none, none]) (sk' := [.inl set, .inr (.inr 48)]) (h' := h) rfl ?_
          refine E_ld (x := (.iaload, 0, [], [])) (ty := .int) (n := 4096) rfl rfl rfl (by omega) (by omega) ?_
          show xEx G0 cdX7_sizeOf (some .int) (xRn G0 MT (d + 4)) Q b 38 [some (.inr (.inr 44)), some (.inl set), some (.inl 2), some (.inl 1), none, none, none] [.inl (h 48 set)] h
          refine E_s 7 (i' := 45) (ls' := [some (.inr (.inr 44)), some (.inl set), some (.inl 2), some (.inl 1), some (.inl (h 48 set)), none, none]) (sk' := [.inl (xand set (xxor (h 44 9) (-1)))]) (h' := h) rfl ?_
          refine E_b (x := (.ifCond .eq 6, 48, [], [])) rfl rfl (fun c45 => ?_) (fun c45 => ?_)
          · rw [c_eq (by first | exact xand_r _ _ | exact ⟨by omega, by omega⟩) (by first | exact xand_r _ _ | exact ⟨by omega, by omega⟩)] at c45
            simp only [decide_eq_true_eq, decide_eq_false_iff_not, Decidable.not_not] at c45
            show xEx G0 cdX7_sizeOf (some .int) (xRn G0 MT (d + 4)) Q b 48 [some (.inr (.inr 44)), some (.inl set), some (.inl 2), some (.inl 1), some (.inl (h 48 set)), none, none] [] h
            refine E_s 2 (i' := 50) (ls' := [some (.inr (.inr 44)), some (.inl set), some (.inl 2), some (.inl 1), some (.inl (h 48 set)), some (.inl 0), none]) (sk' := []) (h' := h) rfl ?_
            have key50 : ∀ (n : Nat) (hh : xH) (i9 bs : Int) (v6 : Option xV), (0 ≤ i9) → (i9 ≤ h 44 8) → (FZ h hh) → (SVM hh S T p m) → (bs = stpf T p (szf S T (S 0 0) (T 0 0) p 1) (sz0 S (S 0 0) p set) set (unx (T 0 0) (h 44 8) (h 55) i9).toNat) → ((h 44 8 - i9).toNat) < n → xEx G0 cdX7_sizeOf (some .int) (xRn G0 MT (d + 4)) Q b 50 [some (.inr (.inr 44)), some (.inl set), some (.inl 2), some (.inl 1), some (.inl bs), some (.inl i9), v6] [] hh := by
              intro n
              induction n with
              | zero => intro hh i9 bs v6 _ _ _ _ _ hm; exact absurd hm (Nat.not_lt_zero _)
              | succ n ih50 =>
                intro hh i9 bs v6 hi0 hi9 fz hm hbs hm50
                have ec : hh 44 8 = h 44 8 := by rw [fz _ (by decide) (by decide)]
                have bl : bs ≤ (sz0 S (S 0 0) p set) := by rw [hbs]; exact stpf_le _
                have uc := hV.2.2.2.2.2.2
                have ucb : 0 ≤ h 44 8 ∧ h 44 8 ≤ T 0 0 := ⟨uc.1, uc.2.1⟩
                have b1 : 1 ≤ bs := by
                  rw [hbs]
                  refine stpf_lo z0.1 _ (fun t z1 z2 hp => ?_)
                  have un : unx (T 0 0) (h 44 8) (h 55) i9 ≤ T 0 0 := by
                    unfold unx
                    split
                    · have := uc.2.2.1 i9 hi0 (by omega); omega
                    · omega
                  have o4 := (hV.1.2.2.2.2 t z1 (by omega)).1
                  have x1 := (szf_r (p := p) hV.1 1 (xand set (T 6 t))).1
                  have x2 := (szf_r (p := p) hV.1 1 (xxor set (xand set (T 6 t)))).1
                  unfold szt
                  omega
                have uk := hV.1.2.2.1
                refine E_s 3 (i' := 53) (ls' := [some (.inr (.inr 44)), some (.inl set), some (.inl 2), some (.inl 1), some (.inl bs), some (.inl i9), v6]) (sk' := [.inl (hh 44 8), .inl i9]) (h' := hh) rfl ?_
                refine E_b (x := (.if_icmp .ge 53, 80, [], [])) rfl rfl (fun c53 => ?_) (fun c53 => ?_)
                · rw [c_ge (by first | assumption | (refine ⟨?_, ?_⟩ <;> omega) | (simp only [xr] at *; omega)) (by first | assumption | (refine ⟨?_, ?_⟩ <;> omega) | (simp only [xr] at *; omega))] at c53
                  simp only [decide_eq_true_eq, decide_eq_false_iff_not, Decidable.not_not] at c53
                  show xEx G0 cdX7_sizeOf (some .int) (xRn G0 MT (d + 4)) Q b 80 [some (.inr (.inr 44)), some (.inl set), some (.inl 2), some (.inl 1), some (.inl bs), some (.inl i9), v6] [] hh
                  have hfin : bs = szf S T (S 0 0) (T 0 0) p 2 set := by
                    show bs = stpf T p (szf S T (S 0 0) (T 0 0) p 1) (sz0 S (S 0 0) p set) set (T 0 0).toNat
                    first
                    | (rw [hbs]; unfold unx; rw [if_neg (by omega)])
                    | (rw [us_x hV.1 hV.2.2.2.2.2.2 hi0 (by omega) (fun s => (szf_r (p := p) hV.1 1 s).1) (by rw [← hbu]; have := o0 q1 (by omega); rw [g4] at this; omega)]; exact hbu)
                  have r4 := ir4 hV.1.1 hs
                  refine E_s 1 (i' := 81) (ls' := [some (.inr (.inr 44)), some (.inl set), some (.inl 2), some (.inl 1), some (.inl bs), some (.inl i9), v6]) (sk' := [.inl 1]) (h' := hh) rfl ?_
                  refine E_b (x := (.ifCond .eq 13, 89, [], [])) rfl rfl (fun c81 => ?_) (fun c81 => ?_)
                  · show xEx G0 cdX7_sizeOf (some .int) (xRn G0 MT (d + 4)) Q b 89 [some (.inr (.inr 44)), some (.inl set), some (.inl 2), some (.inl 1), some (.inl bs), some (.inl i9), v6] [] hh
                    exact absurd c81 (by decide)
                  · show xEx G0 cdX7_sizeOf (some .int) (xRn G0 MT (d + 4)) Q b 82 [some (.inr (.inr 44)), some (.inl set), some (.inl 2), some (.inl 1), some (.inl bs), some (.inl i9), v6] [] hh
                    refine E_s 3 (i' := 85) (ls' := [some (.inr (.inr 44)), some (.inl set), some (.inl 2), some (.inl 1), some (.inl bs), some (.inl i9), v6]) (sk' := [.inl 2, .inr (.inr 46)]) (h' := hh) rfl ?_
                    refine E_ald (x := (.aaload, 0, [], [])) 2 rfl rfl rfl (rfl) rfl ?_
                    show xEx G0 cdX7_sizeOf (some .int) (xRn G0 MT (d + 4)) Q b 86 [some (.inr (.inr 44)), some (.inl set), some (.inl 2), some (.inl 1), some (.inl bs), some (.inl i9), v6] [.inr (.inr 50)] hh
                    refine E_s 2 (i' := 88) (ls' := [some (.inr (.inr 44)), some (.inl set), some (.inl 2), some (.inl 1), some (.inl bs), some (.inl i9), v6]) (sk' := [.inl bs, .inl set, .inr (.inr 50)]) (h' := hh) rfl ?_
                    refine E_sd (x := (.iastore, 0, [], [])) (ty := .int) (n := 4096) (y := bs) rfl rfl rfl (by omega) (by omega) (trivial) ?_
                    show xEx G0 cdX7_sizeOf (some .int) (xRn G0 MT (d + 4)) Q b 89 [some (.inr (.inr 44)), some (.inl set), some (.inl 2), some (.inl 1), some (.inl bs), some (.inl i9), v6] [] (xup hh 50 set bs)
                    refine E_s 1 (i' := 90) (ls' := [some (.inr (.inr 44)), some (.inl set), some (.inl 2), some (.inl 1), some (.inl bs), some (.inl i9), v6]) (sk' := [.inl bs]) (h' := (xup hh 50 set bs)) rfl ?_
                    exact E_ret (x := (.ireturn, 0, [], [])) (v := some (.inl bs)) rfl (Or.inl rfl) (by
                      have r9 := hQ _ (fz.up (Or.inr rfl)) (SVM_2 hm bs hfin)
                      rw [← hfin] at r9
                      exact r9)
                · rw [c_ge (by first | assumption | (refine ⟨?_, ?_⟩ <;> omega) | (simp only [xr] at *; omega)) (by first | assumption | (refine ⟨?_, ?_⟩ <;> omega) | (simp only [xr] at *; omega))] at c53
                  simp only [decide_eq_true_eq, decide_eq_false_iff_not, Decidable.not_not] at c53
                  show xEx G0 cdX7_sizeOf (some .int) (xRn G0 MT (d + 4)) Q b 54 [some (.inr (.inr 44)), some (.inl set), some (.inl 2), some (.inl 1), some (.inl bs), some (.inl i9), v6] [] hh
                  have hbu : bs = stpf T p (szf S T (S 0 0) (T 0 0) p 1) (sz0 S (S 0 0) p set) set (h 55 i9).toNat := by
                    rw [hbs]
                    unfold unx
                    rw [if_pos (by omega)]
                  refine E_s 4 (i' := 58) (ls' := [some (.inr (.inr 44)), some (.inl set), some (.inl 2), some (.inl 1), some (.inl bs), some (.inl i9), v6]) (sk' := [.inl i9, .inr (.inr 55), .inr (.inr 44)]) (h' := hh) rfl ?_
                  refine E_ld (x := (.iaload, 0, [], [])) (ty := .int) (n := 150) rfl rfl rfl (by omega) (by omega) ?_
                  show xEx G0 cdX7_sizeOf (some .int) (xRn G0 MT (d + 4)) Q b 59 [some (.inr (.inr 44)), some (.inl set), some (.inl 2), some (.inl 1), some (.inl bs), some (.inl i9), v6] [.inl (hh 55 i9), .inr (.inr 44)] hh
                  refine E_s 3 (i' := 62) (ls' := [some (.inr (.inr 44)), some (.inl set), some (.inl 2), some (.inl 1), some (.inl bs), some (.inl i9), v6]) (sk' := [.inl (bs - 1), .inl (hh 55 i9), .inr (.inr 44)]) (h' := hh) rfl ?_
                  have ub := hV.2.2.2.2.2.2.2.2.1 i9 hi0 (by omega)
                  have uu : hh 55 i9 = h 55 i9 := by rw [fz _ (by decide) (by decide)]
                  have o4 := hV.1.2.2.2.2 _ ub.1 ub.2.1
                  have g4 : hh 37 (hh 55 i9) = T 4 (h 55 i9) := by rw [uu, fz _ (by decide) (by decide)]; exact (hV.2.1 _ ub.1 ub.2.1).1
                  refine E_cp (x := (.invokevirtual 103, 2, [(5, 64)], [0])) (q := fun r1 h9 => ((r1 = 1 ∧ (hh 37 (hh 55 i9) + 3 ≤ bs - 1)) ∨ (r1 = 0 ∧ ¬ (hh 37 (hh 55 i9) + 3 ≤ bs - 1))) ∧ hh = h9) rfl rfl (Nat.le_of_ble_eq_true rfl) (c_mayDo (d + 3) 0 hh (hh 55 i9) (bs - 1) ⟨by rw [uu]; omega, by rw [uu]; omega⟩ ⟨by rw [g4]; omega, by rw [g4]; omega⟩ ⟨by omega, by omega⟩ (fun z => ⟨_, rfl, Or.inl ⟨rfl, z⟩, rfl⟩) (fun z => ⟨_, rfl, Or.inr ⟨rfl, z⟩, rfl⟩)) (fun r1 h9 q1 => ?_)
                  obtain ⟨q1, rfl⟩ := q1
                  show xEx G0 cdX7_sizeOf (some .int) (xRn G0 MT (d + 4)) Q b 63 [some (.inr (.inr 44)), some (.inl set), some (.inl 2), some (.inl 1), some (.inl bs), some (.inl i9), v6] [.inl r1] hh
                  refine E_b (x := (.ifCond .eq 35, 80, [], [])) rfl rfl (fun c63 => ?_) (fun c63 => ?_)
                  · rw [c_eq (by first | assumption | (refine ⟨?_, ?_⟩ <;> omega) | (simp only [xr] at *; omega)) (by first | assumption | (refine ⟨?_, ?_⟩ <;> omega) | (simp only [xr] at *; omega))] at c63
                    simp only [decide_eq_true_eq, decide_eq_false_iff_not, Decidable.not_not] at c63
                    show xEx G0 cdX7_sizeOf (some .int) (xRn G0 MT (d + 4)) Q b 80 [some (.inr (.inr 44)), some (.inl set), some (.inl 2), some (.inl 1), some (.inl bs), some (.inl i9), v6] [] hh
                    have hfin : bs = szf S T (S 0 0) (T 0 0) p 2 set := by
                      show bs = stpf T p (szf S T (S 0 0) (T 0 0) p 1) (sz0 S (S 0 0) p set) set (T 0 0).toNat
                      first
                      | (rw [hbs]; unfold unx; rw [if_neg (by omega)])
                      | (rw [us_x hV.1 hV.2.2.2.2.2.2 hi0 (by omega) (fun s => (szf_r (p := p) hV.1 1 s).1) (by rw [← hbu]; have := o0 q1 (by omega); rw [g4] at this; omega)]; exact hbu)
                    have r4 := ir4 hV.1.1 hs
                    refine E_s 1 (i' := 81) (ls' := [some (.inr (.inr 44)), some (.inl set), some (.inl 2), some (.inl 1), some (.inl bs), some (.inl i9), v6]) (sk' := [.inl 1]) (h' := hh) rfl ?_
                    refine E_b (x := (.ifCond .eq 13, 89, [], [])) rfl rfl (fun c81 => ?_) (fun c81 => ?_)
                    · show xEx G0 cdX7_sizeOf (some .int) (xRn G0 MT (d + 4)) Q b 89 [some (.inr (.inr 44)), some (.inl set), some (.inl 2), some (.inl 1), some (.inl bs), some (.inl i9), v6] [] hh
                      exact absurd c81 (by decide)
                    · show xEx G0 cdX7_sizeOf (some .int) (xRn G0 MT (d + 4)) Q b 82 [some (.inr (.inr 44)), some (.inl set), some (.inl 2), some (.inl 1), some (.inl bs), some (.inl i9), v6] [] hh
                      refine E_s 3 (i' := 85) (ls' := [some (.inr (.inr 44)), some (.inl set), some (.inl 2), some (.inl 1), some (.inl bs), some (.inl i9), v6]) (sk' := [.inl 2, .inr (.inr 46)]) (h' := hh) rfl ?_
                      refine E_ald (x := (.aaload, 0, [], [])) 2 rfl rfl rfl (rfl) rfl ?_
                      show xEx G0 cdX7_sizeOf (some .int) (xRn G0 MT (d + 4)) Q b 86 [some (.inr (.inr 44)), some (.inl set), some (.inl 2), some (.inl 1), some (.inl bs), some (.inl i9), v6] [.inr (.inr 50)] hh
                      refine E_s 2 (i' := 88) (ls' := [some (.inr (.inr 44)), some (.inl set), some (.inl 2), some (.inl 1), some (.inl bs), some (.inl i9), v6]) (sk' := [.inl bs, .inl set, .inr (.inr 50)]) (h' := hh) rfl ?_
                      refine E_sd (x := (.iastore, 0, [], [])) (ty := .int) (n := 4096) (y := bs) rfl rfl rfl (by omega) (by omega) (trivial) ?_
                      show xEx G0 cdX7_sizeOf (some .int) (xRn G0 MT (d + 4)) Q b 89 [some (.inr (.inr 44)), some (.inl set), some (.inl 2), some (.inl 1), some (.inl bs), some (.inl i9), v6] [] (xup hh 50 set bs)
                      refine E_s 1 (i' := 90) (ls' := [some (.inr (.inr 44)), some (.inl set), some (.inl 2), some (.inl 1), some (.inl bs), some (.inl i9), v6]) (sk' := [.inl bs]) (h' := (xup hh 50 set bs)) rfl ?_
                      exact E_ret (x := (.ireturn, 0, [], [])) (v := some (.inl bs)) rfl (Or.inl rfl) (by
                        have r9 := hQ _ (fz.up (Or.inr rfl)) (SVM_2 hm bs hfin)
                        rw [← hfin] at r9
                        exact r9)
                  · rw [c_eq (by first | assumption | (refine ⟨?_, ?_⟩ <;> omega) | (simp only [xr] at *; omega)) (by first | assumption | (refine ⟨?_, ?_⟩ <;> omega) | (simp only [xr] at *; omega))] at c63
                    simp only [decide_eq_true_eq, decide_eq_false_iff_not, Decidable.not_not] at c63
                    show xEx G0 cdX7_sizeOf (some .int) (xRn G0 MT (d + 4)) Q b 64 [some (.inr (.inr 44)), some (.inl set), some (.inl 2), some (.inl 1), some (.inl bs), some (.inl i9), v6] [] hh
                    refine E_s 4 (i' := 68) (ls' := [some (.inr (.inr 44)), some (.inl set), some (.inl 2), some (.inl 1), some (.inl bs), some (.inl i9), v6]) (sk' := [.inl i9, .inr (.inr 55), .inr (.inr 44)]) (h' := hh) rfl ?_
                    refine E_ld (x := (.iaload, 0, [], [])) (ty := .int) (n := 150) rfl rfl rfl (by omega) (by omega) ?_
                    show xEx G0 cdX7_sizeOf (some .int) (xRn G0 MT (d + 4)) Q b 69 [some (.inr (.inr 44)), some (.inl set), some (.inl 2), some (.inl 1), some (.inl bs), some (.inl i9), v6] [.inl (hh 55 i9), .inr (.inr 44)] hh
                    refine E_s 2 (i' := 71) (ls' := [some (.inr (.inr 44)), some (.inl set), some (.inl 2), some (.inl 1), some (.inl bs), some (.inl i9), v6]) (sk' := [.inl 2, .inl set, .inl (hh 55 i9), .inr (.inr 44)]) (h' := hh) rfl ?_
                    refine E_cp (x := (.invokevirtual 106, 3, [(5, 65)], [0])) (q := fun r h9 => r = swf T (szf S T (S 0 0) (T 0 0) p 1) set (hh 55 i9) ∧ FZ hh h9 ∧ SVM h9 S T p m) rfl rfl (Nat.le_of_ble_eq_true rfl) (c_szW2 d 0 hh S T p set m (hh 55 i9) (SVF_z fz hV) hm hs ⟨by rw [uu]; omega, by rw [uu]; omega⟩ (fun h9 z1 z2 => ⟨_, rfl, rfl, z1, z2⟩)) (fun r2 h2 hq2 => ?_)
                    obtain ⟨e2, f2, m2⟩ := hq2
                    rw [uu] at e2
                    have sr := swf_r (T := T) (f := (szf S T (S 0 0) (T 0 0) p 1)) (set := set) (t := (h 55 i9)) ⟨by omega, by omega⟩ (szf_r (p := p) hV.1 1)
                    have sl := swf_lt (T := T) (p := p) (f := (szf S T (S 0 0) (T 0 0) p 1)) (set := set) (b := bs) ub.2.2 (by omega) (szf_r (p := p) hV.1 1) (by omega)
                    show xEx G0 cdX7_sizeOf (some .int) (xRn G0 MT (d + 4)) Q b 72 [some (.inr (.inr 44)), some (.inl set), some (.inl 2), some (.inl 1), some (.inl bs), some (.inl i9), v6] [.inl r2] h2
                    refine E_s 3 (i' := 75) (ls' := [some (.inr (.inr 44)), some (.inl set), some (.inl 2), some (.inl 1), some (.inl bs), some (.inl i9), some (.inl r2)]) (sk' := [.inl bs, .inl r2]) (h' := h2) rfl ?_
                    refine E_b (x := (.if_icmp .ge 7, 78, [], [])) rfl rfl (fun c75 => ?_) (fun c75 => ?_)
                    · rw [c_ge (by first | assumption | (refine ⟨?_, ?_⟩ <;> omega) | (simp only [xr] at *; omega)) (by first | assumption | (refine ⟨?_, ?_⟩ <;> omega) | (simp only [xr] at *; omega))] at c75
                      simp only [decide_eq_true_eq, decide_eq_false_iff_not, Decidable.not_not] at c75
                      show xEx G0 cdX7_sizeOf (some .int) (xRn G0 MT (d + 4)) Q b 78 [some (.inr (.inr 44)), some (.inl set), some (.inl 2), some (.inl 1), some (.inl bs), some (.inl i9), some (.inl r2)] [] h2
                      refine E_s 2 (i' := 50) (ls' := [some (.inr (.inr 44)), some (.inl set), some (.inl 2), some (.inl 1), some (.inl bs), some (.inl (i9 + 1)), some (.inl r2)]) (sk' := []) (h' := h2) rfl ?_
                      exact ih50 _ (i9 + 1) (bs) _ (by omega) (by omega) (fz.tr f2) m2 (by
                        rw [us_s hV.2.2.2.2.2.2 hi0 (by omega), stpf_n ub.1 (by rw [← hbu, ← sl, ← e2]; omega), ← hbu]) (by omega)
                    · rw [c_ge (by first | assumption | (refine ⟨?_, ?_⟩ <;> omega) | (simp only [xr] at *; omega)) (by first | assumption | (refine ⟨?_, ?_⟩ <;> omega) | (simp only [xr] at *; omega))] at c75
                      simp only [decide_eq_true_eq, decide_eq_false_iff_not, Decidable.not_not] at c75
                      show xEx G0 cdX7_sizeOf (some .int) (xRn G0 MT (d + 4)) Q b 76 [some (.inr (.inr 44)), some (.inl set), some (.inl 2), some (.inl 1), some (.inl bs), some (.inl i9), some (.inl r2)] [] h2
                      refine E_s 4 (i' := 50) (ls' := [some (.inr (.inr 44)), some (.inl set), some (.inl 2), some (.inl 1), some (.inl r2), some (.inl (i9 + 1)), some (.inl r2)]) (sk' := []) (h' := h2) rfl ?_
                      exact ih50 _ (i9 + 1) (r2) _ (by omega) (by omega) (fz.tr f2) m2 (by
                        rw [us_s hV.2.2.2.2.2.2 hi0 (by omega)]
                        have y9 := sl.mp (by rw [← e2]; omega)
                        rw [stpf_y ub.1 (by rw [← hbu]; exact y9), e2]
                        have y8 := (swf_eq (T := T) (p := p) (f := (szf S T (S 0 0) (T 0 0) p 1)) (set := set) (t := (h 55 i9)) (b := swf T (szf S T (S 0 0) (T 0 0) p 1) set (h 55 i9)) ub.2.2 (by omega) (szf_r (p := p) hV.1 1) (by rw [← e2]; omega)).mp rfl
                        exact y8.2.symm) (by omega)
            exact key50 _ h 0 _ none (by omega) hV.2.2.2.2.2.2.1 (FZ.rf h) hM (by rw [us_0 hV.2.2.2.2.2.2]; exact e0) (Nat.lt_succ_self _)
          · rw [c_eq (by first | exact xand_r _ _ | exact ⟨by omega, by omega⟩) (by first | exact xand_r _ _ | exact ⟨by omega, by omega⟩)] at c45
            simp only [decide_eq_true_eq, decide_eq_false_iff_not, Decidable.not_not] at c45
            show xEx G0 cdX7_sizeOf (some .int) (xRn G0 MT (d + 4)) Q b 46 [some (.inr (.inr 44)), some (.inl set), some (.inl 2), some (.inl 1), some (.inl (h 48 set)), none, none] [] h
            refine E_s 1 (i' := 47) (ls' := [some (.inr (.inr 44)), some (.inl set), some (.inl 2), some (.inl 1), some (.inl (h 48 set)), none, none]) (sk' := [.inl (h 48 set)]) (h' := h) rfl ?_
            exact E_ret (x := (.ireturn, 0, [], [])) (v := some (.inl (h 48 set))) rfl (Or.inl rfl) (by
              have r9 := hQ h (FZ.rf h) hM
              obtain ⟨e, u1, u2⟩ := hV.2.2.2.2.2.1 set hs c45
              have s1 := szf_un hV.1 u2 0 set hs u1
              have s2 := szf_un hV.1 u2 2 set hs u1
              have s1 : sz0 S (S 0 0) p set = 1000000 := s1
              rw [s2, ← s1, ← e0] at r9
              exact r9)
        · rw [c_eq (by first | assumption | (refine ⟨?_, ?_⟩ <;> omega) | (simp only [xr] at *; omega)) (by first | assumption | (refine ⟨?_, ?_⟩ <;> omega) | (simp only [xr] at *; omega))] at c24
          simp only [decide_eq_true_eq, decide_eq_false_iff_not, Decidable.not_not] at c24
          show xEx G0 cdX7_sizeOf (some .int) (xRn G0 MT (d + 4)) Q b 25 [some (.inr (.inr 44)), some (.inl set), some (.inl 2), some (.inl 1), none, none, none] [] h
          have e9 : h 50 set = szf S T (S 0 0) (T 0 0) p 2 set := by omega
          refine E_s 3 (i' := 28) (ls' := [some (.inr (.inr 44)), some (.inl set), some (.inl 2), some (.inl 1), none, none, none]) (sk' := [.inl 2, .inr (.inr 46)]) (h' := h) rfl ?_
          refine E_ald (x := (.aaload, 0, [], [])) 2 rfl rfl rfl (rfl) rfl ?_
          show xEx G0 cdX7_sizeOf (some .int) (xRn G0 MT (d + 4)) Q b 29 [some (.inr (.inr 44)), some (.inl set), some (.inl 2), some (.inl 1), none, none, none] [.inr (.inr 50)] h
          refine E_s 1 (i' := 30) (ls' := [some (.inr (.inr 44)), some (.inl set), some (.inl 2), some (.inl 1), none, none, none]) (sk' := [.inl set, .inr (.inr 50)]) (h' := h) rfl ?_
          refine E_ld (x := (.iaload, 0, [], [])) (ty := .int) (n := 4096) rfl rfl rfl (by omega) (by omega) ?_
          show xEx G0 cdX7_sizeOf (some .int) (xRn G0 MT (d + 4)) Q b 31 [some (.inr (.inr 44)), some (.inl set), some (.inl 2), some (.inl 1), none, none, none] [.inl (h 50 set)] h
          exact E_ret (x := (.ireturn, 0, [], [])) (v := some (.inl (h 50 set))) rfl (Or.inl rfl) (by
            have r9 := hQ h (FZ.rf h) hM
            rw [← e9] at r9
            exact r9)
  · show xEx G0 cdX7_sizeOf (some .int) (xRn G0 MT (d + 4)) Q b 2 [some (.inr (.inr 44)), some (.inl set), some (.inl 2), none, none, none, none] [] h
    exact absurd c1 (by decide)
set_option maxHeartbeats 1000000 in
theorem c_szW3 (d b : Nat) (h S T : xH) (p set : Int) (m : Nat) (t : Int) (hV : SVF h S T p m) (hM : SVM h S T p m) (hs : ir m set) (ht : 0 ≤ t ∧ t < T 0 0) {Q : xO → xH → Prop} (hQ : ∀ h', FZ h h' → SVM h' S T p m → Q (.inl (some (.inl (swf T (szf S T (S 0 0) (T 0 0) p 2) set t)))) h') : xRn G0 MT (d + 6) b 65 [.inr (.inr 44), .inl t, .inl set, .inl 3] h Q := by
  refine R_of (M := mX7_sizeWith) rfl (Nat.le_of_ble_eq_true rfl) ?_
  show xEx G0 cdX7_sizeWith (some .int) (xRn G0 MT (d + 5)) Q b 0 [some (.inr (.inr 44)), some (.inl t), some (.inl set), some (.inl 3), none, none, none] [] h
  have t6 := (hV.2.1 t ht.1 ht.2).2
  have o4 := hV.1.2.2.2.2 t ht.1 ht.2
  have hm12 := hV.1.1
  have is1 : ir m (xand set (h 39 t)) := by rw [t6]; exact xa_r hm12 hs o4.2.1
  have is2 : ir m (xxor set (xand set (h 39 t))) := xx_r hm12 hs is1
  have r4 := ir4 hm12 hs
  have r41 := ir4 hm12 is1
  have uk := hV.1.2.2.1
  refine E_s 5 (i' := 5) (ls' := [some (.inr (.inr 44)), some (.inl t), some (.inl set), some (.inl 3), none, none, none]) (sk' := [.inl t, .inr (.inr 39), .inl set]) (h' := h) rfl ?_
  refine E_ld (x := (.iaload, 0, [], [])) (ty := .int) (n := 150) rfl rfl rfl (by omega) (by omega) ?_
  show xEx G0 cdX7_sizeWith (some .int) (xRn G0 MT (d + 5)) Q b 6 [some (.inr (.inr 44)), some (.inl t), some (.inl set), some (.inl 3), none, none, none] [.inl (h 39 t), .inl set] h
  refine E_s 3 (i' := 9) (ls' := [some (.inr (.inr 44)), some (.inl t), some (.inl set), some (.inl 3), some (.inl (xand set (h 39 t))), none, none]) (sk' := [.inl (xand set (h 39 t))]) (h' := h) rfl ?_
  refine E_b (x := (.ifCond .eq 9, 13, [], [])) rfl rfl (fun c9 => ?_) (fun c9 => ?_)
  · rw [c_eq (by first | assumption | (refine ⟨?_, ?_⟩ <;> omega) | (simp only [xr] at *; omega)) (by first | assumption | (refine ⟨?_, ?_⟩ <;> omega) | (simp only [xr] at *; omega))] at c9
    simp only [decide_eq_true_eq, decide_eq_false_iff_not, Decidable.not_not] at c9
    show xEx G0 cdX7_sizeWith (some .int) (xRn G0 MT (d + 5)) Q b 13 [some (.inr (.inr 44)), some (.inl t), some (.inl set), some (.inl 3), some (.inl (xand set (h 39 t))), none, none] [] h
    refine E_s 1 (i' := 14) (ls' := [some (.inr (.inr 44)), some (.inl t), some (.inl set), some (.inl 3), some (.inl (xand set (h 39 t))), none, none]) (sk' := [.inl 1000000]) (h' := h) rfl ?_
    exact E_ret (x := (.ireturn, 0, [], [])) (v := some (.inl 1000000)) rfl (Or.inl rfl) (by
      have e9 : swf T (szf S T (S 0 0) (T 0 0) p 2) set t = 1000000 := by
        unfold swf
        rw [← t6]
        rw [if_pos (by first | exact Or.inl c9 | exact Or.inr (Or.inl c12))]
      have r9 := hQ _ (FZ.rf h) hM
      rw [e9] at r9
      exact r9)
  · rw [c_eq (by first | assumption | (refine ⟨?_, ?_⟩ <;> omega) | (simp only [xr] at *; omega)) (by first | assumption | (refine ⟨?_, ?_⟩ <;> omega) | (simp only [xr] at *; omega))] at c9
    simp only [decide_eq_true_eq, decide_eq_false_iff_not, Decidable.not_not] at c9
    show xEx G0 cdX7_sizeWith (some .int) (xRn G0 MT (d + 5)) Q b 10 [some (.inr (.inr 44)), some (.inl t), some (.inl set), some (.inl 3), some (.inl (xand set (h 39 t))), none, none] [] h
    refine E_s 2 (i' := 12) (ls' := [some (.inr (.inr 44)), some (.inl t), some (.inl set), some (.inl 3), some (.inl (xand set (h 39 t))), none, none]) (sk' := [.inl set, .inl (xand set (h 39 t))]) (h' := h) rfl ?_
    refine E_b (x := (.if_icmp .ne 6, 15, [], [])) rfl rfl (fun c12 => ?_) (fun c12 => ?_)
    · rw [c_ne (by first | assumption | (refine ⟨?_, ?_⟩ <;> omega) | (simp only [xr] at *; omega)) (by first | assumption | (refine ⟨?_, ?_⟩ <;> omega) | (simp only [xr] at *; omega))] at c12
      simp only [decide_eq_true_eq, decide_eq_false_iff_not, Decidable.not_not] at c12
      show xEx G0 cdX7_sizeWith (some .int) (xRn G0 MT (d + 5)) Q b 15 [some (.inr (.inr 44)), some (.inl t), some (.inl set), some (.inl 3), some (.inl (xand set (h 39 t))), none, none] [] h
      refine E_s 5 (i' := 20) (ls' := [some (.inr (.inr 44)), some (.inl t), some (.inl set), some (.inl 3), some (.inl (xand set (h 39 t))), none, none]) (sk' := [.inl 2, .inl (xand set (h 39 t)), .inr (.inr 44)]) (h' := h) rfl ?_
      refine E_cp (x := (.invokevirtual 99, 2, [(5, 63)], [0])) (q := fun r h9 => r = szf S T (S 0 0) (T 0 0) p 2 (xand set (h 39 t)) ∧ FZ h h9 ∧ SVM h9 S T p m) rfl rfl (Nat.le_of_ble_eq_true rfl) (c_szO2 d 0 h S T p (xand set (h 39 t)) m hV hM is1 (fun h9 z1 z2 => ⟨_, rfl, rfl, z1, z2⟩)) (fun r1 h1 hq1 => ?_)
      obtain ⟨e1, f1, m1⟩ := hq1
      have a1 := szf_r (p := p) hV.1 2 (xand set (h 39 t))
      show xEx G0 cdX7_sizeWith (some .int) (xRn G0 MT (d + 5)) Q b 21 [some (.inr (.inr 44)), some (.inl t), some (.inl set), some (.inl 3), some (.inl (xand set (h 39 t))), none, none] [.inl r1] h1
      refine E_s 3 (i' := 24) (ls' := [some (.inr (.inr 44)), some (.inl t), some (.inl set), some (.inl 3), some (.inl (xand set (h 39 t))), some (.inl r1), none]) (sk' := [.inl 1000000, .inl r1]) (h' := h1) rfl ?_
      refine E_b (x := (.if_icmp .ne 6, 27, [], [])) rfl rfl (fun c24 => ?_) (fun c24 => ?_)
      · rw [c_ne (by first | assumption | (refine ⟨?_, ?_⟩ <;> omega) | (simp only [xr] at *; omega)) (by first | assumption | (refine ⟨?_, ?_⟩ <;> omega) | (simp only [xr] at *; omega))] at c24
        simp only [decide_eq_true_eq, decide_eq_false_iff_not, Decidable.not_not] at c24
        show xEx G0 cdX7_sizeWith (some .int) (xRn G0 MT (d + 5)) Q b 27 [some (.inr (.inr 44)), some (.inl t), some (.inl set), some (.inl 3), some (.inl (xand set (h 39 t))), some (.inl r1), none] [] h1
        refine E_s 7 (i' := 34) (ls' := [some (.inr (.inr 44)), some (.inl t), some (.inl set), some (.inl 3), some (.inl (xand set (h 39 t))), some (.inl r1), none]) (sk' := [.inl 2, .inl (xxor set (xand set (h 39 t))), .inr (.inr 44)]) (h' := h1) rfl ?_
        refine E_cp (x := (.invokevirtual 99, 2, [(5, 63)], [0])) (q := fun r h9 => r = szf S T (S 0 0) (T 0 0) p 2 (xxor set (xand set (h 39 t))) ∧ FZ h1 h9 ∧ SVM h9 S T p m) rfl rfl (Nat.le_of_ble_eq_true rfl) (c_szO2 d 0 h1 S T p (xxor set (xand set (h 39 t))) m (SVF_z f1 hV) m1 is2 (fun h9 z1 z2 => ⟨_, rfl, rfl, z1, z2⟩)) (fun r2 h2 hq2 => ?_)
        obtain ⟨e2, f2, m2⟩ := hq2
        show xEx G0 cdX7_sizeWith (some .int) (xRn G0 MT (d + 5)) Q b 35 [some (.inr (.inr 44)), some (.inl t), some (.inl set), some (.inl 3), some (.inl (xand set (h 39 t))), some (.inl r1), none] [.inl r2] h2
        have a2 := szf_r (p := p) hV.1 2 (xxor set (xand set (h 39 t)))
        refine E_s 3 (i' := 38) (ls' := [some (.inr (.inr 44)), some (.inl t), some (.inl set), some (.inl 3), some (.inl (xand set (h 39 t))), some (.inl r1), some (.inl r2)]) (sk' := [.inl 1000000, .inl r2]) (h' := h2) rfl ?_
        refine E_b (x := (.if_icmp .ne 8, 41, [], [])) rfl rfl (fun c38 => ?_) (fun c38 => ?_)
        · rw [c_ne (by first | assumption | (refine ⟨?_, ?_⟩ <;> omega) | (simp only [xr] at *; omega)) (by first | assumption | (refine ⟨?_, ?_⟩ <;> omega) | (simp only [xr] at *; omega))] at c38
          simp only [decide_eq_true_eq, decide_eq_false_iff_not, Decidable.not_not] at c38
          show xEx G0 cdX7_sizeWith (some .int) (xRn G0 MT (d + 5)) Q b 41 [some (.inr (.inr 44)), some (.inl t), some (.inl set), some (.inl 3), some (.inl (xand set (h 39 t))), some (.inl r1), some (.inl r2)] [] h2
          refine E_s 4 (i' := 45) (ls' := [some (.inr (.inr 44)), some (.inl t), some (.inl set), some (.inl 3), some (.inl (xand set (h 39 t))), some (.inl r1), some (.inl r2)]) (sk' := [.inl t, .inr (.inr 37)]) (h' := h2) rfl ?_
          refine E_ld (x := (.iaload, 0, [], [])) (ty := .int) (n := 150) rfl rfl rfl (by omega) (by omega) ?_
          show xEx G0 cdX7_sizeWith (some .int) (xRn G0 MT (d + 5)) Q b 46 [some (.inr (.inr 44)), some (.inl t), some (.inl set), some (.inl 3), some (.inl (xand set (h 39 t))), some (.inl r1), some (.inl r2)] [.inl (h2 37 t)] h2
          refine E_s 6 (i' := 52) (ls' := [some (.inr (.inr 44)), some (.inl t), some (.inl set), some (.inl 3), some (.inl (xand set (h 39 t))), some (.inl r1), some (.inl r2)]) (sk' := [.inl ((((h2 37 t) + 1) + r1) + r2)]) (h' := h2) rfl ?_
          exact E_ret (x := (.ireturn, 0, [], [])) (v := some (.inl ((((h2 37 t) + 1) + r1) + r2))) rfl (Or.inl rfl) (by
            have e9 : swf T (szf S T (S 0 0) (T 0 0) p 2) set t = (((h2 37 t) + 1) + r1) + r2 := by
              unfold swf
              rw [← t6]
              rw [if_neg (by
              rintro (y | y | y | y)
              · exact c9 y
              · exact c12 y
              · omega
              · omega), ← e1, ← e2, ← (hV.2.1 t ht.1 ht.2).1]
              rw [f2 _ (by decide) (by decide), f1 _ (by decide) (by decide)]
            have r9 := hQ _ (f1.tr f2) m2
            rw [e9] at r9
            exact r9)
        · rw [c_ne (by first | assumption | (refine ⟨?_, ?_⟩ <;> omega) | (simp only [xr] at *; omega)) (by first | assumption | (refine ⟨?_, ?_⟩ <;> omega) | (simp only [xr] at *; omega))] at c38
          simp only [decide_eq_true_eq, decide_eq_false_iff_not, Decidable.not_not] at c38
          show xEx G0 cdX7_sizeWith (some .int) (xRn G0 MT (d + 5)) Q b 39 [some (.inr (.inr 44)), some (.inl t), some (.inl set), some (.inl 3), some (.inl (xand set (h 39 t))), some (.inl r1), some (.inl r2)] [] h2
          refine E_s 2 (i' := 52) (ls' := [some (.inr (.inr 44)), some (.inl t), some (.inl set), some (.inl 3), some (.inl (xand set (h 39 t))), some (.inl r1), some (.inl r2)]) (sk' := [.inl 1000000]) (h' := h2) rfl ?_
          exact E_ret (x := (.ireturn, 0, [], [])) (v := some (.inl 1000000)) rfl (Or.inl rfl) (by
            have e9 : swf T (szf S T (S 0 0) (T 0 0) p 2) set t = 1000000 := by
              unfold swf
              rw [← t6]
              rw [if_pos (Or.inr (Or.inr (Or.inr (by omega))))]
            have r9 := hQ _ (f1.tr f2) m2
            rw [e9] at r9
            exact r9)
      · rw [c_ne (by first | assumption | (refine ⟨?_, ?_⟩ <;> omega) | (simp only [xr] at *; omega)) (by first | assumption | (refine ⟨?_, ?_⟩ <;> omega) | (simp only [xr] at *; omega))] at c24
        simp only [decide_eq_true_eq, decide_eq_false_iff_not, Decidable.not_not] at c24
        show xEx G0 cdX7_sizeWith (some .int) (xRn G0 MT (d + 5)) Q b 25 [some (.inr (.inr 44)), some (.inl t), some (.inl set), some (.inl 3), some (.inl (xand set (h 39 t))), some (.inl r1), none] [] h1
        refine E_s 1 (i' := 26) (ls' := [some (.inr (.inr 44)), some (.inl t), some (.inl set), some (.inl 3), some (.inl (xand set (h 39 t))), some (.inl r1), none]) (sk' := [.inl 1000000]) (h' := h1) rfl ?_
        exact E_ret (x := (.ireturn, 0, [], [])) (v := some (.inl 1000000)) rfl (Or.inl rfl) (by
          have e9 : swf T (szf S T (S 0 0) (T 0 0) p 2) set t = 1000000 := by
            unfold swf
            rw [← t6]
            rw [if_pos (Or.inr (Or.inr (Or.inl (by omega))))]
          have r9 := hQ _ f1 m1
          rw [e9] at r9
          exact r9)
    · rw [c_ne (by first | assumption | (refine ⟨?_, ?_⟩ <;> omega) | (simp only [xr] at *; omega)) (by first | assumption | (refine ⟨?_, ?_⟩ <;> omega) | (simp only [xr] at *; omega))] at c12
      simp only [decide_eq_true_eq, decide_eq_false_iff_not, Decidable.not_not] at c12
      show xEx G0 cdX7_sizeWith (some .int) (xRn G0 MT (d + 5)) Q b 13 [some (.inr (.inr 44)), some (.inl t), some (.inl set), some (.inl 3), some (.inl (xand set (h 39 t))), none, none] [] h
      refine E_s 1 (i' := 14) (ls' := [some (.inr (.inr 44)), some (.inl t), some (.inl set), some (.inl 3), some (.inl (xand set (h 39 t))), none, none]) (sk' := [.inl 1000000]) (h' := h) rfl ?_
      exact E_ret (x := (.ireturn, 0, [], [])) (v := some (.inl 1000000)) rfl (Or.inl rfl) (by
        have e9 : swf T (szf S T (S 0 0) (T 0 0) p 2) set t = 1000000 := by
          unfold swf
          rw [← t6]
          rw [if_pos (by first | exact Or.inl c9 | exact Or.inr (Or.inl c12))]
        have r9 := hQ _ (FZ.rf h) hM
        rw [e9] at r9
        exact r9)
set_option maxHeartbeats 1000000 in
theorem c_szO3 (d b : Nat) (h S T : xH) (p set : Int) (m : Nat) (hV : SVF h S T p m) (hM : SVM h S T p m) (hs : ir m set) {Q : xO → xH → Prop} (hQ : ∀ h', FZ h h' → SVM h' S T p m → Q (.inl (some (.inl (szf S T (S 0 0) (T 0 0) p 3 set)))) h') : xRn G0 MT (d + 7) b 63 [.inr (.inr 44), .inl set, .inl 3] h Q := by
  refine R_of (M := mX7_sizeOf) rfl (Nat.le_of_ble_eq_true rfl) ?_
  show xEx G0 cdX7_sizeOf (some .int) (xRn G0 MT (d + 6)) Q b 0 [some (.inr (.inr 44)), some (.inl set), some (.inl 3), none, none, none, none] [] h
  have r4 := ir4 hV.1.1 hs
  have e0 : h 48 set = (sz0 S (S 0 0) p set) := (hV.2.2.2.1 set hs).2
  have z0 := sz0_r (p := p) hV.1 set
  have zi := szf_r (p := p) hV.1 3 set
  have hM9 := (hM set hs).2
  refine E_s 1 (i' := 1) (ls' := [some (.inr (.inr 44)), some (.inl set), some (.inl 3), none, none, none, none]) (sk' := [.inl 3]) (h' := h) rfl ?_
  refine E_b (x := (.ifCond .gt 12, 9, [], [])) rfl rfl (fun c1 => ?_) (fun c1 => ?_)
  · show xEx G0 cdX7_sizeOf (some .int) (xRn G0 MT (d + 6)) Q b 9 [some (.inr (.inr 44)), some (.inl set), some (.inl 3), none, none, none, none] [] h
    refine E_s 2 (i' := 11) (ls' := [some (.inr (.inr 44)), some (.inl set), some (.inl 3), none, none, none, none]) (sk' := [.inl 2, .inl 3]) (h' := h) rfl ?_
    refine E_b (x := (.if_icmp .gt 7, 14, [], [])) rfl rfl (fun c11 => ?_) (fun c11 => ?_)
    · show xEx G0 cdX7_sizeOf (some .int) (xRn G0 MT (d + 6)) Q b 14 [some (.inr (.inr 44)), some (.inl set), some (.inl 3), none, none, none, none] [] h
      refine E_s 3 (i' := 17) (ls' := [some (.inr (.inr 44)), some (.inl set), some (.inl 3), some (.inl 0), none, none, none]) (sk' := [.inl 0]) (h' := h) rfl ?_
      refine E_b (x := (.ifCond .eq 23, 32, [], [])) rfl rfl (fun c17 => ?_) (fun c17 => ?_)
      · show xEx G0 cdX7_sizeOf (some .int) (xRn G0 MT (d + 6)) Q b 32 [some (.inr (.inr 44)), some (.inl set), some (.inl 3), some (.inl 0), none, none, none] [] h
        refine E_s 3 (i' := 35) (ls' := [some (.inr (.inr 44)), some (.inl set), some (.inl 3), some (.inl 0), none, none, none]) (sk' := [.inl 0, .inr (.inr 46)]) (h' := h) rfl ?_
        refine E_ald (x := (.aaload, 0, [], [])) 0 rfl rfl rfl (rfl) rfl ?_
        show xEx G0 cdX7_sizeOf (some .int) (xRn G0 MT (d + 6)) Q b 36 [some (.inr (.inr 44)), some (.inl set), some (.inl 3), some (.inl 0), none, none, none] [.inr (.inr 48)] h
        refine E_s 1 (i' := 37) (ls' := [some (.inr (.inr 44)), some (.inl set), some (.inl 3), some (.inl 0), none, none, none]) (sk' := [.inl set, .inr (.inr 48)]) (h' := h) rfl ?_
        refine E_ld (x := (.iaload, 0, [], [])) (ty := .int) (n := 4096) rfl rfl rfl (by omega) (by omega) ?_
        show xEx G0 cdX7_sizeOf (some .int) (xRn G0 MT (d + 6)) Q b 38 [some (.inr (.inr 44)), some (.inl set), some (.inl 3), some (.inl 0), none, none, none] [.inl (h 48 set)] h
        refine E_s 7 (i' := 45) (ls' := [some (.inr (.inr 44)), some (.inl set), some (.inl 3), some (.inl 0), some (.inl (h 48 set)), none, none]) (sk' := [.inl (xand set (xxor (h 44 9) (-1)))]) (h' := h) rfl ?_
        refine E_b (x := (.ifCond .eq 6, 48, [], [])) rfl rfl (fun c45 => ?_) (fun c45 => ?_)
        · rw [c_eq (by first | exact xand_r _ _ | exact ⟨by omega, by omega⟩) (by first | exact xand_r _ _ | exact ⟨by omega, by omega⟩)] at c45
          simp only [decide_eq_true_eq, decide_eq_false_iff_not, Decidable.not_not] at c45
          show xEx G0 cdX7_sizeOf (some .int) (xRn G0 MT (d + 6)) Q b 48 [some (.inr (.inr 44)), some (.inl set), some (.inl 3), some (.inl 0), some (.inl (h 48 set)), none, none] [] h
          refine E_s 2 (i' := 50) (ls' := [some (.inr (.inr 44)), some (.inl set), some (.inl 3), some (.inl 0), some (.inl (h 48 set)), some (.inl 0), none]) (sk' := []) (h' := h) rfl ?_
          have key50 : ∀ (n : Nat) (hh : xH) (i9 bs : Int) (v6 : Option xV), (0 ≤ i9) → (i9 ≤ h 44 8) → (FZ h hh) → (SVM hh S T p m) → (bs = stpf T p (szf S T (S 0 0) (T 0 0) p 2) (sz0 S (S 0 0) p set) set (unx (T 0 0) (h 44 8) (h 55) i9).toNat) → ((h 44 8 - i9).toNat) < n → xEx G0 cdX7_sizeOf (some .int) (xRn G0 MT (d + 6)) Q b 50 [some (.inr (.inr 44)), some (.inl set), some (.inl 3), some (.inl 0), some (.inl bs), some (.inl i9), v6] [] hh := by
            intro n
            induction n with
            | zero => intro hh i9 bs v6 _ _ _ _ _ hm; exact absurd hm (Nat.not_lt_zero _)
            | succ n ih50 =>
              intro hh i9 bs v6 hi0 hi9 fz hm hbs hm50
              have ec : hh 44 8 = h 44 8 := by rw [fz _ (by decide) (by decide)]
              have bl : bs ≤ (sz0 S (S 0 0) p set) := by rw [hbs]; exact stpf_le _
              have uc := hV.2.2.2.2.2.2
              have ucb : 0 ≤ h 44 8 ∧ h 44 8 ≤ T 0 0 := ⟨uc.1, uc.2.1⟩
              have b1 : 1 ≤ bs := by
                rw [hbs]
                refine stpf_lo z0.1 _ (fun t z1 z2 hp => ?_)
                have un : unx (T 0 0) (h 44 8) (h 55) i9 ≤ T 0 0 := by
                  unfold unx
                  split
                  · have := uc.2.2.1 i9 hi0 (by omega); omega
                  · omega
                have o4 := (hV.1.2.2.2.2 t z1 (by omega)).1
                have x1 := (szf_r (p := p) hV.1 2 (xand set (T 6 t))).1
                have x2 := (szf_r (p := p) hV.1 2 (xxor set (xand set (T 6 t)))).1
                unfold szt
                omega
              have uk := hV.1.2.2.1
              refine E_s 3 (i' := 53) (ls' := [some (.inr (.inr 44)), some (.inl set), some (.inl 3), some (.inl 0), some (.inl bs), some (.inl i9), v6]) (sk' := [.inl (hh 44 8), .inl i9]) (h' := hh) rfl ?_
              refine E_b (x := (.if_icmp .ge 53, 80, [], [])) rfl rfl (fun c53 => ?_) (fun c53 => ?_)
              · rw [c_ge (by first | assumption | (refine ⟨?_, ?_⟩ <;> omega) | (simp only [xr] at *; omega)) (by first | assumption | (refine ⟨?_, ?_⟩ <;> omega) | (simp only [xr] at *; omega))] at c53
                simp only [decide_eq_true_eq, decide_eq_false_iff_not, Decidable.not_not] at c53
                show xEx G0 cdX7_sizeOf (some .int) (xRn G0 MT (d + 6)) Q b 80 [some (.inr (.inr 44)), some (.inl set), some (.inl 3), some (.inl 0), some (.inl bs), some (.inl i9), v6] [] hh
                have hfin : bs = szf S T (S 0 0) (T 0 0) p 3 set := by
                  show bs = stpf T p (szf S T (S 0 0) (T 0 0) p 2) (sz0 S (S 0 0) p set) set (T 0 0).toNat
                  first
                  | (rw [hbs]; unfold unx; rw [if_neg (by omega)])
                  | (rw [us_x hV.1 hV.2.2.2.2.2.2 hi0 (by omega) (fun s => (szf_r (p := p) hV.1 2 s).1) (by rw [← hbu]; have := o0 q1 (by omega); rw [g4] at this; omega)]; exact hbu)
                have r4 := ir4 hV.1.1 hs
                refine E_s 1 (i' := 81) (ls' := [some (.inr (.inr 44)), some (.inl set), some (.inl 3), some (.inl 0), some (.inl bs), some (.inl i9), v6]) (sk' := [.inl 0]) (h' := hh) rfl ?_
                refine E_b (x := (.ifCond .eq 13, 89, [], [])) rfl rfl (fun c81 => ?_) (fun c81 => ?_)
                · show xEx G0 cdX7_sizeOf (some .int) (xRn G0 MT (d + 6)) Q b 89 [some (.inr (.inr 44)), some (.inl set), some (.inl 3), some (.inl 0), some (.inl bs), some (.inl i9), v6] [] hh
                  refine E_s 1 (i' := 90) (ls' := [some (.inr (.inr 44)), some (.inl set), some (.inl 3), some (.inl 0), some (.inl bs), some (.inl i9), v6]) (sk' := [.inl bs]) (h' := hh) rfl ?_
                  exact E_ret (x := (.ireturn, 0, [], [])) (v := some (.inl bs)) rfl (Or.inl rfl) (by
                    have r9 := hQ _ fz hm
                    rw [← hfin] at r9
                    exact r9)
                · show xEx G0 cdX7_sizeOf (some .int) (xRn G0 MT (d + 6)) Q b 82 [some (.inr (.inr 44)), some (.inl set), some (.inl 3), some (.inl 0), some (.inl bs), some (.inl i9), v6] [] hh
                  exact absurd c81 (by decide)
              · rw [c_ge (by first | assumption | (refine ⟨?_, ?_⟩ <;> omega) | (simp only [xr] at *; omega)) (by first | assumption | (refine ⟨?_, ?_⟩ <;> omega) | (simp only [xr] at *; omega))] at c53
                simp only [decide_eq_true_eq, decide_eq_false_iff_not, Decidable.not_not] at c53
                show xEx G0 cdX7_sizeOf (some .int) (xRn G0 MT (d + 6)) Q b 54 [some (.inr (.inr 44)), some (.inl set), some (.inl 3), some (.inl 0), some (.inl bs), some (.inl i9), v6] [] hh
                have hbu : bs = stpf T p (szf S T (S 0 0) (T 0 0) p 2) (sz0 S (S 0 0) p set) set (h 55 i9).toNat := by
                  rw [hbs]
                  unfold unx
                  rw [if_pos (by omega)]
                refine E_s 4 (i' := 58) (ls' := [some (.inr (.inr 44)), some (.inl set), some (.inl 3), some (.inl 0), some (.inl bs), some (.inl i9), v6]) (sk' := [.inl i9, .inr (.inr 55), .inr (.inr 44)]) (h' := hh) rfl ?_
                refine E_ld (x := (.iaload, 0, [], [])) (ty := .int) (n := 150) rfl rfl rfl (by omega) (by omega) ?_
                show xEx G0 cdX7_sizeOf (some .int) (xRn G0 MT (d + 6)) Q b 59 [some (.inr (.inr 44)), some (.inl set), some (.inl 3), some (.inl 0), some (.inl bs), some (.inl i9), v6] [.inl (hh 55 i9), .inr (.inr 44)] hh
                refine E_s 3 (i' := 62) (ls' := [some (.inr (.inr 44)), some (.inl set), some (.inl 3), some (.inl 0), some (.inl bs), some (.inl i9), v6]) (sk' := [.inl (bs - 1), .inl (hh 55 i9), .inr (.inr 44)]) (h' := hh) rfl ?_
                have ub := hV.2.2.2.2.2.2.2.2.1 i9 hi0 (by omega)
                have uu : hh 55 i9 = h 55 i9 := by rw [fz _ (by decide) (by decide)]
                have o4 := hV.1.2.2.2.2 _ ub.1 ub.2.1
                have g4 : hh 37 (hh 55 i9) = T 4 (h 55 i9) := by rw [uu, fz _ (by decide) (by decide)]; exact (hV.2.1 _ ub.1 ub.2.1).1
                refine E_cp (x := (.invokevirtual 103, 2, [(5, 64)], [0])) (q := fun r1 h9 => ((r1 = 1 ∧ (hh 37 (hh 55 i9) + 3 ≤ bs - 1)) ∨ (r1 = 0 ∧ ¬ (hh 37 (hh 55 i9) + 3 ≤ bs - 1))) ∧ hh = h9) rfl rfl (Nat.le_of_ble_eq_true rfl) (c_mayDo (d + 5) 0 hh (hh 55 i9) (bs - 1) ⟨by rw [uu]; omega, by rw [uu]; omega⟩ ⟨by rw [g4]; omega, by rw [g4]; omega⟩ ⟨by omega, by omega⟩ (fun z => ⟨_, rfl, Or.inl ⟨rfl, z⟩, rfl⟩) (fun z => ⟨_, rfl, Or.inr ⟨rfl, z⟩, rfl⟩)) (fun r1 h9 q1 => ?_)
                obtain ⟨q1, rfl⟩ := q1
                show xEx G0 cdX7_sizeOf (some .int) (xRn G0 MT (d + 6)) Q b 63 [some (.inr (.inr 44)), some (.inl set), some (.inl 3), some (.inl 0), some (.inl bs), some (.inl i9), v6] [.inl r1] hh
                refine E_b (x := (.ifCond .eq 35, 80, [], [])) rfl rfl (fun c63 => ?_) (fun c63 => ?_)
                · rw [c_eq (by first | assumption | (refine ⟨?_, ?_⟩ <;> omega) | (simp only [xr] at *; omega)) (by first | assumption | (refine ⟨?_, ?_⟩ <;> omega) | (simp only [xr] at *; omega))] at c63
                  simp only [decide_eq_true_eq, decide_eq_false_iff_not, Decidable.not_not] at c63
                  show xEx G0 cdX7_sizeOf (some .int) (xRn G0 MT (d + 6)) Q b 80 [some (.inr (.inr 44)), some (.inl set), some (.inl 3), some (.inl 0), some (.inl bs), some (.inl i9), v6] [] hh
                  have hfin : bs = szf S T (S 0 0) (T 0 0) p 3 set := by
                    show bs = stpf T p (szf S T (S 0 0) (T 0 0) p 2) (sz0 S (S 0 0) p set) set (T 0 0).toNat
                    first
                    | (rw [hbs]; unfold unx; rw [if_neg (by omega)])
                    | (rw [us_x hV.1 hV.2.2.2.2.2.2 hi0 (by omega) (fun s => (szf_r (p := p) hV.1 2 s).1) (by rw [← hbu]; have := o0 q1 (by omega); rw [g4] at this; omega)]; exact hbu)
                  have r4 := ir4 hV.1.1 hs
                  refine E_s 1 (i' := 81) (ls' := [some (.inr (.inr 44)), some (.inl set), some (.inl 3), some (.inl 0), some (.inl bs), some (.inl i9), v6]) (sk' := [.inl 0]) (h' := hh) rfl ?_
                  refine E_b (x := (.ifCond .eq 13, 89, [], [])) rfl rfl (fun c81 => ?_) (fun c81 => ?_)
                  · show xEx G0 cdX7_sizeOf (some .int) (xRn G0 MT (d + 6)) Q b 89 [some (.inr (.inr 44)), some (.inl set), some (.inl 3), some (.inl 0), some (.inl bs), some (.inl i9), v6] [] hh
                    refine E_s 1 (i' := 90) (ls' := [some (.inr (.inr 44)), some (.inl set), some (.inl 3), some (.inl 0), some (.inl bs), some (.inl i9), v6]) (sk' := [.inl bs]) (h' := hh) rfl ?_
                    exact E_ret (x := (.ireturn, 0, [], [])) (v := some (.inl bs)) rfl (Or.inl rfl) (by
                      have r9 := hQ _ fz hm
                      rw [← hfin] at r9
                      exact r9)
                  · show xEx G0 cdX7_sizeOf (some .int) (xRn G0 MT (d + 6)) Q b 82 [some (.inr (.inr 44)), some (.inl set), some (.inl 3), some (.inl 0), some (.inl bs), some (.inl i9), v6] [] hh
                    exact absurd c81 (by decide)
                · rw [c_eq (by first | assumption | (refine ⟨?_, ?_⟩ <;> omega) | (simp only [xr] at *; omega)) (by first | assumption | (refine ⟨?_, ?_⟩ <;> omega) | (simp only [xr] at *; omega))] at c63
                  simp only [decide_eq_true_eq, decide_eq_false_iff_not, Decidable.not_not] at c63
                  show xEx G0 cdX7_sizeOf (some .int) (xRn G0 MT (d + 6)) Q b 64 [some (.inr (.inr 44)), some (.inl set), some (.inl 3), some (.inl 0), some (.inl bs), some (.inl i9), v6] [] hh
                  refine E_s 4 (i' := 68) (ls' := [some (.inr (.inr 44)), some (.inl set), some (.inl 3), some (.inl 0), some (.inl bs), some (.inl i9), v6]) (sk' := [.inl i9, .inr (.inr 55), .inr (.inr 44)]) (h' := hh) rfl ?_
                  refine E_ld (x := (.iaload, 0, [], [])) (ty := .int) (n := 150) rfl rfl rfl (by omega) (by omega) ?_
                  show xEx G0 cdX7_sizeOf (some .int) (xRn G0 MT (d + 6)) Q b 69 [some (.inr (.inr 44)), some (.inl set), some (.inl 3), some (.inl 0), some (.inl bs), some (.inl i9), v6] [.inl (hh 55 i9), .inr (.inr 44)] hh
                  refine E_s 2 (i' := 71) (ls' := [some (.inr (.inr 44)), some (.inl set), some (.inl 3), some (.inl 0), some (.inl bs), some (.inl i9), v6]) (sk' := [.inl 3, .inl set, .inl (hh 55 i9), .inr (.inr 44)]) (h' := hh) rfl ?_
                  refine E_cp (x := (.invokevirtual 106, 3, [(5, 65)], [0])) (q := fun r h9 => r = swf T (szf S T (S 0 0) (T 0 0) p 2) set (hh 55 i9) ∧ FZ hh h9 ∧ SVM h9 S T p m) rfl rfl (Nat.le_of_ble_eq_true rfl) (c_szW3 d 0 hh S T p set m (hh 55 i9) (SVF_z fz hV) hm hs ⟨by rw [uu]; omega, by rw [uu]; omega⟩ (fun h9 z1 z2 => ⟨_, rfl, rfl, z1, z2⟩)) (fun r2 h2 hq2 => ?_)
                  obtain ⟨e2, f2, m2⟩ := hq2
                  rw [uu] at e2
                  have sr := swf_r (T := T) (f := (szf S T (S 0 0) (T 0 0) p 2)) (set := set) (t := (h 55 i9)) ⟨by omega, by omega⟩ (szf_r (p := p) hV.1 2)
                  have sl := swf_lt (T := T) (p := p) (f := (szf S T (S 0 0) (T 0 0) p 2)) (set := set) (b := bs) ub.2.2 (by omega) (szf_r (p := p) hV.1 2) (by omega)
                  show xEx G0 cdX7_sizeOf (some .int) (xRn G0 MT (d + 6)) Q b 72 [some (.inr (.inr 44)), some (.inl set), some (.inl 3), some (.inl 0), some (.inl bs), some (.inl i9), v6] [.inl r2] h2
                  refine E_s 3 (i' := 75) (ls' := [some (.inr (.inr 44)), some (.inl set), some (.inl 3), some (.inl 0), some (.inl bs), some (.inl i9), some (.inl r2)]) (sk' := [.inl bs, .inl r2]) (h' := h2) rfl ?_
                  refine E_b (x := (.if_icmp .ge 7, 78, [], [])) rfl rfl (fun c75 => ?_) (fun c75 => ?_)
                  · rw [c_ge (by first | assumption | (refine ⟨?_, ?_⟩ <;> omega) | (simp only [xr] at *; omega)) (by first | assumption | (refine ⟨?_, ?_⟩ <;> omega) | (simp only [xr] at *; omega))] at c75
                    simp only [decide_eq_true_eq, decide_eq_false_iff_not, Decidable.not_not] at c75
                    show xEx G0 cdX7_sizeOf (some .int) (xRn G0 MT (d + 6)) Q b 78 [some (.inr (.inr 44)), some (.inl set), some (.inl 3), some (.inl 0), some (.inl bs), some (.inl i9), some (.inl r2)] [] h2
                    refine E_s 2 (i' := 50) (ls' := [some (.inr (.inr 44)), some (.inl set), some (.inl 3), some (.inl 0), some (.inl bs), some (.inl (i9 + 1)), some (.inl r2)]) (sk' := []) (h' := h2) rfl ?_
                    exact ih50 _ (i9 + 1) (bs) _ (by omega) (by omega) (fz.tr f2) m2 (by
                      rw [us_s hV.2.2.2.2.2.2 hi0 (by omega), stpf_n ub.1 (by rw [← hbu, ← sl, ← e2]; omega), ← hbu]) (by omega)
                  · rw [c_ge (by first | assumption | (refine ⟨?_, ?_⟩ <;> omega) | (simp only [xr] at *; omega)) (by first | assumption | (refine ⟨?_, ?_⟩ <;> omega) | (simp only [xr] at *; omega))] at c75
                    simp only [decide_eq_true_eq, decide_eq_false_iff_not, Decidable.not_not] at c75
                    show xEx G0 cdX7_sizeOf (some .int) (xRn G0 MT (d + 6)) Q b 76 [some (.inr (.inr 44)), some (.inl set), some (.inl 3), some (.inl 0), some (.inl bs), some (.inl i9), some (.inl r2)] [] h2
                    refine E_s 4 (i' := 50) (ls' := [some (.inr (.inr 44)), some (.inl set), some (.inl 3), some (.inl 0), some (.inl r2), some (.inl (i9 + 1)), some (.inl r2)]) (sk' := []) (h' := h2) rfl ?_
                    exact ih50 _ (i9 + 1) (r2) _ (by omega) (by omega) (fz.tr f2) m2 (by
                      rw [us_s hV.2.2.2.2.2.2 hi0 (by omega)]
                      have y9 := sl.mp (by rw [← e2]; omega)
                      rw [stpf_y ub.1 (by rw [← hbu]; exact y9), e2]
                      have y8 := (swf_eq (T := T) (p := p) (f := (szf S T (S 0 0) (T 0 0) p 2)) (set := set) (t := (h 55 i9)) (b := swf T (szf S T (S 0 0) (T 0 0) p 2) set (h 55 i9)) ub.2.2 (by omega) (szf_r (p := p) hV.1 2) (by rw [← e2]; omega)).mp rfl
                      exact y8.2.symm) (by omega)
          exact key50 _ h 0 _ none (by omega) hV.2.2.2.2.2.2.1 (FZ.rf h) hM (by rw [us_0 hV.2.2.2.2.2.2]; exact e0) (Nat.lt_succ_self _)
        · rw [c_eq (by first | exact xand_r _ _ | exact ⟨by omega, by omega⟩) (by first | exact xand_r _ _ | exact ⟨by omega, by omega⟩)] at c45
          simp only [decide_eq_true_eq, decide_eq_false_iff_not, Decidable.not_not] at c45
          show xEx G0 cdX7_sizeOf (some .int) (xRn G0 MT (d + 6)) Q b 46 [some (.inr (.inr 44)), some (.inl set), some (.inl 3), some (.inl 0), some (.inl (h 48 set)), none, none] [] h
          refine E_s 1 (i' := 47) (ls' := [some (.inr (.inr 44)), some (.inl set), some (.inl 3), some (.inl 0), some (.inl (h 48 set)), none, none]) (sk' := [.inl (h 48 set)]) (h' := h) rfl ?_
          exact E_ret (x := (.ireturn, 0, [], [])) (v := some (.inl (h 48 set))) rfl (Or.inl rfl) (by
            have r9 := hQ h (FZ.rf h) hM
            obtain ⟨e, u1, u2⟩ := hV.2.2.2.2.2.1 set hs c45
            have s1 := szf_un hV.1 u2 0 set hs u1
            have s2 := szf_un hV.1 u2 3 set hs u1
            have s1 : sz0 S (S 0 0) p set = 1000000 := s1
            rw [s2, ← s1, ← e0] at r9
            exact r9)
      · show xEx G0 cdX7_sizeOf (some .int) (xRn G0 MT (d + 6)) Q b 18 [some (.inr (.inr 44)), some (.inl set), some (.inl 3), some (.inl 0), none, none, none] [] h
        exact absurd c17 (by decide)
    · show xEx G0 cdX7_sizeOf (some .int) (xRn G0 MT (d + 6)) Q b 12 [some (.inr (.inr 44)), some (.inl set), some (.inl 3), none, none, none, none] [] h
      exact absurd c11 (by decide)
  · show xEx G0 cdX7_sizeOf (some .int) (xRn G0 MT (d + 6)) Q b 2 [some (.inr (.inr 44)), some (.inl set), some (.inl 3), none, none, none, none] [] h
    exact absurd c1 (by decide)
