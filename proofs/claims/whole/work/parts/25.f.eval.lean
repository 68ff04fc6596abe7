theorem RI_rr {h g S T : xH} (r : RI h g S T) : RR g S ∧ RRT g T := ⟨r.2.1.1, r.2.2.1.1⟩
theorem CO_w {h h2 : xH} (hI : Inv h) (f : FM h h2) {ex : List String} {w r1 r2 : Int} (o : h2 112 0 = w) (t : h2 66 0 = 0) (e : w32 r1 = r2) : Inv h2 ∧ h2 112 0 = w ∧ AG ex (.inl (some (.inl r1))) (.inl (some (.inl r2))) h2 := ⟨Inv_fr f hI, o, AG_w t (by rw [← e, w32_w])⟩
set_option maxHeartbeats 1000000 in
theorem CO_value0 (d : Nat) {h : xH} (hI : Inv h) (k x y z : Int) (hk : xr k) (hx : xr x) (hy : xr y) (hz : xr z) : CO (d + 25) 2 108 202 [.inl 0, .inl k, .inl x, .inl y, .inl z] ["java/util/NoSuchElementException", "java/lang/IllegalArgumentException"] h := by
  obtain ⟨b0, b1, -, -, -, -, -, -, b9⟩ := Inv_e hI
  obtain ⟨S, T, ci, ri⟩ := Inv_i.mp hI
  obtain ⟨v1, v2, v3, v4, v5, v6⟩ := EV_ci ci
  obtain ⟨x1, x2⟩ := RI_rr ri
  have m1 : h 66 1 = h 1 1 := ri.1.2.1
  have c2 : 1 ≤ h 1 1 ∧ h 1 1 ≤ 3 := ci.1.2.1
  have c8 : 1 ≤ h 66 1 ∧ h 66 1 ≤ 3 := by rw [m1]; exact c2
  have b8 : 0 ≤ h 66 8 ∧ h 66 8 ≤ 300 := by rw [b1]; exact b0
  have y1 : ∀ g, FM h g → RR g S ∧ RRT g T := fun g f => RI_rr (FM_RI v3.2 v6.2 f ri)
  refine o_value0 d h S T k x y z hk hx hy hz c2 (EV_ci ci) b0 (fun q u => ?_) (fun q q2 u => ?_) (fun q q2 v hv u => ?_)
  · obtain ⟨w1, w2⟩ := y1 (xup h 112 0 u) ((FM.rf h).up (Or.inl (by unfold scr; decide)))
    exact m_value0 d 0 (xup h 112 0 u) S T k x y z (h 1 2) (h 6) hk hx hy hz c8 w1 w2 v2 v5 v3 v6 b8 (fun _ => CO_x hI 0 rfl u 0) (fun z9 => absurd (show 0 ≤ k ∧ k < h 9 9 by have z9 : 0 ≤ k ∧ k < h 66 8 := z9; omega) q) (fun z9 => absurd (show 0 ≤ k ∧ k < h 9 9 by have z9 : 0 ≤ k ∧ k < h 66 8 := z9; omega) q)
  · obtain ⟨w1, w2⟩ := y1 (xup h 112 0 u) ((FM.rf h).up (Or.inl (by unfold scr; decide)))
    exact m_value0 d 0 (xup h 112 0 u) S T k x y z (h 1 2) (h 6) hk hx hy hz c8 w1 w2 v2 v5 v3 v6 b8 (fun z9 => absurd (show 0 ≤ k ∧ k < h 66 8 by omega) z9) (fun _ _ => CO_x hI 1 rfl u 0) (fun _ z9 => absurd (show inOk (h 1 1) x y z by rw [← m1]; exact z9) q2)
  · have fm : FM h (xup (xup (xup (xup h 63 0 x) 63 1 y) 63 2 z) 112 0 u) := ((((FM.rf h).up (Or.inl (by unfold scr; decide))).up (Or.inl (by unfold scr; decide))).up (Or.inl (by unfold scr; decide))).up (Or.inl (by unfold scr; decide))
    obtain ⟨w1, w2⟩ := y1 _ fm
    exact m_value0 d 0 (xup (xup (xup (xup h 63 0 x) 63 1 y) 63 2 z) 112 0 u) S T k x y z (h 1 2) (h 6) hk hx hy hz c8 w1 w2 v2 v5 v3 v6 b8 (fun z9 => absurd (show 0 ≤ k ∧ k < h 66 8 by omega) z9) (fun _ z9 => absurd (show inOk (h 66 1) x y z by rw [m1]; exact q2) z9) (fun _ _ h2 f2 => CO_w hI ((fm.up (Or.inr ⟨rfl, by unfold mdf; decide⟩)).tr (FM_vh f2)) (by rw [f2 _ (by decide) (by decide)]; rfl) (by rw [f2 _ (by decide) (by decide)]; rfl) hv)
set_option maxHeartbeats 1000000 in
theorem CO_value1 (d : Nat) {h : xH} (hI : Inv h) (k x y z : Int) (hk : xr k) (hx : xr x) (hy : xr y) (hz : xr z) : CO (d + 25) 2 108 202 [.inl 1, .inl k, .inl x, .inl y, .inl z] ["java/util/NoSuchElementException", "java/lang/IllegalArgumentException"] h := by
  obtain ⟨b0, b1, -, -, -, -, -, -, b9⟩ := Inv_t hI
  obtain ⟨S, T, ci, ri⟩ := Inv_i.mp hI
  obtain ⟨v1, v2, v3, v4, v5, v6⟩ := EV_ci ci
  obtain ⟨x1, x2⟩ := RI_rr ri
  have m1 : h 66 1 = h 1 1 := ri.1.2.1
  have c2 : 1 ≤ h 1 1 ∧ h 1 1 ≤ 3 := ci.1.2.1
  have c8 : 1 ≤ h 66 1 ∧ h 66 1 ≤ 3 := by rw [m1]; exact c2
  have b8 : 0 ≤ h 66 19 ∧ h 66 19 ≤ 150 := by rw [b1]; exact b0
  have y1 : ∀ g, FM h g → RR g S ∧ RRT g T := fun g f => RI_rr (FM_RI v3.2 v6.2 f ri)
  refine o_value1 d h S T k x y z hk hx hy hz c2 (EV_ci ci) b0 (fun q u => ?_) (fun q q2 u => ?_) (fun q q2 v hv u => ?_)
  · obtain ⟨w1, w2⟩ := y1 (xup h 112 0 u) ((FM.rf h).up (Or.inl (by unfold scr; decide)))
    exact m_value1 d 0 (xup h 112 0 u) S T k x y z (h 1 2) (h 6) hk hx hy hz c8 w1 w2 v2 v5 v3 v6 b8 (fun _ => CO_x hI 0 rfl u 0) (fun z9 => absurd (show 0 ≤ k ∧ k < h 28 9 by have z9 : 0 ≤ k ∧ k < h 66 19 := z9; omega) q) (fun z9 => absurd (show 0 ≤ k ∧ k < h 28 9 by have z9 : 0 ≤ k ∧ k < h 66 19 := z9; omega) q)
  · obtain ⟨w1, w2⟩ := y1 (xup h 112 0 u) ((FM.rf h).up (Or.inl (by unfold scr; decide)))
    exact m_value1 d 0 (xup h 112 0 u) S T k x y z (h 1 2) (h 6) hk hx hy hz c8 w1 w2 v2 v5 v3 v6 b8 (fun z9 => absurd (show 0 ≤ k ∧ k < h 66 19 by omega) z9) (fun _ _ => CO_x hI 1 rfl u 0) (fun _ z9 => absurd (show inOk (h 1 1) x y z by rw [← m1]; exact z9) q2)
  · have fm : FM h (xup (xup (xup (xup h 63 0 x) 63 1 y) 63 2 z) 112 0 u) := ((((FM.rf h).up (Or.inl (by unfold scr; decide))).up (Or.inl (by unfold scr; decide))).up (Or.inl (by unfold scr; decide))).up (Or.inl (by unfold scr; decide))
    obtain ⟨w1, w2⟩ := y1 _ fm
    exact m_value1 d 0 (xup (xup (xup (xup h 63 0 x) 63 1 y) 63 2 z) 112 0 u) S T k x y z (h 1 2) (h 6) hk hx hy hz c8 w1 w2 v2 v5 v3 v6 b8 (fun z9 => absurd (show 0 ≤ k ∧ k < h 66 19 by omega) z9) (fun _ z9 => absurd (show inOk (h 66 1) x y z by rw [m1]; exact q2) z9) (fun _ _ h2 f2 => CO_w hI ((fm.up (Or.inr ⟨rfl, by unfold mdf; decide⟩)).tr (FM_vh f2)) (by rw [f2 _ (by decide) (by decide)]; rfl) (by rw [f2 _ (by decide) (by decide)]; rfl) hv)
/-- INPUTS that are gone through, by their number -/
def ptx (m p : Int) : Int := if m = 1 then p - 9 else if m = 2 then p / 19 - 9 else p / 361 - 9
def pty (m p : Int) : Int := if m = 1 then 0 else if m = 2 then p % 19 - 9 else (p / 19) % 19 - 9
def ptz (m p : Int) : Int := if m = 1 then 0 else if m = 2 then 0 else p % 19 - 9
def ptN (m : Int) : Int := if m = 1 then 19 else if m = 2 then 361 else 6859
theorem pt_r {m p : Int} (hm : 1 ≤ m ∧ m ≤ 3) (h0 : 0 ≤ p) (h1 : p < ptN m) : (-9 ≤ ptx m p ∧ ptx m p ≤ 9) ∧ (-9 ≤ pty m p ∧ pty m p ≤ 9) ∧ (-9 ≤ ptz m p ∧ ptz m p ≤ 9) := by
  have : m = 1 ∨ m = 2 ∨ m = 3 := by omega
  rcases this with rfl | rfl | rfl
  · simp [ptN] at h1
    simp [ptx, pty, ptz]
    omega
  · simp [ptN] at h1
    simp [ptx, pty, ptz]
    omega
  · simp [ptN] at h1
    simp [ptx, pty, ptz]
    omega
def PTS (h : xH) (m p : Int) : Prop := h 63 0 = ptx m p ∧ h 63 1 = pty m p ∧ h 63 2 = ptz m p
set_option maxHeartbeats 1000000 in
theorem c_start1 (d b : Nat) (h : xH) {Q : xO → xH → Prop} (hQ : ∀ h', (∀ a, a ≠ 63 → h' a = h a) → PTS h' 1 0 → Q (.inl (some (.inl 19))) h') : xRn G0 MT (d + 1) b 43 [.inr (.inr 62), .inl 1] h Q := by
  refine R_of (M := mX5_start) rfl (Nat.le_of_ble_eq_true rfl) ?_
  show xEx G0 cdX5_start (some .int) (xRn G0 MT d) Q b 0 [some (.inr (.inr 62)), some (.inl 1), none, none] [] h
  refine E_s 6 (i' := 6) (ls' := [some (.inr (.inr 62)), some (.inl 1), some (.inl 1), some (.inl 0)]) (sk' := [.inl 3, .inl 0]) (h' := h) rfl ?_
  refine E_b (x := (.if_icmp .ge 40, 28, [], [])) rfl rfl (fun c6 => ?_) (fun c6 => ?_)
  · show xEx G0 cdX5_start (some .int) (xRn G0 MT d) Q b 28 [some (.inr (.inr 62)), some (.inl 1), some (.inl 1), some (.inl 0)] [] h
    exact absurd c6 (by decide)
  · show xEx G0 cdX5_start (some .int) (xRn G0 MT d) Q b 7 [some (.inr (.inr 62)), some (.inl 1), some (.inl 1), some (.inl 0)] [] h
    refine E_s 5 (i' := 12) (ls' := [some (.inr (.inr 62)), some (.inl 1), some (.inl 1), some (.inl 0)]) (sk' := [.inl 1, .inl 0, .inl 0, .inr (.inr 63)]) (h' := h) rfl ?_
    refine E_b (x := (.if_icmp .ge 8, 15, [], [])) rfl rfl (fun c12 => ?_) (fun c12 => ?_)
    · show xEx G0 cdX5_start (some .int) (xRn G0 MT d) Q b 15 [some (.inr (.inr 62)), some (.inl 1), some (.inl 1), some (.inl 0)] [.inl 0, .inr (.inr 63)] h
      exact absurd c12 (by decide)
    · show xEx G0 cdX5_start (some .int) (xRn G0 MT d) Q b 13 [some (.inr (.inr 62)), some (.inl 1), some (.inl 1), some (.inl 0)] [.inl 0, .inr (.inr 63)] h
      refine E_s 2 (i' := 16) (ls' := [some (.inr (.inr 62)), some (.inl 1), some (.inl 1), some (.inl 0)]) (sk' := [.inl (-9), .inl 0, .inr (.inr 63)]) (h' := h) rfl ?_
      refine E_sd (x := (.iastore, 0, [], [])) (ty := .int) (n := 3) (y := (-9)) rfl rfl rfl (by omega) (by omega) (trivial) ?_
      show xEx G0 cdX5_start (some .int) (xRn G0 MT d) Q b 17 [some (.inr (.inr 62)), some (.inl 1), some (.inl 1), some (.inl 0)] [] (xup h 63 0 (-9))
      refine E_s 2 (i' := 19) (ls' := [some (.inr (.inr 62)), some (.inl 1), some (.inl 1), some (.inl 0)]) (sk' := [.inl 1, .inl 0]) (h' := (xup h 63 0 (-9))) rfl ?_
      refine E_b (x := (.if_icmp .ge 10, 24, [], [])) rfl rfl (fun c19 => ?_) (fun c19 => ?_)
      · show xEx G0 cdX5_start (some .int) (xRn G0 MT d) Q b 24 [some (.inr (.inr 62)), some (.inl 1), some (.inl 1), some (.inl 0)] [] (xup h 63 0 (-9))
        exact absurd c19 (by decide)
      · show xEx G0 cdX5_start (some .int) (xRn G0 MT d) Q b 20 [some (.inr (.inr 62)), some (.inl 1), some (.inl 1), some (.inl 0)] [] (xup h 63 0 (-9))
        refine E_s 9 (i' := 6) (ls' := [some (.inr (.inr 62)), some (.inl 1), some (.inl 19), some (.inl 1)]) (sk' := [.inl 3, .inl 1]) (h' := (xup h 63 0 (-9))) rfl ?_
        refine E_b (x := (.if_icmp .ge 40, 28, [], [])) rfl rfl (fun c6 => ?_) (fun c6 => ?_)
        · show xEx G0 cdX5_start (some .int) (xRn G0 MT d) Q b 28 [some (.inr (.inr 62)), some (.inl 1), some (.inl 19), some (.inl 1)] [] (xup h 63 0 (-9))
          exact absurd c6 (by decide)
        · show xEx G0 cdX5_start (some .int) (xRn G0 MT d) Q b 7 [some (.inr (.inr 62)), some (.inl 1), some (.inl 19), some (.inl 1)] [] (xup h 63 0 (-9))
          refine E_s 5 (i' := 12) (ls' := [some (.inr (.inr 62)), some (.inl 1), some (.inl 19), some (.inl 1)]) (sk' := [.inl 1, .inl 1, .inl 1, .inr (.inr 63)]) (h' := (xup h 63 0 (-9))) rfl ?_
          refine E_b (x := (.if_icmp .ge 8, 15, [], [])) rfl rfl (fun c12 => ?_) (fun c12 => ?_)
          · show xEx G0 cdX5_start (some .int) (xRn G0 MT d) Q b 15 [some (.inr (.inr 62)), some (.inl 1), some (.inl 19), some (.inl 1)] [.inl 1, .inr (.inr 63)] (xup h 63 0 (-9))
            refine E_s 1 (i' := 16) (ls' := [some (.inr (.inr 62)), some (.inl 1), some (.inl 19), some (.inl 1)]) (sk' := [.inl 0, .inl 1, .inr (.inr 63)]) (h' := (xup h 63 0 (-9))) rfl ?_
            refine E_sd (x := (.iastore, 0, [], [])) (ty := .int) (n := 3) (y := 0) rfl rfl rfl (by omega) (by omega) (trivial) ?_
            show xEx G0 cdX5_start (some .int) (xRn G0 MT d) Q b 17 [some (.inr (.inr 62)), some (.inl 1), some (.inl 19), some (.inl 1)] [] (xup (xup h 63 0 (-9)) 63 1 0)
            refine E_s 2 (i' := 19) (ls' := [some (.inr (.inr 62)), some (.inl 1), some (.inl 19), some (.inl 1)]) (sk' := [.inl 1, .inl 1]) (h' := (xup (xup h 63 0 (-9)) 63 1 0)) rfl ?_
            refine E_b (x := (.if_icmp .ge 10, 24, [], [])) rfl rfl (fun c19 => ?_) (fun c19 => ?_)
            · show xEx G0 cdX5_start (some .int) (xRn G0 MT d) Q b 24 [some (.inr (.inr 62)), some (.inl 1), some (.inl 19), some (.inl 1)] [] (xup (xup h 63 0 (-9)) 63 1 0)
              refine E_s 6 (i' := 6) (ls' := [some (.inr (.inr 62)), some (.inl 1), some (.inl 19), some (.inl 2)]) (sk' := [.inl 3, .inl 2]) (h' := (xup (xup h 63 0 (-9)) 63 1 0)) rfl ?_
              refine E_b (x := (.if_icmp .ge 40, 28, [], [])) rfl rfl (fun c6 => ?_) (fun c6 => ?_)
              · show xEx G0 cdX5_start (some .int) (xRn G0 MT d) Q b 28 [some (.inr (.inr 62)), some (.inl 1), some (.inl 19), some (.inl 2)] [] (xup (xup h 63 0 (-9)) 63 1 0)
                exact absurd c6 (by decide)
              · show xEx G0 cdX5_start (some .int) (xRn G0 MT d) Q b 7 [some (.inr (.inr 62)), some (.inl 1), some (.inl 19), some (.inl 2)] [] (xup (xup h 63 0 (-9)) 63 1 0)
                refine E_s 5 (i' := 12) (ls' := [some (.inr (.inr 62)), some (.inl 1), some (.inl 19), some (.inl 2)]) (sk' := [.inl 1, .inl 2, .inl 2, .inr (.inr 63)]) (h' := (xup (xup h 63 0 (-9)) 63 1 0)) rfl ?_
                refine E_b (x := (.if_icmp .ge 8, 15, [], [])) rfl rfl (fun c12 => ?_) (fun c12 => ?_)
                · show xEx G0 cdX5_start (some .int) (xRn G0 MT d) Q b 15 [some (.inr (.inr 62)), some (.inl 1), some (.inl 19), some (.inl 2)] [.inl 2, .inr (.inr 63)] (xup (xup h 63 0 (-9)) 63 1 0)
                  refine E_s 1 (i' := 16) (ls' := [some (.inr (.inr 62)), some (.inl 1), some (.inl 19), some (.inl 2)]) (sk' := [.inl 0, .inl 2, .inr (.inr 63)]) (h' := (xup (xup h 63 0 (-9)) 63 1 0)) rfl ?_
                  refine E_sd (x := (.iastore, 0, [], [])) (ty := .int) (n := 3) (y := 0) rfl rfl rfl (by omega) (by omega) (trivial) ?_
                  show xEx G0 cdX5_start (some .int) (xRn G0 MT d) Q b 17 [some (.inr (.inr 62)), some (.inl 1), some (.inl 19), some (.inl 2)] [] (xup (xup (xup h 63 0 (-9)) 63 1 0) 63 2 0)
                  refine E_s 2 (i' := 19) (ls' := [some (.inr (.inr 62)), some (.inl 1), some (.inl 19), some (.inl 2)]) (sk' := [.inl 1, .inl 2]) (h' := (xup (xup (xup h 63 0 (-9)) 63 1 0) 63 2 0)) rfl ?_
                  refine E_b (x := (.if_icmp .ge 10, 24, [], [])) rfl rfl (fun c19 => ?_) (fun c19 => ?_)
                  · show xEx G0 cdX5_start (some .int) (xRn G0 MT d) Q b 24 [some (.inr (.inr 62)), some (.inl 1), some (.inl 19), some (.inl 2)] [] (xup (xup (xup h 63 0 (-9)) 63 1 0) 63 2 0)
                    refine E_s 6 (i' := 6) (ls' := [some (.inr (.inr 62)), some (.inl 1), some (.inl 19), some (.inl 3)]) (sk' := [.inl 3, .inl 3]) (h' := (xup (xup (xup h 63 0 (-9)) 63 1 0) 63 2 0)) rfl ?_
                    refine E_b (x := (.if_icmp .ge 40, 28, [], [])) rfl rfl (fun c6 => ?_) (fun c6 => ?_)
                    · show xEx G0 cdX5_start (some .int) (xRn G0 MT d) Q b 28 [some (.inr (.inr 62)), some (.inl 1), some (.inl 19), some (.inl 3)] [] (xup (xup (xup h 63 0 (-9)) 63 1 0) 63 2 0)
                      refine E_s 1 (i' := 29) (ls' := [some (.inr (.inr 62)), some (.inl 1), some (.inl 19), some (.inl 3)]) (sk' := [.inl 19]) (h' := (xup (xup (xup h 63 0 (-9)) 63 1 0) 63 2 0)) rfl ?_
                      exact E_ret (x := (.ireturn, 0, [], [])) (v := some (.inl 19)) rfl (Or.inl rfl) (hQ _ (fun a z => by rw [xup_o _ _ _ _ a z, xup_o _ _ _ _ a z, xup_o _ _ _ _ a z]) ⟨rfl, rfl, rfl⟩)
                    · show xEx G0 cdX5_start (some .int) (xRn G0 MT d) Q b 7 [some (.inr (.inr 62)), some (.inl 1), some (.inl 19), some (.inl 3)] [] (xup (xup (xup h 63 0 (-9)) 63 1 0) 63 2 0)
                      exact absurd c6 (by decide)
                  · show xEx G0 cdX5_start (some .int) (xRn G0 MT d) Q b 20 [some (.inr (.inr 62)), some (.inl 1), some (.inl 19), some (.inl 2)] [] (xup (xup (xup h 63 0 (-9)) 63 1 0) 63 2 0)
                    exact absurd c19 (by decide)
                · show xEx G0 cdX5_start (some .int) (xRn G0 MT d) Q b 13 [some (.inr (.inr 62)), some (.inl 1), some (.inl 19), some (.inl 2)] [.inl 2, .inr (.inr 63)] (xup (xup h 63 0 (-9)) 63 1 0)
                  exact absurd c12 (by decide)
            · show xEx G0 cdX5_start (some .int) (xRn G0 MT d) Q b 20 [some (.inr (.inr 62)), some (.inl 1), some (.inl 19), some (.inl 1)] [] (xup (xup h 63 0 (-9)) 63 1 0)
              exact absurd c19 (by decide)
          · show xEx G0 cdX5_start (some .int) (xRn G0 MT d) Q b 13 [some (.inr (.inr 62)), some (.inl 1), some (.inl 19), some (.inl 1)] [.inl 1, .inr (.inr 63)] (xup h 63 0 (-9))
            exact absurd c12 (by decide)
set_option maxHeartbeats 1000000 in
theorem c_step1 (d b : Nat) (h : xH) (p : Int) (h0 : 0 ≤ p) (h1 : p < ptN 1) (hp : PTS h 1 p) {Q : xO → xH → Prop} (hQ : ∀ h', (∀ a, a ≠ 63 → h' a = h a) → (p + 1 < ptN 1 → PTS h' 1 (p + 1)) → Q (.inl none) h') : xRn G0 MT (d + 1) b 44 [.inr (.inr 62), .inl 1] h Q := by
  refine R_of (M := mX5_step) rfl (Nat.le_of_ble_eq_true rfl) ?_
  show xEx G0 cdX5_step none (xRn G0 MT d) Q b 0 [some (.inr (.inr 62)), some (.inl 1), none] [] h
  have pr := pt_r (m := 1) (by omega) h0 h1
  obtain ⟨p0, p1, p2⟩ := id hp
  rw [← p0, ← p1, ← p2] at pr
  refine E_s 5 (i' := 5) (ls' := [some (.inr (.inr 62)), some (.inl 1), some (.inl 0)]) (sk' := [.inl 0]) (h' := h) rfl ?_
  refine E_b (x := (.ifCond .lt 39, 28, [], [])) rfl rfl (fun c5 => ?_) (fun c5 => ?_)
  · show xEx G0 cdX5_step none (xRn G0 MT d) Q b 28 [some (.inr (.inr 62)), some (.inl 1), some (.inl 0)] [] h
    exact absurd c5 (by decide)
  · show xEx G0 cdX5_step none (xRn G0 MT d) Q b 6 [some (.inr (.inr 62)), some (.inl 1), some (.inl 0)] [] h
    refine E_s 3 (i' := 9) (ls' := [some (.inr (.inr 62)), some (.inl 1), some (.inl 0)]) (sk' := [.inl 0, .inr (.inr 63)]) (h' := h) rfl ?_
    refine E_ld (x := (.iaload, 0, [], [])) (ty := .int) (n := 3) rfl rfl rfl (by omega) (by omega) ?_
    show xEx G0 cdX5_step none (xRn G0 MT d) Q b 10 [some (.inr (.inr 62)), some (.inl 1), some (.inl 0)] [.inl (h 63 0)] h
    refine E_s 1 (i' := 11) (ls' := [some (.inr (.inr 62)), some (.inl 1), some (.inl 0)]) (sk' := [.inl 9, .inl (h 63 0)]) (h' := h) rfl ?_
    refine E_b (x := (.if_icmp .ge 14, 21, [], [])) rfl rfl (fun c11 => ?_) (fun c11 => ?_)
    · rw [c_ge (by first | assumption | (refine ⟨?_, ?_⟩ <;> omega) | (simp only [xr] at *; omega)) (by first | assumption | (refine ⟨?_, ?_⟩ <;> omega) | (simp only [xr] at *; omega))] at c11
      simp only [decide_eq_true_eq, decide_eq_false_iff_not, Decidable.not_not] at c11
      show xEx G0 cdX5_step none (xRn G0 MT d) Q b 21 [some (.inr (.inr 62)), some (.inl 1), some (.inl 0)] [] h
      refine E_s 4 (i' := 25) (ls' := [some (.inr (.inr 62)), some (.inl 1), some (.inl 0)]) (sk' := [.inl (-9), .inl 0, .inr (.inr 63)]) (h' := h) rfl ?_
      refine E_sd (x := (.iastore, 0, [], [])) (ty := .int) (n := 3) (y := (-9)) rfl rfl rfl (by omega) (by omega) (trivial) ?_
      show xEx G0 cdX5_step none (xRn G0 MT d) Q b 26 [some (.inr (.inr 62)), some (.inl 1), some (.inl 0)] [] (xup h 63 0 (-9))
      refine E_s 3 (i' := 5) (ls' := [some (.inr (.inr 62)), some (.inl 1), some (.inl (-1))]) (sk' := [.inl (-1)]) (h' := (xup h 63 0 (-9))) rfl ?_
      refine E_b (x := (.ifCond .lt 39, 28, [], [])) rfl rfl (fun c5 => ?_) (fun c5 => ?_)
      · show xEx G0 cdX5_step none (xRn G0 MT d) Q b 28 [some (.inr (.inr 62)), some (.inl 1), some (.inl (-1))] [] (xup h 63 0 (-9))
        exact E_ret (x := (.return_, 0, [], [])) (v := none) rfl (trivial) (hQ _ (fun a z => by rw [xup_o _ _ _ _ a z]) (fun z => by
          simp only [ptN, PTS, ptx, pty, ptz, xup] at *
          simp at *
          omega))
      · show xEx G0 cdX5_step none (xRn G0 MT d) Q b 6 [some (.inr (.inr 62)), some (.inl 1), some (.inl (-1))] [] (xup h 63 0 (-9))
        exact absurd c5 (by decide)
    · rw [c_ge (by first | assumption | (refine ⟨?_, ?_⟩ <;> omega) | (simp only [xr] at *; omega)) (by first | assumption | (refine ⟨?_, ?_⟩ <;> omega) | (simp only [xr] at *; omega))] at c11
      simp only [decide_eq_true_eq, decide_eq_false_iff_not, Decidable.not_not] at c11
      show xEx G0 cdX5_step none (xRn G0 MT d) Q b 12 [some (.inr (.inr 62)), some (.inl 1), some (.inl 0)] [] h
      refine E_s 4 (i' := 16) (ls' := [some (.inr (.inr 62)), some (.inl 1), some (.inl 0)]) (sk' := [.inl 0, .inr (.inr 63), .inl 0, .inr (.inr 63)]) (h' := h) rfl ?_
      refine E_ld (x := (.iaload, 0, [], [])) (ty := .int) (n := 3) rfl rfl rfl (by omega) (by omega) ?_
      show xEx G0 cdX5_step none (xRn G0 MT d) Q b 17 [some (.inr (.inr 62)), some (.inl 1), some (.inl 0)] [.inl (h 63 0), .inl 0, .inr (.inr 63)] h
      refine E_s 2 (i' := 19) (ls' := [some (.inr (.inr 62)), some (.inl 1), some (.inl 0)]) (sk' := [.inl ((h 63 0) + 1), .inl 0, .inr (.inr 63)]) (h' := h) rfl ?_
      refine E_sd (x := (.iastore, 0, [], [])) (ty := .int) (n := 3) (y := ((h 63 0) + 1)) rfl rfl rfl (by omega) (by omega) (trivial) ?_
      show xEx G0 cdX5_step none (xRn G0 MT d) Q b 20 [some (.inr (.inr 62)), some (.inl 1), some (.inl 0)] [] (xup h 63 0 ((h 63 0) + 1))
      exact E_ret (x := (.return_, 0, [], [])) (v := none) rfl (trivial) (hQ _ (fun a z => by rw [xup_o _ _ _ _ a z]) (fun z => by
        simp only [ptN, PTS, ptx, pty, ptz, xup] at *
        simp at *
        omega))
set_option maxHeartbeats 1000000 in
theorem c_start2 (d b : Nat) (h : xH) {Q : xO → xH → Prop} (hQ : ∀ h', (∀ a, a ≠ 63 → h' a = h a) → PTS h' 2 0 → Q (.inl (some (.inl 361))) h') : xRn G0 MT (d + 1) b 43 [.inr (.inr 62), .inl 2] h Q := by
  refine R_of (M := mX5_start) rfl (Nat.le_of_ble_eq_true rfl) ?_
  show xEx G0 cdX5_start (some .int) (xRn G0 MT d) Q b 0 [some (.inr (.inr 62)), some (.inl 2), none, none] [] h
  refine E_s 6 (i' := 6) (ls' := [some (.inr (.inr 62)), some (.inl 2), some (.inl 1), some (.inl 0)]) (sk' := [.inl 3, .inl 0]) (h' := h) rfl ?_
  refine E_b (x := (.if_icmp .ge 40, 28, [], [])) rfl rfl (fun c6 => ?_) (fun c6 => ?_)
  · show xEx G0 cdX5_start (some .int) (xRn G0 MT d) Q b 28 [some (.inr (.inr 62)), some (.inl 2), some (.inl 1), some (.inl 0)] [] h
    exact absurd c6 (by decide)
  · show xEx G0 cdX5_start (some .int) (xRn G0 MT d) Q b 7 [some (.inr (.inr 62)), some (.inl 2), some (.inl 1), some (.inl 0)] [] h
    refine E_s 5 (i' := 12) (ls' := [some (.inr (.inr 62)), some (.inl 2), some (.inl 1), some (.inl 0)]) (sk' := [.inl 2, .inl 0, .inl 0, .inr (.inr 63)]) (h' := h) rfl ?_
    refine E_b (x := (.if_icmp .ge 8, 15, [], [])) rfl rfl (fun c12 => ?_) (fun c12 => ?_)
    · show xEx G0 cdX5_start (some .int) (xRn G0 MT d) Q b 15 [some (.inr (.inr 62)), some (.inl 2), some (.inl 1), some (.inl 0)] [.inl 0, .inr (.inr 63)] h
      exact absurd c12 (by decide)
    · show xEx G0 cdX5_start (some .int) (xRn G0 MT d) Q b 13 [some (.inr (.inr 62)), some (.inl 2), some (.inl 1), some (.inl 0)] [.inl 0, .inr (.inr 63)] h
      refine E_s 2 (i' := 16) (ls' := [some (.inr (.inr 62)), some (.inl 2), some (.inl 1), some (.inl 0)]) (sk' := [.inl (-9), .inl 0, .inr (.inr 63)]) (h' := h) rfl ?_
      refine E_sd (x := (.iastore, 0, [], [])) (ty := .int) (n := 3) (y := (-9)) rfl rfl rfl (by omega) (by omega) (trivial) ?_
      show xEx G0 cdX5_start (some .int) (xRn G0 MT d) Q b 17 [some (.inr (.inr 62)), some (.inl 2), some (.inl 1), some (.inl 0)] [] (xup h 63 0 (-9))
      refine E_s 2 (i' := 19) (ls' := [some (.inr (.inr 62)), some (.inl 2), some (.inl 1), some (.inl 0)]) (sk' := [.inl 2, .inl 0]) (h' := (xup h 63 0 (-9))) rfl ?_
      refine E_b (x := (.if_icmp .ge 10, 24, [], [])) rfl rfl (fun c19 => ?_) (fun c19 => ?_)
      · show xEx G0 cdX5_start (some .int) (xRn G0 MT d) Q b 24 [some (.inr (.inr 62)), some (.inl 2), some (.inl 1), some (.inl 0)] [] (xup h 63 0 (-9))
        exact absurd c19 (by decide)
      · show xEx G0 cdX5_start (some .int) (xRn G0 MT d) Q b 20 [some (.inr (.inr 62)), some (.inl 2), some (.inl 1), some (.inl 0)] [] (xup h 63 0 (-9))
        refine E_s 9 (i' := 6) (ls' := [some (.inr (.inr 62)), some (.inl 2), some (.inl 19), some (.inl 1)]) (sk' := [.inl 3, .inl 1]) (h' := (xup h 63 0 (-9))) rfl ?_
        refine E_b (x := (.if_icmp .ge 40, 28, [], [])) rfl rfl (fun c6 => ?_) (fun c6 => ?_)
        · show xEx G0 cdX5_start (some .int) (xRn G0 MT d) Q b 28 [some (.inr (.inr 62)), some (.inl 2), some (.inl 19), some (.inl 1)] [] (xup h 63 0 (-9))
          exact absurd c6 (by decide)
        · show xEx G0 cdX5_start (some .int) (xRn G0 MT d) Q b 7 [some (.inr (.inr 62)), some (.inl 2), some (.inl 19), some (.inl 1)] [] (xup h 63 0 (-9))
          refine E_s 5 (i' := 12) (ls' := [some (.inr (.inr 62)), some (.inl 2), some (.inl 19), some (.inl 1)]) (sk' := [.inl 2, .inl 1, .inl 1, .inr (.inr 63)]) (h' := (xup h 63 0 (-9))) rfl ?_
          refine E_b (x := (.if_icmp .ge 8, 15, [], [])) rfl rfl (fun c12 => ?_) (fun c12 => ?_)
          · show xEx G0 cdX5_start (some .int) (xRn G0 MT d) Q b 15 [some (.inr (.inr 62)), some (.inl 2), some (.inl 19), some (.inl 1)] [.inl 1, .inr (.inr 63)] (xup h 63 0 (-9))
            exact absurd c12 (by decide)
          · show xEx G0 cdX5_start (some .int) (xRn G0 MT d) Q b 13 [some (.inr (.inr 62)), some (.inl 2), some (.inl 19), some (.inl 1)] [.inl 1, .inr (.inr 63)] (xup h 63 0 (-9))
            refine E_s 2 (i' := 16) (ls' := [some (.inr (.inr 62)), some (.inl 2), some (.inl 19), some (.inl 1)]) (sk' := [.inl (-9), .inl 1, .inr (.inr 63)]) (h' := (xup h 63 0 (-9))) rfl ?_
            refine E_sd (x := (.iastore, 0, [], [])) (ty := .int) (n := 3) (y := (-9)) rfl rfl rfl (by omega) (by omega) (trivial) ?_
            show xEx G0 cdX5_start (some .int) (xRn G0 MT d) Q b 17 [some (.inr (.inr 62)), some (.inl 2), some (.inl 19), some (.inl 1)] [] (xup (xup h 63 0 (-9)) 63 1 (-9))
            refine E_s 2 (i' := 19) (ls' := [some (.inr (.inr 62)), some (.inl 2), some (.inl 19), some (.inl 1)]) (sk' := [.inl 2, .inl 1]) (h' := (xup (xup h 63 0 (-9)) 63 1 (-9))) rfl ?_
            refine E_b (x := (.if_icmp .ge 10, 24, [], [])) rfl rfl (fun c19 => ?_) (fun c19 => ?_)
            · show xEx G0 cdX5_start (some .int) (xRn G0 MT d) Q b 24 [some (.inr (.inr 62)), some (.inl 2), some (.inl 19), some (.inl 1)] [] (xup (xup h 63 0 (-9)) 63 1 (-9))
              exact absurd c19 (by decide)
            · show xEx G0 cdX5_start (some .int) (xRn G0 MT d) Q b 20 [some (.inr (.inr 62)), some (.inl 2), some (.inl 19), some (.inl 1)] [] (xup (xup h 63 0 (-9)) 63 1 (-9))
              refine E_s 9 (i' := 6) (ls' := [some (.inr (.inr 62)), some (.inl 2), some (.inl 361), some (.inl 2)]) (sk' := [.inl 3, .inl 2]) (h' := (xup (xup h 63 0 (-9)) 63 1 (-9))) rfl ?_
              refine E_b (x := (.if_icmp .ge 40, 28, [], [])) rfl rfl (fun c6 => ?_) (fun c6 => ?_)
              · show xEx G0 cdX5_start (some .int) (xRn G0 MT d) Q b 28 [some (.inr (.inr 62)), some (.inl 2), some (.inl 361), some (.inl 2)] [] (xup (xup h 63 0 (-9)) 63 1 (-9))
                exact absurd c6 (by decide)
              · show xEx G0 cdX5_start (some .int) (xRn G0 MT d) Q b 7 [some (.inr (.inr 62)), some (.inl 2), some (.inl 361), some (.inl 2)] [] (xup (xup h 63 0 (-9)) 63 1 (-9))
                refine E_s 5 (i' := 12) (ls' := [some (.inr (.inr 62)), some (.inl 2), some (.inl 361), some (.inl 2)]) (sk' := [.inl 2, .inl 2, .inl 2, .inr (.inr 63)]) (h' := (xup (xup h 63 0 (-9)) 63 1 (-9))) rfl ?_
                refine E_b (x := (.if_icmp .ge 8, 15, [], [])) rfl rfl (fun c12 => ?_) (fun c12 => ?_)
                · show xEx G0 cdX5_start (some .int) (xRn G0 MT d) Q b 15 [some (.inr (.inr 62)), some (.inl 2), some (.inl 361), some (.inl 2)] [.inl 2, .inr (.inr 63)] (xup (xup h 63 0 (-9)) 63 1 (-9))
                  refine E_s 1 (i' := 16) (ls' := [some (.inr (.inr 62)), some (.inl 2), some (.inl 361), some (.inl 2)]) (sk' := [.inl 0, .inl 2, .inr (.inr 63)]) (h' := (xup (xup h 63 0 (-9)) 63 1 (-9))) rfl ?_
                  refine E_sd (x := (.iastore, 0, [], [])) (ty := .int) (n := 3) (y := 0) rfl rfl rfl (by omega) (by omega) (trivial) ?_
                  show xEx G0 cdX5_start (some .int) (xRn G0 MT d) Q b 17 [some (.inr (.inr 62)), some (.inl 2), some (.inl 361), some (.inl 2)] [] (xup (xup (xup h 63 0 (-9)) 63 1 (-9)) 63 2 0)
                  refine E_s 2 (i' := 19) (ls' := [some (.inr (.inr 62)), some (.inl 2), some (.inl 361), some (.inl 2)]) (sk' := [.inl 2, .inl 2]) (h' := (xup (xup (xup h 63 0 (-9)) 63 1 (-9)) 63 2 0)) rfl ?_
                  refine E_b (x := (.if_icmp .ge 10, 24, [], [])) rfl rfl (fun c19 => ?_) (fun c19 => ?_)
                  · show xEx G0 cdX5_start (some .int) (xRn G0 MT d) Q b 24 [some (.inr (.inr 62)), some (.inl 2), some (.inl 361), some (.inl 2)] [] (xup (xup (xup h 63 0 (-9)) 63 1 (-9)) 63 2 0)
                    refine E_s 6 (i' := 6) (ls' := [some (.inr (.inr 62)), some (.inl 2), some (.inl 361), some (.inl 3)]) (sk' := [.inl 3, .inl 3]) (h' := (xup (xup (xup h 63 0 (-9)) 63 1 (-9)) 63 2 0)) rfl ?_
                    refine E_b (x := (.if_icmp .ge 40, 28, [], [])) rfl rfl (fun c6 => ?_) (fun c6 => ?_)
                    · show xEx G0 cdX5_start (some .int) (xRn G0 MT d) Q b 28 [some (.inr (.inr 62)), some (.inl 2), some (.inl 361), some (.inl 3)] [] (xup (xup (xup h 63 0 (-9)) 63 1 (-9)) 63 2 0)
                      refine E_s 1 (i' := 29) (ls' := [some (.inr (.inr 62)), some (.inl 2), some (.inl 361), some (.inl 3)]) (sk' := [.inl 361]) (h' := (xup (xup (xup h 63 0 (-9)) 63 1 (-9)) 63 2 0)) rfl ?_
                      exact E_ret (x := (.ireturn, 0, [], [])) (v := some (.inl 361)) rfl (Or.inl rfl) (hQ _ (fun a z => by rw [xup_o _ _ _ _ a z, xup_o _ _ _ _ a z, xup_o _ _ _ _ a z]) ⟨rfl, rfl, rfl⟩)
                    · show xEx G0 cdX5_start (some .int) (xRn G0 MT d) Q b 7 [some (.inr (.inr 62)), some (.inl 2), some (.inl 361), some (.inl 3)] [] (xup (xup (xup h 63 0 (-9)) 63 1 (-9)) 63 2 0)
                      exact absurd c6 (by decide)
                  · show xEx G0 cdX5_start (some .int) (xRn G0 MT d) Q b 20 [some (.inr (.inr 62)), some (.inl 2), some (.inl 361), some (.inl 2)] [] (xup (xup (xup h 63 0 (-9)) 63 1 (-9)) 63 2 0)
                    exact absurd c19 (by decide)
                · show xEx G0 cdX5_start (some .int) (xRn G0 MT d) Q b 13 [some (.inr (.inr 62)), some (.inl 2), some (.inl 361), some (.inl 2)] [.inl 2, .inr (.inr 63)] (xup (xup h 63 0 (-9)) 63 1 (-9))
                  exact absurd c12 (by decide)
set_option maxHeartbeats 1000000 in
theorem c_step2 (d b : Nat) (h : xH) (p : Int) (h0 : 0 ≤ p) (h1 : p < ptN 2) (hp : PTS h 2 p) {Q : xO → xH → Prop} (hQ : ∀ h', (∀ a, a ≠ 63 → h' a = h a) → (p + 1 < ptN 2 → PTS h' 2 (p + 1)) → Q (.inl none) h') : xRn G0 MT (d + 1) b 44 [.inr (.inr 62), .inl 2] h Q := by
  refine R_of (M := mX5_step) rfl (Nat.le_of_ble_eq_true rfl) ?_
  show xEx G0 cdX5_step none (xRn G0 MT d) Q b 0 [some (.inr (.inr 62)), some (.inl 2), none] [] h
  have pr := pt_r (m := 2) (by omega) h0 h1
  obtain ⟨p0, p1, p2⟩ := id hp
  rw [← p0, ← p1, ← p2] at pr
  refine E_s 5 (i' := 5) (ls' := [some (.inr (.inr 62)), some (.inl 2), some (.inl 1)]) (sk' := [.inl 1]) (h' := h) rfl ?_
  refine E_b (x := (.ifCond .lt 39, 28, [], [])) rfl rfl (fun c5 => ?_) (fun c5 => ?_)
  · show xEx G0 cdX5_step none (xRn G0 MT d) Q b 28 [some (.inr (.inr 62)), some (.inl 2), some (.inl 1)] [] h
    exact absurd c5 (by decide)
  · show xEx G0 cdX5_step none (xRn G0 MT d) Q b 6 [some (.inr (.inr 62)), some (.inl 2), some (.inl 1)] [] h
    refine E_s 3 (i' := 9) (ls' := [some (.inr (.inr 62)), some (.inl 2), some (.inl 1)]) (sk' := [.inl 1, .inr (.inr 63)]) (h' := h) rfl ?_
    refine E_ld (x := (.iaload, 0, [], [])) (ty := .int) (n := 3) rfl rfl rfl (by omega) (by omega) ?_
    show xEx G0 cdX5_step none (xRn G0 MT d) Q b 10 [some (.inr (.inr 62)), some (.inl 2), some (.inl 1)] [.inl (h 63 1)] h
    refine E_s 1 (i' := 11) (ls' := [some (.inr (.inr 62)), some (.inl 2), some (.inl 1)]) (sk' := [.inl 9, .inl (h 63 1)]) (h' := h) rfl ?_
    refine E_b (x := (.if_icmp .ge 14, 21, [], [])) rfl rfl (fun c11 => ?_) (fun c11 => ?_)
    · rw [c_ge (by first | assumption | (refine ⟨?_, ?_⟩ <;> omega) | (simp only [xr] at *; omega)) (by first | assumption | (refine ⟨?_, ?_⟩ <;> omega) | (simp only [xr] at *; omega))] at c11
      simp only [decide_eq_true_eq, decide_eq_false_iff_not, Decidable.not_not] at c11
      show xEx G0 cdX5_step none (xRn G0 MT d) Q b 21 [some (.inr (.inr 62)), some (.inl 2), some (.inl 1)] [] h
      refine E_s 4 (i' := 25) (ls' := [some (.inr (.inr 62)), some (.inl 2), some (.inl 1)]) (sk' := [.inl (-9), .inl 1, .inr (.inr 63)]) (h' := h) rfl ?_
      refine E_sd (x := (.iastore, 0, [], [])) (ty := .int) (n := 3) (y := (-9)) rfl rfl rfl (by omega) (by omega) (trivial) ?_
      show xEx G0 cdX5_step none (xRn G0 MT d) Q b 26 [some (.inr (.inr 62)), some (.inl 2), some (.inl 1)] [] (xup h 63 1 (-9))
      refine E_s 3 (i' := 5) (ls' := [some (.inr (.inr 62)), some (.inl 2), some (.inl 0)]) (sk' := [.inl 0]) (h' := (xup h 63 1 (-9))) rfl ?_
      refine E_b (x := (.ifCond .lt 39, 28, [], [])) rfl rfl (fun c5 => ?_) (fun c5 => ?_)
      · show xEx G0 cdX5_step none (xRn G0 MT d) Q b 28 [some (.inr (.inr 62)), some (.inl 2), some (.inl 0)] [] (xup h 63 1 (-9))
        exact absurd c5 (by decide)
      · show xEx G0 cdX5_step none (xRn G0 MT d) Q b 6 [some (.inr (.inr 62)), some (.inl 2), some (.inl 0)] [] (xup h 63 1 (-9))
        refine E_s 3 (i' := 9) (ls' := [some (.inr (.inr 62)), some (.inl 2), some (.inl 0)]) (sk' := [.inl 0, .inr (.inr 63)]) (h' := (xup h 63 1 (-9))) rfl ?_
        refine E_ld (x := (.iaload, 0, [], [])) (ty := .int) (n := 3) rfl rfl rfl (by omega) (by omega) ?_
        show xEx G0 cdX5_step none (xRn G0 MT d) Q b 10 [some (.inr (.inr 62)), some (.inl 2), some (.inl 0)] [.inl (h 63 0)] (xup h 63 1 (-9))
        refine E_s 1 (i' := 11) (ls' := [some (.inr (.inr 62)), some (.inl 2), some (.inl 0)]) (sk' := [.inl 9, .inl (h 63 0)]) (h' := (xup h 63 1 (-9))) rfl ?_
        refine E_b (x := (.if_icmp .ge 14, 21, [], [])) rfl rfl (fun c11 => ?_) (fun c11 => ?_)
        · rw [c_ge (by first | assumption | (refine ⟨?_, ?_⟩ <;> omega) | (simp only [xr] at *; omega)) (by first | assumption | (refine ⟨?_, ?_⟩ <;> omega) | (simp only [xr] at *; omega))] at c11
          simp only [decide_eq_true_eq, decide_eq_false_iff_not, Decidable.not_not] at c11
          show xEx G0 cdX5_step none (xRn G0 MT d) Q b 21 [some (.inr (.inr 62)), some (.inl 2), some (.inl 0)] [] (xup h 63 1 (-9))
          refine E_s 4 (i' := 25) (ls' := [some (.inr (.inr 62)), some (.inl 2), some (.inl 0)]) (sk' := [.inl (-9), .inl 0, .inr (.inr 63)]) (h' := (xup h 63 1 (-9))) rfl ?_
          refine E_sd (x := (.iastore, 0, [], [])) (ty := .int) (n := 3) (y := (-9)) rfl rfl rfl (by omega) (by omega) (trivial) ?_
          show xEx G0 cdX5_step none (xRn G0 MT d) Q b 26 [some (.inr (.inr 62)), some (.inl 2), some (.inl 0)] [] (xup (xup h 63 1 (-9)) 63 0 (-9))
          refine E_s 3 (i' := 5) (ls' := [some (.inr (.inr 62)), some (.inl 2), some (.inl (-1))]) (sk' := [.inl (-1)]) (h' := (xup (xup h 63 1 (-9)) 63 0 (-9))) rfl ?_
          refine E_b (x := (.ifCond .lt 39, 28, [], [])) rfl rfl (fun c5 => ?_) (fun c5 => ?_)
          · show xEx G0 cdX5_step none (xRn G0 MT d) Q b 28 [some (.inr (.inr 62)), some (.inl 2), some (.inl (-1))] [] (xup (xup h 63 1 (-9)) 63 0 (-9))
            exact E_ret (x := (.return_, 0, [], [])) (v := none) rfl (trivial) (hQ _ (fun a z => by rw [xup_o _ _ _ _ a z, xup_o _ _ _ _ a z]) (fun z => by
              simp only [ptN, PTS, ptx, pty, ptz, xup] at *
              simp at *
              omega))
          · show xEx G0 cdX5_step none (xRn G0 MT d) Q b 6 [some (.inr (.inr 62)), some (.inl 2), some (.inl (-1))] [] (xup (xup h 63 1 (-9)) 63 0 (-9))
            exact absurd c5 (by decide)
        · rw [c_ge (by first | assumption | (refine ⟨?_, ?_⟩ <;> omega) | (simp only [xr] at *; omega)) (by first | assumption | (refine ⟨?_, ?_⟩ <;> omega) | (simp only [xr] at *; omega))] at c11
          simp only [decide_eq_true_eq, decide_eq_false_iff_not, Decidable.not_not] at c11
          show xEx G0 cdX5_step none (xRn G0 MT d) Q b 12 [some (.inr (.inr 62)), some (.inl 2), some (.inl 0)] [] (xup h 63 1 (-9))
          refine E_s 4 (i' := 16) (ls' := [some (.inr (.inr 62)), some (.inl 2), some (.inl 0)]) (sk' := [.inl 0, .inr (.inr 63), .inl 0, .inr (.inr 63)]) (h' := (xup h 63 1 (-9))) rfl ?_
          refine E_ld (x := (.iaload, 0, [], [])) (ty := .int) (n := 3) rfl rfl rfl (by omega) (by omega) ?_
          show xEx G0 cdX5_step none (xRn G0 MT d) Q b 17 [some (.inr (.inr 62)), some (.inl 2), some (.inl 0)] [.inl (h 63 0), .inl 0, .inr (.inr 63)] (xup h 63 1 (-9))
          refine E_s 2 (i' := 19) (ls' := [some (.inr (.inr 62)), some (.inl 2), some (.inl 0)]) (sk' := [.inl ((h 63 0) + 1), .inl 0, .inr (.inr 63)]) (h' := (xup h 63 1 (-9))) rfl ?_
          refine E_sd (x := (.iastore, 0, [], [])) (ty := .int) (n := 3) (y := ((h 63 0) + 1)) rfl rfl rfl (by omega) (by omega) (trivial) ?_
          show xEx G0 cdX5_step none (xRn G0 MT d) Q b 20 [some (.inr (.inr 62)), some (.inl 2), some (.inl 0)] [] (xup (xup h 63 1 (-9)) 63 0 ((h 63 0) + 1))
          exact E_ret (x := (.return_, 0, [], [])) (v := none) rfl (trivial) (hQ _ (fun a z => by rw [xup_o _ _ _ _ a z, xup_o _ _ _ _ a z]) (fun z => by
            simp only [ptN, PTS, ptx, pty, ptz, xup] at *
            simp at *
            omega))
    · rw [c_ge (by first | assumption | (refine ⟨?_, ?_⟩ <;> omega) | (simp only [xr] at *; omega)) (by first | assumption | (refine ⟨?_, ?_⟩ <;> omega) | (simp only [xr] at *; omega))] at c11
      simp only [decide_eq_true_eq, decide_eq_false_iff_not, Decidable.not_not] at c11
      show xEx G0 cdX5_step none (xRn G0 MT d) Q b 12 [some (.inr (.inr 62)), some (.inl 2), some (.inl 1)] [] h
      refine E_s 4 (i' := 16) (ls' := [some (.inr (.inr 62)), some (.inl 2), some (.inl 1)]) (sk' := [.inl 1, .inr (.inr 63), .inl 1, .inr (.inr 63)]) (h' := h) rfl ?_
      refine E_ld (x := (.iaload, 0, [], [])) (ty := .int) (n := 3) rfl rfl rfl (by omega) (by omega) ?_
      show xEx G0 cdX5_step none (xRn G0 MT d) Q b 17 [some (.inr (.inr 62)), some (.inl 2), some (.inl 1)] [.inl (h 63 1), .inl 1, .inr (.inr 63)] h
      refine E_s 2 (i' := 19) (ls' := [some (.inr (.inr 62)), some (.inl 2), some (.inl 1)]) (sk' := [.inl ((h 63 1) + 1), .inl 1, .inr (.inr 63)]) (h' := h) rfl ?_
      refine E_sd (x := (.iastore, 0, [], [])) (ty := .int) (n := 3) (y := ((h 63 1) + 1)) rfl rfl rfl (by omega) (by omega) (trivial) ?_
      show xEx G0 cdX5_step none (xRn G0 MT d) Q b 20 [some (.inr (.inr 62)), some (.inl 2), some (.inl 1)] [] (xup h 63 1 ((h 63 1) + 1))
      exact E_ret (x := (.return_, 0, [], [])) (v := none) rfl (trivial) (hQ _ (fun a z => by rw [xup_o _ _ _ _ a z]) (fun z => by
        simp only [ptN, PTS, ptx, pty, ptz, xup] at *
        simp at *
        omega))
set_option maxHeartbeats 1000000 in
theorem c_start3 (d b : Nat) (h : xH) {Q : xO → xH → Prop} (hQ : ∀ h', (∀ a, a ≠ 63 → h' a = h a) → PTS h' 3 0 → Q (.inl (some (.inl 6859))) h') : xRn G0 MT (d + 1) b 43 [.inr (.inr 62), .inl 3] h Q := by
  refine R_of (M := mX5_start) rfl (Nat.le_of_ble_eq_true rfl) ?_
  show xEx G0 cdX5_start (some .int) (xRn G0 MT d) Q b 0 [some (.inr (.inr 62)), some (.inl 3), none, none] [] h
  refine E_s 6 (i' := 6) (ls' := [some (.inr (.inr 62)), some (.inl 3), some (.inl 1), some (.inl 0)]) (sk' := [.inl 3, .inl 0]) (h' := h) rfl ?_
  refine E_b (x := (.if_icmp .ge 40, 28, [], [])) rfl rfl (fun c6 => ?_) (fun c6 => ?_)
  · show xEx G0 cdX5_start (some .int) (xRn G0 MT d) Q b 28 [some (.inr (.inr 62)), some (.inl 3), some (.inl 1), some (.inl 0)] [] h
    exact absurd c6 (by decide)
  · show xEx G0 cdX5_start (some .int) (xRn G0 MT d) Q b 7 [some (.inr (.inr 62)), some (.inl 3), some (.inl 1), some (.inl 0)] [] h
    refine E_s 5 (i' := 12) (ls' := [some (.inr (.inr 62)), some (.inl 3), some (.inl 1), some (.inl 0)]) (sk' := [.inl 3, .inl 0, .inl 0, .inr (.inr 63)]) (h' := h) rfl ?_
    refine E_b (x := (.if_icmp .ge 8, 15, [], [])) rfl rfl (fun c12 => ?_) (fun c12 => ?_)
    · show xEx G0 cdX5_start (some .int) (xRn G0 MT d) Q b 15 [some (.inr (.inr 62)), some (.inl 3), some (.inl 1), some (.inl 0)] [.inl 0, .inr (.inr 63)] h
      exact absurd c12 (by decide)
    · show xEx G0 cdX5_start (some .int) (xRn G0 MT d) Q b 13 [some (.inr (.inr 62)), some (.inl 3), some (.inl 1), some (.inl 0)] [.inl 0, .inr (.inr 63)] h
      refine E_s 2 (i' := 16) (ls' := [some (.inr (.inr 62)), some (.inl 3), some (.inl 1), some (.inl 0)]) (sk' := [.inl (-9), .inl 0, .inr (.inr 63)]) (h' := h) rfl ?_
      refine E_sd (x := (.iastore, 0, [], [])) (ty := .int) (n := 3) (y := (-9)) rfl rfl rfl (by omega) (by omega) (trivial) ?_
      show xEx G0 cdX5_start (some .int) (xRn G0 MT d) Q b 17 [some (.inr (.inr 62)), some (.inl 3), some (.inl 1), some (.inl 0)] [] (xup h 63 0 (-9))
      refine E_s 2 (i' := 19) (ls' := [some (.inr (.inr 62)), some (.inl 3), some (.inl 1), some (.inl 0)]) (sk' := [.inl 3, .inl 0]) (h' := (xup h 63 0 (-9))) rfl ?_
      refine E_b (x := (.if_icmp .ge 10, 24, [], [])) rfl rfl (fun c19 => ?_) (fun c19 => ?_)
      · show xEx G0 cdX5_start (some .int) (xRn G0 MT d) Q b 24 [some (.inr (.inr 62)), some (.inl 3), some (.inl 1), some (.inl 0)] [] (xup h 63 0 (-9))
        exact absurd c19 (by decide)
      · show xEx G0 cdX5_start (some .int) (xRn G0 MT d) Q b 20 [some (.inr (.inr 62)), some (.inl 3), some (.inl 1), some (.inl 0)] [] (xup h 63 0 (-9))
        refine E_s 9 (i' := 6) (ls' := [some (.inr (.inr 62)), some (.inl 3), some (.inl 19), some (.inl 1)]) (sk' := [.inl 3, .inl 1]) (h' := (xup h 63 0 (-9))) rfl ?_
        refine E_b (x := (.if_icmp .ge 40, 28, [], [])) rfl rfl (fun c6 => ?_) (fun c6 => ?_)
        · show xEx G0 cdX5_start (some .int) (xRn G0 MT d) Q b 28 [some (.inr (.inr 62)), some (.inl 3), some (.inl 19), some (.inl 1)] [] (xup h 63 0 (-9))
          exact absurd c6 (by decide)
        · show xEx G0 cdX5_start (some .int) (xRn G0 MT d) Q b 7 [some (.inr (.inr 62)), some (.inl 3), some (.inl 19), some (.inl 1)] [] (xup h 63 0 (-9))
          refine E_s 5 (i' := 12) (ls' := [some (.inr (.inr 62)), some (.inl 3), some (.inl 19), some (.inl 1)]) (sk' := [.inl 3, .inl 1, .inl 1, .inr (.inr 63)]) (h' := (xup h 63 0 (-9))) rfl ?_
          refine E_b (x := (.if_icmp .ge 8, 15, [], [])) rfl rfl (fun c12 => ?_) (fun c12 => ?_)
          · show xEx G0 cdX5_start (some .int) (xRn G0 MT d) Q b 15 [some (.inr (.inr 62)), some (.inl 3), some (.inl 19), some (.inl 1)] [.inl 1, .inr (.inr 63)] (xup h 63 0 (-9))
            exact absurd c12 (by decide)
          · show xEx G0 cdX5_start (some .int) (xRn G0 MT d) Q b 13 [some (.inr (.inr 62)), some (.inl 3), some (.inl 19), some (.inl 1)] [.inl 1, .inr (.inr 63)] (xup h 63 0 (-9))
            refine E_s 2 (i' := 16) (ls' := [some (.inr (.inr 62)), some (.inl 3), some (.inl 19), some (.inl 1)]) (sk' := [.inl (-9), .inl 1, .inr (.inr 63)]) (h' := (xup h 63 0 (-9))) rfl ?_
            refine E_sd (x := (.iastore, 0, [], [])) (ty := .int) (n := 3) (y := (-9)) rfl rfl rfl (by omega) (by omega) (trivial) ?_
            show xEx G0 cdX5_start (some .int) (xRn G0 MT d) Q b 17 [some (.inr (.inr 62)), some (.inl 3), some (.inl 19), some (.inl 1)] [] (xup (xup h 63 0 (-9)) 63 1 (-9))
            refine E_s 2 (i' := 19) (ls' := [some (.inr (.inr 62)), some (.inl 3), some (.inl 19), some (.inl 1)]) (sk' := [.inl 3, .inl 1]) (h' := (xup (xup h 63 0 (-9)) 63 1 (-9))) rfl ?_
            refine E_b (x := (.if_icmp .ge 10, 24, [], [])) rfl rfl (fun c19 => ?_) (fun c19 => ?_)
            · show xEx G0 cdX5_start (some .int) (xRn G0 MT d) Q b 24 [some (.inr (.inr 62)), some (.inl 3), some (.inl 19), some (.inl 1)] [] (xup (xup h 63 0 (-9)) 63 1 (-9))
              exact absurd c19 (by decide)
            · show xEx G0 cdX5_start (some .int) (xRn G0 MT d) Q b 20 [some (.inr (.inr 62)), some (.inl 3), some (.inl 19), some (.inl 1)] [] (xup (xup h 63 0 (-9)) 63 1 (-9))
              refine E_s 9 (i' := 6) (ls' := [some (.inr (.inr 62)), some (.inl 3), some (.inl 361), some (.inl 2)]) (sk' := [.inl 3, .inl 2]) (h' := (xup (xup h 63 0 (-9)) 63 1 (-9))) rfl ?_
              refine E_b (x := (.if_icmp .ge 40, 28, [], [])) rfl rfl (fun c6 => ?_) (fun c6 => ?_)
              · show xEx G0 cdX5_start (some .int) (xRn G0 MT d) Q b 28 [some (.inr (.inr 62)), some (.inl 3), some (.inl 361), some (.inl 2)] [] (xup (xup h 63 0 (-9)) 63 1 (-9))
                exact absurd c6 (by decide)
              · show xEx G0 cdX5_start (some .int) (xRn G0 MT d) Q b 7 [some (.inr (.inr 62)), some (.inl 3), some (.inl 361), some (.inl 2)] [] (xup (xup h 63 0 (-9)) 63 1 (-9))
                refine E_s 5 (i' := 12) (ls' := [some (.inr (.inr 62)), some (.inl 3), some (.inl 361), some (.inl 2)]) (sk' := [.inl 3, .inl 2, .inl 2, .inr (.inr 63)]) (h' := (xup (xup h 63 0 (-9)) 63 1 (-9))) rfl ?_
                refine E_b (x := (.if_icmp .ge 8, 15, [], [])) rfl rfl (fun c12 => ?_) (fun c12 => ?_)
                · show xEx G0 cdX5_start (some .int) (xRn G0 MT d) Q b 15 [some (.inr (.inr 62)), some (.inl 3), some (.inl 361), some (.inl 2)] [.inl 2, .inr (.inr 63)] (xup (xup h 63 0 (-9)) 63 1 (-9))
                  exact absurd c12 (by decide)
                · show xEx G0 cdX5_start (some .int) (xRn G0 MT d) Q b 13 [some (.inr (.inr 62)), some (.inl 3), some (.inl 361), some (.inl 2)] [.inl 2, .inr (.inr 63)] (xup (xup h 63 0 (-9)) 63 1 (-9))
                  refine E_s 2 (i' := 16) (ls' := [some (.inr (.inr 62)), some (.inl 3), some (.inl 361), some (.inl 2)]) (sk' := [.inl (-9), .inl 2, .inr (.inr 63)]) (h' := (xup (xup h 63 0 (-9)) 63 1 (-9))) rfl ?_
                  refine E_sd (x := (.iastore, 0, [], [])) (ty := .int) (n := 3) (y := (-9)) rfl rfl rfl (by omega) (by omega) (trivial) ?_
                  show xEx G0 cdX5_start (some .int) (xRn G0 MT d) Q b 17 [some (.inr (.inr 62)), some (.inl 3), some (.inl 361), some (.inl 2)] [] (xup (xup (xup h 63 0 (-9)) 63 1 (-9)) 63 2 (-9))
                  refine E_s 2 (i' := 19) (ls' := [some (.inr (.inr 62)), some (.inl 3), some (.inl 361), some (.inl 2)]) (sk' := [.inl 3, .inl 2]) (h' := (xup (xup (xup h 63 0 (-9)) 63 1 (-9)) 63 2 (-9))) rfl ?_
                  refine E_b (x := (.if_icmp .ge 10, 24, [], [])) rfl rfl (fun c19 => ?_) (fun c19 => ?_)
                  · show xEx G0 cdX5_start (some .int) (xRn G0 MT d) Q b 24 [some (.inr (.inr 62)), some (.inl 3), some (.inl 361), some (.inl 2)] [] (xup (xup (xup h 63 0 (-9)) 63 1 (-9)) 63 2 (-9))
                    exact absurd c19 (by decide)
                  · show xEx G0 cdX5_start (some .int) (xRn G0 MT d) Q b 20 [some (.inr (.inr 62)), some (.inl 3), some (.inl 361), some (.inl 2)] [] (xup (xup (xup h 63 0 (-9)) 63 1 (-9)) 63 2 (-9))
                    refine E_s 9 (i' := 6) (ls' := [some (.inr (.inr 62)), some (.inl 3), some (.inl 6859), some (.inl 3)]) (sk' := [.inl 3, .inl 3]) (h' := (xup (xup (xup h 63 0 (-9)) 63 1 (-9)) 63 2 (-9))) rfl ?_
                    refine E_b (x := (.if_icmp .ge 40, 28, [], [])) rfl rfl (fun c6 => ?_) (fun c6 => ?_)
                    · show xEx G0 cdX5_start (some .int) (xRn G0 MT d) Q b 28 [some (.inr (.inr 62)), some (.inl 3), some (.inl 6859), some (.inl 3)] [] (xup (xup (xup h 63 0 (-9)) 63 1 (-9)) 63 2 (-9))
                      refine E_s 1 (i' := 29) (ls' := [some (.inr (.inr 62)), some (.inl 3), some (.inl 6859), some (.inl 3)]) (sk' := [.inl 6859]) (h' := (xup (xup (xup h 63 0 (-9)) 63 1 (-9)) 63 2 (-9))) rfl ?_
                      exact E_ret (x := (.ireturn, 0, [], [])) (v := some (.inl 6859)) rfl (Or.inl rfl) (hQ _ (fun a z => by rw [xup_o _ _ _ _ a z, xup_o _ _ _ _ a z, xup_o _ _ _ _ a z]) ⟨rfl, rfl, rfl⟩)
                    · show xEx G0 cdX5_start (some .int) (xRn G0 MT d) Q b 7 [some (.inr (.inr 62)), some (.inl 3), some (.inl 6859), some (.inl 3)] [] (xup (xup (xup h 63 0 (-9)) 63 1 (-9)) 63 2 (-9))
                      exact absurd c6 (by decide)
set_option maxHeartbeats 1000000 in
theorem c_step3 (d b : Nat) (h : xH) (p : Int) (h0 : 0 ≤ p) (h1 : p < ptN 3) (hp : PTS h 3 p) {Q : xO → xH → Prop} (hQ : ∀ h', (∀ a, a ≠ 63 → h' a = h a) → (p + 1 < ptN 3 → PTS h' 3 (p + 1)) → Q (.inl none) h') : xRn G0 MT (d + 1) b 44 [.inr (.inr 62), .inl 3] h Q := by
  refine R_of (M := mX5_step) rfl (Nat.le_of_ble_eq_true rfl) ?_
  show xEx G0 cdX5_step none (xRn G0 MT d) Q b 0 [some (.inr (.inr 62)), some (.inl 3), none] [] h
  have pr := pt_r (m := 3) (by omega) h0 h1
  obtain ⟨p0, p1, p2⟩ := id hp
  rw [← p0, ← p1, ← p2] at pr
  refine E_s 5 (i' := 5) (ls' := [some (.inr (.inr 62)), some (.inl 3), some (.inl 2)]) (sk' := [.inl 2]) (h' := h) rfl ?_
  refine E_b (x := (.ifCond .lt 39, 28, [], [])) rfl rfl (fun c5 => ?_) (fun c5 => ?_)
  · show xEx G0 cdX5_step none (xRn G0 MT d) Q b 28 [some (.inr (.inr 62)), some (.inl 3), some (.inl 2)] [] h
    exact absurd c5 (by decide)
  · show xEx G0 cdX5_step none (xRn G0 MT d) Q b 6 [some (.inr (.inr 62)), some (.inl 3), some (.inl 2)] [] h
    refine E_s 3 (i' := 9) (ls' := [some (.inr (.inr 62)), some (.inl 3), some (.inl 2)]) (sk' := [.inl 2, .inr (.inr 63)]) (h' := h) rfl ?_
    refine E_ld (x := (.iaload, 0, [], [])) (ty := .int) (n := 3) rfl rfl rfl (by omega) (by omega) ?_
    show xEx G0 cdX5_step none (xRn G0 MT d) Q b 10 [some (.inr (.inr 62)), some (.inl 3), some (.inl 2)] [.inl (h 63 2)] h
    refine E_s 1 (i' := 11) (ls' := [some (.inr (.inr 62)), some (.inl 3), some (.inl 2)]) (sk' := [.inl 9, .inl (h 63 2)]) (h' := h) rfl ?_
    refine E_b (x := (.if_icmp .ge 14, 21, [], [])) rfl rfl (fun c11 => ?_) (fun c11 => ?_)
    · rw [c_ge (by first | assumption | (refine ⟨?_, ?_⟩ <;> omega) | (simp only [xr] at *; omega)) (by first | assumption | (refine ⟨?_, ?_⟩ <;> omega) | (simp only [xr] at *; omega))] at c11
      simp only [decide_eq_true_eq, decide_eq_false_iff_not, Decidable.not_not] at c11
      show xEx G0 cdX5_step none (xRn G0 MT d) Q b 21 [some (.inr (.inr 62)), some (.inl 3), some (.inl 2)] [] h
      refine E_s 4 (i' := 25) (ls' := [some (.inr (.inr 62)), some (.inl 3), some (.inl 2)]) (sk' := [.inl (-9), .inl 2, .inr (.inr 63)]) (h' := h) rfl ?_
      refine E_sd (x := (.iastore, 0, [], [])) (ty := .int) (n := 3) (y := (-9)) rfl rfl rfl (by omega) (by omega) (trivial) ?_
      show xEx G0 cdX5_step none (xRn G0 MT d) Q b 26 [some (.inr (.inr 62)), some (.inl 3), some (.inl 2)] [] (xup h 63 2 (-9))
      refine E_s 3 (i' := 5) (ls' := [some (.inr (.inr 62)), some (.inl 3), some (.inl 1)]) (sk' := [.inl 1]) (h' := (xup h 63 2 (-9))) rfl ?_
      refine E_b (x := (.ifCond .lt 39, 28, [], [])) rfl rfl (fun c5 => ?_) (fun c5 => ?_)
      · show xEx G0 cdX5_step none (xRn G0 MT d) Q b 28 [some (.inr (.inr 62)), some (.inl 3), some (.inl 1)] [] (xup h 63 2 (-9))
        exact absurd c5 (by decide)
      · show xEx G0 cdX5_step none (xRn G0 MT d) Q b 6 [some (.inr (.inr 62)), some (.inl 3), some (.inl 1)] [] (xup h 63 2 (-9))
        refine E_s 3 (i' := 9) (ls' := [some (.inr (.inr 62)), some (.inl 3), some (.inl 1)]) (sk' := [.inl 1, .inr (.inr 63)]) (h' := (xup h 63 2 (-9))) rfl ?_
        refine E_ld (x := (.iaload, 0, [], [])) (ty := .int) (n := 3) rfl rfl rfl (by omega) (by omega) ?_
        show xEx G0 cdX5_step none (xRn G0 MT d) Q b 10 [some (.inr (.inr 62)), some (.inl 3), some (.inl 1)] [.inl (h 63 1)] (xup h 63 2 (-9))
        refine E_s 1 (i' := 11) (ls' := [some (.inr (.inr 62)), some (.inl 3), some (.inl 1)]) (sk' := [.inl 9, .inl (h 63 1)]) (h' := (xup h 63 2 (-9))) rfl ?_
        refine E_b (x := (.if_icmp .ge 14, 21, [], [])) rfl rfl (fun c11 => ?_) (fun c11 => ?_)
        · rw [c_ge (by first | assumption | (refine ⟨?_, ?_⟩ <;> omega) | (simp only [xr] at *; omega)) (by first | assumption | (refine ⟨?_, ?_⟩ <;> omega) | (simp only [xr] at *; omega))] at c11
          simp only [decide_eq_true_eq, decide_eq_false_iff_not, Decidable.not_not] at c11
          show xEx G0 cdX5_step none (xRn G0 MT d) Q b 21 [some (.inr (.inr 62)), some (.inl 3), some (.inl 1)] [] (xup h 63 2 (-9))
          refine E_s 4 (i' := 25) (ls' := [some (.inr (.inr 62)), some (.inl 3), some (.inl 1)]) (sk' := [.inl (-9), .inl 1, .inr (.inr 63)]) (h' := (xup h 63 2 (-9))) rfl ?_
          refine E_sd (x := (.iastore, 0, [], [])) (ty := .int) (n := 3) (y := (-9)) rfl rfl rfl (by omega) (by omega) (trivial) ?_
          show xEx G0 cdX5_step none (xRn G0 MT d) Q b 26 [some (.inr (.inr 62)), some (.inl 3), some (.inl 1)] [] (xup (xup h 63 2 (-9)) 63 1 (-9))
          refine E_s 3 (i' := 5) (ls' := [some (.inr (.inr 62)), some (.inl 3), some (.inl 0)]) (sk' := [.inl 0]) (h' := (xup (xup h 63 2 (-9)) 63 1 (-9))) rfl ?_
          refine E_b (x := (.ifCond .lt 39, 28, [], [])) rfl rfl (fun c5 => ?_) (fun c5 => ?_)
          · show xEx G0 cdX5_step none (xRn G0 MT d) Q b 28 [some (.inr (.inr 62)), some (.inl 3), some (.inl 0)] [] (xup (xup h 63 2 (-9)) 63 1 (-9))
            exact absurd c5 (by decide)
          · show xEx G0 cdX5_step none (xRn G0 MT d) Q b 6 [some (.inr (.inr 62)), some (.inl 3), some (.inl 0)] [] (xup (xup h 63 2 (-9)) 63 1 (-9))
            refine E_s 3 (i' := 9) (ls' := [some (.inr (.inr 62)), some (.inl 3), some (.inl 0)]) (sk' := [.inl 0, .inr (.inr 63)]) (h' := (xup (xup h 63 2 (-9)) 63 1 (-9))) rfl ?_
            refine E_ld (x := (.iaload, 0, [], [])) (ty := .int) (n := 3) rfl rfl rfl (by omega) (by omega) ?_
            show xEx G0 cdX5_step none (xRn G0 MT d) Q b 10 [some (.inr (.inr 62)), some (.inl 3), some (.inl 0)] [.inl (h 63 0)] (xup (xup h 63 2 (-9)) 63 1 (-9))
            refine E_s 1 (i' := 11) (ls' := [some (.inr (.inr 62)), some (.inl 3), some (.inl 0)]) (sk' := [.inl 9, .inl (h 63 0)]) (h' := (xup (xup h 63 2 (-9)) 63 1 (-9))) rfl ?_
            refine E_b (x := (.if_icmp .ge 14, 21, [], [])) rfl rfl (fun c11 => ?_) (fun c11 => ?_)
            · rw [c_ge (by first | assumption | (refine ⟨?_, ?_⟩ <;> omega) | (simp only [xr] at *; omega)) (by first | assumption | (refine ⟨?_, ?_⟩ <;> omega) | (simp only [xr] at *; omega))] at c11
              simp only [decide_eq_true_eq, decide_eq_false_iff_not, Decidable.not_not] at c11
              show xEx G0 cdX5_step none (xRn G0 MT d) Q b 21 [some (.inr (.inr 62)), some (.inl 3), some (.inl 0)] [] (xup (xup h 63 2 (-9)) 63 1 (-9))
              refine E_s 4 (i' := 25) (ls' := [some (.inr (.inr 62)), some (.inl 3), some (.inl 0)]) (sk' := [.inl (-9), .inl 0, .inr (.inr 63)]) (h' := (xup (xup h 63 2 (-9)) 63 1 (-9))) rfl ?_
              refine E_sd (x := (.iastore, 0, [], [])) (ty := .int) (n := 3) (y := (-9)) rfl rfl rfl (by omega) (by omega) (trivial) ?_
              show xEx G0 cdX5_step none (xRn G0 MT d) Q b 26 [some (.inr (.inr 62)), some (.inl 3), some (.inl 0)] [] (xup (xup (xup h 63 2 (-9)) 63 1 (-9)) 63 0 (-9))
              refine E_s 3 (i' := 5) (ls' := [some (.inr (.inr 62)), some (.inl 3), some (.inl (-1))]) (sk' := [.inl (-1)]) (h' := (xup (xup (xup h 63 2 (-9)) 63 1 (-9)) 63 0 (-9))) rfl ?_
              refine E_b (x := (.ifCond .lt 39, 28, [], [])) rfl rfl (fun c5 => ?_) (fun c5 => ?_)
              · show xEx G0 cdX5_step none (xRn G0 MT d) Q b 28 [some (.inr (.inr 62)), some (.inl 3), some (.inl (-1))] [] (xup (xup (xup h 63 2 (-9)) 63 1 (-9)) 63 0 (-9))
                exact E_ret (x := (.return_, 0, [], [])) (v := none) rfl (trivial) (hQ _ (fun a z => by rw [xup_o _ _ _ _ a z, xup_o _ _ _ _ a z, xup_o _ _ _ _ a z]) (fun z => by
                  simp only [ptN, PTS, ptx, pty, ptz, xup] at *
                  simp at *
                  omega))
              · show xEx G0 cdX5_step none (xRn G0 MT d) Q b 6 [some (.inr (.inr 62)), some (.inl 3), some (.inl (-1))] [] (xup (xup (xup h 63 2 (-9)) 63 1 (-9)) 63 0 (-9))
                exact absurd c5 (by decide)
            · rw [c_ge (by first | assumption | (refine ⟨?_, ?_⟩ <;> omega) | (simp only [xr] at *; omega)) (by first | assumption | (refine ⟨?_, ?_⟩ <;> omega) | (simp only [xr] at *; omega))] at c11
              simp only [decide_eq_true_eq, decide_eq_false_iff_not, Decidable.not_not] at c11
              show xEx G0 cdX5_step none (xRn G0 MT d) Q b 12 [some (.inr (.inr 62)), some (.inl 3), some (.inl 0)] [] (xup (xup h 63 2 (-9)) 63 1 (-9))
              refine E_s 4 (i' := 16) (ls' := [some (.inr (.inr 62)), some (.inl 3), some (.inl 0)]) (sk' := [.inl 0, .inr (.inr 63), .inl 0, .inr (.inr 63)]) (h' := (xup (xup h 63 2 (-9)) 63 1 (-9))) rfl ?_
              refine E_ld (x := (.iaload, 0, [], [])) (ty := .int) (n := 3) rfl rfl rfl (by omega) (by omega) ?_
              show xEx G0 cdX5_step none (xRn G0 MT d) Q b 17 [some (.inr (.inr 62)), some (.inl 3), some (.inl 0)] [.inl (h 63 0), .inl 0, .inr (.inr 63)] (xup (xup h 63 2 (-9)) 63 1 (-9))
              refine E_s 2 (i' := 19) (ls' := [some (.inr (.inr 62)), some (.inl 3), some (.inl 0)]) (sk' := [.inl ((h 63 0) + 1), .inl 0, .inr (.inr 63)]) (h' := (xup (xup h 63 2 (-9)) 63 1 (-9))) rfl ?_
              refine E_sd (x := (.iastore, 0, [], [])) (ty := .int) (n := 3) (y := ((h 63 0) + 1)) rfl rfl rfl (by omega) (by omega) (trivial) ?_
              show xEx G0 cdX5_step none (xRn G0 MT d) Q b 20 [some (.inr (.inr 62)), some (.inl 3), some (.inl 0)] [] (xup (xup (xup h 63 2 (-9)) 63 1 (-9)) 63 0 ((h 63 0) + 1))
              exact E_ret (x := (.return_, 0, [], [])) (v := none) rfl (trivial) (hQ _ (fun a z => by rw [xup_o _ _ _ _ a z, xup_o _ _ _ _ a z, xup_o _ _ _ _ a z]) (fun z => by
                simp only [ptN, PTS, ptx, pty, ptz, xup] at *
                simp at *
                omega))
        · rw [c_ge (by first | assumption | (refine ⟨?_, ?_⟩ <;> omega) | (simp only [xr] at *; omega)) (by first | assumption | (refine ⟨?_, ?_⟩ <;> omega) | (simp only [xr] at *; omega))] at c11
          simp only [decide_eq_true_eq, decide_eq_false_iff_not, Decidable.not_not] at c11
          show xEx G0 cdX5_step none (xRn G0 MT d) Q b 12 [some (.inr (.inr 62)), some (.inl 3), some (.inl 1)] [] (xup h 63 2 (-9))
          refine E_s 4 (i' := 16) (ls' := [some (.inr (.inr 62)), some (.inl 3), some (.inl 1)]) (sk' := [.inl 1, .inr (.inr 63), .inl 1, .inr (.inr 63)]) (h' := (xup h 63 2 (-9))) rfl ?_
          refine E_ld (x := (.iaload, 0, [], [])) (ty := .int) (n := 3) rfl rfl rfl (by omega) (by omega) ?_
          show xEx G0 cdX5_step none (xRn G0 MT d) Q b 17 [some (.inr (.inr 62)), some (.inl 3), some (.inl 1)] [.inl (h 63 1), .inl 1, .inr (.inr 63)] (xup h 63 2 (-9))
          refine E_s 2 (i' := 19) (ls' := [some (.inr (.inr 62)), some (.inl 3), some (.inl 1)]) (sk' := [.inl ((h 63 1) + 1), .inl 1, .inr (.inr 63)]) (h' := (xup h 63 2 (-9))) rfl ?_
          refine E_sd (x := (.iastore, 0, [], [])) (ty := .int) (n := 3) (y := ((h 63 1) + 1)) rfl rfl rfl (by omega) (by omega) (trivial) ?_
          show xEx G0 cdX5_step none (xRn G0 MT d) Q b 20 [some (.inr (.inr 62)), some (.inl 3), some (.inl 1)] [] (xup (xup h 63 2 (-9)) 63 1 ((h 63 1) + 1))
          exact E_ret (x := (.return_, 0, [], [])) (v := none) rfl (trivial) (hQ _ (fun a z => by rw [xup_o _ _ _ _ a z, xup_o _ _ _ _ a z]) (fun z => by
            simp only [ptN, PTS, ptx, pty, ptz, xup] at *
            simp at *
            omega))
    · rw [c_ge (by first | assumption | (refine ⟨?_, ?_⟩ <;> omega) | (simp only [xr] at *; omega)) (by first | assumption | (refine ⟨?_, ?_⟩ <;> omega) | (simp only [xr] at *; omega))] at c11
      simp only [decide_eq_true_eq, decide_eq_false_iff_not, Decidable.not_not] at c11
      show xEx G0 cdX5_step none (xRn G0 MT d) Q b 12 [some (.inr (.inr 62)), some (.inl 3), some (.inl 2)] [] h
      refine E_s 4 (i' := 16) (ls' := [some (.inr (.inr 62)), some (.inl 3), some (.inl 2)]) (sk' := [.inl 2, .inr (.inr 63), .inl 2, .inr (.inr 63)]) (h' := h) rfl ?_
      refine E_ld (x := (.iaload, 0, [], [])) (ty := .int) (n := 3) rfl rfl rfl (by omega) (by omega) ?_
      show xEx G0 cdX5_step none (xRn G0 MT d) Q b 17 [some (.inr (.inr 62)), some (.inl 3), some (.inl 2)] [.inl (h 63 2), .inl 2, .inr (.inr 63)] h
      refine E_s 2 (i' := 19) (ls' := [some (.inr (.inr 62)), some (.inl 3), some (.inl 2)]) (sk' := [.inl ((h 63 2) + 1), .inl 2, .inr (.inr 63)]) (h' := h) rfl ?_
      refine E_sd (x := (.iastore, 0, [], [])) (ty := .int) (n := 3) (y := ((h 63 2) + 1)) rfl rfl rfl (by omega) (by omega) (trivial) ?_
      show xEx G0 cdX5_step none (xRn G0 MT d) Q b 20 [some (.inr (.inr 62)), some (.inl 3), some (.inl 2)] [] (xup h 63 2 ((h 63 2) + 1))
      exact E_ret (x := (.return_, 0, [], [])) (v := none) rfl (trivial) (hQ _ (fun a z => by rw [xup_o _ _ _ _ a z]) (fun z => by
        simp only [ptN, PTS, ptx, pty, ptz, xup] at *
        simp at *
        omega))
