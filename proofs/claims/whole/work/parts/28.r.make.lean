/-- the reference's make at the head of its turns -/
def ML (d b : Nat) (ifs s mE mT te : Int) (l6 : Option xV) (g : xH) (Q : xO → xH → Prop) : Prop := xEx G0 cdX12_make (some .int) (xRn G0 MT (d + 6)) Q b 38 [some (.inr (.inr 66)), some (.inl ifs), some (.inl s), some (.inl mE), some (.inl mT), some (.inl te), l6] [] g
theorem RI_sv2 {h h1 g g2 S T : xH} (h3 : S 0 0 ≤ 300) (h4 : T 0 0 ≤ 150) (r : RI h g S T) (e : ∀ a, (a < 44 ∨ 58 < a) → h1 a = h a) (q2 : ∀ a, a ≠ 66 → (a < 98 ∨ 107 < a) → g2 a = g a) (q3 : ∀ j, j ≠ 50 → j ≠ 51 → j ≠ 60 → g2 66 j = g 66 j) (dp : DP h1 g2) : RI h1 g2 S T := by
  obtain ⟨a, b, c, d, x⟩ := r
  have u : ∀ a, 66 < a → a < 98 → g2 a = g a := fun a z1 z2 => q2 a (by omega) (by omega)
  have m : ∀ j, j ≠ 50 → j ≠ 51 → j ≠ 60 → g2 66 j = g 66 j := q3
  have a' := DB_fr (g' := g2) ⟨m 4 (by decide) (by decide) (by decide), m 1 (by decide) (by decide) (by decide), m 6 (by decide) (by decide) (by decide), m 3 (by decide) (by decide) (by decide), m 2 (by decide) (by decide) (by decide)⟩ (u _ (by decide) (by decide)) (u _ (by decide) (by decide)) a
  have b' := DE_fr (g' := g2) h3 (m 8 (by decide) (by decide) (by decide)) (m 4 (by decide) (by decide) (by decide)) (by rw [u 89 (by decide) (by decide)]) (fun k _ => ⟨by rw [u 69 (by decide) (by decide)], by rw [u 70 (by decide) (by decide)], by rw [u 71 (by decide) (by decide)]⟩) (fun a z1 z2 => u a (by omega) (by omega)) ⟨by rw [u 88 (by decide) (by decide)], by rw [u 91 (by decide) (by decide)], by rw [u 90 (by decide) (by decide)]⟩ b
  have c' := DT_fr (g' := g2) h4 (m 19 (by decide) (by decide) (by decide)) (m 33 (by decide) (by decide) (by decide)) (by rw [u 89 (by decide) (by decide)]) (fun k _ => ⟨by rw [u 79 (by decide) (by decide)], by rw [u 80 (by decide) (by decide)], by rw [u 81 (by decide) (by decide)]⟩) (fun a z1 z2 => u a (by omega) (by omega)) ⟨by rw [u 88 (by decide) (by decide)], by rw [u 91 (by decide) (by decide)], by rw [u 90 (by decide) (by decide)]⟩ c
  have x' := DX_fr (g' := g2) (m 45 (by decide) (by decide) (by decide)) (u _ (by decide) (by decide)) x
  refine ⟨?_, ?_, ?_, dp, ?_⟩
  · unfold DB; rw [e 1 (by decide), e 3 (by decide), e 4 (by decide), e 5 (by decide), e 6 (by decide), e 7 (by decide), e 8 (by decide), e 0 (by decide)]; exact a'
  · unfold DE; rw [e 9 (by decide)]; exact b'
  · unfold DT; rw [e 28 (by decide)]; exact c'
  · unfold DX; rw [e 64 (by decide), e 65 (by decide)]; exact x'
/-- both have sought a PROGRAM -/
theorem RI_set {h h1 g g2 S T : xH} {m : Nat} {ifs : Int} (ci : CI h S T) (r : RI h g S T) (s : SETP h h1 S T m ifs) (t : SOLP g g2 S T ifs) : RI h1 g2 S T := by
  obtain ⟨s1, s2, s3⟩ := s
  obtain ⟨t1, t2, t3⟩ := t
  obtain ⟨-, -, v3, -, -, v6⟩ := EV_ci ci
  have e5 : g 66 4 = h 1 2 := r.1.1
  rw [e5] at t3
  have dp : DP h1 g2 := by
    rcases s3 with ⟨y1, y2⟩ | ⟨y1, y2, y3, y4, y5⟩
    · rcases t3 with ⟨w1, w2⟩ | ⟨w1, -⟩
      · exact ⟨by rw [w2, y2], fun z9 => by omega⟩
      · omega
    · rcases t3 with ⟨w1, -⟩ | ⟨w1, w2, w3, w4, w5, w6⟩
      · omega
      · refine ⟨by rw [w2, y2], fun _ => ⟨by rw [w4, y3], by rw [w3, y4], fun nd z1 z2 => ?_, w6⟩⟩
        obtain ⟨a, b⟩ := TV_eq 3 ifs.toNat 0 _ y5 w5 nd (sb3 z1 z2)
        exact ⟨a.symm, b.symm⟩
  exact RI_sv2 v3.2 v6.2 r (fun a z => s1 a (by omega)) t1 t2 dp
set_option maxHeartbeats 4000000 in
theorem mk_E (d b : Nat) (g : xH) (ifs : Int) (l6 : Option xV) (hh SS TT : xH) (left r : Int) (hi : 0 ≤ ifs ∧ ifs ≤ 3) (he : hh 1 2 ≠ 0) (ci : CI hh SS TT) (ri : RI hh g SS TT) (lr : 0 ≤ left ∧ left ≤ 20000) (hl : g 66 35 = left) (mT : Int) (h1 S1 : xH) (G : GEr hh SS left r h1 S1) (ce1 : CE h1 S1) (st1 : STB SS S1) (f1 : FA hh h1) (ci1 : CI h1 S1 TT) {Q : xO → xH → Prop} (hB : r = 2 → ∀ g1, RI h1 g1 S1 TT → FS g g1 → Q (.inl (some (.inl (-2)))) g1) (hN : r ≠ 2 → ∀ (e2 : Int) g1 g2 l9, e2 = (if r = 0 then 1 else 0) → RI h1 g1 S1 TT → FS g g1 → g1 66 35 = left - (S1 0 2 - SS 0 2) → SOLP g1 g2 S1 TT ifs → ML d b ifs (sno (szf S1 TT (S1 0 0) (TT 0 0) (-1) ifs.toNat (xshl 1 (g1 66 4) - 1))) e2 mT 1 l9 g2 Q) : ML d b ifs (-1) 1 mT 0 l6 g Q := by
  have gr := (GE_f ci.1 ci.2.1 lr G).1
  have x1 : h1 1 = hh 1 := f1.1 _ (by decide)
  show xEx G0 cdX12_make (some .int) (xRn G0 MT (d + 6)) Q b 38 [some (.inr (.inr 66)), some (.inl ifs), some (.inl (-1)), some (.inl 1), some (.inl mT), some (.inl 0), l6] [] g
  refine E_s 2 (i' := 40) (ls' := [some (.inr (.inr 66)), some (.inl ifs), some (.inl (-1)), some (.inl 1), some (.inl mT), some (.inl 0), l6]) (sk' := [.inl (-1), .inl (-1)]) (h' := g) rfl ?_
  refine E_b (x := (.if_icmp .ne 100, 88, [], [])) rfl rfl (fun c40 => ?_) (fun c40 => ?_)
  · show xEx G0 cdX12_make (some .int) (xRn G0 MT (d + 6)) Q b 88 [some (.inr (.inr 66)), some (.inl ifs), some (.inl (-1)), some (.inl 1), some (.inl mT), some (.inl 0), l6] [] g
    exact absurd c40 (by decide)
  · show xEx G0 cdX12_make (some .int) (xRn G0 MT (d + 6)) Q b 41 [some (.inr (.inr 66)), some (.inl ifs), some (.inl (-1)), some (.inl 1), some (.inl mT), some (.inl 0), l6] [] g
    refine E_s 1 (i' := 42) (ls' := [some (.inr (.inr 66)), some (.inl ifs), some (.inl (-1)), some (.inl 1), some (.inl mT), some (.inl 0), l6]) (sk' := [.inl 1]) (h' := g) rfl ?_
    refine E_b (x := (.ifCond .ne 8, 45, [], [])) rfl rfl (fun c42 => ?_) (fun c42 => ?_)
    · show xEx G0 cdX12_make (some .int) (xRn G0 MT (d + 6)) Q b 45 [some (.inr (.inr 66)), some (.inl ifs), some (.inl (-1)), some (.inl 1), some (.inl mT), some (.inl 0), l6] [] g
      refine E_s 1 (i' := 46) (ls' := [some (.inr (.inr 66)), some (.inl ifs), some (.inl (-1)), some (.inl 1), some (.inl mT), some (.inl 0), l6]) (sk' := [.inl 0]) (h' := g) rfl ?_
      refine E_b (x := (.ifCond .eq 11, 50, [], [])) rfl rfl (fun c46 => ?_) (fun c46 => ?_)
      · show xEx G0 cdX12_make (some .int) (xRn G0 MT (d + 6)) Q b 50 [some (.inr (.inr 66)), some (.inl ifs), some (.inl (-1)), some (.inl 1), some (.inl mT), some (.inl 0), l6] [] g
        refine E_s 1 (i' := 51) (ls' := [some (.inr (.inr 66)), some (.inl ifs), some (.inl (-1)), some (.inl 1), some (.inl mT), some (.inl 0), l6]) (sk' := [.inl 1]) (h' := g) rfl ?_
        refine E_b (x := (.ifCond .eq 59, 81, [], [])) rfl rfl (fun c51 => ?_) (fun c51 => ?_)
        · show xEx G0 cdX12_make (some .int) (xRn G0 MT (d + 6)) Q b 81 [some (.inr (.inr 66)), some (.inl ifs), some (.inl (-1)), some (.inl 1), some (.inl mT), some (.inl 0), l6] [] g
          exact absurd c51 (by decide)
        · show xEx G0 cdX12_make (some .int) (xRn G0 MT (d + 6)) Q b 52 [some (.inr (.inr 66)), some (.inl ifs), some (.inl (-1)), some (.inl 1), some (.inl mT), some (.inl 0), l6] [] g
          refine E_s 2 (i' := 54) (ls' := [some (.inr (.inr 66)), some (.inl ifs), some (.inl (-1)), some (.inl 1), some (.inl mT), some (.inl 0), l6]) (sk' := [.inl 0, .inr (.inr 66)]) (h' := g) rfl ?_
          refine E_b (x := (.ifCond .eq 7, 57, [], [])) rfl rfl (fun c54 => ?_) (fun c54 => ?_)
          · show xEx G0 cdX12_make (some .int) (xRn G0 MT (d + 6)) Q b 57 [some (.inr (.inr 66)), some (.inl ifs), some (.inl (-1)), some (.inl 1), some (.inl mT), some (.inl 0), l6] [.inr (.inr 66)] g
            refine E_s 1 (i' := 58) (ls' := [some (.inr (.inr 66)), some (.inl ifs), some (.inl (-1)), some (.inl 1), some (.inl mT), some (.inl 0), l6]) (sk' := [.inl 0, .inr (.inr 66)]) (h' := g) rfl ?_
            refine E_cp (x := (.invokevirtual 292, 1, [(10, 190)], [0])) (q := fun r9 g9 => r9 = r ∧ DE h1 g9 S1 ∧ FS g g9 ∧ (r ≠ 2 → g9 66 35 = left - (S1 0 2 - SS 0 2))) rfl rfl (Nat.le_of_ble_eq_true rfl) (b_ge d 0 hh g SS left ci.1 ci.2.1 ri.1 ri.2.1 hl lr G (fun g9 z1 z2 z3 => ⟨_, rfl, rfl, z1, z2, z3⟩)) (fun r1 g1 hq1 => ?_)
            obtain ⟨er1, de1, fs, ll⟩ := hq1
            have ri1 : RI h1 g1 S1 TT := RI_ge ci.2.2.1.2.1.2.1 f1 fs ri de1
            show xEx G0 cdX12_make (some .int) (xRn G0 MT (d + 6)) Q b 59 [some (.inr (.inr 66)), some (.inl ifs), some (.inl (-1)), some (.inl 1), some (.inl mT), some (.inl 0), l6] [.inl r1] g1
            have e41 : g1 66 4 = h1 1 2 := ri1.1.1
            have he1 : g1 66 4 ≠ 0 := by rw [e41, x1]; exact he
            obtain ⟨-, v2, v3, -, v5, v6⟩ := EV_ci ci1
            skip
            refine E_s 3 (i' := 62) (ls' := [some (.inr (.inr 66)), some (.inl ifs), some (.inl (-1)), some (.inl 1), some (.inl mT), some (.inl 0), some (.inl r1)]) (sk' := [.inl 2, .inl r1]) (h' := g1) rfl ?_
            refine E_b (x := (.if_icmp .ne 6, 65, [], [])) rfl rfl (fun c62 => ?_) (fun c62 => ?_)
            · rw [c_ne (by first | assumption | (refine ⟨?_, ?_⟩ <;> omega) | (simp only [xr] at *; omega)) (by first | assumption | (refine ⟨?_, ?_⟩ <;> omega) | (simp only [xr] at *; omega))] at c62
              simp only [decide_eq_true_eq, decide_eq_false_iff_not, Decidable.not_not] at c62
              show xEx G0 cdX12_make (some .int) (xRn G0 MT (d + 6)) Q b 65 [some (.inr (.inr 66)), some (.inl ifs), some (.inl (-1)), some (.inl 1), some (.inl mT), some (.inl 0), some (.inl r1)] [] g1
              refine E_s 1 (i' := 66) (ls' := [some (.inr (.inr 66)), some (.inl ifs), some (.inl (-1)), some (.inl 1), some (.inl mT), some (.inl 0), some (.inl r1)]) (sk' := [.inl r1]) (h' := g1) rfl ?_
              refine E_b (x := (.ifCond .le 11, 71, [], [])) rfl rfl (fun c66 => ?_) (fun c66 => ?_)
              · rw [c_le (by first | assumption | (refine ⟨?_, ?_⟩ <;> omega) | (simp only [xr] at *; omega)) (by first | assumption | (refine ⟨?_, ?_⟩ <;> omega) | (simp only [xr] at *; omega))] at c66
                simp only [decide_eq_true_eq, decide_eq_false_iff_not, Decidable.not_not] at c66
                show xEx G0 cdX12_make (some .int) (xRn G0 MT (d + 6)) Q b 71 [some (.inr (.inr 66)), some (.inl ifs), some (.inl (-1)), some (.inl 1), some (.inl mT), some (.inl 0), some (.inl r1)] [] g1
                refine E_s 1 (i' := 72) (ls' := [some (.inr (.inr 66)), some (.inl ifs), some (.inl (-1)), some (.inl 1), some (.inl mT), some (.inl 0), some (.inl r1)]) (sk' := [.inl r1]) (h' := g1) rfl ?_
                refine E_b (x := (.ifCond .le 10, 77, [], [])) rfl rfl (fun c72 => ?_) (fun c72 => ?_)
                · rw [c_le (by first | assumption | (refine ⟨?_, ?_⟩ <;> omega) | (simp only [xr] at *; omega)) (by first | assumption | (refine ⟨?_, ?_⟩ <;> omega) | (simp only [xr] at *; omega))] at c72
                  simp only [decide_eq_true_eq, decide_eq_false_iff_not, Decidable.not_not] at c72
                  show xEx G0 cdX12_make (some .int) (xRn G0 MT (d + 6)) Q b 77 [some (.inr (.inr 66)), some (.inl ifs), some (.inl (-1)), some (.inl 1), some (.inl mT), some (.inl 0), some (.inl r1)] [] g1
                  refine E_s 2 (i' := 79) (ls' := [some (.inr (.inr 66)), some (.inl ifs), some (.inl (-1)), some (.inl 1), some (.inl mT), some (.inl 0), some (.inl r1)]) (sk' := [.inl ifs, .inr (.inr 66)]) (h' := g1) rfl ?_
                  refine E_cp (x := (.invokevirtual 407, 1, [(10, 231)], [0])) (q := fun r h9 => r = sno (szf S1 TT (S1 0 0) (TT 0 0) (-1) ifs.toNat (xshl 1 (g1 66 4) - 1)) ∧ SOLP g1 h9 S1 TT ifs) rfl rfl (Nat.le_of_ble_eq_true rfl) (m_solves (d + 2) 0 g1 S1 TT ifs (h1 1 2) (h1 6) hi he1 (h1 1 2).toNat (OKS_ci ci1) (by rw [e41]) (by rw [e41]; exact ci1.1.1) ri1.2.1.1 ri1.2.2.1.1 v2 v5 v3 v6 (fun h9 z => ⟨_, rfl, rfl, z⟩)) (fun r3 g2 hq3 => ?_)
                  obtain ⟨er3, sp⟩ := hq3
                  show xEx G0 cdX12_make (some .int) (xRn G0 MT (d + 6)) Q b 80 [some (.inr (.inr 66)), some (.inl ifs), some (.inl (-1)), some (.inl 1), some (.inl mT), some (.inl 0), some (.inl r1)] [.inl r3] g2
                  refine E_ti (y := (sno (szf S1 TT (S1 0 0) (TT 0 0) (-1) ifs.toNat (xshl 1 (g1 66 4) - 1)))) (by rw [er3]) ?_
                  refine E_s 2 (i' := 82) (ls' := [some (.inr (.inr 66)), some (.inl ifs), some (.inl (sno (szf S1 TT (S1 0 0) (TT 0 0) (-1) ifs.toNat (xshl 1 (g1 66 4) - 1)))), some (.inl 1), some (.inl mT), some (.inl 0), some (.inl r1)]) (sk' := [.inl 0]) (h' := g2) rfl ?_
                  refine E_b (x := (.ifCond .ne 7, 85, [], [])) rfl rfl (fun c82 => ?_) (fun c82 => ?_)
                  · show xEx G0 cdX12_make (some .int) (xRn G0 MT (d + 6)) Q b 85 [some (.inr (.inr 66)), some (.inl ifs), some (.inl (sno (szf S1 TT (S1 0 0) (TT 0 0) (-1) ifs.toNat (xshl 1 (g1 66 4) - 1)))), some (.inl 1), some (.inl mT), some (.inl 0), some (.inl r1)] [] g2
                    exact absurd c82 (by decide)
                  · show xEx G0 cdX12_make (some .int) (xRn G0 MT (d + 6)) Q b 83 [some (.inr (.inr 66)), some (.inl ifs), some (.inl (sno (szf S1 TT (S1 0 0) (TT 0 0) (-1) ifs.toNat (xshl 1 (g1 66 4) - 1)))), some (.inl 1), some (.inl mT), some (.inl 0), some (.inl r1)] [] g2
                    refine E_s 4 (i' := 38) (ls' := [some (.inr (.inr 66)), some (.inl ifs), some (.inl (sno (szf S1 TT (S1 0 0) (TT 0 0) (-1) ifs.toNat (xshl 1 (g1 66 4) - 1)))), some (.inl 1), some (.inl mT), some (.inl 1), some (.inl r1)]) (sk' := []) (h' := g2) rfl ?_
                    exact hN (by omega) 1 g1 g2 _ (by first | (exfalso; omega) | (rw [if_pos (by omega)]; done) | (rw [if_neg (by omega)]; done)) ri1 fs (ll (by omega)) sp
                · rw [c_le (by first | assumption | (refine ⟨?_, ?_⟩ <;> omega) | (simp only [xr] at *; omega)) (by first | assumption | (refine ⟨?_, ?_⟩ <;> omega) | (simp only [xr] at *; omega))] at c72
                  simp only [decide_eq_true_eq, decide_eq_false_iff_not, Decidable.not_not] at c72
                  show xEx G0 cdX12_make (some .int) (xRn G0 MT (d + 6)) Q b 73 [some (.inr (.inr 66)), some (.inl ifs), some (.inl (-1)), some (.inl 1), some (.inl mT), some (.inl 0), some (.inl r1)] [] g1
                  refine E_s 1 (i' := 74) (ls' := [some (.inr (.inr 66)), some (.inl ifs), some (.inl (-1)), some (.inl 1), some (.inl mT), some (.inl 0), some (.inl r1)]) (sk' := [.inl 0]) (h' := g1) rfl ?_
                  refine E_b (x := (.ifCond .ne 5, 77, [], [])) rfl rfl (fun c74 => ?_) (fun c74 => ?_)
                  · show xEx G0 cdX12_make (some .int) (xRn G0 MT (d + 6)) Q b 77 [some (.inr (.inr 66)), some (.inl ifs), some (.inl (-1)), some (.inl 1), some (.inl mT), some (.inl 0), some (.inl r1)] [] g1
                    exact absurd c74 (by decide)
                  · show xEx G0 cdX12_make (some .int) (xRn G0 MT (d + 6)) Q b 75 [some (.inr (.inr 66)), some (.inl ifs), some (.inl (-1)), some (.inl 1), some (.inl mT), some (.inl 0), some (.inl r1)] [] g1
                    refine E_s 4 (i' := 79) (ls' := [some (.inr (.inr 66)), some (.inl ifs), some (.inl (-1)), some (.inl 0), some (.inl mT), some (.inl 0), some (.inl r1)]) (sk' := [.inl ifs, .inr (.inr 66)]) (h' := g1) rfl ?_
                    refine E_cp (x := (.invokevirtual 407, 1, [(10, 231)], [0])) (q := fun r h9 => r = sno (szf S1 TT (S1 0 0) (TT 0 0) (-1) ifs.toNat (xshl 1 (g1 66 4) - 1)) ∧ SOLP g1 h9 S1 TT ifs) rfl rfl (Nat.le_of_ble_eq_true rfl) (m_solves (d + 2) 0 g1 S1 TT ifs (h1 1 2) (h1 6) hi he1 (h1 1 2).toNat (OKS_ci ci1) (by rw [e41]) (by rw [e41]; exact ci1.1.1) ri1.2.1.1 ri1.2.2.1.1 v2 v5 v3 v6 (fun h9 z => ⟨_, rfl, rfl, z⟩)) (fun r3 g2 hq3 => ?_)
                    obtain ⟨er3, sp⟩ := hq3
                    show xEx G0 cdX12_make (some .int) (xRn G0 MT (d + 6)) Q b 80 [some (.inr (.inr 66)), some (.inl ifs), some (.inl (-1)), some (.inl 0), some (.inl mT), some (.inl 0), some (.inl r1)] [.inl r3] g2
                    refine E_ti (y := (sno (szf S1 TT (S1 0 0) (TT 0 0) (-1) ifs.toNat (xshl 1 (g1 66 4) - 1)))) (by rw [er3]) ?_
                    refine E_s 2 (i' := 82) (ls' := [some (.inr (.inr 66)), some (.inl ifs), some (.inl (sno (szf S1 TT (S1 0 0) (TT 0 0) (-1) ifs.toNat (xshl 1 (g1 66 4) - 1)))), some (.inl 0), some (.inl mT), some (.inl 0), some (.inl r1)]) (sk' := [.inl 0]) (h' := g2) rfl ?_
                    refine E_b (x := (.ifCond .ne 7, 85, [], [])) rfl rfl (fun c82 => ?_) (fun c82 => ?_)
                    · show xEx G0 cdX12_make (some .int) (xRn G0 MT (d + 6)) Q b 85 [some (.inr (.inr 66)), some (.inl ifs), some (.inl (sno (szf S1 TT (S1 0 0) (TT 0 0) (-1) ifs.toNat (xshl 1 (g1 66 4) - 1)))), some (.inl 0), some (.inl mT), some (.inl 0), some (.inl r1)] [] g2
                      exact absurd c82 (by decide)
                    · show xEx G0 cdX12_make (some .int) (xRn G0 MT (d + 6)) Q b 83 [some (.inr (.inr 66)), some (.inl ifs), some (.inl (sno (szf S1 TT (S1 0 0) (TT 0 0) (-1) ifs.toNat (xshl 1 (g1 66 4) - 1)))), some (.inl 0), some (.inl mT), some (.inl 0), some (.inl r1)] [] g2
                      refine E_s 4 (i' := 38) (ls' := [some (.inr (.inr 66)), some (.inl ifs), some (.inl (sno (szf S1 TT (S1 0 0) (TT 0 0) (-1) ifs.toNat (xshl 1 (g1 66 4) - 1)))), some (.inl 0), some (.inl mT), some (.inl 1), some (.inl r1)]) (sk' := []) (h' := g2) rfl ?_
                      exact hN (by omega) 0 g1 g2 _ (by first | (exfalso; omega) | (rw [if_pos (by omega)]; done) | (rw [if_neg (by omega)]; done)) ri1 fs (ll (by omega)) sp
              · rw [c_le (by first | assumption | (refine ⟨?_, ?_⟩ <;> omega) | (simp only [xr] at *; omega)) (by first | assumption | (refine ⟨?_, ?_⟩ <;> omega) | (simp only [xr] at *; omega))] at c66
                simp only [decide_eq_true_eq, decide_eq_false_iff_not, Decidable.not_not] at c66
                show xEx G0 cdX12_make (some .int) (xRn G0 MT (d + 6)) Q b 67 [some (.inr (.inr 66)), some (.inl ifs), some (.inl (-1)), some (.inl 1), some (.inl mT), some (.inl 0), some (.inl r1)] [] g1
                refine E_s 1 (i' := 68) (ls' := [some (.inr (.inr 66)), some (.inl ifs), some (.inl (-1)), some (.inl 1), some (.inl mT), some (.inl 0), some (.inl r1)]) (sk' := [.inl 0]) (h' := g1) rfl ?_
                refine E_b (x := (.ifCond .eq 6, 71, [], [])) rfl rfl (fun c68 => ?_) (fun c68 => ?_)
                · show xEx G0 cdX12_make (some .int) (xRn G0 MT (d + 6)) Q b 71 [some (.inr (.inr 66)), some (.inl ifs), some (.inl (-1)), some (.inl 1), some (.inl mT), some (.inl 0), some (.inl r1)] [] g1
                  refine E_s 1 (i' := 72) (ls' := [some (.inr (.inr 66)), some (.inl ifs), some (.inl (-1)), some (.inl 1), some (.inl mT), some (.inl 0), some (.inl r1)]) (sk' := [.inl r1]) (h' := g1) rfl ?_
                  refine E_b (x := (.ifCond .le 10, 77, [], [])) rfl rfl (fun c72 => ?_) (fun c72 => ?_)
                  · rw [c_le (by first | assumption | (refine ⟨?_, ?_⟩ <;> omega) | (simp only [xr] at *; omega)) (by first | assumption | (refine ⟨?_, ?_⟩ <;> omega) | (simp only [xr] at *; omega))] at c72
                    simp only [decide_eq_true_eq, decide_eq_false_iff_not, Decidable.not_not] at c72
                    show xEx G0 cdX12_make (some .int) (xRn G0 MT (d + 6)) Q b 77 [some (.inr (.inr 66)), some (.inl ifs), some (.inl (-1)), some (.inl 1), some (.inl mT), some (.inl 0), some (.inl r1)] [] g1
                    refine E_s 2 (i' := 79) (ls' := [some (.inr (.inr 66)), some (.inl ifs), some (.inl (-1)), some (.inl 1), some (.inl mT), some (.inl 0), some (.inl r1)]) (sk' := [.inl ifs, .inr (.inr 66)]) (h' := g1) rfl ?_
                    refine E_cp (x := (.invokevirtual 407, 1, [(10, 231)], [0])) (q := fun r h9 => r = sno (szf S1 TT (S1 0 0) (TT 0 0) (-1) ifs.toNat (xshl 1 (g1 66 4) - 1)) ∧ SOLP g1 h9 S1 TT ifs) rfl rfl (Nat.le_of_ble_eq_true rfl) (m_solves (d + 2) 0 g1 S1 TT ifs (h1 1 2) (h1 6) hi he1 (h1 1 2).toNat (OKS_ci ci1) (by rw [e41]) (by rw [e41]; exact ci1.1.1) ri1.2.1.1 ri1.2.2.1.1 v2 v5 v3 v6 (fun h9 z => ⟨_, rfl, rfl, z⟩)) (fun r3 g2 hq3 => ?_)
                    obtain ⟨er3, sp⟩ := hq3
                    show xEx G0 cdX12_make (some .int) (xRn G0 MT (d + 6)) Q b 80 [some (.inr (.inr 66)), some (.inl ifs), some (.inl (-1)), some (.inl 1), some (.inl mT), some (.inl 0), some (.inl r1)] [.inl r3] g2
                    refine E_ti (y := (sno (szf S1 TT (S1 0 0) (TT 0 0) (-1) ifs.toNat (xshl 1 (g1 66 4) - 1)))) (by rw [er3]) ?_
                    refine E_s 2 (i' := 82) (ls' := [some (.inr (.inr 66)), some (.inl ifs), some (.inl (sno (szf S1 TT (S1 0 0) (TT 0 0) (-1) ifs.toNat (xshl 1 (g1 66 4) - 1)))), some (.inl 1), some (.inl mT), some (.inl 0), some (.inl r1)]) (sk' := [.inl 0]) (h' := g2) rfl ?_
                    refine E_b (x := (.ifCond .ne 7, 85, [], [])) rfl rfl (fun c82 => ?_) (fun c82 => ?_)
                    · show xEx G0 cdX12_make (some .int) (xRn G0 MT (d + 6)) Q b 85 [some (.inr (.inr 66)), some (.inl ifs), some (.inl (sno (szf S1 TT (S1 0 0) (TT 0 0) (-1) ifs.toNat (xshl 1 (g1 66 4) - 1)))), some (.inl 1), some (.inl mT), some (.inl 0), some (.inl r1)] [] g2
                      exact absurd c82 (by decide)
                    · show xEx G0 cdX12_make (some .int) (xRn G0 MT (d + 6)) Q b 83 [some (.inr (.inr 66)), some (.inl ifs), some (.inl (sno (szf S1 TT (S1 0 0) (TT 0 0) (-1) ifs.toNat (xshl 1 (g1 66 4) - 1)))), some (.inl 1), some (.inl mT), some (.inl 0), some (.inl r1)] [] g2
                      refine E_s 4 (i' := 38) (ls' := [some (.inr (.inr 66)), some (.inl ifs), some (.inl (sno (szf S1 TT (S1 0 0) (TT 0 0) (-1) ifs.toNat (xshl 1 (g1 66 4) - 1)))), some (.inl 1), some (.inl mT), some (.inl 1), some (.inl r1)]) (sk' := []) (h' := g2) rfl ?_
                      exact hN (by omega) 1 g1 g2 _ (by first | (exfalso; omega) | (rw [if_pos (by omega)]; done) | (rw [if_neg (by omega)]; done)) ri1 fs (ll (by omega)) sp
                  · rw [c_le (by first | assumption | (refine ⟨?_, ?_⟩ <;> omega) | (simp only [xr] at *; omega)) (by first | assumption | (refine ⟨?_, ?_⟩ <;> omega) | (simp only [xr] at *; omega))] at c72
                    simp only [decide_eq_true_eq, decide_eq_false_iff_not, Decidable.not_not] at c72
                    show xEx G0 cdX12_make (some .int) (xRn G0 MT (d + 6)) Q b 73 [some (.inr (.inr 66)), some (.inl ifs), some (.inl (-1)), some (.inl 1), some (.inl mT), some (.inl 0), some (.inl r1)] [] g1
                    refine E_s 1 (i' := 74) (ls' := [some (.inr (.inr 66)), some (.inl ifs), some (.inl (-1)), some (.inl 1), some (.inl mT), some (.inl 0), some (.inl r1)]) (sk' := [.inl 0]) (h' := g1) rfl ?_
                    refine E_b (x := (.ifCond .ne 5, 77, [], [])) rfl rfl (fun c74 => ?_) (fun c74 => ?_)
                    · show xEx G0 cdX12_make (some .int) (xRn G0 MT (d + 6)) Q b 77 [some (.inr (.inr 66)), some (.inl ifs), some (.inl (-1)), some (.inl 1), some (.inl mT), some (.inl 0), some (.inl r1)] [] g1
                      exact absurd c74 (by decide)
                    · show xEx G0 cdX12_make (some .int) (xRn G0 MT (d + 6)) Q b 75 [some (.inr (.inr 66)), some (.inl ifs), some (.inl (-1)), some (.inl 1), some (.inl mT), some (.inl 0), some (.inl r1)] [] g1
                      refine E_s 4 (i' := 79) (ls' := [some (.inr (.inr 66)), some (.inl ifs), some (.inl (-1)), some (.inl 0), some (.inl mT), some (.inl 0), some (.inl r1)]) (sk' := [.inl ifs, .inr (.inr 66)]) (h' := g1) rfl ?_
                      refine E_cp (x := (.invokevirtual 407, 1, [(10, 231)], [0])) (q := fun r h9 => r = sno (szf S1 TT (S1 0 0) (TT 0 0) (-1) ifs.toNat (xshl 1 (g1 66 4) - 1)) ∧ SOLP g1 h9 S1 TT ifs) rfl rfl (Nat.le_of_ble_eq_true rfl) (m_solves (d + 2) 0 g1 S1 TT ifs (h1 1 2) (h1 6) hi he1 (h1 1 2).toNat (OKS_ci ci1) (by rw [e41]) (by rw [e41]; exact ci1.1.1) ri1.2.1.1 ri1.2.2.1.1 v2 v5 v3 v6 (fun h9 z => ⟨_, rfl, rfl, z⟩)) (fun r3 g2 hq3 => ?_)
                      obtain ⟨er3, sp⟩ := hq3
                      show xEx G0 cdX12_make (some .int) (xRn G0 MT (d + 6)) Q b 80 [some (.inr (.inr 66)), some (.inl ifs), some (.inl (-1)), some (.inl 0), some (.inl mT), some (.inl 0), some (.inl r1)] [.inl r3] g2
                      refine E_ti (y := (sno (szf S1 TT (S1 0 0) (TT 0 0) (-1) ifs.toNat (xshl 1 (g1 66 4) - 1)))) (by rw [er3]) ?_
                      refine E_s 2 (i' := 82) (ls' := [some (.inr (.inr 66)), some (.inl ifs), some (.inl (sno (szf S1 TT (S1 0 0) (TT 0 0) (-1) ifs.toNat (xshl 1 (g1 66 4) - 1)))), some (.inl 0), some (.inl mT), some (.inl 0), some (.inl r1)]) (sk' := [.inl 0]) (h' := g2) rfl ?_
                      refine E_b (x := (.ifCond .ne 7, 85, [], [])) rfl rfl (fun c82 => ?_) (fun c82 => ?_)
                      · show xEx G0 cdX12_make (some .int) (xRn G0 MT (d + 6)) Q b 85 [some (.inr (.inr 66)), some (.inl ifs), some (.inl (sno (szf S1 TT (S1 0 0) (TT 0 0) (-1) ifs.toNat (xshl 1 (g1 66 4) - 1)))), some (.inl 0), some (.inl mT), some (.inl 0), some (.inl r1)] [] g2
                        exact absurd c82 (by decide)
                      · show xEx G0 cdX12_make (some .int) (xRn G0 MT (d + 6)) Q b 83 [some (.inr (.inr 66)), some (.inl ifs), some (.inl (sno (szf S1 TT (S1 0 0) (TT 0 0) (-1) ifs.toNat (xshl 1 (g1 66 4) - 1)))), some (.inl 0), some (.inl mT), some (.inl 0), some (.inl r1)] [] g2
                        refine E_s 4 (i' := 38) (ls' := [some (.inr (.inr 66)), some (.inl ifs), some (.inl (sno (szf S1 TT (S1 0 0) (TT 0 0) (-1) ifs.toNat (xshl 1 (g1 66 4) - 1)))), some (.inl 0), some (.inl mT), some (.inl 1), some (.inl r1)]) (sk' := []) (h' := g2) rfl ?_
                        exact hN (by omega) 0 g1 g2 _ (by first | (exfalso; omega) | (rw [if_pos (by omega)]; done) | (rw [if_neg (by omega)]; done)) ri1 fs (ll (by omega)) sp
                · show xEx G0 cdX12_make (some .int) (xRn G0 MT (d + 6)) Q b 69 [some (.inr (.inr 66)), some (.inl ifs), some (.inl (-1)), some (.inl 1), some (.inl mT), some (.inl 0), some (.inl r1)] [] g1
                  exact absurd c68 (by decide)
            · rw [c_ne (by first | assumption | (refine ⟨?_, ?_⟩ <;> omega) | (simp only [xr] at *; omega)) (by first | assumption | (refine ⟨?_, ?_⟩ <;> omega) | (simp only [xr] at *; omega))] at c62
              simp only [decide_eq_true_eq, decide_eq_false_iff_not, Decidable.not_not] at c62
              show xEx G0 cdX12_make (some .int) (xRn G0 MT (d + 6)) Q b 63 [some (.inr (.inr 66)), some (.inl ifs), some (.inl (-1)), some (.inl 1), some (.inl mT), some (.inl 0), some (.inl r1)] [] g1
              refine E_s 1 (i' := 64) (ls' := [some (.inr (.inr 66)), some (.inl ifs), some (.inl (-1)), some (.inl 1), some (.inl mT), some (.inl 0), some (.inl r1)]) (sk' := [.inl (-2)]) (h' := g1) rfl ?_
              exact E_ret (x := (.ireturn, 0, [], [])) (v := some (.inl (-2))) rfl (Or.inl rfl) (by
                have q9 : r = 2 := by omega
                exact hB q9 g1 ri1 fs)
          · show xEx G0 cdX12_make (some .int) (xRn G0 MT (d + 6)) Q b 55 [some (.inr (.inr 66)), some (.inl ifs), some (.inl (-1)), some (.inl 1), some (.inl mT), some (.inl 0), l6] [.inr (.inr 66)] g
            exact absurd c54 (by decide)
      · show xEx G0 cdX12_make (some .int) (xRn G0 MT (d + 6)) Q b 47 [some (.inr (.inr 66)), some (.inl ifs), some (.inl (-1)), some (.inl 1), some (.inl mT), some (.inl 0), l6] [] g
        exact absurd c46 (by decide)
    · show xEx G0 cdX12_make (some .int) (xRn G0 MT (d + 6)) Q b 43 [some (.inr (.inr 66)), some (.inl ifs), some (.inl (-1)), some (.inl 1), some (.inl mT), some (.inl 0), l6] [] g
      exact absurd c42 (by decide)
set_option maxHeartbeats 4000000 in
theorem mk_T (d b : Nat) (g : xH) (ifs : Int) (l6 : Option xV) (hh SS TT : xH) (left r : Int) (hi : 0 ≤ ifs ∧ ifs ≤ 3) (he : hh 1 2 ≠ 0) (ci : CI hh SS TT) (ri : RI hh g SS TT) (lr : 0 ≤ left ∧ left ≤ 20000) (hl : g 66 35 = left) (mE : Int) (mEr : mE = 0 ∨ mE = 1) (h1 T1 : xH) (G : GTr hh TT left r h1 T1) (ct1 : CT h1 SS T1) (st1 : STB TT T1) (f1 : FB hh h1) (ci1 : CI h1 SS T1) {Q : xO → xH → Prop} (hB : r = 2 → ∀ g1, RI h1 g1 SS T1 → FST g g1 → Q (.inl (some (.inl (-2)))) g1) (hN : r ≠ 2 → ∀ (e2 : Int) g1 g2 l9, e2 = (if r = 0 then 1 else 0) → RI h1 g1 SS T1 → FST g g1 → g1 66 35 = left - (T1 0 2 - TT 0 2) → SOLP g1 g2 SS T1 ifs → ML d b ifs (sno (szf SS T1 (SS 0 0) (T1 0 0) (-1) ifs.toNat (xshl 1 (g1 66 4) - 1))) mE e2 0 l9 g2 Q) : ML d b ifs (-1) mE 1 1 l6 g Q := by
  have gr := (GT_f ci.1 ci.2.1 ci.2.2.1 lr G).1
  have x1 : h1 1 = hh 1 := f1 _ (by decide)
  show xEx G0 cdX12_make (some .int) (xRn G0 MT (d + 6)) Q b 38 [some (.inr (.inr 66)), some (.inl ifs), some (.inl (-1)), some (.inl mE), some (.inl 1), some (.inl 1), l6] [] g
  refine E_s 2 (i' := 40) (ls' := [some (.inr (.inr 66)), some (.inl ifs), some (.inl (-1)), some (.inl mE), some (.inl 1), some (.inl 1), l6]) (sk' := [.inl (-1), .inl (-1)]) (h' := g) rfl ?_
  refine E_b (x := (.if_icmp .ne 100, 88, [], [])) rfl rfl (fun c40 => ?_) (fun c40 => ?_)
  · show xEx G0 cdX12_make (some .int) (xRn G0 MT (d + 6)) Q b 88 [some (.inr (.inr 66)), some (.inl ifs), some (.inl (-1)), some (.inl mE), some (.inl 1), some (.inl 1), l6] [] g
    exact absurd c40 (by decide)
  · show xEx G0 cdX12_make (some .int) (xRn G0 MT (d + 6)) Q b 41 [some (.inr (.inr 66)), some (.inl ifs), some (.inl (-1)), some (.inl mE), some (.inl 1), some (.inl 1), l6] [] g
    refine E_s 1 (i' := 42) (ls' := [some (.inr (.inr 66)), some (.inl ifs), some (.inl (-1)), some (.inl mE), some (.inl 1), some (.inl 1), l6]) (sk' := [.inl mE]) (h' := g) rfl ?_
    refine E_b (x := (.ifCond .ne 8, 45, [], [])) rfl rfl (fun c42 => ?_) (fun c42 => ?_)
    · rw [c_ne (by first | assumption | (refine ⟨?_, ?_⟩ <;> omega) | (simp only [xr] at *; omega)) (by first | assumption | (refine ⟨?_, ?_⟩ <;> omega) | (simp only [xr] at *; omega))] at c42
      simp only [decide_eq_true_eq, decide_eq_false_iff_not, Decidable.not_not] at c42
      show xEx G0 cdX12_make (some .int) (xRn G0 MT (d + 6)) Q b 45 [some (.inr (.inr 66)), some (.inl ifs), some (.inl (-1)), some (.inl mE), some (.inl 1), some (.inl 1), l6] [] g
      refine E_s 1 (i' := 46) (ls' := [some (.inr (.inr 66)), some (.inl ifs), some (.inl (-1)), some (.inl mE), some (.inl 1), some (.inl 1), l6]) (sk' := [.inl 1]) (h' := g) rfl ?_
      refine E_b (x := (.ifCond .eq 11, 50, [], [])) rfl rfl (fun c46 => ?_) (fun c46 => ?_)
      · show xEx G0 cdX12_make (some .int) (xRn G0 MT (d + 6)) Q b 50 [some (.inr (.inr 66)), some (.inl ifs), some (.inl (-1)), some (.inl mE), some (.inl 1), some (.inl 1), l6] [] g
        exact absurd c46 (by decide)
      · show xEx G0 cdX12_make (some .int) (xRn G0 MT (d + 6)) Q b 47 [some (.inr (.inr 66)), some (.inl ifs), some (.inl (-1)), some (.inl mE), some (.inl 1), some (.inl 1), l6] [] g
        refine E_s 1 (i' := 48) (ls' := [some (.inr (.inr 66)), some (.inl ifs), some (.inl (-1)), some (.inl mE), some (.inl 1), some (.inl 1), l6]) (sk' := [.inl 1]) (h' := g) rfl ?_
        refine E_b (x := (.ifCond .eq 66, 81, [], [])) rfl rfl (fun c48 => ?_) (fun c48 => ?_)
        · show xEx G0 cdX12_make (some .int) (xRn G0 MT (d + 6)) Q b 81 [some (.inr (.inr 66)), some (.inl ifs), some (.inl (-1)), some (.inl mE), some (.inl 1), some (.inl 1), l6] [] g
          exact absurd c48 (by decide)
        · show xEx G0 cdX12_make (some .int) (xRn G0 MT (d + 6)) Q b 49 [some (.inr (.inr 66)), some (.inl ifs), some (.inl (-1)), some (.inl mE), some (.inl 1), some (.inl 1), l6] [] g
          refine E_s 3 (i' := 54) (ls' := [some (.inr (.inr 66)), some (.inl ifs), some (.inl (-1)), some (.inl mE), some (.inl 1), some (.inl 1), l6]) (sk' := [.inl 1, .inr (.inr 66)]) (h' := g) rfl ?_
          refine E_b (x := (.ifCond .eq 7, 57, [], [])) rfl rfl (fun c54 => ?_) (fun c54 => ?_)
          · show xEx G0 cdX12_make (some .int) (xRn G0 MT (d + 6)) Q b 57 [some (.inr (.inr 66)), some (.inl ifs), some (.inl (-1)), some (.inl mE), some (.inl 1), some (.inl 1), l6] [.inr (.inr 66)] g
            exact absurd c54 (by decide)
          · show xEx G0 cdX12_make (some .int) (xRn G0 MT (d + 6)) Q b 55 [some (.inr (.inr 66)), some (.inl ifs), some (.inl (-1)), some (.inl mE), some (.inl 1), some (.inl 1), l6] [.inr (.inr 66)] g
            refine E_s 2 (i' := 58) (ls' := [some (.inr (.inr 66)), some (.inl ifs), some (.inl (-1)), some (.inl mE), some (.inl 1), some (.inl 1), l6]) (sk' := [.inl 1, .inr (.inr 66)]) (h' := g) rfl ?_
            refine E_cp (x := (.invokevirtual 292, 1, [(10, 190)], [0])) (q := fun r9 g9 => r9 = r ∧ DT h1 g9 T1 ∧ FST g g9 ∧ (r ≠ 2 → g9 66 35 = left - (T1 0 2 - TT 0 2))) rfl rfl (Nat.le_of_ble_eq_true rfl) (b_gt d 0 hh g SS TT left ci.1 ci.2.1 ci.2.2.1 ri.1 ri.2.1.1 ri.2.2.1 hl lr G (fun g9 z1 z2 z3 => ⟨_, rfl, rfl, z1, z2, z3⟩)) (fun r1 g1 hq1 => ?_)
            obtain ⟨er1, de1, fs, ll⟩ := hq1
            have ri1 : RI h1 g1 SS T1 := RI_gt ci.2.1.2.1.2.1 f1 fs ri de1
            show xEx G0 cdX12_make (some .int) (xRn G0 MT (d + 6)) Q b 59 [some (.inr (.inr 66)), some (.inl ifs), some (.inl (-1)), some (.inl mE), some (.inl 1), some (.inl 1), l6] [.inl r1] g1
            have e41 : g1 66 4 = h1 1 2 := ri1.1.1
            have he1 : g1 66 4 ≠ 0 := by rw [e41, x1]; exact he
            obtain ⟨-, v2, v3, -, v5, v6⟩ := EV_ci ci1
            skip
            refine E_s 3 (i' := 62) (ls' := [some (.inr (.inr 66)), some (.inl ifs), some (.inl (-1)), some (.inl mE), some (.inl 1), some (.inl 1), some (.inl r1)]) (sk' := [.inl 2, .inl r1]) (h' := g1) rfl ?_
            refine E_b (x := (.if_icmp .ne 6, 65, [], [])) rfl rfl (fun c62 => ?_) (fun c62 => ?_)
            · rw [c_ne (by first | assumption | (refine ⟨?_, ?_⟩ <;> omega) | (simp only [xr] at *; omega)) (by first | assumption | (refine ⟨?_, ?_⟩ <;> omega) | (simp only [xr] at *; omega))] at c62
              simp only [decide_eq_true_eq, decide_eq_false_iff_not, Decidable.not_not] at c62
              show xEx G0 cdX12_make (some .int) (xRn G0 MT (d + 6)) Q b 65 [some (.inr (.inr 66)), some (.inl ifs), some (.inl (-1)), some (.inl mE), some (.inl 1), some (.inl 1), some (.inl r1)] [] g1
              refine E_s 1 (i' := 66) (ls' := [some (.inr (.inr 66)), some (.inl ifs), some (.inl (-1)), some (.inl mE), some (.inl 1), some (.inl 1), some (.inl r1)]) (sk' := [.inl r1]) (h' := g1) rfl ?_
              refine E_b (x := (.ifCond .le 11, 71, [], [])) rfl rfl (fun c66 => ?_) (fun c66 => ?_)
              · rw [c_le (by first | assumption | (refine ⟨?_, ?_⟩ <;> omega) | (simp only [xr] at *; omega)) (by first | assumption | (refine ⟨?_, ?_⟩ <;> omega) | (simp only [xr] at *; omega))] at c66
                simp only [decide_eq_true_eq, decide_eq_false_iff_not, Decidable.not_not] at c66
                show xEx G0 cdX12_make (some .int) (xRn G0 MT (d + 6)) Q b 71 [some (.inr (.inr 66)), some (.inl ifs), some (.inl (-1)), some (.inl mE), some (.inl 1), some (.inl 1), some (.inl r1)] [] g1
                refine E_s 1 (i' := 72) (ls' := [some (.inr (.inr 66)), some (.inl ifs), some (.inl (-1)), some (.inl mE), some (.inl 1), some (.inl 1), some (.inl r1)]) (sk' := [.inl r1]) (h' := g1) rfl ?_
                refine E_b (x := (.ifCond .le 10, 77, [], [])) rfl rfl (fun c72 => ?_) (fun c72 => ?_)
                · rw [c_le (by first | assumption | (refine ⟨?_, ?_⟩ <;> omega) | (simp only [xr] at *; omega)) (by first | assumption | (refine ⟨?_, ?_⟩ <;> omega) | (simp only [xr] at *; omega))] at c72
                  simp only [decide_eq_true_eq, decide_eq_false_iff_not, Decidable.not_not] at c72
                  show xEx G0 cdX12_make (some .int) (xRn G0 MT (d + 6)) Q b 77 [some (.inr (.inr 66)), some (.inl ifs), some (.inl (-1)), some (.inl mE), some (.inl 1), some (.inl 1), some (.inl r1)] [] g1
                  refine E_s 2 (i' := 79) (ls' := [some (.inr (.inr 66)), some (.inl ifs), some (.inl (-1)), some (.inl mE), some (.inl 1), some (.inl 1), some (.inl r1)]) (sk' := [.inl ifs, .inr (.inr 66)]) (h' := g1) rfl ?_
                  refine E_cp (x := (.invokevirtual 407, 1, [(10, 231)], [0])) (q := fun r h9 => r = sno (szf SS T1 (SS 0 0) (T1 0 0) (-1) ifs.toNat (xshl 1 (g1 66 4) - 1)) ∧ SOLP g1 h9 SS T1 ifs) rfl rfl (Nat.le_of_ble_eq_true rfl) (m_solves (d + 2) 0 g1 SS T1 ifs (h1 1 2) (h1 6) hi he1 (h1 1 2).toNat (OKS_ci ci1) (by rw [e41]) (by rw [e41]; exact ci1.1.1) ri1.2.1.1 ri1.2.2.1.1 v2 v5 v3 v6 (fun h9 z => ⟨_, rfl, rfl, z⟩)) (fun r3 g2 hq3 => ?_)
                  obtain ⟨er3, sp⟩ := hq3
                  show xEx G0 cdX12_make (some .int) (xRn G0 MT (d + 6)) Q b 80 [some (.inr (.inr 66)), some (.inl ifs), some (.inl (-1)), some (.inl mE), some (.inl 1), some (.inl 1), some (.inl r1)] [.inl r3] g2
                  refine E_ti (y := (sno (szf SS T1 (SS 0 0) (T1 0 0) (-1) ifs.toNat (xshl 1 (g1 66 4) - 1)))) (by rw [er3]) ?_
                  refine E_s 2 (i' := 82) (ls' := [some (.inr (.inr 66)), some (.inl ifs), some (.inl (sno (szf SS T1 (SS 0 0) (T1 0 0) (-1) ifs.toNat (xshl 1 (g1 66 4) - 1)))), some (.inl mE), some (.inl 1), some (.inl 1), some (.inl r1)]) (sk' := [.inl 1]) (h' := g2) rfl ?_
                  refine E_b (x := (.ifCond .ne 7, 85, [], [])) rfl rfl (fun c82 => ?_) (fun c82 => ?_)
                  · show xEx G0 cdX12_make (some .int) (xRn G0 MT (d + 6)) Q b 85 [some (.inr (.inr 66)), some (.inl ifs), some (.inl (sno (szf SS T1 (SS 0 0) (T1 0 0) (-1) ifs.toNat (xshl 1 (g1 66 4) - 1)))), some (.inl mE), some (.inl 1), some (.inl 1), some (.inl r1)] [] g2
                    refine E_s 3 (i' := 38) (ls' := [some (.inr (.inr 66)), some (.inl ifs), some (.inl (sno (szf SS T1 (SS 0 0) (T1 0 0) (-1) ifs.toNat (xshl 1 (g1 66 4) - 1)))), some (.inl mE), some (.inl 1), some (.inl 0), some (.inl r1)]) (sk' := []) (h' := g2) rfl ?_
                    exact hN (by omega) 1 g1 g2 _ (by first | (exfalso; omega) | (rw [if_pos (by omega)]; done) | (rw [if_neg (by omega)]; done)) ri1 fs (ll (by omega)) sp
                  · show xEx G0 cdX12_make (some .int) (xRn G0 MT (d + 6)) Q b 83 [some (.inr (.inr 66)), some (.inl ifs), some (.inl (sno (szf SS T1 (SS 0 0) (T1 0 0) (-1) ifs.toNat (xshl 1 (g1 66 4) - 1)))), some (.inl mE), some (.inl 1), some (.inl 1), some (.inl r1)] [] g2
                    exact absurd c82 (by decide)
                · rw [c_le (by first | assumption | (refine ⟨?_, ?_⟩ <;> omega) | (simp only [xr] at *; omega)) (by first | assumption | (refine ⟨?_, ?_⟩ <;> omega) | (simp only [xr] at *; omega))] at c72
                  simp only [decide_eq_true_eq, decide_eq_false_iff_not, Decidable.not_not] at c72
                  show xEx G0 cdX12_make (some .int) (xRn G0 MT (d + 6)) Q b 73 [some (.inr (.inr 66)), some (.inl ifs), some (.inl (-1)), some (.inl mE), some (.inl 1), some (.inl 1), some (.inl r1)] [] g1
                  refine E_s 1 (i' := 74) (ls' := [some (.inr (.inr 66)), some (.inl ifs), some (.inl (-1)), some (.inl mE), some (.inl 1), some (.inl 1), some (.inl r1)]) (sk' := [.inl 1]) (h' := g1) rfl ?_
                  refine E_b (x := (.ifCond .ne 5, 77, [], [])) rfl rfl (fun c74 => ?_) (fun c74 => ?_)
                  · show xEx G0 cdX12_make (some .int) (xRn G0 MT (d + 6)) Q b 77 [some (.inr (.inr 66)), some (.inl ifs), some (.inl (-1)), some (.inl mE), some (.inl 1), some (.inl 1), some (.inl r1)] [] g1
                    refine E_s 2 (i' := 79) (ls' := [some (.inr (.inr 66)), some (.inl ifs), some (.inl (-1)), some (.inl mE), some (.inl 1), some (.inl 1), some (.inl r1)]) (sk' := [.inl ifs, .inr (.inr 66)]) (h' := g1) rfl ?_
                    refine E_cp (x := (.invokevirtual 407, 1, [(10, 231)], [0])) (q := fun r h9 => r = sno (szf SS T1 (SS 0 0) (T1 0 0) (-1) ifs.toNat (xshl 1 (g1 66 4) - 1)) ∧ SOLP g1 h9 SS T1 ifs) rfl rfl (Nat.le_of_ble_eq_true rfl) (m_solves (d + 2) 0 g1 SS T1 ifs (h1 1 2) (h1 6) hi he1 (h1 1 2).toNat (OKS_ci ci1) (by rw [e41]) (by rw [e41]; exact ci1.1.1) ri1.2.1.1 ri1.2.2.1.1 v2 v5 v3 v6 (fun h9 z => ⟨_, rfl, rfl, z⟩)) (fun r3 g2 hq3 => ?_)
                    obtain ⟨er3, sp⟩ := hq3
                    show xEx G0 cdX12_make (some .int) (xRn G0 MT (d + 6)) Q b 80 [some (.inr (.inr 66)), some (.inl ifs), some (.inl (-1)), some (.inl mE), some (.inl 1), some (.inl 1), some (.inl r1)] [.inl r3] g2
                    refine E_ti (y := (sno (szf SS T1 (SS 0 0) (T1 0 0) (-1) ifs.toNat (xshl 1 (g1 66 4) - 1)))) (by rw [er3]) ?_
                    refine E_s 2 (i' := 82) (ls' := [some (.inr (.inr 66)), some (.inl ifs), some (.inl (sno (szf SS T1 (SS 0 0) (T1 0 0) (-1) ifs.toNat (xshl 1 (g1 66 4) - 1)))), some (.inl mE), some (.inl 1), some (.inl 1), some (.inl r1)]) (sk' := [.inl 1]) (h' := g2) rfl ?_
                    refine E_b (x := (.ifCond .ne 7, 85, [], [])) rfl rfl (fun c82 => ?_) (fun c82 => ?_)
                    · show xEx G0 cdX12_make (some .int) (xRn G0 MT (d + 6)) Q b 85 [some (.inr (.inr 66)), some (.inl ifs), some (.inl (sno (szf SS T1 (SS 0 0) (T1 0 0) (-1) ifs.toNat (xshl 1 (g1 66 4) - 1)))), some (.inl mE), some (.inl 1), some (.inl 1), some (.inl r1)] [] g2
                      refine E_s 3 (i' := 38) (ls' := [some (.inr (.inr 66)), some (.inl ifs), some (.inl (sno (szf SS T1 (SS 0 0) (T1 0 0) (-1) ifs.toNat (xshl 1 (g1 66 4) - 1)))), some (.inl mE), some (.inl 1), some (.inl 0), some (.inl r1)]) (sk' := []) (h' := g2) rfl ?_
                      exact hN (by omega) 1 g1 g2 _ (by first | (exfalso; omega) | (rw [if_pos (by omega)]; done) | (rw [if_neg (by omega)]; done)) ri1 fs (ll (by omega)) sp
                    · show xEx G0 cdX12_make (some .int) (xRn G0 MT (d + 6)) Q b 83 [some (.inr (.inr 66)), some (.inl ifs), some (.inl (sno (szf SS T1 (SS 0 0) (T1 0 0) (-1) ifs.toNat (xshl 1 (g1 66 4) - 1)))), some (.inl mE), some (.inl 1), some (.inl 1), some (.inl r1)] [] g2
                      exact absurd c82 (by decide)
                  · show xEx G0 cdX12_make (some .int) (xRn G0 MT (d + 6)) Q b 75 [some (.inr (.inr 66)), some (.inl ifs), some (.inl (-1)), some (.inl mE), some (.inl 1), some (.inl 1), some (.inl r1)] [] g1
                    exact absurd c74 (by decide)
              · rw [c_le (by first | assumption | (refine ⟨?_, ?_⟩ <;> omega) | (simp only [xr] at *; omega)) (by first | assumption | (refine ⟨?_, ?_⟩ <;> omega) | (simp only [xr] at *; omega))] at c66
                simp only [decide_eq_true_eq, decide_eq_false_iff_not, Decidable.not_not] at c66
                show xEx G0 cdX12_make (some .int) (xRn G0 MT (d + 6)) Q b 67 [some (.inr (.inr 66)), some (.inl ifs), some (.inl (-1)), some (.inl mE), some (.inl 1), some (.inl 1), some (.inl r1)] [] g1
                refine E_s 1 (i' := 68) (ls' := [some (.inr (.inr 66)), some (.inl ifs), some (.inl (-1)), some (.inl mE), some (.inl 1), some (.inl 1), some (.inl r1)]) (sk' := [.inl 1]) (h' := g1) rfl ?_
                refine E_b (x := (.ifCond .eq 6, 71, [], [])) rfl rfl (fun c68 => ?_) (fun c68 => ?_)
                · show xEx G0 cdX12_make (some .int) (xRn G0 MT (d + 6)) Q b 71 [some (.inr (.inr 66)), some (.inl ifs), some (.inl (-1)), some (.inl mE), some (.inl 1), some (.inl 1), some (.inl r1)] [] g1
                  exact absurd c68 (by decide)
                · show xEx G0 cdX12_make (some .int) (xRn G0 MT (d + 6)) Q b 69 [some (.inr (.inr 66)), some (.inl ifs), some (.inl (-1)), some (.inl mE), some (.inl 1), some (.inl 1), some (.inl r1)] [] g1
                  refine E_s 3 (i' := 72) (ls' := [some (.inr (.inr 66)), some (.inl ifs), some (.inl (-1)), some (.inl mE), some (.inl 0), some (.inl 1), some (.inl r1)]) (sk' := [.inl r1]) (h' := g1) rfl ?_
                  refine E_b (x := (.ifCond .le 10, 77, [], [])) rfl rfl (fun c72 => ?_) (fun c72 => ?_)
                  · rw [c_le (by first | assumption | (refine ⟨?_, ?_⟩ <;> omega) | (simp only [xr] at *; omega)) (by first | assumption | (refine ⟨?_, ?_⟩ <;> omega) | (simp only [xr] at *; omega))] at c72
                    simp only [decide_eq_true_eq, decide_eq_false_iff_not, Decidable.not_not] at c72
                    show xEx G0 cdX12_make (some .int) (xRn G0 MT (d + 6)) Q b 77 [some (.inr (.inr 66)), some (.inl ifs), some (.inl (-1)), some (.inl mE), some (.inl 0), some (.inl 1), some (.inl r1)] [] g1
                    refine E_s 2 (i' := 79) (ls' := [some (.inr (.inr 66)), some (.inl ifs), some (.inl (-1)), some (.inl mE), some (.inl 0), some (.inl 1), some (.inl r1)]) (sk' := [.inl ifs, .inr (.inr 66)]) (h' := g1) rfl ?_
                    refine E_cp (x := (.invokevirtual 407, 1, [(10, 231)], [0])) (q := fun r h9 => r = sno (szf SS T1 (SS 0 0) (T1 0 0) (-1) ifs.toNat (xshl 1 (g1 66 4) - 1)) ∧ SOLP g1 h9 SS T1 ifs) rfl rfl (Nat.le_of_ble_eq_true rfl) (m_solves (d + 2) 0 g1 SS T1 ifs (h1 1 2) (h1 6) hi he1 (h1 1 2).toNat (OKS_ci ci1) (by rw [e41]) (by rw [e41]; exact ci1.1.1) ri1.2.1.1 ri1.2.2.1.1 v2 v5 v3 v6 (fun h9 z => ⟨_, rfl, rfl, z⟩)) (fun r3 g2 hq3 => ?_)
                    obtain ⟨er3, sp⟩ := hq3
                    show xEx G0 cdX12_make (some .int) (xRn G0 MT (d + 6)) Q b 80 [some (.inr (.inr 66)), some (.inl ifs), some (.inl (-1)), some (.inl mE), some (.inl 0), some (.inl 1), some (.inl r1)] [.inl r3] g2
                    refine E_ti (y := (sno (szf SS T1 (SS 0 0) (T1 0 0) (-1) ifs.toNat (xshl 1 (g1 66 4) - 1)))) (by rw [er3]) ?_
                    refine E_s 2 (i' := 82) (ls' := [some (.inr (.inr 66)), some (.inl ifs), some (.inl (sno (szf SS T1 (SS 0 0) (T1 0 0) (-1) ifs.toNat (xshl 1 (g1 66 4) - 1)))), some (.inl mE), some (.inl 0), some (.inl 1), some (.inl r1)]) (sk' := [.inl 1]) (h' := g2) rfl ?_
                    refine E_b (x := (.ifCond .ne 7, 85, [], [])) rfl rfl (fun c82 => ?_) (fun c82 => ?_)
                    · show xEx G0 cdX12_make (some .int) (xRn G0 MT (d + 6)) Q b 85 [some (.inr (.inr 66)), some (.inl ifs), some (.inl (sno (szf SS T1 (SS 0 0) (T1 0 0) (-1) ifs.toNat (xshl 1 (g1 66 4) - 1)))), some (.inl mE), some (.inl 0), some (.inl 1), some (.inl r1)] [] g2
                      refine E_s 3 (i' := 38) (ls' := [some (.inr (.inr 66)), some (.inl ifs), some (.inl (sno (szf SS T1 (SS 0 0) (T1 0 0) (-1) ifs.toNat (xshl 1 (g1 66 4) - 1)))), some (.inl mE), some (.inl 0), some (.inl 0), some (.inl r1)]) (sk' := []) (h' := g2) rfl ?_
                      exact hN (by omega) 0 g1 g2 _ (by first | (exfalso; omega) | (rw [if_pos (by omega)]; done) | (rw [if_neg (by omega)]; done)) ri1 fs (ll (by omega)) sp
                    · show xEx G0 cdX12_make (some .int) (xRn G0 MT (d + 6)) Q b 83 [some (.inr (.inr 66)), some (.inl ifs), some (.inl (sno (szf SS T1 (SS 0 0) (T1 0 0) (-1) ifs.toNat (xshl 1 (g1 66 4) - 1)))), some (.inl mE), some (.inl 0), some (.inl 1), some (.inl r1)] [] g2
                      exact absurd c82 (by decide)
                  · rw [c_le (by first | assumption | (refine ⟨?_, ?_⟩ <;> omega) | (simp only [xr] at *; omega)) (by first | assumption | (refine ⟨?_, ?_⟩ <;> omega) | (simp only [xr] at *; omega))] at c72
                    simp only [decide_eq_true_eq, decide_eq_false_iff_not, Decidable.not_not] at c72
                    show xEx G0 cdX12_make (some .int) (xRn G0 MT (d + 6)) Q b 73 [some (.inr (.inr 66)), some (.inl ifs), some (.inl (-1)), some (.inl mE), some (.inl 0), some (.inl 1), some (.inl r1)] [] g1
                    refine E_s 1 (i' := 74) (ls' := [some (.inr (.inr 66)), some (.inl ifs), some (.inl (-1)), some (.inl mE), some (.inl 0), some (.inl 1), some (.inl r1)]) (sk' := [.inl 1]) (h' := g1) rfl ?_
                    refine E_b (x := (.ifCond .ne 5, 77, [], [])) rfl rfl (fun c74 => ?_) (fun c74 => ?_)
                    · show xEx G0 cdX12_make (some .int) (xRn G0 MT (d + 6)) Q b 77 [some (.inr (.inr 66)), some (.inl ifs), some (.inl (-1)), some (.inl mE), some (.inl 0), some (.inl 1), some (.inl r1)] [] g1
                      refine E_s 2 (i' := 79) (ls' := [some (.inr (.inr 66)), some (.inl ifs), some (.inl (-1)), some (.inl mE), some (.inl 0), some (.inl 1), some (.inl r1)]) (sk' := [.inl ifs, .inr (.inr 66)]) (h' := g1) rfl ?_
                      refine E_cp (x := (.invokevirtual 407, 1, [(10, 231)], [0])) (q := fun r h9 => r = sno (szf SS T1 (SS 0 0) (T1 0 0) (-1) ifs.toNat (xshl 1 (g1 66 4) - 1)) ∧ SOLP g1 h9 SS T1 ifs) rfl rfl (Nat.le_of_ble_eq_true rfl) (m_solves (d + 2) 0 g1 SS T1 ifs (h1 1 2) (h1 6) hi he1 (h1 1 2).toNat (OKS_ci ci1) (by rw [e41]) (by rw [e41]; exact ci1.1.1) ri1.2.1.1 ri1.2.2.1.1 v2 v5 v3 v6 (fun h9 z => ⟨_, rfl, rfl, z⟩)) (fun r3 g2 hq3 => ?_)
                      obtain ⟨er3, sp⟩ := hq3
                      show xEx G0 cdX12_make (some .int) (xRn G0 MT (d + 6)) Q b 80 [some (.inr (.inr 66)), some (.inl ifs), some (.inl (-1)), some (.inl mE), some (.inl 0), some (.inl 1), some (.inl r1)] [.inl r3] g2
                      refine E_ti (y := (sno (szf SS T1 (SS 0 0) (T1 0 0) (-1) ifs.toNat (xshl 1 (g1 66 4) - 1)))) (by rw [er3]) ?_
                      refine E_s 2 (i' := 82) (ls' := [some (.inr (.inr 66)), some (.inl ifs), some (.inl (sno (szf SS T1 (SS 0 0) (T1 0 0) (-1) ifs.toNat (xshl 1 (g1 66 4) - 1)))), some (.inl mE), some (.inl 0), some (.inl 1), some (.inl r1)]) (sk' := [.inl 1]) (h' := g2) rfl ?_
                      refine E_b (x := (.ifCond .ne 7, 85, [], [])) rfl rfl (fun c82 => ?_) (fun c82 => ?_)
                      · show xEx G0 cdX12_make (some .int) (xRn G0 MT (d + 6)) Q b 85 [some (.inr (.inr 66)), some (.inl ifs), some (.inl (sno (szf SS T1 (SS 0 0) (T1 0 0) (-1) ifs.toNat (xshl 1 (g1 66 4) - 1)))), some (.inl mE), some (.inl 0), some (.inl 1), some (.inl r1)] [] g2
                        refine E_s 3 (i' := 38) (ls' := [some (.inr (.inr 66)), some (.inl ifs), some (.inl (sno (szf SS T1 (SS 0 0) (T1 0 0) (-1) ifs.toNat (xshl 1 (g1 66 4) - 1)))), some (.inl mE), some (.inl 0), some (.inl 0), some (.inl r1)]) (sk' := []) (h' := g2) rfl ?_
                        exact hN (by omega) 0 g1 g2 _ (by first | (exfalso; omega) | (rw [if_pos (by omega)]; done) | (rw [if_neg (by omega)]; done)) ri1 fs (ll (by omega)) sp
                      · show xEx G0 cdX12_make (some .int) (xRn G0 MT (d + 6)) Q b 83 [some (.inr (.inr 66)), some (.inl ifs), some (.inl (sno (szf SS T1 (SS 0 0) (T1 0 0) (-1) ifs.toNat (xshl 1 (g1 66 4) - 1)))), some (.inl mE), some (.inl 0), some (.inl 1), some (.inl r1)] [] g2
                        exact absurd c82 (by decide)
                    · show xEx G0 cdX12_make (some .int) (xRn G0 MT (d + 6)) Q b 75 [some (.inr (.inr 66)), some (.inl ifs), some (.inl (-1)), some (.inl mE), some (.inl 0), some (.inl 1), some (.inl r1)] [] g1
                      exact absurd c74 (by decide)
            · rw [c_ne (by first | assumption | (refine ⟨?_, ?_⟩ <;> omega) | (simp only [xr] at *; omega)) (by first | assumption | (refine ⟨?_, ?_⟩ <;> omega) | (simp only [xr] at *; omega))] at c62
              simp only [decide_eq_true_eq, decide_eq_false_iff_not, Decidable.not_not] at c62
              show xEx G0 cdX12_make (some .int) (xRn G0 MT (d + 6)) Q b 63 [some (.inr (.inr 66)), some (.inl ifs), some (.inl (-1)), some (.inl mE), some (.inl 1), some (.inl 1), some (.inl r1)] [] g1
              refine E_s 1 (i' := 64) (ls' := [some (.inr (.inr 66)), some (.inl ifs), some (.inl (-1)), some (.inl mE), some (.inl 1), some (.inl 1), some (.inl r1)]) (sk' := [.inl (-2)]) (h' := g1) rfl ?_
              exact E_ret (x := (.ireturn, 0, [], [])) (v := some (.inl (-2))) rfl (Or.inl rfl) (by
                have q9 : r = 2 := by omega
                exact hB q9 g1 ri1 fs)
    · rw [c_ne (by first | assumption | (refine ⟨?_, ?_⟩ <;> omega) | (simp only [xr] at *; omega)) (by first | assumption | (refine ⟨?_, ?_⟩ <;> omega) | (simp only [xr] at *; omega))] at c42
      simp only [decide_eq_true_eq, decide_eq_false_iff_not, Decidable.not_not] at c42
      show xEx G0 cdX12_make (some .int) (xRn G0 MT (d + 6)) Q b 43 [some (.inr (.inr 66)), some (.inl ifs), some (.inl (-1)), some (.inl mE), some (.inl 1), some (.inl 1), l6] [] g
      refine E_s 1 (i' := 44) (ls' := [some (.inr (.inr 66)), some (.inl ifs), some (.inl (-1)), some (.inl mE), some (.inl 1), some (.inl 1), l6]) (sk' := [.inl 1]) (h' := g) rfl ?_
      refine E_b (x := (.ifCond .eq 91, 88, [], [])) rfl rfl (fun c44 => ?_) (fun c44 => ?_)
      · show xEx G0 cdX12_make (some .int) (xRn G0 MT (d + 6)) Q b 88 [some (.inr (.inr 66)), some (.inl ifs), some (.inl (-1)), some (.inl mE), some (.inl 1), some (.inl 1), l6] [] g
        exact absurd c44 (by decide)
      · show xEx G0 cdX12_make (some .int) (xRn G0 MT (d + 6)) Q b 45 [some (.inr (.inr 66)), some (.inl ifs), some (.inl (-1)), some (.inl mE), some (.inl 1), some (.inl 1), l6] [] g
        refine E_s 1 (i' := 46) (ls' := [some (.inr (.inr 66)), some (.inl ifs), some (.inl (-1)), some (.inl mE), some (.inl 1), some (.inl 1), l6]) (sk' := [.inl 1]) (h' := g) rfl ?_
        refine E_b (x := (.ifCond .eq 11, 50, [], [])) rfl rfl (fun c46 => ?_) (fun c46 => ?_)
        · show xEx G0 cdX12_make (some .int) (xRn G0 MT (d + 6)) Q b 50 [some (.inr (.inr 66)), some (.inl ifs), some (.inl (-1)), some (.inl mE), some (.inl 1), some (.inl 1), l6] [] g
          exact absurd c46 (by decide)
        · show xEx G0 cdX12_make (some .int) (xRn G0 MT (d + 6)) Q b 47 [some (.inr (.inr 66)), some (.inl ifs), some (.inl (-1)), some (.inl mE), some (.inl 1), some (.inl 1), l6] [] g
          refine E_s 1 (i' := 48) (ls' := [some (.inr (.inr 66)), some (.inl ifs), some (.inl (-1)), some (.inl mE), some (.inl 1), some (.inl 1), l6]) (sk' := [.inl 1]) (h' := g) rfl ?_
          refine E_b (x := (.ifCond .eq 66, 81, [], [])) rfl rfl (fun c48 => ?_) (fun c48 => ?_)
          · show xEx G0 cdX12_make (some .int) (xRn G0 MT (d + 6)) Q b 81 [some (.inr (.inr 66)), some (.inl ifs), some (.inl (-1)), some (.inl mE), some (.inl 1), some (.inl 1), l6] [] g
            exact absurd c48 (by decide)
          · show xEx G0 cdX12_make (some .int) (xRn G0 MT (d + 6)) Q b 49 [some (.inr (.inr 66)), some (.inl ifs), some (.inl (-1)), some (.inl mE), some (.inl 1), some (.inl 1), l6] [] g
            refine E_s 3 (i' := 54) (ls' := [some (.inr (.inr 66)), some (.inl ifs), some (.inl (-1)), some (.inl mE), some (.inl 1), some (.inl 1), l6]) (sk' := [.inl 1, .inr (.inr 66)]) (h' := g) rfl ?_
            refine E_b (x := (.ifCond .eq 7, 57, [], [])) rfl rfl (fun c54 => ?_) (fun c54 => ?_)
            · show xEx G0 cdX12_make (some .int) (xRn G0 MT (d + 6)) Q b 57 [some (.inr (.inr 66)), some (.inl ifs), some (.inl (-1)), some (.inl mE), some (.inl 1), some (.inl 1), l6] [.inr (.inr 66)] g
              exact absurd c54 (by decide)
            · show xEx G0 cdX12_make (some .int) (xRn G0 MT (d + 6)) Q b 55 [some (.inr (.inr 66)), some (.inl ifs), some (.inl (-1)), some (.inl mE), some (.inl 1), some (.inl 1), l6] [.inr (.inr 66)] g
              refine E_s 2 (i' := 58) (ls' := [some (.inr (.inr 66)), some (.inl ifs), some (.inl (-1)), some (.inl mE), some (.inl 1), some (.inl 1), l6]) (sk' := [.inl 1, .inr (.inr 66)]) (h' := g) rfl ?_
              refine E_cp (x := (.invokevirtual 292, 1, [(10, 190)], [0])) (q := fun r9 g9 => r9 = r ∧ DT h1 g9 T1 ∧ FST g g9 ∧ (r ≠ 2 → g9 66 35 = left - (T1 0 2 - TT 0 2))) rfl rfl (Nat.le_of_ble_eq_true rfl) (b_gt d 0 hh g SS TT left ci.1 ci.2.1 ci.2.2.1 ri.1 ri.2.1.1 ri.2.2.1 hl lr G (fun g9 z1 z2 z3 => ⟨_, rfl, rfl, z1, z2, z3⟩)) (fun r1 g1 hq1 => ?_)
              obtain ⟨er1, de1, fs, ll⟩ := hq1
              have ri1 : RI h1 g1 SS T1 := RI_gt ci.2.1.2.1.2.1 f1 fs ri de1
              show xEx G0 cdX12_make (some .int) (xRn G0 MT (d + 6)) Q b 59 [some (.inr (.inr 66)), some (.inl ifs), some (.inl (-1)), some (.inl mE), some (.inl 1), some (.inl 1), l6] [.inl r1] g1
              have e41 : g1 66 4 = h1 1 2 := ri1.1.1
              have he1 : g1 66 4 ≠ 0 := by rw [e41, x1]; exact he
              obtain ⟨-, v2, v3, -, v5, v6⟩ := EV_ci ci1
              skip
              refine E_s 3 (i' := 62) (ls' := [some (.inr (.inr 66)), some (.inl ifs), some (.inl (-1)), some (.inl mE), some (.inl 1), some (.inl 1), some (.inl r1)]) (sk' := [.inl 2, .inl r1]) (h' := g1) rfl ?_
              refine E_b (x := (.if_icmp .ne 6, 65, [], [])) rfl rfl (fun c62 => ?_) (fun c62 => ?_)
              · rw [c_ne (by first | assumption | (refine ⟨?_, ?_⟩ <;> omega) | (simp only [xr] at *; omega)) (by first | assumption | (refine ⟨?_, ?_⟩ <;> omega) | (simp only [xr] at *; omega))] at c62
                simp only [decide_eq_true_eq, decide_eq_false_iff_not, Decidable.not_not] at c62
                show xEx G0 cdX12_make (some .int) (xRn G0 MT (d + 6)) Q b 65 [some (.inr (.inr 66)), some (.inl ifs), some (.inl (-1)), some (.inl mE), some (.inl 1), some (.inl 1), some (.inl r1)] [] g1
                refine E_s 1 (i' := 66) (ls' := [some (.inr (.inr 66)), some (.inl ifs), some (.inl (-1)), some (.inl mE), some (.inl 1), some (.inl 1), some (.inl r1)]) (sk' := [.inl r1]) (h' := g1) rfl ?_
                refine E_b (x := (.ifCond .le 11, 71, [], [])) rfl rfl (fun c66 => ?_) (fun c66 => ?_)
                · rw [c_le (by first | assumption | (refine ⟨?_, ?_⟩ <;> omega) | (simp only [xr] at *; omega)) (by first | assumption | (refine ⟨?_, ?_⟩ <;> omega) | (simp only [xr] at *; omega))] at c66
                  simp only [decide_eq_true_eq, decide_eq_false_iff_not, Decidable.not_not] at c66
                  show xEx G0 cdX12_make (some .int) (xRn G0 MT (d + 6)) Q b 71 [some (.inr (.inr 66)), some (.inl ifs), some (.inl (-1)), some (.inl mE), some (.inl 1), some (.inl 1), some (.inl r1)] [] g1
                  refine E_s 1 (i' := 72) (ls' := [some (.inr (.inr 66)), some (.inl ifs), some (.inl (-1)), some (.inl mE), some (.inl 1), some (.inl 1), some (.inl r1)]) (sk' := [.inl r1]) (h' := g1) rfl ?_
                  refine E_b (x := (.ifCond .le 10, 77, [], [])) rfl rfl (fun c72 => ?_) (fun c72 => ?_)
                  · rw [c_le (by first | assumption | (refine ⟨?_, ?_⟩ <;> omega) | (simp only [xr] at *; omega)) (by first | assumption | (refine ⟨?_, ?_⟩ <;> omega) | (simp only [xr] at *; omega))] at c72
                    simp only [decide_eq_true_eq, decide_eq_false_iff_not, Decidable.not_not] at c72
                    show xEx G0 cdX12_make (some .int) (xRn G0 MT (d + 6)) Q b 77 [some (.inr (.inr 66)), some (.inl ifs), some (.inl (-1)), some (.inl mE), some (.inl 1), some (.inl 1), some (.inl r1)] [] g1
                    refine E_s 2 (i' := 79) (ls' := [some (.inr (.inr 66)), some (.inl ifs), some (.inl (-1)), some (.inl mE), some (.inl 1), some (.inl 1), some (.inl r1)]) (sk' := [.inl ifs, .inr (.inr 66)]) (h' := g1) rfl ?_
                    refine E_cp (x := (.invokevirtual 407, 1, [(10, 231)], [0])) (q := fun r h9 => r = sno (szf SS T1 (SS 0 0) (T1 0 0) (-1) ifs.toNat (xshl 1 (g1 66 4) - 1)) ∧ SOLP g1 h9 SS T1 ifs) rfl rfl (Nat.le_of_ble_eq_true rfl) (m_solves (d + 2) 0 g1 SS T1 ifs (h1 1 2) (h1 6) hi he1 (h1 1 2).toNat (OKS_ci ci1) (by rw [e41]) (by rw [e41]; exact ci1.1.1) ri1.2.1.1 ri1.2.2.1.1 v2 v5 v3 v6 (fun h9 z => ⟨_, rfl, rfl, z⟩)) (fun r3 g2 hq3 => ?_)
                    obtain ⟨er3, sp⟩ := hq3
                    show xEx G0 cdX12_make (some .int) (xRn G0 MT (d + 6)) Q b 80 [some (.inr (.inr 66)), some (.inl ifs), some (.inl (-1)), some (.inl mE), some (.inl 1), some (.inl 1), some (.inl r1)] [.inl r3] g2
                    refine E_ti (y := (sno (szf SS T1 (SS 0 0) (T1 0 0) (-1) ifs.toNat (xshl 1 (g1 66 4) - 1)))) (by rw [er3]) ?_
                    refine E_s 2 (i' := 82) (ls' := [some (.inr (.inr 66)), some (.inl ifs), some (.inl (sno (szf SS T1 (SS 0 0) (T1 0 0) (-1) ifs.toNat (xshl 1 (g1 66 4) - 1)))), some (.inl mE), some (.inl 1), some (.inl 1), some (.inl r1)]) (sk' := [.inl 1]) (h' := g2) rfl ?_
                    refine E_b (x := (.ifCond .ne 7, 85, [], [])) rfl rfl (fun c82 => ?_) (fun c82 => ?_)
                    · show xEx G0 cdX12_make (some .int) (xRn G0 MT (d + 6)) Q b 85 [some (.inr (.inr 66)), some (.inl ifs), some (.inl (sno (szf SS T1 (SS 0 0) (T1 0 0) (-1) ifs.toNat (xshl 1 (g1 66 4) - 1)))), some (.inl mE), some (.inl 1), some (.inl 1), some (.inl r1)] [] g2
                      refine E_s 3 (i' := 38) (ls' := [some (.inr (.inr 66)), some (.inl ifs), some (.inl (sno (szf SS T1 (SS 0 0) (T1 0 0) (-1) ifs.toNat (xshl 1 (g1 66 4) - 1)))), some (.inl mE), some (.inl 1), some (.inl 0), some (.inl r1)]) (sk' := []) (h' := g2) rfl ?_
                      exact hN (by omega) 1 g1 g2 _ (by first | (exfalso; omega) | (rw [if_pos (by omega)]; done) | (rw [if_neg (by omega)]; done)) ri1 fs (ll (by omega)) sp
                    · show xEx G0 cdX12_make (some .int) (xRn G0 MT (d + 6)) Q b 83 [some (.inr (.inr 66)), some (.inl ifs), some (.inl (sno (szf SS T1 (SS 0 0) (T1 0 0) (-1) ifs.toNat (xshl 1 (g1 66 4) - 1)))), some (.inl mE), some (.inl 1), some (.inl 1), some (.inl r1)] [] g2
                      exact absurd c82 (by decide)
                  · rw [c_le (by first | assumption | (refine ⟨?_, ?_⟩ <;> omega) | (simp only [xr] at *; omega)) (by first | assumption | (refine ⟨?_, ?_⟩ <;> omega) | (simp only [xr] at *; omega))] at c72
                    simp only [decide_eq_true_eq, decide_eq_false_iff_not, Decidable.not_not] at c72
                    show xEx G0 cdX12_make (some .int) (xRn G0 MT (d + 6)) Q b 73 [some (.inr (.inr 66)), some (.inl ifs), some (.inl (-1)), some (.inl mE), some (.inl 1), some (.inl 1), some (.inl r1)] [] g1
                    refine E_s 1 (i' := 74) (ls' := [some (.inr (.inr 66)), some (.inl ifs), some (.inl (-1)), some (.inl mE), some (.inl 1), some (.inl 1), some (.inl r1)]) (sk' := [.inl 1]) (h' := g1) rfl ?_
                    refine E_b (x := (.ifCond .ne 5, 77, [], [])) rfl rfl (fun c74 => ?_) (fun c74 => ?_)
                    · show xEx G0 cdX12_make (some .int) (xRn G0 MT (d + 6)) Q b 77 [some (.inr (.inr 66)), some (.inl ifs), some (.inl (-1)), some (.inl mE), some (.inl 1), some (.inl 1), some (.inl r1)] [] g1
                      refine E_s 2 (i' := 79) (ls' := [some (.inr (.inr 66)), some (.inl ifs), some (.inl (-1)), some (.inl mE), some (.inl 1), some (.inl 1), some (.inl r1)]) (sk' := [.inl ifs, .inr (.inr 66)]) (h' := g1) rfl ?_
                      refine E_cp (x := (.invokevirtual 407, 1, [(10, 231)], [0])) (q := fun r h9 => r = sno (szf SS T1 (SS 0 0) (T1 0 0) (-1) ifs.toNat (xshl 1 (g1 66 4) - 1)) ∧ SOLP g1 h9 SS T1 ifs) rfl rfl (Nat.le_of_ble_eq_true rfl) (m_solves (d + 2) 0 g1 SS T1 ifs (h1 1 2) (h1 6) hi he1 (h1 1 2).toNat (OKS_ci ci1) (by rw [e41]) (by rw [e41]; exact ci1.1.1) ri1.2.1.1 ri1.2.2.1.1 v2 v5 v3 v6 (fun h9 z => ⟨_, rfl, rfl, z⟩)) (fun r3 g2 hq3 => ?_)
                      obtain ⟨er3, sp⟩ := hq3
                      show xEx G0 cdX12_make (some .int) (xRn G0 MT (d + 6)) Q b 80 [some (.inr (.inr 66)), some (.inl ifs), some (.inl (-1)), some (.inl mE), some (.inl 1), some (.inl 1), some (.inl r1)] [.inl r3] g2
                      refine E_ti (y := (sno (szf SS T1 (SS 0 0) (T1 0 0) (-1) ifs.toNat (xshl 1 (g1 66 4) - 1)))) (by rw [er3]) ?_
                      refine E_s 2 (i' := 82) (ls' := [some (.inr (.inr 66)), some (.inl ifs), some (.inl (sno (szf SS T1 (SS 0 0) (T1 0 0) (-1) ifs.toNat (xshl 1 (g1 66 4) - 1)))), some (.inl mE), some (.inl 1), some (.inl 1), some (.inl r1)]) (sk' := [.inl 1]) (h' := g2) rfl ?_
                      refine E_b (x := (.ifCond .ne 7, 85, [], [])) rfl rfl (fun c82 => ?_) (fun c82 => ?_)
                      · show xEx G0 cdX12_make (some .int) (xRn G0 MT (d + 6)) Q b 85 [some (.inr (.inr 66)), some (.inl ifs), some (.inl (sno (szf SS T1 (SS 0 0) (T1 0 0) (-1) ifs.toNat (xshl 1 (g1 66 4) - 1)))), some (.inl mE), some (.inl 1), some (.inl 1), some (.inl r1)] [] g2
                        refine E_s 3 (i' := 38) (ls' := [some (.inr (.inr 66)), some (.inl ifs), some (.inl (sno (szf SS T1 (SS 0 0) (T1 0 0) (-1) ifs.toNat (xshl 1 (g1 66 4) - 1)))), some (.inl mE), some (.inl 1), some (.inl 0), some (.inl r1)]) (sk' := []) (h' := g2) rfl ?_
                        exact hN (by omega) 1 g1 g2 _ (by first | (exfalso; omega) | (rw [if_pos (by omega)]; done) | (rw [if_neg (by omega)]; done)) ri1 fs (ll (by omega)) sp
                      · show xEx G0 cdX12_make (some .int) (xRn G0 MT (d + 6)) Q b 83 [some (.inr (.inr 66)), some (.inl ifs), some (.inl (sno (szf SS T1 (SS 0 0) (T1 0 0) (-1) ifs.toNat (xshl 1 (g1 66 4) - 1)))), some (.inl mE), some (.inl 1), some (.inl 1), some (.inl r1)] [] g2
                        exact absurd c82 (by decide)
                    · show xEx G0 cdX12_make (some .int) (xRn G0 MT (d + 6)) Q b 75 [some (.inr (.inr 66)), some (.inl ifs), some (.inl (-1)), some (.inl mE), some (.inl 1), some (.inl 1), some (.inl r1)] [] g1
                      exact absurd c74 (by decide)
                · rw [c_le (by first | assumption | (refine ⟨?_, ?_⟩ <;> omega) | (simp only [xr] at *; omega)) (by first | assumption | (refine ⟨?_, ?_⟩ <;> omega) | (simp only [xr] at *; omega))] at c66
                  simp only [decide_eq_true_eq, decide_eq_false_iff_not, Decidable.not_not] at c66
                  show xEx G0 cdX12_make (some .int) (xRn G0 MT (d + 6)) Q b 67 [some (.inr (.inr 66)), some (.inl ifs), some (.inl (-1)), some (.inl mE), some (.inl 1), some (.inl 1), some (.inl r1)] [] g1
                  refine E_s 1 (i' := 68) (ls' := [some (.inr (.inr 66)), some (.inl ifs), some (.inl (-1)), some (.inl mE), some (.inl 1), some (.inl 1), some (.inl r1)]) (sk' := [.inl 1]) (h' := g1) rfl ?_
                  refine E_b (x := (.ifCond .eq 6, 71, [], [])) rfl rfl (fun c68 => ?_) (fun c68 => ?_)
                  · show xEx G0 cdX12_make (some .int) (xRn G0 MT (d + 6)) Q b 71 [some (.inr (.inr 66)), some (.inl ifs), some (.inl (-1)), some (.inl mE), some (.inl 1), some (.inl 1), some (.inl r1)] [] g1
                    exact absurd c68 (by decide)
                  · show xEx G0 cdX12_make (some .int) (xRn G0 MT (d + 6)) Q b 69 [some (.inr (.inr 66)), some (.inl ifs), some (.inl (-1)), some (.inl mE), some (.inl 1), some (.inl 1), some (.inl r1)] [] g1
                    refine E_s 3 (i' := 72) (ls' := [some (.inr (.inr 66)), some (.inl ifs), some (.inl (-1)), some (.inl mE), some (.inl 0), some (.inl 1), some (.inl r1)]) (sk' := [.inl r1]) (h' := g1) rfl ?_
                    refine E_b (x := (.ifCond .le 10, 77, [], [])) rfl rfl (fun c72 => ?_) (fun c72 => ?_)
                    · rw [c_le (by first | assumption | (refine ⟨?_, ?_⟩ <;> omega) | (simp only [xr] at *; omega)) (by first | assumption | (refine ⟨?_, ?_⟩ <;> omega) | (simp only [xr] at *; omega))] at c72
                      simp only [decide_eq_true_eq, decide_eq_false_iff_not, Decidable.not_not] at c72
                      show xEx G0 cdX12_make (some .int) (xRn G0 MT (d + 6)) Q b 77 [some (.inr (.inr 66)), some (.inl ifs), some (.inl (-1)), some (.inl mE), some (.inl 0), some (.inl 1), some (.inl r1)] [] g1
                      refine E_s 2 (i' := 79) (ls' := [some (.inr (.inr 66)), some (.inl ifs), some (.inl (-1)), some (.inl mE), some (.inl 0), some (.inl 1), some (.inl r1)]) (sk' := [.inl ifs, .inr (.inr 66)]) (h' := g1) rfl ?_
                      refine E_cp (x := (.invokevirtual 407, 1, [(10, 231)], [0])) (q := fun r h9 => r = sno (szf SS T1 (SS 0 0) (T1 0 0) (-1) ifs.toNat (xshl 1 (g1 66 4) - 1)) ∧ SOLP g1 h9 SS T1 ifs) rfl rfl (Nat.le_of_ble_eq_true rfl) (m_solves (d + 2) 0 g1 SS T1 ifs (h1 1 2) (h1 6) hi he1 (h1 1 2).toNat (OKS_ci ci1) (by rw [e41]) (by rw [e41]; exact ci1.1.1) ri1.2.1.1 ri1.2.2.1.1 v2 v5 v3 v6 (fun h9 z => ⟨_, rfl, rfl, z⟩)) (fun r3 g2 hq3 => ?_)
                      obtain ⟨er3, sp⟩ := hq3
                      show xEx G0 cdX12_make (some .int) (xRn G0 MT (d + 6)) Q b 80 [some (.inr (.inr 66)), some (.inl ifs), some (.inl (-1)), some (.inl mE), some (.inl 0), some (.inl 1), some (.inl r1)] [.inl r3] g2
                      refine E_ti (y := (sno (szf SS T1 (SS 0 0) (T1 0 0) (-1) ifs.toNat (xshl 1 (g1 66 4) - 1)))) (by rw [er3]) ?_
                      refine E_s 2 (i' := 82) (ls' := [some (.inr (.inr 66)), some (.inl ifs), some (.inl (sno (szf SS T1 (SS 0 0) (T1 0 0) (-1) ifs.toNat (xshl 1 (g1 66 4) - 1)))), some (.inl mE), some (.inl 0), some (.inl 1), some (.inl r1)]) (sk' := [.inl 1]) (h' := g2) rfl ?_
                      refine E_b (x := (.ifCond .ne 7, 85, [], [])) rfl rfl (fun c82 => ?_) (fun c82 => ?_)
                      · show xEx G0 cdX12_make (some .int) (xRn G0 MT (d + 6)) Q b 85 [some (.inr (.inr 66)), some (.inl ifs), some (.inl (sno (szf SS T1 (SS 0 0) (T1 0 0) (-1) ifs.toNat (xshl 1 (g1 66 4) - 1)))), some (.inl mE), some (.inl 0), some (.inl 1), some (.inl r1)] [] g2
                        refine E_s 3 (i' := 38) (ls' := [some (.inr (.inr 66)), some (.inl ifs), some (.inl (sno (szf SS T1 (SS 0 0) (T1 0 0) (-1) ifs.toNat (xshl 1 (g1 66 4) - 1)))), some (.inl mE), some (.inl 0), some (.inl 0), some (.inl r1)]) (sk' := []) (h' := g2) rfl ?_
                        exact hN (by omega) 0 g1 g2 _ (by first | (exfalso; omega) | (rw [if_pos (by omega)]; done) | (rw [if_neg (by omega)]; done)) ri1 fs (ll (by omega)) sp
                      · show xEx G0 cdX12_make (some .int) (xRn G0 MT (d + 6)) Q b 83 [some (.inr (.inr 66)), some (.inl ifs), some (.inl (sno (szf SS T1 (SS 0 0) (T1 0 0) (-1) ifs.toNat (xshl 1 (g1 66 4) - 1)))), some (.inl mE), some (.inl 0), some (.inl 1), some (.inl r1)] [] g2
                        exact absurd c82 (by decide)
                    · rw [c_le (by first | assumption | (refine ⟨?_, ?_⟩ <;> omega) | (simp only [xr] at *; omega)) (by first | assumption | (refine ⟨?_, ?_⟩ <;> omega) | (simp only [xr] at *; omega))] at c72
                      simp only [decide_eq_true_eq, decide_eq_false_iff_not, Decidable.not_not] at c72
                      show xEx G0 cdX12_make (some .int) (xRn G0 MT (d + 6)) Q b 73 [some (.inr (.inr 66)), some (.inl ifs), some (.inl (-1)), some (.inl mE), some (.inl 0), some (.inl 1), some (.inl r1)] [] g1
                      refine E_s 1 (i' := 74) (ls' := [some (.inr (.inr 66)), some (.inl ifs), some (.inl (-1)), some (.inl mE), some (.inl 0), some (.inl 1), some (.inl r1)]) (sk' := [.inl 1]) (h' := g1) rfl ?_
                      refine E_b (x := (.ifCond .ne 5, 77, [], [])) rfl rfl (fun c74 => ?_) (fun c74 => ?_)
                      · show xEx G0 cdX12_make (some .int) (xRn G0 MT (d + 6)) Q b 77 [some (.inr (.inr 66)), some (.inl ifs), some (.inl (-1)), some (.inl mE), some (.inl 0), some (.inl 1), some (.inl r1)] [] g1
                        refine E_s 2 (i' := 79) (ls' := [some (.inr (.inr 66)), some (.inl ifs), some (.inl (-1)), some (.inl mE), some (.inl 0), some (.inl 1), some (.inl r1)]) (sk' := [.inl ifs, .inr (.inr 66)]) (h' := g1) rfl ?_
                        refine E_cp (x := (.invokevirtual 407, 1, [(10, 231)], [0])) (q := fun r h9 => r = sno (szf SS T1 (SS 0 0) (T1 0 0) (-1) ifs.toNat (xshl 1 (g1 66 4) - 1)) ∧ SOLP g1 h9 SS T1 ifs) rfl rfl (Nat.le_of_ble_eq_true rfl) (m_solves (d + 2) 0 g1 SS T1 ifs (h1 1 2) (h1 6) hi he1 (h1 1 2).toNat (OKS_ci ci1) (by rw [e41]) (by rw [e41]; exact ci1.1.1) ri1.2.1.1 ri1.2.2.1.1 v2 v5 v3 v6 (fun h9 z => ⟨_, rfl, rfl, z⟩)) (fun r3 g2 hq3 => ?_)
                        obtain ⟨er3, sp⟩ := hq3
                        show xEx G0 cdX12_make (some .int) (xRn G0 MT (d + 6)) Q b 80 [some (.inr (.inr 66)), some (.inl ifs), some (.inl (-1)), some (.inl mE), some (.inl 0), some (.inl 1), some (.inl r1)] [.inl r3] g2
                        refine E_ti (y := (sno (szf SS T1 (SS 0 0) (T1 0 0) (-1) ifs.toNat (xshl 1 (g1 66 4) - 1)))) (by rw [er3]) ?_
                        refine E_s 2 (i' := 82) (ls' := [some (.inr (.inr 66)), some (.inl ifs), some (.inl (sno (szf SS T1 (SS 0 0) (T1 0 0) (-1) ifs.toNat (xshl 1 (g1 66 4) - 1)))), some (.inl mE), some (.inl 0), some (.inl 1), some (.inl r1)]) (sk' := [.inl 1]) (h' := g2) rfl ?_
                        refine E_b (x := (.ifCond .ne 7, 85, [], [])) rfl rfl (fun c82 => ?_) (fun c82 => ?_)
                        · show xEx G0 cdX12_make (some .int) (xRn G0 MT (d + 6)) Q b 85 [some (.inr (.inr 66)), some (.inl ifs), some (.inl (sno (szf SS T1 (SS 0 0) (T1 0 0) (-1) ifs.toNat (xshl 1 (g1 66 4) - 1)))), some (.inl mE), some (.inl 0), some (.inl 1), some (.inl r1)] [] g2
                          refine E_s 3 (i' := 38) (ls' := [some (.inr (.inr 66)), some (.inl ifs), some (.inl (sno (szf SS T1 (SS 0 0) (T1 0 0) (-1) ifs.toNat (xshl 1 (g1 66 4) - 1)))), some (.inl mE), some (.inl 0), some (.inl 0), some (.inl r1)]) (sk' := []) (h' := g2) rfl ?_
                          exact hN (by omega) 0 g1 g2 _ (by first | (exfalso; omega) | (rw [if_pos (by omega)]; done) | (rw [if_neg (by omega)]; done)) ri1 fs (ll (by omega)) sp
                        · show xEx G0 cdX12_make (some .int) (xRn G0 MT (d + 6)) Q b 83 [some (.inr (.inr 66)), some (.inl ifs), some (.inl (sno (szf SS T1 (SS 0 0) (T1 0 0) (-1) ifs.toNat (xshl 1 (g1 66 4) - 1)))), some (.inl mE), some (.inl 0), some (.inl 1), some (.inl r1)] [] g2
                          exact absurd c82 (by decide)
                      · show xEx G0 cdX12_make (some .int) (xRn G0 MT (d + 6)) Q b 75 [some (.inr (.inr 66)), some (.inl ifs), some (.inl (-1)), some (.inl mE), some (.inl 0), some (.inl 1), some (.inl r1)] [] g1
                        exact absurd c74 (by decide)
              · rw [c_ne (by first | assumption | (refine ⟨?_, ?_⟩ <;> omega) | (simp only [xr] at *; omega)) (by first | assumption | (refine ⟨?_, ?_⟩ <;> omega) | (simp only [xr] at *; omega))] at c62
                simp only [decide_eq_true_eq, decide_eq_false_iff_not, Decidable.not_not] at c62
                show xEx G0 cdX12_make (some .int) (xRn G0 MT (d + 6)) Q b 63 [some (.inr (.inr 66)), some (.inl ifs), some (.inl (-1)), some (.inl mE), some (.inl 1), some (.inl 1), some (.inl r1)] [] g1
                refine E_s 1 (i' := 64) (ls' := [some (.inr (.inr 66)), some (.inl ifs), some (.inl (-1)), some (.inl mE), some (.inl 1), some (.inl 1), some (.inl r1)]) (sk' := [.inl (-2)]) (h' := g1) rfl ?_
                exact E_ret (x := (.ireturn, 0, [], [])) (v := some (.inl (-2))) rfl (Or.inl rfl) (by
                  have q9 : r = 2 := by omega
                  exact hB q9 g1 ri1 fs)
set_option maxHeartbeats 4000000 in
theorem mk_K0 (d b : Nat) (g : xH) (ifs : Int) (l6 : Option xV)  {Q : xO → xH → Prop} (hN : ML d b ifs (-1) 0 1 1 l6 g Q) : ML d b ifs (-1) 0 1 0 l6 g Q := by
  show xEx G0 cdX12_make (some .int) (xRn G0 MT (d + 6)) Q b 38 [some (.inr (.inr 66)), some (.inl ifs), some (.inl (-1)), some (.inl 0), some (.inl 1), some (.inl 0), l6] [] g
  refine E_s 2 (i' := 40) (ls' := [some (.inr (.inr 66)), some (.inl ifs), some (.inl (-1)), some (.inl 0), some (.inl 1), some (.inl 0), l6]) (sk' := [.inl (-1), .inl (-1)]) (h' := g) rfl ?_
  refine E_b (x := (.if_icmp .ne 100, 88, [], [])) rfl rfl (fun c40 => ?_) (fun c40 => ?_)
  · show xEx G0 cdX12_make (some .int) (xRn G0 MT (d + 6)) Q b 88 [some (.inr (.inr 66)), some (.inl ifs), some (.inl (-1)), some (.inl 0), some (.inl 1), some (.inl 0), l6] [] g
    exact absurd c40 (by decide)
  · show xEx G0 cdX12_make (some .int) (xRn G0 MT (d + 6)) Q b 41 [some (.inr (.inr 66)), some (.inl ifs), some (.inl (-1)), some (.inl 0), some (.inl 1), some (.inl 0), l6] [] g
    refine E_s 1 (i' := 42) (ls' := [some (.inr (.inr 66)), some (.inl ifs), some (.inl (-1)), some (.inl 0), some (.inl 1), some (.inl 0), l6]) (sk' := [.inl 0]) (h' := g) rfl ?_
    refine E_b (x := (.ifCond .ne 8, 45, [], [])) rfl rfl (fun c42 => ?_) (fun c42 => ?_)
    · show xEx G0 cdX12_make (some .int) (xRn G0 MT (d + 6)) Q b 45 [some (.inr (.inr 66)), some (.inl ifs), some (.inl (-1)), some (.inl 0), some (.inl 1), some (.inl 0), l6] [] g
      exact absurd c42 (by decide)
    · show xEx G0 cdX12_make (some .int) (xRn G0 MT (d + 6)) Q b 43 [some (.inr (.inr 66)), some (.inl ifs), some (.inl (-1)), some (.inl 0), some (.inl 1), some (.inl 0), l6] [] g
      refine E_s 1 (i' := 44) (ls' := [some (.inr (.inr 66)), some (.inl ifs), some (.inl (-1)), some (.inl 0), some (.inl 1), some (.inl 0), l6]) (sk' := [.inl 1]) (h' := g) rfl ?_
      refine E_b (x := (.ifCond .eq 91, 88, [], [])) rfl rfl (fun c44 => ?_) (fun c44 => ?_)
      · show xEx G0 cdX12_make (some .int) (xRn G0 MT (d + 6)) Q b 88 [some (.inr (.inr 66)), some (.inl ifs), some (.inl (-1)), some (.inl 0), some (.inl 1), some (.inl 0), l6] [] g
        exact absurd c44 (by decide)
      · show xEx G0 cdX12_make (some .int) (xRn G0 MT (d + 6)) Q b 45 [some (.inr (.inr 66)), some (.inl ifs), some (.inl (-1)), some (.inl 0), some (.inl 1), some (.inl 0), l6] [] g
        refine E_s 1 (i' := 46) (ls' := [some (.inr (.inr 66)), some (.inl ifs), some (.inl (-1)), some (.inl 0), some (.inl 1), some (.inl 0), l6]) (sk' := [.inl 0]) (h' := g) rfl ?_
        refine E_b (x := (.ifCond .eq 11, 50, [], [])) rfl rfl (fun c46 => ?_) (fun c46 => ?_)
        · show xEx G0 cdX12_make (some .int) (xRn G0 MT (d + 6)) Q b 50 [some (.inr (.inr 66)), some (.inl ifs), some (.inl (-1)), some (.inl 0), some (.inl 1), some (.inl 0), l6] [] g
          refine E_s 1 (i' := 51) (ls' := [some (.inr (.inr 66)), some (.inl ifs), some (.inl (-1)), some (.inl 0), some (.inl 1), some (.inl 0), l6]) (sk' := [.inl 0]) (h' := g) rfl ?_
          refine E_b (x := (.ifCond .eq 59, 81, [], [])) rfl rfl (fun c51 => ?_) (fun c51 => ?_)
          · show xEx G0 cdX12_make (some .int) (xRn G0 MT (d + 6)) Q b 81 [some (.inr (.inr 66)), some (.inl ifs), some (.inl (-1)), some (.inl 0), some (.inl 1), some (.inl 0), l6] [] g
            refine E_s 1 (i' := 82) (ls' := [some (.inr (.inr 66)), some (.inl ifs), some (.inl (-1)), some (.inl 0), some (.inl 1), some (.inl 0), l6]) (sk' := [.inl 0]) (h' := g) rfl ?_
            refine E_b (x := (.ifCond .ne 7, 85, [], [])) rfl rfl (fun c82 => ?_) (fun c82 => ?_)
            · show xEx G0 cdX12_make (some .int) (xRn G0 MT (d + 6)) Q b 85 [some (.inr (.inr 66)), some (.inl ifs), some (.inl (-1)), some (.inl 0), some (.inl 1), some (.inl 0), l6] [] g
              exact absurd c82 (by decide)
            · show xEx G0 cdX12_make (some .int) (xRn G0 MT (d + 6)) Q b 83 [some (.inr (.inr 66)), some (.inl ifs), some (.inl (-1)), some (.inl 0), some (.inl 1), some (.inl 0), l6] [] g
              refine E_s 4 (i' := 38) (ls' := [some (.inr (.inr 66)), some (.inl ifs), some (.inl (-1)), some (.inl 0), some (.inl 1), some (.inl 1), l6]) (sk' := []) (h' := g) rfl ?_
              exact hN
          · show xEx G0 cdX12_make (some .int) (xRn G0 MT (d + 6)) Q b 52 [some (.inr (.inr 66)), some (.inl ifs), some (.inl (-1)), some (.inl 0), some (.inl 1), some (.inl 0), l6] [] g
            exact absurd c51 (by decide)
        · show xEx G0 cdX12_make (some .int) (xRn G0 MT (d + 6)) Q b 47 [some (.inr (.inr 66)), some (.inl ifs), some (.inl (-1)), some (.inl 0), some (.inl 1), some (.inl 0), l6] [] g
          exact absurd c46 (by decide)
set_option maxHeartbeats 4000000 in
theorem mk_K1 (d b : Nat) (g : xH) (ifs : Int) (l6 : Option xV)  {Q : xO → xH → Prop} (hN : ML d b ifs (-1) 1 0 0 l6 g Q) : ML d b ifs (-1) 1 0 1 l6 g Q := by
  show xEx G0 cdX12_make (some .int) (xRn G0 MT (d + 6)) Q b 38 [some (.inr (.inr 66)), some (.inl ifs), some (.inl (-1)), some (.inl 1), some (.inl 0), some (.inl 1), l6] [] g
  refine E_s 2 (i' := 40) (ls' := [some (.inr (.inr 66)), some (.inl ifs), some (.inl (-1)), some (.inl 1), some (.inl 0), some (.inl 1), l6]) (sk' := [.inl (-1), .inl (-1)]) (h' := g) rfl ?_
  refine E_b (x := (.if_icmp .ne 100, 88, [], [])) rfl rfl (fun c40 => ?_) (fun c40 => ?_)
  · show xEx G0 cdX12_make (some .int) (xRn G0 MT (d + 6)) Q b 88 [some (.inr (.inr 66)), some (.inl ifs), some (.inl (-1)), some (.inl 1), some (.inl 0), some (.inl 1), l6] [] g
    exact absurd c40 (by decide)
  · show xEx G0 cdX12_make (some .int) (xRn G0 MT (d + 6)) Q b 41 [some (.inr (.inr 66)), some (.inl ifs), some (.inl (-1)), some (.inl 1), some (.inl 0), some (.inl 1), l6] [] g
    refine E_s 1 (i' := 42) (ls' := [some (.inr (.inr 66)), some (.inl ifs), some (.inl (-1)), some (.inl 1), some (.inl 0), some (.inl 1), l6]) (sk' := [.inl 1]) (h' := g) rfl ?_
    refine E_b (x := (.ifCond .ne 8, 45, [], [])) rfl rfl (fun c42 => ?_) (fun c42 => ?_)
    · show xEx G0 cdX12_make (some .int) (xRn G0 MT (d + 6)) Q b 45 [some (.inr (.inr 66)), some (.inl ifs), some (.inl (-1)), some (.inl 1), some (.inl 0), some (.inl 1), l6] [] g
      refine E_s 1 (i' := 46) (ls' := [some (.inr (.inr 66)), some (.inl ifs), some (.inl (-1)), some (.inl 1), some (.inl 0), some (.inl 1), l6]) (sk' := [.inl 1]) (h' := g) rfl ?_
      refine E_b (x := (.ifCond .eq 11, 50, [], [])) rfl rfl (fun c46 => ?_) (fun c46 => ?_)
      · show xEx G0 cdX12_make (some .int) (xRn G0 MT (d + 6)) Q b 50 [some (.inr (.inr 66)), some (.inl ifs), some (.inl (-1)), some (.inl 1), some (.inl 0), some (.inl 1), l6] [] g
        exact absurd c46 (by decide)
      · show xEx G0 cdX12_make (some .int) (xRn G0 MT (d + 6)) Q b 47 [some (.inr (.inr 66)), some (.inl ifs), some (.inl (-1)), some (.inl 1), some (.inl 0), some (.inl 1), l6] [] g
        refine E_s 1 (i' := 48) (ls' := [some (.inr (.inr 66)), some (.inl ifs), some (.inl (-1)), some (.inl 1), some (.inl 0), some (.inl 1), l6]) (sk' := [.inl 0]) (h' := g) rfl ?_
        refine E_b (x := (.ifCond .eq 66, 81, [], [])) rfl rfl (fun c48 => ?_) (fun c48 => ?_)
        · show xEx G0 cdX12_make (some .int) (xRn G0 MT (d + 6)) Q b 81 [some (.inr (.inr 66)), some (.inl ifs), some (.inl (-1)), some (.inl 1), some (.inl 0), some (.inl 1), l6] [] g
          refine E_s 1 (i' := 82) (ls' := [some (.inr (.inr 66)), some (.inl ifs), some (.inl (-1)), some (.inl 1), some (.inl 0), some (.inl 1), l6]) (sk' := [.inl 1]) (h' := g) rfl ?_
          refine E_b (x := (.ifCond .ne 7, 85, [], [])) rfl rfl (fun c82 => ?_) (fun c82 => ?_)
          · show xEx G0 cdX12_make (some .int) (xRn G0 MT (d + 6)) Q b 85 [some (.inr (.inr 66)), some (.inl ifs), some (.inl (-1)), some (.inl 1), some (.inl 0), some (.inl 1), l6] [] g
            refine E_s 3 (i' := 38) (ls' := [some (.inr (.inr 66)), some (.inl ifs), some (.inl (-1)), some (.inl 1), some (.inl 0), some (.inl 0), l6]) (sk' := []) (h' := g) rfl ?_
            exact hN
          · show xEx G0 cdX12_make (some .int) (xRn G0 MT (d + 6)) Q b 83 [some (.inr (.inr 66)), some (.inl ifs), some (.inl (-1)), some (.inl 1), some (.inl 0), some (.inl 1), l6] [] g
            exact absurd c82 (by decide)
        · show xEx G0 cdX12_make (some .int) (xRn G0 MT (d + 6)) Q b 49 [some (.inr (.inr 66)), some (.inl ifs), some (.inl (-1)), some (.inl 1), some (.inl 0), some (.inl 1), l6] [] g
          exact absurd c48 (by decide)
    · show xEx G0 cdX12_make (some .int) (xRn G0 MT (d + 6)) Q b 43 [some (.inr (.inr 66)), some (.inl ifs), some (.inl (-1)), some (.inl 1), some (.inl 0), some (.inl 1), l6] [] g
      exact absurd c42 (by decide)
set_option maxHeartbeats 4000000 in
theorem mk_Z (d b : Nat) (g : xH) (ifs : Int) (l6 : Option xV) (s mE mT te : Int) (hs : -1 ≤ s ∧ s < 1000000) (hE : mE = 0 ∨ mE = 1) (hT : mT = 0 ∨ mT = 1) (hz : ¬ (s = -1 ∧ (mE = 1 ∨ mT = 1))) {Q : xO → xH → Prop} (hQ : Q (.inl (some (.inl s))) g) : ML d b ifs s mE mT te l6 g Q := by
  show xEx G0 cdX12_make (some .int) (xRn G0 MT (d + 6)) Q b 38 [some (.inr (.inr 66)), some (.inl ifs), some (.inl s), some (.inl mE), some (.inl mT), some (.inl te), l6] [] g
  refine E_s 2 (i' := 40) (ls' := [some (.inr (.inr 66)), some (.inl ifs), some (.inl s), some (.inl mE), some (.inl mT), some (.inl te), l6]) (sk' := [.inl (-1), .inl s]) (h' := g) rfl ?_
  refine E_b (x := (.if_icmp .ne 100, 88, [], [])) rfl rfl (fun c40 => ?_) (fun c40 => ?_)
  · rw [c_ne (by first | assumption | (refine ⟨?_, ?_⟩ <;> omega) | (simp only [xr] at *; omega)) (by first | assumption | (refine ⟨?_, ?_⟩ <;> omega) | (simp only [xr] at *; omega))] at c40
    simp only [decide_eq_true_eq, decide_eq_false_iff_not, Decidable.not_not] at c40
    show xEx G0 cdX12_make (some .int) (xRn G0 MT (d + 6)) Q b 88 [some (.inr (.inr 66)), some (.inl ifs), some (.inl s), some (.inl mE), some (.inl mT), some (.inl te), l6] [] g
    refine E_s 1 (i' := 89) (ls' := [some (.inr (.inr 66)), some (.inl ifs), some (.inl s), some (.inl mE), some (.inl mT), some (.inl te), l6]) (sk' := [.inl s]) (h' := g) rfl ?_
    exact E_ret (x := (.ireturn, 0, [], [])) (v := some (.inl s)) rfl (Or.inl rfl) (hQ)
  · rw [c_ne (by first | assumption | (refine ⟨?_, ?_⟩ <;> omega) | (simp only [xr] at *; omega)) (by first | assumption | (refine ⟨?_, ?_⟩ <;> omega) | (simp only [xr] at *; omega))] at c40
    simp only [decide_eq_true_eq, decide_eq_false_iff_not, Decidable.not_not] at c40
    show xEx G0 cdX12_make (some .int) (xRn G0 MT (d + 6)) Q b 41 [some (.inr (.inr 66)), some (.inl ifs), some (.inl s), some (.inl mE), some (.inl mT), some (.inl te), l6] [] g
    refine E_s 1 (i' := 42) (ls' := [some (.inr (.inr 66)), some (.inl ifs), some (.inl s), some (.inl mE), some (.inl mT), some (.inl te), l6]) (sk' := [.inl mE]) (h' := g) rfl ?_
    refine E_b (x := (.ifCond .ne 8, 45, [], [])) rfl rfl (fun c42 => ?_) (fun c42 => ?_)
    · rw [c_ne (by first | assumption | (refine ⟨?_, ?_⟩ <;> omega) | (simp only [xr] at *; omega)) (by first | assumption | (refine ⟨?_, ?_⟩ <;> omega) | (simp only [xr] at *; omega))] at c42
      simp only [decide_eq_true_eq, decide_eq_false_iff_not, Decidable.not_not] at c42
      show xEx G0 cdX12_make (some .int) (xRn G0 MT (d + 6)) Q b 45 [some (.inr (.inr 66)), some (.inl ifs), some (.inl s), some (.inl mE), some (.inl mT), some (.inl te), l6] [] g
      exact absurd ⟨c40, by omega⟩ hz
    · rw [c_ne (by first | assumption | (refine ⟨?_, ?_⟩ <;> omega) | (simp only [xr] at *; omega)) (by first | assumption | (refine ⟨?_, ?_⟩ <;> omega) | (simp only [xr] at *; omega))] at c42
      simp only [decide_eq_true_eq, decide_eq_false_iff_not, Decidable.not_not] at c42
      show xEx G0 cdX12_make (some .int) (xRn G0 MT (d + 6)) Q b 43 [some (.inr (.inr 66)), some (.inl ifs), some (.inl s), some (.inl mE), some (.inl mT), some (.inl te), l6] [] g
      refine E_s 1 (i' := 44) (ls' := [some (.inr (.inr 66)), some (.inl ifs), some (.inl s), some (.inl mE), some (.inl mT), some (.inl te), l6]) (sk' := [.inl mT]) (h' := g) rfl ?_
      refine E_b (x := (.ifCond .eq 91, 88, [], [])) rfl rfl (fun c44 => ?_) (fun c44 => ?_)
      · rw [c_eq (by first | assumption | (refine ⟨?_, ?_⟩ <;> omega) | (simp only [xr] at *; omega)) (by first | assumption | (refine ⟨?_, ?_⟩ <;> omega) | (simp only [xr] at *; omega))] at c44
        simp only [decide_eq_true_eq, decide_eq_false_iff_not, Decidable.not_not] at c44
        show xEx G0 cdX12_make (some .int) (xRn G0 MT (d + 6)) Q b 88 [some (.inr (.inr 66)), some (.inl ifs), some (.inl s), some (.inl mE), some (.inl mT), some (.inl te), l6] [] g
        refine E_s 1 (i' := 89) (ls' := [some (.inr (.inr 66)), some (.inl ifs), some (.inl s), some (.inl mE), some (.inl mT), some (.inl te), l6]) (sk' := [.inl s]) (h' := g) rfl ?_
        exact E_ret (x := (.ireturn, 0, [], [])) (v := some (.inl s)) rfl (Or.inl rfl) (hQ)
      · rw [c_eq (by first | assumption | (refine ⟨?_, ?_⟩ <;> omega) | (simp only [xr] at *; omega)) (by first | assumption | (refine ⟨?_, ?_⟩ <;> omega) | (simp only [xr] at *; omega))] at c44
        simp only [decide_eq_true_eq, decide_eq_false_iff_not, Decidable.not_not] at c44
        show xEx G0 cdX12_make (some .int) (xRn G0 MT (d + 6)) Q b 45 [some (.inr (.inr 66)), some (.inl ifs), some (.inl s), some (.inl mE), some (.inl mT), some (.inl te), l6] [] g
        exact absurd ⟨c40, by omega⟩ hz
