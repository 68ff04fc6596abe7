/-! strings that are written, rows of chars: the plain machine with them -/
/-- a string constant: its class, its place, its bytes -/
def xSite : List (String × Nat × List Int) := [(RX4, 9, [109, 105, 110, 40]), (RX4, 11, [109, 97, 120, 40]), (RX4, 13, [45, 40]), (RX4, 15, [97, 98, 115, 40]), (RX4, 17, [115, 103, 110, 40]), (RX4, 19, [40]), (RX9, 111, [33, 40]), (RX9, 113, [40]), (RX12, 337, [45, 40]), (RX12, 339, [97, 98, 115, 40]), (RX12, 341, [115, 103, 110, 40]), (RX12, 354, [109, 105, 110]), (RX12, 356, [109, 97, 120]), (RX12, 358, [33, 40])]
def xLenS : List (String × Nat) := [(RX10, 17), (RX12, 316)]
def xChS : List (String × Nat) := [(RX10, 22), (RX12, 321)]
/-- a static row of chars: its class, its place, which row -/
def xSta : List (String × Nat × Nat) := [(RX1, 178, 0), (RX9, 125, 1)]
def xRow : List (List Int) := [[43, 45, 42, 44, 44, 32, 47, 37, 32, 32], [60, 61, 32, 38]]
def xCl2 (own : String) (G : List xS) (cd : List xI) (rt : Option FieldType) (call : xCal) (Q : xO → xH → Prop) (P : xPr) : Prop := xCl G cd rt call Q P ∧
  (∀ (b i : Nat) (ls : xL) (sk : List xV) (h : xH) (x : xI) (k j : Nat) (bs : List Int), cd[i]? = some x → (x.1 = .ldc k ∨ x.1 = .ldc_w k) → xSite[j]? = some (own, k, bs) → P b (i + 1) ls (.inr (.inr (1000 + j)) :: sk) h → P b i ls sk h) ∧
  (∀ (b i : Nat) (ls : xL) (sk : List xV) (h : xH) (x : xI) (k j : Nat) (q : String × Nat × List Int), cd[i]? = some x → x.1 = .invokevirtual k → (own, k) ∈ xLenS → xSite[j]? = some q → (sk.map xcat).sum ≤ 8 → P b (i + 1) ls (.inl (q.2.2.length : Nat) :: sk) h → P b i ls (.inr (.inr (1000 + j)) :: sk) h) ∧
  (∀ (b i : Nat) (ls : xL) (sk : List xV) (h : xH) (x : xI) (k j : Nat) (q : String × Nat × List Int) (z : Int), cd[i]? = some x → x.1 = .invokevirtual k → (own, k) ∈ xChS → xSite[j]? = some q → (sk.map xcat).sum ≤ 8 → 0 ≤ z → z < (q.2.2.length : Nat) → P b (i + 1) ls (.inl (q.2.2.getD z.toNat 0) :: sk) h → P b i ls (.inl z :: .inr (.inr (1000 + j)) :: sk) h) ∧
  (∀ (b i : Nat) (ls : xL) (sk : List xV) (h : xH) (x : xI) (k t : Nat), cd[i]? = some x → x.1 = .getstatic k → (own, k, t) ∈ xSta → P b (i + 1) ls (.inr (.inr (2000 + t)) :: sk) h → P b i ls sk h) ∧
  (∀ (b i : Nat) (ls : xL) (sk : List xV) (h : xH) (x : xI) (t : Nat) (r : List Int) (z : Int), cd[i]? = some x → x.1 = .caload → xRow[t]? = some r → 0 ≤ z → z < (r.length : Nat) → P b (i + 1) ls (.inl (r.getD z.toNat 0) :: sk) h → P b i ls (.inl z :: .inr (.inr (2000 + t)) :: sk) h)
def xEx2 (own : String) (G : List xS) (cd : List xI) (rt : Option FieldType) (call : xCal) (Q : xO → xH → Prop) : xPr := fun b i ls sk h => ∀ P : xPr, xCl2 own G cd rt call Q P → P b i ls sk h
def xRn2 (G : List xS) (MT : List xMt) : Nat → xCal
  | 0 => fun _ _ _ _ _ => False
  | d + 1 => fun b mm as h Q => ∃ M : xMt, MT[mm]? = some M ∧ (xin0 as).length ≤ M.2.2.1 ∧ xEx2 M.1.cls G M.2.2.2.2.1 M.2.2.2.1 (xRn2 G MT d) Q b 0 (xini as M.2.2.1) [] h
theorem xCl_m {G : List xS} {cd : List xI} {rt : Option FieldType} {call call2 : xCal} {Q : xO → xH → Prop} {P : xPr} (hc : ∀ b mm as h Q', call b mm as h Q' → call2 b mm as h Q') (h : xCl G cd rt call2 Q P) : xCl G cd rt call Q P := by
  obtain ⟨h1, h2, h3, h4, h5, h6, h7, h8, h9, h10, h11⟩ := h
  exact ⟨h1, h2, h3, h4, h5, h6, h7, h8, h9, fun b1 b2 i ls sk h x mm as rest Q' a1 a2 a3 a4 a5 a6 a7 => h10 b1 b2 i ls sk h x mm as rest Q' a1 a2 a3 a4 (hc _ _ _ _ _ a5) a6 a7, h11⟩
/-- what holds without strings holds with them -/
theorem xRn_2 {G : List xS} {MT : List xMt} : ∀ (d b mm : Nat) (as : List xV) (h : xH) (Q : xO → xH → Prop), xRn G MT d b mm as h Q → xRn2 G MT d b mm as h Q
  | 0, _, _, _, _, _, hr => hr.elim
  | d + 1, b, mm, as, h, Q, hr => by
    obtain ⟨M, hM, hl, hx⟩ := hr
    exact ⟨M, hM, hl, fun P hP => hx P (xCl_m (fun b mm as h Q' z => xRn_2 d b mm as h Q' z) hP.1)⟩
section XWALK2
variable {own : String} {G : List xS} {cd : List xI} {rt : Option FieldType} {call : xCal} {Q : xO → xH → Prop} {b i : Nat} {ls : xL} {sk : List xV} {h : xH} {x : xI}
theorem E2_s (k : Nat) : ∀ {i : Nat} {ls : xL} {sk : List xV} {h : xH} {i' : Nat} {ls' : xL} {sk' : List xV} {h' : xH}, xsn G cd k (i, ls, sk, h) = some (i', ls', sk', h') → xEx2 own G cd rt call Q b i' ls' sk' h' → xEx2 own G cd rt call Q b i ls sk h := by
  induction k with
  | zero =>
    intro i ls sk h i' ls' sk' h' hs hk
    cases hs
    exact hk
  | succ k ih =>
    intro i ls sk h i' ls' sk' h' hs hk
    unfold xsn at hs
    split at hs
    · rename_i x hx
      split at hs
      · rename_i s' hs'
        obtain ⟨i2, ls2, sk2, h2⟩ := s'
        have h3 := ih hs hk
        exact fun P hP => hP.1.1 b i ls sk h x i2 ls2 sk2 h2 hx hs' (h3 P hP)
      · cases hs
    · cases hs
theorem E2_b {t : Bool} {sk' : List xV} (hx : cd[i]? = some x) (hs : xb x sk = some (t, sk')) (ht : t = true → xEx2 own G cd rt call Q b x.2.1.toNat ls sk' h) (hf : t = false → xEx2 own G cd rt call Q b (i + 1) ls sk' h) : xEx2 own G cd rt call Q b i ls sk h :=
  fun P hP => hP.1.2.1 b i ls sk h x t sk' hx hs (fun z => ht z P hP) (fun z => hf z P hP)
theorem E2_ld {ty : FieldType} {n a : Nat} {z : Int} (hx : cd[i]? = some x) (hg : G[a]? = some (.inl (ty, n))) (hs : xld x ty = true) (h0 : 0 ≤ z) (h1 : z < n) (hk : xEx2 own G cd rt call Q b (i + 1) ls (xmk ty (h a z) :: sk) h) : xEx2 own G cd rt call Q b i ls (.inl z :: .inr (.inr a) :: sk) h :=
  fun P hP => hP.1.2.2.1 b i ls sk h x ty n a z hx hg hs h0 h1 (hk P hP)
theorem E2_ald {ids : List Nat} {a d : Nat} {z : Int} (j : Nat) (hx : cd[i]? = some x) (hg : G[a]? = some (.inr (.inl ids))) (hi : x.1 = .aaload) (hz : z = (j : Int)) (hj : ids[j]? = some d) (hk : xEx2 own G cd rt call Q b (i + 1) ls (.inr (.inr d) :: sk) h) : xEx2 own G cd rt call Q b i ls (.inl z :: .inr (.inr a) :: sk) h :=
  fun P hP => hP.1.2.2.2.1 b i ls sk h x ids a j d z hx hg hi hz hj (hk P hP)
theorem E2_sd {ty : FieldType} {n a : Nat} {z y : Int} (hx : cd[i]? = some x) (hg : G[a]? = some (.inl (ty, n))) (hs : xsd x ty = true) (h0 : 0 ≤ z) (h1 : z < n) (hr : xrng ty y) (hk : xEx2 own G cd rt call Q b (i + 1) ls sk (xup h a z y)) : xEx2 own G cd rt call Q b i ls (xmk ty y :: .inl z :: .inr (.inr a) :: sk) h :=
  fun P hP => hP.1.2.2.2.2.1 b i ls sk h x ty n a z y hx hg hs h0 h1 hr (hk P hP)
theorem E2_div {y z : Int} (hx : cd[i]? = some x) (hi : x.1 = .idiv) (h0 : w32 y ≠ 0) (hk : xEx2 own G cd rt call Q b (i + 1) ls (.inl (xdiv z y) :: sk) h) : xEx2 own G cd rt call Q b i ls (.inl y :: .inl z :: sk) h :=
  fun P hP => hP.1.2.2.2.2.2.1 b i ls sk h x y z hx hi h0 (hk P hP)
theorem E2_rem {y z : Int} (hx : cd[i]? = some x) (hi : x.1 = .irem) (h0 : w32 y ≠ 0) (hk : xEx2 own G cd rt call Q b (i + 1) ls (.inl (xrem z y) :: sk) h) : xEx2 own G cd rt call Q b i ls (.inl y :: .inl z :: sk) h :=
  fun P hP => hP.1.2.2.2.2.2.2.1 b i ls sk h x y z hx hi h0 (hk P hP)
theorem E2_pz {a k fi : Nat} {z : Int} (hx : cd[i]? = some x) (hi : x.1 = .putfield fi) (hfl : xfld G a x.2.2.1 = some (k, .inl .boolean)) (hz : z = 0 ∨ z = 1) (hk : xEx2 own G cd rt call Q b (i + 1) ls sk (xup h a k z)) : xEx2 own G cd rt call Q b i ls (.inl z :: .inr (.inr a) :: sk) h :=
  fun P hP => hP.1.2.2.2.2.2.2.2.1 b i ls sk h x a k z fi hx hi hfl hz (hk P hP)
theorem E2_cpy {k s9 d9 n0 n1 : Nat} {sp dp n : Int} {rest : List xV} (hx : cd[i]? = some x) (hi : x.1 = .invokestatic k) (hx1 : x.2.2.1 = []) (hx2 : x.2.2.2 = []) (hg0 : G[s9]? = some (.inl (.int, n0))) (hg1 : G[d9]? = some (.inl (.int, n1))) (h1 : 0 ≤ sp) (h2 : 0 ≤ dp) (h3 : 0 ≤ n) (h4 : sp + n ≤ n0) (h5 : dp + n ≤ n1) (hw : (rest.map xcat).sum ≤ 8) (hk : xEx2 own G cd rt call Q b (i + 1) ls rest (xcpy h s9 sp d9 dp n)) : xEx2 own G cd rt call Q b i ls (.inl n :: .inl dp :: .inr (.inr d9) :: .inl sp :: .inr (.inr s9) :: rest) h :=
  fun P hP => hP.1.2.2.2.2.2.2.2.2.1 b i ls h x k s9 d9 n0 n1 sp dp n rest hx hi hx1 hx2 hg0 hg1 h1 h2 h3 h4 h5 hw (hk P hP)
theorem E2_call {b1 b2 mm : Nat} {as rest : List xV} {Q' : xO → xH → Prop} (hx : cd[i]? = some x) (hs : xcl G x sk = some (mm, as, rest)) (hw : (rest.map xcat).sum ≤ 8) (hU : x.2.2.2.head? = some 1 → ∀ (E : String) (h' : xH), ¬ Q' (.inr E) h') (hc : call b1 mm as h Q') (hk : ∀ (v : Option xV) (h' : xH), Q' (.inl v) h' → xEx2 own G cd rt call Q b2 (i + 1) ls (v.toList ++ rest) h') (hxk : ∀ (E : String) (h' : xH), Q' (.inr E) h' → Q (.inr E) h') : xEx2 own G cd rt call Q (b1 + b2) i ls sk h :=
  fun P hP => hP.1.2.2.2.2.2.2.2.2.2.1 b1 b2 i ls sk h x mm as rest Q' hx hs hw hU hc (fun v h' z => hk v h' z P hP) hxk
/-- a call that returns one value, for certain -/
theorem E2_ci {b mm : Nat} {as rest : List xV} {r : Int} {h' : xH} (hx : cd[i]? = some x) (hs : xcl G x sk = some (mm, as, rest)) (hw : (rest.map xcat).sum ≤ 8) (hc : call 0 mm as h (fun o h9 => o = .inl (some (.inl r)) ∧ h9 = h')) (hk : xEx2 own G cd rt call Q b (i + 1) ls (.inl r :: rest) h') : xEx2 own G cd rt call Q b i ls sk h := by
  rw [← Nat.zero_add b]
  refine E2_call hx hs hw (fun _ E h9 z => by cases z.1) hc (fun v h9 z => ?_) (fun E h9 z => by cases z.1)
  obtain ⟨hv, rfl⟩ := z
  cases hv
  exact hk
/-- a call that returns one value, by what is said of it -/
theorem E2_cp {b mm : Nat} {as rest : List xV} {q : Int → xH → Prop} (hx : cd[i]? = some x) (hs : xcl G x sk = some (mm, as, rest)) (hw : (rest.map xcat).sum ≤ 8) (hc : call 0 mm as h (fun o h9 => ∃ r, o = .inl (some (.inl r)) ∧ q r h9)) (hk : ∀ (r : Int) (h' : xH), q r h' → xEx2 own G cd rt call Q b (i + 1) ls (.inl r :: rest) h') : xEx2 own G cd rt call Q b i ls sk h := by
  rw [← Nat.zero_add b]
  refine E2_call hx hs hw (fun _ E h9 z => by obtain ⟨r, z, -⟩ := z; cases z) hc (fun v h9 z => ?_) (fun E h9 z => by obtain ⟨r, z, -⟩ := z; cases z)
  obtain ⟨r, hv, hq⟩ := z
  cases hv
  exact hk r h9 hq
/-- a call that returns nothing -/
theorem E2_cv {b mm : Nat} {as rest : List xV} {q : xH → Prop} (hx : cd[i]? = some x) (hs : xcl G x sk = some (mm, as, rest)) (hw : (rest.map xcat).sum ≤ 8) (hc : call 0 mm as h (fun o h9 => o = .inl none ∧ q h9)) (hk : ∀ h' : xH, q h' → xEx2 own G cd rt call Q b (i + 1) ls rest h') : xEx2 own G cd rt call Q b i ls sk h := by
  rw [← Nat.zero_add b]
  refine E2_call hx hs hw (fun _ E h9 z => by cases z.1) hc (fun v h9 z => ?_) (fun E h9 z => by cases z.1)
  obtain ⟨hv, hq⟩ := z
  cases hv
  exact hk h9 hq
theorem E2_ret {v : Option xV} (hx : cd[i]? = some x) (hs : xrt x rt v) (hQ : Q (.inl v) h) : xEx2 own G cd rt call Q b i ls v.toList h :=
  fun _ hP => hP.1.2.2.2.2.2.2.2.2.2.2.1 b i ls h x v hx hs hQ
theorem E2_thr {ik e0 w0 : Nat} (hx : cd[i]? = some x) (hi : x.1 = .new ik) (hx1 : x.2.2.1 = [(e0, w0)]) (hw : (sk.map xcat).sum ≤ 8) (hQ : Q (.inr (xExn e0)) h) : xEx2 own G cd rt call Q (b + 1) i ls sk h :=
  fun _ hP => hP.1.2.2.2.2.2.2.2.2.2.2.2.1 b i ls sk h x ik e0 w0 hx hi hx1 hw hQ
theorem E2_min {k : Nat} {y z : Int} (hx : cd[i]? = some x) (hi : x.1 = .invokestatic k) (hx2 : x.2.2.2 = [1]) (hw : (sk.map xcat).sum ≤ 8) (hk : xEx2 own G cd rt call Q b (i + 1) ls (.inl (if w32 y < w32 z then y else z) :: sk) h) : xEx2 own G cd rt call Q b i ls (.inl y :: .inl z :: sk) h :=
  fun P hP => hP.1.2.2.2.2.2.2.2.2.2.2.2.2.1 b i ls sk h x k y z hx hi hx2 hw (hk P hP)
theorem E2_minl {k : Nat} {y z : Int} (hx : cd[i]? = some x) (hi : x.1 = .invokestatic k) (hx2 : x.2.2.2 = [2]) (hw : (sk.map xcat).sum ≤ 8) (hk : xEx2 own G cd rt call Q b (i + 1) ls (.inr (.inl (if w64 y < w64 z then y else z)) :: sk) h) : xEx2 own G cd rt call Q b i ls (.inr (.inl y) :: .inr (.inl z) :: sk) h :=
  fun P hP => hP.1.2.2.2.2.2.2.2.2.2.2.2.2.2.1 b i ls sk h x k y z hx hi hx2 hw (hk P hP)
theorem E2_mono {b' : Nat} (hb : b ≤ b') (hk : xEx2 own G cd rt call Q b i ls sk h) : xEx2 own G cd rt call Q b' i ls sk h :=
  fun P hP => hP.1.2.2.2.2.2.2.2.2.2.2.2.2.2.2.1 b b' i ls sk h hb (hk P hP)
theorem E2_cong {ls' : xL} {sk' : List xV} {h' : xH} (e1 : ∀ ρ, xLc ρ ls 0 = xLc ρ ls' 0) (e2 : ls.length = ls'.length) (e3 : ∀ ρ, sk.map (xc ρ) = sk'.map (xc ρ)) (e4 : ∀ ρ ca, xWl ρ ca h G 0 = xWl ρ ca h' G 0) (hk : xEx2 own G cd rt call Q b i ls' sk' h') : xEx2 own G cd rt call Q b i ls sk h :=
  fun P hP => hP.1.2.2.2.2.2.2.2.2.2.2.2.2.2.2.2 b i ls sk h ls' sk' h' e1 e2 e3 e4 (hk P hP)
/-- the top of the stack by another number of the same int -/
theorem E2_ti {y z : Int} (e : w32 z = w32 y) (hk : xEx2 own G cd rt call Q b i ls (.inl y :: sk) h) : xEx2 own G cd rt call Q b i ls (.inl z :: sk) h :=
  E2_cong (fun _ => rfl) rfl (fun ρ => by simp only [List.map_cons, xc, w32_eq.mp e]) (fun _ _ => rfl) hk
end XWALK2
section XSTR
variable {own : String} {G : List xS} {cd : List xI} {rt : Option FieldType} {call : xCal} {Q : xO → xH → Prop} {b i : Nat} {ls : xL} {sk : List xV} {h : xH} {x : xI}
theorem E2_str {k : Nat} {bs : List Int} (j : Nat) (hx : cd[i]? = some x) (hi : x.1 = .ldc k ∨ x.1 = .ldc_w k) (hs : xSite[j]? = some (own, k, bs)) (hk : xEx2 own G cd rt call Q b (i + 1) ls (.inr (.inr (1000 + j)) :: sk) h) : xEx2 own G cd rt call Q b i ls sk h :=
  fun P hP => hP.2.1 b i ls sk h x k j bs hx hi hs (hk P hP)
theorem E2_len {k j : Nat} {q : String × Nat × List Int} (hx : cd[i]? = some x) (hi : x.1 = .invokevirtual k) (ho : (own, k) ∈ xLenS) (hs : xSite[j]? = some q) (hw : (sk.map xcat).sum ≤ 8) (hk : xEx2 own G cd rt call Q b (i + 1) ls (.inl (q.2.2.length : Nat) :: sk) h) : xEx2 own G cd rt call Q b i ls (.inr (.inr (1000 + j)) :: sk) h :=
  fun P hP => hP.2.2.1 b i ls sk h x k j q hx hi ho hs hw (hk P hP)
theorem E2_chr {k j : Nat} {q : String × Nat × List Int} {z : Int} (hx : cd[i]? = some x) (hi : x.1 = .invokevirtual k) (ho : (own, k) ∈ xChS) (hs : xSite[j]? = some q) (hw : (sk.map xcat).sum ≤ 8) (h0 : 0 ≤ z) (h1 : z < (q.2.2.length : Nat)) (hk : xEx2 own G cd rt call Q b (i + 1) ls (.inl (q.2.2.getD z.toNat 0) :: sk) h) : xEx2 own G cd rt call Q b i ls (.inl z :: .inr (.inr (1000 + j)) :: sk) h :=
  fun P hP => hP.2.2.2.1 b i ls sk h x k j q z hx hi ho hs hw h0 h1 (hk P hP)
theorem E2_sta {k t : Nat} (hx : cd[i]? = some x) (hi : x.1 = .getstatic k) (hs : (own, k, t) ∈ xSta) (hk : xEx2 own G cd rt call Q b (i + 1) ls (.inr (.inr (2000 + t)) :: sk) h) : xEx2 own G cd rt call Q b i ls sk h :=
  fun P hP => hP.2.2.2.2.1 b i ls sk h x k t hx hi hs (hk P hP)
theorem E2_cld {t : Nat} {r : List Int} {z : Int} (hx : cd[i]? = some x) (hi : x.1 = .caload) (hs : xRow[t]? = some r) (h0 : 0 ≤ z) (h1 : z < (r.length : Nat)) (hk : xEx2 own G cd rt call Q b (i + 1) ls (.inl (r.getD z.toNat 0) :: sk) h) : xEx2 own G cd rt call Q b i ls (.inl z :: .inr (.inr (2000 + t)) :: sk) h :=
  fun P hP => hP.2.2.2.2.2 b i ls sk h x t r z hx hi hs h0 h1 (hk P hP)
end XSTR
theorem R2_of {G : List xS} {MT : List xMt} {d b mm : Nat} {as : List xV} {h : xH} {Q : xO → xH → Prop} {M : xMt} (hM : MT[mm]? = some M) (hl : (xin0 as).length ≤ M.2.2.1) (hk : xEx2 M.1.cls G M.2.2.2.2.1 M.2.2.2.1 (xRn2 G MT d) Q b 0 (xini as M.2.2.1) [] h) : xRn2 G MT (d + 1) b mm as h Q := ⟨M, hM, hl, hk⟩
