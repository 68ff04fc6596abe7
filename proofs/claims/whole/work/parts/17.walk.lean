/-! how a run of the plain machine is walked, goal first -/
def xsn (G : List xS) (cd : List xI) : Nat → xSt → Option xSt
  | 0, s => some s
  | n + 1, s => (match cd[s.1]? with
    | some x => (match sx G x s.1 s.2.1 s.2.2.1 s.2.2.2 with
      | some s' => xsn G cd n s'
      | none => none)
    | none => none)
section XWALK
variable {G : List xS} {cd : List xI} {rt : Option FieldType} {call : xCal} {Q : xO → xH → Prop} {b i : Nat} {ls : xL} {sk : List xV} {h : xH} {x : xI}
theorem E_s (k : Nat) : ∀ {i : Nat} {ls : xL} {sk : List xV} {h : xH} {i' : Nat} {ls' : xL} {sk' : List xV} {h' : xH}, xsn G cd k (i, ls, sk, h) = some (i', ls', sk', h') → xEx G cd rt call Q b i' ls' sk' h' → xEx G cd rt call Q b i ls sk h := by
  induction k with
  | zero =>
    intro i ls sk h i' ls' sk' h' hs hk
    cases hs
    exact hk
  | succ k ih =>
    intro i ls sk h i' ls' sk' h' hs hk
    unfold xsn at hs
    split at hs
    · rename_i x hx
      split at hs
      · rename_i s' hs'
        obtain ⟨i2, ls2, sk2, h2⟩ := s'
        have h3 := ih hs hk
        exact fun P hP => hP.1 b i ls sk h x i2 ls2 sk2 h2 hx hs' (h3 P hP)
      · cases hs
    · cases hs
theorem E_b {t : Bool} {sk' : List xV} (hx : cd[i]? = some x) (hs : xb x sk = some (t, sk')) (ht : t = true → xEx G cd rt call Q b x.2.1.toNat ls sk' h) (hf : t = false → xEx G cd rt call Q b (i + 1) ls sk' h) : xEx G cd rt call Q b i ls sk h :=
  fun P hP => hP.2.1 b i ls sk h x t sk' hx hs (fun z => ht z P hP) (fun z => hf z P hP)
theorem E_ld {ty : FieldType} {n a : Nat} {z : Int} (hx : cd[i]? = some x) (hg : G[a]? = some (.inl (ty, n))) (hs : xld x ty = true) (h0 : 0 ≤ z) (h1 : z < n) (hk : xEx G cd rt call Q b (i + 1) ls (xmk ty (h a z) :: sk) h) : xEx G cd rt call Q b i ls (.inl z :: .inr (.inr a) :: sk) h :=
  fun P hP => hP.2.2.1 b i ls sk h x ty n a z hx hg hs h0 h1 (hk P hP)
theorem E_ald {ids : List Nat} {a d : Nat} {z : Int} (j : Nat) (hx : cd[i]? = some x) (hg : G[a]? = some (.inr (.inl ids))) (hi : x.1 = .aaload) (hz : z = (j : Int)) (hj : ids[j]? = some d) (hk : xEx G cd rt call Q b (i + 1) ls (.inr (.inr d) :: sk) h) : xEx G cd rt call Q b i ls (.inl z :: .inr (.inr a) :: sk) h :=
  fun P hP => hP.2.2.2.1 b i ls sk h x ids a j d z hx hg hi hz hj (hk P hP)
theorem E_sd {ty : FieldType} {n a : Nat} {z y : Int} (hx : cd[i]? = some x) (hg : G[a]? = some (.inl (ty, n))) (hs : xsd x ty = true) (h0 : 0 ≤ z) (h1 : z < n) (hr : xrng ty y) (hk : xEx G cd rt call Q b (i + 1) ls sk (xup h a z y)) : xEx G cd rt call Q b i ls (xmk ty y :: .inl z :: .inr (.inr a) :: sk) h :=
  fun P hP => hP.2.2.2.2.1 b i ls sk h x ty n a z y hx hg hs h0 h1 hr (hk P hP)
theorem E_div {y z : Int} (hx : cd[i]? = some x) (hi : x.1 = .idiv) (h0 : w32 y ≠ 0) (hk : xEx G cd rt call Q b (i + 1) ls (.inl (xdiv z y) :: sk) h) : xEx G cd rt call Q b i ls (.inl y :: .inl z :: sk) h :=
  fun P hP => hP.2.2.2.2.2.1 b i ls sk h x y z hx hi h0 (hk P hP)
theorem E_rem {y z : Int} (hx : cd[i]? = some x) (hi : x.1 = .irem) (h0 : w32 y ≠ 0) (hk : xEx G cd rt call Q b (i + 1) ls (.inl (xrem z y) :: sk) h) : xEx G cd rt call Q b i ls (.inl y :: .inl z :: sk) h :=
  fun P hP => hP.2.2.2.2.2.2.1 b i ls sk h x y z hx hi h0 (hk P hP)
theorem E_pz {a k fi : Nat} {z : Int} (hx : cd[i]? = some x) (hi : x.1 = .putfield fi) (hfl : xfld G a x.2.2.1 = some (k, .inl .boolean)) (hz : z = 0 ∨ z = 1) (hk : xEx G cd rt call Q b (i + 1) ls sk (xup h a k z)) : xEx G cd rt call Q b i ls (.inl z :: .inr (.inr a) :: sk) h :=
  fun P hP => hP.2.2.2.2.2.2.2.1 b i ls sk h x a k z fi hx hi hfl hz (hk P hP)
theorem E_cpy {k s9 d9 n0 n1 : Nat} {sp dp n : Int} {rest : List xV} (hx : cd[i]? = some x) (hi : x.1 = .invokestatic k) (hx1 : x.2.2.1 = []) (hx2 : x.2.2.2 = []) (hg0 : G[s9]? = some (.inl (.int, n0))) (hg1 : G[d9]? = some (.inl (.int, n1))) (h1 : 0 ≤ sp) (h2 : 0 ≤ dp) (h3 : 0 ≤ n) (h4 : sp + n ≤ n0) (h5 : dp + n ≤ n1) (hw : (rest.map xcat).sum ≤ 8) (hk : xEx G cd rt call Q b (i + 1) ls rest (xcpy h s9 sp d9 dp n)) : xEx G cd rt call Q b i ls (.inl n :: .inl dp :: .inr (.inr d9) :: .inl sp :: .inr (.inr s9) :: rest) h :=
  fun P hP => hP.2.2.2.2.2.2.2.2.1 b i ls h x k s9 d9 n0 n1 sp dp n rest hx hi hx1 hx2 hg0 hg1 h1 h2 h3 h4 h5 hw (hk P hP)
theorem E_call {b1 b2 mm : Nat} {as rest : List xV} {Q' : xO → xH → Prop} (hx : cd[i]? = some x) (hs : xcl G x sk = some (mm, as, rest)) (hw : (rest.map xcat).sum ≤ 8) (hU : x.2.2.2.head? = some 1 → ∀ (E : String) (h' : xH), ¬ Q' (.inr E) h') (hc : call b1 mm as h Q') (hk : ∀ (v : Option xV) (h' : xH), Q' (.inl v) h' → xEx G cd rt call Q b2 (i + 1) ls (v.toList ++ rest) h') (hxk : ∀ (E : String) (h' : xH), Q' (.inr E) h' → Q (.inr E) h') : xEx G cd rt call Q (b1 + b2) i ls sk h :=
  fun P hP => hP.2.2.2.2.2.2.2.2.2.1 b1 b2 i ls sk h x mm as rest Q' hx hs hw hU hc (fun v h' z => hk v h' z P hP) hxk
/-- a call that returns one value, for certain -/
theorem E_ci {b mm : Nat} {as rest : List xV} {r : Int} {h' : xH} (hx : cd[i]? = some x) (hs : xcl G x sk = some (mm, as, rest)) (hw : (rest.map xcat).sum ≤ 8) (hc : call 0 mm as h (fun o h9 => o = .inl (some (.inl r)) ∧ h9 = h')) (hk : xEx G cd rt call Q b (i + 1) ls (.inl r :: rest) h') : xEx G cd rt call Q b i ls sk h := by
  rw [← Nat.zero_add b]
  refine E_call hx hs hw (fun _ E h9 z => by cases z.1) hc (fun v h9 z => ?_) (fun E h9 z => by cases z.1)
  obtain ⟨hv, rfl⟩ := z
  cases hv
  exact hk
/-- a call that returns one value, by what is said of it -/
theorem E_cp {b mm : Nat} {as rest : List xV} {q : Int → xH → Prop} (hx : cd[i]? = some x) (hs : xcl G x sk = some (mm, as, rest)) (hw : (rest.map xcat).sum ≤ 8) (hc : call 0 mm as h (fun o h9 => ∃ r, o = .inl (some (.inl r)) ∧ q r h9)) (hk : ∀ (r : Int) (h' : xH), q r h' → xEx G cd rt call Q b (i + 1) ls (.inl r :: rest) h') : xEx G cd rt call Q b i ls sk h := by
  rw [← Nat.zero_add b]
  refine E_call hx hs hw (fun _ E h9 z => by obtain ⟨r, z, -⟩ := z; cases z) hc (fun v h9 z => ?_) (fun E h9 z => by obtain ⟨r, z, -⟩ := z; cases z)
  obtain ⟨r, hv, hq⟩ := z
  cases hv
  exact hk r h9 hq
/-- a call that returns nothing -/
theorem E_cv {b mm : Nat} {as rest : List xV} {q : xH → Prop} (hx : cd[i]? = some x) (hs : xcl G x sk = some (mm, as, rest)) (hw : (rest.map xcat).sum ≤ 8) (hc : call 0 mm as h (fun o h9 => o = .inl none ∧ q h9)) (hk : ∀ h' : xH, q h' → xEx G cd rt call Q b (i + 1) ls rest h') : xEx G cd rt call Q b i ls sk h := by
  rw [← Nat.zero_add b]
  refine E_call hx hs hw (fun _ E h9 z => by cases z.1) hc (fun v h9 z => ?_) (fun E h9 z => by cases z.1)
  obtain ⟨hv, hq⟩ := z
  cases hv
  exact hk h9 hq
theorem E_ret {v : Option xV} (hx : cd[i]? = some x) (hs : xrt x rt v) (hQ : Q (.inl v) h) : xEx G cd rt call Q b i ls v.toList h :=
  fun _ hP => hP.2.2.2.2.2.2.2.2.2.2.1 b i ls h x v hx hs hQ
theorem E_thr {ik e0 w0 : Nat} (hx : cd[i]? = some x) (hi : x.1 = .new ik) (hx1 : x.2.2.1 = [(e0, w0)]) (hw : (sk.map xcat).sum ≤ 8) (hQ : Q (.inr (xExn e0)) h) : xEx G cd rt call Q (b + 1) i ls sk h :=
  fun _ hP => hP.2.2.2.2.2.2.2.2.2.2.2.1 b i ls sk h x ik e0 w0 hx hi hx1 hw hQ
theorem E_min {k : Nat} {y z : Int} (hx : cd[i]? = some x) (hi : x.1 = .invokestatic k) (hx2 : x.2.2.2 = [1]) (hw : (sk.map xcat).sum ≤ 8) (hk : xEx G cd rt call Q b (i + 1) ls (.inl (if w32 y < w32 z then y else z) :: sk) h) : xEx G cd rt call Q b i ls (.inl y :: .inl z :: sk) h :=
  fun P hP => hP.2.2.2.2.2.2.2.2.2.2.2.2.1 b i ls sk h x k y z hx hi hx2 hw (hk P hP)
theorem E_minl {k : Nat} {y z : Int} (hx : cd[i]? = some x) (hi : x.1 = .invokestatic k) (hx2 : x.2.2.2 = [2]) (hw : (sk.map xcat).sum ≤ 8) (hk : xEx G cd rt call Q b (i + 1) ls (.inr (.inl (if w64 y < w64 z then y else z)) :: sk) h) : xEx G cd rt call Q b i ls (.inr (.inl y) :: .inr (.inl z) :: sk) h :=
  fun P hP => hP.2.2.2.2.2.2.2.2.2.2.2.2.2.1 b i ls sk h x k y z hx hi hx2 hw (hk P hP)
theorem E_mono {b' : Nat} (hb : b ≤ b') (hk : xEx G cd rt call Q b i ls sk h) : xEx G cd rt call Q b' i ls sk h :=
  fun P hP => hP.2.2.2.2.2.2.2.2.2.2.2.2.2.2.1 b b' i ls sk h hb (hk P hP)
theorem E_cong {ls' : xL} {sk' : List xV} {h' : xH} (e1 : ∀ ρ, xLc ρ ls 0 = xLc ρ ls' 0) (e2 : ls.length = ls'.length) (e3 : ∀ ρ, sk.map (xc ρ) = sk'.map (xc ρ)) (e4 : ∀ ρ ca, xWl ρ ca h G 0 = xWl ρ ca h' G 0) (hk : xEx G cd rt call Q b i ls' sk' h') : xEx G cd rt call Q b i ls sk h :=
  fun P hP => hP.2.2.2.2.2.2.2.2.2.2.2.2.2.2.2 b i ls sk h ls' sk' h' e1 e2 e3 e4 (hk P hP)
/-- the top of the stack by another number of the same int -/
theorem E_ti {y z : Int} (e : w32 z = w32 y) (hk : xEx G cd rt call Q b i ls (.inl y :: sk) h) : xEx G cd rt call Q b i ls (.inl z :: sk) h :=
  E_cong (fun _ => rfl) rfl (fun ρ => by simp only [List.map_cons, xc, w32_eq.mp e]) (fun _ _ => rfl) hk
end XWALK
/-- in an int's range -/
def xr (a : Int) : Prop := -2147483648 ≤ a ∧ a ≤ 2147483647
theorem w32_id {a : Int} (h : xr a) : w32 a = a := by
  unfold w32
  rw [Int32.toInt_ofInt]
  have h1 := h.1
  have h2 := h.2
  rw [Int.bmod_eq_of_le] <;> simp only [Int32.size] <;> omega
theorem w32_r (a : Int) : xr (w32 a) := by
  have h1 := Int32.le_toInt (Int32.ofInt a)
  have h2 := Int32.toInt_lt (Int32.ofInt a)
  unfold xr w32
  omega
theorem w32_w (a : Int) : w32 (w32 a) = w32 a := w32_id (w32_r a)
theorem c_lt {a b : Int} (ha : xr a) (hb : xr b) : xcc .lt a b = decide (a < b) := by simp only [xcc, w32_id ha, w32_id hb]
theorem c_le {a b : Int} (ha : xr a) (hb : xr b) : xcc .le a b = decide (a ≤ b) := by simp only [xcc, w32_id ha, w32_id hb]
theorem c_gt {a b : Int} (ha : xr a) (hb : xr b) : xcc .gt a b = decide (b < a) := by simp only [xcc, w32_id ha, w32_id hb]
theorem c_ge {a b : Int} (ha : xr a) (hb : xr b) : xcc .ge a b = decide (b ≤ a) := by simp only [xcc, w32_id ha, w32_id hb]
theorem c_eq {a b : Int} (ha : xr a) (hb : xr b) : xcc .eq a b = decide (a = b) := by simp only [xcc, w32_id ha, w32_id hb]
theorem c_ne {a b : Int} (ha : xr a) (hb : xr b) : xcc .ne a b = decide (¬ a = b) := by simp only [xcc, w32_id ha, w32_id hb]
theorem xup_s {h : xH} {a : Nat} {j z : Int} : xup h a j z a j = z := by simp [xup]
theorem xup_a {h : xH} {a a' : Nat} {j j' z : Int} (e : a' ≠ a) : xup h a j z a' j' = h a' j' := by simp [xup, e]
theorem xup_j {h : xH} {a : Nat} {j j' z : Int} (e : j' ≠ j) : xup h a j z a j' = h a j' := by simp [xup, e]
/-- a method of the table, walked from its first instruction -/
theorem R_of {G : List xS} {MT : List xMt} {d b mm : Nat} {as : List xV} {h : xH} {Q : xO → xH → Prop} {M : xMt} (hM : MT[mm]? = some M) (hl : (xin0 as).length ≤ M.2.2.1) (hk : xEx G M.2.2.2.2.1 M.2.2.2.1 (xRn G MT d) Q b 0 (xini as M.2.2.1) [] h) : xRn G MT (d + 1) b mm as h Q := ⟨M, hM, hl, hk⟩
