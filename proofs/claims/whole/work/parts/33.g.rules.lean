/-! rules to walk the law's frames with -/
section XEL
variable {G : List xS} {cd : List xI} {rt : Option FieldType} {call : xCal} {hcl : xHc} {hk : List (Nat × Nat)} {n0 : Nat} {hd : Nat × List (String × Nat)} {scr : Option (Nat × (Int → Int))} {Q : xO → xH → Prop} {P : xPr} {b i : Nat} {ls : xL} {sk : List xV} {h : xH} {x : xI}
theorem EL_s (hP : xClL G cd rt call hcl hk n0 hd scr Q P) (k : Nat) : ∀ {i : Nat} {ls : xL} {sk : List xV} {h : xH} {i' : Nat} {ls' : xL} {sk' : List xV} {h' : xH}, xsn G cd k (i, ls, sk, h) = some (i', ls', sk', h') → P b i' ls' sk' h' → P b i ls sk h := by
  induction k with
  | zero =>
    intro i ls sk h i' ls' sk' h' hs hk
    cases hs
    exact hk
  | succ k ih =>
    intro i ls sk h i' ls' sk' h' hs hk
    unfold xsn at hs
    split at hs
    · rename_i x hx
      split at hs
      · rename_i s' hs'
        obtain ⟨i2, ls2, sk2, h2⟩ := s'
        exact hP.1 b i ls sk h x i2 ls2 sk2 h2 hx hs' (ih hs hk)
      · cases hs
    · cases hs
theorem EL_b (hP : xClL G cd rt call hcl hk n0 hd scr Q P) {t : Bool} {sk' : List xV} (hx : cd[i]? = some x) (hs : xb x sk = some (t, sk')) (ht : t = true → P b x.2.1.toNat ls sk' h) (hf : t = false → P b (i + 1) ls sk' h) : P b i ls sk h := hP.2.1 b i ls sk h x t sk' hx hs ht hf
theorem EL_ld (hP : xClL G cd rt call hcl hk n0 hd scr Q P) {ty : FieldType} {n a : Nat} {z : Int} (hx : cd[i]? = some x) (hg : G[a]? = some (.inl (ty, n))) (hs : xld x ty = true) (h0 : 0 ≤ z) (h1 : z < n) (hk : P b (i + 1) ls (xmk ty (h a z) :: sk) h) : P b i ls (.inl z :: .inr (.inr a) :: sk) h := hP.2.2.1 b i ls sk h x ty n a z hx hg hs h0 h1 hk
theorem EL_sd (hP : xClL G cd rt call hcl hk n0 hd scr Q P) {ty : FieldType} {n a : Nat} {z y : Int} (hx : cd[i]? = some x) (hg : G[a]? = some (.inl (ty, n))) (hs : xsd x ty = true) (h0 : 0 ≤ z) (h1 : z < n) (hr : xrng ty y) (hk : P b (i + 1) ls sk (xup h a z y)) : P b i ls (xmk ty y :: .inl z :: .inr (.inr a) :: sk) h := hP.2.2.2.1 b i ls sk h x ty n a z y hx hg hs h0 h1 hr hk
theorem EL_call (hP : xClL G cd rt call hcl hk n0 hd scr Q P) {b1 b2 mm : Nat} {as rest : List xV} {Q' : xO → xH → Prop} (hx : cd[i]? = some x) (hs : xcl G x sk = some (mm, as, rest)) (hw : (rest.map xcat).sum ≤ 8) (hU : x.2.2.2.head? = some 1 → ∀ (E : String) (h' : xH), ¬ Q' (.inr E) h') (hc : call b1 mm as h Q') (hk9 : ∀ (v : Option xV) (h' : xH), Q' (.inl v) h' → P b2 (i + 1) ls (v.toList ++ rest) h') (hx9 : ∀ (E : String) (h' : xH), Q' (.inr E) h' → i = hd.1 ∧ ∃ (r j : Nat) (xj : xI), hd.2[r]? = some (E, j) ∧ cd[j]? = some xj ∧ ((∃ k, xj.1 = .astore k) ∨ ∃ k, xj.1 = .astore_n k) ∧ P b2 (j + 1) (List.replicate n0 none) [] h') : P (b1 + b2) i ls sk h := hP.2.2.2.2.1 b1 b2 i ls sk h x mm as rest Q' hx hs hw hU hc hk9 hx9
theorem EL_ret (hP : xClL G cd rt call hcl hk n0 hd scr Q P) {v : Option xV} (hx : cd[i]? = some x) (hs : xrt x rt v) (hQ : Q (.inl v) h) : P b i ls v.toList h := hP.2.2.2.2.2.1 b i ls h x v hx hs hQ
theorem EL_sl (hP : xClL G cd rt call hcl hk n0 hd scr Q P) {L : Nat} {xs : Int → Int} {z : Int} (hx : cd[i]? = some x) (hs : scr = some (L, xs)) (hi : x.1 = .iaload) (h0 : 0 ≤ z) (h1 : z < L) (hk : P b (i + 1) ls (.inl (xs z) :: sk) h) : P b i ls (.inl z :: .inr (.inr 3000) :: sk) h := hP.2.2.2.2.2.2.1 b i ls sk h x L xs z hx hs hi h0 h1 hk
theorem EL_sn (hP : xClL G cd rt call hcl hk n0 hd scr Q P) {L : Nat} {xs : Int → Int} (hx : cd[i]? = some x) (hs : scr = some (L, xs)) (hi : x.1 = .arraylength) (hk : P b (i + 1) ls (.inl (L : Nat) :: sk) h) : P b i ls (.inr (.inr 3000) :: sk) h := hP.2.2.2.2.2.2.2.1 b i ls sk h x L xs hx hs hi hk
theorem EL_hc (hP : xClL G cd rt call hcl hk n0 hd scr Q P) {b1 b2 k hn : Nat} {as rest : List xV} {Q' : Int → xH → Prop} (hx : cd[i]? = some x) (hi : x.1 = .invokestatic k) (hm : (k, hn) ∈ hk) (he : sk = as.reverse ++ rest) (hw : (rest.map xcat).sum ≤ 8) (hc : hcl b1 hn as h Q') (hk9 : ∀ (v : Int) (h' : xH), Q' v h' → P b2 (i + 1) ls (.inl v :: rest) h') : P (b1 + b2) i ls sk h := he ▸ hP.2.2.2.2.2.2.2.2.1 b1 b2 i ls h x k hn as rest Q' hx hi hm hw hc hk9
theorem EL_fg (hP : xClL G cd rt call hcl hk n0 hd scr Q P) {ls' : xL} (he : ls'.length = ls.length) (hs : ∀ (j : Nat) (v : xV), ls'[j]? = some (some v) → ls[j]? = some (some v)) (hk : P b i ls' sk h) : P b i ls sk h := hP.2.2.2.2.2.2.2.2.2.1 b i ls ls' sk h he hs hk
theorem EL_mono (hP : xClL G cd rt call hcl hk n0 hd scr Q P) {b' : Nat} (hb : b ≤ b') (hk : P b i ls sk h) : P b' i ls sk h := hP.2.2.2.2.2.2.2.2.2.2.1 b b' i ls sk h hb hk
theorem EL_cong (hP : xClL G cd rt call hcl hk n0 hd scr Q P) {sk' : List xV} {h' : xH} (e3 : ∀ ρ, sk.map (xc ρ) = sk'.map (xc ρ)) (e4 : ∀ ρ ca, xWl ρ ca h G 0 = xWl ρ ca h' G 0) (hk : P b i ls sk' h') : P b i ls sk h := hP.2.2.2.2.2.2.2.2.2.2.2 b i ls sk h ls sk' h' (fun _ => rfl) rfl e3 e4 hk
/-- a number taken for true or false -/
def bz (z : Int) : Int := if w32 z = 0 then 0 else 1
theorem bz_01 (z : Int) : bz z = 0 ∨ bz z = 1 := by unfold bz; split <;> simp
theorem xcc_eq0 (z : Int) : xcc .eq z 0 = decide (w32 z = 0) := rfl
theorem EL_bz (hP : xClL G cd rt call hcl hk n0 hd scr Q P) {z : Int} {o : Int} {l1 l2 : List Nat} {t1 t2 : List (Nat × Nat)} {r1 r2 : Int × List (Nat × Nat) × List Nat} {o2 : Int} (h0 : cd[i]? = some (.ifCond .eq o, ((i + 3 : Nat) : Int), t1, l1)) (h1 : cd[i + 1]? = some (.iconst 1, r1)) (h2 : cd[i + 2]? = some (.goto o2, ((i + 4 : Nat) : Int), t2, l2)) (h3 : cd[i + 3]? = some (.iconst 0, r2)) (hk9 : P b (i + 4) ls (.inl (bz z) :: sk) h) : P b i ls (.inl z :: sk) h := by
  refine EL_b hP (t := decide (w32 z = 0)) (sk' := sk) h0 rfl (fun ht => ?_) (fun hf => ?_)
  · have e : bz z = 0 := by unfold bz; rw [if_pos (of_decide_eq_true ht)]
    rw [e] at hk9
    exact hP.1 b (i + 3) ls sk h _ (i + 4) ls (.inl 0 :: sk) h h3 rfl hk9
  · have e : bz z = 1 := by unfold bz; rw [if_neg (of_decide_eq_false hf)]
    rw [e] at hk9
    exact hP.1 b (i + 1) ls sk h _ (i + 2) ls (.inl 1 :: sk) h h1 rfl (hP.1 b (i + 2) ls _ h _ (i + 4) ls (.inl 1 :: sk) h h2 rfl hk9)
theorem EL_bzl (hP : xClL G cd rt call hcl hk n0 hd scr Q P) {z : Int} {o : Int} {l1 l2 : List Nat} {t1 t2 : List (Nat × Nat)} {r1 r2 : Int × List (Nat × Nat) × List Nat} {o2 : Int} (h0 : cd[i]? = some (.ifCond .eq o, ((i + 3 : Nat) : Int), t1, l1)) (h1 : cd[i + 1]? = some (.lconst 1, r1)) (h2 : cd[i + 2]? = some (.goto o2, ((i + 4 : Nat) : Int), t2, l2)) (h3 : cd[i + 3]? = some (.lconst 0, r2)) (hk9 : P b (i + 4) ls (.inr (.inl (bz z)) :: sk) h) : P b i ls (.inl z :: sk) h := by
  refine EL_b hP (t := decide (w32 z = 0)) (sk' := sk) h0 rfl (fun ht => ?_) (fun hf => ?_)
  · have e : bz z = 0 := by unfold bz; rw [if_pos (of_decide_eq_true ht)]
    rw [e] at hk9
    exact hP.1 b (i + 3) ls sk h _ (i + 4) ls (.inr (.inl 0) :: sk) h h3 rfl hk9
  · have e : bz z = 1 := by unfold bz; rw [if_neg (of_decide_eq_false hf)]
    rw [e] at hk9
    exact hP.1 b (i + 1) ls sk h _ (i + 2) ls (.inr (.inl 1) :: sk) h h1 rfl (hP.1 b (i + 2) ls _ h _ (i + 4) ls (.inr (.inl 1) :: sk) h h2 rfl hk9)
end XEL
/-- a run comes to an end -/
theorem xCl2_ex {own : String} {G : List xS} {cd : List xI} {rt : Option FieldType} {call : xCal} {Q : xO → xH → Prop} (hc : ∀ (b mm : Nat) (as : List xV) (h : xH) (Q' : xO → xH → Prop), call b mm as h Q' → ∃ o h', Q' o h') : xCl2 own G cd rt call Q (fun _ _ _ _ _ => ∃ o h', Q o h') := by
  refine ⟨⟨?_, ?_, ?_, ?_, ?_, ?_, ?_, ?_, ?_, ?_, ?_, ?_, ?_, ?_, ?_, ?_⟩, ?_, ?_, ?_, ?_, ?_⟩
  · intros; assumption
  · intro b i ls sk h x t sk' _ _ ht hf
    cases t with
    | true => exact ht rfl
    | false => exact hf rfl
  · intros; assumption
  · intros; assumption
  · intros; assumption
  · intros; assumption
  · intros; assumption
  · intros; assumption
  · intros; assumption
  · intro b1 b2 i ls sk h x mm as rest Q' _ _ _ _ hcl hk hx
    obtain ⟨o, h', hq⟩ := hc _ _ _ _ _ hcl
    cases o with
    | inl v => exact hk v h' hq
    | inr E => exact ⟨.inr E, h', hx E h' hq⟩
  · intro b i ls h x v _ _ hQ
    exact ⟨_, _, hQ⟩
  · intro b i ls sk h x ik e0 w0 _ _ _ _ hQ
    exact ⟨_, _, hQ⟩
  · intros; assumption
  · intros; assumption
  · intros; assumption
  · intros; assumption
  · intros; assumption
  · intros; assumption
  · intros; assumption
  · intros; assumption
  · intros; assumption
theorem xRn2_ex {G : List xS} {MT : List xMt} : ∀ (d b mm : Nat) (as : List xV) (h : xH) (Q : xO → xH → Prop), xRn2 G MT d b mm as h Q → ∃ o h', Q o h'
  | 0, _, _, _, _, _, hr => hr.elim
  | d + 1, b, mm, as, h, Q, hr => by
    obtain ⟨M, hM, hl, hx⟩ := hr
    exact hx _ (xCl2_ex (xRn2_ex d))
