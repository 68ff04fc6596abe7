/-! helpers by contract -/
def xE3 : List String := ["java/lang/IllegalArgumentException", "java/lang/IllegalStateException", "java/util/NoSuchElementException"]
def xNcs (s : State) : Prop := (∀ E ∈ xE3, va_Nw (.castable E E) s) ∧ ∀ E ∈ xE3, ∀ F ∈ xE3, E ≠ F → va_Nc E F s
/-- of a helper: the class's method, what it may throw, how many numbers it takes, whether true or false comes back -/
abbrev xHR : Type := Nat × List String × Nat × Bool
def wvb (t : Bool) (r : Int) : Int := if t = true then bz r else w32 r
def xHQ (T : xHR) (Q' : Int → xH → Prop) : xO → xH → Prop := fun o h1 => (∃ r, o = .inl (some (.inl r)) ∧ Q' 0 (xup h1 112 0 (wvb T.2.2.2 r))) ∨ ∃ (k : Nat) (E : String), o = .inr E ∧ T.2.1[k]? = some E ∧ Q' ((k : Int) + 1) h1
def xHl (HT : List xHR) (d : Nat) : xHc := fun b hn as h Q' => ∃ (T : xHR) (zs : List Int), HT[hn]? = some T ∧ zs.length = T.2.2.1 ∧ as = .inr (.inr 0) :: (zs.map .inl ++ [.inr (.inr 112)]) ∧ xRn2 G0 MT d b T.1 (.inr (.inr 0) :: zs.map .inl) h (xHQ T Q')
def xQv (Q' : Int → xH → Prop) : xO → xH → Prop := fun o h9 => ∃ v, o = .inl (some (.inl v)) ∧ Q' v h9
def xNoH : xHc := fun _ _ _ _ _ => False
/-- a helper's table, its handlers -/
def xHok (hh : List (Nat × Nat × Nat × Nat)) (pcs : List Nat) (hd : Nat × List (String × Nat)) : Prop := ∀ (r j : Nat) (E : String), hd.2[r]? = some (E, j) → ∃ st en hp ct : Nat, hh[r]? = some (st, en, hp, ct) ∧ pcs[j]? = some hp ∧ (∀ pc, pcs[hd.1]? = some pc → st ≤ pc ∧ pc < en) ∧ ct ≠ 0 ∧ Cond.classLink RL ct E ∈ xtg ∧ E ∈ xE3 ∧ ∀ q ∈ hh.take r, q.2.2.2 ≠ 0 ∧ ∃ E' : String, Cond.classLink RL q.2.2.2 E' ∈ xtg ∧ E' ∈ xE3 ∧ E ≠ E'
theorem xHok1 {st en hp ct j ci pc : Nat} {pcs : List Nat} {E : String} (h1 : pcs[j]? = some hp) (h2 : pcs[ci]? = some pc) (h3 : st ≤ pc ∧ pc < en) (h4 : ct ≠ 0) (h5 : Cond.classLink RL ct E ∈ xtg) (h6 : E ∈ xE3) : xHok [(st, en, hp, ct)] pcs (ci, [(E, j)]) := by
  intro r j' E' hr
  cases r with
  | zero =>
    cases hr
    exact ⟨st, en, hp, ct, rfl, h1, fun q hq => by cases h2.symm.trans hq; exact h3, h4, h5, h6, fun q hq => by cases hq⟩
  | succ r => cases hr
theorem xHok2 {st en hp ct hp2 ct2 j j2 ci pc : Nat} {pcs : List Nat} {E E2 : String} (h1 : pcs[j]? = some hp) (g1 : pcs[j2]? = some hp2) (h2 : pcs[ci]? = some pc) (h3 : st ≤ pc ∧ pc < en) (h4 : ct ≠ 0) (g4 : ct2 ≠ 0) (h5 : Cond.classLink RL ct E ∈ xtg) (g5 : Cond.classLink RL ct2 E2 ∈ xtg) (h6 : E ∈ xE3) (g6 : E2 ∈ xE3) (hne : E2 ≠ E) : xHok [(st, en, hp, ct), (st, en, hp2, ct2)] pcs (ci, [(E, j), (E2, j2)]) := by
  intro r j' E' hr
  cases r with
  | zero =>
    cases hr
    exact ⟨st, en, hp, ct, rfl, h1, fun q hq => by cases h2.symm.trans hq; exact h3, h4, h5, h6, fun q hq => by cases hq⟩
  | succ r =>
    cases r with
    | zero =>
      cases hr
      refine ⟨st, en, hp2, ct2, rfl, g1, fun q hq => by cases h2.symm.trans hq; exact h3, g4, g5, g6, fun q hq => ?_⟩
      have hq2 : q ∈ [(st, en, hp, ct)] := hq
      cases List.mem_singleton.mp hq2
      exact ⟨h4, E, h5, h6, hne⟩
    | succ r => cases hr
set_option maxRecDepth 8000 in
theorem xrm_n {d n r : Nat} (h : 60 * d + 320 ≤ r) (h2 : n ≤ 40) : 8 + (n + 11) + (60 * (d + 1) + 200) ≤ r := by
  omega
theorem xrm_l {d b nL rl : Nat} (h : 60 * d + 320 ≤ rl) (h2 : nL ≤ 40) : 8 + (nL + 11) + (xrm (d + 1) b).locals ≤ rl := by
  have e : (xrm (d + 1) b).locals = 60 * (d + 1) + 200 := rfl
  rw [e]
  exact xrm_n h h2
section XHELP
variable {l : Launch} {D : va_G} {tys : List (ClassId × FieldType)} {ρ : Nat → Nat} {ca : FieldType → ClassId} {sz0 : Nat} {ST : State → Prop} {d b : Nat} {y : MethodName} {cc : ByteArray} {nL : Nat} {hh : List (Nat × Nat × Nat × Nat)} {cd : List xI} {pcs : List Nat} {hd : Nat × List (String × Nat)} {as : List xV} {h : xH} {Q' : Int → xH → Prop}
set_option maxHeartbeats 1000000 in
theorem xH_met (hca : xcaok ca tys) (hST : xSTok sz0 ST) (hdec : xDec ST) (hthr : xTW l sz0 ST) (hDD : ∀ h : xH, va_D (xA sz0) (xWl ρ ca h G0 0)) (hstr : ∀ s : State, ST s → xStr ρ sz0 s) (hnc : ∀ s : State, ST s → xNcs s)
    (hpl : plainName y.cls = true) (hyc : y.cls = RL) (hok : ∀ (i : Nat) (x : xI), cd[i]? = some x → xok MT vcl RL cc nL pcs i x) (hpc0 : pcs[0]? = some 0) (hH : xHok hh pcs hd) (fit : (xin0 as).length ≤ nL)
    (walk : ∀ P : xPr, xClL G0 cd (some .int) (xRn2 G0 MT d) xNoH [] nL hd none (xQv Q') P → P b 0 (xini as nL) [] h) :
    Met l y (Cond.codeWith y cc nL (some .int) hh :: xtg) (xrm (d + 1) b) (xPc ρ ca G0 D vcl tys sz0 ST as h) (xQc ρ ca G0 D vcl sz0 (xQv Q')) b (6 * b) (xA sz0) := by
  refine x_noX (XC := xXC ρ ca G0 D vcl sz0 (xQv Q')) (vx_ofWH (cc := cc) (maxL := nL) (ret := some .int) (hh := hh) hpl rfl ?_) (fun E st t z => by obtain ⟨⟨h', ⟨v, hv, -⟩, -⟩, -⟩ := z; cases hv)
  intro p e s m args below meth c s₁ B hml hv
  obtain ⟨rfl, hK, hsz, hs0, hP⟩ := hv
  have hx := B.exec
  have hb := B.bytes
  have hr := B.returns
  have hts0 := atoms_spec (ws := Cond.codeWith y cc nL (some .int) hh :: xtg) B.pre
  have hts : ∀ w ∈ xtg, w.before (as.map (xc ρ)).toArray s = true := fun w hw => hts0 w (List.mem_cons_of_mem _ hw)
  have hown : s.vm.findClass RL = some m.cls := by rw [← hyc]; exact findClass_of_methodNamed B.named
  have htab : c.exceptionTable.toList = tableOf hh := vx_table (x := y) B (hts0 _ List.mem_cons_self)
  have hlocks : meth.locks = false := B.notSynchronized
  have hRf : d + 9 ≤ (headSpec (Cond.codeWith y cc nL (some .int) hh :: xtg) (xrm (d + 1) b)).room.frames := by show d + 9 ≤ d + 1 + 8; omega
  have hRl : 60 * d + 260 ≤ (headSpec (Cond.codeWith y cc nL (some .int) hh :: xtg) (xrm (d + 1) b)).room.locals := by show 60 * d + 260 ≤ 60 * (d + 1) + 200; omega
  have hRc : b ≤ (headSpec (Cond.codeWith y cc nL (some .int) hh :: xtg) (xrm (d + 1) b)).room.cells := Nat.le_refl _
  have hRs : 6 * b ≤ (headSpec (Cond.codeWith y cc nL (some .int) hh :: xtg) (xrm (d + 1) b)).room.slots := Nat.le_refl _
  have hC := xL_ok (p := p) (e := e) (below := below) (rt := some .int) (call := xRn2 G0 MT d) (hcl := xNoH) (hk := []) (hd := hd) (scr := none) (Q := xQv Q') (Z := vx_MQ below (xQc ρ ca G0 D vcl sz0 (xQv Q')) (xXC ρ ca G0 D vcl sz0 (xQv Q')) (as.map (xc ρ)).toArray s b (6 * b) (xA sz0)) hx hb hown hts hK hok vcl_ok G0_ok hca hml hsz hs0 hST hdec hDD hRf hRl hRc hRs
    (fun b1 mm as h Q9 hr9 M hM => x_sound2 MT_ok vcl_ok G0_ok hca hST hdec hthr hDD hstr d b1 mm as h Q9 hr9 M hM)
    (fun b i ls h x v hc hs hQ => x_ret hx hb hown hts hK hok vcl_ok G0_ok hca hr hlocks hc hs hQ)
    (fun r j E hr9 pc pcj hpc hpcj lsr H locs cells slots q9 ce rest hce hcv hcl9 kk => by
      obtain ⟨st, en, hp, ct, h1, h2, h3, h4, h5, h6, h7⟩ := hH r j E hr9
      cases h2.symm.trans hpcj
      have hlt9 : r < hh.length := (List.getElem?_eq_some_iff.mp h1).1
      have hsp : c.exceptionTable.toList = tableOf (hh.take r) ++ ⟨st, en, pcj, ct⟩ :: tableOf (hh.drop (r + 1)) := by
        rw [htab]
        have e9 : hh = hh.take r ++ (st, en, pcj, ct) :: hh.drop (r + 1) := by
          rw [← (List.getElem?_eq_some_iff.mp h1).2, List.getElem_cons_drop, List.take_append_drop]
        exact (congrArg tableOf e9).trans (by simp [tableOf])
      refine vx_catch hown (tableOf (hh.take r)) ⟨st, en, pcj, ct⟩ (tableOf (hh.drop (r + 1))) hsp (fun z hz => ?_) ?_ h4 (hts _ h5) (va_Nw.use rfl ((hnc s hs0).1 E h6)) hce hcv hcl9 kk
      · obtain ⟨q, hq, rfl⟩ := List.mem_map.mp hz
        obtain ⟨g1, E', g2, g3, g4⟩ := h7 q hq
        exact Or.inr ⟨g1, E', hts _ g2, (hnc s hs0).2 E h6 E' g3 g4⟩
      · have := h3 pc hpc
        simp [covers, this.1, this.2])
    (fun L xs z => by cases z) (fun _ _ _ _ _ z => z.elim)
  have k2 := walk _ hC 0 _ s.heap [] 0 0 hpc0 (xini_len fit) (xini_has ρ fit) hP (hDD h) va_S.rf (by omega) (by omega)
  rw [lg_entry_eq]
  exact k2
/-- a call of a helper -/
theorem xH_call {p : Program} {e : Env} {R : Room} {s : State} {m : MethodId} {args : Array Value} {below : List Frame} {meth : Method} {c : Code} {Z : State → Prop} {cl9 : ByteArray} {n9 : Nat} (hx : p.tables.exec = Jvm.exec) (hb : c.code = cl9) (hown : s.vm.findClass RL = some m.cls) (hts : ∀ w ∈ xtg, w.before args s = true) (hK : va_K D vcl tys s) (hml : c.maxLocals = n9) (hsz : sz0 ≤ s.heap.size) (hs0 : ST s) (hST : xSTok sz0 ST) (hRf : d + 10 ≤ R.frames) (hRl : 60 * d + 320 ≤ R.locals) {mc ms : Nat} (hRc : mc ≤ R.cells) (hRs : ms ≤ R.slots)
    (hM : Met l y (Cond.codeWith y cc nL (some .int) hh :: xtg) (xrm (d + 1) b) (xPc ρ ca G0 D vcl tys sz0 ST as h) (xQc ρ ca G0 D vcl sz0 (xQv Q')) b (6 * b) (xA sz0)) {k n : Nat} (hcode : Cond.codeWith y cc nL (some .int) hh ∈ xtg) (hlink : Cond.methodLink RL k y ∈ xtg) (hstat : Cond.static y ∈ xtg) (hini : Cond.initialized y.cls ∈ xtg) (hno : xnoH y.cls) (hpar : (parseMethodDescriptor y.desc).map (fun d => d.parameters.length) = some n) (hn : as.length = n) (hnL : nL ≤ 40)
    {pc : Nat} {lsr : Array Slot} {H : Heap} {locs : List Loc} {cells slots : Nat} {rest : List Value} (hd9 : decode cl9 pc = .ok (.invokestatic k, 3)) (hls : lsr.size = n9) (hP : va_P D vcl (xWl ρ ca h G0 0) H) (hS : va_S (xA sz0) s.heap H locs) (hw : (rest.map fun v => v.category).sum ≤ 8) (hc1 : cells + b ≤ mc) (hc2 : slots + 6 * b ≤ ms)
    (kk : ∀ (v : Int) (h' : xH) (H1 : Heap) (locs1 : List Loc), Q' v h' → va_P D vcl (xWl ρ ca h' G0 0) H1 → va_S (xA sz0) s.heap H1 locs1 → W p l e R s m args below meth c H1 locs1 (cells + b) (slots + 6 * b) Z (F0 m (pc + 3) lsr (.int (Int32.ofInt v) :: rest))) : W p l e R s m args below meth c H locs cells slots Z (F0 m pc lsr ((as.map (xc ρ)).reverse ++ rest)) := by
  have hgood : GoodIn xtg (va_wsS RL k y (Cond.codeWith y cc nL (some .int) hh :: xtg)) := by
    intro w hw
    have hm : w ∈ xtg := by
      simp only [va_wsS, List.mem_append, List.mem_cons, List.not_mem_nil, or_false] at hw
      rcases hw with (rfl | rfl | rfl) | rfl | hw
      · exact hlink
      · exact hstat
      · exact hini
      · exact hcode
      · exact hw
    exact ⟨hm, good_of_word (List.mem_filter.mp hm).2⟩
  have f1 : (xrm (d + 1) b).frames + 1 ≤ R.frames := by simp only [xrm]; omega
  have f2 : 8 + (nL + 11) + (xrm (d + 1) b).locals ≤ R.locals := xrm_l hRl hnL
  have cw : vx_CSW R s args RL k y cc nL (some .int) hh (Cond.codeWith y cc nL (some .int) hh :: xtg) (xrm (d + 1) b) b (6 * b) n := vx_cwSW n hts hgood rfl rfl rfl ⟨hno.1, hno.2, hpar⟩ ⟨f1, f2⟩
  have hr := vx_runSW (As := as.map (xc ρ)) (rest := rest) (g := F0 m pc lsr ((as.map (xc ρ)).reverse ++ rest)) (H := H) (locs := locs) (cells := cells) (slots := slots) (below := below) (meth := meth) (e := e) (p := p) ⟨hx, hb, hml, hown, hts⟩ hM cw ⟨x_blind hST, x_pre hST hsz hs0 hK hS hP⟩ rfl (by rw [List.length_map]; exact hn) hls rfl (lv_room hw) hd9 ⟨by omega, by omega⟩
  refine x_runM hS hr (fun v h' H1 locs1 hq hP1 hS1 => ?_)
  obtain ⟨v9, hv, hq9⟩ := hq
  cases hv
  exact kk v9 h' H1 locs1 hq9 hP1 hS1
end XHELP
