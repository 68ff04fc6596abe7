/-! constructors that call -/
abbrev bM : Type := MethodName × ByteArray × Nat × List (Nat × xI)
abbrev bCal : Type := Nat → List xV → List bC → Option (List bC × Nat × Nat)
def brl (call : bCal) (ls : List xV) : List (Nat × xI) → List xV → List bC → Nat → Nat → Option (List bC × Nat × Nat)
  | [], _, _, _, _ => none
  | q :: t, sk, w, c, n => (match q.2.1 with
    | .return_ => (match sk with
      | [] => some (w, c, n)
      | _ => none)
    | .invokespecial _ => (match q.2.2.2.1 with
      | [] => (match sk with
        | .inr (.inr _) :: rest => if rest.length ≤ 4 then brl call ls t rest w c n else none
        | _ => none)
      | [(na, cn)] => (match sk.drop na with
        | .inr (.inr a) :: rest => if rest.length ≤ 4 ∧ na ≤ sk.length then (match call cn (.inr (.inr a) :: (sk.take na).reverse) w with
          | some (w', c', n') => brl call ls t rest w' (c + c') (n + n')
          | none => none) else none
        | _ => none)
      | _ => none)
    | .invokestatic _ => (match sk with
      | .inl v :: .inr (.inr a) :: rest => if rest.length ≤ 4 then (match w[a]? with
        | some (.inl (.int, k, _, _)) => if k < 100000 then brl call ls t rest (w.set a (.inl (.int, k, v, []))) c n else none
        | _ => none) else none
      | _ => none)
    | _ => (match bs ls q.2 sk w with
      | some (sk', w', c', n') => brl call ls t sk' w' (c + c') (n + n')
      | none => none))
def bnl (as : List xV) : Bool := as.all (fun v => !xlong (some v))
def brn (BT : List bM) : Nat → bCal
  | 0 => fun _ _ _ => none
  | d + 1 => fun cn as w => (match BT[cn]? with
    | some M => if bnl as = true ∧ as.length ≤ M.2.2.1 then brl (brn BT d) as M.2.2.2 [] w 0 0 else none
    | none => none)
theorem bs_len {ls : List xV} {x : xI} {sk sk' : List xV} {w w' : List bC} {c' n' : Nat} (h : bs ls x sk w = some (sk', w', c', n')) : w'.length = w.length + c' := by
  unfold bs at h
  repeat' split at h
  all_goals first
    | cases h; done
    | (cases h; simp; done)
    | (cases h; simp; omega)
def bOkc (call : bCal) : Prop := ∀ (cn : Nat) (as : List xV) (w w' : List bC) (c' n' : Nat), call cn as w = some (w', c', n') → w'.length = w.length + c'
theorem brl_len {call : bCal} (hc : bOkc call) (ls : List xV) : ∀ (code : List (Nat × xI)) (sk : List xV) (w : List bC) (c n : Nat) (wF : List bC) (cF nF : Nat), brl call ls code sk w c n = some (wF, cF, nF) → wF.length + c = w.length + cF ∧ c ≤ cF ∧ n ≤ nF
  | [], _, _, _, _, _, _, _, h => by cases h
  | q :: t, sk, w, c, n, wF, cF, nF, h => by
    unfold brl at h
    split at h
    · split at h
      · cases h; exact ⟨rfl, Nat.le_refl _, Nat.le_refl _⟩
      · cases h
    · split at h
      · split at h
        · split at h
          · exact brl_len hc ls t _ _ _ _ _ _ _ h
          · cases h
        · cases h
      · split at h
        · split at h
          · split at h
            · rename_i w' c' n' hcl
              have h1 := hc _ _ _ _ _ _ hcl
              have h2 := brl_len hc ls t _ _ _ _ _ _ _ h
              omega
            · cases h
          · cases h
        · cases h
      · cases h
    · split at h
      · split at h
        · split at h
          · split at h
            · have h2 := brl_len hc ls t _ _ _ _ _ _ _ h
              rw [List.length_set] at h2
              exact h2
            · cases h
          · cases h
        · cases h
      · cases h
    · split at h
      · rename_i sk' w' c' n' hs
        have h1 := bs_len hs
        have h2 := brl_len hc ls t _ _ _ _ _ _ _ h
        omega
      · cases h
theorem brn_len (BT : List bM) : ∀ d, bOkc (brn BT d)
  | 0 => fun _ _ _ _ _ _ h => by cases h
  | d + 1 => fun cn as w w' c' n' h => by
    unfold brn at h
    split at h
    · split at h
      · have := brl_len (brn_len BT d) as _ _ _ _ _ _ _ _ h
        omega
      · cases h
    · cases h
def bcl (BT : List bM) (own : String) (idx : Nat) (fl : List Nat) (q : Nat × Nat) : Prop := ∃ M : bM, BT[q.2]? = some M ∧ Cond.code M.1 M.2.1 M.2.2.1 none ∈ xtg ∧ Cond.initialized M.1.cls ∈ xtg ∧ M.1.name = "<init>" ∧ Cond.instanceMethod M.1 ∈ xtg ∧ xnoH M.1.cls ∧ (parseMethodDescriptor M.1.desc).map (fun d => d.parameters.length) = some q.1 ∧ M.2.2.1 ≤ 10 ∧ ((fl = [0] ∧ Cond.methodLink own idx M.1 ∈ xtg) ∨ (fl = [1] ∧ Cond.methodLinkNest own idx M.1 "PartMaker" ∈ lw_tbl))
def bln2 (BT : List bM) (own : String) (x : xI) : Prop := blnk own x ∧ match x.1 with
  | .invokespecial idx => (x.2.2.1 = [] → Cond.methodLink own idx Lib.objectInit ∈ xtg) ∧ ∀ q ∈ x.2.2.1, bcl BT own idx x.2.2.2 q
  | .invokestatic idx => Cond.methodLink own idx yJ7_fill_53178 ∈ xtg
  | _ => True
def bchk (cc : ByteArray) : List (Nat × xI) → Bool
  | [] => true
  | q :: t => decide (decode cc q.1 = .ok (q.2.1, bln q.2.1)) && ((match t with
    | [] => true
    | q2 :: _ => nq q2.1 (q.1 + bln q.2.1)) && bchk cc t)
def bMok (BT : List bM) : Prop := ∀ (cn : Nat) (M : bM), BT[cn]? = some M → plainName M.1.cls = true ∧ M.1.name = "<init>" ∧ M.2.2.2.head?.map (·.1) = some 0 ∧ bchk M.2.1 M.2.2.2 = true ∧ ∀ q ∈ M.2.2.2, bln2 BT M.1.cls q.2
def brm (d c n : Nat) : Room := { frames := d + 1, cells := c, slots := n, locals := 40 * d + 60 }
def bPc (ρ : Nat → Nat) (ca : FieldType → ClassId) (D : va_G) (tys : List (ClassId × FieldType)) (n0 : Nat) (ST : State → Prop) (as : List xV) (w : List bC) : Array Value → State → Prop := va_Pc (as.map (xc ρ)) (fun U => va_K D vcl tys U ∧ ST U ∧ U.heap.size = n0 + w.length ∧ va_P D vcl (bWl ρ ca w 0) U.heap)
def bQc (ρ : Nat → Nat) (ca : FieldType → ClassId) (D : va_G) (n0 : Nat) (w : List bC) : Array Value → State → Outcome → State → Prop := fun _ st o t => (o = .returned none ∧ va_P D vcl (bWl ρ ca w 0) t.heap ∧ t.heap.size = n0 + w.length) ∧ va_F (xA n0) st t
/-- what the start gives to constructors -/
def bST (n0 : Nat) (ST : State → Prop) : Prop := xSTok n0 ST ∧ (∀ s, ST s → bOv s) ∧ ∀ s, ST s → ∀ (own : String) (idx : Nat) (y : MethodName), Cond.methodLinkNest own idx y "PartMaker" ∈ lw_tbl → va_Nw (.methodLinkNest own idx y "PartMaker") s
theorem bw_oi : Cond.instanceMethod Lib.objectInit ∈ xtg := xtg_of 117 (by decide +kernel) (by decide +kernel)
theorem bw_oc : Cond.code Lib.objectInit ⟨#[0xb1]⟩ 1 none ∈ xtg := xtg_of 118 (by decide +kernel) (by decide +kernel)
theorem bw_fc : Cond.code yJ7_fill_53178 cJ7_fill_53178 4 none ∈ xtg := xtg_of 200 (by decide +kernel) (by decide +kernel)
theorem bw_fs : Cond.static yJ7_fill_53178 ∈ xtg := xtg_of 199 (by decide +kernel) (by decide +kernel)
theorem bw_fi : Cond.initialized yJ7_fill_53178.cls ∈ xtg := xtg_of 86 (by decide +kernel) (by decide +kernel)
theorem bgood {y : MethodName} {cc : ByteArray} {n : Nat} {r : Option FieldType} (h : Cond.code y cc n r ∈ xtg) : GoodIn xtg (Cond.code y cc n r :: xtg) := x_good (y, cc, n, r, [], []) h
theorem bcat (ρ : Nat → Nat) : ∀ l : List xV, ((l.map (xc ρ)).map fun v => v.category).sum ≤ 2 * l.length
  | [] => Nat.le_refl _
  | v :: t => by
    have h := bcat ρ t
    have hv : (xc ρ v).category ≤ 2 := by rcases v with z | z | a <;> exact Nat.le_of_ble_eq_true rfl
    simp only [List.map_cons, List.sum_cons, List.length_cons] at h ⊢
    omega
section BLIST
variable {p : Program} {l : Launch} {e : Env} {R : Room} {s : State} {m : MethodId} {args : Array Value} {below : List Frame} {meth : Method} {c : Code} {H : Heap} {locs : List Loc} {cells slots : Nat} {Z : State → Prop} {own : String} {cc : ByteArray} {nL : Nat} {D : va_G} {tys : List (ClassId × FieldType)} {ρ : Nat → Nat} {ca : FieldType → ClassId} {n0 : Nat} {ST : State → Prop} {BT : List bM} {d : Nat}
theorem b_blind (hST : xSTok n0 ST) {as : List xV} {w : List bC} : FrameBlind (bPc ρ ca D tys n0 ST as w) := by
  rintro a U g mk ⟨h1, h2, h3, h4, h5⟩
  exact ⟨h1, va_K.moved (u := U) (U := U.calling g mk a) (Vm.Alike.refl _) h2, hST U (U.calling g mk a) (State.WarmedH.refl _) (fun _ _ => rfl) h3, h4, h5⟩
theorem b_pre (hST : xSTok n0 ST) (hsz : n0 ≤ s.heap.size) (hs0 : ST s) (hK : va_K D vcl tys s) (hS : va_S (xA n0) s.heap H locs) {as : List xV} {w : List bC} (hz : H.size = n0 + w.length) (hP : va_P D vcl (bWl ρ ca w 0) H) (U : State) (hU : U.heap = H) (hW : s.WarmedH U.vm) : bPc ρ ca D tys n0 ST as w (as.map (xc ρ)).toArray U :=
  ⟨rfl, va_K.moved hW.alike hK, hST s U hW (fun q hq => by rw [hU]; exact hS.2.1 q (Nat.lt_of_lt_of_le hq hsz) (Nat.not_le.mpr hq)) hs0, by rw [hU]; exact hz, by rw [hU]; exact hP⟩
theorem b_run {pc : Nat} {lsr : Array Slot} {st0 restR : List Value} {aa : Array Value} {w' : List bC} {c' n' : Nat} (hS : va_S (xA n0) s.heap H locs) (hr : va_Run p l e R s m args below meth c H locs cells slots c' n' (F0 m pc lsr st0) restR (bQc ρ ca D n0 w' aa) (xA n0))
    (kk : ∀ (H1 : Heap) (locs1 : List Loc), va_P D vcl (bWl ρ ca w' 0) H1 → va_S (xA n0) s.heap H1 locs1 → W p l e R s m args below meth c H1 locs1 (cells + c') (slots + n') Z (F0 m (pc + 3) lsr restR)) : W p l e R s m args below meth c H locs cells slots Z (F0 m pc lsr st0) := by
  intro T hT X
  obtain ⟨v, st₀, t, T', L, h0, X', hL, e1, e2, ⟨⟨hv, hP1, hz⟩, hF⟩, st⟩ := hr T hT X
  obtain ⟨k1, k2, k3⟩ := vx_keep h0 e1 hS (fun _ _ z => z) (fun _ z => z) hL hF
  cases hv
  obtain ⟨t2, a1, b1⟩ := kk T'.heap (locs ++ L) (by rw [e1]; exact hP1) k3 T' rfl X'
  exact ⟨t2, st t2 a1, b1⟩
set_option maxHeartbeats 2000000 in
theorem b_list {call : bCal} {ls : List xV} {lsr : Array Slot} (hcl : bOkc call) (hx : p.tables.exec = Jvm.exec) (hb : c.code = cc) (hown : s.vm.findClass own = some m.cls) (hts : ∀ w ∈ xtg, w.before args s = true) (hK : va_K D vcl tys s) (hca : xcaok ca tys) (hname : meth.name = "<init>") (hB : bST n0 ST) (hs0 : ST s) (hρ : ∀ k, k < 1000 → ρ k = n0 + k) (hsz : n0 ≤ s.heap.size) (hml : c.maxLocals = nL) (hr : meth.sig.returnType = none) (hlocks : meth.locks = false) (hlsz : lsr.size = nL) (hRf : d + 2 ≤ R.frames) (hRl : 40 * d + 100 ≤ R.locals)
    (hl : ∀ (k : Nat) (v : xV), ls[k]? = some v → lsr[k]? = some (.val (xc ρ v)))
    (hcall : ∀ (cn : Nat) (as : List xV) (w w' : List bC) (c' n' : Nat), call cn as w = some (w', c', n') → w'.length < 1000 → ∀ M, BT[cn]? = some M → Met l M.1 (Cond.code M.1 M.2.1 M.2.2.1 none :: xtg) (brm d c' n') (bPc ρ ca D tys n0 ST as w) (bQc ρ ca D n0 w') c' n' (xA n0)) :
    ∀ (code : List (Nat × xI)) (sk : List xV) (w : List bC) (cells slots : Nat) (wF : List bC) (cF nF : Nat), brl call ls code sk w cells slots = some (wF, cF, nF) → bchk cc code = true → (∀ q ∈ code, bln2 BT own q.2) → wF.length < 1000 → cF ≤ R.cells → nF ≤ R.slots → ∀ (H : Heap) (locs : List Loc) (pc : Nat), code.head?.map (·.1) = some pc → va_P D vcl (bWl ρ ca w 0) H → va_S (xA n0) s.heap H locs → n0 + w.length = s.heap.size + cells → W p l e R s m args below meth c H locs cells slots (MQ below (bQc ρ ca D n0 wF) args s cF nF (xA n0)) (F0 m pc lsr (sk.map (xc ρ)))
  | [], _, _, _, _, _, _, _, h => by cases h
  | q :: t, sk, w, cells, slots, wF, cF, nF, h => by
    intro hck hln hwF hRc hRs H locs pc hpc hP hS hcnt
    have hlen := brl_len hcl ls _ _ _ _ _ _ _ _ h
    obtain ⟨pc0, x⟩ := q
    have hpc0 : pc0 = pc := Option.some.inj hpc
    subst hpc0
    unfold bchk at hck
    simp only [Bool.and_eq_true, decide_eq_true_eq] at hck
    obtain ⟨hd, hnx, hck⟩ := hck
    have hlx := hln _ List.mem_cons_self
    have hlt : ∀ q ∈ t, bln2 BT own q.2 := fun q hq => hln q (List.mem_cons_of_mem _ hq)
    have ih := b_list hcl hx hb hown hts hK hca hname hB hs0 hρ hsz hml hr hlocks hlsz hRf hRl hl hcall t
    have hnext : ∀ (sk9 : List xV) (w9 : List bC) (c9 n9 : Nat), brl call ls t sk9 w9 c9 n9 = some (wF, cF, nF) → t.head?.map (·.1) = some (pc0 + bln x.1) := fun sk9 w9 c9 n9 h9 => by
      cases t with
      | nil => cases h9
      | cons q2 t2 => exact congrArg some (nq_eq hnx)
    have hn9 : n0 ≤ H.size := Nat.le_trans hsz hS.1
    have hlow := b_low (ca := ca) (D := D) (w := w) hρ (by omega) hn9 hP
    unfold brl at h
    split at h
    · -- return_
      rename_i hi
      simp only at hi
      split at h
      · cases h
        rw [hi] at hd
        refine W_size (N := n0 + w.length) (by omega) hlow (fun hz => ?_)
        exact W.vret hx hb hr (fun t9 ht _ => ⟨⟨rfl, by rw [ht]; exact hP, by rw [ht]; exact hz⟩, hS.F ht⟩) hS.2.2 hd hlocks
      · cases h
    · -- invokespecial
      rename_i idx hi
      simp only at hi
      rw [hi] at hd
      have hlx2 := hlx.2
      rw [hi] at hlx2
      rw [hi] at hnext
      split at h
      · rename_i hl1
        simp only at hl1
        split at h
        · rename_i a rest
          split at h
          · rename_i hrl
            have hcat := bcat ρ rest
            exact W.objInit hx hb hown (hts _ (hlx2.1 hl1)) (hts _ bw_oi) (hts _ bw_oc) rfl (by rw [hml]; exact hlsz) rfl hd (by omega) (by
              have : 2 * (F0 m pc0 lsr (((.inr (.inr a) :: rest : List xV)).map (xc ρ))).monitorRoom + ((rest.map (xc ρ)).map fun v => v.category).sum ≤ 8 := lv_room (by omega)
              omega) (ih _ _ _ _ _ _ _ h hck hlt hwF hRc hRs H locs _ (hnext _ _ _ _ h) hP hS hcnt)
          · cases h
        · cases h
      · rename_i na cn hl1
        simp only at hl1
        split at h
        · rename_i a rest hdr
          split at h
          · rename_i hrl
            split at h
            · rename_i w' c' n' hcc
              have hw1 := hcl _ _ _ _ _ _ hcc
              have hlen2 := brl_len hcl ls _ _ _ _ _ _ _ _ h
              obtain ⟨M, hM, k1, k2, k3, k4, k5, k6, k7, k8⟩ := hlx2.2 (na, cn) (by rw [hl1]; exact List.mem_cons_self)
              have hMet := hcall _ _ _ _ _ _ hcc (by omega) M hM
              have hcat := bcat ρ rest
              have hst : sk = ((sk.take na).reverse).reverse ++ .inr (.inr a) :: rest := by rw [List.reverse_reverse, ← hdr, List.take_append_drop]
              have htk : (sk.take na).reverse.length = na := by rw [List.length_reverse, List.length_take]; omega
              have hcont : ∀ (H1 : Heap) (locs1 : List Loc), va_P D vcl (bWl ρ ca w' 0) H1 → va_S (xA n0) s.heap H1 locs1 → W p l e R s m args below meth c H1 locs1 (cells + c') (slots + n') (MQ below (bQc ρ ca D n0 wF) args s cF nF (xA n0)) (F0 m (pc0 + 3) lsr (rest.map (xc ρ))) := fun H1 locs1 hP1 hS1 => ih _ _ _ _ _ _ _ h hck hlt hwF hRc hRs H1 locs1 _ (hnext _ _ _ _ h) hP1 hS1 (by omega)
              have hstk : sk.map (xc ρ) = ((sk.take na).reverse.map (xc ρ)).reverse ++ .ref (ρ a) :: rest.map (xc ρ) := by
                have h7 : sk.map (xc ρ) = ((sk.take na).map (xc ρ)) ++ (.inr (.inr a) :: rest).map (xc ρ) := by rw [← hdr, ← List.map_append, List.take_append_drop]
                rw [h7, List.map_reverse, List.reverse_reverse]
                rfl
              refine W_size (N := n0 + w.length) (by omega) hlow (fun hz => ?_)
              have hpre : PreS s H (bPc ρ ca D tys n0 ST (.inr (.inr a) :: (sk.take na).reverse) w) (.ref (ρ a) :: (sk.take na).reverse.map (xc ρ)) := ⟨b_blind hB.1, b_pre hB.1 hsz hs0 hK hS hz hP⟩
              rcases k8 with ⟨-, k8⟩ | ⟨-, k8⟩
              · have hcb : CallB R s args own idx M.1 M.2.1 M.2.2.1 none (Cond.code M.1 M.2.1 M.2.2.1 none :: xtg) (brm d c' n') c' n' na := callB_of na hts (bgood k1) rfl rfl rfl (hts _ k2) (hts _ k8) ⟨k5.1, k5.2, k6⟩ ⟨by show d + 1 + 1 ≤ _; omega, by show 8 + (M.2.2.1 + 11) + (40 * d + 60) ≤ _; omega⟩
                exact b_run hS (va_runI (As := (sk.take na).reverse.map (xc ρ)) (rest := rest.map (xc ρ)) (b := ρ a) (g := F0 m pc0 lsr (sk.map (xc ρ))) ⟨hx, hb, hml, hown, hts⟩ hMet ⟨hcb, k3, hts _ k4⟩ hpre rfl (by rw [List.length_map]; exact htk) hlsz hstk (lv_room (by omega)) hd ⟨by omega, by omega⟩) hcont
              · have hcn : va_CN R s args own idx M.1 "PartMaker" M.2.1 M.2.2.1 none (Cond.code M.1 M.2.1 M.2.2.1 none :: xtg) (brm d c' n') c' n' na := va_cnB na hts (bgood k1) rfl rfl rfl (hB.2.2 s hs0 _ _ _ k8) (hts _ k2) ⟨k5.1, k5.2, k6⟩ ⟨by show d + 1 + 1 ≤ _; omega, by show 8 + (M.2.2.1 + 11) + (40 * d + 60) ≤ _; omega⟩
                exact b_run hS (va_runIN (As := (sk.take na).reverse.map (xc ρ)) (rest := rest.map (xc ρ)) (b := ρ a) (g := F0 m pc0 lsr (sk.map (xc ρ))) ⟨hx, hb, hml, hown, hts⟩ hMet ⟨hcn, k3, hts _ k4⟩ hpre rfl (by rw [List.length_map]; exact htk) hlsz hstk (lv_room (by omega)) hd ⟨by omega, by omega⟩) hcont
            · cases h
          · cases h
        · cases h
      · cases h
    · -- invokestatic
      rename_i idx hi
      simp only at hi
      rw [hi] at hd
      have hlx2 := hlx.2
      rw [hi] at hlx2
      rw [hi] at hnext
      split at h
      · rename_i v a rest
        split at h
        · rename_i hrl
          split at h
          · rename_i k z us hg
            split at h
            · rename_i hk9
              obtain ⟨t0, ht0⟩ := hca .int (by simp)
              have hcat := bcat ρ rest
              have hal : a < w.length := (List.getElem?_eq_some_iff.mp hg).1
              have hcb : CallB R s args own idx yJ7_fill_53178 cJ7_fill_53178 4 none (Cond.code yJ7_fill_53178 cJ7_fill_53178 4 none :: xtg) bf0 0 0 2 := callB_of 2 hts (bgood bw_fc) rfl rfl rfl (hts _ bw_fi) (hts _ hlx2) ⟨by decide, by decide, by decide +kernel⟩ ⟨by show 0 + 1 ≤ _; omega, by show 8 + (4 + 11) + 0 ≤ _; omega⟩
              have hone : va_P D vcl [(ρ a, .inl (ca .int, k, .inl (fun j : Nat => Int32.ofInt (bkk us z (j : Int).toNat))))] H := fun k9 q9 hq9 => by
                have a1 := (List.getElem?_eq_some_iff.mp hq9).1
                simp only [List.length_cons, List.length_nil] at a1
                rw [show k9 = 0 by omega] at hq9
                cases hq9
                exact hP a _ (bW_get hg)
              have hpre : PreS s H (va_Pc [.ref (ρ a), .int (Int32.ofInt v)] (fun U => va_K D vcl [(ca .int, .int)] U ∧ va_P D vcl [(ρ a, .inl (ca .int, k, .inl (fun j : Nat => Int32.ofInt (bkk us z (j : Int).toNat))))] U.heap)) [.ref (ρ a), .int (Int32.ofInt v)] := ⟨fun a9 U g mk h9 => ⟨h9.1, va_K.moved (u := U) (U := U.calling g mk a9) (Vm.Alike.refl _) h9.2.1, h9.2.2⟩, fun U hU hW => ⟨rfl, va_K.moved hW.alike ⟨hK.1, fun k9 q9 hq9 => by
                have a1 := (List.getElem?_eq_some_iff.mp hq9).1
                simp only [List.length_cons, List.length_nil] at a1
                rw [show k9 = 0 by omega] at hq9
                cases hq9
                exact hK.2 t0 _ ht0⟩, by rw [hU]; exact hone⟩⟩
              have hrun := va_runS (As := [.ref (ρ a), .int (Int32.ofInt v)]) (rest := rest.map (xc ρ)) (H := H) (locs := locs) (cells := cells) (slots := slots) (below := below) (meth := meth) (e := e) (g := F0 m pc0 lsr (.int (Int32.ofInt v) :: .ref (ρ a) :: rest.map (xc ρ))) ⟨hx, hb, hml, hown, hts⟩ (b_fill l (D := D) (a := ρ a) (n := k) (cA := ca .int) (f := fun j : Nat => Int32.ofInt (bkk us z (j : Int).toNat)) (v := Int32.ofInt v) (by omega)) ⟨hcb, hts _ bw_fs⟩ hpre rfl rfl hlsz rfl (lv_room (by omega)) hd ⟨by omega, by omega⟩
              intro T hT X
              obtain ⟨v9, st₀, t9, T', L, h0, X', hL, e1, e2, ⟨hv, hP1, hF⟩, st⟩ := hrun T hT X
              obtain ⟨j1, j2, j3⟩ := vx_keep h0 e1 hS (A1 := fun q => q = ρ a) (free := fun q => q = ρ a) (fun q9 _ z9 => by show n0 ≤ q9; rw [z9, hρ _ (by omega)]; omega) (fun q9 z9 => by show n0 ≤ q9; rw [z9, hρ _ (by omega)]; omega) hL hF
              cases hv
              have hPn : va_P D vcl (bWl ρ ca (w.set a (.inl (.int, k, v, []))) 0) T'.heap := by
                intro j q9 hq9
                have hjl := (List.getElem?_eq_some_iff.mp hq9).1
                rw [bWl_len, List.length_set] at hjl
                rw [bWl_get] at hq9
                obtain ⟨g, hg9, rfl⟩ := Option.map_eq_some_iff.mp hq9
                simp only [Nat.zero_add]
                by_cases e9 : j = a
                · subst e9
                  rw [List.getElem?_set_self hal] at hg9
                  cases hg9
                  have := hP1 0 _ rfl
                  rw [← e1] at this
                  exact this
                · rw [List.getElem?_set_ne (fun z9 => e9 z9.symm)] at hg9
                  have h8 := hP j _ (bW_get hg9)
                  exact h8.kept (j2 _ h8.lt (by show ¬ ρ j = ρ a; rw [hρ _ (by omega), hρ _ (by omega)]; omega))
              obtain ⟨t2, a1, b1⟩ := ih _ _ _ _ _ _ _ h hck hlt hwF hRc hRs T'.heap (locs ++ L) _ (hnext _ _ _ _ h) hPn j3 (by rw [List.length_set]; exact hcnt) T' rfl X'
              exact ⟨t2, st t2 a1, b1⟩
            · cases h
          · cases h
        · cases h
      · cases h
    · -- one step
      split at h
      · rename_i sk' w' c' n' hs
        have hlen2 := brl_len hcl ls _ _ _ _ _ _ _ _ h
        have hw1 := bs_len hs
        exact b_step hx hb hown hts hK hca (hB.2.1 s hs0) hρ hsz hl hd hlx.1 (fun _ => hname) hs (by omega) hP hS hcnt (by omega) (by omega) (fun H1 locs1 hP1 hS1 hc1 => ih _ _ _ _ _ _ _ h hck hlt hwF hRc hRs H1 locs1 _ (hnext _ _ _ _ h) hP1 hS1 hc1)
      · cases h
end BLIST
theorem bin0 : ∀ {as : List xV}, bnl as = true → (xin0 as).length = as.length ∧ ∀ (k : Nat) (v : xV), as[k]? = some v → (xin0 as)[k]? = some (some v)
  | [], _ => ⟨rfl, fun k v h => by cases h⟩
  | .inl z :: t, h => by
    simp only [bnl, List.all_cons, Bool.and_eq_true] at h
    obtain ⟨h1, h2⟩ := bin0 (as := t) h.2
    refine ⟨by simp [xin0, h1], fun k v hk => ?_⟩
    cases k with
    | zero => cases hk; rfl
    | succ k => exact h2 k v hk
  | .inr (.inr a) :: t, h => by
    simp only [bnl, List.all_cons, Bool.and_eq_true] at h
    obtain ⟨h1, h2⟩ := bin0 (as := t) h.2
    refine ⟨by simp [xin0, h1], fun k v hk => ?_⟩
    cases k with
    | zero => cases hk; rfl
    | succ k => exact h2 k v hk
  | .inr (.inl z) :: t, h => by
    simp [bnl, xlong] at h
theorem b_sound {l : Launch} {D : va_G} {tys : List (ClassId × FieldType)} {ρ : Nat → Nat} {ca : FieldType → ClassId} {n0 : Nat} {ST : State → Prop} {BT : List bM} (hBT : bMok BT) (hca : xcaok ca tys) (hB : bST n0 ST) (hρ : ∀ k, k < 1000 → ρ k = n0 + k) :
    ∀ (d cn : Nat) (as : List xV) (w w' : List bC) (c' n' : Nat), brn BT d cn as w = some (w', c', n') → w'.length < 1000 → ∀ M, BT[cn]? = some M → Met l M.1 (Cond.code M.1 M.2.1 M.2.2.1 none :: xtg) (brm d c' n') (bPc ρ ca D tys n0 ST as w) (bQc ρ ca D n0 w') c' n' (xA n0)
  | 0, _, _, _, _, _, _, h => by cases h
  | d + 1, cn, as, w, w', c', n', h => by
    intro hw' M hM
    unfold brn at h
    rw [hM] at h
    simp only at h
    split at h
    · rename_i has
      obtain ⟨b1, b2, b3, b4, b5⟩ := hBT cn M hM
      obtain ⟨hi1, hi2⟩ := bin0 has.1
      refine Met.ofW (cc := M.2.1) (maxL := M.2.2.1) (ret := none) b1 rfl ?_
      intro p e s m args below meth c s₁ B hml hv
      obtain ⟨rfl, hK, hs0, hz, hP⟩ := hv
      have hts0 := atoms_spec (ws := Cond.code M.1 M.2.1 M.2.2.1 none :: xtg) B.pre
      have fit : (xin0 as).length ≤ M.2.2.1 := by rw [hi1]; exact has.2
      have hl0 := xini_has ρ fit
      rw [lg_entry_eq]
      exact b_list (d := d) (ls := as) (brn_len BT d) B.exec B.bytes (findClass_of_methodNamed B.named) (fun w hw => hts0 w (List.mem_cons_of_mem _ hw)) hK hca ((name_of_methodNamed B.named B.method).1.trans b2) hB hs0 hρ (by omega) hml B.returns B.notSynchronized hl0.1 (by show d + 2 ≤ d + 1 + 1; omega) (by show 40 * d + 100 ≤ 40 * (d + 1) + 60; omega)
        (fun k v hk => by
          refine xLc_at hl0 ?_
          unfold xini
          rw [List.getElem?_append_left (by rw [hi1]; exact (List.getElem?_eq_some_iff.mp hk).1)]
          exact hi2 k v hk)
        (fun cn as w w' c' n' h9 hw9 M9 hM9 => b_sound hBT hca hB hρ d cn as w w' c' n' h9 hw9 M9 hM9) M.2.2.2 [] w 0 0 w' c' n' h b4 b5 hw' (Nat.le_refl _) (Nat.le_refl _) s.heap [] 0 b3 hP va_S.rf (by omega)
    · cases h
