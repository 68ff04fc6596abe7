section XCALL2
variable {p : Program} {l : Launch} {e : Env} {R : Room} {s : State} {m : MethodId} {args : Array Value} {below : List Frame} {meth : Method} {c : Code} {Z : State → Prop} {own : String} {cc : ByteArray} {nL : Nat} {pcs : List Nat} {D : va_G} {cl : List vw_C} {tys : List (ClassId × FieldType)} {ρ : Nat → Nat} {ca : FieldType → ClassId} {G : List xS} {cd : List xI} {mc ms : Nat} {MT : List xMt} {b i : Nat} {ls : xL} {sk : List xV} {h : xH} {x : xI} {sz0 : Nat} {ST : State → Prop} {d b1 b2 : Nat}
theorem xcat_sum (ρ : Nat → Nat) : ∀ rest : List xV, ((rest.map (xc ρ)).map fun v => v.category).sum = (rest.map xcat).sum
  | [] => rfl
  | v :: t => by
    have hv : (xc ρ v).category = xcat v := by rcases v with z | z | a <;> rfl
    simp only [List.map_cons, List.sum_cons, hv, xcat_sum ρ t]
theorem xmap_toList (ρ : Nat → Nat) (v : Option xV) (rest : List xV) : (v.map (xc ρ)).toList ++ rest.map (xc ρ) = (v.toList ++ rest).map (xc ρ) := by
  cases v <;> rfl
set_option maxHeartbeats 2000000 in
theorem x_callS (hx : p.tables.exec = Jvm.exec) (hb : c.code = cc) (hown : s.vm.findClass own = some m.cls) (hts : ∀ w ∈ xtg, w.before args s = true) (hK : va_K D cl tys s) (hok : ∀ (i : Nat) (x : xI), cd[i]? = some x → xok MT cl own cc nL pcs i x) (hcl : xclok cl) (hG : xGok cl G) (hca : xcaok ca tys) (hml : c.maxLocals = nL) (hsz : sz0 ≤ s.heap.size) (hs0 : ST s) (hST : xSTok sz0 ST) (hdec : xDec ST) (hDD : ∀ h : xH, va_D (xA sz0) (xWl ρ ca h G 0)) (hRf : d + 9 ≤ R.frames) (hRl : 60 * d + 260 ≤ R.locals) (hRc : mc ≤ R.cells) (hRs : ms ≤ R.slots) {k mm : Nat} {rest : List xV} {Q' : xO → xH → Prop} {as : List xV} {t0 : Nat} (hc : cd[i]? = some x) (hi : x.1 = .invokestatic k) (hx1 : x.2.2.1 = [(t0, mm)]) (has : as.length = x.2.1.toNat) (hw : (rest.map xcat).sum ≤ 8)
    (hM : ∀ M, MT[mm]? = some M → vx_Met l M.1 (xws M) (xrm d b1) (xPc ρ ca G D cl tys sz0 ST as h) (xQc ρ ca G D cl sz0 Q') (xXC ρ ca G D cl sz0 Q') b1 (6 * b1) (xA sz0))
    (hk : ∀ (v : Option xV) (h' : xH), Q' (.inl v) h' → xP p l e R s m args below meth c Z nL pcs D cl (xA sz0) ρ ca G mc ms b2 (i + 1) ls (v.toList ++ rest) h') (hxk : ∀ (E : String) (h' : xH), Q' (.inr E) h' → ∀ (pc : Nat) (lsr : Array Slot) (H : Heap) (locs : List Loc) (cells slots : Nat) (q9 : Addr) (ce : Cell), pcs[i]? = some pc → lv_has lsr nL (xLc ρ ls 0) → va_P D cl (xWl ρ ca h' G 0) H → va_S (xA sz0) s.heap H locs → cells + b2 ≤ mc → slots + 6 * b2 ≤ ms → H[q9]? = some ce → ce.vm = .none → s.vm.findClass E = some ce.cls → vx_W p l e R s m args below meth c H locs cells slots Z (F0 m pc lsr (rest.map (xc ρ))) q9) : xP p l e R s m args below meth c Z nL pcs D cl (xA sz0) ρ ca G mc ms (b1 + b2) i ls (as.reverse ++ rest) h := by
  intro pc lsr H locs cells slots hpc hn hl hP hD hS hb1 hb2
  obtain ⟨pc0, hpc0, ho⟩ := hok i x hc
  cases hpc0.symm.trans hpc
  rw [hi] at ho
  obtain ⟨hd, hn1⟩ := ho
  unfold xlnk at hn1
  rw [hi] at hn1
  obtain ⟨-, -, -, hq, hn1⟩ := hn1
  obtain ⟨M, hMT, ⟨hcode, hini, hpl, hnoH, hpar, hmx⟩, hlink, hstat⟩ := hq (t0, mm) (by rw [hx1]; exact List.mem_cons_self)
  have hcb : CallB R s args own k M.1 M.2.1 M.2.2.1 M.2.2.2.1 (xws M) (xrm d b1) b1 (6 * b1) x.2.1.toNat := callB_of x.2.1.toNat hts (x_good M hcode) rfl rfl rfl (hts _ hini) (hts _ hlink) ⟨hnoH.1, hnoH.2, hpar⟩ ⟨by show d + 8 + 1 ≤ _; omega, by show 8 + (M.2.2.1 + 11) + (60 * d + 200) ≤ _; omega⟩
  have hr := vx_runS (As := as.map (xc ρ)) (rest := rest.map (xc ρ)) (g := F0 m pc lsr ((as.reverse ++ rest).map (xc ρ))) (H := H) (locs := locs) (cells := cells) (slots := slots) (below := below) (meth := meth) (e := e) ⟨hx, hb, hml, hown, hts⟩ (hM M hMT) ⟨hcb, hts _ hstat⟩ ⟨x_blind hST, x_pre hST hsz hs0 hK hS hP⟩ rfl (by rw [List.length_map]; exact has) hl.1 (by simp [List.map_append, List.map_reverse]) (lv_room (by rw [xcat_sum]; exact hw)) hd ⟨by omega, by omega⟩
  refine x_run hS hr (fun v h' H1 locs1 hq1 hP1 hS1 => ?_) (fun E h' H1 locs1 q9 ce hq1 hP1 hS1 hce hcv hcl1 => ?_)
  · rw [xmap_toList]
    exact hk v h' hq1 _ _ _ _ _ _ hn1 hn hl hP1 (hDD h') hS1 (by omega) (by omega)
  · exact hxk E h' hq1 _ _ _ _ _ _ q9 ce hpc hl hP1 hS1 (by omega) (by omega) hce hcv hcl1
set_option maxHeartbeats 2000000 in
theorem x_callV (hx : p.tables.exec = Jvm.exec) (hb : c.code = cc) (hown : s.vm.findClass own = some m.cls) (hts : ∀ w ∈ xtg, w.before args s = true) (hK : va_K D cl tys s) (hok : ∀ (i : Nat) (x : xI), cd[i]? = some x → xok MT cl own cc nL pcs i x) (hcl : xclok cl) (hG : xGok cl G) (hca : xcaok ca tys) (hml : c.maxLocals = nL) (hsz : sz0 ≤ s.heap.size) (hs0 : ST s) (hST : xSTok sz0 ST) (hdec : xDec ST) (hDD : ∀ h : xH, va_D (xA sz0) (xWl ρ ca h G 0)) (hRf : d + 9 ≤ R.frames) (hRl : 60 * d + 260 ≤ R.locals) (hRc : mc ≤ R.cells) (hRs : ms ≤ R.slots) {k mm : Nat} {rest : List xV} {Q' : xO → xH → Prop} {as0 as : List xV} {a ci : Nat} {fs : List (FieldType ⊕ Nat)} (hc : cd[i]? = some x) (hi : x.1 = .invokevirtual k) (hg : G[a]? = some (.inr (.inr (ci, fs)))) (hx1 : (ci, mm) ∈ x.2.2.1) (has0 : as0.length = x.2.1.toNat) (has : as = .inr (.inr a) :: as0) (hw : (rest.map xcat).sum ≤ 8)
    (hM : ∀ M, MT[mm]? = some M → vx_Met l M.1 (xws M) (xrm d b1) (xPc ρ ca G D cl tys sz0 ST as h) (xQc ρ ca G D cl sz0 Q') (xXC ρ ca G D cl sz0 Q') b1 (6 * b1) (xA sz0))
    (hk : ∀ (v : Option xV) (h' : xH), Q' (.inl v) h' → xP p l e R s m args below meth c Z nL pcs D cl (xA sz0) ρ ca G mc ms b2 (i + 1) ls (v.toList ++ rest) h') (hU : x.2.2.2.head? = some 1 → ∀ (E : String) (h' : xH), ¬ Q' (.inr E) h') (hxk : ∀ (E : String) (h' : xH), Q' (.inr E) h' → ∀ (pc : Nat) (lsr : Array Slot) (H : Heap) (locs : List Loc) (cells slots : Nat) (q9 : Addr) (ce : Cell), pcs[i]? = some pc → lv_has lsr nL (xLc ρ ls 0) → va_P D cl (xWl ρ ca h' G 0) H → va_S (xA sz0) s.heap H locs → cells + b2 ≤ mc → slots + 6 * b2 ≤ ms → H[q9]? = some ce → ce.vm = .none → s.vm.findClass E = some ce.cls → vx_W p l e R s m args below meth c H locs cells slots Z (F0 m pc lsr (rest.map (xc ρ))) q9) : xP p l e R s m args below meth c Z nL pcs D cl (xA sz0) ρ ca G mc ms (b1 + b2) i ls (as0.reverse ++ .inr (.inr a) :: rest) h := by
  intro pc lsr H locs cells slots hpc hn hl hP hD hS hb1 hb2
  obtain ⟨pc0, hpc0, ho⟩ := hok i x hc
  cases hpc0.symm.trans hpc
  subst has
  rw [hi] at ho
  obtain ⟨hd, hn1⟩ := ho
  unfold xlnk at hn1
  rw [hi] at hn1
  obtain ⟨hq, hn1⟩ := hn1
  obtain ⟨M, r, hMT, hr9, ⟨hcode, hini, hpl, hnoH, hpar, hmx⟩, hinst, hkind⟩ := hq _ hx1
  have hrm : (xrm d b1).frames + 1 ≤ R.frames ∧ 8 + (M.2.2.1 + 11) + (xrm d b1).locals ≤ R.locals := ⟨by show d + 8 + 1 ≤ _; omega, by show 8 + (M.2.2.1 + 11) + (60 * d + 200) ≤ _; omega⟩
  have hrec := va_recv hK hP hr9 (xW_get hg)
  have hstk : ((as0.reverse ++ .inr (.inr a) :: rest).map (xc ρ)) = (as0.map (xc ρ)).reverse ++ .ref (ρ a) :: rest.map (xc ρ) := by simp [List.map_append, List.map_reverse, xc]
  have hpre : PreV s H r.1 (ρ a) (xPc ρ ca G D cl tys sz0 ST (.inr (.inr a) :: as0) h) (as0.map (xc ρ)) := ⟨x_blind hST, hrec, x_pre hST hsz hs0 hK hS hP⟩
  have hgood := x_good M hcode
  have hone : ∀ w ∈ xtg, w ∈ xtg ∧ ((w.onTables && w.keeps) = true ∨ ∃ ty, w = .arrayClass ty) := fun w hm => ⟨hm, good_of_word (List.mem_filter.mp hm).2⟩
  rcases hkind with ⟨hfl, hlink, hsel⟩ | ⟨hfl, xn, owner, hlink, hsame, hsel, hno2, hdesc, hdecl⟩
  · have hcb : CallB R s args own k M.1 M.2.1 M.2.2.1 M.2.2.2.1 (xws M) (xrm d b1) b1 (6 * b1) x.2.1.toNat := callB_of x.2.1.toNat hts hgood rfl rfl rfl (hts _ hini) (hts _ hlink) ⟨hnoH.1, hnoH.2, hpar⟩ hrm
    have hr := vx_runV (As := as0.map (xc ρ)) (rest := rest.map (xc ρ)) (b := ρ a) (C := r.1) (g := F0 m pc lsr ((as0.reverse ++ .inr (.inr a) :: rest).map (xc ρ))) (H := H) (locs := locs) (cells := cells) (slots := slots) (below := below) (meth := meth) (e := e) ⟨hx, hb, hml, hown, hts⟩ (hM M hMT) ⟨hcb, hts _ hinst, hts _ hsel⟩ hpre rfl (by rw [List.length_map]; exact has0) hl.1 hstk (lv_room (by rw [xcat_sum]; exact hw)) hd ⟨by omega, by omega⟩
    refine x_run hS hr (fun v h' H1 locs1 hq1 hP1 hS1 => ?_) (fun E h' H1 locs1 q9 ce hq1 hP1 hS1 hce hcv hcl1 => ?_)
    · rw [xmap_toList]
      exact hk v h' hq1 _ _ _ _ _ _ hn1 hn hl hP1 (hDD h') hS1 (by omega) (by omega)
    · exact hxk E h' hq1 _ _ _ _ _ _ q9 ce hpc hl hP1 hS1 (by omega) (by omega) hce hcv hcl1
  · have hnx := hU hfl
    have hdc : va_Decl s ⟨owner, xn.name, xn.desc⟩ := by
      rcases hdecl with ⟨h1, b0, m0, r0, h2⟩ | h1
      · exact va_Decl.of (hts _ h1) (hts _ h2)
      · exact va_Decl.abs (hdec s hs0 _ h1)
    have hcu : va_CU R s args own r.1 owner k xn M.1 M.2.1 M.2.2.1 M.2.2.2.1 (xws M) (xrm d b1) b1 (6 * b1) x.2.1.toNat := by
      refine ⟨⟨rfl, rfl, hrm.1, hrm.2, pay_in hts hgood, List.mem_cons_self⟩, hts _ hcode, hts _ hini, hno2, fun sig h9 => ?_, hts _ hlink, hts _ hsame, hdc, hts _ hsel, hts _ hinst⟩
      rw [hdesc] at h9
      rw [h9] at hpar
      exact (Option.some.inj hpar).symm
    have hr := va_runU (As := as0.map (xc ρ)) (rest := rest.map (xc ρ)) (b := ρ a) (C := r.1) (g := F0 m pc lsr ((as0.reverse ++ .inr (.inr a) :: rest).map (xc ρ))) (H := H) (locs := locs) (cells := cells) (slots := slots) (below := below) (meth := meth) (e := e) ⟨hx, hb, hml, hown, hts⟩ (x_noX (hM M hMT) (fun E st t z => by obtain ⟨⟨h', z, -⟩, -⟩ := z; exact hnx E h' z)) hcu hpre rfl (by rw [List.length_map]; exact has0) hl.1 hstk (lv_room (by rw [xcat_sum]; exact hw)) hd ⟨by omega, by omega⟩
    refine x_runM hS hr (fun v h' H1 locs1 hq1 hP1 hS1 => ?_)
    rw [xmap_toList]
    exact hk v h' hq1 _ _ _ _ _ _ hn1 hn hl hP1 (hDD h') hS1 (by omega) (by omega)
theorem x_call (hx : p.tables.exec = Jvm.exec) (hb : c.code = cc) (hown : s.vm.findClass own = some m.cls) (hts : ∀ w ∈ xtg, w.before args s = true) (hK : va_K D cl tys s) (hok : ∀ (i : Nat) (x : xI), cd[i]? = some x → xok MT cl own cc nL pcs i x) (hcl : xclok cl) (hG : xGok cl G) (hca : xcaok ca tys) (hml : c.maxLocals = nL) (hsz : sz0 ≤ s.heap.size) (hs0 : ST s) (hST : xSTok sz0 ST) (hdec : xDec ST) (hDD : ∀ h : xH, va_D (xA sz0) (xWl ρ ca h G 0)) (hRf : d + 9 ≤ R.frames) (hRl : 60 * d + 260 ≤ R.locals) (hRc : mc ≤ R.cells) (hRs : ms ≤ R.slots) {mm : Nat} {rest : List xV} {Q' : xO → xH → Prop} {as : List xV} (hc : cd[i]? = some x) (hs : xcl G x sk = some (mm, as, rest)) (hw : (rest.map xcat).sum ≤ 8)
    (hM : ∀ M, MT[mm]? = some M → vx_Met l M.1 (xws M) (xrm d b1) (xPc ρ ca G D cl tys sz0 ST as h) (xQc ρ ca G D cl sz0 Q') (xXC ρ ca G D cl sz0 Q') b1 (6 * b1) (xA sz0))
    (hk : ∀ (v : Option xV) (h' : xH), Q' (.inl v) h' → xP p l e R s m args below meth c Z nL pcs D cl (xA sz0) ρ ca G mc ms b2 (i + 1) ls (v.toList ++ rest) h') (hU : x.2.2.2.head? = some 1 → ∀ (E : String) (h' : xH), ¬ Q' (.inr E) h') (hxk : ∀ (E : String) (h' : xH), Q' (.inr E) h' → ∀ (pc : Nat) (lsr : Array Slot) (H : Heap) (locs : List Loc) (cells slots : Nat) (q9 : Addr) (ce : Cell), pcs[i]? = some pc → lv_has lsr nL (xLc ρ ls 0) → va_P D cl (xWl ρ ca h' G 0) H → va_S (xA sz0) s.heap H locs → cells + b2 ≤ mc → slots + 6 * b2 ≤ ms → H[q9]? = some ce → ce.vm = .none → s.vm.findClass E = some ce.cls → vx_W p l e R s m args below meth c H locs cells slots Z (F0 m pc lsr (rest.map (xc ρ))) q9) : xP p l e R s m args below meth c Z nL pcs D cl (xA sz0) ρ ca G mc ms (b1 + b2) i ls sk h := by
  unfold xcl at hs
  split at hs
  · rename_i k hi
    split at hs
    · rename_i hlen
      split at hs
      · rename_i t0 m0 hx1
        cases hs
        have e : sk = ((sk.take x.2.1.toNat).reverse).reverse ++ sk.drop x.2.1.toNat := by rw [List.reverse_reverse, List.take_append_drop]
        rw [e]
        exact x_callS hx hb hown hts hK hok hcl hG hca hml hsz hs0 hST hdec hDD hRf hRl hRc hRs hc hi hx1 (by rw [List.length_reverse, List.length_take]; omega) hw hM hk hxk
      · cases hs
    · cases hs
  · rename_i k hi
    split at hs
    · rename_i a rest9 hdrop
      split at hs
      · rename_i ci fs hg
        cases hlk : xlk x.2.2.1 ci with
        | none => rw [hlk] at hs; cases hs
        | some m0 =>
          rw [hlk] at hs
          cases hs
          have e : sk = ((sk.take x.2.1.toNat).reverse).reverse ++ .inr (.inr a) :: rest := by rw [List.reverse_reverse, ← hdrop, List.take_append_drop]
          have hlt : x.2.1.toNat < sk.length := by
            rcases Nat.lt_or_ge x.2.1.toNat sk.length with q | q
            · exact q
            · rw [List.drop_eq_nil_of_le q] at hdrop; cases hdrop
          rw [e]
          exact x_callV hx hb hown hts hK hok hcl hG hca hml hsz hs0 hST hdec hDD hRf hRl hRc hRs hc hi hg (xlk_mem hlk) (by rw [List.length_reverse, List.length_take]; omega) rfl hw hM hk hU hxk
      · cases hs
    · cases hs
  · cases hs
end XCALL2
