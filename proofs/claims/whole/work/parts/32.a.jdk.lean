/-! the JDK's String.length and String.charAt, of string constants -/
def jrm (n : Nat) : Room := { frames := n, cells := 0, slots := 0, locals := 40 * n }
def jQ (r : Option Value) : Array Value → State → Outcome → State → Prop := fun _ st o t => o = .returned r ∧ t.heap = st.heap
def jC (sz0 : Nat) (U : State) : Prop := va_Z "java/lang/String" "COMPACT_STRINGS" "Z" (.int 1) (xA sz0) U U.heap ∧ va_Zq "jdk/internal/util/Preconditions" "SIOOBE_FORMATTER" "Ljava/util/function/BiFunction;" (xA sz0) U U.heap
def jS (sz0 q v : Nat) (bs : List Int) (U : State) : Prop := va_O "java/lang/String" q (xA sz0) U U.heap ∧ va_OF "java/lang/String" "coder" "B" (.int 0) q (xA sz0) U U.heap ∧ va_OF "java/lang/String" "value" "[B" (.ref v) q (xA sz0) U U.heap ∧ va_T .byte v bs.length (fun i => .int (Int32.ofInt (bs.getD i 0))) (xA sz0) U U.heap
def jF (sz0 q v : Nat) (bs : List Int) (U : State) : Prop := sz0 ≤ U.heap.size ∧ jC sz0 U ∧ jS sz0 q v bs U
theorem jC_mv {sz0 : Nat} {u U : State} (hv : u.vm.Alike U.vm) (hq : ∀ q : Nat, q < sz0 → U.heap[q]? = u.heap[q]?) (h : jC sz0 u) : jC sz0 U :=
  ⟨(va_Z.moved hv h.1).kept (fun a _ h1 => hq a (Nat.not_le.mp h1)), (va_Zq.moved hv h.2).kept (fun a _ h1 => hq a (Nat.not_le.mp h1))⟩
theorem jS_mv {sz0 q v : Nat} {bs : List Int} {u U : State} (hv : u.vm.Alike U.vm) (hq : ∀ q : Nat, q < sz0 → U.heap[q]? = u.heap[q]?) (h : jS sz0 q v bs u) : jS sz0 q v bs U :=
  ⟨(va_O.moved hv h.1).kept (fun a _ h1 => hq a (Nat.not_le.mp h1)), (va_OF.moved hv h.2.1).kept (fun a _ h1 => hq a (Nat.not_le.mp h1)), (va_OF.moved hv h.2.2.1).kept (fun a _ h1 => hq a (Nat.not_le.mp h1)), (va_T.moved hv h.2.2.2).kept (fun a _ h1 => hq a (Nat.not_le.mp h1))⟩
theorem jF_mv {sz0 q v : Nat} {bs : List Int} {u U : State} (hv : u.vm.Alike U.vm) (hs : sz0 ≤ U.heap.size) (hq : ∀ q : Nat, q < sz0 → U.heap[q]? = u.heap[q]?) (h : jF sz0 q v bs u) : jF sz0 q v bs U := ⟨hs, jC_mv hv hq h.2.1, jS_mv hv hq h.2.2⟩
theorem jF_b {sz0 q v : Nat} {bs : List Int} (a : Array Value) (U : State) (g : JFrame) (mk : MethodId) (h : jF sz0 q v bs U) : jF sz0 q v bs (U.calling g mk a) := jF_mv (u := U) (U := U.calling g mk a) (Vm.Alike.refl _) h.1 (fun _ _ => rfl) h
/-- at a call out of a run: heap and tables as they have become -/
theorem jF_at {sz0 q v : Nat} {bs : List Int} {s : State} {H : Heap} {locs : List Loc} (h : jF sz0 q v bs s) (hS : va_S (xA sz0) s.heap H locs) (U : State) (hU : U.heap = H) (hW : s.WarmedH U.vm) : jF sz0 q v bs U :=
  jF_mv hW.alike (by rw [hU]; exact Nat.le_trans h.1 hS.1) (fun a ha => by rw [hU]; exact hS.2.1 a (Nat.lt_of_lt_of_le ha h.1) (Nat.not_le.mpr ha)) h
abbrev jW (y : MethodName) (cc : ByteArray) (nL : Nat) (ret : Option FieldType) : List Cond := Cond.code y cc nL ret :: xtg
def jM (l : Launch) (y : MethodName) (cc : ByteArray) (nL : Nat) (ret : Option FieldType) (n : Nat) (as : List Value) (F : State → Prop) (r : Option Value) : Prop := Met l y (jW y cc nL ret) (jrm n) (va_Pc as F) (jQ r) 0 0 (fun _ => False)
theorem j_of {l : Launch} {y : MethodName} {cc : ByteArray} {nL : Nat} {ret : Option FieldType} {n : Nat} {as : List Value} {F : State → Prop} {r : Option Value} (hy : plainName y.cls = true) (hlen : (lg_sl as).length ≤ nL)
    (body : ∀ (p : Program) (e : Env) (R : Room) (s : State) (m : MethodId) (args : Array Value) (below : List Frame) (meth : Method) (c : Code) (lsr : Array Slot), p.tables.exec = Jvm.exec → c.code = cc → c.maxLocals = nL → meth.sig.returnType = ret → meth.locks = false → (∀ w ∈ xtg, w.before args s = true) → s.vm.findClass y.cls = some m.cls → n ≤ R.frames → 40 * n ≤ R.locals → lv_has lsr nL (lv_args 0 as) → F s → W p l e R s m args below meth c s.heap [] 0 0 (MQ below (jQ r) args s 0 0 (fun _ => False)) (F0 m 0 lsr [])) : jM l y cc nL ret n as F r := by
  refine Met.ofW (cc := cc) (maxL := nL) (ret := ret) hy rfl ?_
  intro p e s m args below meth c s₁ B hml hv
  obtain ⟨rfl, hF⟩ := hv
  have hts0 := atoms_spec (ws := jW y cc nL ret) B.pre
  rw [lg_entry_eq]
  exact body p e _ s m _ below meth c _ B.exec B.bytes hml B.returns B.notSynchronized (fun w hw => hts0 w (List.mem_cons_of_mem _ hw)) (findClass_of_methodNamed B.named) (Nat.le_refl _) (Nat.le_refl _) (lv_entry as hlen) hF
section JCALL
variable {p : Program} {l : Launch} {e : Env} {R : Room} {s : State} {m : MethodId} {args : Array Value} {below : List Frame} {meth : Method} {c : Code} {H : Heap} {locs : List Loc} {cells slots : Nat} {Z : State → Prop} {cc : ByteArray} {nL pc : Nat} {lsr : Array Slot} {rest : List Value} {own : String} {y : MethodName} {cy : ByteArray} {ny n k : Nat} {ry : Option FieldType} {As : List Value} {F : State → Prop} {r : Option Value}
theorem j_run {a : Array Value} {g : JFrame} (hr : CallRun p l e R s m args below meth c H locs cells slots 0 0 g rest (jQ r a) (fun _ => False)) (kk : W p l e R s m args below meth c H locs cells slots Z { g with pc := g.pc + 3, stack := r.toList ++ rest }) : W p l e R s m args below meth c H locs cells slots Z g := by
  intro T hT X
  obtain ⟨v, st₀, t, T', L, h0, X', hL, e1, ⟨hv, hh⟩, st⟩ := hr T hT X
  cases hv
  obtain ⟨t2, a1, b1⟩ := kk T' (by rw [e1, hh, h0]) (Stand.forget X' (fun q h => (hL q h).elim))
  exact ⟨t2, st t2 a1, b1⟩
/-- what a call of such a method asks of the tables -/
def jlk (own : String) (k : Nat) (y : MethodName) (cy : ByteArray) (ny : Nat) (ry : Option FieldType) (n : Nat) : Prop := Cond.code y cy ny ry ∈ xtg ∧ Cond.initialized y.cls ∈ xtg ∧ Cond.methodLink own k y ∈ xtg ∧ xnoH y.cls ∧ (parseMethodDescriptor y.desc).map (fun d => d.parameters.length) = some n
theorem j_callS (hx : p.tables.exec = Jvm.exec) (hb : c.code = cc) (hml : c.maxLocals = nL) (hown : s.vm.findClass own = some m.cls) (hts : ∀ w ∈ xtg, w.before args s = true) (hM : jM l y cy ny ry n As F r) (hlk : jlk own k y cy ny ry As.length) (hst : Cond.static y ∈ xtg) (hFb : ∀ (a : Array Value) (U : State) (g : JFrame) (mk : MethodId), F U → F (U.calling g mk a)) (hF : ∀ U : State, U.heap = H → s.WarmedH U.vm → F U) (hRf : n + 1 ≤ R.frames) (hRl : 8 + (ny + 11) + 40 * n ≤ R.locals) (hc1 : cells ≤ R.cells) (hc2 : slots ≤ R.slots) (hsz : lsr.size = nL) (hw : (rest.map fun v => v.category).sum ≤ 8) (hd : decode cc pc = .ok (.invokestatic k, 3))
    (kk : W p l e R s m args below meth c H locs cells slots Z (F0 m (pc + 3) lsr (r.toList ++ rest))) : W p l e R s m args below meth c H locs cells slots Z (F0 m pc lsr (As.reverse ++ rest)) := by
  obtain ⟨hcode, hini, hlink, hno, hpar⟩ := hlk
  have hcb : CallB R s args own k y cy ny ry (jW y cy ny ry) (jrm n) 0 0 As.length := callB_of As.length hts (x_good (y, cy, ny, ry, [], []) hcode) rfl rfl rfl (hts _ hini) (hts _ hlink) ⟨hno.1, hno.2, hpar⟩ ⟨hRf, hRl⟩
  exact j_run (W.runS (As := As) (rest := rest) (g := F0 m pc lsr (As.reverse ++ rest)) ⟨hx, hb, hml, hown, hts⟩ hM ⟨hcb, hts _ hst⟩ ⟨fun a U g mk h => ⟨h.1, hFb a U g mk h.2⟩, fun U hU hW => ⟨rfl, hF U hU hW⟩⟩ rfl rfl hsz rfl (lv_room hw) hd ⟨by omega, by omega⟩) kk
theorem j_callV {C : String} {q : Nat} (hx : p.tables.exec = Jvm.exec) (hb : c.code = cc) (hml : c.maxLocals = nL) (hown : s.vm.findClass own = some m.cls) (hts : ∀ w ∈ xtg, w.before args s = true) (hM : jM l y cy ny ry n (.ref q :: As) F r) (hlk : jlk own k y cy ny ry As.length) (hin : Cond.instanceMethod y ∈ xtg) (hse : Cond.selects C y y ∈ xtg) (hrec : ∃ cell : Cell, H[q]? = some cell ∧ cell.vm.isStatics = false ∧ s.vm.findClass C = some cell.cls) (hFb : ∀ (a : Array Value) (U : State) (g : JFrame) (mk : MethodId), F U → F (U.calling g mk a)) (hF : ∀ U : State, U.heap = H → s.WarmedH U.vm → F U) (hRf : n + 1 ≤ R.frames) (hRl : 8 + (ny + 11) + 40 * n ≤ R.locals) (hc1 : cells ≤ R.cells) (hc2 : slots ≤ R.slots) (hsz : lsr.size = nL) (hw : (rest.map fun v => v.category).sum ≤ 8) (hd : decode cc pc = .ok (.invokevirtual k, 3))
    (kk : W p l e R s m args below meth c H locs cells slots Z (F0 m (pc + 3) lsr (r.toList ++ rest))) : W p l e R s m args below meth c H locs cells slots Z (F0 m pc lsr (As.reverse ++ .ref q :: rest)) := by
  obtain ⟨hcode, hini, hlink, hno, hpar⟩ := hlk
  have hcb : CallB R s args own k y cy ny ry (jW y cy ny ry) (jrm n) 0 0 As.length := callB_of As.length hts (x_good (y, cy, ny, ry, [], []) hcode) rfl rfl rfl (hts _ hini) (hts _ hlink) ⟨hno.1, hno.2, hpar⟩ ⟨hRf, hRl⟩
  exact j_run (W.runV (As := As) (b := q) (rest := rest) (g := F0 m pc lsr (As.reverse ++ .ref q :: rest)) ⟨hx, hb, hml, hown, hts⟩ hM ⟨hcb, hts _ hin, hts _ hse⟩ ⟨fun a U g mk h => ⟨h.1, hFb a U g mk h.2⟩, hrec, fun U hU hW => ⟨rfl, hF U hU hW⟩⟩ rfl rfl hsz rfl (lv_room hw) hd ⟨by omega, by omega⟩) kk
end JCALL
def jlny : MethodName := ⟨"java/lang/String", "length", "()I"⟩
theorem jln_c : Cond.code jlny prog_28_method_54_code 1 (some .int) ∈ xtg := xtg_of 753 (by decide +kernel) (by decide +kernel)
theorem jln_i : Cond.initialized jlny.cls ∈ xtg := xtg_of 102 (by decide +kernel) (by decide +kernel)
def jcdy : MethodName := ⟨"java/lang/String", "coder", "()B"⟩
theorem jcd_c : Cond.code jcdy prog_28_method_152_code 1 (some .byte) ∈ xtg := xtg_of 757 (by decide +kernel) (by decide +kernel)
theorem jcd_i : Cond.initialized jcdy.cls ∈ xtg := xtg_of 102 (by decide +kernel) (by decide +kernel)
def jchy : MethodName := ⟨"java/lang/String", "charAt", "(I)C"⟩
theorem jch_c : Cond.code jchy prog_28_method_56_code 2 (some .char) ∈ xtg := xtg_of 1354 (by decide +kernel) (by decide +kernel)
theorem jch_i : Cond.initialized jchy.cls ∈ xtg := xtg_of 102 (by decide +kernel) (by decide +kernel)
def jily : MethodName := ⟨"java/lang/String", "isLatin1", "()Z"⟩
theorem jil_c : Cond.code jily prog_28_method_154_code 1 (some .boolean) ∈ xtg := xtg_of 1358 (by decide +kernel) (by decide +kernel)
theorem jil_i : Cond.initialized jily.cls ∈ xtg := xtg_of 102 (by decide +kernel) (by decide +kernel)
def jlcy : MethodName := ⟨"java/lang/StringLatin1", "charAt", "([BI)C"⟩
theorem jlc_c : Cond.code jlcy prog_30_method_2_code 2 (some .char) ∈ xtg := xtg_of 1361 (by decide +kernel) (by decide +kernel)
theorem jlc_i : Cond.initialized jlcy.cls ∈ xtg := xtg_of 107 (by decide +kernel) (by decide +kernel)
def jcky : MethodName := ⟨"java/lang/String", "checkIndex", "(II)V"⟩
theorem jck_c : Cond.code jcky prog_28_method_155_code 2 none ∈ xtg := xtg_of 1364 (by decide +kernel) (by decide +kernel)
theorem jck_i : Cond.initialized jcky.cls ∈ xtg := xtg_of 102 (by decide +kernel) (by decide +kernel)
def jpcy : MethodName := ⟨"jdk/internal/util/Preconditions", "checkIndex", "(IILjava/util/function/BiFunction;)I"⟩
theorem jpc_c : Cond.code jpcy prog_39_method_11_code 3 (some .int) ∈ xtg := xtg_of 1367 (by decide +kernel) (by decide +kernel)
theorem jpc_i : Cond.initialized jpcy.cls ∈ xtg := xtg_of 106 (by decide +kernel) (by decide +kernel)
theorem jk_cd : jlk "java/lang/String" 335 jcdy prog_28_method_152_code 1 (some .byte) 0 := ⟨jcd_c, jcd_i, xtg_of 754 (by decide +kernel) (by decide +kernel), ⟨by decide, by decide⟩, by decide +kernel⟩
theorem jk_il : jlk "java/lang/String" 492 jily prog_28_method_154_code 1 (some .boolean) 0 := ⟨jil_c, jil_i, xtg_of 1355 (by decide +kernel) (by decide +kernel), ⟨by decide, by decide⟩, by decide +kernel⟩
theorem jk_lc : jlk "java/lang/String" 495 jlcy prog_30_method_2_code 2 (some .char) 2 := ⟨jlc_c, jlc_i, xtg_of 1359 (by decide +kernel) (by decide +kernel), ⟨by decide, by decide⟩, by decide +kernel⟩
theorem jk_ck : jlk "java/lang/StringLatin1" 9 jcky prog_28_method_155_code 2 none 2 := ⟨jck_c, jck_i, xtg_of 1362 (by decide +kernel) (by decide +kernel), ⟨by decide, by decide⟩, by decide +kernel⟩
theorem jk_pc : jlk "java/lang/String" 1059 jpcy prog_39_method_11_code 3 (some .int) 3 := ⟨jpc_c, jpc_i, xtg_of 1365 (by decide +kernel) (by decide +kernel), ⟨by decide, by decide⟩, by decide +kernel⟩
theorem jk_ln1 : jlk "PartMaker$Text" 17 jlny prog_28_method_54_code 1 (some .int) 0 := ⟨jln_c, jln_i, xtg_of 1350 (by decide +kernel) (by decide +kernel), ⟨by decide, by decide⟩, by decide +kernel⟩
theorem jk_ln2 : jlk "PartMakerModel" 316 jlny prog_28_method_54_code 1 (some .int) 0 := ⟨jln_c, jln_i, xtg_of 2158 (by decide +kernel) (by decide +kernel), ⟨by decide, by decide⟩, by decide +kernel⟩
theorem jk_ch1 : jlk "PartMaker$Text" 22 jchy prog_28_method_56_code 2 (some .char) 1 := ⟨jch_c, jch_i, xtg_of 1351 (by decide +kernel) (by decide +kernel), ⟨by decide, by decide⟩, by decide +kernel⟩
theorem jk_ch2 : jlk "PartMakerModel" 321 jchy prog_28_method_56_code 2 (some .char) 1 := ⟨jch_c, jch_i, xtg_of 2159 (by decide +kernel) (by decide +kernel), ⟨by decide, by decide⟩, by decide +kernel⟩
theorem ji_ln : Cond.instanceMethod jlny ∈ xtg := xtg_of 751 (by decide +kernel) (by decide +kernel)
theorem js_ln : Cond.selects "java/lang/String" jlny jlny ∈ xtg := xtg_of 752 (by decide +kernel) (by decide +kernel)
theorem ji_cd : Cond.instanceMethod jcdy ∈ xtg := xtg_of 755 (by decide +kernel) (by decide +kernel)
theorem js_cd : Cond.selects "java/lang/String" jcdy jcdy ∈ xtg := xtg_of 756 (by decide +kernel) (by decide +kernel)
theorem ji_ch : Cond.instanceMethod jchy ∈ xtg := xtg_of 1352 (by decide +kernel) (by decide +kernel)
theorem js_ch : Cond.selects "java/lang/String" jchy jchy ∈ xtg := xtg_of 1353 (by decide +kernel) (by decide +kernel)
theorem ji_il : Cond.instanceMethod jily ∈ xtg := xtg_of 1356 (by decide +kernel) (by decide +kernel)
theorem js_il : Cond.selects "java/lang/String" jily jily ∈ xtg := xtg_of 1357 (by decide +kernel) (by decide +kernel)
theorem jt_lc : Cond.static jlcy ∈ xtg := xtg_of 1360 (by decide +kernel) (by decide +kernel)
theorem jt_ck : Cond.static jcky ∈ xtg := xtg_of 1363 (by decide +kernel) (by decide +kernel)
theorem jt_pc : Cond.static jpcy ∈ xtg := xtg_of 1366 (by decide +kernel) (by decide +kernel)
theorem jf_38 : Cond.fieldLink "java/lang/String" 38 "java/lang/String" "COMPACT_STRINGS" "Z" ∈ xtg := xtg_of 758 (by decide +kernel) (by decide +kernel)
theorem jf_9 : Cond.fieldLink "java/lang/String" 9 "java/lang/String" "value" "[B" ∈ xtg := xtg_of 895 (by decide +kernel) (by decide +kernel)
theorem jf_15 : Cond.fieldLink "java/lang/String" 15 "java/lang/String" "coder" "B" ∈ xtg := xtg_of 896 (by decide +kernel) (by decide +kernel)
theorem jf_1053 : Cond.fieldLink "java/lang/String" 1053 "jdk/internal/util/Preconditions" "SIOOBE_FORMATTER" "Ljava/util/function/BiFunction;" ∈ xtg := xtg_of 736 (by decide +kernel) (by decide +kernel)
theorem j_pc (l : Launch) {i n : Nat} {f : Value} (hf : f.category = 1) (h : i < n) (hn : n < 2 ^ 31) : jM l jpcy prog_39_method_11_code 3 (some .int) 0 [.int (nI i), .int (nI n), f] (fun _ => True) (some (.int (nI i))) := by
  refine j_of rfl (by cases f <;> simp [lg_sl, Value.category] at hf ⊢) ?_
  intro p e R s m args below meth c lsr hx hb hml hr hlocks hts hown hRf hRl hl hF
  refine lv_iload_n (k := 0) (i := 0) (x := nI i) hx hb (by decide +kernel) rfl (hl.2.2 (0, .int (nI i)) (by simp [lv_args, Value.category])) ?_
  refine lv_if_lt (off := 8) hx hb (by decide +kernel) (tgt := 9) (by decide) (fun h9 => absurd h9 (nI_pos (by omega))) (fun _ => ?_)
  refine lv_iload_n (k := 0) (i := 0) (x := nI i) hx hb (by decide +kernel) rfl (hl.2.2 (0, .int (nI i)) (by simp [lv_args, Value.category])) ?_
  refine lv_iload_n (k := 1) (i := 1) (x := nI n) hx hb (by decide +kernel) rfl (hl.2.2 (1, .int (nI n)) (by simp [lv_args, Value.category])) ?_
  refine lv_icmp_lt (off := 10) hx hb (by decide +kernel) (tgt := 16) (by decide) (fun _ => ?_) (fun h9 => absurd (nI_lt h hn) h9)
  refine lv_iload_n (k := 0) (i := 0) (x := nI i) hx hb (by decide +kernel) rfl (hl.2.2 (0, .int (nI i)) (by simp [lv_args, Value.category])) ?_
  exact W.iret hx hb hr (fun t ht _ => ⟨rfl, ht⟩) (by simp) (by decide +kernel) hlocks
theorem j_ck (l : Launch) {sz0 q v i n : Nat} {bs : List Int} (h : i < n) (hn : n < 2 ^ 31) : jM l jcky prog_28_method_155_code 2 none 1 [.int (nI i), .int (nI n)] (jF sz0 q v bs) none := by
  refine j_of rfl (by simp [lg_sl, Value.category]) ?_
  intro p e R s m args below meth c lsr hx hb hml hr hlocks hts hown hRf hRl hl hF
  have hS : va_S (xA sz0) s.heap s.heap [] := va_S.rf
  refine lv_iload_n (k := 0) (i := 0) (x := nI i) hx hb (by decide +kernel) rfl (hl.2.2 (0, .int (nI i)) (by simp [lv_args, Value.category])) ?_
  refine lv_iload_n (k := 1) (i := 1) (x := nI n) hx hb (by decide +kernel) rfl (hl.2.2 (1, .int (nI n)) (by simp [lv_args, Value.category])) ?_
  have key : ∀ f : Value, f.category = 1 → W p l e R s m args below meth c s.heap [] 0 0 (MQ below (jQ none) args s 0 0 (fun _ => False)) (F0 m 5 lsr ([.int (nI i), .int (nI n), f].reverse ++ [])) := fun f hf => by
    refine j_callS (As := [.int (nI i), .int (nI n), f]) hx hb hml hown hts (j_pc l hf h hn) jk_pc jt_pc (fun _ _ _ _ _ => trivial) (fun _ _ _ => trivial) (by omega) (by omega) (by omega) (by omega) hl.1 (by simp) (by decide +kernel) ?_
    refine lv_pop hx hb (by decide +kernel) rfl ?_
    exact W.vret hx hb hr (fun t ht _ => ⟨rfl, ht⟩) (by simp) (by decide +kernel) hlocks
  rcases hF.2.1.2 with hz | ⟨t, hz⟩
  · exact va_gets hx hb hz hS hown (hts _ jf_1053) (fun _ z => z) (by decide +kernel) (key .null rfl)
  · exact va_gets hx hb hz hS hown (hts _ jf_1053) (fun _ z => z) (by decide +kernel) (key (.ref t) rfl)
theorem j_b127 : ∀ b : Fin 128, (((Int32.ofInt (b.val : Int)) &&& 255).toUInt32 % 65536).toInt32 = Int32.ofInt (b.val : Int) ∧ narrow .char (.int (Int32.ofInt (b.val : Int))) = .int (Int32.ofInt (b.val : Int)) := by decide +kernel
theorem j_byte {b : Int} (h0 : 0 ≤ b) (h1 : b < 128) : (((Int32.ofInt b) &&& 255).toUInt32 % 65536).toInt32 = Int32.ofInt b ∧ narrow .char (.int (Int32.ofInt b)) = .int (Int32.ofInt b) := by
  have h := j_b127 ⟨b.toNat, by omega⟩
  rw [show (((⟨b.toNat, by omega⟩ : Fin 128).val : Nat) : Int) = b from Int.toNat_of_nonneg h0] at h
  exact h
theorem j_lc (l : Launch) {sz0 q v i : Nat} {bs : List Int} (h : i < bs.length) (hn : bs.length < 2 ^ 31) (h0 : 0 ≤ bs.getD i 0) (h1 : bs.getD i 0 < 128) : jM l jlcy prog_30_method_2_code 2 (some .char) 2 [.ref v, .int (nI i)] (jF sz0 q v bs) (some (.int (Int32.ofInt (bs.getD i 0)))) := by
  refine j_of rfl (by simp [lg_sl, Value.category]) ?_
  intro p e R s m args below meth c lsr hx hb hml hr hlocks hts hown hRf hRl hl hF
  have hS : va_S (xA sz0) s.heap s.heap [] := va_S.rf
  have hb9 := j_byte h0 h1
  refine lv_iload_n (k := 1) (i := 1) (x := nI i) hx hb (by decide +kernel) rfl (hl.2.2 (1, .int (nI i)) (by simp [lv_args, Value.category])) ?_
  refine lv_aload_n (k := 0) (i := 0) (x := v) hx hb (by decide +kernel) rfl (hl.2.2 (0, .ref v) (by simp [lv_args, Value.category])) ?_
  refine va_tlen hx hb hF.2.2.2.2.2 hS (v := nI bs.length) rfl (by decide +kernel) ?_
  refine j_callS (As := [.int (nI i), .int (nI bs.length)]) (rest := []) hx hb hml hown hts (j_ck l (sz0 := sz0) (q := q) (v := v) (bs := bs) h hn) jk_ck jt_ck (fun a U g mk z => jF_b a U g mk z) (fun U hU hW => jF_at hF hS U hU hW) (by omega) (by omega) (by omega) (by omega) hl.1 (by simp) (by decide +kernel) ?_
  refine lv_aload_n (k := 0) (i := 0) (x := v) hx hb (by decide +kernel) rfl (hl.2.2 (0, .ref v) (by simp [lv_args, Value.category])) ?_
  refine lv_iload_n (k := 1) (i := 1) (x := nI i) hx hb (by decide +kernel) rfl (hl.2.2 (1, .int (nI i)) (by simp [lv_args, Value.category])) ?_
  refine va_tb hx hb hF.2.2.2.2.2 hS (v := .int (Int32.ofInt (bs.getD i 0))) (i := nI i) (vp_in_nI h hn) (by rw [nI_clamp (by omega)]) (by decide +kernel) ?_
  refine lv_sipush (n := 255) (v := 255) hx hb (by decide +kernel) (by decide) ?_
  refine lv_iand hx hb (by decide +kernel) ?_
  refine lv_i2c hx hb (by decide +kernel) hb9.1 ?_
  exact W.zret hx hb hr hb9.2 (fun t ht _ => ⟨rfl, ht⟩) (by simp) (by decide +kernel) hlocks
theorem j_il (l : Launch) {sz0 q v : Nat} {bs : List Int} : jM l jily prog_28_method_154_code 1 (some .boolean) 0 [.ref q] (jF sz0 q v bs) (some (.int 1)) := by
  refine j_of rfl (by simp [lg_sl, Value.category]) ?_
  intro p e R s m args below meth c lsr hx hb hml hr hlocks hts hown hRf hRl hl hF
  have hS : va_S (xA sz0) s.heap s.heap [] := va_S.rf
  refine va_gets hx hb hF.2.1.1 hS hown (hts _ jf_38) (fun _ z => z) (by decide +kernel) ?_
  refine lv_if_eq (off := 14) hx hb (by decide +kernel) (tgt := 17) (by decide) (fun h9 => absurd h9 (by decide)) (fun _ => ?_)
  refine lv_aload_n (k := 0) (i := 0) (x := q) hx hb (by decide +kernel) rfl (hl.2.2 (0, .ref q) (by simp [lv_args, Value.category])) ?_
  refine vk_getf hx hb hF.2.2.2.1 hS hown (hts _ jf_15) (fun _ z => z) (by decide +kernel) ?_
  refine lv_if_ne (off := 7) hx hb (by decide +kernel) (tgt := 17) (by decide) (fun h9 => absurd rfl h9) (fun _ => ?_)
  refine lv_iconst (n := 1) (v := 1) hx hb (by decide +kernel) (by decide) ?_
  refine lv_goto (off := 4) hx hb (by decide +kernel) (tgt := 18) (by decide) ?_
  exact W.zret hx hb hr (by decide) (fun t ht _ => ⟨rfl, ht⟩) (by simp) (by decide +kernel) hlocks
theorem j_cd (l : Launch) {sz0 q v : Nat} {bs : List Int} : jM l jcdy prog_28_method_152_code 1 (some .byte) 0 [.ref q] (jF sz0 q v bs) (some (.int 0)) := by
  refine j_of rfl (by simp [lg_sl, Value.category]) ?_
  intro p e R s m args below meth c lsr hx hb hml hr hlocks hts hown hRf hRl hl hF
  have hS : va_S (xA sz0) s.heap s.heap [] := va_S.rf
  refine va_gets hx hb hF.2.1.1 hS hown (hts _ jf_38) (fun _ z => z) (by decide +kernel) ?_
  refine lv_if_eq (off := 10) hx hb (by decide +kernel) (tgt := 13) (by decide) (fun h9 => absurd h9 (by decide)) (fun _ => ?_)
  refine lv_aload_n (k := 0) (i := 0) (x := q) hx hb (by decide +kernel) rfl (hl.2.2 (0, .ref q) (by simp [lv_args, Value.category])) ?_
  refine vk_getf hx hb hF.2.2.2.1 hS hown (hts _ jf_15) (fun _ z => z) (by decide +kernel) ?_
  refine lv_goto (off := 4) hx hb (by decide +kernel) (tgt := 14) (by decide) ?_
  exact W.zret hx hb hr (by decide) (fun t ht _ => ⟨rfl, ht⟩) (by simp) (by decide +kernel) hlocks
theorem j_sh0 (x : Int32) : x >>> ((0 : Int32) &&& 31) = x := by
  show x >>> (0 : Int32) = x
  simp
theorem j_rec {sz0 q v : Nat} {bs : List Int} {s : State} {H : Heap} {locs : List Loc} (h : jF sz0 q v bs s) (hS : va_S (xA sz0) s.heap H locs) : ∃ cell : Cell, H[q]? = some cell ∧ cell.vm.isStatics = false ∧ s.vm.findClass "java/lang/String" = some cell.cls := by
  obtain ⟨cell, h1, h2, h3, -⟩ := h.2.2.1.kept hS.2.1
  exact ⟨cell, h1, h2, h3⟩
theorem j_ln (l : Launch) {sz0 q v : Nat} {bs : List Int} : jM l jlny prog_28_method_54_code 1 (some .int) 1 [.ref q] (jF sz0 q v bs) (some (.int (nI bs.length))) := by
  refine j_of rfl (by simp [lg_sl, Value.category]) ?_
  intro p e R s m args below meth c lsr hx hb hml hr hlocks hts hown hRf hRl hl hF
  have hS : va_S (xA sz0) s.heap s.heap [] := va_S.rf
  refine lv_aload_n (k := 0) (i := 0) (x := q) hx hb (by decide +kernel) rfl (hl.2.2 (0, .ref q) (by simp [lv_args, Value.category])) ?_
  refine vk_getf hx hb hF.2.2.2.2.1 hS hown (hts _ jf_9) (fun _ z => z) (by decide +kernel) ?_
  refine va_tlen hx hb hF.2.2.2.2.2 hS (v := nI bs.length) rfl (by decide +kernel) ?_
  refine lv_aload_n (k := 0) (i := 0) (x := q) hx hb (by decide +kernel) rfl (hl.2.2 (0, .ref q) (by simp [lv_args, Value.category])) ?_
  refine j_callV (As := []) (q := q) (rest := [.int (nI bs.length)]) hx hb hml hown hts (j_cd l (sz0 := sz0) (v := v) (bs := bs)) jk_cd ji_cd js_cd (j_rec hF hS) (fun a U g mk z => jF_b a U g mk z) (fun U hU hW => jF_at hF hS U hU hW) (by omega) (by omega) (by omega) (by omega) hl.1 (by simp [Value.category]) (by decide +kernel) ?_
  refine lv_ishr hx hb (by decide +kernel) ?_
  rw [j_sh0]
  exact W.iret hx hb hr (fun t ht _ => ⟨rfl, ht⟩) (by simp) (by decide +kernel) hlocks
theorem j_ch (l : Launch) {sz0 q v i : Nat} {bs : List Int} (h : i < bs.length) (hn : bs.length < 2 ^ 31) (h0 : 0 ≤ bs.getD i 0) (h1 : bs.getD i 0 < 128) : jM l jchy prog_28_method_56_code 2 (some .char) 3 [.ref q, .int (nI i)] (jF sz0 q v bs) (some (.int (Int32.ofInt (bs.getD i 0)))) := by
  refine j_of rfl (by simp [lg_sl, Value.category]) ?_
  intro p e R s m args below meth c lsr hx hb hml hr hlocks hts hown hRf hRl hl hF
  have hS : va_S (xA sz0) s.heap s.heap [] := va_S.rf
  have hb9 := j_byte h0 h1
  refine lv_aload_n (k := 0) (i := 0) (x := q) hx hb (by decide +kernel) rfl (hl.2.2 (0, .ref q) (by simp [lv_args, Value.category])) ?_
  refine j_callV (As := []) (q := q) (rest := []) hx hb hml hown hts (j_il l (sz0 := sz0) (v := v) (bs := bs)) jk_il ji_il js_il (j_rec hF hS) (fun a U g mk z => jF_b a U g mk z) (fun U hU hW => jF_at hF hS U hU hW) (by omega) (by omega) (by omega) (by omega) hl.1 (by simp) (by decide +kernel) ?_
  refine lv_if_eq (off := 12) hx hb (by decide +kernel) (tgt := 16) (by decide) (fun h9 => absurd h9 (by decide)) (fun _ => ?_)
  refine lv_aload_n (k := 0) (i := 0) (x := q) hx hb (by decide +kernel) rfl (hl.2.2 (0, .ref q) (by simp [lv_args, Value.category])) ?_
  refine vk_getf hx hb hF.2.2.2.2.1 hS hown (hts _ jf_9) (fun _ z => z) (by decide +kernel) ?_
  refine lv_iload_n (k := 1) (i := 1) (x := nI i) hx hb (by decide +kernel) rfl (hl.2.2 (1, .int (nI i)) (by simp [lv_args, Value.category])) ?_
  refine j_callS (As := [.ref v, .int (nI i)]) (rest := []) hx hb hml hown hts (j_lc l (sz0 := sz0) (q := q) h hn h0 h1) jk_lc jt_lc (fun a U g mk z => jF_b a U g mk z) (fun U hU hW => jF_at hF hS U hU hW) (by omega) (by omega) (by omega) (by omega) hl.1 (by simp) (by decide +kernel) ?_
  exact W.zret hx hb hr hb9.2 (fun t ht _ => ⟨rfl, ht⟩) (by simp) (by decide +kernel) hlocks
