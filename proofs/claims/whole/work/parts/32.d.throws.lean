/-! throws of the class's own exceptions, out of the start's words -/
/-- a word that holds on from the start -/
def xmv (w : Cond) : Bool := goodWord w || (match w with
  | .castable _ _ => true
  | .declares _ => true
  | _ => false)
def xin9 : List Cond → List Nat → Bool
  | [], _ => true
  | w :: t, i :: js => decide (lw_tbl[i]? = some w) && (xmv w && xin9 t js)
  | _ :: _, [] => false
theorem xin9_ok : ∀ {L : List Cond} {js : List Nat}, xin9 L js = true → ∀ w ∈ L, w ∈ lw_tbl ∧ xmv w = true
  | [], _, _, w, hw => by cases hw
  | w :: t, i :: js, h, w', hw => by
    simp only [xin9, Bool.and_eq_true, decide_eq_true_eq] at h
    rcases List.mem_cons.mp hw with rfl | hw
    · exact ⟨List.mem_of_getElem? h.1, h.2.1⟩
    · exact xin9_ok h.2.2 w' hw
  | w :: t, [], h, w', hw => by cases h
/-- what the start gives: its words, and those of its cells that throws read -/
def xTS (sz0 : Nat) (ST : State → Prop) : Prop := ∀ s : State, ST s → (∀ w ∈ lw_tbl, xmv w = true → goodWord w = false → va_Nw w s) ∧ (∀ t ∈ xIsT, ∃ (text : String) (sa : Nat), vk_R "PartMaker" t.1 text sa s) ∧ vx_Zq Bundle.tN "UNASSIGNED_STACK" Bundle.steD (xA sz0) s s.heap ∧ vx_Zq Bundle.tN "SUPPRESSED_SENTINEL" Bundle.listD (xA sz0) s s.heap
theorem xmv_ot {w : Cond} (h : xmv w = true) : vx_ot w = true := by
  unfold xmv at h
  unfold vx_ot
  rw [Bool.or_eq_true] at h ⊢
  rcases h with h | h
  · exact Or.inr h
  · left
    split at h
    · rfl
    · rfl
    · cases h
theorem xmv_at {s : State} {args : Array Value} {w : Cond} (hn : ∀ w ∈ lw_tbl, xmv w = true → goodWord w = false → va_Nw w s) (hts : ∀ w ∈ xtg, w.before args s = true) (hm : w ∈ lw_tbl) (hg : xmv w = true) : w.before args s = true := by
  cases hb : goodWord w with
  | true => exact hts w (List.mem_filter.mpr ⟨List.mem_append_right _ hm, hb⟩)
  | false =>
    have h1 := hn w hm hg hb
    have h2 := hg
    unfold xmv at h2
    rw [hb, Bool.false_or] at h2
    split at h2
    · exact va_Nw.use rfl h1
    · exact va_Nw.use rfl h1
    · cases h2
def nm2 : List String := ["java/lang/RuntimeException", "java/lang/Exception"]
def nm1 : List String := ["java/lang/Exception"]
theorem xw_a : xin9 (vx_atS "PartMaker" 84 "java/lang/IllegalArgumentException" nm2) [93, 624, 633, 637, 640, 642, 625, 626, 117, 118, 627, 632, 638, 871, 614, 872, 616, 873, 618, 628, 630, 620, 867, 868, 870, 620, 858, 859, 860, 861, 606, 861, 862, 863, 864, 608, 864, 865, 866, 867, 610, 1125, 603, 604, 611, 612, 613, 615, 617, 619, 623, 622, 621] = true := by decide +kernel
theorem xw_s : xin9 (vx_atS "PartMaker" 110 "java/lang/IllegalStateException" nm2) [93, 624, 633, 637, 640, 642, 625, 626, 117, 118, 627, 632, 638, 871, 614, 872, 616, 873, 618, 628, 630, 620, 867, 868, 870, 620, 1159, 1160, 1161, 861, 606, 861, 862, 863, 864, 608, 864, 865, 866, 867, 610, 1158, 1149, 1150, 1151, 635, 1152, 1153, 1154, 1155, 623, 622, 1156] = true := by decide +kernel
theorem xw_n : xin9 ((nAt "PartMaker" 193 "java/util/NoSuchElementException" "java/lang/RuntimeException" 13 prog_37_method_4_code nm1).filter vx_no) [93, 624, 633, 637, 640, 642, 625, 626, 117, 118, 627, 632, 638, 871, 614, 872, 616, 873, 618, 628, 630, 620, 867, 868, 870, 620, 1191, 1192, 1193, 861, 606, 861, 862, 863, 864, 608, 864, 865, 866, 867, 610, 1190, 1181, 1182, 1183, 636, 1184, 1185, 1186, 1187, 623, 622, 1188] = true := by decide +kernel
theorem xw_k : xin9 [.classLink "PartMaker" 80 "java/lang/IllegalArgumentException", .initialized "java/lang/IllegalArgumentException", .classLink "PartMaker" 106 "java/lang/IllegalStateException", .initialized "java/lang/IllegalStateException", .classLink "PartMaker" 189 "java/util/NoSuchElementException", .initialized "java/util/NoSuchElementException"] [1123, 96, 1148, 97, 1180, 98] = true := by decide +kernel
section NTHROW
variable {p : Program} {l : Launch} {e : Env} {R : Room} {s : State} {m : MethodId} {args : Array Value} {below : List Frame} {meth : Method} {c : Code} {H : Heap} {locs : List Loc} {cells slots : Nat} {ls : Array Slot} {rest : List Value} {Qc : Array Value → State → Outcome → State → Prop} {XC : String → State → State → Prop} {free : Addr → Prop}
theorem n_throw {cc : ByteArray} {pc ln : Nat} (hexec : p.tables.exec = Jvm.exec) (hb : c.code = cc) (hl : l.stackTraces = false) {own cls Yn text : String} {names : List String} {ik is ic ix mc ms sa : Nat} {rx : ByteArray} {A : Nat → Prop}
    (hown : s.vm.findClass own = some m.cls) (hcls : Bundle.fit cls = true) (hY : Bundle.fit Yn = true) (hnames : ∀ n ∈ names, Bundle.fit n = true) (r0 : decode rx 0 = .ok (.aload_n 0, 1)) (r1 : decode rx 1 = .ok (.aload_n 1, 1)) (r2 : decode rx 2 = .ok (.invokespecial ix, 3)) (r5 : decode rx 5 = .ok (.return_, 1))
    (hk : (Cond.classLink own ik cls).before args s = true) (hini : (Cond.initialized cls).before args s = true) (hstr : vk_R own is text sa s) (hat : ∀ w ∈ (nAt own ic cls Yn ix rx names).filter vx_no, w.before args s = true)
    (hgood : ∀ w ∈ Cond.classLink own ik cls :: Cond.initialized cls :: (nAt own ic cls Yn ix rx names).filter vx_no, vx_ot w = true)
    (hU : vx_Zq Bundle.tN "UNASSIGNED_STACK" Bundle.steD A s s.heap) (hN : vx_Zq Bundle.tN "SUPPRESSED_SENTINEL" Bundle.listD A s s.heap) (hS : va_S A s.heap H locs) (hsize : ls.size = c.maxLocals)
    (d0 : decode cc pc = .ok (.new ik, 3)) (d3 : decode cc (pc + 3) = .ok (.dup, 1)) (d4 : (decode cc (pc + 4) = .ok (.ldc is, 2) ∧ ln = 2) ∨ (decode cc (pc + 4) = .ok (.ldc_w is, 3) ∧ ln = 3)) (d6 : decode cc (pc + 4 + ln) = .ok (.invokespecial ic, 3)) (d9 : decode cc (pc + 4 + ln + 3) = .ok (.athrow, 1))
    (hout : ∀ x ∈ c.exceptionTable.toList, covers x (pc + 4 + ln + 3) = false)
    (hRframes : names.length + 4 < R.frames) (hRlocals : (rest.map fun v => v.category).sum + (13 * (names.length + 2) + 43) ≤ R.locals) (hRcells : cells + 1 ≤ R.cells) (hRslots : slots + 6 ≤ R.slots) (hlocks : meth.locks = false)
    (hx : ∀ t : State, s.vm.Alike t.vm → H.size ≤ t.heap.size → (∀ q : Nat, q < H.size → t.heap[q]? = H[q]?) → XC cls s t)
    (hf : ∀ z ∈ locs, free z.base) (hc : cells + 1 ≤ mc) (hs : slots + 6 ≤ ms) :
    W p l e R s m args below meth c H locs cells slots (vx_MQ below Qc XC args s mc ms free) (F0 m pc ls rest) := by
  intro T hT X
  have htr : e.platform.stackTraces = false := (show e.platform.stackTraces = l.stackTraces by rw [X.admits.platform]).trans hl
  have Y := vx_rebase X (R' := { frames := R.frames, locals := R.locals, cells := 1, slots := 6 }) (Nat.le_refl _) (Nat.le_refl _) hRcells hRslots
  obtain ⟨s', hA⟩ : ∃ z, z = (T.setVm s.vm).setFrames (.invoking m args :: below) := ⟨_, rfl⟩
  rw [← hA] at Y
  have hvm : s'.vm = s.vm := by rw [hA]; rfl
  have hhp : s'.heap = H := by rw [hA]; exact hT
  have hW0 : s.WarmedH s'.vm := by rw [hvm]; exact State.WarmedH.refl s
  have hat' : ∀ w ∈ (nAt own ic cls Yn ix rx names).filter vx_no, w.before args s' = true := fun w hw => vx_ot_at hW0 hvm.symm (hgood w (List.mem_cons_of_mem _ (List.mem_cons_of_mem _ hw))) (hat w hw)
  have hk' : (Cond.classLink own ik cls).before args s' = true := vx_ot_at hW0 hvm.symm (hgood _ List.mem_cons_self) hk
  have hini' : (Cond.initialized cls).before args s' = true := vx_ot_at hW0 hvm.symm (hgood _ (List.mem_cons_of_mem _ List.mem_cons_self)) hini
  have hU' : vx_Zq Bundle.tN "UNASSIGNED_STACK" Bundle.steD A s' s'.heap := by rw [hhp]; exact vx_Zq.moved hW0.alike (hU.kept hS.2.1)
  have hN' : vx_Zq Bundle.tN "SUPPRESSED_SENTINEL" Bundle.listD A s' s'.heap := by rw [hhp]; exact vx_Zq.moved hW0.alike (hN.kept hS.2.1)
  have h : ∀ w ∈ nAt own ic cls Yn ix rx names, w.before args s' = true := vx_own hat' (vx_isRefq hU'.1) (vx_isRefq hN'.1) hU'.2.word hN'.2.word
  have hown' : s'.vm.findClass own = some m.cls := by rw [hvm]; exact hown
  have hins : (Cond.instantiable cls 6).before args s' = true := h _ (by simp [nAt, nRest])
  obtain ⟨vm₁, cX, kX, hfX, hkX, -, -, X₁, st1⟩ := Y.newCold hexec (own := own) (C := cls) (index := ik) (n := 6) hown' hk' hins hini'
    (g := F0 m pc ls rest) rfl (by rw [hb]; exact d0) (Nat.le_refl _) (Nat.le_refl _)
  generalize hT1 : (T.setVm vm₁).pushCell { cls := cX, slots := kX.instanceTypes.map defaultValue, vm := .none } = T1 at X₁ st1
  have hcat : (Value.ref T.heap.size).category = 1 := rfl
  have hcellA : T1.heap[T.heap.size]? = some (freshCell cX kX) := by rw [← hT1]; exact State.heap_pushCell_size _ _
  have d3' : decode c.code (pc + 3) = .ok (.dup, 1) := by rw [hb]; exact d3
  have hstr' : vk_R own is text sa s' := vk_R.warm hW0 hstr
  obtain ⟨U, hsteps, hrun, hend, hW, hsame, ce, hce, hcl0, hcv⟩ := n_ctor X₁ hexec htr (own := own) (cls := cls) (Yn := Yn) (names := names) (ic := ic) (ix := ix) (rx := rx) hown' hcls hY hnames r0 r1 r2 r5 h rfl hfX hkX hcellA (by rw [hhp, hT]; exact Nat.le_refl _) (msg := .ref sa) rfl
    (g := { method := m, pc := pc + 4 + ln, locals := ls, stack := .ref sa :: .ref T.heap.size :: .ref T.heap.size :: rest, locked := none }) rfl hsize rfl rfl (rest := rest) rfl
    (by rw [hb]; exact d6) (by rw [hb]; exact d9) hout hRframes (by
      simp only [List.map_cons, List.sum_cons, hcat]
      show 2 * 0 + _ + _ ≤ _
      omega) hlocks
  obtain ⟨f1, f2⟩ := vx_frame hsame
  rw [hhp] at f1 f2
  have hWs : s.WarmedH U.vm := State.WarmedH.trans hW0 hW
  have hcl : s.vm.findClass cls = some ce.cls := by
    have h9 := hcl0
    rw [hvm] at h9
    exact h9
  have hall : s.sameButNew ({ U with vm := s.vm } : State) locs mc ms := by
    subst hA
    obtain ⟨e1, e2⟩ := hsame
    rw [State.setFrames_setFrames] at e1
    have h2 : (T.setVm s.vm).sameButNew ({ U with vm := s.vm } : State) [] (0 + 1) (0 + 6) := ⟨e1, e2⟩
    have h3 := X.same.trans h2
    rw [List.append_nil] at h3
    exact h3.mono hc hs
  refine ⟨U, ?_, .threw T.heap.size, hrun, hend, Or.inr ⟨T.heap.size, rfl, cls, ce, locs, hx U hWs.alike f1 (fun q hq => f2 q hq (fun z hz => nomatch hz)), hce, hcv, hcl, hWs, hall, hf⟩⟩
  refine st1 _ ?_
  show Steps p.tables e below (T1.setTop { method := m, pc := pc + 3, locals := ls, stack := .ref T.heap.size :: rest, locked := none }) _
  jvm_step X₁.here [X₁.here.top, hexec, d3', Value.category]
  rcases d4 with ⟨d4, rfl⟩ | ⟨d4, rfl⟩
  · exact X₁.ldcString hexec (own := own) (text := text) (index := is) (a := sa) hown' hstr'.1 hstr'.2
      (g := { method := m, pc := pc + 4, locals := ls, stack := .ref T.heap.size :: .ref T.heap.size :: rest, locked := none }) rfl (by rw [hb]; exact d4) _ hsteps
  · exact X₁.ldcStringW hexec (own := own) (text := text) (index := is) (a := sa) hown' hstr'.1 hstr'.2
      (g := { method := m, pc := pc + 4, locals := ls, stack := .ref T.heap.size :: .ref T.heap.size :: rest, locked := none }) rfl (by rw [hb]; exact d4) _ hsteps
end NTHROW
set_option maxHeartbeats 1000000 in
theorem xTW_of {l : Launch} {sz0 : Nat} {ST : State → Prop} (hl : l.stackTraces = false) (h : xTS sz0 ST) : xTW l sz0 ST := by
  intro p e R s m args below meth c cc pc H locs cells slots lsr rest E ik ic t mc ms Qc XC hE ht hx hb hown hts hs0 hS hsz d0 d3 hform hout hRf hsum hRl hRc hRs hlocks hxc hmc hms
  obtain ⟨hn, hstr, hU, hN⟩ := h s hs0
  obtain ⟨text, sa, hR⟩ := hstr t ht
  have at9 : ∀ (L : List Cond) (js : List Nat), xin9 L js = true → ∀ w ∈ L, w.before args s = true := fun L js hL w hw => xmv_at hn hts (xin9_ok hL w hw).1 (xin9_ok hL w hw).2
  have ot9 : ∀ (L : List Cond) (js : List Nat), xin9 L js = true → ∀ w ∈ L, vx_ot w = true := fun L js hL w hw => xmv_ot (xin9_ok hL w hw).2
  have k9 := at9 _ _ xw_k
  have o9 := ot9 _ _ xw_k
  simp only [xExT, List.mem_cons, List.not_mem_nil, or_false, Prod.mk.injEq] at hE
  rcases hE with ⟨rfl, rfl, rfl⟩ | ⟨rfl, rfl, rfl⟩ | ⟨rfl, rfl, rfl⟩
  · have hg : ∀ w ∈ Cond.classLink "PartMaker" 80 "java/lang/IllegalArgumentException" :: Cond.initialized "java/lang/IllegalArgumentException" :: vx_atS "PartMaker" 84 "java/lang/IllegalArgumentException" nm2, vx_ot w = true := List.forall_mem_cons.mpr ⟨o9 _ (by simp), List.forall_mem_cons.mpr ⟨o9 _ (by simp), ot9 _ _ xw_a⟩⟩
    rcases hform with ⟨d4, d6, d9⟩ | ⟨d4, d7, d10⟩
    · exact vx_throwS hx hb hl hown (by decide +kernel) (by decide +kernel) (k9 _ (by simp)) (k9 _ (by simp)) hR (at9 _ _ xw_a) hg hU hN hS hsz d0 d3 d4 d6 d9 (fun z hz => (hout z hz).elim) (by show 2 + 3 < _; omega) (by show _ + (13 * (2 + 1) + 43) ≤ _; omega) hRc hRs hlocks hxc hS.2.2 hmc hms
    · exact vx_throwSW hx hb hl hown (by decide +kernel) (by decide +kernel) (k9 _ (by simp)) (k9 _ (by simp)) hR (at9 _ _ xw_a) hg hU hN hS hsz d0 d3 d4 d7 d10 (fun z hz => (hout z hz).elim) (by show 2 + 3 < _; omega) (by show _ + (13 * (2 + 1) + 43) ≤ _; omega) hRc hRs hlocks hxc hS.2.2 hmc hms
  · have hg : ∀ w ∈ Cond.classLink "PartMaker" 106 "java/lang/IllegalStateException" :: Cond.initialized "java/lang/IllegalStateException" :: vx_atS "PartMaker" 110 "java/lang/IllegalStateException" nm2, vx_ot w = true := List.forall_mem_cons.mpr ⟨o9 _ (by simp), List.forall_mem_cons.mpr ⟨o9 _ (by simp), ot9 _ _ xw_s⟩⟩
    rcases hform with ⟨d4, d6, d9⟩ | ⟨d4, d7, d10⟩
    · exact vx_throwS hx hb hl hown (by decide +kernel) (by decide +kernel) (k9 _ (by simp)) (k9 _ (by simp)) hR (at9 _ _ xw_s) hg hU hN hS hsz d0 d3 d4 d6 d9 (fun z hz => (hout z hz).elim) (by show 2 + 3 < _; omega) (by show _ + (13 * (2 + 1) + 43) ≤ _; omega) hRc hRs hlocks hxc hS.2.2 hmc hms
    · exact vx_throwSW hx hb hl hown (by decide +kernel) (by decide +kernel) (k9 _ (by simp)) (k9 _ (by simp)) hR (at9 _ _ xw_s) hg hU hN hS hsz d0 d3 d4 d7 d10 (fun z hz => (hout z hz).elim) (by show 2 + 3 < _; omega) (by show _ + (13 * (2 + 1) + 43) ≤ _; omega) hRc hRs hlocks hxc hS.2.2 hmc hms
  · have hg : ∀ w ∈ Cond.classLink "PartMaker" 189 "java/util/NoSuchElementException" :: Cond.initialized "java/util/NoSuchElementException" :: (nAt "PartMaker" 193 "java/util/NoSuchElementException" "java/lang/RuntimeException" 13 prog_37_method_4_code nm1).filter vx_no, vx_ot w = true := List.forall_mem_cons.mpr ⟨o9 _ (by simp), List.forall_mem_cons.mpr ⟨o9 _ (by simp), ot9 _ _ xw_n⟩⟩
    rcases hform with ⟨d4, d6, d9⟩ | ⟨d4, d7, d10⟩
    · exact n_throw (ln := 2) (Yn := "java/lang/RuntimeException") (names := nm1) (ix := 13) (rx := prog_37_method_4_code) hx hb hl hown (by decide +kernel) (by decide +kernel) (by decide +kernel) (by decide +kernel) (by decide +kernel) (by decide +kernel) (by decide +kernel) (k9 _ (by simp)) (k9 _ (by simp)) hR (at9 _ _ xw_n) hg hU hN hS hsz d0 d3 (Or.inl ⟨d4, rfl⟩) d6 d9 (fun z hz => (hout z hz).elim) (by show 1 + 4 < _; omega) (by show _ + (13 * (1 + 2) + 43) ≤ _; omega) hRc hRs hlocks hxc hS.2.2 hmc hms
    · exact n_throw (ln := 3) (Yn := "java/lang/RuntimeException") (names := nm1) (ix := 13) (rx := prog_37_method_4_code) hx hb hl hown (by decide +kernel) (by decide +kernel) (by decide +kernel) (by decide +kernel) (by decide +kernel) (by decide +kernel) (by decide +kernel) (k9 _ (by simp)) (k9 _ (by simp)) hR (at9 _ _ xw_n) hg hU hN hS hsz d0 d3 (Or.inr ⟨d4, rfl⟩) d7 d10 (fun z hz => (hout z hz).elim) (by show 1 + 4 < _; omega) (by show _ + (13 * (1 + 2) + 43) ≤ _; omega) hRc hRs hlocks hxc hS.2.2 hmc hms
