/-! THE CLAIM OUT OF ONE WALK OF THE LAW'S BODY. Your part is whole_start (and what it stands on); all else here is the same for every law, but numbers. -/
def R_law : String := "PartMakerLaw"
def lw_P (b : Addr) (xs : List Int32) (args : Array Value) (s : State) : Prop := args = #[.ref b] ∧ s.IntsAt b xs ∧ xs.length ≤ 3072 ∧ (Jvm.Cond.and given_1 narrow_1).before args s = true
def lw_Q (_ : Array Value) (s : State) (o : Outcome) (t : State) : Prop := o = .returned (some (.int 1)) ∧ Framed s o t [] 601024 7293034
def lw_Z (below : List Frame) (a : Array Value) (s : State) : State → Prop := fun t => ∃ o, t.status = .running ∧ Ended t below o ∧ lw_Q a s o t
/-- the law's own end, with 1 on the stack, nothing written that was there before, its room as the claim has it -/
theorem lw_ret {p : Program} {l : Launch} {e : Env} {s : State} {m : MethodId} {below : List Frame} {meth : Method} {c : Code} {b : Nat} (hx : p.tables.exec = Jvm.exec) (hb : c.code = code) (hr : meth.sig.returnType = ret) (hlocks : meth.locks = false) {pc : Nat} {H : Heap} {ls : Array Slot} (hdg : decode code pc = .ok (.ireturn, 1)) : W p l e room_1 s m #[Value.ref b] below meth c H [] 601024 7293034 (lw_Z below #[Value.ref b] s) (F0 m pc ls [.int 1]) := by
  intro T hT X
  obtain ⟨fs, hret, hrun, hended, hW, hframe⟩ := X.leave (v := some (.int 1)) (hlocks := hlocks) (fun h => by rw [hr] at h; cases h)
  have hmeth' : T.vm.method? m = some meth := X.method'
  refine ⟨T.setFrames fs, ?_, .returned (some (.int 1)), hrun, hended, rfl, ⟨_, rfl⟩, hW, hframe⟩
  jvm_step X.here [X.here.top, hx, hb, hdg, hmeth', hr, ret, narrow_b1]
  (try refine ⟨rfl, ?_⟩); (try refine ⟨rfl, ?_⟩)
  first | (intro acts; rw [hret _ acts rfl rfl rfl]) | rw [hret _ _ rfl rfl rfl]
  exact Steps.refl _
/-- what holds at the law's entry: the machine, the code, the tables' words (any of lw_tbl by 'hts w (by decide +kernel)'), the script of L ints xs at the cell b, what the Statement gives of the start (any of its parts by flat_of_before) -/
def lw_At (p : Program) (s : State) (m : MethodId) (meth : Method) (c : Code) (b L : Nat) (xs : Nat → Int32) : Prop :=
  p.tables.exec = Jvm.exec ∧ c.code = code ∧ meth.sig.returnType = ret ∧ c.maxLocals = 7 ∧ s.vm.findClass R_law = some m.cls ∧ (∀ w ∈ lw_tbl, w.before #[Value.ref b] s = true) ∧ va_X b L xs s s.heap ∧ b < s.heap.size ∧ meth.locks = false ∧ (Jvm.Cond.and given_1 narrow_1).before #[Value.ref b] s = true
/-! the law's loop -/
theorem xsw_in : ∀ (l : List (Nat × Nat)) (d : Nat) (z : Int), xsw l d z = d ∨ ∃ q ∈ l, xsw l d z = q.2
  | [], _, _ => Or.inl rfl
  | q :: t, d, z => by
    unfold xsw
    split
    · exact Or.inr ⟨q, List.mem_cons_self, rfl⟩
    · rcases xsw_in t d z with h | ⟨q', h1, h2⟩
      · exact Or.inl h
      · exact Or.inr ⟨q', List.mem_cons_of_mem _ h1, h2⟩
def QL : xO → xH → Prop := fun o _ => o = .inl (some (.inl 1))
def lsw : List (Nat × Nat) := [(0, 16), (1, 17), (2, 18), (3, 19), (4, 20), (5, 21), (6, 22), (7, 23), (8, 24), (9, 25), (10, 26), (11, 27), (12, 28), (13, 29), (14, 30), (15, 31), (16, 32), (17, 33), (18, 34), (19, 35), (20, 36), (21, 37), (22, 38), (23, 39), (24, 40), (25, 41), (26, 42), (27, 43), (28, 44), (29, 45), (30, 46), (31, 47), (32, 48), (33, 49), (34, 50), (35, 51), (36, 52), (37, 53), (38, 54), (39, 55), (40, 56), (41, 57), (42, 58)]
theorem w32_s {z : Int} (h0 : -2147483648 ≤ z) (h1 : z ≤ 2147483647) : w32 z = z := by
  unfold w32
  have e : Int32.size = 4294967296 := rfl
  rw [Int32.toInt_ofInt, e, Int.bmod_eq_of_le] <;> omega
theorem xcc_gt {a b : Int} (ha : -2147483648 ≤ a) (ha1 : a ≤ 2147483647) (hb : -2147483648 ≤ b) (hb1 : b ≤ 2147483647) : xcc .gt a b = decide (b < a) := by
  show decide (w32 b < w32 a) = _
  rw [w32_s ha ha1, w32_s hb hb1]
theorem law_loop {X : List Nat → xPr} {L : Nat} {xs : Int → Int} (hL : L ≤ 3072) (hxs : ∀ j, xr (xs j)) (hC : ∀ (cd : List xI) (pcs : List Nat), (∀ (i : Nat) (x : xI), cd[i]? = some x → xok MT vcl RL code 7 pcs i x) → LCl cd L xs QL (X pcs))
    (hpc : ∀ (pcs pcs' : List Nat) (i i' pc b : Nat) (ls : xL) (sk : List xV) (h : xH), pcs[i]? = some pc → pcs'[i']? = some pc → X pcs' b i' ls sk h → X pcs b i ls sk h) :
    ∀ (n : Nat) (i : Int) (h : xH), 0 ≤ i → i ≤ 4000 → (L : Int) - i ≤ 6 * n → Inv h → X pcSH (4 * n) 0 (LSx i) [] h := by
  have hP := hC cdSH pcSH ok_SH
  intro n
  induction n with
  | zero =>
    intro i h h0 h1 h2 hI
    refine EL_s hP 2 (i' := 2) (ls' := LSx i) (sk' := [.inr (.inr 3000), .inl i]) (h' := h) rfl ?_
    refine EL_sn hP rfl rfl rfl ?_
    refine EL_s hP 2 (i' := 5) (ls' := LSx i) (sk' := [.inl ((L : Nat) - 6), .inl i]) (h' := h) rfl ?_
    refine EL_b hP rfl rfl (fun _ => ?_) (fun hf => ?_)
    · refine EL_s hP 1 (i' := 15) (ls' := LSx i) (sk' := [.inl 1]) (h' := h) rfl ?_
      exact EL_ret hP (v := some (.inl 1)) rfl (Or.inr ⟨rfl, Or.inr rfl⟩) rfl
    · rw [xcc_gt (by omega) (by omega) (by omega) (by omega)] at hf
      have := of_decide_eq_false hf
      omega
  | succ n ih =>
    intro i h h0 h1 h2 hI
    refine EL_s hP 2 (i' := 2) (ls' := LSx i) (sk' := [.inr (.inr 3000), .inl i]) (h' := h) rfl ?_
    refine EL_sn hP rfl rfl rfl ?_
    refine EL_s hP 2 (i' := 5) (ls' := LSx i) (sk' := [.inl ((L : Nat) - 6), .inl i]) (h' := h) rfl ?_
    refine EL_b hP rfl rfl (fun _ => ?_) (fun hf => ?_)
    · refine EL_s hP 1 (i' := 15) (ls' := LSx i) (sk' := [.inl 1]) (h' := h) rfl ?_
      exact EL_ret hP (v := some (.inl 1)) rfl (Or.inr ⟨rfl, Or.inr rfl⟩) rfl
    · rw [xcc_gt (by omega) (by omega) (by omega) (by omega)] at hf
      have hle := of_decide_eq_false hf
      have h6 : i + 6 ≤ (L : Int) := by omega
      have tail : ∀ h' : xH, Inv h' → X pcSH (4 * n) 12 (LSx i) [] h' := fun h' hI' => EL_s hP 2 (i' := 0) (ls' := LSx (i + 6)) (sk' := []) (h' := h') rfl (ih (i + 6) h' (by omega) (by omega) (by omega) hI')
      have key : ∀ q ∈ lsw, X pcSH (4 * n + 4) q.2 (LSx i) [] h := by
        unfold lsw
        refine List.forall_mem_cons.mpr ⟨hpc pcSH pcS0 16 0 228 _ _ _ _ rfl rfl (sg_0 (hC cdS0 pcS0 ok_S0) h0 h6 hxs hI (fun h' hI' => hpc pcS0 pcSH 35 12 3020 _ _ _ _ rfl rfl (tail h' hI'))), ?_⟩
        refine List.forall_mem_cons.mpr ⟨hpc pcSH pcS1 17 0 284 _ _ _ _ rfl rfl (sg_1 (hC cdS1 pcS1 ok_S1) h0 h6 hxs hI (fun h' hI' => hpc pcS1 pcSH 65 12 3020 _ _ _ _ rfl rfl (tail h' hI'))), ?_⟩
        refine List.forall_mem_cons.mpr ⟨hpc pcSH pcS2 18 0 376 _ _ _ _ rfl rfl (sg_2 (hC cdS2 pcS2 ok_S2) h0 h6 hxs hI (fun h' hI' => hpc pcS2 pcSH 35 12 3020 _ _ _ _ rfl rfl (tail h' hI'))), ?_⟩
        refine List.forall_mem_cons.mpr ⟨hpc pcSH pcS3 19 0 432 _ _ _ _ rfl rfl (sg_3 (hC cdS3 pcS3 ok_S3) h0 h6 hxs hI (fun h' hI' => hpc pcS3 pcSH 56 12 3020 _ _ _ _ rfl rfl (tail h' hI'))), ?_⟩
        refine List.forall_mem_cons.mpr ⟨hpc pcSH pcS4 20 0 523 _ _ _ _ rfl rfl (sg_4 (hC cdS4 pcS4 ok_S4) h0 h6 hxs hI (fun h' hI' => hpc pcS4 pcSH 38 12 3020 _ _ _ _ rfl rfl (tail h' hI'))), ?_⟩
        refine List.forall_mem_cons.mpr ⟨hpc pcSH pcS5 21 0 586 _ _ _ _ rfl rfl (sg_5 (hC cdS5 pcS5 ok_S5) h0 h6 hxs hI (fun h' hI' => hpc pcS5 pcSH 7 12 3020 _ _ _ _ rfl rfl (tail h' hI'))), ?_⟩
        refine List.forall_mem_cons.mpr ⟨hpc pcSH pcS6 22 0 599 _ _ _ _ rfl rfl (sg_6 (hC cdS6 pcS6 ok_S6) h0 h6 hxs hI (fun h' hI' => hpc pcS6 pcSH 35 12 3020 _ _ _ _ rfl rfl (tail h' hI'))), ?_⟩
        refine List.forall_mem_cons.mpr ⟨hpc pcSH pcS7 23 0 655 _ _ _ _ rfl rfl (sg_7 (hC cdS7 pcS7 ok_S7) h0 h6 hxs hI (fun h' hI' => hpc pcS7 pcSH 25 12 3020 _ _ _ _ rfl rfl (tail h' hI'))), ?_⟩
        refine List.forall_mem_cons.mpr ⟨hpc pcSH pcS8 24 0 696 _ _ _ _ rfl rfl (sg_8 (hC cdS8 pcS8 ok_S8) h0 h6 hxs hI (fun h' hI' => hpc pcS8 pcSH 53 12 3020 _ _ _ _ rfl rfl (tail h' hI'))), ?_⟩
        refine List.forall_mem_cons.mpr ⟨hpc pcSH pcS9 25 0 780 _ _ _ _ rfl rfl (sg_9 (hC cdS9 pcS9 ok_S9) h0 h6 hxs hI (fun h' hI' => hpc pcS9 pcSH 63 12 3020 _ _ _ _ rfl rfl (tail h' hI'))), ?_⟩
        refine List.forall_mem_cons.mpr ⟨hpc pcSH pcS10 26 0 876 _ _ _ _ rfl rfl (sg_10 (hC cdS10 pcS10 ok_S10) h0 h6 hxs hI (fun h' hI' => hpc pcS10 pcSH 63 12 3020 _ _ _ _ rfl rfl (tail h' hI'))), ?_⟩
        refine List.forall_mem_cons.mpr ⟨hpc pcSH pcS11 27 0 972 _ _ _ _ rfl rfl (sg_11 (hC cdS11 pcS11 ok_S11) h0 h6 hxs hI (fun h' hI' => hpc pcS11 pcSH 83 12 3020 _ _ _ _ rfl rfl (tail h' hI'))), ?_⟩
        refine List.forall_mem_cons.mpr ⟨hpc pcSH pcS12 28 0 1092 _ _ _ _ rfl rfl (sg_12 (hC cdS12 pcS12 ok_S12) h0 h6 hxs hI (fun h' hI' => hpc pcS12 pcSH 53 12 3020 _ _ _ _ rfl rfl (tail h' hI'))), ?_⟩
        refine List.forall_mem_cons.mpr ⟨hpc pcSH pcS13 29 0 1176 _ _ _ _ rfl rfl (sg_13 (hC cdS13 pcS13 ok_S13) h0 h6 hxs hI (fun h' hI' => hpc pcS13 pcSH 17 12 3020 _ _ _ _ rfl rfl (tail h' hI'))), ?_⟩
        refine List.forall_mem_cons.mpr ⟨hpc pcSH pcS14 30 0 1201 _ _ _ _ rfl rfl (sg_14 (hC cdS14 pcS14 ok_S14) h0 h6 hxs hI (fun h' hI' => hpc pcS14 pcSH 35 12 3020 _ _ _ _ rfl rfl (tail h' hI'))), ?_⟩
        refine List.forall_mem_cons.mpr ⟨hpc pcSH pcS15 31 0 1257 _ _ _ _ rfl rfl (sg_15 (hC cdS15 pcS15 ok_S15) h0 h6 hxs hI (fun h' hI' => hpc pcS15 pcSH 55 12 3020 _ _ _ _ rfl rfl (tail h' hI'))), ?_⟩
        refine List.forall_mem_cons.mpr ⟨hpc pcSH pcS16 32 0 1337 _ _ _ _ rfl rfl (sg_16 (hC cdS16 pcS16 ok_S16) h0 h6 hxs hI (fun h' hI' => hpc pcS16 pcSH 35 12 3020 _ _ _ _ rfl rfl (tail h' hI'))), ?_⟩
        refine List.forall_mem_cons.mpr ⟨hpc pcSH pcS17 33 0 1390 _ _ _ _ rfl rfl (sg_17 (hC cdS17 pcS17 ok_S17) h0 h6 hxs hI (fun h' hI' => hpc pcS17 pcSH 63 12 3020 _ _ _ _ rfl rfl (tail h' hI'))), ?_⟩
        refine List.forall_mem_cons.mpr ⟨hpc pcSH pcS18 34 0 1486 _ _ _ _ rfl rfl (sg_18 (hC cdS18 pcS18 ok_S18) h0 h6 hxs hI (fun h' hI' => hpc pcS18 pcSH 63 12 3020 _ _ _ _ rfl rfl (tail h' hI'))), ?_⟩
        refine List.forall_mem_cons.mpr ⟨hpc pcSH pcS19 35 0 1582 _ _ _ _ rfl rfl (sg_19 (hC cdS19 pcS19 ok_S19) h0 h6 hxs hI (fun h' hI' => hpc pcS19 pcSH 35 12 3020 _ _ _ _ rfl rfl (tail h' hI'))), ?_⟩
        refine List.forall_mem_cons.mpr ⟨hpc pcSH pcS20 36 0 1638 _ _ _ _ rfl rfl (sg_20 (hC cdS20 pcS20 ok_S20) h0 h6 hxs hI (fun h' hI' => hpc pcS20 pcSH 7 12 3020 _ _ _ _ rfl rfl (tail h' hI'))), ?_⟩
        refine List.forall_mem_cons.mpr ⟨hpc pcSH pcS21 37 0 1651 _ _ _ _ rfl rfl (sg_21 (hC cdS21 pcS21 ok_S21) h0 h6 hxs hI (fun h' hI' => hpc pcS21 pcSH 53 12 3020 _ _ _ _ rfl rfl (tail h' hI'))), ?_⟩
        refine List.forall_mem_cons.mpr ⟨hpc pcSH pcS22 38 0 1735 _ _ _ _ rfl rfl (sg_22 (hC cdS22 pcS22 ok_S22) h0 h6 hxs hI (fun h' hI' => hpc pcS22 pcSH 63 12 3020 _ _ _ _ rfl rfl (tail h' hI'))), ?_⟩
        refine List.forall_mem_cons.mpr ⟨hpc pcSH pcS23 39 0 1831 _ _ _ _ rfl rfl (sg_23 (hC cdS23 pcS23 ok_S23) h0 h6 hxs hI (fun h' hI' => hpc pcS23 pcSH 63 12 3020 _ _ _ _ rfl rfl (tail h' hI'))), ?_⟩
        refine List.forall_mem_cons.mpr ⟨hpc pcSH pcS24 40 0 1927 _ _ _ _ rfl rfl (sg_24 (hC cdS24 pcS24 ok_S24) h0 h6 hxs hI (fun h' hI' => hpc pcS24 pcSH 35 12 3020 _ _ _ _ rfl rfl (tail h' hI'))), ?_⟩
        refine List.forall_mem_cons.mpr ⟨hpc pcSH pcS25 41 0 1983 _ _ _ _ rfl rfl (sg_25 (hC cdS25 pcS25 ok_S25) h0 h6 hxs hI (fun h' hI' => hpc pcS25 pcSH 35 12 3020 _ _ _ _ rfl rfl (tail h' hI'))), ?_⟩
        refine List.forall_mem_cons.mpr ⟨hpc pcSH pcS26 42 0 2039 _ _ _ _ rfl rfl (sg_26 (hC cdS26 pcS26 ok_S26) h0 h6 hxs hI (fun h' hI' => hpc pcS26 pcSH 35 12 3020 _ _ _ _ rfl rfl (tail h' hI'))), ?_⟩
        refine List.forall_mem_cons.mpr ⟨hpc pcSH pcS27 43 0 2095 _ _ _ _ rfl rfl (sg_27 (hC cdS27 pcS27 ok_S27) h0 h6 hxs hI (fun h' hI' => hpc pcS27 pcSH 55 12 3020 _ _ _ _ rfl rfl (tail h' hI'))), ?_⟩
        refine List.forall_mem_cons.mpr ⟨hpc pcSH pcS28 44 0 2175 _ _ _ _ rfl rfl (sg_28 (hC cdS28 pcS28 ok_S28) h0 h6 hxs hI (fun h' hI' => hpc pcS28 pcSH 25 12 3020 _ _ _ _ rfl rfl (tail h' hI'))), ?_⟩
        refine List.forall_mem_cons.mpr ⟨hpc pcSH pcS29 45 0 2219 _ _ _ _ rfl rfl (sg_29 (hC cdS29 pcS29 ok_S29) h0 h6 hxs hI (fun h' hI' => hpc pcS29 pcSH 35 12 3020 _ _ _ _ rfl rfl (tail h' hI'))), ?_⟩
        refine List.forall_mem_cons.mpr ⟨hpc pcSH pcS30 46 0 2275 _ _ _ _ rfl rfl (sg_30 (hC cdS30 pcS30 ok_S30) h0 h6 hxs hI (fun h' hI' => hpc pcS30 pcSH 45 12 3020 _ _ _ _ rfl rfl (tail h' hI'))), ?_⟩
        refine List.forall_mem_cons.mpr ⟨hpc pcSH pcS31 47 0 2343 _ _ _ _ rfl rfl (sg_31 (hC cdS31 pcS31 ok_S31) h0 h6 hxs hI (fun h' hI' => hpc pcS31 pcSH 45 12 3020 _ _ _ _ rfl rfl (tail h' hI'))), ?_⟩
        refine List.forall_mem_cons.mpr ⟨hpc pcSH pcS32 48 0 2411 _ _ _ _ rfl rfl (sg_32 (hC cdS32 pcS32 ok_S32) h0 h6 hxs hI (fun h' hI' => hpc pcS32 pcSH 35 12 3020 _ _ _ _ rfl rfl (tail h' hI'))), ?_⟩
        refine List.forall_mem_cons.mpr ⟨hpc pcSH pcS33 49 0 2467 _ _ _ _ rfl rfl (sg_33 (hC cdS33 pcS33 ok_S33) h0 h6 hxs hI (fun h' hI' => hpc pcS33 pcSH 25 12 3020 _ _ _ _ rfl rfl (tail h' hI'))), ?_⟩
        refine List.forall_mem_cons.mpr ⟨hpc pcSH pcS34 50 0 2511 _ _ _ _ rfl rfl (sg_34 (hC cdS34 pcS34 ok_S34) h0 h6 hxs hI (fun h' hI' => hpc pcS34 pcSH 35 12 3020 _ _ _ _ rfl rfl (tail h' hI'))), ?_⟩
        refine List.forall_mem_cons.mpr ⟨hpc pcSH pcS35 51 0 2567 _ _ _ _ rfl rfl (sg_35 (hC cdS35 pcS35 ok_S35) h0 h6 hxs hI (fun h' hI' => hpc pcS35 pcSH 65 12 3020 _ _ _ _ rfl rfl (tail h' hI'))), ?_⟩
        refine List.forall_mem_cons.mpr ⟨hpc pcSH pcS36 52 0 2659 _ _ _ _ rfl rfl (sg_36 (hC cdS36 pcS36 ok_S36) h0 h6 hxs hI (fun h' hI' => hpc pcS36 pcSH 38 12 3020 _ _ _ _ rfl rfl (tail h' hI'))), ?_⟩
        refine List.forall_mem_cons.mpr ⟨hpc pcSH pcS37 53 0 2722 _ _ _ _ rfl rfl (sg_37 (hC cdS37 pcS37 ok_S37) h0 h6 hxs hI (fun h' hI' => hpc pcS37 pcSH 45 12 3020 _ _ _ _ rfl rfl (tail h' hI'))), ?_⟩
        refine List.forall_mem_cons.mpr ⟨hpc pcSH pcS38 54 0 2790 _ _ _ _ rfl rfl (sg_38 (hC cdS38 pcS38 ok_S38) h0 h6 hxs hI (fun h' hI' => hpc pcS38 pcSH 7 12 3020 _ _ _ _ rfl rfl (tail h' hI'))), ?_⟩
        refine List.forall_mem_cons.mpr ⟨hpc pcSH pcS39 55 0 2803 _ _ _ _ rfl rfl (sg_39 (hC cdS39 pcS39 ok_S39) h0 h6 hxs hI (fun h' hI' => hpc pcS39 pcSH 45 12 3020 _ _ _ _ rfl rfl (tail h' hI'))), ?_⟩
        refine List.forall_mem_cons.mpr ⟨hpc pcSH pcS40 56 0 2871 _ _ _ _ rfl rfl (sg_40 (hC cdS40 pcS40 ok_S40) h0 h6 hxs hI (fun h' hI' => hpc pcS40 pcSH 17 12 3020 _ _ _ _ rfl rfl (tail h' hI'))), ?_⟩
        refine List.forall_mem_cons.mpr ⟨hpc pcSH pcS41 57 0 2896 _ _ _ _ rfl rfl (sg_41 (hC cdS41 pcS41 ok_S41) h0 h6 hxs hI (fun h' hI' => hpc pcS41 pcSH 45 12 3020 _ _ _ _ rfl rfl (tail h' hI'))), ?_⟩
        refine List.forall_mem_cons.mpr ⟨hpc pcSH pcS42 58 0 2964 _ _ _ _ rfl rfl (sg_42 (hC cdS42 pcS42 ok_S42) h0 h6 hxs hI (fun h' hI' => hpc pcS42 pcSH 35 12 3020 _ _ _ _ rfl rfl (tail h' hI'))), ?_⟩
        exact fun _ h => absurd h List.not_mem_nil
      refine EL_s hP 2 (i' := 8) (ls' := LSx i) (sk' := [.inl i, .inr (.inr 3000)]) (h' := h) rfl ?_
      refine EL_sl hP rfl rfl rfl (by omega) (by omega) ?_
      refine EL_s hP 3 (i' := xsw lsw 12 (w32 (xand (xs i) 63))) (ls' := LSx i) (sk' := []) (h' := h) rfl ?_
      rcases xsw_in lsw 12 (w32 (xand (xs i) 63)) with hz | ⟨q, hq, hz⟩
      · rw [hz]
        exact EL_mono hP (b := 4 * n) (by omega) (tail h hI)
      · rw [hz]
        exact key q hq
section XLAWF
variable {p : Program} {l : Launch} {e : Env} {s : State} {m : MethodId} {below : List Frame} {meth : Method} {c : Code} {b L : Nat} {xs : Int → Int} {D : va_G} {tys : List (ClassId × FieldType)} {ρ : Nat → Nat} {ca : FieldType → ClassId} {sz0 : Nat} {ST : State → Prop}
abbrev xPL (p : Program) (l : Launch) (e : Env) (s : State) (m : MethodId) (below : List Frame) (meth : Method) (c : Code) (b : Nat) (D : va_G) (ρ : Nat → Nat) (ca : FieldType → ClassId) (sz0 : Nat) (pcs : List Nat) : xPr := xP p l e room_1 s m #[Value.ref b] below meth c (lw_Z below #[Value.ref b] s) 7 pcs D vcl (xA sz0) ρ ca G0 601024 7293034
theorem lawC (F : xFx l D tys ρ ca sz0 ST) (hsz0 : sz0 = s.heap.size) (hx : p.tables.exec = Jvm.exec) (hb : c.code = code) (hr : meth.sig.returnType = ret) (hml : c.maxLocals = 7) (hown : s.vm.findClass RL = some m.cls) (hts : ∀ w ∈ xtg, w.before #[Value.ref b] s = true) (hK : va_K D vcl tys s) (hs0 : ST s) (hlocks : meth.locks = false) (hscr : xScr ρ sz0 s (some (L, xs))) (cd : List xI) (pcs : List Nat) (hok : ∀ (i : Nat) (x : xI), cd[i]? = some x → xok MT vcl RL code 7 pcs i x) : LCl cd L xs QL (xPL p l e s m below meth c b D ρ ca sz0 pcs) := by
  obtain ⟨hca, hST, hdec, hthr, hDD, hstr, hnc⟩ := id F
  have hsz : sz0 ≤ s.heap.size := by omega
  refine xL_ok (d := 40) hx hb hown hts hK hok vcl_ok G0_ok hca hml hsz hs0 hST hdec hDD (by decide) (by decide) (Nat.le_refl _) (Nat.le_refl _) (fun b1 mm as h Q9 hr9 M hM => x_sound2 MT_ok vcl_ok G0_ok hca hST hdec hthr hDD hstr 40 b1 mm as h Q9 hr9 M hM) ?_ (fun r j E h9 => by cases h9) hscr
    (fun b1 hn as h Q' hh k hk pc lsr H locs cells slots rest hd9 hls hP hS hw hc1 hc2 kk => hW_all F (k, hn) hk p e room_1 s m _ below meth c _ code 7 _ _ hx hb hown hts hK hml hsz hs0 (by decide) (by decide) (Nat.le_refl _) (Nat.le_refl _) b1 as h Q' hh pc lsr H locs cells slots rest hd9 hls hP hS hw hc1 hc2 kk)
  intro b9 i ls h x v hc hs hQ pc lsr H locs cells slots hpc hn hl hP hD hS hb1 hb2
  obtain ⟨pc0, hpc0, ho⟩ := hok i x hc
  cases hpc0.symm.trans hpc
  cases hQ
  have hi : x.1 = .ireturn := by
    unfold xrt at hs
    split at hs
    · assumption
    · rename_i e; cases e
    · rename_i e; cases e
    · rename_i e; cases e
    · cases hs
  rw [hi] at ho
  refine va_forget (fun q hq => ?_) (W.widen (k := 601024) (n := 7293034) (by omega) (by omega) (lw_ret hx hb hr hlocks ho.1))
  have := hS.2.2 q hq
  unfold xA at this
  omega
theorem xP_pc {pcs pcs' : List Nat} {i i' pc b9 : Nat} {ls : xL} {sk : List xV} {h : xH} (h1 : pcs[i]? = some pc) (h2 : pcs'[i']? = some pc) (hk : xPL p l e s m below meth c b D ρ ca sz0 pcs' b9 i' ls sk h) : xPL p l e s m below meth c b D ρ ca sz0 pcs b9 i ls sk h := by
  intro pc' lsr H locs cells slots hpc hn hl hP hD hS hb1 hb2
  cases h1.symm.trans hpc
  exact hk _ lsr H locs cells slots h2 hn hl hP hD hS hb1 hb2
end XLAWF

