/-! a heap's size in a run; Arrays.fill; an array of int rows made at once -/
section BSZ
variable {p : Program} {l : Launch} {e : Env} {R : Room} {s : State} {m : MethodId} {args : Array Value} {below : List Frame} {meth : Method} {c : Code} {H : Heap} {locs : List Loc} {cells slots : Nat} {Z : State → Prop} {g : JFrame}
theorem W_size {N : Nat} (h1 : s.heap.size + cells ≤ N) (h2 : N ≤ H.size) (k : H.size = N → W p l e R s m args below meth c H locs cells slots Z g) : W p l e R s m args below meth c H locs cells slots Z g := by
  intro T hT X
  have h3 := X.same.2.2.1
  have h4 : (T.setVm s.vm).heap = H := hT
  rw [h4] at h3
  exact k (by omega) T hT X
end BSZ
theorem arrV_cong {cA : ClassId} {N : Nat} {f g : Nat → Value} (h : ∀ j, j < N → f j = g j) : arrV cA N f = arrV cA N g := by
  unfold arrV
  congr 1
  congr 1
  funext j
  exact h j.val j.isLt
def bf0 : Room := { frames := 0, cells := 0, slots := 0, locals := 0 }
theorem b_fill (l : Launch) {D : va_G} {a n : Nat} {cA : ClassId} {f : Nat → Int32} {v : Int32} (hn : n < 2 ^ 31) : Met l yJ7_fill_53178 (Cond.code yJ7_fill_53178 cJ7_fill_53178 4 none :: xtg) bf0 (va_Pc [.ref a, .int v] (fun U => va_K D vcl [(cA, .int)] U ∧ va_P D vcl [(a, .inl (cA, n, .inl f))] U.heap)) (fun _ st o t => o = .returned none ∧ va_P D vcl [(a, .inl (cA, n, .inl (fun _ => v)))] t.heap ∧ va_F (fun q => q = a) st t) 0 0 (fun q => q = a) := by
  refine Met.ofW (cc := cJ7_fill_53178) (maxL := 4) (ret := none) (by decide) rfl ?_
  intro p e s m args below meth c s₁ B hml hv
  obtain ⟨rfl, hK, hP⟩ := hv
  have hx := B.exec
  have hb := B.bytes
  have hr := B.returns
  have hlocks : meth.locks = false := B.notSynchronized
  have hl := lv_entry [Value.ref a, .int v] (n := 4) (Nat.le_of_ble_eq_true rfl)
  rw [lg_entry_eq]
  have hD : ∀ f9 : Nat → Int32, va_D (fun q => q = a) [(a, .inl (cA, n, .inl f9))] := fun f9 => ⟨fun i j x y h1 h2 _ => by
    have a1 := (List.getElem?_eq_some_iff.mp h1).1
    have a2 := (List.getElem?_eq_some_iff.mp h2).1
    simp only [List.length_cons, List.length_nil] at a1 a2
    omega, fun k q h1 => by
    have a1 := (List.getElem?_eq_some_iff.mp h1).1
    simp only [List.length_cons, List.length_nil] at a1
    rw [show k = 0 by omega] at h1
    cases h1
    rfl⟩
  have key : ∀ (k i : Nat), k + i = n → ∀ (H : Heap) (locs : List Loc) (f9 : Nat → Int32) (lsr : Array Slot), va_P D vcl [(a, .inl (cA, n, .inl f9))] H → va_S (fun q => q = a) s.heap H locs → lv_has lsr 4 [(0, .ref a), (1, .int v), (2, .int (nI i)), (3, .int (nI n))] → (∀ j, j < i → f9 j = v) → W p l e (headSpec (Cond.code yJ7_fill_53178 cJ7_fill_53178 4 none :: xtg) bf0).room s m #[.ref a, .int v] below meth c H locs 0 0 (MQ below (fun _ st o t => o = .returned none ∧ va_P D vcl [(a, .inl (cA, n, .inl (fun _ => v)))] t.heap ∧ va_F (fun q => q = a) st t) #[.ref a, .int v] s 0 0 (fun q => q = a)) (F0 m 5 lsr []) := by
    intro k
    induction k with
    | zero =>
      intro i hi H locs f9 lsr hP9 hS9 hl9 hf
      refine lv_iload_n (k := 2) (i := 2) (x := nI i) hx hb (by decide +kernel) rfl (lv_at hl9 2 rfl) ?_
      refine lv_iload_n (k := 3) (i := 3) (x := nI n) hx hb (by decide +kernel) rfl (lv_at hl9 3 rfl) ?_
      refine lv_icmp_ge (off := 13) (tgt := 20) hx hb (by decide +kernel) (by decide) (fun _ => ?_) (fun h9 => absurd (by rw [show i = n by omega]; exact Int32.le_refl _) h9)
      refine W.vret hx hb hr (fun t ht _ => ⟨rfl, ?_, hS9.F ht⟩) hS9.2.2 (by decide +kernel) hlocks
      rw [ht]
      intro k9 q9 hq9
      have a1 := (List.getElem?_eq_some_iff.mp hq9).1
      simp only [List.length_cons, List.length_nil] at a1
      rw [show k9 = 0 by omega] at hq9
      cases hq9
      have h1 : H[a]? = some (vp_cell cA (n, .inl f9)) := hP9 0 _ rfl
      show H[a]? = some (vp_cell cA (n, .inl (fun _ => v)))
      rw [h1, vp_cell_i, vp_cell_i]
      exact congrArg some (arrV_cong (fun j hj => by rw [hf j (by omega)]))
    | succ k ih =>
      intro i hi H locs f9 lsr hP9 hS9 hl9 hf
      refine lv_iload_n (k := 2) (i := 2) (x := nI i) hx hb (by decide +kernel) rfl (lv_at hl9 2 rfl) ?_
      refine lv_iload_n (k := 3) (i := 3) (x := nI n) hx hb (by decide +kernel) rfl (lv_at hl9 3 rfl) ?_
      refine lv_icmp_ge (off := 13) (tgt := 20) hx hb (by decide +kernel) (by decide) (fun h9 => absurd h9 (Int32.not_le.mpr (nI_lt (by omega) hn))) (fun _ => ?_)
      refine lv_aload_n (k := 0) (i := 0) (x := a) hx hb (by decide +kernel) rfl (lv_at hl9 0 rfl) ?_
      refine lv_iload_n (k := 2) (i := 2) (x := nI i) hx hb (by decide +kernel) rfl (lv_at hl9 2 rfl) ?_
      refine lv_iload_n (k := 1) (i := 1) (x := v) hx hb (by decide +kernel) rfl (lv_at hl9 1 rfl) ?_
      refine va_iast hx hb hK hP9 (hD f9) hS9 0 0 rfl rfl (vp_in_nI (by omega) hn) (by decide +kernel) (fun H1 locs1 hP1 _ hS1 => ?_)
      refine lv_iinc (k := 2) (n := 1) (x := nI i) hx hb (by decide +kernel) hl9 rfl (v := nI (i + 1)) (nI_1 i) (by decide) rfl (fun ls2 hl2 => ?_)
      refine lv_goto (off := -12) (tgt := 5) hx hb (by decide +kernel) (by decide) ?_
      rw [nI_clamp (by omega)] at hP1
      exact ih (i + 1) (by omega) H1 locs1 (upd f9 i v) ls2 hP1 hS1 (lv_sub hl2 [1, 2, 0, 3] rfl) (fun j hj => by
        unfold upd
        by_cases e : j = i
        · simp [e]
        · rw [if_neg e]; exact hf j (by omega))
  refine lv_iconst (n := 0) (v := 0) hx hb (by decide +kernel) (by decide) ?_
  refine lv_istore_n (k := 2) (i := 2) hx hb (by decide +kernel) rfl hl (by decide) rfl (fun ls2 hl2 => ?_)
  refine lv_aload_n (k := 0) (i := 0) (x := a) hx hb (by decide +kernel) rfl (lv_at hl2 1 rfl) ?_
  refine va_alen (v := nI n) hx hb hK hP 0 0 rfl rfl rfl (by decide +kernel) ?_
  refine lv_istore_n (k := 3) (i := 3) hx hb (by decide +kernel) rfl hl2 (by decide) rfl (fun ls3 hl3 => ?_)
  exact key n 0 (by omega) s.heap [] f ls3 hP va_S.rf (lv_sub hl3 [2, 3, 1, 0] rfl) (fun j hj => by omega)

/-! rows of a row, made at once -/
def mO (cA : ClassId) (N h0 i : Nat) : Cell := arrV cA N (fun j => if j < i then .ref (h0 + 1 + j) else .null)
def mI (comp : ClassId) (M : Nat) : Cell := arrV comp M (fun _ => .int 0)
theorem mO_s (cA : ClassId) (N h0 i : Nat) : (mO cA N h0 i).setSlot i (.ref (h0 + 1 + i)) = mO cA N h0 (i + 1) := by
  unfold mO
  rw [arrV_store]
  congr 1
  funext j
  unfold updV
  by_cases e : j = i
  · subst e; simp
  · rw [if_neg e]
    show (if j < i then Value.ref (h0 + 1 + j) else .null) = _
    by_cases h : j < i
    · rw [if_pos h, if_pos (by omega)]
    · rw [if_neg h, if_neg (by omega)]
/-- the state behind i rows -/
def mT (T : State) (cA comp : ClassId) (N M : Nat) : Nat → State
  | 0 => T.pushCell (mO cA N T.heap.size 0)
  | i + 1 => ((mT T cA comp N M i).pushCell (mI comp M)).setCell T.heap.size (mO cA N T.heap.size (i + 1))
theorem mT_f (T : State) (cA comp : ClassId) (N M : Nat) : ∀ i : Nat, (mT T cA comp N M i).vm = T.vm ∧ (mT T cA comp N M i).heap.size = T.heap.size + 1 + i ∧ (mT T cA comp N M i).slotsUsed = T.slotsUsed + N + i * M ∧ (mT T cA comp N M i).heap[T.heap.size]? = some (mO cA N T.heap.size i) ∧ (∀ q, q < T.heap.size → (mT T cA comp N M i).heap[q]? = T.heap[q]?) ∧ ∀ j, j < i → (mT T cA comp N M i).heap[T.heap.size + 1 + j]? = some (mI comp M)
  | 0 => ⟨rfl, by simp [mT], by simp [mT, mO, arrV_size], by simp [mT], fun q hq => State.heap_pushCell_of_lt _ _ hq, fun j hj => absurd hj (Nat.not_lt_zero _)⟩
  | i + 1 => by
    obtain ⟨a1, a2, a3, a4, a5, a6⟩ := mT_f T cA comp N M i
    have hl : T.heap.size < (mT T cA comp N M i).heap.size := by omega
    have hc : ((mT T cA comp N M i).pushCell (mI comp M)).heap[T.heap.size]? = some (mO cA N T.heap.size i) := by rw [State.heap_pushCell_of_lt (h := hl)]; exact a4
    refine ⟨by simp [mT, a1], by simp [mT, State.setCell, a2]; omega, ?_, State.heap_setCell_self hc, fun q hq => ?_, fun j hj => ?_⟩
    · simp only [mT, State.setCell]
      simp [a3, mI, arrV_size, Nat.succ_mul]
      omega
    · show (((mT T cA comp N M i).pushCell (mI comp M)).setCell T.heap.size _).heap[q]? = _
      rw [State.heap_setCell_other (Nat.ne_of_gt hq), State.heap_pushCell_of_lt (h := Nat.lt_trans hq hl)]
      exact a5 q hq
    · show (((mT T cA comp N M i).pushCell (mI comp M)).setCell T.heap.size _).heap[T.heap.size + 1 + j]? = _
      rw [State.heap_setCell_other (show T.heap.size ≠ T.heap.size + 1 + j by omega)]
      by_cases e : j < i
      · rw [State.heap_pushCell_of_lt (h := show T.heap.size + 1 + j < (mT T cA comp N M i).heap.size by omega)]
        exact a6 j e
      · rw [show T.heap.size + 1 + j = (mT T cA comp N M i).heap.size by omega]
        exact State.heap_pushCell_size _ _
theorem mT_top (T : State) (f : JFrame) (cA comp : ClassId) (N M : Nat) : ∀ i : Nat, mT (T.setTop f) cA comp N M i = (mT T cA comp N M i).setTop f
  | 0 => rfl
  | i + 1 => by simp only [mT, mT_top T f cA comp N M i, State.heap_setTop, State.pushCell_setTop, State.setCell_setTop]
section MWP
variable {E : CtlPost} {e : Env} {d : Bool} {acts : List Action} {s : State}
theorem m_arr {k : Class} {c comp : ClassId} {type : FieldType} {n : Nat} {x : Value} (hk : s.vm.classes[c]? = some k) (hkind : k.kind = .array comp type) (h1 : ¬ n > e.platform.arrayLengthLimit) (h2 : ¬ n * componentBytes type > e.platform.maxHeapBytes) (hfit : fits type x = true) (hdef : x.isDefault = true) (h3 : s.heap.size < e.platform.maxCells) (h4 : s.slotsUsed + n ≤ e.platform.maxSlots) {Q : Addr → Pre} (hq : Q s.heap.size d acts (s.pushCell (arrV c n (fun _ => x)))) : wp (Jvm.newArray c n x) Q E e d acts s := by
  have g1 : ∀ i v, (Array.replicate n x)[i]? = some v → s.fitsSlot c .none i v = true := fun i v hv => by
    rw [Array.getElem?_replicate] at hv
    split at hv
    · cases hv
      simp [State.fitsSlot, State.slotType?, hk, hkind, hfit]
    · cases hv
  have g2 : allocActs (Array.replicate n x) s.heap.size acts = acts := by
    unfold allocActs
    rw [if_pos]
    rw [Array.all_replicate]
    split <;> simp [hdef]
  rw [← arrV_new] at hq
  simp only [Jvm.newArray, Jvm.arrayFits, wp_bind', W.ask, W.ite, h1, if_false, wp_pure', W.theClass, hk, hkind, h2, W.alloc, W.stop, Option.some.injEq, exists_eq_left', Array.size_replicate, g2]
  rw [if_neg (by omega)]
  exact ⟨h3, h4, g1, hq⟩
theorem m_rows {kA kC : Class} {cA comp cc : ClassId} {n k : Int32} (hA : s.vm.classes[cA]? = some kA) (hkA : kA.kind = .array comp (.array .int)) (hC : s.vm.classes[comp]? = some kC) (hkC : kC.kind = .array cc .int) (hn : ¬ n < 0) (hk : ¬ k < 0) (l1 : ¬ n.toNatClampNeg > e.platform.arrayLengthLimit) (l2 : ¬ n.toNatClampNeg * componentBytes (.array .int) > e.platform.maxHeapBytes) (l3 : ¬ k.toNatClampNeg > e.platform.arrayLengthLimit) (l4 : ¬ k.toNatClampNeg * componentBytes .int > e.platform.maxHeapBytes)
    (h3 : s.heap.size + 1 + n.toNatClampNeg ≤ e.platform.maxCells) (h4 : s.slotsUsed + n.toNatClampNeg + n.toNatClampNeg * k.toNatClampNeg ≤ e.platform.maxSlots) {Q : Addr → Pre} (hq : ∀ d' acts', Q s.heap.size d' acts' (mT s cA comp n.toNatClampNeg k.toNatClampNeg n.toNatClampNeg)) : wp (multianewarray.make cA [n, k]) Q E e d acts s := by
  generalize hN : n.toNatClampNeg = N at *
  generalize hM : k.toNatClampNeg = M at *
  have z0 : s.slotsUsed + N ≤ e.platform.maxSlots := by have := Nat.zero_le (N * M); omega
  rw [multianewarray.make]
  simp only [wp_bind', W.ite, hn, if_false, wp_pure', W.theClass, hA, hkA, Option.some.injEq, exists_eq_left', hN]
  refine m_arr hA hkA l1 l2 rfl rfl (by omega) z0 ?_
  have hf : ([k].find? (· < 0)) = none := by simp [hk]
  simp only [hf]
  rw [ite_self, wp_bind', Std.Legacy.Range.forIn_eq_forIn_range']
  have hs : ([:N] : Std.Legacy.Range).size = N := by simp [Std.Legacy.Range.size]
  rw [hs]
  show wp (forIn (List.range' 0 N 1) PUnit.unit _) _ E e d acts _
  have e0 : s.pushCell (arrV cA N fun _ => Value.null) = mT s cA comp N M 0 := by
    show _ = s.pushCell (mO cA N s.heap.size 0)
    unfold mO
    simp
  rw [e0]
  refine wp_forIn_inv (fun rest s' => ∃ i, i ≤ N ∧ rest = List.range' i (N - i) ∧ s' = mT s cA comp N M i) _ _ ⟨0, Nat.zero_le _, rfl, rfl⟩ ?_ ?_
  · rintro x rest s' d' acts' Q' ⟨i, hi, hr, rfl⟩ hnext
    have hlt : i < N := by
      rcases Nat.lt_or_ge i N with h | h
      · exact h
      · rw [show N - i = 0 by omega] at hr; simp at hr
    rw [show N - i = (N - (i + 1)) + 1 by omega, List.range'_succ] at hr
    obtain ⟨rfl, hrest⟩ := List.cons.inj hr
    obtain ⟨a1, a2, a3, a4, a5, a6⟩ := mT_f s cA comp N M x
    have hmul : x * M + M ≤ N * M := by
      have := Nat.mul_le_mul_right M (show x + 1 ≤ N from hlt)
      rwa [Nat.succ_mul] at this
    have hl0 : s.heap.size < (mT s cA comp N M x).heap.size := by omega
    simp only [wp_bind']
    rw [multianewarray.make]
    simp only [wp_bind', W.ite, hk, if_false, wp_pure', W.theClass, a1, hC, hkC, Option.some.injEq, exists_eq_left', hM]
    refine m_arr (by rw [a1]; exact hC) hkC l3 l4 rfl rfl (by omega) (by rw [a3]; omega) ?_
    simp only [wp_bind', W.writeLoc, wp_pure']
    have b1 : (mO cA N s.heap.size x).slots.size = N := arrV_size _ _ _
    refine ⟨mO cA N s.heap.size x, by rw [State.heap_pushCell_of_lt (h := hl0)]; exact a4, by simp [mO, arrV], by rw [b1]; exact hlt, ?_, hnext _ _ _ ⟨x + 1, hlt, hrest, ?_⟩⟩
    · simp [State.fitsSlot, State.slotType?, a1, hA, hkA, mO, arrV, fits]
    · rw [a2, mO_s]
      rfl
  · rintro s' d' acts' ⟨i, hi, hr, rfl⟩
    have e1 : i = N := by
      rcases Nat.lt_or_ge i N with h | h
      · rw [show N - i = (N - (i + 1)) + 1 by omega, List.range'_succ] at hr; cases hr
      · omega
    subst e1
    simp only [wp_pure']
    exact hq _ _
end MWP
/-- rows of rows: their class -/
def bOv (s : State) : Prop := ∃ (comp cA : ClassId) (kA : Class), s.vm.findClass "[I" = some comp ∧ s.vm.classes[cA]? = some kA ∧ kA.kind = .array comp (.array .int) ∧ s.vm.findClass "[[I" = some cA
theorem bOv.moved {u U : State} (hv : u.vm.Alike U.vm) (h : bOv u) : bOv U := by
  obtain ⟨comp, cA, kA, h1, h2, h3, h4⟩ := h
  obtain ⟨kA', h5, h6⟩ := hv.2.2 _ _ h2
  exact ⟨comp, cA, kA', by rw [hv.findClass]; exact h1, h5, by rw [h6]; exact h3, by rw [hv.findClass]; exact h4⟩
theorem m_over {args : Array Value} {s : State} (h : (Cond.arrayOver (.array .int)).before args s = true) : bOv s := by
  simp only [Cond.before, Cond.holds, Cond.value, beq_iff_eq] at h
  cases hc : s.vm.findClass (FieldType.array .int).toString with
  | none => simp [hc] at h
  | some comp =>
    simp only [hc, Option.bind_some, Option.bind_eq_some_iff, Option.map_eq_some_iff] at h
    obtain ⟨cA, hi, k, hk, hb⟩ := h
    obtain ⟨hlt, hp, -⟩ := Array.findIdx?_eq_some_iff_getElem.mp hi
    have hkk : s.vm.classes[cA] = k := (Array.getElem?_eq_some_iff.mp hk).2
    rw [hkk] at hp
    cases hkind : k.kind with
    | array component ty =>
      rw [hkind] at hb hp
      simp at hb hp
      exact ⟨comp, cA, k, hc, hk, by rw [hkind, hp, hb.1], hb.2⟩
    | _ => rw [hkind] at hb; simp at hb
section MST
variable {p : Program} {l : Launch} {e : Env} {R : Room} {s : State} {m : MethodId} {args : Array Value} {below : List Frame} {meth : Method} {c : Code} {H : Heap} {locs : List Loc} {cells slots : Nat} {Z : State → Prop} {T : State}
theorem mT_stand (X : Stand p l e R s m args below meth c T locs cells slots) (cA comp : ClassId) (N M : Nat) : ∀ i : Nat, Stand p l e R s m args below meth c (mT T cA comp N M i) (locs ++ (List.range i).map fun j => ⟨T.heap.size, j⟩) (cells + 1 + i) (slots + N + i * M)
  | 0 => by
    have h := X.pushed (mO cA N T.heap.size 0)
    rw [show (mO cA N T.heap.size 0).slots.size = N from arrV_size _ _ _] at h
    simpa [mT] using h
  | i + 1 => by
    have Xi := mT_stand X cA comp N M i
    obtain ⟨a1, a2, a3, a4, a5, a6⟩ := mT_f T cA comp N M i
    have hl0 : T.heap.size < (mT T cA comp N M i).heap.size := by omega
    have hc : ((mT T cA comp N M i).pushCell (mI comp M)).heap[T.heap.size]? = some (mO cA N T.heap.size i) := by rw [State.heap_pushCell_of_lt (h := hl0)]; exact a4
    have h := (Xi.pushed (mI comp M)).stored hc i (.ref (T.heap.size + 1 + i))
    rw [show (mI comp M).slots.size = M from arrV_size _ _ _, mO_s] at h
    have e2 : (locs ++ (List.range (i + 1)).map fun j => (⟨T.heap.size, j⟩ : Loc)) = (locs ++ (List.range i).map fun j => (⟨T.heap.size, j⟩ : Loc)) ++ [⟨T.heap.size, i⟩] := by simp [List.range_succ, List.append_assoc]
    have e3 : slots + N + (i + 1) * M = slots + N + i * M + M := by rw [Nat.succ_mul]; omega
    rw [e2, e3]
    exact h
theorem b_multi {cc : ByteArray} {own : String} {index pc N M : Nat} {ls : Array Slot} {rest : List Value} (hexec : p.tables.exec = Jvm.exec) (hb : c.code = cc) (hown : s.vm.findClass own = some m.cls) (hclink : (Cond.classLink own index "[[I").before args s = true) (hover : bOv s) (harr : (Cond.arrayClass .int).before args s = true) (hdg : decode cc pc = .ok (.multianewarray index 2, 4)) (hN : N < 1000) (hM : M < 100000) (hcells : cells + (1 + N) ≤ R.cells) (hslots : slots + (N + N * M) ≤ R.slots)
    (kk : ∀ (H1 : Heap) (locs1 : List Loc) (cA comp : ClassId), s.vm.findClass "[[I" = some cA → s.vm.findClass "[I" = some comp → H1.size = H.size + 1 + N → (∀ q, q < H.size → H1[q]? = H[q]?) → H1[H.size]? = some (mO cA N H.size N) → (∀ j, j < N → H1[H.size + 1 + j]? = some (mI comp M)) → (∀ z ∈ locs1, z ∈ locs ∨ z.base = H.size) → W p l e R s m args below meth c H1 locs1 (cells + 1 + N) (slots + N + N * M) Z (F0 m (pc + 4) ls (.ref H.size :: rest))) : W p l e R s m args below meth c H locs cells slots Z (F0 m pc ls (.int (nI M) :: .int (nI N) :: rest)) := by
  intro T hT X
  subst hT; subst hb
  have hpl : e.platform.magicAccessors = ({} : Platform).magicAccessors := by rw [X.admits.platform]
  obtain ⟨comp, cA, kA, hcomp, hkA, hkindA, hnameA⟩ := hover
  obtain ⟨comp', kC, cc9, hcomp', hkC, hkindC⟩ := Cond.arrayClass_spec harr
  have ec : comp' = comp := Option.some.inj (hcomp'.symm.trans hcomp)
  subst ec
  obtain ⟨c0, hfc0, hcl⟩ := Cond.classLink_spec hown hclink e.platform hpl
  cases hnameA.symm.trans hfc0
  obtain ⟨hg₁, hwarm₁, hready₁⟩ := State.classEntry (e := e) X.warmed hcl
  generalize T.vm.noted m.cls index (.cls cA) = vm₁ at hg₁ hwarm₁ hready₁
  obtain ⟨kA₁, hkA₁, heA⟩ := hwarm₁.alike.2.2 _ _ hkA
  obtain ⟨kC₁, hkC₁, heC⟩ := hwarm₁.alike.2.2 _ _ hkC
  have hkindA₁ : kA₁.kind = .array comp' (.array .int) := by rw [heA]; exact hkindA
  have hkindC₁ : kC₁.kind = .array cc9 .int := by rw [heC]; exact hkindC
  have X₁ := X.noted hwarm₁
  obtain ⟨hr1, hr2⟩ := X.roomAbove hcells hslots
  have eN : (nI N).toNatClampNeg = N := nI_clamp (by omega)
  have eM : (nI M).toNatClampNeg = M := nI_clamp (by omega)
  have XF := mT_stand X₁ cA comp' N M N
  obtain ⟨a1, a2, a3, a4, a5, a6⟩ := mT_f (T.setVm vm₁) cA comp' N M N
  obtain ⟨t, b1, b2⟩ := kk (mT (T.setVm vm₁) cA comp' N M N).heap _ cA comp' hnameA hcomp a2 a5 a4 a6 (fun z hz => by
    rcases List.mem_append.mp hz with h | h
    · exact Or.inl h
    · obtain ⟨j, -, rfl⟩ := List.mem_map.mp h
      exact Or.inr rfl) _ rfl XF
  refine ⟨t, ?_, b2⟩
  have l1 : ¬ (nI N).toNatClampNeg > e.platform.arrayLengthLimit := by rw [Launch.admits_arrayLengthLimit X.admits, eN]; omega
  have l2 : ¬ (nI N).toNatClampNeg * componentBytes (.array .int) > e.platform.maxHeapBytes := by
    rw [Launch.admits_maxHeapBytes X.admits, eN]; show ¬ N * 4 > 536870912; omega
  have l3 : ¬ (nI M).toNatClampNeg > e.platform.arrayLengthLimit := by rw [Launch.admits_arrayLengthLimit X.admits, eM]; omega
  have l4 : ¬ (nI M).toNatClampNeg * componentBytes .int > e.platform.maxHeapBytes := by
    rw [Launch.admits_maxHeapBytes X.admits, eM]; show ¬ M * 4 > 536870912; omega
  jvm_step X.here [hexec, hdg]
  simp only [multianewarray.sem, wp_bind', W.resolveClassAt_links (State.method?_setTop (F0 m pc ls (.int (nI M) :: .int (nI N) :: rest)) X.here.top) hg₁]
  rw [W.popN, if_neg (by decide)]
  refine ⟨F0 m pc ls (.int (nI M) :: .int (nI N) :: rest), State.topJava?_setTop' (s := T.setVm vm₁) _ X.here.top, [.int (nI N), .int (nI M)], rest, rfl, rfl, ?_⟩
  simp only [List.mapM_cons, List.mapM_nil, wp_bind', wp_pure']
  refine m_rows (kA := kA₁) (kC := kC₁) (comp := comp') (cc := cc9) hkA₁ hkindA₁ hkC₁ hkindC₁ (nI_pos (by omega)) (nI_pos (by omega)) l1 l2 l3 l4 (by rw [eN]; show T.heap.size + 1 + N ≤ _; omega) (by rw [eN, eM]; show T.slotsUsed + N + N * M ≤ _; omega) (fun d' acts' => ?_)
  rw [eN, eM]
  have eS : ((T.setTop (F0 m pc ls (.int (nI M) :: .int (nI N) :: rest))).setVm vm₁).setTop (F0 m pc ls rest) = (T.setVm vm₁).setTop (F0 m pc ls rest) := by
    show ((T.setVm vm₁).setTop _).setTop _ = _
    rw [State.setTop_setTop]
  rw [eS, mT_top]
  simp only [wp_bind', W.mark, W.pushRef, State.topJava?_setTop' _ XF.here.top, Option.some.injEq, exists_eq_left', State.setTop_setTop, State.heap_setTop]
  intro acts
  simp [jvm, XF.here.top]
  exact b1
end MST
