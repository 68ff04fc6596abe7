/-! the machine that builds: constructors -/
abbrev bC : Type := (FieldType × Nat × Int × List (Nat × Int)) ⊕ (List Nat ⊕ (Nat × List (Option xV)))
def bkk : List (Nat × Int) → Int → Nat → Int
  | [], z, _ => z
  | q :: t, z, j => if q.1 = j then q.2 else bkk t z j
def bF (ρ : Nat → Nat) (fs : List (Option xV)) : List Value := fs.map (fun o => match o with
  | some v => xc ρ v
  | none => .null)
def bE (ρ : Nat → Nat) (ca : FieldType → ClassId) (g : bC) : va_E := match g with
  | .inl q => xEn ca (fun j => bkk q.2.2.2 q.2.2.1 j.toNat) q.1 q.2.1
  | .inr (.inl ids) => .inl (ca (.array .int), ids.length, .inr (.inr (.inr (.inr (fun j => (ids[j]?).map ρ)))))
  | .inr (.inr q) => .inr (q.1, bF ρ q.2)
def bWl (ρ : Nat → Nat) (ca : FieldType → ClassId) : List bC → Nat → va_W
  | [], _ => []
  | g :: t, k => (ρ k, bE ρ ca g) :: bWl ρ ca t (k + 1)
theorem bWl_get (ρ : Nat → Nat) (ca : FieldType → ClassId) : ∀ (w : List bC) (k i : Nat), (bWl ρ ca w k)[i]? = (w[i]?).map (fun g => (ρ (k + i), bE ρ ca g))
  | [], k, i => by simp [bWl]
  | g :: t, k, 0 => by simp [bWl]
  | g :: t, k, i + 1 => by
    have e : k + 1 + i = k + (i + 1) := by omega
    simp only [bWl, List.getElem?_cons_succ, bWl_get ρ ca t (k + 1) i, e]
theorem bW_get {ρ : Nat → Nat} {ca : FieldType → ClassId} {w : List bC} {a : Nat} {g : bC} (h : w[a]? = some g) : (bWl ρ ca w 0)[a]? = some (ρ a, bE ρ ca g) := by
  rw [bWl_get, h]; simp
theorem bWl_len (ρ : Nat → Nat) (ca : FieldType → ClassId) : ∀ (w : List bC) (k : Nat), (bWl ρ ca w k).length = w.length
  | [], _ => rfl
  | _ :: t, k => by simp [bWl, bWl_len ρ ca t (k + 1)]
theorem bWl_app (ρ : Nat → Nat) (ca : FieldType → ClassId) : ∀ (w v : List bC) (k : Nat), bWl ρ ca (w ++ v) k = bWl ρ ca w k ++ bWl ρ ca v (k + w.length)
  | [], v, k => by simp [bWl]
  | g :: t, v, k => by simp [bWl, bWl_app ρ ca t v (k + 1), Nat.add_comm 1, Nat.add_assoc]
theorem bW_set {ρ : Nat → Nat} {ca : FieldType → ClassId} {w : List bC} {a : Nat} {g g' : bC} (h : w[a]? = some g) : (bWl ρ ca w 0).set a (ρ a, bE ρ ca g') = bWl ρ ca (w.set a g') 0 := by
  apply List.ext_getElem?
  intro i
  have hl : a < w.length := (List.getElem?_eq_some_iff.mp h).1
  by_cases hi : i = a
  · subst hi
    rw [List.getElem?_set_self (by rw [bWl_len]; exact hl), bWl_get, List.getElem?_set_self hl]
    simp
  · rw [List.getElem?_set_ne (fun q => hi q.symm), bWl_get, bWl_get, List.getElem?_set_ne (fun q => hi q.symm)]
theorem bF_get (ρ : Nat → Nat) {fs : List (Option xV)} {k : Nat} {v : xV} (h : fs[k]? = some (some v)) : (bF ρ fs)[k]? = some (xc ρ v) := by
  unfold bF
  rw [List.getElem?_map, h]
  rfl
theorem bF_set (ρ : Nat → Nat) (fs : List (Option xV)) (k : Nat) (v : xV) : (bF ρ fs).set k (xc ρ v) = bF ρ (fs.set k (some v)) := by
  unfold bF
  rw [List.map_set]
def bvt (l : List Nat) (v : xV) : Bool := match l, v with
  | [0], .inl _ => true
  | [1], .inr (.inr _) => true
  | _, _ => false
def bln (i : Instr) : Nat := match i with
  | .newarray _ => 2
  | .multianewarray _ _ => 4
  | i => ilen i
def bDef : List (List (Option xV)) := [[none, some (.inl 0), some (.inl 0)], [none, none, none, none, none, none, none, none, none, some (.inl 0), some (.inl 0), some (.inl 0), some (.inl 0), some (.inl 0), some (.inl 0), some (.inl 0), some (.inl 0), some (.inl 0), none, none, none, none, none, some (.inl 0)], [none, none, none], [none], [none, none, none, none, some (.inl 0), some (.inl 0), some (.inl 0)], [none, none, none, none, none, none, none, none, some (.inl 0), some (.inl 0), some (.inl 0), some (.inl 0), some (.inl 0), some (.inl 0)], [none, some (.inl 0), some (.inl 0)], [none, none, none, none, none, none, none, none, none, some (.inl 0), some (.inl 0), some (.inl 0), some (.inl 0), some (.inl 0), some (.inl 0), some (.inl 0), some (.inl 0), some (.inl 0), none, none, some (.inl 0)], [none, some (.inl 0)], [none, none, none, none, none, none, none, none, none, some (.inl 0)], [some (.inl 0), some (.inl 0), some (.inl 0), some (.inl 0), some (.inl 0), none, some (.inl 0), none, some (.inl 0), none, none, none, none, none, none, none, none, none, none, some (.inl 0), none, none, none, none, none, none, none, none, none, none, none, none, none, some (.inl 0), none, some (.inl 0), some (.inl 0), some (.inl 0), none, some (.inl 0), some (.inl 0), some (.inl 0), none, none, none, some (.inl 0), none, some (.inl 0), none, none, some (.inl 0), some (.inl 0), none, none, none, none, none, none, none, none, some (.inl 0), none, none, none, none]]
/-- one instruction that is no call: the stack, the cells, how many cells and slots are new -/
def bs (ls : List xV) (x : xI) (sk : List xV) (w : List bC) : Option (List xV × List bC × Nat × Nat) := match x.1, sk with
  | .aload_n k, sk => (match ls[k.val]? with
    | some (.inr (.inr a)) => some (.inr (.inr a) :: sk, w, 0, 0)
    | _ => none)
  | .iload_n k, sk => (match ls[k.val]? with
    | some (.inl z) => some (.inl z :: sk, w, 0, 0)
    | _ => none)
  | .iconst n, sk => some (.inl n :: sk, w, 0, 0)
  | .bipush n, sk => some (.inl n :: sk, w, 0, 0)
  | .sipush n, sk => some (.inl n :: sk, w, 0, 0)
  | .iadd, .inl b :: .inl a :: sk => some (.inl (a + b) :: sk, w, 0, 0)
  | .dup, .inr (.inr a) :: sk => some (.inr (.inr a) :: .inr (.inr a) :: sk, w, 0, 0)
  | .new _, sk => (match x.2.2.1 with
    | [(ci, _)] => (match bDef[ci]? with
      | some d => some (.inr (.inr w.length) :: sk, w ++ [.inr (.inr (ci, d))], 1, d.length)
      | none => none)
    | _ => none)
  | .newarray t, .inl n :: sk => if 0 ≤ n ∧ n < 100000 then some (.inr (.inr w.length) :: sk, w ++ [.inl (newarray.typeOf t, n.toNat, 0, [])], 1, n.toNat) else none
  | .multianewarray _ _, .inl k :: .inl n :: sk => if (0 ≤ n ∧ n < 500) ∧ 0 ≤ k ∧ k < 100000 then some (.inr (.inr w.length) :: sk, w ++ (.inr (.inl ((List.range n.toNat).map (fun j => w.length + 1 + j))) :: List.replicate n.toNat (.inl (.int, k.toNat, 0, []))), 1 + n.toNat, n.toNat + n.toNat * k.toNat) else none
  | .putfield _, v :: .inr (.inr a) :: sk => (match w[a]? with
    | some (.inr (.inr (c, fs))) => (match xlk x.2.2.1 c with
      | some k => if k < fs.length ∧ bvt x.2.2.2 v = true then some (sk, w.set a (.inr (.inr (c, fs.set k (some v)))), 0, 0) else none
      | none => none)
    | _ => none)
  | .getfield _, .inr (.inr a) :: sk => (match w[a]? with
    | some (.inr (.inr (c, fs))) => (match xlk x.2.2.1 c with
      | some k => (match fs[k]? with
        | some (some v) => some (v :: sk, w, 0, 0)
        | _ => none)
      | none => none)
    | _ => none)
  | .iastore, .inl y :: .inl z :: .inr (.inr a) :: sk => (match w[a]? with
    | some (.inl (.int, n, b, us)) => if 0 ≤ z ∧ z < (n : Int) ∧ n < 100000 then some (sk, w.set a (.inl (.int, n, b, (z.toNat, y) :: us)), 0, 0) else none
    | _ => none)
  | _, _ => none
/-- a putfield's link: a field that the constructor's own class declares -/
def bpf (own : String) (idx : Nat) (fl : List Nat) (q : Nat × Nat) : Prop := ∃ r : vw_C, vcl[q.1]? = some r ∧ q.2 < r.2.2 ∧ Cond.fieldLink own idx (r.2.1 q.2).1 (r.2.1 q.2).2.1 (r.2.1 q.2).2.2.1 ∈ xtg ∧ (r.2.1 q.2).1 = own ∧ (fl = [0] → parseFieldDescriptor (r.2.1 q.2).2.2.1 = some .int) ∧ (fl = [1] → ∃ t, parseFieldDescriptor (r.2.1 q.2).2.2.1 = some t ∧ t.isReference = true)
def bnw (own : String) (idx : Nat) (q : Nat × Nat) : Prop := ∃ r : vw_C, vcl[q.1]? = some r ∧ Cond.classLink own idx r.1 ∈ xtg ∧ Cond.instantiable r.1 r.2.2 ∈ xtg ∧ Cond.initialized r.1 ∈ xtg
def bpt (t : FieldType) : Prop := t = .int ∨ t = .long ∨ t = .byte ∨ t = .boolean
def blnk (own : String) (x : xI) : Prop := match x.1 with
  | .bipush n => (Int8.ofInt n).toInt32 = Int32.ofInt n
  | .sipush n => (Int16.ofInt n).toInt32 = Int32.ofInt n
  | .new idx => ∀ q ∈ x.2.2.1, bnw own idx q
  | .newarray t => Cond.arrayClass (newarray.typeOf t) ∈ xtg ∧ bpt (newarray.typeOf t)
  | .multianewarray idx d => d = 2 ∧ Cond.classLink own idx "[[I" ∈ xtg
  | .putfield idx => ∀ q ∈ x.2.2.1, bpf own idx x.2.2.2 q
  | .getfield idx => ∀ q ∈ x.2.2.1, xfl vcl own idx false q
  | _ => True
def bdv (d : List (Option xV)) : List Value := bF (fun _ => 0) d
/-- the fields of a new object -/
def bdk (r : vw_C) (d : List (Option xV)) : Bool := Nat.beq d.length r.2.2 && (d.all (fun o => match o with
  | some (.inr _) => false
  | _ => true) && (List.range r.2.2).all (fun j => match parseFieldDescriptor (r.2.1 j).2.2.1 with
    | some t => decide (defaultValue t = vp_V (bdv d) j)
    | none => false))
theorem bdv_any (ρ : Nat → Nat) {d : List (Option xV)} (h : d.all (fun o => match o with
  | some (.inr _) => false
  | _ => true) = true) : bF ρ d = bdv d := by
  unfold bdv bF
  apply List.map_congr_left
  intro o ho
  have h1 := List.all_eq_true.mp h o ho
  rcases o with _ | z | z
  · rfl
  · rfl
  · cases h1
theorem bDef_ok (ci : Nat) (d : List (Option xV)) (r : vw_C) (hd : bDef[ci]? = some d) (hr : vcl[ci]? = some r) : d.length = r.2.2 ∧ d.all (fun o => match o with
  | some (.inr _) => false
  | _ => true) = true ∧ (List.range r.2.2).all (fun j => match parseFieldDescriptor (r.2.1 j).2.2.1 with
    | some t => decide (defaultValue t = vp_V (bdv d) j)
    | none => false) = true := by
  have key : bdk r d = true := by
    match ci, hd, hr with
    | 0, hd, hr => cases hd; cases hr; decide +kernel
    | 1, hd, hr => cases hd; cases hr; decide +kernel
    | 2, hd, hr => cases hd; cases hr; decide +kernel
    | 3, hd, hr => cases hd; cases hr; decide +kernel
    | 4, hd, hr => cases hd; cases hr; decide +kernel
    | 5, hd, hr => cases hd; cases hr; decide +kernel
    | 6, hd, hr => cases hd; cases hr; decide +kernel
    | 7, hd, hr => cases hd; cases hr; decide +kernel
    | 8, hd, hr => cases hd; cases hr; decide +kernel
    | 9, hd, hr => cases hd; cases hr; decide +kernel
    | 10, hd, hr => cases hd; cases hr; decide +kernel
    | n + 11, hd, hr => cases hd
  unfold bdk at key
  simp only [Bool.and_eq_true] at key
  exact ⟨nq_eq key.1, key.2.1, key.2.2⟩
theorem bw_int : Cond.arrayClass .int ∈ xtg := xtg_of 145 (by decide +kernel) (by decide +kernel)
section BSTEP
variable {p : Program} {l : Launch} {e : Env} {R : Room} {s : State} {m : MethodId} {args : Array Value} {below : List Frame} {meth : Method} {c : Code} {H : Heap} {locs : List Loc} {cells slots : Nat} {Z : State → Prop} {own : String} {cc : ByteArray} {nL : Nat} {D : va_G} {tys : List (ClassId × FieldType)} {ρ : Nat → Nat} {ca : FieldType → ClassId} {n0 : Nat}
theorem b_D (hρ : ∀ k, k < 1000 → ρ k = n0 + k) {w : List bC} (hw : w.length ≤ 1000) : va_D (xA n0) (bWl ρ ca w 0) := by
  refine ⟨fun i j x y h1 h2 he => ?_, fun k q h1 => ?_⟩
  · have a1 := (List.getElem?_eq_some_iff.mp h1).1
    have a2 := (List.getElem?_eq_some_iff.mp h2).1
    rw [bWl_len] at a1 a2
    rw [bWl_get] at h1 h2
    obtain ⟨g1, -, rfl⟩ := Option.map_eq_some_iff.mp h1
    obtain ⟨g2, -, rfl⟩ := Option.map_eq_some_iff.mp h2
    have he' : ρ (0 + i) = ρ (0 + j) := he
    rw [hρ _ (by omega), hρ _ (by omega)] at he'
    omega
  · have a1 := (List.getElem?_eq_some_iff.mp h1).1
    rw [bWl_len] at a1
    rw [bWl_get] at h1
    obtain ⟨g1, -, rfl⟩ := Option.map_eq_some_iff.mp h1
    show n0 ≤ ρ (0 + k)
    rw [hρ _ (by omega)]
    omega
/-- the heap is at least as large as the cells are -/
theorem b_low (hρ : ∀ k, k < 1000 → ρ k = n0 + k) {w : List bC} (hw : w.length ≤ 1000) (hn : n0 ≤ H.size) (hP : va_P D vcl (bWl ρ ca w 0) H) : n0 + w.length ≤ H.size := by
  cases hl : w.length with
  | zero => omega
  | succ k =>
    have h1 : w[k]? = some w[k] := List.getElem?_eq_getElem (by omega)
    have h2 := (hP k _ (bW_get h1)).lt
    have h3 : ρ k < H.size := h2
    rw [hρ k (by omega)] at h3
    omega
/-- a new cell stands behind all others -/
theorem b_new (hρ : ∀ k, k < 1000 → ρ k = n0 + k) {w : List bC} (hw : w.length < 1000) {q : Nat} {g : bC} {E9 : va_E} (he : E9 = bE ρ ca g) {H1 : Heap} (hP1 : va_P D vcl (bWl ρ ca w 0 ++ [(q, E9)]) H1) (hD1 : va_D (xA n0) (bWl ρ ca w 0 ++ [(q, E9)])) (hsz : H1.size = n0 + w.length + 1) : q = ρ w.length ∧ va_P D vcl (bWl ρ ca (w ++ [g]) 0) H1 := by
  subst he
  have hlen := bWl_len ρ ca w 0
  have hlast : (bWl ρ ca w 0 ++ [(q, bE ρ ca g)])[w.length]? = some (q, bE ρ ca g) := by
    rw [List.getElem?_append_right (by omega), hlen, Nat.sub_self]
    rfl
  have h1 : n0 ≤ q := hD1.2 _ _ hlast
  have h2 : q < H1.size := (hP1 _ _ hlast).lt
  have hq : q = ρ w.length := by
    rw [hρ _ hw]
    rcases Nat.lt_or_ge q (n0 + w.length) with h | h
    · exfalso
      have h3 : w[q - n0]? = some w[q - n0] := List.getElem?_eq_getElem (by omega)
      have h4 : (bWl ρ ca w 0 ++ [(q, bE ρ ca g)])[q - n0]? = some (ρ (q - n0), bE ρ ca w[q - n0]) := by
        rw [List.getElem?_append_left (by omega)]
        exact bW_get h3
      have := hD1.1 _ _ _ _ h4 hlast (by show ρ (q - n0) = q; rw [hρ _ (by omega)]; omega)
      omega
    · omega
  refine ⟨hq, ?_⟩
  rw [bWl_app, Nat.zero_add]
  rw [hq] at hP1
  exact hP1
set_option maxHeartbeats 4000000 in
theorem b_step (hx : p.tables.exec = Jvm.exec) (hb : c.code = cc) (hown : s.vm.findClass own = some m.cls) (hts : ∀ w ∈ xtg, w.before args s = true) (hK : va_K D vcl tys s) (hca : xcaok ca tys) (hov : bOv s) (hρ : ∀ k, k < 1000 → ρ k = n0 + k) (hsz : n0 ≤ s.heap.size)
    {lsr : Array Slot} {ls : List xV} (hl : ∀ (k : Nat) (v : xV), ls[k]? = some v → lsr[k]? = some (.val (xc ρ v))) {pc : Nat} {x : xI} (hd : decode cc pc = .ok (x.1, bln x.1)) (hlk : blnk own x) (hname : (∃ k, x.1 = .putfield k) → meth.name = "<init>") {sk sk' : List xV} {w w' : List bC} {c' n' : Nat} (hs : bs ls x sk w = some (sk', w', c', n')) (hw : w'.length < 1000) (hP : va_P D vcl (bWl ρ ca w 0) H) (hS : va_S (xA n0) s.heap H locs) (hcnt : n0 + w.length = s.heap.size + cells) (hR1 : cells + c' ≤ R.cells) (hR2 : slots + n' ≤ R.slots)
    (kk : ∀ (H1 : Heap) (locs1 : List Loc), va_P D vcl (bWl ρ ca w' 0) H1 → va_S (xA n0) s.heap H1 locs1 → n0 + w'.length = s.heap.size + (cells + c') → W p l e R s m args below meth c H1 locs1 (cells + c') (slots + n') Z (F0 m (pc + bln x.1) lsr (sk'.map (xc ρ)))) : W p l e R s m args below meth c H locs cells slots Z (F0 m pc lsr (sk.map (xc ρ))) := by
  obtain ⟨ins, z0, l1, l2⟩ := x
  have hn9 : n0 ≤ H.size := Nat.le_trans hsz hS.1
  unfold bs at hs
  split at hs
  · -- aload_n
    rename_i k hi
    simp only at hi; subst hi
    split at hs
    · rename_i a ha
      cases hs
      exact lv_aload_n (k := k) (i := k.val) (x := ρ a) hx hb hd rfl (hl _ _ ha) (kk H locs hP hS hcnt)
    · cases hs
  · -- iload_n
    rename_i k hi
    simp only at hi; subst hi
    split at hs
    · rename_i z ha
      cases hs
      exact lv_iload_n (k := k) (i := k.val) (x := Int32.ofInt z) hx hb hd rfl (hl _ _ ha) (kk H locs hP hS hcnt)
    · cases hs
  · -- iconst
    rename_i n hi
    simp only at hi; subst hi
    cases hs
    exact lv_iconst (n := n) (v := Int32.ofInt n) hx hb hd rfl (kk H locs hP hS hcnt)
  · -- bipush
    rename_i n hi
    simp only at hi; subst hi
    cases hs
    exact lv_bipush (n := n) (v := Int32.ofInt n) hx hb hd hlk (kk H locs hP hS hcnt)
  · -- sipush
    rename_i n hi
    simp only at hi; subst hi
    cases hs
    exact lv_sipush (n := n) (v := Int32.ofInt n) hx hb hd hlk (kk H locs hP hS hcnt)
  · -- iadd
    rename_i b a sk0 hi
    simp only at hi; subst hi
    cases hs
    have k9 := kk H locs hP hS hcnt
    simp only [List.map_cons, xc, Int32.ofInt_add] at k9
    exact lv_iadd hx hb hd k9
  · -- dup
    rename_i a sk0 hi
    simp only at hi; subst hi
    cases hs
    exact lv_dup hx hb hd rfl (kk H locs hP hS hcnt)
  · -- new
    rename_i idx hi
    simp only at hi; subst hi
    split at hs
    · rename_i ci z1 hq
      simp only at hq; subst hq
      split at hs
      · rename_i d hd9
        cases hs
        obtain ⟨r, hr, h1, h2, h3⟩ := hlk (ci, z1) List.mem_cons_self
        obtain ⟨hk1, hk2, hk3⟩ := bDef_ok ci d r hd9 hr
        obtain ⟨hin, hnm, ty0, hty⟩ := vcl_ok ci r hr
        have hfs : ∀ j, j < r.2.2 → defaultValue (ty0 j) = vp_V (bF ρ d) j := fun j hj => by
          rw [bdv_any ρ hk2]
          have h9 := List.all_eq_true.mp hk3 j (List.mem_range.mpr hj)
          rw [hty j hj] at h9
          exact of_decide_eq_true h9
        have hsl : slots + r.2.2 ≤ R.slots := by rw [← hk1]; exact hR2
        refine va_new (ci := ci) (N := r.2.2) (T := r.2.1) (C := r.1) hx hb hts hin ty0 hty hown (hts _ h1) (hts _ h2) (hts _ h3) hK hP (b_D hρ (by simp at hw; omega)) hS (fun q hq => by show n0 ≤ q; omega) hr hfs hR1 hsl hd (fun q H1 hP1 hD1 hS1 => ?_)
        have hlen : w.length < 1000 := by simp at hw; omega
        refine W_size (N := n0 + w.length + 1) (by omega) ?_ (fun hz => ?_)
        · have := (hP1 w.length (q, .inr (ci, bF ρ d)) (by rw [List.getElem?_append_right (by rw [bWl_len]; exact Nat.le_refl _), bWl_len, Nat.sub_self]; rfl)).lt
          have h5 : q < H1.size := this
          have h6 := hS1.1
          have h7 := b_low (ca := ca) (D := D) (w := w) hρ (by omega) (Nat.le_trans hsz h6) (fun k x hx9 => hP1 k x (by rw [List.getElem?_append_left (List.getElem?_eq_some_iff.mp hx9).1]; exact hx9))
          rcases Nat.lt_or_ge (n0 + w.length) H1.size with h8 | h8
          · exact h8
          · exfalso
            have hqn : n0 ≤ q := hD1.2 w.length (q, .inr (ci, bF ρ d)) (by rw [List.getElem?_append_right (by rw [bWl_len]; exact Nat.le_refl _), bWl_len, Nat.sub_self]; rfl)
            have h9 : w[q - n0]? = some w[q - n0] := List.getElem?_eq_getElem (by omega)
            have h10 := hD1.1 (q - n0) w.length _ _ (by rw [List.getElem?_append_left (by rw [bWl_len]; omega)]; exact bW_get h9) (by rw [List.getElem?_append_right (by rw [bWl_len]; exact Nat.le_refl _), bWl_len, Nat.sub_self]; rfl) (by show ρ (q - n0) = q; rw [hρ _ (by omega)]; omega)
            omega
        · obtain ⟨hq, hP2⟩ := b_new (g := .inr (.inr (ci, d))) hρ hlen rfl hP1 hD1 hz
          subst hq
          have k9 := kk H1 locs hP2 hS1 (by simp; omega)
          exact hk1 ▸ k9
      · cases hs
    · cases hs
  · -- newarray
    rename_i t n sk0 hi
    simp only at hi; subst hi
    split at hs
    · rename_i hn
      cases hs
      obtain ⟨ha, hpt⟩ := hlk
      obtain ⟨t0, ht0⟩ := hca (newarray.typeOf t) (by rcases hpt with h | h | h | h <;> simp [h])
      have hfc : s.vm.findClass ("[" ++ (newarray.typeOf t).toString) = some (ca (newarray.typeOf t)) := by
        have := (hK.2 t0 _ ht0).2
        rcases hpt with h | h | h | h <;> rw [h] at this ⊢ <;> exact this
      have hlen : w.length < 1000 := by simp at hw; omega
      have e1 : Int32.ofInt n = nI n.toNat := ofInt_nI hn.1
      have hcell : ∀ cA : ClassId, vp_cell cA (n.toNat, (match newarray.typeOf t with
        | .long => .inr (.inl (fun _ => Int64.ofInt 0))
        | _ => .inl (fun _ => Int32.ofInt 0))) = arrV cA n.toNat (fun _ => defaultValue (newarray.typeOf t)) := fun cA => by
        rcases hpt with h | h | h | h <;> rw [h] <;> rfl
      have hby : n.toNat * componentBytes (newarray.typeOf t) ≤ 536870912 := by
        have h8 : componentBytes (newarray.typeOf t) ≤ 8 := by rcases hpt with h | h | h | h <;> rw [h] <;> decide
        have := Nat.mul_le_mul_left n.toNat h8
        omega
      simp only [List.map_cons, xc, e1]
      refine va_newa (atype := t) hx hb (hts _ ha) rfl hK hP (b_D hρ (by omega)) hS (fun q hq => by show n0 ≤ q; omega) hcell (nI_pos (by omega)) (nI_clamp (by omega)) hby hR1 hR2 hd (fun q cA H1 hK1 hP1 hD1 hS1 => ?_)
      have hcA : cA = ca (newarray.typeOf t) := by
        have h9 := (hK1.2 tys.length (cA, newarray.typeOf t) (by rw [List.getElem?_append_right (Nat.le_refl _), Nat.sub_self]; rfl)).2
        have h10 : s.vm.findClass ("[" ++ (newarray.typeOf t).toString) = some cA := by
          rcases hpt with h | h | h | h <;> rw [h] at h9 ⊢ <;> exact h9
        exact Option.some.inj (h10.symm.trans hfc)
      subst hcA
      have hE : (.inl (ca (newarray.typeOf t), n.toNat, (match newarray.typeOf t with
        | .long => .inr (.inl (fun _ => Int64.ofInt 0))
        | _ => .inl (fun _ => Int32.ofInt 0))) : va_E) = bE ρ ca (.inl (newarray.typeOf t, n.toNat, 0, [])) := by
        rcases hpt with h | h | h | h <;> rw [h] <;> rfl
      have hlast : (bWl ρ ca w 0 ++ [(q, (.inl (ca (newarray.typeOf t), n.toNat, (match newarray.typeOf t with
        | .long => .inr (.inl (fun _ => Int64.ofInt 0))
        | _ => .inl (fun _ => Int32.ofInt 0))) : va_E))])[w.length]? = some (q, (.inl (ca (newarray.typeOf t), n.toNat, (match newarray.typeOf t with
        | .long => .inr (.inl (fun _ => Int64.ofInt 0))
        | _ => .inl (fun _ => Int32.ofInt 0))) : va_E)) := by
        rw [List.getElem?_append_right (by rw [bWl_len]; exact Nat.le_refl _), bWl_len, Nat.sub_self]; rfl
      refine W_size (N := n0 + w.length + 1) (by omega) ?_ (fun hz => ?_)
      · have h5 : q < H1.size := (hP1 w.length _ hlast).lt
        have h6 := hS1.1
        have h7 := b_low (ca := ca) (D := D) (w := w) hρ (by omega) (Nat.le_trans hsz h6) (fun k x hx9 => hP1 k x (by rw [List.getElem?_append_left (List.getElem?_eq_some_iff.mp hx9).1]; exact hx9))
        rcases Nat.lt_or_ge (n0 + w.length) H1.size with h8 | h8
        · exact h8
        · exfalso
          have hqn : n0 ≤ q := hD1.2 w.length _ hlast
          have h9 : w[q - n0]? = some w[q - n0] := List.getElem?_eq_getElem (by omega)
          have h10 := hD1.1 (q - n0) w.length _ _ (by rw [List.getElem?_append_left (by rw [bWl_len]; omega)]; exact bW_get h9) hlast (by show ρ (q - n0) = q; rw [hρ _ (by omega)]; omega)
          omega
      · obtain ⟨hq, hP2⟩ := b_new (g := .inl (newarray.typeOf t, n.toNat, 0, [])) hρ hlen hE hP1 hD1 hz
        subst hq
        exact kk H1 locs hP2 hS1 (by simp; omega)
    · cases hs
  · -- multianewarray
    rename_i idx dm k n sk0 hi
    simp only at hi; subst hi
    split at hs
    · rename_i hn
      cases hs
      obtain ⟨hd2, hcl⟩ := hlk
      subst hd2
      have hlen : w.length + 1 + n.toNat < 1000 := by simp at hw; omega
      have e1 : Int32.ofInt n = nI n.toNat := ofInt_nI hn.1.1
      have e2 : Int32.ofInt k = nI k.toNat := ofInt_nI hn.2.1
      obtain ⟨t0, ht0⟩ := hca (.array .int) (by simp)
      obtain ⟨t1, ht1⟩ := hca .int (by simp)
      have f0 : s.vm.findClass "[[I" = some (ca (.array .int)) := (hK.2 t0 _ ht0).2
      have f1 : s.vm.findClass "[I" = some (ca .int) := (hK.2 t1 _ ht1).2
      refine W_size (N := n0 + w.length) (by omega) (b_low hρ (by omega) hn9 hP) (fun hz0 => ?_)
      simp only [List.map_cons, xc, e1, e2]
      refine b_multi (N := n.toNat) (M := k.toNat) hx hb hown (hts _ hcl) hov (hts _ bw_int) hd (by omega) (by omega) (by omega) (by omega) (fun H1 locs1 cA comp g1 g2 g3 g4 g5 g6 g7 => ?_)
      cases g1.symm.trans f0
      cases g2.symm.trans f1
      have hW1 : va_P D vcl (bWl ρ ca (w ++ (.inr (.inl ((List.range n.toNat).map (fun j => w.length + 1 + j))) :: List.replicate n.toNat (.inl (.int, k.toNat, 0, [])))) 0) H1 := by
        intro j q hq
        rw [bWl_get] at hq
        obtain ⟨g, hg, rfl⟩ := Option.map_eq_some_iff.mp hq
        simp only [Nat.zero_add]
        rcases Nat.lt_or_ge j w.length with h | h
        · rw [List.getElem?_append_left h] at hg
          have h9 := hP j _ (bW_get hg)
          exact h9.kept (g4 _ h9.lt)
        · rw [List.getElem?_append_right h] at hg
          cases hj : j - w.length with
          | zero =>
            rw [hj] at hg
            cases hg
            rw [show j = w.length by omega, hρ _ (by omega)]
            show H1[n0 + w.length]? = some (vp_cell _ _)
            rw [← hz0, g5]
            show some (mO (ca (.array .int)) n.toNat H.size n.toNat) = some (arrV (ca (.array .int)) ((List.range n.toNat).map (fun j => w.length + 1 + j)).length (fun j => va_rf ((((List.range n.toNat).map (fun j => w.length + 1 + j))[j]?).map ρ)))
            rw [List.length_map, List.length_range]
            unfold mO
            refine congrArg some (arrV_cong (fun i hi => ?_))
            rw [if_pos hi, List.getElem?_map, List.getElem?_range hi]
            show Value.ref (H.size + 1 + i) = Value.ref (ρ (w.length + 1 + i))
            rw [hρ _ (by omega)]
            have e7 : H.size + 1 + i = n0 + (w.length + 1 + i) := by rw [hz0]; omega
            rw [e7]
          | succ i =>
            rw [hj] at hg
            rw [List.getElem?_cons_succ, List.getElem?_replicate] at hg
            split at hg
            · rename_i hi
              cases hg
              rw [show j = w.length + 1 + i by omega, hρ _ (by omega)]
              show H1[n0 + (w.length + 1 + i)]? = some (arrV (ca .int) k.toNat (fun _ => .int (Int32.ofInt 0)))
              have := g6 i hi
              rw [hz0] at this
              rw [show n0 + (w.length + 1 + i) = n0 + w.length + 1 + i by omega, this]
              rfl
            · cases hg
      have k9 := kk H1 locs1 hW1 ⟨by have := hS.1; omega, fun q h1 h2 => (g4 q (Nat.lt_of_lt_of_le h1 hS.1)).trans (hS.2.1 q h1 h2), fun z hz => by
        rcases g7 z hz with h | h
        · exact hS.2.2 z h
        · show n0 ≤ z.base
          rw [h]; omega⟩ (by simp; omega)
      have e3 : ρ w.length = H.size := by rw [hρ _ (by omega), hz0]
      simp only [List.map_cons, xc, e3, ← Nat.add_assoc] at k9
      exact k9
    · cases hs
  · -- putfield
    rename_i idx v a sk0 hi
    simp only at hi; subst hi
    split at hs
    · rename_i ci fs hg
      split at hs
      · rename_i k hk
        split at hs
        · rename_i hkk
          cases hs
          simp only at hk hkk
          obtain ⟨r, hr, h1, h2, h3, h4, h5⟩ := hlk (ci, k) (xlk_mem hk)
          obtain ⟨hin, hnm, ty0, hty⟩ := vcl_ok ci r hr
          have hD := b_D (ca := ca) hρ (w := w) (by simp at hw; omega)
          have hfl : k < (bF ρ fs).length := by unfold bF; rw [List.length_map]; exact hkk.1
          have hcont : ∀ (H1 : Heap) (locs1 : List Loc), va_P D vcl ((bWl ρ ca w 0).set a (ρ a, .inr (ci, (bF ρ fs).set k (xc ρ v)))) H1 → va_D (xA n0) ((bWl ρ ca w 0).set a (ρ a, .inr (ci, (bF ρ fs).set k (xc ρ v)))) → va_S (xA n0) s.heap H1 locs1 → W p l e R s m args below meth c H1 locs1 cells slots Z (F0 m (pc + 3) lsr (sk'.map (xc ρ))) := fun H1 locs1 hP1 _ hS1 => by
            rw [bF_set] at hP1
            have hP2 : va_P D vcl (bWl ρ ca (w.set a (.inr (.inr (ci, fs.set k (some v))))) 0) H1 := by
              rw [← bW_set (g := .inr (.inr (ci, fs))) hg]
              exact hP1
            exact kk H1 locs1 hP2 hS1 (by rw [List.length_set]; exact hcnt)
          have hpv : ∃ t, parseFieldDescriptor (r.2.1 k).2.2.1 = some t ∧ narrow t (xc ρ v) = xc ρ v ∧ fits t (xc ρ v) = true := by
            have hb9 := hkk.2
            unfold bvt at hb9
            split at hb9
            · exact ⟨.int, h4 rfl, rfl, rfl⟩
            · rename_i a9
              obtain ⟨t, ht, hre⟩ := h5 rfl
              refine ⟨t, ht, ?_, ?_⟩
              · cases t <;> simp [FieldType.isReference] at hre <;> rfl
              · cases t <;> simp [FieldType.isReference] at hre <;> rfl
            · cases hb9
          obtain ⟨t, ht, hnar, hfit⟩ := hpv
          cases hfin : (r.2.1 k).2.2.2 with
          | false => exact va_put (ci := ci) (N := r.2.2) (T := r.2.1) (C := r.1) hx hb hts hin ty0 hty hnm hown hK hP hD hS a (bW_get hg) hr k h1 (hts _ h2) (fun _ z => z) hfin ht hnar hfit hfl hd hcont
          | true => exact va_putF (ci := ci) (N := r.2.2) (T := r.2.1) (C := r.1) hx hb hts hin ty0 hty hnm hown hK hP hD hS a (bW_get hg) hr k h1 (hts _ h2) (fun _ z => z) hfin (hname ⟨idx, rfl⟩) h3 ht hnar hfit hfl hd hcont
        · cases hs
      · cases hs
    · cases hs
  · -- getfield
    rename_i idx a sk0 hi
    simp only at hi; subst hi
    split at hs
    · rename_i ci fs hg
      split at hs
      · rename_i k hk
        split at hs
        · rename_i v hv
          cases hs
          simp only at hk
          obtain ⟨r, ref, hr, h1, h2, h3, -⟩ := hlk (ci, k) (xlk_mem hk)
          obtain ⟨hin, hnm, ty0, hty⟩ := vcl_ok ci r hr
          refine va_get (ci := ci) (N := r.2.2) (T := r.2.1) (C := r.1) hx hb hts hin hown hK hP a (bW_get hg) hr k h1 (hts _ h2) (fun x9 hx9 => h3.elim (fun e9 => by rw [e9]; exact hx9) (fun hsm => u_same (hts _ hsm) x9 hx9)) (bF_get ρ hv) hd (kk H locs hP hS hcnt)
        · cases hs
      · cases hs
    · cases hs
  · -- iastore
    rename_i y z a sk0 hi
    simp only at hi; subst hi
    split at hs
    · rename_i n b us hg
      split at hs
      · rename_i hz
        cases hs
        obtain ⟨t0, ht0⟩ := hca .int (by simp)
        have e1 : Int32.ofInt z = nI z.toNat := ofInt_nI hz.1
        simp only [List.map_cons, xc, e1]
        refine va_iast (n := n) hx hb hK hP (b_D hρ (by simp at hw; omega)) hS a t0 (bW_get hg) ht0 (vp_in_nI (by omega) (by omega)) hd (fun H1 locs1 hP1 _ hS1 => ?_)
        have hP2 : va_P D vcl (bWl ρ ca (w.set a (.inl (.int, n, b, (z.toNat, y) :: us))) 0) H1 := by
          rw [← bW_set (g := .inl (.int, n, b, us)) hg]
          have e9 : bE ρ ca (.inl (.int, n, b, (z.toNat, y) :: us)) = .inl (ca .int, n, .inl (upd (fun j : Nat => Int32.ofInt (bkk us b (j : Int).toNat)) (nI z.toNat).toNatClampNeg (Int32.ofInt y))) := by
            show (.inl (ca .int, n, .inl (fun j : Nat => Int32.ofInt (bkk ((z.toNat, y) :: us) b (j : Int).toNat))) : va_E) = _
            congr 4
            funext j
            unfold upd
            rw [nI_clamp (by omega)]
            show Int32.ofInt (if z.toNat = (j : Int).toNat then y else bkk us b (j : Int).toNat) = _
            rw [Int.toNat_natCast]
            by_cases e : j = z.toNat
            · rw [if_pos e.symm, if_pos e]
            · rw [if_neg (fun q => e q.symm), if_neg e]
              show _ = Int32.ofInt (bkk us b (j : Int).toNat)
              rw [Int.toNat_natCast]
          rw [e9]
          exact hP1
        exact kk H1 locs1 hP2 hS1 (by rw [List.length_set]; exact hcnt)
      · cases hs
    · cases hs
  · cases hs
end BSTEP
