/-! a method's code held against its bytes and against tables of links, by a program that the kernel runs -/
abbrev vcl : List vw_C := [(RX0, TX0, 3), (RX1, TX1, 24), (RX2, TX2, 3), (RX5, TX5, 1), (RX6, TX6, 7), (RX7, TX7, 14), (RX8, TX8, 3), (RX9, TX9, 21), (RX10, TX10, 2), (RX11, TX11, 10), (RX12, TX12, 65)]
def nq (a b : Nat) : Bool := Nat.beq a b
theorem nq_eq {a b : Nat} (h : nq a b = true) : a = b := Nat.eq_of_beq_eq_true h
def xjc (pcs : List Nat) (pc : Nat) (off : Int) (t : Nat) : Bool := match pcs[t]? with
  | some q => decide ((pc : Int) + off = (q : Int))
  | none => false
theorem xjc_ok {pcs : List Nat} {pc : Nat} {off : Int} {t : Nat} (h : xjc pcs pc off t = true) : xjmp pcs pc off t := by
  unfold xjc at h
  split at h
  · rename_i q hq
    exact ⟨q, hq, of_decide_eq_true h⟩
  · cases h
def xnx (pcs : List Nat) (i t : Nat) : Bool := match pcs[i + 1]? with
  | some q => nq q t
  | none => false
theorem xnx_ok {pcs : List Nat} {i t : Nat} (h : xnx pcs i t = true) : pcs[i + 1]? = some t := by
  unfold xnx at h
  split at h
  · rename_i q hq
    rw [hq, nq_eq h]
  · cases h
abbrev xT4 : Type := List (Nat × Nat × Nat × Nat)
abbrev xT6 : Type := List (Nat × Nat × Nat × Nat × Nat)
def xh3 (l : List (Nat × Nat × Nat)) (a b c : Nat) : Bool := l.any (fun q => nq q.1 a && (nq q.2.1 b && nq q.2.2 c))
def xh4 (l : xT4) (a b c d : Nat) : Bool := l.any (fun q => nq q.1 a && (nq q.2.1 b && (nq q.2.2.1 c && nq q.2.2.2 d)))
def xh5 (l : xT6) (a b c d e : Nat) : Bool := l.any (fun q => nq q.1 a && (nq q.2.1 b && (nq q.2.2.1 c && (nq q.2.2.2.1 d && nq q.2.2.2.2 e))))
theorem xh3_ok {l : List (Nat × Nat × Nat)} {a b c : Nat} (h : xh3 l a b c = true) : (a, b, c) ∈ l := by
  obtain ⟨⟨q1, q2, q3⟩, hq, h2⟩ := List.any_eq_true.mp h
  simp only [Bool.and_eq_true] at h2
  rw [← nq_eq h2.1, ← nq_eq h2.2.1, ← nq_eq h2.2.2]
  exact hq
theorem xh4_ok {l : xT4} {a b c d : Nat} (h : xh4 l a b c d = true) : (a, b, c, d) ∈ l := by
  obtain ⟨⟨q1, q2, q3, q4⟩, hq, h2⟩ := List.any_eq_true.mp h
  simp only [Bool.and_eq_true] at h2
  rw [← nq_eq h2.1, ← nq_eq h2.2.1, ← nq_eq h2.2.2.1, ← nq_eq h2.2.2.2]
  exact hq
theorem xh5_ok {l : xT6} {a b c d e : Nat} (h : xh5 l a b c d e = true) : (a, b, c, d, e) ∈ l := by
  obtain ⟨⟨q1, q2, q3, q4, q5⟩, hq, h2⟩ := List.any_eq_true.mp h
  simp only [Bool.and_eq_true] at h2
  rw [← nq_eq h2.1, ← nq_eq h2.2.1, ← nq_eq h2.2.2.1, ← nq_eq h2.2.2.2.1, ← nq_eq h2.2.2.2.2]
  exact hq
/-- of one class: getfield (k, class, place), putfield, static calls (k, arguments, method), virtual calls (k, arguments, flag, class, method), ints, longs, arraycopy's link -/
abbrev xLT : Type := List (Nat × Nat × Nat) × List (Nat × Nat × Nat) × List (Nat × Nat × Nat) × xT6 × List (Nat × Int) × List (Nat × Int) × List Nat × List Nat × List Nat
def xLTok (MT : List xMt) (own : String) (L : xLT) : Prop :=
  (∀ q ∈ L.1, xfl vcl own q.1 false q.2) ∧ (∀ q ∈ L.2.1, xfl vcl own q.1 true q.2) ∧ (∀ q ∈ L.2.2.1, xcS MT own q.1 q.2.1 q.2.2) ∧ (∀ q ∈ L.2.2.2.1, xcV MT vcl own q.1 q.2.1 (some q.2.2.1) q.2.2.2) ∧
  (∀ q ∈ L.2.2.2.2.1, Cond.constant own q.1 (Int32.ofInt q.2) ∈ xtg) ∧ (∀ q ∈ L.2.2.2.2.2.1, Cond.constantLong own q.1 (Int64.ofInt q.2) ∈ xtg) ∧ (∀ k ∈ L.2.2.2.2.2.2.1, Cond.methodLink own k arraycopyName ∈ xtg) ∧ (∀ k ∈ L.2.2.2.2.2.2.2.1, Cond.methodLink own k Lib.Math.min.name ∈ xtg) ∧ ∀ k ∈ L.2.2.2.2.2.2.2.2, Cond.methodLink own k Lib.MathLoose.min_long.x ∈ xtg
def xkc (l : List (Nat × Int)) (k : Nat) (z : Int) : Bool := l.any (fun q => nq q.1 k && decide (q.2 = z))
theorem xkc_ok {l : List (Nat × Int)} {k : Nat} {z : Int} (h : xkc l k z = true) : (k, z) ∈ l := by
  obtain ⟨⟨q1, q2⟩, hq, h2⟩ := List.any_eq_true.mp h
  simp only [Bool.and_eq_true] at h2
  have e2 : q2 = z := of_decide_eq_true h2.2
  rw [← nq_eq h2.1, ← e2]
  exact hq
def xlkb (L : xLT) (nL : Nat) (pcs : List Nat) (pc i : Nat) (x : xI) : Bool := match x.1 with
  | .goto off => xjc pcs pc off x.2.1.toNat
  | .ifCond _ off => xjc pcs pc off x.2.1.toNat && xnx pcs i (pc + 3)
  | .if_icmp _ off => xjc pcs pc off x.2.1.toNat && xnx pcs i (pc + 3)
  | .bipush n => decide ((Int8.ofInt n).toInt32 = Int32.ofInt n) && xnx pcs i (pc + 2)
  | .sipush n => decide ((Int16.ofInt n).toInt32 = Int32.ofInt n) && xnx pcs i (pc + 3)
  | .ldc k => (!x.2.2.1.isEmpty || xkc L.2.2.2.2.1 k x.2.1) && xnx pcs i (pc + 2)
  | .ldc_w k => (!x.2.2.1.isEmpty || xkc L.2.2.2.2.1 k x.2.1) && xnx pcs i (pc + 3)
  | .ldc2_w k => xkc L.2.2.2.2.2.1 k x.2.1 && xnx pcs i (pc + 3)
  | .getfield k => x.2.2.1.all (fun q => xh3 L.1 k q.1 q.2) && xnx pcs i (pc + 3)
  | .putfield k => x.2.2.1.all (fun q => xh3 L.2.1 k q.1 q.2) && xnx pcs i (pc + 3)
  | .istore k => Nat.blt k nL && xnx pcs i (pc + 2)
  | .istore_n k => Nat.blt k.val nL && xnx pcs i (pc + 1)
  | .lstore k => Nat.blt (k + 1) nL && xnx pcs i (pc + 2)
  | .astore k => Nat.blt k nL && xnx pcs i (pc + 2)
  | .astore_n k => Nat.blt k.val nL && xnx pcs i (pc + 1)
  | .invokestatic k => (match x.2.2.2 with
    | [] => !x.2.2.1.isEmpty || L.2.2.2.2.2.2.1.any (fun q => nq q k)
    | [1] => L.2.2.2.2.2.2.2.1.any (fun q => nq q k)
    | [2] => L.2.2.2.2.2.2.2.2.any (fun q => nq q k)
    | _ => true) && (x.2.2.1.all (fun q => xh3 L.2.2.1 k x.2.1.toNat q.2) && xnx pcs i (pc + 3))
  | .invokevirtual k => (match x.2.2.2 with
    | fl :: _ => x.2.2.1.all (fun q => xh5 L.2.2.2.1 k x.2.1.toNat fl q.1 q.2)
    | [] => x.2.2.1.isEmpty) && xnx pcs i (pc + 3)
  | .ireturn => true
  | .lreturn => true
  | .areturn => true
  | .return_ => true
  | .athrow => true
  | .new _ => true
  | ins => xnx pcs i (pc + ilen ins)
theorem xemp {l : List (Nat × Nat)} (h : l = []) {b : Bool} (h2 : (!l.isEmpty || b) = true) : b = true := by subst h; simpa using h2
theorem xlkb_ok {MT : List xMt} {own : String} {L : xLT} (hL : xLTok MT own L) {nL : Nat} {pcs : List Nat} {pc i : Nat} {x : xI} (h : xlkb L nL pcs pc i x = true) : xlnk MT vcl own nL pcs pc i x := by
  obtain ⟨h1, h2, h3, h4, h5, h6, h7, h8, h9⟩ := hL
  obtain ⟨ins, z, l1, l2⟩ := x
  cases ins <;> simp only [xlkb, xlnk, Bool.and_eq_true, decide_eq_true_eq] at h ⊢
  all_goals first
    | exact xnx_ok h
    | exact xjc_ok h
    | exact ⟨xjc_ok h.1, xnx_ok h.2⟩
    | exact ⟨h.1, xnx_ok h.2⟩
    | exact ⟨fun e => h5 _ (xkc_ok (xemp e h.1)), xnx_ok h.2⟩
    | exact ⟨h6 _ (xkc_ok h.1), xnx_ok h.2⟩
    | exact ⟨fun q hq => h1 _ (xh3_ok (List.all_eq_true.mp h.1 q hq)), xnx_ok h.2⟩
    | exact ⟨fun q hq => h2 _ (xh3_ok (List.all_eq_true.mp h.1 q hq)), xnx_ok h.2⟩
    | exact ⟨Nat.le_of_ble_eq_true h.1, xnx_ok h.2⟩
    | exact ⟨fun e e2 => by
        have h10 := h.1
        rw [e2] at h10
        obtain ⟨q, hq, he⟩ := List.any_eq_true.mp (xemp e h10)
        rw [← nq_eq he]
        exact h7 q hq, fun e2 => by
        have h10 := h.1
        rw [e2] at h10
        obtain ⟨q, hq, he⟩ := List.any_eq_true.mp h10
        rw [← nq_eq he]
        exact h8 q hq, fun e2 => by
        have h10 := h.1
        rw [e2] at h10
        obtain ⟨q, hq, he⟩ := List.any_eq_true.mp h10
        rw [← nq_eq he]
        exact h9 q hq, fun q hq => h3 _ (xh3_ok (List.all_eq_true.mp h.2.1 q hq)), xnx_ok h.2.2⟩
    | exact ⟨fun q hq => by
        cases l2 with
        | nil =>
          have he := h.1
          simp only [List.isEmpty_iff] at he
          rw [he] at hq
          cases hq
        | cons fl t => exact h4 _ (xh5_ok (List.all_eq_true.mp h.1 q hq)), xnx_ok h.2⟩
def xswc (pcs : List Nat) (pc : Nat) (d lo hi : Int) (offs : Array Int) (l : List (Nat × Nat)) (dt : Nat) : Bool :=
  xjc pcs pc d dt && (decide (0 ≤ lo) && (l.all (fun q => decide (lo ≤ (q.1 : Int) ∧ (q.1 : Int) ≤ hi)) && (List.range (hi - lo + 1).toNat).all (fun k => match offs[k]? with
    | some off => xjc pcs pc off (xsw l dt (lo + k))
    | none => false)))
def xthc (cc : ByteArray) (o : Nat) (pc ik : Nat) (q : Nat × Nat) : Bool := nq o 11 && (xExT.any (fun e => decide (e.1 = xExn q.1) && (nq e.2.1 ik && xIsT.any (fun t => decide (decode cc (pc + 3) = .ok (.dup, 1)) && ((nq q.2 0 && (decide (decode cc (pc + 4) = .ok (.ldc t.1, 2)) && (decide (decode cc (pc + 6) = .ok (.invokespecial e.2.2, 3)) && decide (decode cc (pc + 9) = .ok (.athrow, 1))))) || (nq q.2 1 && (decide (decode cc (pc + 4) = .ok (.ldc_w t.1, 3)) && (decide (decode cc (pc + 7) = .ok (.invokespecial e.2.2, 3)) && decide (decode cc (pc + 10) = .ok (.athrow, 1)))))))))) 
def xokb (cc : ByteArray) (o : Nat) (L : xLT) (nL : Nat) (pcs : List Nat) (i : Nat) (x : xI) : Bool := match pcs[i]? with
  | none => false
  | some pc => (match x.1 with
    | .tableswitch d lo hi offs => (match decode cc pc with
      | .ok q => decide (q.1 = .tableswitch d lo hi offs)
      | _ => false) && xswc pcs pc d lo hi offs x.2.2.1 x.2.1.toNat
    | .new ik => decide (decode cc pc = .ok (.new ik, 3)) && x.2.2.1.all (fun q => xthc cc o pc ik q)
    | ins => decide (decode cc pc = .ok (ins, ilen ins)) && xlkb L nL pcs pc i x)
theorem xsw_out {lo hi : Int} : ∀ (l : List (Nat × Nat)) (dt : Nat) (z : Int), l.all (fun q => decide (lo ≤ (q.1 : Int) ∧ (q.1 : Int) ≤ hi)) = true → z < lo ∨ hi < z → xsw l dt z = dt
  | [], _, _, _, _ => rfl
  | q :: t, dt, z, h, hz => by
    simp only [List.all_cons, Bool.and_eq_true, decide_eq_true_eq] at h
    unfold xsw
    rw [if_neg (by omega)]
    exact xsw_out t dt z h.2 hz
theorem xokb_ok {MT : List xMt} {own : String} {L : xLT} {o : Nat} (ho : o = 11 → own = "PartMaker") (hL : xLTok MT own L) {cc : ByteArray} {nL : Nat} {pcs : List Nat} {i : Nat} {x : xI} (h : xokb cc o L nL pcs i x = true) : xok MT vcl own cc nL pcs i x := by
  unfold xokb at h
  split at h
  · cases h
  · rename_i pc hpc
    refine ⟨pc, hpc, ?_⟩
    split at h
    · rename_i d lo hi offs hi9
      rw [hi9]
      simp only [Bool.and_eq_true] at h
      obtain ⟨h1, h2⟩ := h
      unfold xswc at h2
      simp only [Bool.and_eq_true, decide_eq_true_eq] at h2
      obtain ⟨h3, h4, h5, h6⟩ := h2
      refine ⟨?_, xjc_ok h3, fun z hz => xsw_out _ _ z h5 hz, fun z hz1 hz2 => ?_⟩
      · split at h1
        · rename_i q hq
          rw [hq, ← of_decide_eq_true h1]
          exact ⟨q.2, rfl⟩
        · cases h1
      · have h7 := List.all_eq_true.mp h6 (z - lo).toNat (List.mem_range.mpr (by omega))
        split at h7
        · rename_i off hoff
          have e : lo + ((z - lo).toNat : Int) = z := by omega
          rw [e] at h7
          exact ⟨off, hoff, xjc_ok h7⟩
        · cases h7
    · rename_i ik hi9
      rw [hi9]
      simp only [Bool.and_eq_true, decide_eq_true_eq] at h
      refine ⟨h.1, fun q hq => ?_⟩
      have h8 := List.all_eq_true.mp h.2 q hq
      unfold xthc at h8
      simp only [Bool.and_eq_true] at h8
      obtain ⟨ho8, h8⟩ := h8
      obtain ⟨e, he, h8⟩ := List.any_eq_true.mp h8
      simp only [Bool.and_eq_true, decide_eq_true_eq] at h8
      obtain ⟨he1, he2, h8⟩ := h8
      obtain ⟨t, ht, h8⟩ := List.any_eq_true.mp h8
      simp only [Bool.and_eq_true, Bool.or_eq_true, decide_eq_true_eq] at h8
      refine ⟨ho (nq_eq ho8), e.2.2, t, ?_, ht, h8.1, ?_⟩
      · rw [← he1, ← nq_eq he2]
        exact he
      · rcases h8.2 with ⟨a, b, c, d⟩ | ⟨a, b, c, d⟩
        · exact Or.inl ⟨nq_eq a, b, c, d⟩
        · exact Or.inr ⟨nq_eq a, b, c, d⟩
    · rename_i hn1 hn2
      simp only [Bool.and_eq_true, decide_eq_true_eq] at h
      have h9 := xlkb_ok hL h.2
      obtain ⟨ins, z, l1, l2⟩ := x
      cases ins
      all_goals first
        | exact ⟨h.1, h9⟩
        | exact absurd rfl (hn1 _ _ _ _)
        | exact absurd rfl (hn2 _)
def xall (f : Nat → xI → Bool) : Nat → List xI → Bool
  | _, [] => true
  | i, x :: t => f i x && xall f (i + 1) t
theorem xall_get {f : Nat → xI → Bool} : ∀ (l : List xI) (k : Nat), xall f k l = true → ∀ (i : Nat) (x : xI), l[i]? = some x → f (k + i) x = true
  | [], _, _, i, x, h => by simp at h
  | y :: t, k, h, 0, x, hx => by
    simp only [xall, Bool.and_eq_true] at h
    have e : y = x := by simpa using hx
    rw [← e]
    exact h.1
  | y :: t, k, h, i + 1, x, hx => by
    simp only [xall, Bool.and_eq_true] at h
    have := xall_get t (k + 1) h.2 i x (by simpa using hx)
    rw [show k + (i + 1) = k + 1 + i by omega]
    exact this
theorem x_chk {MT : List xMt} {own : String} {L : xLT} {o : Nat} {cc : ByteArray} {nL : Nat} {pcs : List Nat} {cd : List xI} (ho : o = 11 → own = "PartMaker") (hL : xLTok MT own L) (h : xall (xokb cc o L nL pcs) 0 cd = true) : ∀ (i : Nat) (x : xI), cd[i]? = some x → xok MT vcl own cc nL pcs i x := by
  intro i x hx
  have := xall_get cd 0 h i x hx
  rw [Nat.zero_add] at this
  exact xokb_ok ho hL this
