/-! what the start gives -/
def nv : List Cond := flatC (Jvm.Cond.and given_1 narrow_1)
/-- a state that has come of the start: the tables warmed, the start's cells as they were -/
def xS0 (s0 : State) : State → Prop := fun U => s0.WarmedH U.vm ∧ ∀ q : Nat, q < s0.heap.size → U.heap[q]? = s0.heap[q]?
theorem xS0_ok (s0 : State) : xSTok s0.heap.size (xS0 s0) := fun _ _ hW hq h => ⟨State.WarmedH.trans h.1 hW, fun q h9 => (hq q h9).trans (h.2 q h9)⟩
theorem xS0_A (s0 : State) : ∀ a : Nat, a < s0.heap.size → ¬ xA s0.heap.size a := fun _ h => Nat.not_le.mpr h
theorem getD_ofInt (bs : List Int) (j : Nat) : (bs.map Int32.ofInt).getD j 0 = Int32.ofInt (bs.getD j 0) := by
  rw [List.getD_eq_getElem?_getD, List.getD_eq_getElem?_getD, List.getElem?_map]
  cases bs[j]? <;> rfl
def sck (own : String) (k : Nat) (bs : List Int) (i : Nat) : Bool := decide (nv[i]? = some (.exactly (.string own k) "java/lang/String")) && (decide (nv[i + 1]? = some (.eq (.field (.string own k) "java/lang/String" "coder" "B") (.int 0))) && (decide (nv[i + 2]? = some (.arrayOf (.field (.string own k) "java/lang/String" "value" "[B") .byte)) && (decide (nv[i + 3]? = some (.eq (.length (.field (.string own k) "java/lang/String" "value" "[B")) (.int (Int32.ofNat bs.length)))) && (List.range bs.length).all (fun j => decide (nv[i + 4 + j]? = some (.eq (.elem (.field (.string own k) "java/lang/String" "value" "[B") (.int (Int32.ofNat j))) (.int (Int32.ofInt (bs.getD j 0)))))))))
theorem sck_ok {args : Array Value} {s : State} (hnv : ∀ w ∈ nv, w.before args s = true) {own tx : String} {k i : Nat} {bs : List Int} (hl : bs.length < 100) (h : sck own k bs i = true) (hr : (Cond.stringRef own k tx).before args s = true) : ∃ q v : Nat, vk_R own k tx q s ∧ jS s.heap.size q v bs s := by
  unfold sck at h
  simp only [Bool.and_eq_true, decide_eq_true_eq] at h
  obtain ⟨h1, h2, h3, h4, h5⟩ := h
  have g : ∀ {w : Cond} {n : Nat}, nv[n]? = some w → w.before args s = true := fun e => hnv _ (List.mem_of_getElem? e)
  obtain ⟨adK, adV, hS, hev⟩ := vk_Sof (args := args) (s := s) (N := 1) (tm := fun _ => .string own k) (len := [bs.length]) (byt := [bs.map Int32.ofInt]) (A := xA s.heap.size) (fun i hi => by rw [show i = 0 by omega]; show bs.length < 2 ^ 31; omega) (fun _ _ => g h1) (fun _ _ => g h2) (fun _ _ => g h3) (fun i hi => by rw [show i = 0 by omega]; exact g h4)
    (fun i hi j hj => by
      rw [show i = 0 by omega] at hj ⊢
      have hj' : j < bs.length := hj
      have h6 := of_decide_eq_true (List.all_eq_true.mp h5 j (List.mem_range.mpr hj'))
      show (Cond.eq (.elem (.field (.string own k) "java/lang/String" "value" "[B") (.int (Int32.ofNat j))) (.int ((bs.map Int32.ofInt).getD j 0))).before args s = true
      rw [getD_ofInt]
      exact g h6) (fun i j hi hj hne => absurd (show i = j by omega) hne) (xS0_A s)
  obtain ⟨k1, k2, k3, k4⟩ := hS.1 0 (by decide)
  refine ⟨adK 0, adV 0, vk_R.of hr (hev 0 (by decide)), k1, k2, k3, ?_⟩
  have e : (fun i : Nat => Value.int (Int32.ofInt (bs.getD i 0))) = (fun j : Nat => Value.int (([bs.map Int32.ofInt].getD 0 []).getD j 0)) := by
    funext j
    show _ = Value.int ((bs.map Int32.ofInt).getD j 0)
    rw [getD_ofInt]
  rw [e]
  exact k4
theorem site_ok (j : Nat) (q : String × Nat × List Int) (h : xSite[j]? = some q) : ∃ (i : Nat) (tx : String), sck q.1 q.2.1 q.2.2 i = true ∧ Cond.stringRef q.1 q.2.1 tx ∈ lw_tbl := by
  match j, h with
  | 0, h => cases h; exact ⟨624, "min(", by decide +kernel, List.mem_of_getElem? (i := 1340) (by decide +kernel)⟩
  | 1, h => cases h; exact ⟨632, "max(", by decide +kernel, List.mem_of_getElem? (i := 1341) (by decide +kernel)⟩
  | 2, h => cases h; exact ⟨640, "-(", by decide +kernel, List.mem_of_getElem? (i := 1342) (by decide +kernel)⟩
  | 3, h => cases h; exact ⟨646, "abs(", by decide +kernel, List.mem_of_getElem? (i := 1343) (by decide +kernel)⟩
  | 4, h => cases h; exact ⟨654, "sgn(", by decide +kernel, List.mem_of_getElem? (i := 1344) (by decide +kernel)⟩
  | 5, h => cases h; exact ⟨662, "(", by decide +kernel, List.mem_of_getElem? (i := 1345) (by decide +kernel)⟩
  | 6, h => cases h; exact ⟨667, "!(", by decide +kernel, List.mem_of_getElem? (i := 1381) (by decide +kernel)⟩
  | 7, h => cases h; exact ⟨673, "(", by decide +kernel, List.mem_of_getElem? (i := 1382) (by decide +kernel)⟩
  | 8, h => cases h; exact ⟨922, "-(", by decide +kernel, List.mem_of_getElem? (i := 2172) (by decide +kernel)⟩
  | 9, h => cases h; exact ⟨929, "abs(", by decide +kernel, List.mem_of_getElem? (i := 2173) (by decide +kernel)⟩
  | 10, h => cases h; exact ⟨938, "sgn(", by decide +kernel, List.mem_of_getElem? (i := 2174) (by decide +kernel)⟩
  | 11, h => cases h; exact ⟨947, "min", by decide +kernel, List.mem_of_getElem? (i := 2178) (by decide +kernel)⟩
  | 12, h => cases h; exact ⟨954, "max", by decide +kernel, List.mem_of_getElem? (i := 2179) (by decide +kernel)⟩
  | 13, h => cases h; exact ⟨915, "!(", by decide +kernel, List.mem_of_getElem? (i := 2153) (by decide +kernel)⟩
  | n + 14, h => cases h
theorem ist_ok : ∀ t ∈ xIsT, Cond.exactly (.string "PartMaker" t.1) "java/lang/String" ∈ nv ∧ Cond.stringRef "PartMaker" t.1 t.2 ∈ lw_tbl := List.forall_mem_cons.mpr ⟨⟨List.mem_of_getElem? (i := 324) (by decide +kernel), List.mem_of_getElem? (i := 1124) (by decide +kernel)⟩, List.forall_mem_cons.mpr ⟨⟨List.mem_of_getElem? (i := 362) (by decide +kernel), List.mem_of_getElem? (i := 1143) (by decide +kernel)⟩, List.forall_mem_cons.mpr ⟨⟨List.mem_of_getElem? (i := 387) (by decide +kernel), List.mem_of_getElem? (i := 1157) (by decide +kernel)⟩, List.forall_mem_cons.mpr ⟨⟨List.mem_of_getElem? (i := 472) (by decide +kernel), List.mem_of_getElem? (i := 1221) (by decide +kernel)⟩, List.forall_mem_cons.mpr ⟨⟨List.mem_of_getElem? (i := 499) (by decide +kernel), List.mem_of_getElem? (i := 1224) (by decide +kernel)⟩, List.forall_mem_cons.mpr ⟨⟨List.mem_of_getElem? (i := 540) (by decide +kernel), List.mem_of_getElem? (i := 1233) (by decide +kernel)⟩, List.forall_mem_cons.mpr ⟨⟨List.mem_of_getElem? (i := 565) (by decide +kernel), List.mem_of_getElem? (i := 1241) (by decide +kernel)⟩, List.forall_mem_cons.mpr ⟨⟨List.mem_of_getElem? (i := 606) (by decide +kernel), List.mem_of_getElem? (i := 1258) (by decide +kernel)⟩, List.forall_mem_cons.mpr ⟨⟨List.mem_of_getElem? (i := 837) (by decide +kernel), List.mem_of_getElem? (i := 1711) (by decide +kernel)⟩, List.forall_mem_cons.mpr ⟨⟨List.mem_of_getElem? (i := 855) (by decide +kernel), List.mem_of_getElem? (i := 1719) (by decide +kernel)⟩, List.forall_mem_cons.mpr ⟨⟨List.mem_of_getElem? (i := 877) (by decide +kernel), List.mem_of_getElem? (i := 1727) (by decide +kernel)⟩, List.forall_mem_cons.mpr ⟨⟨List.mem_of_getElem? (i := 895) (by decide +kernel), List.mem_of_getElem? (i := 1735) (by decide +kernel)⟩, List.forall_mem_cons.mpr ⟨⟨List.mem_of_getElem? (i := 583) (by decide +kernel), List.mem_of_getElem? (i := 1257) (by decide +kernel)⟩, List.forall_mem_cons.mpr ⟨⟨List.mem_of_getElem? (i := 433) (by decide +kernel), List.mem_of_getElem? (i := 1189) (by decide +kernel)⟩, List.forall_mem_cons.mpr ⟨⟨List.mem_of_getElem? (i := 774) (by decide +kernel), List.mem_of_getElem? (i := 1496) (by decide +kernel)⟩, List.forall_mem_cons.mpr ⟨⟨List.mem_of_getElem? (i := 799) (by decide +kernel), List.mem_of_getElem? (i := 1555) (by decide +kernel)⟩, List.forall_mem_cons.mpr ⟨⟨List.mem_of_getElem? (i := 342) (by decide +kernel), List.mem_of_getElem? (i := 1142) (by decide +kernel)⟩, List.forall_mem_cons.mpr ⟨⟨List.mem_of_getElem? (i := 716) (by decide +kernel), List.mem_of_getElem? (i := 1459) (by decide +kernel)⟩, List.forall_mem_cons.mpr ⟨⟨List.mem_of_getElem? (i := 452) (by decide +kernel), List.mem_of_getElem? (i := 1211) (by decide +kernel)⟩, List.forall_mem_cons.mpr ⟨⟨List.mem_of_getElem? (i := 737) (by decide +kernel), List.mem_of_getElem? (i := 1491) (by decide +kernel)⟩, List.forall_mem_cons.mpr ⟨⟨List.mem_of_getElem? (i := 817) (by decide +kernel), List.mem_of_getElem? (i := 1710) (by decide +kernel)⟩, List.forall_mem_cons.mpr ⟨⟨List.mem_of_getElem? (i := 679) (by decide +kernel), List.mem_of_getElem? (i := 1403) (by decide +kernel)⟩, fun _ h => absurd h List.not_mem_nil⟩⟩⟩⟩⟩⟩⟩⟩⟩⟩⟩⟩⟩⟩⟩⟩⟩⟩⟩⟩⟩⟩
theorem nc_ok : ∀ E ∈ xE3, ∀ F ∈ xE3, E ≠ F → Cond.not (.castable E F) ∈ nv := List.forall_mem_cons.mpr ⟨List.forall_mem_cons.mpr ⟨fun e => absurd rfl e, List.forall_mem_cons.mpr ⟨fun _ => List.mem_of_getElem? (i := 263) (by decide +kernel), List.forall_mem_cons.mpr ⟨fun _ => List.mem_of_getElem? (i := 278) (by decide +kernel), fun _ h => absurd h List.not_mem_nil⟩⟩⟩, List.forall_mem_cons.mpr ⟨List.forall_mem_cons.mpr ⟨fun _ => List.mem_of_getElem? (i := 248) (by decide +kernel), List.forall_mem_cons.mpr ⟨fun e => absurd rfl e, List.forall_mem_cons.mpr ⟨fun _ => List.mem_of_getElem? (i := 279) (by decide +kernel), fun _ h => absurd h List.not_mem_nil⟩⟩⟩, List.forall_mem_cons.mpr ⟨List.forall_mem_cons.mpr ⟨fun _ => List.mem_of_getElem? (i := 249) (by decide +kernel), List.forall_mem_cons.mpr ⟨fun _ => List.mem_of_getElem? (i := 264) (by decide +kernel), List.forall_mem_cons.mpr ⟨fun e => absurd rfl e, fun _ h => absurd h List.not_mem_nil⟩⟩⟩, fun _ h => absurd h List.not_mem_nil⟩⟩⟩
theorem cs_ok : ∀ E ∈ xE3, Cond.castable E E ∈ lw_tbl := List.forall_mem_cons.mpr ⟨List.mem_of_getElem? (i := 604) (by decide +kernel), List.forall_mem_cons.mpr ⟨List.mem_of_getElem? (i := 1150) (by decide +kernel), List.forall_mem_cons.mpr ⟨List.mem_of_getElem? (i := 1182) (by decide +kernel), fun _ h => absurd h List.not_mem_nil⟩⟩⟩
def rck (C n : String) (r : List Int) (i : Nat) : Bool := decide (nv[i]? = some (.arrayOf (.static C n "[C") .char)) && (decide (nv[i + 1]? = some (.eq (.length (.static C n "[C")) (.int (Int32.ofNat r.length)))) && (List.range r.length).all (fun j => decide (nv[i + 2 + j]? = some (.eq (.elem (.static C n "[C") (.int (Int32.ofNat j))) (.int (Int32.ofInt (r.getD j 0)))))))
theorem rck_ok {args : Array Value} {s : State} (hnv : ∀ w ∈ nv, w.before args s = true) {C n : String} {r : List Int} {i : Nat} (hl : r.length < 100) (h : rck C n r i = true) (h1 : (Cond.laysStatic C n "[C").before args s = true) (h2 : (Cond.initialized C).before args s = true) : ∃ t : Nat, va_Z C n "[C" (.ref t) (xA s.heap.size) s s.heap ∧ va_T .char t r.length (fun i => .int (Int32.ofInt (r.getD i 0))) (xA s.heap.size) s s.heap := by
  unfold rck at h
  simp only [Bool.and_eq_true, decide_eq_true_eq] at h
  obtain ⟨a1, a2, a3⟩ := h
  have g : ∀ {w : Cond} {n : Nat}, nv[n]? = some w → w.before args s = true := fun e => hnv _ (List.mem_of_getElem? e)
  obtain ⟨t, ht, hT⟩ := va_Tof (args := args) (s := s) (tm := .static C n "[C") (ty := .char) (N := r.length) (f := fun i => .int (Int32.ofInt (r.getD i 0))) (A := xA s.heap.size) (by omega) (g a1) (va_eqt (g a2)) (fun j hj => va_eqt (g (of_decide_eq_true (List.all_eq_true.mp a3 j (List.mem_range.mpr hj))))) (xS0_A s)
  exact ⟨t, va_Zref h1 h2 ht (xS0_A s), hT⟩
section XSTART
variable {s0 : State} {b : Nat}
theorem st_xtg (hts : ∀ w ∈ lw_tbl, w.before #[Value.ref b] s0 = true) : ∀ w ∈ xtg, w.before #[Value.ref b] s0 = true := by
  intro w hw
  rcases List.mem_append.mp (List.mem_filter.mp hw).1 with h | h
  · have m1 := hts _ (show Cond.privateMethod ⟨"PartMaker$Growth", "merge", "(IIII)V"⟩ ∈ lw_tbl from List.mem_of_getElem? (i := 952) (by decide +kernel))
    have m2 := hts _ (show Cond.instanceMethod ⟨"PartMaker$Growth", "merge", "(IIII)V"⟩ ∈ lw_tbl from List.mem_of_getElem? (i := 953) (by decide +kernel))
    have u1 := hts _ (show Cond.privateMethod ⟨"PartMaker$Growth", "unsettleBehind", "(I)V"⟩ ∈ lw_tbl from List.mem_of_getElem? (i := 527) (by decide +kernel))
    have u2 := hts _ (show Cond.instanceMethod ⟨"PartMaker$Growth", "unsettleBehind", "(I)V"⟩ ∈ lw_tbl from List.mem_of_getElem? (i := 528) (by decide +kernel))
    have a1 := hts _ (show Cond.selects "PartMaker$Expressions" ⟨"PartMaker$Growth", "advance", "(I)I"⟩ ⟨"PartMaker$Growth", "advance", "(I)I"⟩ ∈ lw_tbl from List.mem_of_getElem? (i := 558) (by decide +kernel))
    have a2 := hts _ (show Cond.selects "PartMaker$Tests" ⟨"PartMaker$Growth", "advance", "(I)I"⟩ ⟨"PartMaker$Growth", "advance", "(I)I"⟩ ∈ lw_tbl from List.mem_of_getElem? (i := 559) (by decide +kernel))
    simp only [xprv, List.mem_cons, List.not_mem_nil, or_false] at h
    rcases h with rfl | rfl | rfl | rfl
    · exact x_sel_priv (y' := ⟨"PartMaker$Growth", "advance", "(I)I"⟩) rfl ⟨by decide, by decide⟩ a1 m1 m2
    · exact x_sel_priv (y' := ⟨"PartMaker$Growth", "advance", "(I)I"⟩) rfl ⟨by decide, by decide⟩ a2 m1 m2
    · exact x_sel_priv (y' := ⟨"PartMaker$Growth", "advance", "(I)I"⟩) rfl ⟨by decide, by decide⟩ a1 u1 u2
    · exact x_sel_priv (y' := ⟨"PartMaker$Growth", "advance", "(I)I"⟩) rfl ⟨by decide, by decide⟩ a2 u1 u2
  · exact hts w h
theorem st_dec (hts : ∀ w ∈ lw_tbl, w.before #[Value.ref b] s0 = true) : xDec (xS0 s0) := fun _ h y hy => va_Nw.warmD h.1 (va_Nw.of rfl (hts _ hy))
theorem st_ts (hts : ∀ w ∈ lw_tbl, w.before #[Value.ref b] s0 = true) (hnv : ∀ w ∈ nv, w.before #[Value.ref b] s0 = true) : xTS s0.heap.size (xS0 s0) := by
  intro U h
  have hk : ∀ a : Nat, a < s0.heap.size → ¬ xA s0.heap.size a → U.heap[a]? = s0.heap[a]? := fun a h1 _ => h.2 a h1
  refine ⟨fun w hw hx hg => ?_, fun t ht => ?_, ?_, ?_⟩
  · unfold xmv at hx
    rw [hg, Bool.false_or] at hx
    split at hx
    · exact va_Nw.warmC h.1 (va_Nw.of rfl (hts _ hw))
    · exact va_Nw.warmD h.1 (va_Nw.of rfl (hts _ hw))
    · cases hx
  · obtain ⟨h1, h2⟩ := ist_ok t ht
    obtain ⟨a, -, -, -, q1, -⟩ := Cond.exactly_spec (args := #[Value.ref b]) (first := s0) (o := none) (s := s0) (idx := []) (t := .string "PartMaker" t.1) (cls := "java/lang/String") (hnv _ h1)
    exact ⟨t.2, a, vk_R.warm h.1 (vk_R.of (hts _ h2) q1)⟩
  · exact vx_Zq.kept (vx_Zq.moved h.1.alike (vx_Zqof (hts _ (show Cond.laysStatic Bundle.tN "UNASSIGNED_STACK" Bundle.steD ∈ lw_tbl from List.mem_of_getElem? (i := 629) (by decide +kernel))) (hts _ (show Cond.initialized Bundle.tN ∈ lw_tbl from List.mem_of_getElem? (i := 93) (by decide +kernel))) (hnv _ (show Cond.isRef (.static Bundle.tN "UNASSIGNED_STACK" Bundle.steD) ∈ nv from List.mem_of_getElem? (i := 4) (by decide +kernel))) (xS0_A s0))) hk
  · exact vx_Zq.kept (vx_Zq.moved h.1.alike (vx_Zqof (hts _ (show Cond.laysStatic Bundle.tN "SUPPRESSED_SENTINEL" Bundle.listD ∈ lw_tbl from List.mem_of_getElem? (i := 631) (by decide +kernel))) (hts _ (show Cond.initialized Bundle.tN ∈ lw_tbl from List.mem_of_getElem? (i := 93) (by decide +kernel))) (hnv _ (show Cond.isRef (.static Bundle.tN "SUPPRESSED_SENTINEL" Bundle.listD) ∈ nv from List.mem_of_getElem? (i := 5) (by decide +kernel))) (xS0_A s0))) hk
theorem st_nc (hts : ∀ w ∈ lw_tbl, w.before #[Value.ref b] s0 = true) (hnv : ∀ w ∈ nv, w.before #[Value.ref b] s0 = true) : ∀ U, xS0 s0 U → xNcs U := fun _ h => ⟨fun E hE => va_Nw.warmC h.1 (va_Nw.of rfl (hts _ (cs_ok E hE))), fun E hE F hF hne => va_Nc.moved h.1.alike (va_Nc.of (hnv _ (nc_ok E hE F hF hne)))⟩
theorem st_b (hts : ∀ w ∈ lw_tbl, w.before #[Value.ref b] s0 = true) : bST s0.heap.size (xS0 s0) := ⟨xS0_ok s0, fun _ h => bOv.moved h.1.alike (m_over (hts _ (show Cond.arrayOver (.array .int) ∈ lw_tbl from List.mem_of_getElem? (i := 126) (by decide +kernel)))), fun _ h _ _ _ hw => va_Nw.warmM h.1 (va_Nw.of rfl (hts _ hw))⟩
theorem sta_ok : rck "PartMaker$Parts" "MIDDLES" [43, 45, 42, 44, 44, 32, 47, 37, 32, 32] 218 = true ∧ rck "PartMaker$Tests" "MIDDLES" [60, 61, 32, 38] 231 = true := by decide +kernel
/-- the strings and rows: addresses for them all -/
theorem st_str (hts : ∀ w ∈ lw_tbl, w.before #[Value.ref b] s0 = true) (hnv : ∀ w ∈ nv, w.before #[Value.ref b] s0 = true) : ∃ adS adR : Nat → Nat, ∀ ρ : Nat → Nat, (∀ j, j < 1000 → ρ (1000 + j) = adS j) → (∀ t, t < 1000 → ρ (2000 + t) = adR t) → ∀ U, xS0 s0 U → xStr ρ s0.heap.size U := by
  have h1 : ∀ j : Nat, ∃ q : Nat × Nat, ∀ x, xSite[j]? = some x → (∃ tx, vk_R x.1 x.2.1 tx q.1 s0) ∧ jS s0.heap.size q.1 q.2 x.2.2 s0 := fun j => by
    cases hx : xSite[j]? with
    | none => exact ⟨(0, 0), fun x e => by cases e⟩
    | some x =>
      obtain ⟨i, tx, c1, c2⟩ := site_ok j x hx
      obtain ⟨q, v, k1, k2⟩ := sck_ok hnv (xSite_b x (List.mem_of_getElem? hx)).1 c1 (hts _ c2)
      exact ⟨(q, v), fun x' e => by cases e; exact ⟨⟨tx, k1⟩, k2⟩⟩
  obtain ⟨ad, had⟩ := Classical.axiomOfChoice h1
  obtain ⟨t0, z0, r0⟩ := rck_ok hnv (by decide) sta_ok.1 (hts _ (show Cond.laysStatic "PartMaker$Parts" "MIDDLES" "[C" ∈ lw_tbl from List.mem_of_getElem? (i := 1377) (by decide +kernel))) (hts _ (show Cond.initialized "PartMaker$Parts" ∈ lw_tbl from List.mem_of_getElem? (i := 110) (by decide +kernel)))
  obtain ⟨t1, z1, r1⟩ := rck_ok hnv (by decide) sta_ok.2 (hts _ (show Cond.laysStatic "PartMaker$Tests" "MIDDLES" "[C" ∈ lw_tbl from List.mem_of_getElem? (i := 1389) (by decide +kernel))) (hts _ (show Cond.initialized "PartMaker$Tests" ∈ lw_tbl from List.mem_of_getElem? (i := 87) (by decide +kernel)))
  refine ⟨fun j => (ad j).1, fun t => if t = 0 then t0 else t1, fun ρ hS hR U h => ?_⟩
  have hk : ∀ a : Nat, a < s0.heap.size → ¬ xA s0.heap.size a → U.heap[a]? = s0.heap[a]? := fun a g1 _ => h.2 a g1
  refine ⟨jC_mv h.1.alike h.2 ⟨va_Zof (hts _ (show Cond.laysStatic "java/lang/String" "COMPACT_STRINGS" "Z" ∈ lw_tbl from List.mem_of_getElem? (i := 653) (by decide +kernel))) (hts _ (show Cond.initialized "java/lang/String" ∈ lw_tbl from List.mem_of_getElem? (i := 102) (by decide +kernel))) (va_eqt (hnv _ (show Cond.eq (.static "java/lang/String" "COMPACT_STRINGS" "Z") (.int 1) ∈ nv from List.mem_of_getElem? (i := 6) (by decide +kernel)))) (xS0_A s0), va_Zqof (hts _ (show Cond.laysStatic "jdk/internal/util/Preconditions" "SIOOBE_FORMATTER" "Ljava/util/function/BiFunction;" ∈ lw_tbl from List.mem_of_getElem? (i := 737) (by decide +kernel))) (hts _ (show Cond.initialized "jdk/internal/util/Preconditions" ∈ lw_tbl from List.mem_of_getElem? (i := 106) (by decide +kernel))) (hnv _ (show Cond.isRef (.static "jdk/internal/util/Preconditions" "SIOOBE_FORMATTER" "Ljava/util/function/BiFunction;") ∈ nv from List.mem_of_getElem? (i := 7) (by decide +kernel))) (xS0_A s0)⟩, fun j q hq => ?_, fun t r hr => ?_, ?_⟩
  · have hj : j < 1000 := Nat.lt_of_lt_of_le (List.getElem?_eq_some_iff.mp hq).1 (by decide)
    obtain ⟨⟨tx, k1⟩, k2⟩ := had j q hq
    rw [hS j hj]
    exact ⟨⟨tx, vk_R.warm h.1 k1⟩, (ad j).2, jS_mv h.1.alike h.2 k2⟩
  · match t, hr with
    | 0, hr =>
      cases hr
      rw [hR 0 (by decide)]
      exact (va_T.moved h.1.alike r0).kept hk
    | 1, hr =>
      cases hr
      rw [hR 1 (by decide)]
      exact (va_T.moved h.1.alike r1).kept hk
    | n + 2, hr => cases hr
  · refine List.forall_mem_cons.mpr ⟨⟨"PartMaker$Parts", "MIDDLES", "[C", ?_, ?_⟩, List.forall_mem_cons.mpr ⟨⟨"PartMaker$Tests", "MIDDLES", "[C", ?_, ?_⟩, fun _ h => absurd h List.not_mem_nil⟩⟩
    · show va_Z "PartMaker$Parts" "MIDDLES" "[C" (.ref (ρ (2000 + 0))) (xA s0.heap.size) U U.heap
      rw [hR 0 (by decide)]
      exact (va_Z.moved h.1.alike z0).kept hk
    · exact xtg_of 1376 (by decide +kernel) (by decide +kernel)
    · show va_Z "PartMaker$Tests" "MIDDLES" "[C" (.ref (ρ (2000 + 1))) (xA s0.heap.size) U U.heap
      rw [hR 1 (by decide)]
      exact (va_Z.moved h.1.alike z1).kept hk
    · exact xtg_of 1388 (by decide +kernel) (by decide +kernel)
end XSTART
