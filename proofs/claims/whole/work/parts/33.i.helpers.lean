/-! what each helper does -/
theorem zl0 {zs : List Int} (h : zs.length = 0) : zs = [] := by
  exact List.eq_nil_of_length_eq_zero h
theorem zl1 {zs : List Int} (h : zs.length = 1) : ∃ z0 : Int, zs = [z0] := by
  match zs, h with
  | [z0], _ => exact ⟨z0, rfl⟩
theorem zl2 {zs : List Int} (h : zs.length = 2) : ∃ z0 z1 : Int, zs = [z0, z1] := by
  match zs, h with
  | [z0, z1], _ => exact ⟨z0, z1, rfl⟩
theorem zl3 {zs : List Int} (h : zs.length = 3) : ∃ z0 z1 z2 : Int, zs = [z0, z1, z2] := by
  match zs, h with
  | [z0, z1, z2], _ => exact ⟨z0, z1, z2, rfl⟩
theorem zl4 {zs : List Int} (h : zs.length = 4) : ∃ z0 z1 z2 z3 : Int, zs = [z0, z1, z2, z3] := by
  match zs, h with
  | [z0, z1, z2, z3], _ => exact ⟨z0, z1, z2, z3, rfl⟩
theorem zl5 {zs : List Int} (h : zs.length = 5) : ∃ z0 z1 z2 z3 z4 : Int, zs = [z0, z1, z2, z3, z4] := by
  match zs, h with
  | [z0, z1, z2, z3, z4], _ => exact ⟨z0, z1, z2, z3, z4, rfl⟩
def HT : List xHR := [(97, ["java/lang/IllegalArgumentException"], 1, false), (98, ["java/lang/IllegalArgumentException", "java/lang/IllegalStateException"], 4, false), (99, ["java/util/NoSuchElementException"], 1, false), (100, ["java/lang/IllegalArgumentException"], 2, true), (101, ["java/lang/IllegalArgumentException", "java/lang/IllegalStateException"], 1, true), (103, ["java/lang/IllegalArgumentException"], 1, false), (105, ["java/util/NoSuchElementException"], 2, false), (106, ["java/util/NoSuchElementException"], 3, false), (107, ["java/util/NoSuchElementException"], 3, false), (108, ["java/util/NoSuchElementException", "java/lang/IllegalArgumentException"], 5, false), (109, ["java/util/NoSuchElementException"], 2, false), (111, ["java/lang/IllegalArgumentException"], 1, false), (112, ["java/lang/IllegalArgumentException", "java/util/NoSuchElementException"], 3, false), (114, ["java/util/NoSuchElementException"], 3, false), (115, ["java/util/NoSuchElementException", "java/lang/IllegalArgumentException"], 3, false), (116, ["java/util/NoSuchElementException"], 1, false), (118, ["java/util/NoSuchElementException"], 2, false), (119, ["java/util/NoSuchElementException"], 3, false), (120, ["java/util/NoSuchElementException"], 3, false), (121, ["java/lang/IllegalArgumentException", "java/lang/IllegalStateException"], 1, false), (122, ["java/lang/IllegalArgumentException", "java/lang/IllegalStateException"], 1, false), (123, ["java/lang/IllegalStateException", "java/util/NoSuchElementException"], 1, false), (124, ["java/lang/IllegalStateException", "java/lang/IllegalArgumentException"], 3, false), (125, ["java/lang/IllegalStateException"], 0, false), (126, ["java/lang/IllegalStateException", "java/util/NoSuchElementException"], 1, false), (127, ["java/lang/IllegalStateException", "java/util/NoSuchElementException"], 2, false), (128, ["java/lang/IllegalArgumentException", "java/lang/IllegalStateException"], 2, false), (129, ["java/lang/IllegalArgumentException", "java/lang/IllegalStateException"], 1, false), (130, ["java/lang/IllegalStateException"], 0, false), (131, ["java/lang/IllegalStateException", "java/lang/IllegalArgumentException"], 1, false), (132, ["java/lang/IllegalStateException", "java/lang/IllegalArgumentException"], 4, false), (133, ["java/lang/IllegalStateException", "java/util/NoSuchElementException"], 1, true), (134, ["java/lang/IllegalArgumentException", "java/util/NoSuchElementException"], 2, false), (136, ["java/lang/IllegalArgumentException"], 2, false), (138, ["java/util/NoSuchElementException"], 2, false), (139, ["java/util/NoSuchElementException"], 1, false)]
theorem hw_many {d b : Nat} {h : xH} {Q' : Int → xH → Prop} {zs : List Int} (hz : zs.length = 1) (hr : xRn2 G0 MT d b 97 (.inr (.inr 0) :: zs.map .inl) h (xHQ (97, ["java/lang/IllegalArgumentException"], 1, false) Q')) (P : xPr) (hP : xClL G0 cdL_many (some .int) (xRn2 G0 MT d) xNoH [] 4 (4, [("java/lang/IllegalArgumentException", 8)]) none (xQv Q') P) : P b 0 (xini (.inr (.inr 0) :: (zs.map .inl ++ [.inr (.inr 112)])) 4) [] h := by
  obtain ⟨z0, rfl⟩ := zl1 hz
  refine EL_s hP 4 (i' := 4) (ls' := [some (.inr (.inr 0)), some (.inl z0), some (.inr (.inr 112)), none]) (sk' := [.inl z0, .inr (.inr 0), .inl 0, .inr (.inr 112)]) (h' := h) rfl ?_
  refine EL_call (b1 := b) (b2 := 0) hP rfl rfl (Nat.le_of_ble_eq_true rfl) (fun e => absurd e (by decide)) hr ?_ ?_
  · rintro v h1 (⟨r, hv, hq⟩ | ⟨k, E, hv, -⟩)
    · cases hv
      refine EL_s hP 1 (i' := 6) (ls' := [some (.inr (.inr 0)), some (.inl z0), some (.inr (.inr 112)), none]) (sk' := [.inr (.inl (w32 r)), .inl 0, .inr (.inr 112)]) (h' := h1) rfl ?_
      refine EL_sd hP (ty := .long) (n := 1) (a := 112) (z := 0) (y := w32 r) (sk := []) rfl rfl rfl (by decide) (by decide) trivial ?_
      refine EL_s hP 2 (i' := 12) (ls' := [some (.inr (.inr 0)), some (.inl z0), some (.inr (.inr 112)), none]) (sk' := [.inl 0]) (h' := xup h1 112 0 (w32 r)) rfl ?_
      exact EL_ret hP (v := some (.inl 0)) rfl (Or.inl rfl) ⟨0, rfl, hq⟩
    · cases hv
  · rintro E h1 (⟨r, hv, -⟩ | ⟨k, E9, hv, hE, hq⟩)
    · cases hv
    · cases hv
      refine ⟨rfl, ?_⟩
      match k, hE, hq with
      | 0, hE, hq =>
        cases hE
        refine ⟨0, 8, _, rfl, rfl, Or.inr ⟨_, rfl⟩, ?_⟩
        refine EL_s hP 1 (i' := 10) (ls' := List.replicate 4 none) (sk' := [.inl 1]) (h' := h1) rfl ?_
        exact EL_ret hP (v := some (.inl 1)) rfl (Or.inl rfl) ⟨1, rfl, hq⟩
      | k + 1, hE, hq => cases hE
theorem hw_example {d b : Nat} {h : xH} {Q' : Int → xH → Prop} {zs : List Int} (hz : zs.length = 4) (hr : xRn2 G0 MT d b 98 (.inr (.inr 0) :: zs.map .inl) h (xHQ (98, ["java/lang/IllegalArgumentException", "java/lang/IllegalStateException"], 4, false) Q')) (P : xPr) (hP : xClL G0 cdL_example (some .int) (xRn2 G0 MT d) xNoH [] 7 (7, [("java/lang/IllegalArgumentException", 11), ("java/lang/IllegalStateException", 14)]) none (xQv Q') P) : P b 0 (xini (.inr (.inr 0) :: (zs.map .inl ++ [.inr (.inr 112)])) 7) [] h := by
  obtain ⟨z0, z1, z2, z3, rfl⟩ := zl4 hz
  refine EL_s hP 7 (i' := 7) (ls' := [some (.inr (.inr 0)), some (.inl z0), some (.inl z1), some (.inl z2), some (.inl z3), some (.inr (.inr 112)), none]) (sk' := [.inl z3, .inl z2, .inl z1, .inl z0, .inr (.inr 0), .inl 0, .inr (.inr 112)]) (h' := h) rfl ?_
  refine EL_call (b1 := b) (b2 := 0) hP rfl rfl (Nat.le_of_ble_eq_true rfl) (fun e => absurd e (by decide)) hr ?_ ?_
  · rintro v h1 (⟨r, hv, hq⟩ | ⟨k, E, hv, -⟩)
    · cases hv
      refine EL_s hP 1 (i' := 9) (ls' := [some (.inr (.inr 0)), some (.inl z0), some (.inl z1), some (.inl z2), some (.inl z3), some (.inr (.inr 112)), none]) (sk' := [.inr (.inl (w32 r)), .inl 0, .inr (.inr 112)]) (h' := h1) rfl ?_
      refine EL_sd hP (ty := .long) (n := 1) (a := 112) (z := 0) (y := w32 r) (sk := []) rfl rfl rfl (by decide) (by decide) trivial ?_
      refine EL_s hP 2 (i' := 18) (ls' := [some (.inr (.inr 0)), some (.inl z0), some (.inl z1), some (.inl z2), some (.inl z3), some (.inr (.inr 112)), none]) (sk' := [.inl 0]) (h' := xup h1 112 0 (w32 r)) rfl ?_
      exact EL_ret hP (v := some (.inl 0)) rfl (Or.inl rfl) ⟨0, rfl, hq⟩
    · cases hv
  · rintro E h1 (⟨r, hv, -⟩ | ⟨k, E9, hv, hE, hq⟩)
    · cases hv
    · cases hv
      refine ⟨rfl, ?_⟩
      match k, hE, hq with
      | 0, hE, hq =>
        cases hE
        refine ⟨0, 11, _, rfl, rfl, Or.inl ⟨_, rfl⟩, ?_⟩
        refine EL_s hP 1 (i' := 13) (ls' := List.replicate 7 none) (sk' := [.inl 1]) (h' := h1) rfl ?_
        exact EL_ret hP (v := some (.inl 1)) rfl (Or.inl rfl) ⟨1, rfl, hq⟩
      | 1, hE, hq =>
        cases hE
        refine ⟨1, 14, _, rfl, rfl, Or.inl ⟨_, rfl⟩, ?_⟩
        refine EL_s hP 1 (i' := 16) (ls' := List.replicate 7 none) (sk' := [.inl 2]) (h' := h1) rfl ?_
        exact EL_ret hP (v := some (.inl 2)) rfl (Or.inl rfl) ⟨2, rfl, hq⟩
      | k + 2, hE, hq => cases hE
theorem hw_drop {d b : Nat} {h : xH} {Q' : Int → xH → Prop} {zs : List Int} (hz : zs.length = 1) (hr : xRn2 G0 MT d b 99 (.inr (.inr 0) :: zs.map .inl) h (xHQ (99, ["java/util/NoSuchElementException"], 1, false) Q')) (P : xPr) (hP : xClL G0 cdL_drop (some .int) (xRn2 G0 MT d) xNoH [] 4 (4, [("java/util/NoSuchElementException", 8)]) none (xQv Q') P) : P b 0 (xini (.inr (.inr 0) :: (zs.map .inl ++ [.inr (.inr 112)])) 4) [] h := by
  obtain ⟨z0, rfl⟩ := zl1 hz
  refine EL_s hP 4 (i' := 4) (ls' := [some (.inr (.inr 0)), some (.inl z0), some (.inr (.inr 112)), none]) (sk' := [.inl z0, .inr (.inr 0), .inl 0, .inr (.inr 112)]) (h' := h) rfl ?_
  refine EL_call (b1 := b) (b2 := 0) hP rfl rfl (Nat.le_of_ble_eq_true rfl) (fun e => absurd e (by decide)) hr ?_ ?_
  · rintro v h1 (⟨r, hv, hq⟩ | ⟨k, E, hv, -⟩)
    · cases hv
      refine EL_s hP 1 (i' := 6) (ls' := [some (.inr (.inr 0)), some (.inl z0), some (.inr (.inr 112)), none]) (sk' := [.inr (.inl (w32 r)), .inl 0, .inr (.inr 112)]) (h' := h1) rfl ?_
      refine EL_sd hP (ty := .long) (n := 1) (a := 112) (z := 0) (y := w32 r) (sk := []) rfl rfl rfl (by decide) (by decide) trivial ?_
      refine EL_s hP 2 (i' := 12) (ls' := [some (.inr (.inr 0)), some (.inl z0), some (.inr (.inr 112)), none]) (sk' := [.inl 0]) (h' := xup h1 112 0 (w32 r)) rfl ?_
      exact EL_ret hP (v := some (.inl 0)) rfl (Or.inl rfl) ⟨0, rfl, hq⟩
    · cases hv
  · rintro E h1 (⟨r, hv, -⟩ | ⟨k, E9, hv, hE, hq⟩)
    · cases hv
    · cases hv
      refine ⟨rfl, ?_⟩
      match k, hE, hq with
      | 0, hE, hq =>
        cases hE
        refine ⟨0, 8, _, rfl, rfl, Or.inr ⟨_, rfl⟩, ?_⟩
        refine EL_s hP 1 (i' := 10) (ls' := List.replicate 4 none) (sk' := [.inl 1]) (h' := h1) rfl ?_
        exact EL_ret hP (v := some (.inl 1)) rfl (Or.inl rfl) ⟨1, rfl, hq⟩
      | k + 1, hE, hq => cases hE
theorem hw_part {d b : Nat} {h : xH} {Q' : Int → xH → Prop} {zs : List Int} (hz : zs.length = 2) (hr : xRn2 G0 MT d b 100 (.inr (.inr 0) :: zs.map .inl) h (xHQ (100, ["java/lang/IllegalArgumentException"], 2, true) Q')) (P : xPr) (hP : xClL G0 cdL_part (some .int) (xRn2 G0 MT d) xNoH [] 5 (5, [("java/lang/IllegalArgumentException", 12)]) none (xQv Q') P) : P b 0 (xini (.inr (.inr 0) :: (zs.map .inl ++ [.inr (.inr 112)])) 5) [] h := by
  obtain ⟨z0, z1, rfl⟩ := zl2 hz
  refine EL_s hP 5 (i' := 5) (ls' := [some (.inr (.inr 0)), some (.inl z0), some (.inl z1), some (.inr (.inr 112)), none]) (sk' := [.inl z1, .inl z0, .inr (.inr 0), .inl 0, .inr (.inr 112)]) (h' := h) rfl ?_
  refine EL_call (b1 := b) (b2 := 0) hP rfl rfl (Nat.le_of_ble_eq_true rfl) (fun e => absurd e (by decide)) hr ?_ ?_
  · rintro v h1 (⟨r, hv, hq⟩ | ⟨k, E, hv, -⟩)
    · cases hv
      refine EL_bzl hP rfl rfl rfl rfl ?_
      refine EL_sd hP (ty := .long) (n := 1) (a := 112) (z := 0) (y := bz r) (sk := []) rfl rfl rfl (by decide) (by decide) trivial ?_
      refine EL_s hP 2 (i' := 16) (ls' := [some (.inr (.inr 0)), some (.inl z0), some (.inl z1), some (.inr (.inr 112)), none]) (sk' := [.inl 0]) (h' := xup h1 112 0 (bz r)) rfl ?_
      exact EL_ret hP (v := some (.inl 0)) rfl (Or.inl rfl) ⟨0, rfl, hq⟩
    · cases hv
  · rintro E h1 (⟨r, hv, -⟩ | ⟨k, E9, hv, hE, hq⟩)
    · cases hv
    · cases hv
      refine ⟨rfl, ?_⟩
      match k, hE, hq with
      | 0, hE, hq =>
        cases hE
        refine ⟨0, 12, _, rfl, rfl, Or.inl ⟨_, rfl⟩, ?_⟩
        refine EL_s hP 1 (i' := 14) (ls' := List.replicate 5 none) (sk' := [.inl 1]) (h' := h1) rfl ?_
        exact EL_ret hP (v := some (.inl 1)) rfl (Or.inl rfl) ⟨1, rfl, hq⟩
      | k + 1, hE, hq => cases hE
theorem hw_constant {d b : Nat} {h : xH} {Q' : Int → xH → Prop} {zs : List Int} (hz : zs.length = 1) (hr : xRn2 G0 MT d b 101 (.inr (.inr 0) :: zs.map .inl) h (xHQ (101, ["java/lang/IllegalArgumentException", "java/lang/IllegalStateException"], 1, true) Q')) (P : xPr) (hP : xClL G0 cdL_constant (some .int) (xRn2 G0 MT d) xNoH [] 4 (4, [("java/lang/IllegalArgumentException", 11), ("java/lang/IllegalStateException", 14)]) none (xQv Q') P) : P b 0 (xini (.inr (.inr 0) :: (zs.map .inl ++ [.inr (.inr 112)])) 4) [] h := by
  obtain ⟨z0, rfl⟩ := zl1 hz
  refine EL_s hP 4 (i' := 4) (ls' := [some (.inr (.inr 0)), some (.inl z0), some (.inr (.inr 112)), none]) (sk' := [.inl z0, .inr (.inr 0), .inl 0, .inr (.inr 112)]) (h' := h) rfl ?_
  refine EL_call (b1 := b) (b2 := 0) hP rfl rfl (Nat.le_of_ble_eq_true rfl) (fun e => absurd e (by decide)) hr ?_ ?_
  · rintro v h1 (⟨r, hv, hq⟩ | ⟨k, E, hv, -⟩)
    · cases hv
      refine EL_bzl hP rfl rfl rfl rfl ?_
      refine EL_sd hP (ty := .long) (n := 1) (a := 112) (z := 0) (y := bz r) (sk := []) rfl rfl rfl (by decide) (by decide) trivial ?_
      refine EL_s hP 2 (i' := 18) (ls' := [some (.inr (.inr 0)), some (.inl z0), some (.inr (.inr 112)), none]) (sk' := [.inl 0]) (h' := xup h1 112 0 (bz r)) rfl ?_
      exact EL_ret hP (v := some (.inl 0)) rfl (Or.inl rfl) ⟨0, rfl, hq⟩
    · cases hv
  · rintro E h1 (⟨r, hv, -⟩ | ⟨k, E9, hv, hE, hq⟩)
    · cases hv
    · cases hv
      refine ⟨rfl, ?_⟩
      match k, hE, hq with
      | 0, hE, hq =>
        cases hE
        refine ⟨0, 11, _, rfl, rfl, Or.inr ⟨_, rfl⟩, ?_⟩
        refine EL_s hP 1 (i' := 13) (ls' := List.replicate 4 none) (sk' := [.inl 1]) (h' := h1) rfl ?_
        exact EL_ret hP (v := some (.inl 1)) rfl (Or.inl rfl) ⟨1, rfl, hq⟩
      | 1, hE, hq =>
        cases hE
        refine ⟨1, 14, _, rfl, rfl, Or.inr ⟨_, rfl⟩, ?_⟩
        refine EL_s hP 1 (i' := 16) (ls' := List.replicate 4 none) (sk' := [.inl 2]) (h' := h1) rfl ?_
        exact EL_ret hP (v := some (.inl 2)) rfl (Or.inl rfl) ⟨2, rfl, hq⟩
      | k + 2, hE, hq => cases hE
theorem hw_budget {d b : Nat} {h : xH} {Q' : Int → xH → Prop} {zs : List Int} (hz : zs.length = 1) (hr : xRn2 G0 MT d b 103 (.inr (.inr 0) :: zs.map .inl) h (xHQ (103, ["java/lang/IllegalArgumentException"], 1, false) Q')) (P : xPr) (hP : xClL G0 cdL_budget (some .int) (xRn2 G0 MT d) xNoH [] 4 (4, [("java/lang/IllegalArgumentException", 8)]) none (xQv Q') P) : P b 0 (xini (.inr (.inr 0) :: (zs.map .inl ++ [.inr (.inr 112)])) 4) [] h := by
  obtain ⟨z0, rfl⟩ := zl1 hz
  refine EL_s hP 4 (i' := 4) (ls' := [some (.inr (.inr 0)), some (.inl z0), some (.inr (.inr 112)), none]) (sk' := [.inl z0, .inr (.inr 0), .inl 0, .inr (.inr 112)]) (h' := h) rfl ?_
  refine EL_call (b1 := b) (b2 := 0) hP rfl rfl (Nat.le_of_ble_eq_true rfl) (fun e => absurd e (by decide)) hr ?_ ?_
  · rintro v h1 (⟨r, hv, hq⟩ | ⟨k, E, hv, -⟩)
    · cases hv
      refine EL_s hP 1 (i' := 6) (ls' := [some (.inr (.inr 0)), some (.inl z0), some (.inr (.inr 112)), none]) (sk' := [.inr (.inl (w32 r)), .inl 0, .inr (.inr 112)]) (h' := h1) rfl ?_
      refine EL_sd hP (ty := .long) (n := 1) (a := 112) (z := 0) (y := w32 r) (sk := []) rfl rfl rfl (by decide) (by decide) trivial ?_
      refine EL_s hP 2 (i' := 12) (ls' := [some (.inr (.inr 0)), some (.inl z0), some (.inr (.inr 112)), none]) (sk' := [.inl 0]) (h' := xup h1 112 0 (w32 r)) rfl ?_
      exact EL_ret hP (v := some (.inl 0)) rfl (Or.inl rfl) ⟨0, rfl, hq⟩
    · cases hv
  · rintro E h1 (⟨r, hv, -⟩ | ⟨k, E9, hv, hE, hq⟩)
    · cases hv
    · cases hv
      refine ⟨rfl, ?_⟩
      match k, hE, hq with
      | 0, hE, hq =>
        cases hE
        refine ⟨0, 8, _, rfl, rfl, Or.inr ⟨_, rfl⟩, ?_⟩
        refine EL_s hP 1 (i' := 10) (ls' := List.replicate 4 none) (sk' := [.inl 1]) (h' := h1) rfl ?_
        exact EL_ret hP (v := some (.inl 1)) rfl (Or.inl rfl) ⟨1, rfl, hq⟩
      | k + 1, hE, hq => cases hE
theorem hw_grown {d b : Nat} {h : xH} {Q' : Int → xH → Prop} {zs : List Int} (hz : zs.length = 2) (hr : xRn2 G0 MT d b 105 (.inr (.inr 0) :: zs.map .inl) h (xHQ (105, ["java/util/NoSuchElementException"], 2, false) Q')) (P : xPr) (hP : xClL G0 cdL_grown (some .int) (xRn2 G0 MT d) xNoH [] 5 (5, [("java/util/NoSuchElementException", 9)]) none (xQv Q') P) : P b 0 (xini (.inr (.inr 0) :: (zs.map .inl ++ [.inr (.inr 112)])) 5) [] h := by
  obtain ⟨z0, z1, rfl⟩ := zl2 hz
  refine EL_s hP 5 (i' := 5) (ls' := [some (.inr (.inr 0)), some (.inl z0), some (.inl z1), some (.inr (.inr 112)), none]) (sk' := [.inl z1, .inl z0, .inr (.inr 0), .inl 0, .inr (.inr 112)]) (h' := h) rfl ?_
  refine EL_call (b1 := b) (b2 := 0) hP rfl rfl (Nat.le_of_ble_eq_true rfl) (fun e => absurd e (by decide)) hr ?_ ?_
  · rintro v h1 (⟨r, hv, hq⟩ | ⟨k, E, hv, -⟩)
    · cases hv
      refine EL_s hP 1 (i' := 7) (ls' := [some (.inr (.inr 0)), some (.inl z0), some (.inl z1), some (.inr (.inr 112)), none]) (sk' := [.inr (.inl (w32 r)), .inl 0, .inr (.inr 112)]) (h' := h1) rfl ?_
      refine EL_sd hP (ty := .long) (n := 1) (a := 112) (z := 0) (y := w32 r) (sk := []) rfl rfl rfl (by decide) (by decide) trivial ?_
      refine EL_s hP 2 (i' := 13) (ls' := [some (.inr (.inr 0)), some (.inl z0), some (.inl z1), some (.inr (.inr 112)), none]) (sk' := [.inl 0]) (h' := xup h1 112 0 (w32 r)) rfl ?_
      exact EL_ret hP (v := some (.inl 0)) rfl (Or.inl rfl) ⟨0, rfl, hq⟩
    · cases hv
  · rintro E h1 (⟨r, hv, -⟩ | ⟨k, E9, hv, hE, hq⟩)
    · cases hv
    · cases hv
      refine ⟨rfl, ?_⟩
      match k, hE, hq with
      | 0, hE, hq =>
        cases hE
        refine ⟨0, 9, _, rfl, rfl, Or.inl ⟨_, rfl⟩, ?_⟩
        refine EL_s hP 1 (i' := 11) (ls' := List.replicate 5 none) (sk' := [.inl 1]) (h' := h1) rfl ?_
        exact EL_ret hP (v := some (.inl 1)) rfl (Or.inl rfl) ⟨1, rfl, hq⟩
      | k + 1, hE, hq => cases hE
theorem hw_kept {d b : Nat} {h : xH} {Q' : Int → xH → Prop} {zs : List Int} (hz : zs.length = 3) (hr : xRn2 G0 MT d b 106 (.inr (.inr 0) :: zs.map .inl) h (xHQ (106, ["java/util/NoSuchElementException"], 3, false) Q')) (P : xPr) (hP : xClL G0 cdL_kept (some .int) (xRn2 G0 MT d) xNoH [] 6 (6, [("java/util/NoSuchElementException", 10)]) none (xQv Q') P) : P b 0 (xini (.inr (.inr 0) :: (zs.map .inl ++ [.inr (.inr 112)])) 6) [] h := by
  obtain ⟨z0, z1, z2, rfl⟩ := zl3 hz
  refine EL_s hP 6 (i' := 6) (ls' := [some (.inr (.inr 0)), some (.inl z0), some (.inl z1), some (.inl z2), some (.inr (.inr 112)), none]) (sk' := [.inl z2, .inl z1, .inl z0, .inr (.inr 0), .inl 0, .inr (.inr 112)]) (h' := h) rfl ?_
  refine EL_call (b1 := b) (b2 := 0) hP rfl rfl (Nat.le_of_ble_eq_true rfl) (fun e => absurd e (by decide)) hr ?_ ?_
  · rintro v h1 (⟨r, hv, hq⟩ | ⟨k, E, hv, -⟩)
    · cases hv
      refine EL_s hP 1 (i' := 8) (ls' := [some (.inr (.inr 0)), some (.inl z0), some (.inl z1), some (.inl z2), some (.inr (.inr 112)), none]) (sk' := [.inr (.inl (w32 r)), .inl 0, .inr (.inr 112)]) (h' := h1) rfl ?_
      refine EL_sd hP (ty := .long) (n := 1) (a := 112) (z := 0) (y := w32 r) (sk := []) rfl rfl rfl (by decide) (by decide) trivial ?_
      refine EL_s hP 2 (i' := 14) (ls' := [some (.inr (.inr 0)), some (.inl z0), some (.inl z1), some (.inl z2), some (.inr (.inr 112)), none]) (sk' := [.inl 0]) (h' := xup h1 112 0 (w32 r)) rfl ?_
      exact EL_ret hP (v := some (.inl 0)) rfl (Or.inl rfl) ⟨0, rfl, hq⟩
    · cases hv
  · rintro E h1 (⟨r, hv, -⟩ | ⟨k, E9, hv, hE, hq⟩)
    · cases hv
    · cases hv
      refine ⟨rfl, ?_⟩
      match k, hE, hq with
      | 0, hE, hq =>
        cases hE
        refine ⟨0, 10, _, rfl, rfl, Or.inl ⟨_, rfl⟩, ?_⟩
        refine EL_s hP 1 (i' := 12) (ls' := List.replicate 6 none) (sk' := [.inl 1]) (h' := h1) rfl ?_
        exact EL_ret hP (v := some (.inl 1)) rfl (Or.inl rfl) ⟨1, rfl, hq⟩
      | k + 1, hE, hq => cases hE
theorem hw_output {d b : Nat} {h : xH} {Q' : Int → xH → Prop} {zs : List Int} (hz : zs.length = 3) (hr : xRn2 G0 MT d b 107 (.inr (.inr 0) :: zs.map .inl) h (xHQ (107, ["java/util/NoSuchElementException"], 3, false) Q')) (P : xPr) (hP : xClL G0 cdL_output (some .int) (xRn2 G0 MT d) xNoH [] 6 (6, [("java/util/NoSuchElementException", 10)]) none (xQv Q') P) : P b 0 (xini (.inr (.inr 0) :: (zs.map .inl ++ [.inr (.inr 112)])) 6) [] h := by
  obtain ⟨z0, z1, z2, rfl⟩ := zl3 hz
  refine EL_s hP 6 (i' := 6) (ls' := [some (.inr (.inr 0)), some (.inl z0), some (.inl z1), some (.inl z2), some (.inr (.inr 112)), none]) (sk' := [.inl z2, .inl z1, .inl z0, .inr (.inr 0), .inl 0, .inr (.inr 112)]) (h' := h) rfl ?_
  refine EL_call (b1 := b) (b2 := 0) hP rfl rfl (Nat.le_of_ble_eq_true rfl) (fun e => absurd e (by decide)) hr ?_ ?_
  · rintro v h1 (⟨r, hv, hq⟩ | ⟨k, E, hv, -⟩)
    · cases hv
      refine EL_s hP 1 (i' := 8) (ls' := [some (.inr (.inr 0)), some (.inl z0), some (.inl z1), some (.inl z2), some (.inr (.inr 112)), none]) (sk' := [.inr (.inl (w32 r)), .inl 0, .inr (.inr 112)]) (h' := h1) rfl ?_
      refine EL_sd hP (ty := .long) (n := 1) (a := 112) (z := 0) (y := w32 r) (sk := []) rfl rfl rfl (by decide) (by decide) trivial ?_
      refine EL_s hP 2 (i' := 14) (ls' := [some (.inr (.inr 0)), some (.inl z0), some (.inl z1), some (.inl z2), some (.inr (.inr 112)), none]) (sk' := [.inl 0]) (h' := xup h1 112 0 (w32 r)) rfl ?_
      exact EL_ret hP (v := some (.inl 0)) rfl (Or.inl rfl) ⟨0, rfl, hq⟩
    · cases hv
  · rintro E h1 (⟨r, hv, -⟩ | ⟨k, E9, hv, hE, hq⟩)
    · cases hv
    · cases hv
      refine ⟨rfl, ?_⟩
      match k, hE, hq with
      | 0, hE, hq =>
        cases hE
        refine ⟨0, 10, _, rfl, rfl, Or.inl ⟨_, rfl⟩, ?_⟩
        refine EL_s hP 1 (i' := 12) (ls' := List.replicate 6 none) (sk' := [.inl 1]) (h' := h1) rfl ?_
        exact EL_ret hP (v := some (.inl 1)) rfl (Or.inl rfl) ⟨1, rfl, hq⟩
      | k + 1, hE, hq => cases hE
theorem hw_value {d b : Nat} {h : xH} {Q' : Int → xH → Prop} {zs : List Int} (hz : zs.length = 5) (hr : xRn2 G0 MT d b 108 (.inr (.inr 0) :: zs.map .inl) h (xHQ (108, ["java/util/NoSuchElementException", "java/lang/IllegalArgumentException"], 5, false) Q')) (P : xPr) (hP : xClL G0 cdL_value (some .int) (xRn2 G0 MT d) xNoH [] 8 (8, [("java/util/NoSuchElementException", 12), ("java/lang/IllegalArgumentException", 15)]) none (xQv Q') P) : P b 0 (xini (.inr (.inr 0) :: (zs.map .inl ++ [.inr (.inr 112)])) 8) [] h := by
  obtain ⟨z0, z1, z2, z3, z4, rfl⟩ := zl5 hz
  refine EL_s hP 8 (i' := 8) (ls' := [some (.inr (.inr 0)), some (.inl z0), some (.inl z1), some (.inl z2), some (.inl z3), some (.inl z4), some (.inr (.inr 112)), none]) (sk' := [.inl z4, .inl z3, .inl z2, .inl z1, .inl z0, .inr (.inr 0), .inl 0, .inr (.inr 112)]) (h' := h) rfl ?_
  refine EL_call (b1 := b) (b2 := 0) hP rfl rfl (Nat.le_of_ble_eq_true rfl) (fun e => absurd e (by decide)) hr ?_ ?_
  · rintro v h1 (⟨r, hv, hq⟩ | ⟨k, E, hv, -⟩)
    · cases hv
      refine EL_s hP 1 (i' := 10) (ls' := [some (.inr (.inr 0)), some (.inl z0), some (.inl z1), some (.inl z2), some (.inl z3), some (.inl z4), some (.inr (.inr 112)), none]) (sk' := [.inr (.inl (w32 r)), .inl 0, .inr (.inr 112)]) (h' := h1) rfl ?_
      refine EL_sd hP (ty := .long) (n := 1) (a := 112) (z := 0) (y := w32 r) (sk := []) rfl rfl rfl (by decide) (by decide) trivial ?_
      refine EL_s hP 2 (i' := 19) (ls' := [some (.inr (.inr 0)), some (.inl z0), some (.inl z1), some (.inl z2), some (.inl z3), some (.inl z4), some (.inr (.inr 112)), none]) (sk' := [.inl 0]) (h' := xup h1 112 0 (w32 r)) rfl ?_
      exact EL_ret hP (v := some (.inl 0)) rfl (Or.inl rfl) ⟨0, rfl, hq⟩
    · cases hv
  · rintro E h1 (⟨r, hv, -⟩ | ⟨k, E9, hv, hE, hq⟩)
    · cases hv
    · cases hv
      refine ⟨rfl, ?_⟩
      match k, hE, hq with
      | 0, hE, hq =>
        cases hE
        refine ⟨0, 12, _, rfl, rfl, Or.inl ⟨_, rfl⟩, ?_⟩
        refine EL_s hP 1 (i' := 14) (ls' := List.replicate 8 none) (sk' := [.inl 1]) (h' := h1) rfl ?_
        exact EL_ret hP (v := some (.inl 1)) rfl (Or.inl rfl) ⟨1, rfl, hq⟩
      | 1, hE, hq =>
        cases hE
        refine ⟨1, 15, _, rfl, rfl, Or.inl ⟨_, rfl⟩, ?_⟩
        refine EL_s hP 1 (i' := 17) (ls' := List.replicate 8 none) (sk' := [.inl 2]) (h' := h1) rfl ?_
        exact EL_ret hP (v := some (.inl 2)) rfl (Or.inl rfl) ⟨2, rfl, hq⟩
      | k + 2, hE, hq => cases hE
theorem hw_write {d b : Nat} {h : xH} {Q' : Int → xH → Prop} {zs : List Int} (hz : zs.length = 2) (hr : xRn2 G0 MT d b 109 (.inr (.inr 0) :: zs.map .inl) h (xHQ (109, ["java/util/NoSuchElementException"], 2, false) Q')) (P : xPr) (hP : xClL G0 cdL_write (some .int) (xRn2 G0 MT d) xNoH [] 5 (5, [("java/util/NoSuchElementException", 9)]) none (xQv Q') P) : P b 0 (xini (.inr (.inr 0) :: (zs.map .inl ++ [.inr (.inr 112)])) 5) [] h := by
  obtain ⟨z0, z1, rfl⟩ := zl2 hz
  refine EL_s hP 5 (i' := 5) (ls' := [some (.inr (.inr 0)), some (.inl z0), some (.inl z1), some (.inr (.inr 112)), none]) (sk' := [.inl z1, .inl z0, .inr (.inr 0), .inl 0, .inr (.inr 112)]) (h' := h) rfl ?_
  refine EL_call (b1 := b) (b2 := 0) hP rfl rfl (Nat.le_of_ble_eq_true rfl) (fun e => absurd e (by decide)) hr ?_ ?_
  · rintro v h1 (⟨r, hv, hq⟩ | ⟨k, E, hv, -⟩)
    · cases hv
      refine EL_s hP 1 (i' := 7) (ls' := [some (.inr (.inr 0)), some (.inl z0), some (.inl z1), some (.inr (.inr 112)), none]) (sk' := [.inr (.inl (w32 r)), .inl 0, .inr (.inr 112)]) (h' := h1) rfl ?_
      refine EL_sd hP (ty := .long) (n := 1) (a := 112) (z := 0) (y := w32 r) (sk := []) rfl rfl rfl (by decide) (by decide) trivial ?_
      refine EL_s hP 2 (i' := 13) (ls' := [some (.inr (.inr 0)), some (.inl z0), some (.inl z1), some (.inr (.inr 112)), none]) (sk' := [.inl 0]) (h' := xup h1 112 0 (w32 r)) rfl ?_
      exact EL_ret hP (v := some (.inl 0)) rfl (Or.inl rfl) ⟨0, rfl, hq⟩
    · cases hv
  · rintro E h1 (⟨r, hv, -⟩ | ⟨k, E9, hv, hE, hq⟩)
    · cases hv
    · cases hv
      refine ⟨rfl, ?_⟩
      match k, hE, hq with
      | 0, hE, hq =>
        cases hE
        refine ⟨0, 9, _, rfl, rfl, Or.inl ⟨_, rfl⟩, ?_⟩
        refine EL_s hP 1 (i' := 11) (ls' := List.replicate 5 none) (sk' := [.inl 1]) (h' := h1) rfl ?_
        exact EL_ret hP (v := some (.inl 1)) rfl (Or.inl rfl) ⟨1, rfl, hq⟩
      | k + 1, hE, hq => cases hE
theorem hw_testOf {d b : Nat} {h : xH} {Q' : Int → xH → Prop} {zs : List Int} (hz : zs.length = 1) (hr : xRn2 G0 MT d b 111 (.inr (.inr 0) :: zs.map .inl) h (xHQ (111, ["java/lang/IllegalArgumentException"], 1, false) Q')) (P : xPr) (hP : xClL G0 cdL_testOf (some .int) (xRn2 G0 MT d) xNoH [] 4 (4, [("java/lang/IllegalArgumentException", 8)]) none (xQv Q') P) : P b 0 (xini (.inr (.inr 0) :: (zs.map .inl ++ [.inr (.inr 112)])) 4) [] h := by
  obtain ⟨z0, rfl⟩ := zl1 hz
  refine EL_s hP 4 (i' := 4) (ls' := [some (.inr (.inr 0)), some (.inl z0), some (.inr (.inr 112)), none]) (sk' := [.inl z0, .inr (.inr 0), .inl 0, .inr (.inr 112)]) (h' := h) rfl ?_
  refine EL_call (b1 := b) (b2 := 0) hP rfl rfl (Nat.le_of_ble_eq_true rfl) (fun e => absurd e (by decide)) hr ?_ ?_
  · rintro v h1 (⟨r, hv, hq⟩ | ⟨k, E, hv, -⟩)
    · cases hv
      refine EL_s hP 1 (i' := 6) (ls' := [some (.inr (.inr 0)), some (.inl z0), some (.inr (.inr 112)), none]) (sk' := [.inr (.inl (w32 r)), .inl 0, .inr (.inr 112)]) (h' := h1) rfl ?_
      refine EL_sd hP (ty := .long) (n := 1) (a := 112) (z := 0) (y := w32 r) (sk := []) rfl rfl rfl (by decide) (by decide) trivial ?_
      refine EL_s hP 2 (i' := 12) (ls' := [some (.inr (.inr 0)), some (.inl z0), some (.inr (.inr 112)), none]) (sk' := [.inl 0]) (h' := xup h1 112 0 (w32 r)) rfl ?_
      exact EL_ret hP (v := some (.inl 0)) rfl (Or.inl rfl) ⟨0, rfl, hq⟩
    · cases hv
  · rintro E h1 (⟨r, hv, -⟩ | ⟨k, E9, hv, hE, hq⟩)
    · cases hv
    · cases hv
      refine ⟨rfl, ?_⟩
      match k, hE, hq with
      | 0, hE, hq =>
        cases hE
        refine ⟨0, 8, _, rfl, rfl, Or.inr ⟨_, rfl⟩, ?_⟩
        refine EL_s hP 1 (i' := 10) (ls' := List.replicate 4 none) (sk' := [.inl 1]) (h' := h1) rfl ?_
        exact EL_ret hP (v := some (.inl 1)) rfl (Or.inl rfl) ⟨1, rfl, hq⟩
      | k + 1, hE, hq => cases hE
theorem hw_joins {d b : Nat} {h : xH} {Q' : Int → xH → Prop} {zs : List Int} (hz : zs.length = 3) (hr : xRn2 G0 MT d b 112 (.inr (.inr 0) :: zs.map .inl) h (xHQ (112, ["java/lang/IllegalArgumentException", "java/util/NoSuchElementException"], 3, false) Q')) (P : xPr) (hP : xClL G0 cdL_joins (some .int) (xRn2 G0 MT d) xNoH [] 6 (6, [("java/lang/IllegalArgumentException", 10), ("java/util/NoSuchElementException", 13)]) none (xQv Q') P) : P b 0 (xini (.inr (.inr 0) :: (zs.map .inl ++ [.inr (.inr 112)])) 6) [] h := by
  obtain ⟨z0, z1, z2, rfl⟩ := zl3 hz
  refine EL_s hP 6 (i' := 6) (ls' := [some (.inr (.inr 0)), some (.inl z0), some (.inl z1), some (.inl z2), some (.inr (.inr 112)), none]) (sk' := [.inl z2, .inl z1, .inl z0, .inr (.inr 0), .inl 0, .inr (.inr 112)]) (h' := h) rfl ?_
  refine EL_call (b1 := b) (b2 := 0) hP rfl rfl (Nat.le_of_ble_eq_true rfl) (fun e => absurd e (by decide)) hr ?_ ?_
  · rintro v h1 (⟨r, hv, hq⟩ | ⟨k, E, hv, -⟩)
    · cases hv
      refine EL_s hP 1 (i' := 8) (ls' := [some (.inr (.inr 0)), some (.inl z0), some (.inl z1), some (.inl z2), some (.inr (.inr 112)), none]) (sk' := [.inr (.inl (w32 r)), .inl 0, .inr (.inr 112)]) (h' := h1) rfl ?_
      refine EL_sd hP (ty := .long) (n := 1) (a := 112) (z := 0) (y := w32 r) (sk := []) rfl rfl rfl (by decide) (by decide) trivial ?_
      refine EL_s hP 2 (i' := 17) (ls' := [some (.inr (.inr 0)), some (.inl z0), some (.inl z1), some (.inl z2), some (.inr (.inr 112)), none]) (sk' := [.inl 0]) (h' := xup h1 112 0 (w32 r)) rfl ?_
      exact EL_ret hP (v := some (.inl 0)) rfl (Or.inl rfl) ⟨0, rfl, hq⟩
    · cases hv
  · rintro E h1 (⟨r, hv, -⟩ | ⟨k, E9, hv, hE, hq⟩)
    · cases hv
    · cases hv
      refine ⟨rfl, ?_⟩
      match k, hE, hq with
      | 0, hE, hq =>
        cases hE
        refine ⟨0, 10, _, rfl, rfl, Or.inl ⟨_, rfl⟩, ?_⟩
        refine EL_s hP 1 (i' := 12) (ls' := List.replicate 6 none) (sk' := [.inl 1]) (h' := h1) rfl ?_
        exact EL_ret hP (v := some (.inl 1)) rfl (Or.inl rfl) ⟨1, rfl, hq⟩
      | 1, hE, hq =>
        cases hE
        refine ⟨1, 13, _, rfl, rfl, Or.inl ⟨_, rfl⟩, ?_⟩
        refine EL_s hP 1 (i' := 15) (ls' := List.replicate 6 none) (sk' := [.inl 2]) (h' := h1) rfl ?_
        exact EL_ret hP (v := some (.inl 2)) rfl (Or.inl rfl) ⟨2, rfl, hq⟩
      | k + 2, hE, hq => cases hE
theorem hw_unlike {d b : Nat} {h : xH} {Q' : Int → xH → Prop} {zs : List Int} (hz : zs.length = 3) (hr : xRn2 G0 MT d b 114 (.inr (.inr 0) :: zs.map .inl) h (xHQ (114, ["java/util/NoSuchElementException"], 3, false) Q')) (P : xPr) (hP : xClL G0 cdL_unlike (some .int) (xRn2 G0 MT d) xNoH [] 6 (6, [("java/util/NoSuchElementException", 10)]) none (xQv Q') P) : P b 0 (xini (.inr (.inr 0) :: (zs.map .inl ++ [.inr (.inr 112)])) 6) [] h := by
  obtain ⟨z0, z1, z2, rfl⟩ := zl3 hz
  refine EL_s hP 6 (i' := 6) (ls' := [some (.inr (.inr 0)), some (.inl z0), some (.inl z1), some (.inl z2), some (.inr (.inr 112)), none]) (sk' := [.inl z2, .inl z1, .inl z0, .inr (.inr 0), .inl 0, .inr (.inr 112)]) (h' := h) rfl ?_
  refine EL_call (b1 := b) (b2 := 0) hP rfl rfl (Nat.le_of_ble_eq_true rfl) (fun e => absurd e (by decide)) hr ?_ ?_
  · rintro v h1 (⟨r, hv, hq⟩ | ⟨k, E, hv, -⟩)
    · cases hv
      refine EL_s hP 1 (i' := 8) (ls' := [some (.inr (.inr 0)), some (.inl z0), some (.inl z1), some (.inl z2), some (.inr (.inr 112)), none]) (sk' := [.inr (.inl (w32 r)), .inl 0, .inr (.inr 112)]) (h' := h1) rfl ?_
      refine EL_sd hP (ty := .long) (n := 1) (a := 112) (z := 0) (y := w32 r) (sk := []) rfl rfl rfl (by decide) (by decide) trivial ?_
      refine EL_s hP 2 (i' := 14) (ls' := [some (.inr (.inr 0)), some (.inl z0), some (.inl z1), some (.inl z2), some (.inr (.inr 112)), none]) (sk' := [.inl 0]) (h' := xup h1 112 0 (w32 r)) rfl ?_
      exact EL_ret hP (v := some (.inl 0)) rfl (Or.inl rfl) ⟨0, rfl, hq⟩
    · cases hv
  · rintro E h1 (⟨r, hv, -⟩ | ⟨k, E9, hv, hE, hq⟩)
    · cases hv
    · cases hv
      refine ⟨rfl, ?_⟩
      match k, hE, hq with
      | 0, hE, hq =>
        cases hE
        refine ⟨0, 10, _, rfl, rfl, Or.inl ⟨_, rfl⟩, ?_⟩
        refine EL_s hP 1 (i' := 12) (ls' := List.replicate 6 none) (sk' := [.inl 1]) (h' := h1) rfl ?_
        exact EL_ret hP (v := some (.inl 1)) rfl (Or.inl rfl) ⟨1, rfl, hq⟩
      | k + 1, hE, hq => cases hE
theorem hw_uses {d b : Nat} {h : xH} {Q' : Int → xH → Prop} {zs : List Int} (hz : zs.length = 3) (hr : xRn2 G0 MT d b 115 (.inr (.inr 0) :: zs.map .inl) h (xHQ (115, ["java/util/NoSuchElementException", "java/lang/IllegalArgumentException"], 3, false) Q')) (P : xPr) (hP : xClL G0 cdL_uses (some .int) (xRn2 G0 MT d) xNoH [] 6 (6, [("java/util/NoSuchElementException", 10), ("java/lang/IllegalArgumentException", 13)]) none (xQv Q') P) : P b 0 (xini (.inr (.inr 0) :: (zs.map .inl ++ [.inr (.inr 112)])) 6) [] h := by
  obtain ⟨z0, z1, z2, rfl⟩ := zl3 hz
  refine EL_s hP 6 (i' := 6) (ls' := [some (.inr (.inr 0)), some (.inl z0), some (.inl z1), some (.inl z2), some (.inr (.inr 112)), none]) (sk' := [.inl z2, .inl z1, .inl z0, .inr (.inr 0), .inl 0, .inr (.inr 112)]) (h' := h) rfl ?_
  refine EL_call (b1 := b) (b2 := 0) hP rfl rfl (Nat.le_of_ble_eq_true rfl) (fun e => absurd e (by decide)) hr ?_ ?_
  · rintro v h1 (⟨r, hv, hq⟩ | ⟨k, E, hv, -⟩)
    · cases hv
      refine EL_s hP 1 (i' := 8) (ls' := [some (.inr (.inr 0)), some (.inl z0), some (.inl z1), some (.inl z2), some (.inr (.inr 112)), none]) (sk' := [.inr (.inl (w32 r)), .inl 0, .inr (.inr 112)]) (h' := h1) rfl ?_
      refine EL_sd hP (ty := .long) (n := 1) (a := 112) (z := 0) (y := w32 r) (sk := []) rfl rfl rfl (by decide) (by decide) trivial ?_
      refine EL_s hP 2 (i' := 17) (ls' := [some (.inr (.inr 0)), some (.inl z0), some (.inl z1), some (.inl z2), some (.inr (.inr 112)), none]) (sk' := [.inl 0]) (h' := xup h1 112 0 (w32 r)) rfl ?_
      exact EL_ret hP (v := some (.inl 0)) rfl (Or.inl rfl) ⟨0, rfl, hq⟩
    · cases hv
  · rintro E h1 (⟨r, hv, -⟩ | ⟨k, E9, hv, hE, hq⟩)
    · cases hv
    · cases hv
      refine ⟨rfl, ?_⟩
      match k, hE, hq with
      | 0, hE, hq =>
        cases hE
        refine ⟨0, 10, _, rfl, rfl, Or.inl ⟨_, rfl⟩, ?_⟩
        refine EL_s hP 1 (i' := 12) (ls' := List.replicate 6 none) (sk' := [.inl 1]) (h' := h1) rfl ?_
        exact EL_ret hP (v := some (.inl 1)) rfl (Or.inl rfl) ⟨1, rfl, hq⟩
      | 1, hE, hq =>
        cases hE
        refine ⟨1, 13, _, rfl, rfl, Or.inl ⟨_, rfl⟩, ?_⟩
        refine EL_s hP 1 (i' := 15) (ls' := List.replicate 6 none) (sk' := [.inl 2]) (h' := h1) rfl ?_
        exact EL_ret hP (v := some (.inl 2)) rfl (Or.inl rfl) ⟨2, rfl, hq⟩
      | k + 2, hE, hq => cases hE
theorem hw_far {d b : Nat} {h : xH} {Q' : Int → xH → Prop} {zs : List Int} (hz : zs.length = 1) (hr : xRn2 G0 MT d b 116 (.inr (.inr 0) :: zs.map .inl) h (xHQ (116, ["java/util/NoSuchElementException"], 1, false) Q')) (P : xPr) (hP : xClL G0 cdL_far (some .int) (xRn2 G0 MT d) xNoH [] 4 (4, [("java/util/NoSuchElementException", 8)]) none (xQv Q') P) : P b 0 (xini (.inr (.inr 0) :: (zs.map .inl ++ [.inr (.inr 112)])) 4) [] h := by
  obtain ⟨z0, rfl⟩ := zl1 hz
  refine EL_s hP 4 (i' := 4) (ls' := [some (.inr (.inr 0)), some (.inl z0), some (.inr (.inr 112)), none]) (sk' := [.inl z0, .inr (.inr 0), .inl 0, .inr (.inr 112)]) (h' := h) rfl ?_
  refine EL_call (b1 := b) (b2 := 0) hP rfl rfl (Nat.le_of_ble_eq_true rfl) (fun e => absurd e (by decide)) hr ?_ ?_
  · rintro v h1 (⟨r, hv, hq⟩ | ⟨k, E, hv, -⟩)
    · cases hv
      refine EL_s hP 1 (i' := 6) (ls' := [some (.inr (.inr 0)), some (.inl z0), some (.inr (.inr 112)), none]) (sk' := [.inr (.inl (w32 r)), .inl 0, .inr (.inr 112)]) (h' := h1) rfl ?_
      refine EL_sd hP (ty := .long) (n := 1) (a := 112) (z := 0) (y := w32 r) (sk := []) rfl rfl rfl (by decide) (by decide) trivial ?_
      refine EL_s hP 2 (i' := 12) (ls' := [some (.inr (.inr 0)), some (.inl z0), some (.inr (.inr 112)), none]) (sk' := [.inl 0]) (h' := xup h1 112 0 (w32 r)) rfl ?_
      exact EL_ret hP (v := some (.inl 0)) rfl (Or.inl rfl) ⟨0, rfl, hq⟩
    · cases hv
  · rintro E h1 (⟨r, hv, -⟩ | ⟨k, E9, hv, hE, hq⟩)
    · cases hv
    · cases hv
      refine ⟨rfl, ?_⟩
      match k, hE, hq with
      | 0, hE, hq =>
        cases hE
        refine ⟨0, 8, _, rfl, rfl, Or.inr ⟨_, rfl⟩, ?_⟩
        refine EL_s hP 1 (i' := 10) (ls' := List.replicate 4 none) (sk' := [.inl 1]) (h' := h1) rfl ?_
        exact EL_ret hP (v := some (.inl 1)) rfl (Or.inl rfl) ⟨1, rfl, hq⟩
      | k + 1, hE, hq => cases hE
theorem hw_writeMerged {d b : Nat} {h : xH} {Q' : Int → xH → Prop} {zs : List Int} (hz : zs.length = 2) (hr : xRn2 G0 MT d b 118 (.inr (.inr 0) :: zs.map .inl) h (xHQ (118, ["java/util/NoSuchElementException"], 2, false) Q')) (P : xPr) (hP : xClL G0 cdL_writeMerged (some .int) (xRn2 G0 MT d) xNoH [] 5 (5, [("java/util/NoSuchElementException", 9)]) none (xQv Q') P) : P b 0 (xini (.inr (.inr 0) :: (zs.map .inl ++ [.inr (.inr 112)])) 5) [] h := by
  obtain ⟨z0, z1, rfl⟩ := zl2 hz
  refine EL_s hP 5 (i' := 5) (ls' := [some (.inr (.inr 0)), some (.inl z0), some (.inl z1), some (.inr (.inr 112)), none]) (sk' := [.inl z1, .inl z0, .inr (.inr 0), .inl 0, .inr (.inr 112)]) (h' := h) rfl ?_
  refine EL_call (b1 := b) (b2 := 0) hP rfl rfl (Nat.le_of_ble_eq_true rfl) (fun e => absurd e (by decide)) hr ?_ ?_
  · rintro v h1 (⟨r, hv, hq⟩ | ⟨k, E, hv, -⟩)
    · cases hv
      refine EL_s hP 1 (i' := 7) (ls' := [some (.inr (.inr 0)), some (.inl z0), some (.inl z1), some (.inr (.inr 112)), none]) (sk' := [.inr (.inl (w32 r)), .inl 0, .inr (.inr 112)]) (h' := h1) rfl ?_
      refine EL_sd hP (ty := .long) (n := 1) (a := 112) (z := 0) (y := w32 r) (sk := []) rfl rfl rfl (by decide) (by decide) trivial ?_
      refine EL_s hP 2 (i' := 13) (ls' := [some (.inr (.inr 0)), some (.inl z0), some (.inl z1), some (.inr (.inr 112)), none]) (sk' := [.inl 0]) (h' := xup h1 112 0 (w32 r)) rfl ?_
      exact EL_ret hP (v := some (.inl 0)) rfl (Or.inl rfl) ⟨0, rfl, hq⟩
    · cases hv
  · rintro E h1 (⟨r, hv, -⟩ | ⟨k, E9, hv, hE, hq⟩)
    · cases hv
    · cases hv
      refine ⟨rfl, ?_⟩
      match k, hE, hq with
      | 0, hE, hq =>
        cases hE
        refine ⟨0, 9, _, rfl, rfl, Or.inl ⟨_, rfl⟩, ?_⟩
        refine EL_s hP 1 (i' := 11) (ls' := List.replicate 5 none) (sk' := [.inl 1]) (h' := h1) rfl ?_
        exact EL_ret hP (v := some (.inl 1)) rfl (Or.inl rfl) ⟨1, rfl, hq⟩
      | k + 1, hE, hq => cases hE
theorem hw_mergedApart {d b : Nat} {h : xH} {Q' : Int → xH → Prop} {zs : List Int} (hz : zs.length = 3) (hr : xRn2 G0 MT d b 119 (.inr (.inr 0) :: zs.map .inl) h (xHQ (119, ["java/util/NoSuchElementException"], 3, false) Q')) (P : xPr) (hP : xClL G0 cdL_mergedApart (some .int) (xRn2 G0 MT d) xNoH [] 6 (6, [("java/util/NoSuchElementException", 10)]) none (xQv Q') P) : P b 0 (xini (.inr (.inr 0) :: (zs.map .inl ++ [.inr (.inr 112)])) 6) [] h := by
  obtain ⟨z0, z1, z2, rfl⟩ := zl3 hz
  refine EL_s hP 6 (i' := 6) (ls' := [some (.inr (.inr 0)), some (.inl z0), some (.inl z1), some (.inl z2), some (.inr (.inr 112)), none]) (sk' := [.inl z2, .inl z1, .inl z0, .inr (.inr 0), .inl 0, .inr (.inr 112)]) (h' := h) rfl ?_
  refine EL_call (b1 := b) (b2 := 0) hP rfl rfl (Nat.le_of_ble_eq_true rfl) (fun e => absurd e (by decide)) hr ?_ ?_
  · rintro v h1 (⟨r, hv, hq⟩ | ⟨k, E, hv, -⟩)
    · cases hv
      refine EL_s hP 1 (i' := 8) (ls' := [some (.inr (.inr 0)), some (.inl z0), some (.inl z1), some (.inl z2), some (.inr (.inr 112)), none]) (sk' := [.inr (.inl (w32 r)), .inl 0, .inr (.inr 112)]) (h' := h1) rfl ?_
      refine EL_sd hP (ty := .long) (n := 1) (a := 112) (z := 0) (y := w32 r) (sk := []) rfl rfl rfl (by decide) (by decide) trivial ?_
      refine EL_s hP 2 (i' := 14) (ls' := [some (.inr (.inr 0)), some (.inl z0), some (.inl z1), some (.inl z2), some (.inr (.inr 112)), none]) (sk' := [.inl 0]) (h' := xup h1 112 0 (w32 r)) rfl ?_
      exact EL_ret hP (v := some (.inl 0)) rfl (Or.inl rfl) ⟨0, rfl, hq⟩
    · cases hv
  · rintro E h1 (⟨r, hv, -⟩ | ⟨k, E9, hv, hE, hq⟩)
    · cases hv
    · cases hv
      refine ⟨rfl, ?_⟩
      match k, hE, hq with
      | 0, hE, hq =>
        cases hE
        refine ⟨0, 10, _, rfl, rfl, Or.inl ⟨_, rfl⟩, ?_⟩
        refine EL_s hP 1 (i' := 12) (ls' := List.replicate 6 none) (sk' := [.inl 1]) (h' := h1) rfl ?_
        exact EL_ret hP (v := some (.inl 1)) rfl (Or.inl rfl) ⟨1, rfl, hq⟩
      | k + 1, hE, hq => cases hE
theorem hw_differs {d b : Nat} {h : xH} {Q' : Int → xH → Prop} {zs : List Int} (hz : zs.length = 3) (hr : xRn2 G0 MT d b 120 (.inr (.inr 0) :: zs.map .inl) h (xHQ (120, ["java/util/NoSuchElementException"], 3, false) Q')) (P : xPr) (hP : xClL G0 cdL_differs (some .int) (xRn2 G0 MT d) xNoH [] 6 (6, [("java/util/NoSuchElementException", 10)]) none (xQv Q') P) : P b 0 (xini (.inr (.inr 0) :: (zs.map .inl ++ [.inr (.inr 112)])) 6) [] h := by
  obtain ⟨z0, z1, z2, rfl⟩ := zl3 hz
  refine EL_s hP 6 (i' := 6) (ls' := [some (.inr (.inr 0)), some (.inl z0), some (.inl z1), some (.inl z2), some (.inr (.inr 112)), none]) (sk' := [.inl z2, .inl z1, .inl z0, .inr (.inr 0), .inl 0, .inr (.inr 112)]) (h' := h) rfl ?_
  refine EL_call (b1 := b) (b2 := 0) hP rfl rfl (Nat.le_of_ble_eq_true rfl) (fun e => absurd e (by decide)) hr ?_ ?_
  · rintro v h1 (⟨r, hv, hq⟩ | ⟨k, E, hv, -⟩)
    · cases hv
      refine EL_s hP 1 (i' := 8) (ls' := [some (.inr (.inr 0)), some (.inl z0), some (.inl z1), some (.inl z2), some (.inr (.inr 112)), none]) (sk' := [.inr (.inl (w32 r)), .inl 0, .inr (.inr 112)]) (h' := h1) rfl ?_
      refine EL_sd hP (ty := .long) (n := 1) (a := 112) (z := 0) (y := w32 r) (sk := []) rfl rfl rfl (by decide) (by decide) trivial ?_
      refine EL_s hP 2 (i' := 14) (ls' := [some (.inr (.inr 0)), some (.inl z0), some (.inl z1), some (.inl z2), some (.inr (.inr 112)), none]) (sk' := [.inl 0]) (h' := xup h1 112 0 (w32 r)) rfl ?_
      exact EL_ret hP (v := some (.inl 0)) rfl (Or.inl rfl) ⟨0, rfl, hq⟩
    · cases hv
  · rintro E h1 (⟨r, hv, -⟩ | ⟨k, E9, hv, hE, hq⟩)
    · cases hv
    · cases hv
      refine ⟨rfl, ?_⟩
      match k, hE, hq with
      | 0, hE, hq =>
        cases hE
        refine ⟨0, 10, _, rfl, rfl, Or.inl ⟨_, rfl⟩, ?_⟩
        refine EL_s hP 1 (i' := 12) (ls' := List.replicate 6 none) (sk' := [.inl 1]) (h' := h1) rfl ?_
        exact EL_ret hP (v := some (.inl 1)) rfl (Or.inl rfl) ⟨1, rfl, hq⟩
      | k + 1, hE, hq => cases hE
theorem hw_solve {d b : Nat} {h : xH} {Q' : Int → xH → Prop} {zs : List Int} (hz : zs.length = 1) (hr : xRn2 G0 MT d b 121 (.inr (.inr 0) :: zs.map .inl) h (xHQ (121, ["java/lang/IllegalArgumentException", "java/lang/IllegalStateException"], 1, false) Q')) (P : xPr) (hP : xClL G0 cdL_solve (some .int) (xRn2 G0 MT d) xNoH [] 4 (4, [("java/lang/IllegalArgumentException", 8), ("java/lang/IllegalStateException", 11)]) none (xQv Q') P) : P b 0 (xini (.inr (.inr 0) :: (zs.map .inl ++ [.inr (.inr 112)])) 4) [] h := by
  obtain ⟨z0, rfl⟩ := zl1 hz
  refine EL_s hP 4 (i' := 4) (ls' := [some (.inr (.inr 0)), some (.inl z0), some (.inr (.inr 112)), none]) (sk' := [.inl z0, .inr (.inr 0), .inl 0, .inr (.inr 112)]) (h' := h) rfl ?_
  refine EL_call (b1 := b) (b2 := 0) hP rfl rfl (Nat.le_of_ble_eq_true rfl) (fun e => absurd e (by decide)) hr ?_ ?_
  · rintro v h1 (⟨r, hv, hq⟩ | ⟨k, E, hv, -⟩)
    · cases hv
      refine EL_s hP 1 (i' := 6) (ls' := [some (.inr (.inr 0)), some (.inl z0), some (.inr (.inr 112)), none]) (sk' := [.inr (.inl (w32 r)), .inl 0, .inr (.inr 112)]) (h' := h1) rfl ?_
      refine EL_sd hP (ty := .long) (n := 1) (a := 112) (z := 0) (y := w32 r) (sk := []) rfl rfl rfl (by decide) (by decide) trivial ?_
      refine EL_s hP 2 (i' := 15) (ls' := [some (.inr (.inr 0)), some (.inl z0), some (.inr (.inr 112)), none]) (sk' := [.inl 0]) (h' := xup h1 112 0 (w32 r)) rfl ?_
      exact EL_ret hP (v := some (.inl 0)) rfl (Or.inl rfl) ⟨0, rfl, hq⟩
    · cases hv
  · rintro E h1 (⟨r, hv, -⟩ | ⟨k, E9, hv, hE, hq⟩)
    · cases hv
    · cases hv
      refine ⟨rfl, ?_⟩
      match k, hE, hq with
      | 0, hE, hq =>
        cases hE
        refine ⟨0, 8, _, rfl, rfl, Or.inr ⟨_, rfl⟩, ?_⟩
        refine EL_s hP 1 (i' := 10) (ls' := List.replicate 4 none) (sk' := [.inl 1]) (h' := h1) rfl ?_
        exact EL_ret hP (v := some (.inl 1)) rfl (Or.inl rfl) ⟨1, rfl, hq⟩
      | 1, hE, hq =>
        cases hE
        refine ⟨1, 11, _, rfl, rfl, Or.inr ⟨_, rfl⟩, ?_⟩
        refine EL_s hP 1 (i' := 13) (ls' := List.replicate 4 none) (sk' := [.inl 2]) (h' := h1) rfl ?_
        exact EL_ret hP (v := some (.inl 2)) rfl (Or.inl rfl) ⟨2, rfl, hq⟩
      | k + 2, hE, hq => cases hE
theorem hw_make {d b : Nat} {h : xH} {Q' : Int → xH → Prop} {zs : List Int} (hz : zs.length = 1) (hr : xRn2 G0 MT d b 122 (.inr (.inr 0) :: zs.map .inl) h (xHQ (122, ["java/lang/IllegalArgumentException", "java/lang/IllegalStateException"], 1, false) Q')) (P : xPr) (hP : xClL G0 cdL_make (some .int) (xRn2 G0 MT d) xNoH [] 4 (4, [("java/lang/IllegalArgumentException", 8), ("java/lang/IllegalStateException", 11)]) none (xQv Q') P) : P b 0 (xini (.inr (.inr 0) :: (zs.map .inl ++ [.inr (.inr 112)])) 4) [] h := by
  obtain ⟨z0, rfl⟩ := zl1 hz
  refine EL_s hP 4 (i' := 4) (ls' := [some (.inr (.inr 0)), some (.inl z0), some (.inr (.inr 112)), none]) (sk' := [.inl z0, .inr (.inr 0), .inl 0, .inr (.inr 112)]) (h' := h) rfl ?_
  refine EL_call (b1 := b) (b2 := 0) hP rfl rfl (Nat.le_of_ble_eq_true rfl) (fun e => absurd e (by decide)) hr ?_ ?_
  · rintro v h1 (⟨r, hv, hq⟩ | ⟨k, E, hv, -⟩)
    · cases hv
      refine EL_s hP 1 (i' := 6) (ls' := [some (.inr (.inr 0)), some (.inl z0), some (.inr (.inr 112)), none]) (sk' := [.inr (.inl (w32 r)), .inl 0, .inr (.inr 112)]) (h' := h1) rfl ?_
      refine EL_sd hP (ty := .long) (n := 1) (a := 112) (z := 0) (y := w32 r) (sk := []) rfl rfl rfl (by decide) (by decide) trivial ?_
      refine EL_s hP 2 (i' := 15) (ls' := [some (.inr (.inr 0)), some (.inl z0), some (.inr (.inr 112)), none]) (sk' := [.inl 0]) (h' := xup h1 112 0 (w32 r)) rfl ?_
      exact EL_ret hP (v := some (.inl 0)) rfl (Or.inl rfl) ⟨0, rfl, hq⟩
    · cases hv
  · rintro E h1 (⟨r, hv, -⟩ | ⟨k, E9, hv, hE, hq⟩)
    · cases hv
    · cases hv
      refine ⟨rfl, ?_⟩
      match k, hE, hq with
      | 0, hE, hq =>
        cases hE
        refine ⟨0, 8, _, rfl, rfl, Or.inr ⟨_, rfl⟩, ?_⟩
        refine EL_s hP 1 (i' := 10) (ls' := List.replicate 4 none) (sk' := [.inl 1]) (h' := h1) rfl ?_
        exact EL_ret hP (v := some (.inl 1)) rfl (Or.inl rfl) ⟨1, rfl, hq⟩
      | 1, hE, hq =>
        cases hE
        refine ⟨1, 11, _, rfl, rfl, Or.inr ⟨_, rfl⟩, ?_⟩
        refine EL_s hP 1 (i' := 13) (ls' := List.replicate 4 none) (sk' := [.inl 2]) (h' := h1) rfl ?_
        exact EL_ret hP (v := some (.inl 2)) rfl (Or.inl rfl) ⟨2, rfl, hq⟩
      | k + 2, hE, hq => cases hE
theorem hw_solved {d b : Nat} {h : xH} {Q' : Int → xH → Prop} {zs : List Int} (hz : zs.length = 1) (hr : xRn2 G0 MT d b 123 (.inr (.inr 0) :: zs.map .inl) h (xHQ (123, ["java/lang/IllegalStateException", "java/util/NoSuchElementException"], 1, false) Q')) (P : xPr) (hP : xClL G0 cdL_solved (some .int) (xRn2 G0 MT d) xNoH [] 4 (4, [("java/lang/IllegalStateException", 8), ("java/util/NoSuchElementException", 11)]) none (xQv Q') P) : P b 0 (xini (.inr (.inr 0) :: (zs.map .inl ++ [.inr (.inr 112)])) 4) [] h := by
  obtain ⟨z0, rfl⟩ := zl1 hz
  refine EL_s hP 4 (i' := 4) (ls' := [some (.inr (.inr 0)), some (.inl z0), some (.inr (.inr 112)), none]) (sk' := [.inl z0, .inr (.inr 0), .inl 0, .inr (.inr 112)]) (h' := h) rfl ?_
  refine EL_call (b1 := b) (b2 := 0) hP rfl rfl (Nat.le_of_ble_eq_true rfl) (fun e => absurd e (by decide)) hr ?_ ?_
  · rintro v h1 (⟨r, hv, hq⟩ | ⟨k, E, hv, -⟩)
    · cases hv
      refine EL_s hP 1 (i' := 6) (ls' := [some (.inr (.inr 0)), some (.inl z0), some (.inr (.inr 112)), none]) (sk' := [.inr (.inl (w32 r)), .inl 0, .inr (.inr 112)]) (h' := h1) rfl ?_
      refine EL_sd hP (ty := .long) (n := 1) (a := 112) (z := 0) (y := w32 r) (sk := []) rfl rfl rfl (by decide) (by decide) trivial ?_
      refine EL_s hP 2 (i' := 15) (ls' := [some (.inr (.inr 0)), some (.inl z0), some (.inr (.inr 112)), none]) (sk' := [.inl 0]) (h' := xup h1 112 0 (w32 r)) rfl ?_
      exact EL_ret hP (v := some (.inl 0)) rfl (Or.inl rfl) ⟨0, rfl, hq⟩
    · cases hv
  · rintro E h1 (⟨r, hv, -⟩ | ⟨k, E9, hv, hE, hq⟩)
    · cases hv
    · cases hv
      refine ⟨rfl, ?_⟩
      match k, hE, hq with
      | 0, hE, hq =>
        cases hE
        refine ⟨0, 8, _, rfl, rfl, Or.inr ⟨_, rfl⟩, ?_⟩
        refine EL_s hP 1 (i' := 10) (ls' := List.replicate 4 none) (sk' := [.inl 1]) (h' := h1) rfl ?_
        exact EL_ret hP (v := some (.inl 1)) rfl (Or.inl rfl) ⟨1, rfl, hq⟩
      | 1, hE, hq =>
        cases hE
        refine ⟨1, 11, _, rfl, rfl, Or.inr ⟨_, rfl⟩, ?_⟩
        refine EL_s hP 1 (i' := 13) (ls' := List.replicate 4 none) (sk' := [.inl 2]) (h' := h1) rfl ?_
        exact EL_ret hP (v := some (.inl 2)) rfl (Or.inl rfl) ⟨2, rfl, hq⟩
      | k + 2, hE, hq => cases hE
theorem hw_comes {d b : Nat} {h : xH} {Q' : Int → xH → Prop} {zs : List Int} (hz : zs.length = 3) (hr : xRn2 G0 MT d b 124 (.inr (.inr 0) :: zs.map .inl) h (xHQ (124, ["java/lang/IllegalStateException", "java/lang/IllegalArgumentException"], 3, false) Q')) (P : xPr) (hP : xClL G0 cdL_comes (some .int) (xRn2 G0 MT d) xNoH [] 6 (6, [("java/lang/IllegalStateException", 10), ("java/lang/IllegalArgumentException", 13)]) none (xQv Q') P) : P b 0 (xini (.inr (.inr 0) :: (zs.map .inl ++ [.inr (.inr 112)])) 6) [] h := by
  obtain ⟨z0, z1, z2, rfl⟩ := zl3 hz
  refine EL_s hP 6 (i' := 6) (ls' := [some (.inr (.inr 0)), some (.inl z0), some (.inl z1), some (.inl z2), some (.inr (.inr 112)), none]) (sk' := [.inl z2, .inl z1, .inl z0, .inr (.inr 0), .inl 0, .inr (.inr 112)]) (h' := h) rfl ?_
  refine EL_call (b1 := b) (b2 := 0) hP rfl rfl (Nat.le_of_ble_eq_true rfl) (fun e => absurd e (by decide)) hr ?_ ?_
  · rintro v h1 (⟨r, hv, hq⟩ | ⟨k, E, hv, -⟩)
    · cases hv
      refine EL_s hP 1 (i' := 8) (ls' := [some (.inr (.inr 0)), some (.inl z0), some (.inl z1), some (.inl z2), some (.inr (.inr 112)), none]) (sk' := [.inr (.inl (w32 r)), .inl 0, .inr (.inr 112)]) (h' := h1) rfl ?_
      refine EL_sd hP (ty := .long) (n := 1) (a := 112) (z := 0) (y := w32 r) (sk := []) rfl rfl rfl (by decide) (by decide) trivial ?_
      refine EL_s hP 2 (i' := 17) (ls' := [some (.inr (.inr 0)), some (.inl z0), some (.inl z1), some (.inl z2), some (.inr (.inr 112)), none]) (sk' := [.inl 0]) (h' := xup h1 112 0 (w32 r)) rfl ?_
      exact EL_ret hP (v := some (.inl 0)) rfl (Or.inl rfl) ⟨0, rfl, hq⟩
    · cases hv
  · rintro E h1 (⟨r, hv, -⟩ | ⟨k, E9, hv, hE, hq⟩)
    · cases hv
    · cases hv
      refine ⟨rfl, ?_⟩
      match k, hE, hq with
      | 0, hE, hq =>
        cases hE
        refine ⟨0, 10, _, rfl, rfl, Or.inl ⟨_, rfl⟩, ?_⟩
        refine EL_s hP 1 (i' := 12) (ls' := List.replicate 6 none) (sk' := [.inl 1]) (h' := h1) rfl ?_
        exact EL_ret hP (v := some (.inl 1)) rfl (Or.inl rfl) ⟨1, rfl, hq⟩
      | 1, hE, hq =>
        cases hE
        refine ⟨1, 13, _, rfl, rfl, Or.inl ⟨_, rfl⟩, ?_⟩
        refine EL_s hP 1 (i' := 15) (ls' := List.replicate 6 none) (sk' := [.inl 2]) (h' := h1) rfl ?_
        exact EL_ret hP (v := some (.inl 2)) rfl (Or.inl rfl) ⟨2, rfl, hq⟩
      | k + 2, hE, hq => cases hE
theorem hw_writeSolved {d b : Nat} {h : xH} {Q' : Int → xH → Prop} {zs : List Int} (hz : zs.length = 0) (hr : xRn2 G0 MT d b 125 (.inr (.inr 0) :: zs.map .inl) h (xHQ (125, ["java/lang/IllegalStateException"], 0, false) Q')) (P : xPr) (hP : xClL G0 cdL_writeSolved (some .int) (xRn2 G0 MT d) xNoH [] 3 (3, [("java/lang/IllegalStateException", 7)]) none (xQv Q') P) : P b 0 (xini (.inr (.inr 0) :: (zs.map .inl ++ [.inr (.inr 112)])) 3) [] h := by
  obtain rfl := zl0 hz
  refine EL_s hP 3 (i' := 3) (ls' := [some (.inr (.inr 0)), some (.inr (.inr 112)), none]) (sk' := [.inr (.inr 0), .inl 0, .inr (.inr 112)]) (h' := h) rfl ?_
  refine EL_call (b1 := b) (b2 := 0) hP rfl rfl (Nat.le_of_ble_eq_true rfl) (fun e => absurd e (by decide)) hr ?_ ?_
  · rintro v h1 (⟨r, hv, hq⟩ | ⟨k, E, hv, -⟩)
    · cases hv
      refine EL_s hP 1 (i' := 5) (ls' := [some (.inr (.inr 0)), some (.inr (.inr 112)), none]) (sk' := [.inr (.inl (w32 r)), .inl 0, .inr (.inr 112)]) (h' := h1) rfl ?_
      refine EL_sd hP (ty := .long) (n := 1) (a := 112) (z := 0) (y := w32 r) (sk := []) rfl rfl rfl (by decide) (by decide) trivial ?_
      refine EL_s hP 2 (i' := 11) (ls' := [some (.inr (.inr 0)), some (.inr (.inr 112)), none]) (sk' := [.inl 0]) (h' := xup h1 112 0 (w32 r)) rfl ?_
      exact EL_ret hP (v := some (.inl 0)) rfl (Or.inl rfl) ⟨0, rfl, hq⟩
    · cases hv
  · rintro E h1 (⟨r, hv, -⟩ | ⟨k, E9, hv, hE, hq⟩)
    · cases hv
    · cases hv
      refine ⟨rfl, ?_⟩
      match k, hE, hq with
      | 0, hE, hq =>
        cases hE
        refine ⟨0, 7, _, rfl, rfl, Or.inr ⟨_, rfl⟩, ?_⟩
        refine EL_s hP 1 (i' := 9) (ls' := List.replicate 3 none) (sk' := [.inl 1]) (h' := h1) rfl ?_
        exact EL_ret hP (v := some (.inl 1)) rfl (Or.inl rfl) ⟨1, rfl, hq⟩
      | k + 1, hE, hq => cases hE
theorem hw_leaf {d b : Nat} {h : xH} {Q' : Int → xH → Prop} {zs : List Int} (hz : zs.length = 1) (hr : xRn2 G0 MT d b 126 (.inr (.inr 0) :: zs.map .inl) h (xHQ (126, ["java/lang/IllegalStateException", "java/util/NoSuchElementException"], 1, false) Q')) (P : xPr) (hP : xClL G0 cdL_leaf (some .int) (xRn2 G0 MT d) xNoH [] 4 (4, [("java/lang/IllegalStateException", 8), ("java/util/NoSuchElementException", 11)]) none (xQv Q') P) : P b 0 (xini (.inr (.inr 0) :: (zs.map .inl ++ [.inr (.inr 112)])) 4) [] h := by
  obtain ⟨z0, rfl⟩ := zl1 hz
  refine EL_s hP 4 (i' := 4) (ls' := [some (.inr (.inr 0)), some (.inl z0), some (.inr (.inr 112)), none]) (sk' := [.inl z0, .inr (.inr 0), .inl 0, .inr (.inr 112)]) (h' := h) rfl ?_
  refine EL_call (b1 := b) (b2 := 0) hP rfl rfl (Nat.le_of_ble_eq_true rfl) (fun e => absurd e (by decide)) hr ?_ ?_
  · rintro v h1 (⟨r, hv, hq⟩ | ⟨k, E, hv, -⟩)
    · cases hv
      refine EL_s hP 1 (i' := 6) (ls' := [some (.inr (.inr 0)), some (.inl z0), some (.inr (.inr 112)), none]) (sk' := [.inr (.inl (w32 r)), .inl 0, .inr (.inr 112)]) (h' := h1) rfl ?_
      refine EL_sd hP (ty := .long) (n := 1) (a := 112) (z := 0) (y := w32 r) (sk := []) rfl rfl rfl (by decide) (by decide) trivial ?_
      refine EL_s hP 2 (i' := 15) (ls' := [some (.inr (.inr 0)), some (.inl z0), some (.inr (.inr 112)), none]) (sk' := [.inl 0]) (h' := xup h1 112 0 (w32 r)) rfl ?_
      exact EL_ret hP (v := some (.inl 0)) rfl (Or.inl rfl) ⟨0, rfl, hq⟩
    · cases hv
  · rintro E h1 (⟨r, hv, -⟩ | ⟨k, E9, hv, hE, hq⟩)
    · cases hv
    · cases hv
      refine ⟨rfl, ?_⟩
      match k, hE, hq with
      | 0, hE, hq =>
        cases hE
        refine ⟨0, 8, _, rfl, rfl, Or.inr ⟨_, rfl⟩, ?_⟩
        refine EL_s hP 1 (i' := 10) (ls' := List.replicate 4 none) (sk' := [.inl 1]) (h' := h1) rfl ?_
        exact EL_ret hP (v := some (.inl 1)) rfl (Or.inl rfl) ⟨1, rfl, hq⟩
      | 1, hE, hq =>
        cases hE
        refine ⟨1, 11, _, rfl, rfl, Or.inr ⟨_, rfl⟩, ?_⟩
        refine EL_s hP 1 (i' := 13) (ls' := List.replicate 4 none) (sk' := [.inl 2]) (h' := h1) rfl ?_
        exact EL_ret hP (v := some (.inl 2)) rfl (Or.inl rfl) ⟨2, rfl, hq⟩
      | k + 2, hE, hq => cases hE
theorem hw_apart {d b : Nat} {h : xH} {Q' : Int → xH → Prop} {zs : List Int} (hz : zs.length = 2) (hr : xRn2 G0 MT d b 127 (.inr (.inr 0) :: zs.map .inl) h (xHQ (127, ["java/lang/IllegalStateException", "java/util/NoSuchElementException"], 2, false) Q')) (P : xPr) (hP : xClL G0 cdL_apart (some .int) (xRn2 G0 MT d) xNoH [] 5 (5, [("java/lang/IllegalStateException", 9), ("java/util/NoSuchElementException", 12)]) none (xQv Q') P) : P b 0 (xini (.inr (.inr 0) :: (zs.map .inl ++ [.inr (.inr 112)])) 5) [] h := by
  obtain ⟨z0, z1, rfl⟩ := zl2 hz
  refine EL_s hP 5 (i' := 5) (ls' := [some (.inr (.inr 0)), some (.inl z0), some (.inl z1), some (.inr (.inr 112)), none]) (sk' := [.inl z1, .inl z0, .inr (.inr 0), .inl 0, .inr (.inr 112)]) (h' := h) rfl ?_
  refine EL_call (b1 := b) (b2 := 0) hP rfl rfl (Nat.le_of_ble_eq_true rfl) (fun e => absurd e (by decide)) hr ?_ ?_
  · rintro v h1 (⟨r, hv, hq⟩ | ⟨k, E, hv, -⟩)
    · cases hv
      refine EL_s hP 1 (i' := 7) (ls' := [some (.inr (.inr 0)), some (.inl z0), some (.inl z1), some (.inr (.inr 112)), none]) (sk' := [.inr (.inl (w32 r)), .inl 0, .inr (.inr 112)]) (h' := h1) rfl ?_
      refine EL_sd hP (ty := .long) (n := 1) (a := 112) (z := 0) (y := w32 r) (sk := []) rfl rfl rfl (by decide) (by decide) trivial ?_
      refine EL_s hP 2 (i' := 16) (ls' := [some (.inr (.inr 0)), some (.inl z0), some (.inl z1), some (.inr (.inr 112)), none]) (sk' := [.inl 0]) (h' := xup h1 112 0 (w32 r)) rfl ?_
      exact EL_ret hP (v := some (.inl 0)) rfl (Or.inl rfl) ⟨0, rfl, hq⟩
    · cases hv
  · rintro E h1 (⟨r, hv, -⟩ | ⟨k, E9, hv, hE, hq⟩)
    · cases hv
    · cases hv
      refine ⟨rfl, ?_⟩
      match k, hE, hq with
      | 0, hE, hq =>
        cases hE
        refine ⟨0, 9, _, rfl, rfl, Or.inl ⟨_, rfl⟩, ?_⟩
        refine EL_s hP 1 (i' := 11) (ls' := List.replicate 5 none) (sk' := [.inl 1]) (h' := h1) rfl ?_
        exact EL_ret hP (v := some (.inl 1)) rfl (Or.inl rfl) ⟨1, rfl, hq⟩
      | 1, hE, hq =>
        cases hE
        refine ⟨1, 12, _, rfl, rfl, Or.inl ⟨_, rfl⟩, ?_⟩
        refine EL_s hP 1 (i' := 14) (ls' := List.replicate 5 none) (sk' := [.inl 2]) (h' := h1) rfl ?_
        exact EL_ret hP (v := some (.inl 2)) rfl (Or.inl rfl) ⟨2, rfl, hq⟩
      | k + 2, hE, hq => cases hE
theorem hw_without {d b : Nat} {h : xH} {Q' : Int → xH → Prop} {zs : List Int} (hz : zs.length = 2) (hr : xRn2 G0 MT d b 128 (.inr (.inr 0) :: zs.map .inl) h (xHQ (128, ["java/lang/IllegalArgumentException", "java/lang/IllegalStateException"], 2, false) Q')) (P : xPr) (hP : xClL G0 cdL_without (some .int) (xRn2 G0 MT d) xNoH [] 5 (5, [("java/lang/IllegalArgumentException", 9), ("java/lang/IllegalStateException", 12)]) none (xQv Q') P) : P b 0 (xini (.inr (.inr 0) :: (zs.map .inl ++ [.inr (.inr 112)])) 5) [] h := by
  obtain ⟨z0, z1, rfl⟩ := zl2 hz
  refine EL_s hP 5 (i' := 5) (ls' := [some (.inr (.inr 0)), some (.inl z0), some (.inl z1), some (.inr (.inr 112)), none]) (sk' := [.inl z1, .inl z0, .inr (.inr 0), .inl 0, .inr (.inr 112)]) (h' := h) rfl ?_
  refine EL_call (b1 := b) (b2 := 0) hP rfl rfl (Nat.le_of_ble_eq_true rfl) (fun e => absurd e (by decide)) hr ?_ ?_
  · rintro v h1 (⟨r, hv, hq⟩ | ⟨k, E, hv, -⟩)
    · cases hv
      refine EL_s hP 1 (i' := 7) (ls' := [some (.inr (.inr 0)), some (.inl z0), some (.inl z1), some (.inr (.inr 112)), none]) (sk' := [.inr (.inl (w32 r)), .inl 0, .inr (.inr 112)]) (h' := h1) rfl ?_
      refine EL_sd hP (ty := .long) (n := 1) (a := 112) (z := 0) (y := w32 r) (sk := []) rfl rfl rfl (by decide) (by decide) trivial ?_
      refine EL_s hP 2 (i' := 16) (ls' := [some (.inr (.inr 0)), some (.inl z0), some (.inl z1), some (.inr (.inr 112)), none]) (sk' := [.inl 0]) (h' := xup h1 112 0 (w32 r)) rfl ?_
      exact EL_ret hP (v := some (.inl 0)) rfl (Or.inl rfl) ⟨0, rfl, hq⟩
    · cases hv
  · rintro E h1 (⟨r, hv, -⟩ | ⟨k, E9, hv, hE, hq⟩)
    · cases hv
    · cases hv
      refine ⟨rfl, ?_⟩
      match k, hE, hq with
      | 0, hE, hq =>
        cases hE
        refine ⟨0, 9, _, rfl, rfl, Or.inl ⟨_, rfl⟩, ?_⟩
        refine EL_s hP 1 (i' := 11) (ls' := List.replicate 5 none) (sk' := [.inl 1]) (h' := h1) rfl ?_
        exact EL_ret hP (v := some (.inl 1)) rfl (Or.inl rfl) ⟨1, rfl, hq⟩
      | 1, hE, hq =>
        cases hE
        refine ⟨1, 12, _, rfl, rfl, Or.inl ⟨_, rfl⟩, ?_⟩
        refine EL_s hP 1 (i' := 14) (ls' := List.replicate 5 none) (sk' := [.inl 2]) (h' := h1) rfl ?_
        exact EL_ret hP (v := some (.inl 2)) rfl (Or.inl rfl) ⟨2, rfl, hq⟩
      | k + 2, hE, hq => cases hE
theorem hw_ties {d b : Nat} {h : xH} {Q' : Int → xH → Prop} {zs : List Int} (hz : zs.length = 1) (hr : xRn2 G0 MT d b 129 (.inr (.inr 0) :: zs.map .inl) h (xHQ (129, ["java/lang/IllegalArgumentException", "java/lang/IllegalStateException"], 1, false) Q')) (P : xPr) (hP : xClL G0 cdL_ties (some .int) (xRn2 G0 MT d) xNoH [] 4 (4, [("java/lang/IllegalArgumentException", 8), ("java/lang/IllegalStateException", 11)]) none (xQv Q') P) : P b 0 (xini (.inr (.inr 0) :: (zs.map .inl ++ [.inr (.inr 112)])) 4) [] h := by
  obtain ⟨z0, rfl⟩ := zl1 hz
  refine EL_s hP 4 (i' := 4) (ls' := [some (.inr (.inr 0)), some (.inl z0), some (.inr (.inr 112)), none]) (sk' := [.inl z0, .inr (.inr 0), .inl 0, .inr (.inr 112)]) (h' := h) rfl ?_
  refine EL_call (b1 := b) (b2 := 0) hP rfl rfl (Nat.le_of_ble_eq_true rfl) (fun e => absurd e (by decide)) hr ?_ ?_
  · rintro v h1 (⟨r, hv, hq⟩ | ⟨k, E, hv, -⟩)
    · cases hv
      refine EL_s hP 1 (i' := 6) (ls' := [some (.inr (.inr 0)), some (.inl z0), some (.inr (.inr 112)), none]) (sk' := [.inr (.inl (w32 r)), .inl 0, .inr (.inr 112)]) (h' := h1) rfl ?_
      refine EL_sd hP (ty := .long) (n := 1) (a := 112) (z := 0) (y := w32 r) (sk := []) rfl rfl rfl (by decide) (by decide) trivial ?_
      refine EL_s hP 2 (i' := 15) (ls' := [some (.inr (.inr 0)), some (.inl z0), some (.inr (.inr 112)), none]) (sk' := [.inl 0]) (h' := xup h1 112 0 (w32 r)) rfl ?_
      exact EL_ret hP (v := some (.inl 0)) rfl (Or.inl rfl) ⟨0, rfl, hq⟩
    · cases hv
  · rintro E h1 (⟨r, hv, -⟩ | ⟨k, E9, hv, hE, hq⟩)
    · cases hv
    · cases hv
      refine ⟨rfl, ?_⟩
      match k, hE, hq with
      | 0, hE, hq =>
        cases hE
        refine ⟨0, 8, _, rfl, rfl, Or.inr ⟨_, rfl⟩, ?_⟩
        refine EL_s hP 1 (i' := 10) (ls' := List.replicate 4 none) (sk' := [.inl 1]) (h' := h1) rfl ?_
        exact EL_ret hP (v := some (.inl 1)) rfl (Or.inl rfl) ⟨1, rfl, hq⟩
      | 1, hE, hq =>
        cases hE
        refine ⟨1, 11, _, rfl, rfl, Or.inr ⟨_, rfl⟩, ?_⟩
        refine EL_s hP 1 (i' := 13) (ls' := List.replicate 4 none) (sk' := [.inl 2]) (h' := h1) rfl ?_
        exact EL_ret hP (v := some (.inl 2)) rfl (Or.inl rfl) ⟨2, rfl, hq⟩
      | k + 2, hE, hq => cases hE
theorem hw_needed {d b : Nat} {h : xH} {Q' : Int → xH → Prop} {zs : List Int} (hz : zs.length = 0) (hr : xRn2 G0 MT d b 130 (.inr (.inr 0) :: zs.map .inl) h (xHQ (130, ["java/lang/IllegalStateException"], 0, false) Q')) (P : xPr) (hP : xClL G0 cdL_needed (some .int) (xRn2 G0 MT d) xNoH [] 3 (3, [("java/lang/IllegalStateException", 7)]) none (xQv Q') P) : P b 0 (xini (.inr (.inr 0) :: (zs.map .inl ++ [.inr (.inr 112)])) 3) [] h := by
  obtain rfl := zl0 hz
  refine EL_s hP 3 (i' := 3) (ls' := [some (.inr (.inr 0)), some (.inr (.inr 112)), none]) (sk' := [.inr (.inr 0), .inl 0, .inr (.inr 112)]) (h' := h) rfl ?_
  refine EL_call (b1 := b) (b2 := 0) hP rfl rfl (Nat.le_of_ble_eq_true rfl) (fun e => absurd e (by decide)) hr ?_ ?_
  · rintro v h1 (⟨r, hv, hq⟩ | ⟨k, E, hv, -⟩)
    · cases hv
      refine EL_s hP 1 (i' := 5) (ls' := [some (.inr (.inr 0)), some (.inr (.inr 112)), none]) (sk' := [.inr (.inl (w32 r)), .inl 0, .inr (.inr 112)]) (h' := h1) rfl ?_
      refine EL_sd hP (ty := .long) (n := 1) (a := 112) (z := 0) (y := w32 r) (sk := []) rfl rfl rfl (by decide) (by decide) trivial ?_
      refine EL_s hP 2 (i' := 11) (ls' := [some (.inr (.inr 0)), some (.inr (.inr 112)), none]) (sk' := [.inl 0]) (h' := xup h1 112 0 (w32 r)) rfl ?_
      exact EL_ret hP (v := some (.inl 0)) rfl (Or.inl rfl) ⟨0, rfl, hq⟩
    · cases hv
  · rintro E h1 (⟨r, hv, -⟩ | ⟨k, E9, hv, hE, hq⟩)
    · cases hv
    · cases hv
      refine ⟨rfl, ?_⟩
      match k, hE, hq with
      | 0, hE, hq =>
        cases hE
        refine ⟨0, 7, _, rfl, rfl, Or.inr ⟨_, rfl⟩, ?_⟩
        refine EL_s hP 1 (i' := 9) (ls' := List.replicate 3 none) (sk' := [.inl 1]) (h' := h1) rfl ?_
        exact EL_ret hP (v := some (.inl 1)) rfl (Or.inl rfl) ⟨1, rfl, hq⟩
      | k + 1, hE, hq => cases hE
theorem hw_solvedUses {d b : Nat} {h : xH} {Q' : Int → xH → Prop} {zs : List Int} (hz : zs.length = 1) (hr : xRn2 G0 MT d b 131 (.inr (.inr 0) :: zs.map .inl) h (xHQ (131, ["java/lang/IllegalStateException", "java/lang/IllegalArgumentException"], 1, false) Q')) (P : xPr) (hP : xClL G0 cdL_solvedUses (some .int) (xRn2 G0 MT d) xNoH [] 4 (4, [("java/lang/IllegalStateException", 8), ("java/lang/IllegalArgumentException", 11)]) none (xQv Q') P) : P b 0 (xini (.inr (.inr 0) :: (zs.map .inl ++ [.inr (.inr 112)])) 4) [] h := by
  obtain ⟨z0, rfl⟩ := zl1 hz
  refine EL_s hP 4 (i' := 4) (ls' := [some (.inr (.inr 0)), some (.inl z0), some (.inr (.inr 112)), none]) (sk' := [.inl z0, .inr (.inr 0), .inl 0, .inr (.inr 112)]) (h' := h) rfl ?_
  refine EL_call (b1 := b) (b2 := 0) hP rfl rfl (Nat.le_of_ble_eq_true rfl) (fun e => absurd e (by decide)) hr ?_ ?_
  · rintro v h1 (⟨r, hv, hq⟩ | ⟨k, E, hv, -⟩)
    · cases hv
      refine EL_s hP 1 (i' := 6) (ls' := [some (.inr (.inr 0)), some (.inl z0), some (.inr (.inr 112)), none]) (sk' := [.inr (.inl (w32 r)), .inl 0, .inr (.inr 112)]) (h' := h1) rfl ?_
      refine EL_sd hP (ty := .long) (n := 1) (a := 112) (z := 0) (y := w32 r) (sk := []) rfl rfl rfl (by decide) (by decide) trivial ?_
      refine EL_s hP 2 (i' := 15) (ls' := [some (.inr (.inr 0)), some (.inl z0), some (.inr (.inr 112)), none]) (sk' := [.inl 0]) (h' := xup h1 112 0 (w32 r)) rfl ?_
      exact EL_ret hP (v := some (.inl 0)) rfl (Or.inl rfl) ⟨0, rfl, hq⟩
    · cases hv
  · rintro E h1 (⟨r, hv, -⟩ | ⟨k, E9, hv, hE, hq⟩)
    · cases hv
    · cases hv
      refine ⟨rfl, ?_⟩
      match k, hE, hq with
      | 0, hE, hq =>
        cases hE
        refine ⟨0, 8, _, rfl, rfl, Or.inr ⟨_, rfl⟩, ?_⟩
        refine EL_s hP 1 (i' := 10) (ls' := List.replicate 4 none) (sk' := [.inl 1]) (h' := h1) rfl ?_
        exact EL_ret hP (v := some (.inl 1)) rfl (Or.inl rfl) ⟨1, rfl, hq⟩
      | 1, hE, hq =>
        cases hE
        refine ⟨1, 11, _, rfl, rfl, Or.inr ⟨_, rfl⟩, ?_⟩
        refine EL_s hP 1 (i' := 13) (ls' := List.replicate 4 none) (sk' := [.inl 2]) (h' := h1) rfl ?_
        exact EL_ret hP (v := some (.inl 2)) rfl (Or.inl rfl) ⟨2, rfl, hq⟩
      | k + 2, hE, hq => cases hE
theorem hw_way {d b : Nat} {h : xH} {Q' : Int → xH → Prop} {zs : List Int} (hz : zs.length = 4) (hr : xRn2 G0 MT d b 132 (.inr (.inr 0) :: zs.map .inl) h (xHQ (132, ["java/lang/IllegalStateException", "java/lang/IllegalArgumentException"], 4, false) Q')) (P : xPr) (hP : xClL G0 cdL_way (some .int) (xRn2 G0 MT d) xNoH [] 7 (7, [("java/lang/IllegalStateException", 11), ("java/lang/IllegalArgumentException", 14)]) none (xQv Q') P) : P b 0 (xini (.inr (.inr 0) :: (zs.map .inl ++ [.inr (.inr 112)])) 7) [] h := by
  obtain ⟨z0, z1, z2, z3, rfl⟩ := zl4 hz
  refine EL_s hP 7 (i' := 7) (ls' := [some (.inr (.inr 0)), some (.inl z0), some (.inl z1), some (.inl z2), some (.inl z3), some (.inr (.inr 112)), none]) (sk' := [.inl z3, .inl z2, .inl z1, .inl z0, .inr (.inr 0), .inl 0, .inr (.inr 112)]) (h' := h) rfl ?_
  refine EL_call (b1 := b) (b2 := 0) hP rfl rfl (Nat.le_of_ble_eq_true rfl) (fun e => absurd e (by decide)) hr ?_ ?_
  · rintro v h1 (⟨r, hv, hq⟩ | ⟨k, E, hv, -⟩)
    · cases hv
      refine EL_s hP 1 (i' := 9) (ls' := [some (.inr (.inr 0)), some (.inl z0), some (.inl z1), some (.inl z2), some (.inl z3), some (.inr (.inr 112)), none]) (sk' := [.inr (.inl (w32 r)), .inl 0, .inr (.inr 112)]) (h' := h1) rfl ?_
      refine EL_sd hP (ty := .long) (n := 1) (a := 112) (z := 0) (y := w32 r) (sk := []) rfl rfl rfl (by decide) (by decide) trivial ?_
      refine EL_s hP 2 (i' := 18) (ls' := [some (.inr (.inr 0)), some (.inl z0), some (.inl z1), some (.inl z2), some (.inl z3), some (.inr (.inr 112)), none]) (sk' := [.inl 0]) (h' := xup h1 112 0 (w32 r)) rfl ?_
      exact EL_ret hP (v := some (.inl 0)) rfl (Or.inl rfl) ⟨0, rfl, hq⟩
    · cases hv
  · rintro E h1 (⟨r, hv, -⟩ | ⟨k, E9, hv, hE, hq⟩)
    · cases hv
    · cases hv
      refine ⟨rfl, ?_⟩
      match k, hE, hq with
      | 0, hE, hq =>
        cases hE
        refine ⟨0, 11, _, rfl, rfl, Or.inl ⟨_, rfl⟩, ?_⟩
        refine EL_s hP 1 (i' := 13) (ls' := List.replicate 7 none) (sk' := [.inl 1]) (h' := h1) rfl ?_
        exact EL_ret hP (v := some (.inl 1)) rfl (Or.inl rfl) ⟨1, rfl, hq⟩
      | 1, hE, hq =>
        cases hE
        refine ⟨1, 14, _, rfl, rfl, Or.inl ⟨_, rfl⟩, ?_⟩
        refine EL_s hP 1 (i' := 16) (ls' := List.replicate 7 none) (sk' := [.inl 2]) (h' := h1) rfl ?_
        exact EL_ret hP (v := some (.inl 2)) rfl (Or.inl rfl) ⟨2, rfl, hq⟩
      | k + 2, hE, hq => cases hE
theorem hw_isIdle {d b : Nat} {h : xH} {Q' : Int → xH → Prop} {zs : List Int} (hz : zs.length = 1) (hr : xRn2 G0 MT d b 133 (.inr (.inr 0) :: zs.map .inl) h (xHQ (133, ["java/lang/IllegalStateException", "java/util/NoSuchElementException"], 1, true) Q')) (P : xPr) (hP : xClL G0 cdL_isIdle (some .int) (xRn2 G0 MT d) xNoH [] 4 (4, [("java/lang/IllegalStateException", 11), ("java/util/NoSuchElementException", 14)]) none (xQv Q') P) : P b 0 (xini (.inr (.inr 0) :: (zs.map .inl ++ [.inr (.inr 112)])) 4) [] h := by
  obtain ⟨z0, rfl⟩ := zl1 hz
  refine EL_s hP 4 (i' := 4) (ls' := [some (.inr (.inr 0)), some (.inl z0), some (.inr (.inr 112)), none]) (sk' := [.inl z0, .inr (.inr 0), .inl 0, .inr (.inr 112)]) (h' := h) rfl ?_
  refine EL_call (b1 := b) (b2 := 0) hP rfl rfl (Nat.le_of_ble_eq_true rfl) (fun e => absurd e (by decide)) hr ?_ ?_
  · rintro v h1 (⟨r, hv, hq⟩ | ⟨k, E, hv, -⟩)
    · cases hv
      refine EL_bzl hP rfl rfl rfl rfl ?_
      refine EL_sd hP (ty := .long) (n := 1) (a := 112) (z := 0) (y := bz r) (sk := []) rfl rfl rfl (by decide) (by decide) trivial ?_
      refine EL_s hP 2 (i' := 18) (ls' := [some (.inr (.inr 0)), some (.inl z0), some (.inr (.inr 112)), none]) (sk' := [.inl 0]) (h' := xup h1 112 0 (bz r)) rfl ?_
      exact EL_ret hP (v := some (.inl 0)) rfl (Or.inl rfl) ⟨0, rfl, hq⟩
    · cases hv
  · rintro E h1 (⟨r, hv, -⟩ | ⟨k, E9, hv, hE, hq⟩)
    · cases hv
    · cases hv
      refine ⟨rfl, ?_⟩
      match k, hE, hq with
      | 0, hE, hq =>
        cases hE
        refine ⟨0, 11, _, rfl, rfl, Or.inr ⟨_, rfl⟩, ?_⟩
        refine EL_s hP 1 (i' := 13) (ls' := List.replicate 4 none) (sk' := [.inl 1]) (h' := h1) rfl ?_
        exact EL_ret hP (v := some (.inl 1)) rfl (Or.inl rfl) ⟨1, rfl, hq⟩
      | 1, hE, hq =>
        cases hE
        refine ⟨1, 14, _, rfl, rfl, Or.inr ⟨_, rfl⟩, ?_⟩
        refine EL_s hP 1 (i' := 16) (ls' := List.replicate 4 none) (sk' := [.inl 2]) (h' := h1) rfl ?_
        exact EL_ret hP (v := some (.inl 2)) rfl (Or.inl rfl) ⟨2, rfl, hq⟩
      | k + 2, hE, hq => cases hE
theorem hw_fits {d b : Nat} {h : xH} {Q' : Int → xH → Prop} {zs : List Int} (hz : zs.length = 2) (hr : xRn2 G0 MT d b 134 (.inr (.inr 0) :: zs.map .inl) h (xHQ (134, ["java/lang/IllegalArgumentException", "java/util/NoSuchElementException"], 2, false) Q')) (P : xPr) (hP : xClL G0 cdL_fits (some .int) (xRn2 G0 MT d) xNoH [] 5 (5, [("java/lang/IllegalArgumentException", 9), ("java/util/NoSuchElementException", 12)]) none (xQv Q') P) : P b 0 (xini (.inr (.inr 0) :: (zs.map .inl ++ [.inr (.inr 112)])) 5) [] h := by
  obtain ⟨z0, z1, rfl⟩ := zl2 hz
  refine EL_s hP 5 (i' := 5) (ls' := [some (.inr (.inr 0)), some (.inl z0), some (.inl z1), some (.inr (.inr 112)), none]) (sk' := [.inl z1, .inl z0, .inr (.inr 0), .inl 0, .inr (.inr 112)]) (h' := h) rfl ?_
  refine EL_call (b1 := b) (b2 := 0) hP rfl rfl (Nat.le_of_ble_eq_true rfl) (fun e => absurd e (by decide)) hr ?_ ?_
  · rintro v h1 (⟨r, hv, hq⟩ | ⟨k, E, hv, -⟩)
    · cases hv
      refine EL_s hP 1 (i' := 7) (ls' := [some (.inr (.inr 0)), some (.inl z0), some (.inl z1), some (.inr (.inr 112)), none]) (sk' := [.inr (.inl (w32 r)), .inl 0, .inr (.inr 112)]) (h' := h1) rfl ?_
      refine EL_sd hP (ty := .long) (n := 1) (a := 112) (z := 0) (y := w32 r) (sk := []) rfl rfl rfl (by decide) (by decide) trivial ?_
      refine EL_s hP 2 (i' := 16) (ls' := [some (.inr (.inr 0)), some (.inl z0), some (.inl z1), some (.inr (.inr 112)), none]) (sk' := [.inl 0]) (h' := xup h1 112 0 (w32 r)) rfl ?_
      exact EL_ret hP (v := some (.inl 0)) rfl (Or.inl rfl) ⟨0, rfl, hq⟩
    · cases hv
  · rintro E h1 (⟨r, hv, -⟩ | ⟨k, E9, hv, hE, hq⟩)
    · cases hv
    · cases hv
      refine ⟨rfl, ?_⟩
      match k, hE, hq with
      | 0, hE, hq =>
        cases hE
        refine ⟨0, 9, _, rfl, rfl, Or.inl ⟨_, rfl⟩, ?_⟩
        refine EL_s hP 1 (i' := 11) (ls' := List.replicate 5 none) (sk' := [.inl 1]) (h' := h1) rfl ?_
        exact EL_ret hP (v := some (.inl 1)) rfl (Or.inl rfl) ⟨1, rfl, hq⟩
      | 1, hE, hq =>
        cases hE
        refine ⟨1, 12, _, rfl, rfl, Or.inl ⟨_, rfl⟩, ?_⟩
        refine EL_s hP 1 (i' := 14) (ls' := List.replicate 5 none) (sk' := [.inl 2]) (h' := h1) rfl ?_
        exact EL_ret hP (v := some (.inl 2)) rfl (Or.inl rfl) ⟨2, rfl, hq⟩
      | k + 2, hE, hq => cases hE
theorem hw_splits {d b : Nat} {h : xH} {Q' : Int → xH → Prop} {zs : List Int} (hz : zs.length = 2) (hr : xRn2 G0 MT d b 136 (.inr (.inr 0) :: zs.map .inl) h (xHQ (136, ["java/lang/IllegalArgumentException"], 2, false) Q')) (P : xPr) (hP : xClL G0 cdL_splits (some .int) (xRn2 G0 MT d) xNoH [] 5 (5, [("java/lang/IllegalArgumentException", 9)]) none (xQv Q') P) : P b 0 (xini (.inr (.inr 0) :: (zs.map .inl ++ [.inr (.inr 112)])) 5) [] h := by
  obtain ⟨z0, z1, rfl⟩ := zl2 hz
  refine EL_s hP 5 (i' := 5) (ls' := [some (.inr (.inr 0)), some (.inl z0), some (.inl z1), some (.inr (.inr 112)), none]) (sk' := [.inl z1, .inl z0, .inr (.inr 0), .inl 0, .inr (.inr 112)]) (h' := h) rfl ?_
  refine EL_call (b1 := b) (b2 := 0) hP rfl rfl (Nat.le_of_ble_eq_true rfl) (fun e => absurd e (by decide)) hr ?_ ?_
  · rintro v h1 (⟨r, hv, hq⟩ | ⟨k, E, hv, -⟩)
    · cases hv
      refine EL_s hP 1 (i' := 7) (ls' := [some (.inr (.inr 0)), some (.inl z0), some (.inl z1), some (.inr (.inr 112)), none]) (sk' := [.inr (.inl (w32 r)), .inl 0, .inr (.inr 112)]) (h' := h1) rfl ?_
      refine EL_sd hP (ty := .long) (n := 1) (a := 112) (z := 0) (y := w32 r) (sk := []) rfl rfl rfl (by decide) (by decide) trivial ?_
      refine EL_s hP 2 (i' := 13) (ls' := [some (.inr (.inr 0)), some (.inl z0), some (.inl z1), some (.inr (.inr 112)), none]) (sk' := [.inl 0]) (h' := xup h1 112 0 (w32 r)) rfl ?_
      exact EL_ret hP (v := some (.inl 0)) rfl (Or.inl rfl) ⟨0, rfl, hq⟩
    · cases hv
  · rintro E h1 (⟨r, hv, -⟩ | ⟨k, E9, hv, hE, hq⟩)
    · cases hv
    · cases hv
      refine ⟨rfl, ?_⟩
      match k, hE, hq with
      | 0, hE, hq =>
        cases hE
        refine ⟨0, 9, _, rfl, rfl, Or.inl ⟨_, rfl⟩, ?_⟩
        refine EL_s hP 1 (i' := 11) (ls' := List.replicate 5 none) (sk' := [.inl 1]) (h' := h1) rfl ?_
        exact EL_ret hP (v := some (.inl 1)) rfl (Or.inl rfl) ⟨1, rfl, hq⟩
      | k + 1, hE, hq => cases hE
theorem hw_told {d b : Nat} {h : xH} {Q' : Int → xH → Prop} {zs : List Int} (hz : zs.length = 2) (hr : xRn2 G0 MT d b 138 (.inr (.inr 0) :: zs.map .inl) h (xHQ (138, ["java/util/NoSuchElementException"], 2, false) Q')) (P : xPr) (hP : xClL G0 cdL_told (some .int) (xRn2 G0 MT d) xNoH [] 5 (5, [("java/util/NoSuchElementException", 9)]) none (xQv Q') P) : P b 0 (xini (.inr (.inr 0) :: (zs.map .inl ++ [.inr (.inr 112)])) 5) [] h := by
  obtain ⟨z0, z1, rfl⟩ := zl2 hz
  refine EL_s hP 5 (i' := 5) (ls' := [some (.inr (.inr 0)), some (.inl z0), some (.inl z1), some (.inr (.inr 112)), none]) (sk' := [.inl z1, .inl z0, .inr (.inr 0), .inl 0, .inr (.inr 112)]) (h' := h) rfl ?_
  refine EL_call (b1 := b) (b2 := 0) hP rfl rfl (Nat.le_of_ble_eq_true rfl) (fun e => absurd e (by decide)) hr ?_ ?_
  · rintro v h1 (⟨r, hv, hq⟩ | ⟨k, E, hv, -⟩)
    · cases hv
      refine EL_s hP 1 (i' := 7) (ls' := [some (.inr (.inr 0)), some (.inl z0), some (.inl z1), some (.inr (.inr 112)), none]) (sk' := [.inr (.inl (w32 r)), .inl 0, .inr (.inr 112)]) (h' := h1) rfl ?_
      refine EL_sd hP (ty := .long) (n := 1) (a := 112) (z := 0) (y := w32 r) (sk := []) rfl rfl rfl (by decide) (by decide) trivial ?_
      refine EL_s hP 2 (i' := 13) (ls' := [some (.inr (.inr 0)), some (.inl z0), some (.inl z1), some (.inr (.inr 112)), none]) (sk' := [.inl 0]) (h' := xup h1 112 0 (w32 r)) rfl ?_
      exact EL_ret hP (v := some (.inl 0)) rfl (Or.inl rfl) ⟨0, rfl, hq⟩
    · cases hv
  · rintro E h1 (⟨r, hv, -⟩ | ⟨k, E9, hv, hE, hq⟩)
    · cases hv
    · cases hv
      refine ⟨rfl, ?_⟩
      match k, hE, hq with
      | 0, hE, hq =>
        cases hE
        refine ⟨0, 9, _, rfl, rfl, Or.inl ⟨_, rfl⟩, ?_⟩
        refine EL_s hP 1 (i' := 11) (ls' := List.replicate 5 none) (sk' := [.inl 1]) (h' := h1) rfl ?_
        exact EL_ret hP (v := some (.inl 1)) rfl (Or.inl rfl) ⟨1, rfl, hq⟩
      | k + 1, hE, hq => cases hE
theorem hw_constantAt {d b : Nat} {h : xH} {Q' : Int → xH → Prop} {zs : List Int} (hz : zs.length = 1) (hr : xRn2 G0 MT d b 139 (.inr (.inr 0) :: zs.map .inl) h (xHQ (139, ["java/util/NoSuchElementException"], 1, false) Q')) (P : xPr) (hP : xClL G0 cdL_constantAt (some .int) (xRn2 G0 MT d) xNoH [] 4 (4, [("java/util/NoSuchElementException", 8)]) none (xQv Q') P) : P b 0 (xini (.inr (.inr 0) :: (zs.map .inl ++ [.inr (.inr 112)])) 4) [] h := by
  obtain ⟨z0, rfl⟩ := zl1 hz
  refine EL_s hP 4 (i' := 4) (ls' := [some (.inr (.inr 0)), some (.inl z0), some (.inr (.inr 112)), none]) (sk' := [.inl z0, .inr (.inr 0), .inl 0, .inr (.inr 112)]) (h' := h) rfl ?_
  refine EL_call (b1 := b) (b2 := 0) hP rfl rfl (Nat.le_of_ble_eq_true rfl) (fun e => absurd e (by decide)) hr ?_ ?_
  · rintro v h1 (⟨r, hv, hq⟩ | ⟨k, E, hv, -⟩)
    · cases hv
      refine EL_s hP 1 (i' := 6) (ls' := [some (.inr (.inr 0)), some (.inl z0), some (.inr (.inr 112)), none]) (sk' := [.inr (.inl (w32 r)), .inl 0, .inr (.inr 112)]) (h' := h1) rfl ?_
      refine EL_sd hP (ty := .long) (n := 1) (a := 112) (z := 0) (y := w32 r) (sk := []) rfl rfl rfl (by decide) (by decide) trivial ?_
      refine EL_s hP 2 (i' := 12) (ls' := [some (.inr (.inr 0)), some (.inl z0), some (.inr (.inr 112)), none]) (sk' := [.inl 0]) (h' := xup h1 112 0 (w32 r)) rfl ?_
      exact EL_ret hP (v := some (.inl 0)) rfl (Or.inl rfl) ⟨0, rfl, hq⟩
    · cases hv
  · rintro E h1 (⟨r, hv, -⟩ | ⟨k, E9, hv, hE, hq⟩)
    · cases hv
    · cases hv
      refine ⟨rfl, ?_⟩
      match k, hE, hq with
      | 0, hE, hq =>
        cases hE
        refine ⟨0, 8, _, rfl, rfl, Or.inr ⟨_, rfl⟩, ?_⟩
        refine EL_s hP 1 (i' := 10) (ls' := List.replicate 4 none) (sk' := [.inl 1]) (h' := h1) rfl ?_
        exact EL_ret hP (v := some (.inl 1)) rfl (Or.inl rfl) ⟨1, rfl, hq⟩
      | k + 1, hE, hq => cases hE
