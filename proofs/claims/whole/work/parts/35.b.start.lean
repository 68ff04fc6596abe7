/-! the law from its entry -/
theorem inst_ok (k : Nat) (r : vw_C) (hr : vcl[k]? = some r) : Cond.instantiable r.1 r.2.2 ∈ xtg := by
  match k, hr with
  | 0, hr => cases hr; exact xtg_of 120 (by decide +kernel) (by decide +kernel)
  | 1, hr => cases hr; exact xtg_of 168 (by decide +kernel) (by decide +kernel)
  | 2, hr => cases hr; exact xtg_of 177 (by decide +kernel) (by decide +kernel)
  | 3, hr => cases hr; exact xtg_of 436 (by decide +kernel) (by decide +kernel)
  | 4, hr => cases hr; exact xtg_of 404 (by decide +kernel) (by decide +kernel)
  | 5, hr => cases hr; exact xtg_of 354 (by decide +kernel) (by decide +kernel)
  | 6, hr => cases hr; exact xtg_of 147 (by decide +kernel) (by decide +kernel)
  | 7, hr => cases hr; exact xtg_of 318 (by decide +kernel) (by decide +kernel)
  | 8, hr => cases hr; exact xtg_of 447 (by decide +kernel) (by decide +kernel)
  | 9, hr => cases hr; exact xtg_of 112 (by decide +kernel) (by decide +kernel)
  | 10, hr => cases hr; exact xtg_of 1737 (by decide +kernel) (by decide +kernel)
  | n + 11, hr => cases hr
theorem st_cls {s : State} {args : Array Value} (hts : ∀ w ∈ xtg, w.before args s = true) : ∃ D : va_G, ∀ (k : Nat) (q : vw_C), vcl[k]? = some q → u_Kn s q.1 q.2.1 q.2.2 (D.1 k) (D.2 k) := by
  have h : ∀ k : Nat, ∃ d : ClassId × (Nat → Nat), ∀ q, vcl[k]? = some q → u_Kn s q.1 q.2.1 q.2.2 d.1 d.2 := fun k => by
    cases hr : vcl[k]? with
    | none => exact ⟨((0 : Nat), fun _ => 0), fun q e => by cases e⟩
    | some r =>
      obtain ⟨cC, iS, h1⟩ := u_known hts (vcl_ok k r hr).1 (hts _ (inst_ok k r hr))
      exact ⟨(cC, iS), fun q e => by cases e; exact h1⟩
  obtain ⟨d, hd⟩ := Classical.axiomOfChoice h
  exact ⟨(fun k => (d k).1, fun k => (d k).2), fun k q hq => hd k q hq⟩
theorem st_arr {s : State} {args : Array Value} (hts : ∀ w ∈ xtg, w.before args s = true) (hov : bOv s) {D : va_G} (hD : ∀ (k : Nat) (q : vw_C), vcl[k]? = some q → u_Kn s q.1 q.2.1 q.2.2 (D.1 k) (D.2 k)) : ∃ (ca : FieldType → ClassId) (tys : List (ClassId × FieldType)), xcaok ca tys ∧ va_K D vcl tys s := by
  have one : ∀ {ty : FieldType}, Cond.arrayClass ty ∈ xtg → ∃ cA : ClassId, ArrOfT s cA ty ∧ s.vm.findClass ("[" ++ ty.toString) = some cA := fun {ty} hw => by
    obtain ⟨cA, kA, comp, h1, h2, h3⟩ := Cond.arrayClass_spec (hts _ hw)
    exact ⟨cA, fun n z => ⟨fun k h => (by cases h), kA, h2, comp, h3⟩, h1⟩
  obtain ⟨cI, i1, i2⟩ := one (ty := .int) (xtg_of 145 (by decide +kernel) (by decide +kernel))
  obtain ⟨cJ, j1, j2⟩ := one (ty := .long) (xtg_of 316 (by decide +kernel) (by decide +kernel))
  obtain ⟨cB, b1, b2⟩ := one (ty := .byte) (xtg_of 461 (by decide +kernel) (by decide +kernel))
  obtain ⟨cZ, z1, z2⟩ := one (ty := .boolean) (xtg_of 1938 (by decide +kernel) (by decide +kernel))
  obtain ⟨comp, cA, kA, o1, o2, o3, o4⟩ := hov
  refine ⟨fun ty => match ty with
    | .int => cI
    | .long => cJ
    | .byte => cB
    | .boolean => cZ
    | _ => cA, [(cI, .int), (cJ, .long), (cB, .byte), (cZ, .boolean), (cA, .array .int)], ?_, hD, ?_⟩
  · rintro ty (rfl | rfl | rfl | rfl | rfl)
    · exact ⟨0, rfl⟩
    · exact ⟨1, rfl⟩
    · exact ⟨2, rfl⟩
    · exact ⟨3, rfl⟩
    · exact ⟨4, rfl⟩
  · intro k q hq
    match k, hq with
    | 0, hq => cases hq; exact ⟨i1, i2⟩
    | 1, hq => cases hq; exact ⟨j1, j2⟩
    | 2, hq => cases hq; exact ⟨b1, b2⟩
    | 3, hq => cases hq; exact ⟨z1, z2⟩
    | 4, hq => cases hq; exact ⟨fun n z => ⟨fun k h => (by cases h), kA, o2, comp, o3⟩, o4⟩
    | n + 5, hq => cases hq
def xid (g : xS) : Bool := match g with
  | .inl _ => true
  | .inr (.inl ids) => ids.all (fun d => Nat.blt d 1000)
  | .inr (.inr q) => q.2.all (fun f => match f with
    | .inl _ => true
    | .inr d => Nat.blt d 1000)
theorem G0_id : G0.all xid = true := by decide +kernel
theorem xF_cong {ρ ρ' : Nat → Nat} (hρ : ∀ k, k < 1000 → ρ k = ρ' k) (h : Int → Int) : ∀ (fs : List (FieldType ⊕ Nat)) (k : Nat), fs.all (fun f => match f with
    | .inl _ => true
    | .inr d => Nat.blt d 1000) = true → xF ρ h fs k = xF ρ' h fs k
  | [], _, _ => rfl
  | .inl ty :: t, k, hb => by
    simp only [List.all_cons, Bool.and_eq_true] at hb
    show xc ρ (xmk ty (h k)) :: xF ρ h t (k + 1) = xc ρ' (xmk ty (h k)) :: xF ρ' h t (k + 1)
    rw [xF_cong hρ h t (k + 1) hb.2]
    cases ty <;> rfl
  | .inr d :: t, k, hb => by
    simp only [List.all_cons, Bool.and_eq_true] at hb
    show Value.ref (ρ d) :: xF ρ h t (k + 1) = Value.ref (ρ' d) :: xF ρ' h t (k + 1)
    rw [xF_cong hρ h t (k + 1) hb.2, hρ d (Nat.le_of_ble_eq_true hb.1)]
theorem xE_cong {ρ ρ' : Nat → Nat} (hρ : ∀ k, k < 1000 → ρ k = ρ' k) (ca : FieldType → ClassId) (h : Int → Int) (g : xS) (hg : xid g = true) : xE ρ ca h g = xE ρ' ca h g := by
  rcases g with q | ids | q
  · rfl
  · show (.inl (ca (.array .int), ids.length, .inr (.inr (.inr (.inr (fun j => (ids[j]?).map ρ))))) : va_E) = .inl (ca (.array .int), ids.length, .inr (.inr (.inr (.inr (fun j => (ids[j]?).map ρ')))))
    have e : (fun j : Nat => (ids[j]?).map ρ) = (fun j : Nat => (ids[j]?).map ρ') := by
      funext j
      cases hj : ids[j]? with
      | none => rfl
      | some d =>
        have := List.all_eq_true.mp hg d (List.mem_of_getElem? hj)
        show some (ρ d) = some (ρ' d)
        rw [hρ d (Nat.le_of_ble_eq_true this)]
    rw [e]
  · show (.inr (q.1, xF ρ h q.2 0) : va_E) = .inr (q.1, xF ρ' h q.2 0)
    rw [xF_cong hρ h q.2 0 hg]
theorem G0_len : G0.length = 113 := by decide +kernel
theorem xW_cong {ρ ρ' : Nat → Nat} (hρ : ∀ k, k < 1000 → ρ k = ρ' k) (ca : FieldType → ClassId) (h : xH) : xWl ρ ca h G0 0 = xWl ρ' ca h G0 0 := by
  apply List.ext_getElem?
  intro i
  rw [xWl_get, xWl_get]
  cases hg : G0[i]? with
  | none => rfl
  | some g =>
    have hi := (List.getElem?_eq_some_iff.mp hg).1
    rw [G0_len] at hi
    simp only [Option.map_some, Nat.zero_add]
    rw [hρ i (by omega), xE_cong hρ ca (h i) g (List.all_eq_true.mp G0_id g (List.mem_of_getElem? hg))]
theorem bpi_inj {i j : Nat} (h : bpi i = bpi j) : i = j := by
  unfold bpi at h
  repeat' split at h
  all_goals omega
theorem st_DD {ρ : Nat → Nat} {ca : FieldType → ClassId} {n0 : Nat} (hρ : ∀ k, k < 1000 → ρ k = n0 + bpi k) (h : xH) : va_D (xA n0) (xWl ρ ca h G0 0) := by
  have e : ∀ (i : Nat) (x : Nat × va_E), (xWl ρ ca h G0 0)[i]? = some x → x.1 = n0 + bpi i := fun i x hx => by
    rw [xWl_get] at hx
    obtain ⟨g, hg, rfl⟩ := Option.map_eq_some_iff.mp hx
    have hi := (List.getElem?_eq_some_iff.mp hg).1
    rw [G0_len] at hi
    simp only [Nat.zero_add]
    exact hρ i (by omega)
  refine ⟨fun i j x y h1 h2 he => ?_, fun k q h1 => ?_⟩
  · rw [e i x h1, e j y h2] at he
    exact bpi_inj (by omega)
  · show n0 ≤ q.1
    rw [e k q h1]
    omega
theorem lw_x1 : blnk RL (.new 8, 0, [(9, 0)], []) := List.forall_mem_cons.mpr ⟨⟨_, rfl, xtg_of 111 (by decide +kernel) (by decide +kernel), xtg_of 112 (by decide +kernel) (by decide +kernel), xtg_of 80 (by decide +kernel) (by decide +kernel)⟩, fun _ h => absurd h List.not_mem_nil⟩
theorem lw_x2 : blnk RL (.new 134, 0, [(10, 0)], []) := List.forall_mem_cons.mpr ⟨⟨_, rfl, xtg_of 1736 (by decide +kernel) (by decide +kernel), xtg_of 1737 (by decide +kernel) (by decide +kernel), xtg_of 92 (by decide +kernel) (by decide +kernel)⟩, fun _ h => absurd h List.not_mem_nil⟩
theorem lw_x3 : blnk RL (.newarray .long, 0, [], []) := ⟨xtg_of 316 (by decide +kernel) (by decide +kernel), Or.inr (Or.inl rfl)⟩
theorem bl1 : bo1.length = 1 ∧ bw1.length = 66 ∧ bo2.length = 67 ∧ bw2.length = 112 ∧ bw3.length = 113 := by decide +kernel
theorem bs1 : bs [] (.new 8, 0, [(9, 0)], []) [] [] = some ([.inr (.inr 0)], bo1, 1, 10) := rfl
theorem bs2 : bs [] (.new 134, 0, [(10, 0)], []) [] bw1 = some ([.inr (.inr 66)], bo2, 1, 65) := by
  show some (([.inr (.inr bw1.length)] : List xV), bw1 ++ _, 1, _) = _
  rw [bl1.2.1]
  rfl
theorem bs3 : bs [] (.newarray .long, 0, [], []) [.inl 1] bw2 = some ([.inr (.inr 112)], bw3, 1, 1) := by
  show some (([.inr (.inr bw2.length)] : List xV), bw2 ++ _, 1, _) = _
  rw [bl1.2.2.2.1]
  rfl
set_option maxHeartbeats 4000000 in
set_option maxRecDepth 20000 in
/-- THE LAW, from its entry -/
theorem whole_start {p : Program} {e : Env} {s : State} {m : MethodId} {below : List Frame} {meth : Method} {c : Code} (l : Launch) (hflags : l.flags = flags0) {b L : Nat} {xs : Nat → Int32} (hL : L ≤ 3072) (C0 : lw_At p s m meth c b L xs) : W p l e room_1 s m #[Value.ref b] below meth c s.heap [] 0 0 (lw_Z below #[Value.ref b] s) (entryFrame m ([Value.ref b] : List Value).toArray 7) := by
  obtain ⟨hx, hb, hr, hml, hown0, hts0, hX, hbl, hlocks, hgv⟩ := id C0
  have hown : s.vm.findClass RL = some m.cls := hown0
  have hnv : ∀ w ∈ nv, w.before #[Value.ref b] s = true := flat_of_before _ hgv
  have hts := st_xtg hts0
  have hlt : l.stackTraces = false := by
    unfold Launch.stackTraces
    rw [hflags]
    decide +kernel
  have hs0 : xS0 s s := ⟨State.WarmedH.refl s, fun _ _ => rfl⟩
  have hB := st_b hts0
  have hov := hB.2.1 s hs0
  obtain ⟨D, hDk⟩ := st_cls hts
  obtain ⟨ca, tys, hca, hK⟩ := st_arr hts hov hDk
  obtain ⟨adS, adR, hstr⟩ := st_str hts0 hnv
  obtain ⟨ρ, hρ, hρS, hρR, hρb⟩ : ∃ ρ : Nat → Nat, (∀ k, k < 1000 → ρ k = s.heap.size + bpi k) ∧ (∀ j, j < 1000 → ρ (1000 + j) = adS j) ∧ (∀ t, t < 1000 → ρ (2000 + t) = adR t) ∧ ρ 3000 = b := by
    refine ⟨fun k => if k < 1000 then s.heap.size + bpi k else if k < 2000 then adS (k - 1000) else if k < 3000 then adR (k - 2000) else b, fun k hk => ?_, fun j hj => ?_, fun t ht => ?_, ?_⟩
    · simp only [if_pos hk]
    · simp only [if_neg (show ¬ 1000 + j < 1000 by omega), if_pos (show 1000 + j < 2000 by omega), Nat.add_sub_cancel_left]
    · simp only [if_neg (show ¬ 2000 + t < 1000 by omega), if_neg (show ¬ 2000 + t < 2000 by omega), if_pos (show 2000 + t < 3000 by omega), Nat.add_sub_cancel_left]
    · simp
  have F : xFx l D tys ρ ca s.heap.size (xS0 s) := ⟨hca, xS0_ok s, st_dec hts0, xTW_of hlt (st_ts hts0 hnv), fun h => st_DD hρ h, hstr ρ hρS hρR, st_nc hts0 hnv⟩
  obtain ⟨ρb, hρ9⟩ : ∃ ρb : Nat → Nat, ∀ k, ρb k = s.heap.size + k := ⟨fun k => s.heap.size + k, fun _ => rfl⟩
  have hρb9 : ∀ k, k < 1000 → ρb k = s.heap.size + k := fun k _ => hρ9 k
  have hscr : xScr ρ s.heap.size s (some (L, fun j => (xs j.toNat).toInt)) := by
    intro L' xs' he
    cases he
    refine ⟨by omega, by rw [hρb]; exact Nat.not_le.mpr hbl, by rw [hρb]; exact hbl, ?_⟩
    rw [hρb]
    have e : (fun j : Nat => Int32.ofInt ((fun j : Int => (xs j.toNat).toInt) (j : Int))) = xs := by
      funext j
      show Int32.ofInt ((xs (j : Int).toNat).toInt) = xs j
      rw [Int.toNat_natCast, Int32.ofInt_toInt]
    rw [e]
    exact hX
  have hxs : ∀ j : Int, xr ((xs j.toNat).toInt) := fun j => ⟨Int32.le_toInt _, by have := Int32.toInt_lt (xs j.toNat); omega⟩
  have hl := lv_entry ([.ref b]) (n := 7) (Nat.le_of_ble_eq_true rfl)
  rw [lg_entry_eq]
  generalize (lg_sl ([.ref b]) ++ List.replicate (7 - (lg_sl ([.ref b])).length) Slot.unset).toArray = ls at hl ⊢
  have hl : lv_has ls 7 [(0, .ref b)] := hl
  have hno : ∀ (k : Nat) (v : xV), ([] : List xV)[k]? = some v → ls[k]? = some (.val (xc ρb v)) := fun k v h => by cases h
  refine b_step (own := RL) (ρ := ρb) (n0 := s.heap.size) (sk := []) (w := []) hx hb hown hts hK hca hov hρb9 (Nat.le_refl _) hno (show decode code 0 = .ok (.new 8, 3) by decide +kernel) lw_x1 (fun h => by obtain ⟨k, h⟩ := h; cases h) bs1 (by rw [bl1.1]; decide) (fun k q h => by cases h) va_S.rf rfl (by decide) (by decide) (fun H1 locs1 hP1 hS1 hc1 => ?_)
  refine lv_dup hx hb (show decode code 3 = .ok (.dup, 1) by decide +kernel) rfl ?_
  have hlow1 := b_low hρb9 (by rw [bl1.1]; decide) hS1.1 hP1
  rw [bl1.1] at hlow1
  refine W_size (N := s.heap.size + 1) (Nat.le_refl _) hlow1 (fun hz1 => ?_)
  refine b_run hS1 (va_runI (As := []) (rest := [.ref (ρb 0)]) (b := ρb 0) (g := F0 m 4 ls [.ref (ρb 0), .ref (ρb 0)]) ⟨hx, hb, hml, hown, hts⟩ (b_sound (l := l) (D := D) BT_ok hca hB hρb9 5 0 [.inr (.inr 0)] bo1 bw1 65 47955 bev1 (by rw [bl1.2.1]; decide) bX11_init rfl) ⟨callB_of 0 hts (bgood (xtg_of 115 (by decide +kernel) (by decide +kernel))) rfl rfl rfl (hts _ (xtg_of 80 (by decide +kernel) (by decide +kernel))) (hts _ (show Cond.methodLink RL 133 yX11_init ∈ xtg from xtg_of 113 (by decide +kernel) (by decide +kernel))) ⟨by decide, by decide, by decide +kernel⟩ ⟨by decide, by decide⟩, rfl, hts _ (show Cond.instanceMethod yX11_init ∈ xtg from xtg_of 114 (by decide +kernel) (by decide +kernel))⟩ ⟨b_blind (xS0_ok s), b_pre (as := [.inr (.inr 0)]) (xS0_ok s) (Nat.le_refl _) hs0 hK hS1 (by rw [bl1.1]; exact hz1) hP1⟩ rfl rfl hl.1 rfl (Nat.le_of_ble_eq_true rfl) (show decode code 4 = .ok (.invokespecial 133, 3) by decide +kernel) ⟨by decide, by decide⟩) (fun H2 locs2 hP2 hS2 => ?_)
  refine lv_astore_n (k := 1) (i := 1) hx hb (show decode code 7 = .ok (.astore_n 1, 1) by decide +kernel) rfl hl (by decide) rfl (fun ls1 hl1 => ?_)
  have hno1 : ∀ (k : Nat) (v : xV), ([] : List xV)[k]? = some v → ls1[k]? = some (.val (xc ρb v)) := fun k v h => by cases h
  refine b_step (own := RL) (ρ := ρb) (n0 := s.heap.size) (sk := []) (w := bw1) hx hb hown hts hK hca hov hρb9 (Nat.le_refl _) hno1 (show decode code 8 = .ok (.new 134, 3) by decide +kernel) lw_x2 (fun h => by obtain ⟨k, h⟩ := h; cases h) bs2 (by rw [bl1.2.2.1]; decide) hP2 hS2 (by rw [bl1.2.1]) (by decide) (by decide) (fun H3 locs3 hP3 hS3 hc3 => ?_)
  refine lv_dup hx hb (show decode code 11 = .ok (.dup, 1) by decide +kernel) rfl ?_
  have hlow3 := b_low hρb9 (by rw [bl1.2.2.1]; decide) hS3.1 hP3
  rw [bl1.2.2.1] at hlow3
  refine W_size (N := s.heap.size + 67) (Nat.le_refl _) hlow3 (fun hz3 => ?_)
  refine b_run hS3 (va_runI (As := []) (rest := [.ref (ρb 66)]) (b := ρb 66) (g := F0 m 12 ls1 [.ref (ρb 66), .ref (ρb 66)]) ⟨hx, hb, hml, hown, hts⟩ (b_sound (l := l) (D := D) BT_ok hca hB hρb9 5 11 [.inr (.inr 66)] bo2 bw2 45 71288 bev2 (by rw [bl1.2.2.2.1]; decide) bX12_init rfl) ⟨callB_of 0 hts (bgood (xtg_of 1740 (by decide +kernel) (by decide +kernel))) rfl rfl rfl (hts _ (xtg_of 92 (by decide +kernel) (by decide +kernel))) (hts _ (show Cond.methodLink RL 136 yX12_init ∈ xtg from xtg_of 1738 (by decide +kernel) (by decide +kernel))) ⟨by decide, by decide, by decide +kernel⟩ ⟨by decide, by decide⟩, rfl, hts _ (show Cond.instanceMethod yX12_init ∈ xtg from xtg_of 1739 (by decide +kernel) (by decide +kernel))⟩ ⟨b_blind (xS0_ok s), b_pre (as := [.inr (.inr 66)]) (xS0_ok s) (Nat.le_refl _) hs0 hK hS3 (by rw [bl1.2.2.1]; exact hz3) hP3⟩ rfl rfl hl1.1 rfl (Nat.le_of_ble_eq_true rfl) (show decode code 12 = .ok (.invokespecial 136, 3) by decide +kernel) ⟨by decide, by decide⟩) (fun H4 locs4 hP4 hS4 => ?_)
  refine lv_astore_n (k := 2) (i := 2) hx hb (show decode code 15 = .ok (.astore_n 2, 1) by decide +kernel) rfl hl1 (by decide) rfl (fun ls2 hl2 => ?_)
  refine lv_iconst (n := 1) (v := 1) hx hb (show decode code 16 = .ok (.iconst 1, 1) by decide +kernel) (by decide) ?_
  have hno2 : ∀ (k : Nat) (v : xV), ([] : List xV)[k]? = some v → ls2[k]? = some (.val (xc ρb v)) := fun k v h => by cases h
  refine b_step (own := RL) (ρ := ρb) (n0 := s.heap.size) (sk := [.inl 1]) (w := bw2) hx hb hown hts hK hca hov hρb9 (Nat.le_refl _) hno2 (show decode code 17 = .ok (.newarray .long, 2) by decide +kernel) lw_x3 (fun h => by obtain ⟨k, h⟩ := h; cases h) bs3 (by rw [bl1.2.2.2.2]; decide) hP4 hS4 (by rw [bl1.2.2.2.1]) (by decide) (by decide) (fun H5 locs5 hP5 hS5 hc5 => ?_)
  refine lv_astore_n (k := 3) (i := 3) hx hb (show decode code 19 = .ok (.astore_n 3, 1) by decide +kernel) rfl hl2 (by decide) rfl (fun ls3 hl3 => ?_)
  refine lv_iconst (n := 0) (v := 0) hx hb (show decode code 20 = .ok (.iconst 0, 1) by decide +kernel) (by decide) ?_
  refine lv_istore (i := 4) hx hb (show decode code 21 = .ok (.istore 4, 2) by decide +kernel) hl3 (by decide) rfl (fun ls4 hl4 => ?_)
  have e0 : ρ 0 = ρb 0 := by rw [hρ 0 (by decide), hρ9]; rfl
  have e66 : ρ 66 = ρb 66 := by rw [hρ 66 (by decide), hρ9]; rfl
  have e112 : ρ 112 = ρb 112 := by rw [hρ 112 (by decide), hρ9]; rfl
  have hlF : lv_has ls4 7 (xLc ρ (LSx 0) 0) := by
    have h9 : xLc ρ (LSx 0) 0 = [(0, .ref b), (1, .ref (ρb 0)), (2, .ref (ρb 66)), (3, .ref (ρb 112)), (4, .int 0)] := by
      show [(0, Value.ref (ρ 3000)), (1, Value.ref (ρ 0)), (2, Value.ref (ρ 66)), (3, Value.ref (ρ 112)), (4, Value.int (Int32.ofInt 0))] = _
      rw [hρb, e0, e66, e112]
      rfl
    rw [h9]
    exact lv_sub hl4 [4, 3, 2, 1, 0] rfl
  have hPF : va_P D vcl (xWl ρ ca h00 G0 0) H5 := by
    have h1 := bw4_P (ρ := fun k => s.heap.size + bpi k) (ρ' := ρb) (fun k => (hρ9 (bpi k)).symm) hP5
    rw [bW_x _ ca bw4_ok] at h1
    rw [xW_cong (ρ := ρ) (ρ' := fun k => s.heap.size + bpi k) hρ]
    exact h1
  have key := law_loop (X := xPL p l e s m below meth c b D ρ ca s.heap.size) hL hxs (fun cd pcs hok => lawC F rfl hx hb hr hml hown hts hK hs0 hlocks hscr cd pcs hok) (fun pcs pcs' i i' pc b9 lsx sk h g1 g2 g3 => xP_pc g1 g2 g3) 512 0 h00 (by decide) (by decide) (by omega) h00_I
  exact key 23 ls4 H5 locs5 _ _ rfl rfl hlF hPF (st_DD hρ h00) hS5 (by decide) (by decide)
