section XRULES
variable {p : Program} {l : Launch} {e : Env} {R : Room} {s : State} {m : MethodId} {args : Array Value} {below : List Frame} {meth : Method} {c : Code} {Z : State → Prop} {own : String} {cc : ByteArray} {nL : Nat} {pcs : List Nat} {D : va_G} {cl : List vw_C} {tys : List (ClassId × FieldType)} {A : Nat → Prop} {ρ : Nat → Nat} {ca : FieldType → ClassId} {G : List xS} {cd : List xI} {mc ms : Nat} {MT : List xMt} {b i : Nat} {ls : xL} {sk : List xV} {h : xH} {x : xI}
theorem w32_eq {a b : Int} : w32 a = w32 b ↔ Int32.ofInt a = Int32.ofInt b := Int32.toInt_inj
theorem w32_lt {a b : Int} : w32 a < w32 b ↔ Int32.ofInt a < Int32.ofInt b := Int32.lt_iff_toInt_lt.symm
theorem w32_le {a b : Int} : w32 a ≤ w32 b ↔ Int32.ofInt a ≤ Int32.ofInt b := Int32.le_iff_toInt_le.symm
theorem xidx {z : Int} {n : Nat} (h0 : 0 ≤ z) (h1 : z < n) (hn : n < 2 ^ 31) : vp_in (Int32.ofInt z) n ∧ (Int32.ofInt z).toNatClampNeg = z.toNat := by
  have e : Int32.ofInt z = nI z.toNat := by
    rw [nI, ← Int32.ofInt_eq_ofNat, Int.toNat_of_nonneg h0]
  rw [e]
  exact ⟨vp_in_nI (by omega) hn, nI_clamp (by omega)⟩
set_option maxHeartbeats 1000000 in
theorem x_if (hx : p.tables.exec = Jvm.exec) (hb : c.code = cc) (hown : s.vm.findClass own = some m.cls) (hts : ∀ w ∈ xtg, w.before args s = true) (hK : va_K D cl tys s) (hok : ∀ (i : Nat) (x : xI), cd[i]? = some x → xok MT cl own cc nL pcs i x) (hcl : xclok cl) (hG : xGok cl G) (hca : xcaok ca tys) {cn : Jvm.ClassFile.Cond} {off : Int} {z : Int} (hc : cd[i]? = some x) (hi : x.1 = .ifCond cn off) (ht : xcc cn z 0 = true → xP p l e R s m args below meth c Z nL pcs D cl A ρ ca G mc ms b x.2.1.toNat ls sk h) (hf : xcc cn z 0 = false → xP p l e R s m args below meth c Z nL pcs D cl A ρ ca G mc ms b (i + 1) ls sk h) : xP p l e R s m args below meth c Z nL pcs D cl A ρ ca G mc ms b i ls (.inl z :: sk) h := by
  intro pc lsr H locs cells slots hpc hn hl hP hD hS hb1 hb2
  obtain ⟨pc0, hpc0, ho⟩ := hok i x hc
  cases hpc0.symm.trans hpc
  rw [hi] at ho
  obtain ⟨hd, hn1⟩ := ho
  unfold xlnk at hn1
  rw [hi] at hn1
  obtain ⟨⟨q, hq, hqe⟩, hn1⟩ := hn1
  cases cn
  · exact lv_if_eq hx hb hd hqe (fun h9 => ht (by simp only [xcc]; exact decide_eq_true (w32_eq.mpr h9)) _ _ _ _ _ _ hq hn hl hP hD hS hb1 hb2) (fun h9 => hf (by simp only [xcc]; exact decide_eq_false (fun z9 => h9 (w32_eq.mp z9))) _ _ _ _ _ _ hn1 hn hl hP hD hS hb1 hb2)
  · exact lv_if_ne hx hb hd hqe (fun h9 => ht (by simp only [xcc]; exact decide_eq_true ((not_congr w32_eq).mpr h9)) _ _ _ _ _ _ hq hn hl hP hD hS hb1 hb2) (fun h9 => hf (by simp only [xcc]; exact decide_eq_false (fun z9 => (z9 (w32_eq.mpr h9)).elim)) _ _ _ _ _ _ hn1 hn hl hP hD hS hb1 hb2)
  · exact lv_if_lt hx hb hd hqe (fun h9 => ht (by simp only [xcc]; exact decide_eq_true (w32_lt.mpr h9)) _ _ _ _ _ _ hq hn hl hP hD hS hb1 hb2) (fun h9 => hf (by simp only [xcc]; exact decide_eq_false (fun z9 => h9 (w32_lt.mp z9))) _ _ _ _ _ _ hn1 hn hl hP hD hS hb1 hb2)
  · exact lv_if_ge hx hb hd hqe (fun h9 => ht (by simp only [xcc]; exact decide_eq_true (w32_le.mpr h9)) _ _ _ _ _ _ hq hn hl hP hD hS hb1 hb2) (fun h9 => hf (by simp only [xcc]; exact decide_eq_false (fun z9 => h9 (w32_le.mp z9))) _ _ _ _ _ _ hn1 hn hl hP hD hS hb1 hb2)
  · exact lv_if_gt hx hb hd hqe (fun h9 => ht (by simp only [xcc]; exact decide_eq_true (w32_lt.mpr h9)) _ _ _ _ _ _ hq hn hl hP hD hS hb1 hb2) (fun h9 => hf (by simp only [xcc]; exact decide_eq_false (fun z9 => h9 (w32_lt.mp z9))) _ _ _ _ _ _ hn1 hn hl hP hD hS hb1 hb2)
  · exact lv_if_le hx hb hd hqe (fun h9 => ht (by simp only [xcc]; exact decide_eq_true (w32_le.mpr h9)) _ _ _ _ _ _ hq hn hl hP hD hS hb1 hb2) (fun h9 => hf (by simp only [xcc]; exact decide_eq_false (fun z9 => h9 (w32_le.mp z9))) _ _ _ _ _ _ hn1 hn hl hP hD hS hb1 hb2)
set_option maxHeartbeats 1000000 in
theorem x_icmp (hx : p.tables.exec = Jvm.exec) (hb : c.code = cc) (hown : s.vm.findClass own = some m.cls) (hts : ∀ w ∈ xtg, w.before args s = true) (hK : va_K D cl tys s) (hok : ∀ (i : Nat) (x : xI), cd[i]? = some x → xok MT cl own cc nL pcs i x) (hcl : xclok cl) (hG : xGok cl G) (hca : xcaok ca tys) {cn : Jvm.ClassFile.Cond} {off : Int} {y z : Int} (hc : cd[i]? = some x) (hi : x.1 = .if_icmp cn off) (ht : xcc cn z y = true → xP p l e R s m args below meth c Z nL pcs D cl A ρ ca G mc ms b x.2.1.toNat ls sk h) (hf : xcc cn z y = false → xP p l e R s m args below meth c Z nL pcs D cl A ρ ca G mc ms b (i + 1) ls sk h) : xP p l e R s m args below meth c Z nL pcs D cl A ρ ca G mc ms b i ls (.inl y :: .inl z :: sk) h := by
  intro pc lsr H locs cells slots hpc hn hl hP hD hS hb1 hb2
  obtain ⟨pc0, hpc0, ho⟩ := hok i x hc
  cases hpc0.symm.trans hpc
  rw [hi] at ho
  obtain ⟨hd, hn1⟩ := ho
  unfold xlnk at hn1
  rw [hi] at hn1
  obtain ⟨⟨q, hq, hqe⟩, hn1⟩ := hn1
  cases cn
  · exact lv_icmp_eq hx hb hd hqe (fun h9 => ht (by simp only [xcc]; exact decide_eq_true (w32_eq.mpr h9)) _ _ _ _ _ _ hq hn hl hP hD hS hb1 hb2) (fun h9 => hf (by simp only [xcc]; exact decide_eq_false (fun z9 => h9 (w32_eq.mp z9))) _ _ _ _ _ _ hn1 hn hl hP hD hS hb1 hb2)
  · exact lv_icmp_ne hx hb hd hqe (fun h9 => ht (by simp only [xcc]; exact decide_eq_true ((not_congr w32_eq).mpr h9)) _ _ _ _ _ _ hq hn hl hP hD hS hb1 hb2) (fun h9 => hf (by simp only [xcc]; exact decide_eq_false (fun z9 => (z9 (w32_eq.mpr h9)).elim)) _ _ _ _ _ _ hn1 hn hl hP hD hS hb1 hb2)
  · exact lv_icmp_lt hx hb hd hqe (fun h9 => ht (by simp only [xcc]; exact decide_eq_true (w32_lt.mpr h9)) _ _ _ _ _ _ hq hn hl hP hD hS hb1 hb2) (fun h9 => hf (by simp only [xcc]; exact decide_eq_false (fun z9 => h9 (w32_lt.mp z9))) _ _ _ _ _ _ hn1 hn hl hP hD hS hb1 hb2)
  · exact lv_icmp_ge hx hb hd hqe (fun h9 => ht (by simp only [xcc]; exact decide_eq_true (w32_le.mpr h9)) _ _ _ _ _ _ hq hn hl hP hD hS hb1 hb2) (fun h9 => hf (by simp only [xcc]; exact decide_eq_false (fun z9 => h9 (w32_le.mp z9))) _ _ _ _ _ _ hn1 hn hl hP hD hS hb1 hb2)
  · exact lv_icmp_gt hx hb hd hqe (fun h9 => ht (by simp only [xcc]; exact decide_eq_true (w32_lt.mpr h9)) _ _ _ _ _ _ hq hn hl hP hD hS hb1 hb2) (fun h9 => hf (by simp only [xcc]; exact decide_eq_false (fun z9 => h9 (w32_lt.mp z9))) _ _ _ _ _ _ hn1 hn hl hP hD hS hb1 hb2)
  · exact lv_icmp_le hx hb hd hqe (fun h9 => ht (by simp only [xcc]; exact decide_eq_true (w32_le.mpr h9)) _ _ _ _ _ _ hq hn hl hP hD hS hb1 hb2) (fun h9 => hf (by simp only [xcc]; exact decide_eq_false (fun z9 => h9 (w32_le.mp z9))) _ _ _ _ _ _ hn1 hn hl hP hD hS hb1 hb2)
theorem x_br (hx : p.tables.exec = Jvm.exec) (hb : c.code = cc) (hown : s.vm.findClass own = some m.cls) (hts : ∀ w ∈ xtg, w.before args s = true) (hK : va_K D cl tys s) (hok : ∀ (i : Nat) (x : xI), cd[i]? = some x → xok MT cl own cc nL pcs i x) (hcl : xclok cl) (hG : xGok cl G) (hca : xcaok ca tys) {t : Bool} {sk' : List xV} (hc : cd[i]? = some x) (hs : xb x sk = some (t, sk')) (ht : t = true → xP p l e R s m args below meth c Z nL pcs D cl A ρ ca G mc ms b x.2.1.toNat ls sk' h) (hf : t = false → xP p l e R s m args below meth c Z nL pcs D cl A ρ ca G mc ms b (i + 1) ls sk' h) : xP p l e R s m args below meth c Z nL pcs D cl A ρ ca G mc ms b i ls sk h := by
  unfold xb at hs
  split at hs
  · rename_i hi
    cases hs
    exact x_if hx hb hown hts hK hok hcl hG hca hc hi ht hf
  · rename_i hi
    cases hs
    exact x_icmp hx hb hown hts hK hok hcl hG hca hc hi ht hf
  · cases hs
set_option maxHeartbeats 1000000 in
theorem x_ld (hx : p.tables.exec = Jvm.exec) (hb : c.code = cc) (hown : s.vm.findClass own = some m.cls) (hts : ∀ w ∈ xtg, w.before args s = true) (hK : va_K D cl tys s) (hok : ∀ (i : Nat) (x : xI), cd[i]? = some x → xok MT cl own cc nL pcs i x) (hcl : xclok cl) (hG : xGok cl G) (hca : xcaok ca tys) {ty : FieldType} {n a : Nat} {z : Int} (hc : cd[i]? = some x) (hg : G[a]? = some (.inl (ty, n))) (hs : xld x ty = true) (h0 : 0 ≤ z) (h1 : z < n) (hk : xP p l e R s m args below meth c Z nL pcs D cl A ρ ca G mc ms b (i + 1) ls (xmk ty (h a z) :: sk) h) : xP p l e R s m args below meth c Z nL pcs D cl A ρ ca G mc ms b i ls (.inl z :: .inr (.inr a) :: sk) h := by
  intro pc lsr H locs cells slots hpc hn hl hP hD hS hb1 hb2
  obtain ⟨pc0, hpc0, ho⟩ := hok i x hc
  cases hpc0.symm.trans hpc
  obtain ⟨-, hn31⟩ := hG.2.1 _ _ hg
  obtain ⟨hin, hcl9⟩ := xidx h0 h1 hn31
  have ez : ((z.toNat : Nat) : Int) = z := Int.toNat_of_nonneg h0
  unfold xld at hs
  split at hs

  · rename_i hi
    rw [hi] at ho
    obtain ⟨hd, hn1⟩ := ho
    unfold xlnk at hn1
    rw [hi] at hn1
    obtain ⟨t0, ht0⟩ := hca .int (by simp)
    refine va_iald hx hb hK hP a t0 (xW_get hg) ht0 hin hd ?_
    have k := hk _ _ _ _ _ _ hn1 hn hl hP hD hS hb1 hb2
    simp only [List.map_cons, xmk, xc] at k
    rw [hcl9]
    simp only [ez]
    exact k
  · rename_i hi
    rw [hi] at ho
    obtain ⟨hd, hn1⟩ := ho
    unfold xlnk at hn1
    rw [hi] at hn1
    obtain ⟨t0, ht0⟩ := hca .long (by simp)
    refine va_lald hx hb hK hP a t0 (xW_get hg) ht0 hin hd ?_
    have k := hk _ _ _ _ _ _ hn1 hn hl hP hD hS hb1 hb2
    simp only [List.map_cons, xmk, xc] at k
    rw [hcl9]
    simp only [ez]
    exact k
  · rename_i hi
    rw [hi] at ho
    obtain ⟨hd, hn1⟩ := ho
    unfold xlnk at hn1
    rw [hi] at hn1
    obtain ⟨t0, ht0⟩ := hca .byte (by simp)
    refine va_bald hx hb hK hP a t0 (xW_get hg) ht0 hin hd ?_
    have k := hk _ _ _ _ _ _ hn1 hn hl hP hD hS hb1 hb2
    simp only [List.map_cons, xmk, xc] at k
    rw [hcl9]
    simp only [ez]
    exact k
  · rename_i hi
    rw [hi] at ho
    obtain ⟨hd, hn1⟩ := ho
    unfold xlnk at hn1
    rw [hi] at hn1
    obtain ⟨t0, ht0⟩ := hca .boolean (by simp)
    refine va_zald hx hb hK hP a t0 (xW_get hg) ht0 hin hd ?_
    have k := hk _ _ _ _ _ _ hn1 hn hl hP hD hS hb1 hb2
    simp only [List.map_cons, xmk, xc] at k
    rw [hcl9]
    simp only [ez]
    exact k
  · cases hs
theorem x_ald (hx : p.tables.exec = Jvm.exec) (hb : c.code = cc) (hown : s.vm.findClass own = some m.cls) (hts : ∀ w ∈ xtg, w.before args s = true) (hK : va_K D cl tys s) (hok : ∀ (i : Nat) (x : xI), cd[i]? = some x → xok MT cl own cc nL pcs i x) (hcl : xclok cl) (hG : xGok cl G) (hca : xcaok ca tys) {ids : List Nat} {a j d : Nat} {z : Int} (hc : cd[i]? = some x) (hg : G[a]? = some (.inr (.inl ids))) (hi : x.1 = .aaload) (hz : z = (j : Int)) (hj : ids[j]? = some d) (hk : xP p l e R s m args below meth c Z nL pcs D cl A ρ ca G mc ms b (i + 1) ls (.inr (.inr d) :: sk) h) : xP p l e R s m args below meth c Z nL pcs D cl A ρ ca G mc ms b i ls (.inl z :: .inr (.inr a) :: sk) h := by
  intro pc lsr H locs cells slots hpc hn hl hP hD hS hb1 hb2
  obtain ⟨pc0, hpc0, ho⟩ := hok i x hc
  cases hpc0.symm.trans hpc
  have hn31 := hG.2.2 _ _ hg
  have hlt : j < ids.length := (List.getElem?_eq_some_iff.mp hj).1
  subst hz
  obtain ⟨hin, hcl9⟩ := xidx (z := (j : Int)) (by omega) (by omega) hn31
  rw [hi] at ho
  obtain ⟨hd, hn1⟩ := ho
  unfold xlnk at hn1
  rw [hi] at hn1
  obtain ⟨t0, ht0⟩ := hca (.array .int) (by simp)
  have ha : (xWl ρ ca h G 0)[a]? = some (ρ a, .inl (ca (.array .int), ids.length, .inr (.inr (.inr (.inr (fun j => (ids[j]?).map ρ)))))) := xW_get hg
  have hlt9 : (Int32.ofInt (j : Int)).toNatClampNeg < ids.length := by rw [hcl9]; omega
  refine W.aald (v := va_rf ((ids[(Int32.ofInt (j : Int)).toNatClampNeg]?).map ρ)) (ty := .array .int) hx hb (hP a _ ha) ((hK.2 t0 _ ht0).1 ids.length (fun j => va_rf ((ids[j]?).map ρ))) rfl (fun q => by cases q) (by show ¬ (Int32.ofInt (j : Int) < 0 ∨ (arrV _ _ _).slots.size ≤ _); rw [arrV_size]; exact hin) (by show (arrV _ _ _).slots[_]? = _; rw [arrV_read _ _ hlt9]) rfl rfl hd ?_
  have k := hk _ _ _ _ _ _ hn1 hn hl hP hD hS hb1 hb2
  rw [hcl9, Int.toNat_natCast, hj]
  exact k
theorem xup_o (h : xH) (a : Nat) (j z : Int) : ∀ a', a' ≠ a → xup h a j z a' = h a' := fun a' ha => by funext j'; simp [xup, ha]
theorem xup_upd (h : xH) (a : Nat) {j : Int} (h0 : 0 ≤ j) (z : Int) : (fun q : Nat => Int32.ofInt (xup h a j z a q)) = upd (fun q : Nat => Int32.ofInt (h a q)) j.toNat (Int32.ofInt z) := by
  funext q
  by_cases e : q = j.toNat
  · have e2 : (q : Int) = j := by omega
    rw [← e]
    simp [xup, upd, e2]
  · have e2 : ¬ (q : Int) = j := by omega
    simp [xup, upd, e2, e]
theorem xup_updL (h : xH) (a : Nat) {j : Int} (h0 : 0 ≤ j) (z : Int) : (fun q : Nat => Int64.ofInt (xup h a j z a q)) = vp_updL (fun q : Nat => Int64.ofInt (h a q)) j.toNat (Int64.ofInt z) := by
  funext q
  by_cases e : q = j.toNat
  · have e2 : (q : Int) = j := by omega
    rw [← e]
    simp [xup, vp_updL, e2]
  · have e2 : ¬ (q : Int) = j := by omega
    simp [xup, vp_updL, e2, e]
theorem xnar_byte {z : Int} (h : -128 ≤ z ∧ z ≤ 127) : vp_nar .byte (Int32.ofInt z) = Int32.ofInt z := by
  rw [vp_nar_byte]
  apply Int32.toInt_inj.mp
  rw [Int8.toInt_toInt32, Int32.toInt_toInt8, Int32.toInt_ofInt]
  rw [Int.bmod_bmod_of_dvd (by decide), Int.bmod_eq_of_le (n := z) (by omega) (by omega), Int.bmod_eq_of_le (n := z) (by simp only [Int32.size]; omega) (by simp only [Int32.size]; omega)]
theorem xnar_bool {z : Int} (h : z = 0 ∨ z = 1) : vp_nar .boolean (Int32.ofInt z) = Int32.ofInt z := by
  rcases h with rfl | rfl <;> rfl
set_option maxHeartbeats 2000000 in
theorem x_sd (hx : p.tables.exec = Jvm.exec) (hb : c.code = cc) (hown : s.vm.findClass own = some m.cls) (hts : ∀ w ∈ xtg, w.before args s = true) (hK : va_K D cl tys s) (hok : ∀ (i : Nat) (x : xI), cd[i]? = some x → xok MT cl own cc nL pcs i x) (hcl : xclok cl) (hG : xGok cl G) (hca : xcaok ca tys) {ty : FieldType} {n a : Nat} {z y : Int} (hc : cd[i]? = some x) (hg : G[a]? = some (.inl (ty, n))) (hs : xsd x ty = true) (h0 : 0 ≤ z) (h1 : z < n) (hr : xrng ty y) (hk : xP p l e R s m args below meth c Z nL pcs D cl A ρ ca G mc ms b (i + 1) ls sk (xup h a z y)) : xP p l e R s m args below meth c Z nL pcs D cl A ρ ca G mc ms b i ls (xmk ty y :: .inl z :: .inr (.inr a) :: sk) h := by
  intro pc lsr H locs cells slots hpc hn hl hP hD hS hb1 hb2
  obtain ⟨pc0, hpc0, ho⟩ := hok i x hc
  cases hpc0.symm.trans hpc
  obtain ⟨-, hn31⟩ := hG.2.1 _ _ hg
  obtain ⟨hin, hcl9⟩ := xidx h0 h1 hn31
  unfold xsd at hs
  split at hs

  · rename_i hi
    rw [hi] at ho
    obtain ⟨hd, hn1⟩ := ho
    unfold xlnk at hn1
    rw [hi] at hn1
    obtain ⟨t0, ht0⟩ := hca .int (by simp)
    refine va_iast hx hb hK hP hD hS a t0 (xW_get hg) ht0 hin hd (fun H1 locs1 hP1 hD1 hS1 => ?_)
    · rw [hcl9, ← xup_upd h a h0 y] at hP1 hD1
      have e9 := xW_set (ρ := ρ) (ca := ca) (h' := xup h a z y) hg (xup_o h a z y) rfl
      exact hk _ _ _ _ _ _ hn1 hn hl (by rw [← e9]; exact hP1) (by rw [← e9]; exact hD1) hS1 hb1 hb2
  · rename_i hi
    rw [hi] at ho
    obtain ⟨hd, hn1⟩ := ho
    unfold xlnk at hn1
    rw [hi] at hn1
    obtain ⟨t0, ht0⟩ := hca .long (by simp)
    refine va_last hx hb hK hP hD hS a t0 (xW_get hg) ht0 hin hd (fun H1 locs1 hP1 hD1 hS1 => ?_)
    · rw [hcl9, ← xup_updL h a h0 y] at hP1 hD1
      have e9 := xW_set (ρ := ρ) (ca := ca) (h' := xup h a z y) hg (xup_o h a z y) rfl
      exact hk _ _ _ _ _ _ hn1 hn hl (by rw [← e9]; exact hP1) (by rw [← e9]; exact hD1) hS1 hb1 hb2
  · rename_i hi
    rw [hi] at ho
    obtain ⟨hd, hn1⟩ := ho
    unfold xlnk at hn1
    rw [hi] at hn1
    obtain ⟨t0, ht0⟩ := hca .byte (by simp)
    refine va_bast hx hb hK hP hD hS a t0 (xW_get hg) ht0 hin hd (fun H1 locs1 hP1 hD1 hS1 => ?_)
    · rw [xnar_byte hr] at hP1 hD1
      rw [hcl9, ← xup_upd h a h0 y] at hP1 hD1
      have e9 := xW_set (ρ := ρ) (ca := ca) (h' := xup h a z y) hg (xup_o h a z y) rfl
      exact hk _ _ _ _ _ _ hn1 hn hl (by rw [← e9]; exact hP1) (by rw [← e9]; exact hD1) hS1 hb1 hb2
  · rename_i hi
    rw [hi] at ho
    obtain ⟨hd, hn1⟩ := ho
    unfold xlnk at hn1
    rw [hi] at hn1
    obtain ⟨t0, ht0⟩ := hca .boolean (by simp)
    refine va_zast hx hb hK hP hD hS a t0 (xW_get hg) ht0 hin hd (fun H1 locs1 hP1 hD1 hS1 => ?_)
    · rw [xnar_bool hr] at hP1 hD1
      rw [hcl9, ← xup_upd h a h0 y] at hP1 hD1
      have e9 := xW_set (ρ := ρ) (ca := ca) (h' := xup h a z y) hg (xup_o h a z y) rfl
      exact hk _ _ _ _ _ _ hn1 hn hl (by rw [← e9]; exact hP1) (by rw [← e9]; exact hD1) hS1 hb1 hb2
  · cases hs
theorem x_div (hx : p.tables.exec = Jvm.exec) (hb : c.code = cc) (hown : s.vm.findClass own = some m.cls) (hts : ∀ w ∈ xtg, w.before args s = true) (hK : va_K D cl tys s) (hok : ∀ (i : Nat) (x : xI), cd[i]? = some x → xok MT cl own cc nL pcs i x) (hcl : xclok cl) (hG : xGok cl G) (hca : xcaok ca tys) {y z : Int} (hc : cd[i]? = some x) (hi : x.1 = .idiv) (h0 : w32 y ≠ 0) (hk : xP p l e R s m args below meth c Z nL pcs D cl A ρ ca G mc ms b (i + 1) ls (.inl (xdiv z y) :: sk) h) : xP p l e R s m args below meth c Z nL pcs D cl A ρ ca G mc ms b i ls (.inl y :: .inl z :: sk) h := by
  intro pc lsr H locs cells slots hpc hn hl hP hD hS hb1 hb2
  obtain ⟨pc0, hpc0, ho⟩ := hok i x hc
  cases hpc0.symm.trans hpc
  rw [hi] at ho
  obtain ⟨hd, hn1⟩ := ho
  unfold xlnk at hn1
  rw [hi] at hn1
  have k := hk _ _ _ _ _ _ hn1 hn hl hP hD hS hb1 hb2
  simp only [List.map_cons, xc, xdiv, Int32.ofInt_toInt] at k
  exact lv_idiv hx hb hd (fun z9 => h0 (by unfold w32; rw [z9]; rfl)) k
theorem x_rem (hx : p.tables.exec = Jvm.exec) (hb : c.code = cc) (hown : s.vm.findClass own = some m.cls) (hts : ∀ w ∈ xtg, w.before args s = true) (hK : va_K D cl tys s) (hok : ∀ (i : Nat) (x : xI), cd[i]? = some x → xok MT cl own cc nL pcs i x) (hcl : xclok cl) (hG : xGok cl G) (hca : xcaok ca tys) {y z : Int} (hc : cd[i]? = some x) (hi : x.1 = .irem) (h0 : w32 y ≠ 0) (hk : xP p l e R s m args below meth c Z nL pcs D cl A ρ ca G mc ms b (i + 1) ls (.inl (xrem z y) :: sk) h) : xP p l e R s m args below meth c Z nL pcs D cl A ρ ca G mc ms b i ls (.inl y :: .inl z :: sk) h := by
  intro pc lsr H locs cells slots hpc hn hl hP hD hS hb1 hb2
  obtain ⟨pc0, hpc0, ho⟩ := hok i x hc
  cases hpc0.symm.trans hpc
  rw [hi] at ho
  obtain ⟨hd, hn1⟩ := ho
  unfold xlnk at hn1
  rw [hi] at hn1
  have k := hk _ _ _ _ _ _ hn1 hn hl hP hD hS hb1 hb2
  simp only [List.map_cons, xc, xrem, Int32.ofInt_toInt] at k
  exact lv_irem hx hb hd (fun z9 => h0 (by unfold w32; rw [z9]; rfl)) k
theorem x_pz (hx : p.tables.exec = Jvm.exec) (hb : c.code = cc) (hown : s.vm.findClass own = some m.cls) (hts : ∀ w ∈ xtg, w.before args s = true) (hK : va_K D cl tys s) (hok : ∀ (i : Nat) (x : xI), cd[i]? = some x → xok MT cl own cc nL pcs i x) (hcl : xclok cl) (hG : xGok cl G) (hca : xcaok ca tys) {a k : Nat} {z : Int} {fi : Nat} (hc : cd[i]? = some x) (hi : x.1 = .putfield fi) (hfl : xfld G a x.2.2.1 = some (k, .inl .boolean)) (hz : z = 0 ∨ z = 1) (hk : xP p l e R s m args below meth c Z nL pcs D cl A ρ ca G mc ms b (i + 1) ls sk (xup h a k z)) : xP p l e R s m args below meth c Z nL pcs D cl A ρ ca G mc ms b i ls (.inl z :: .inr (.inr a) :: sk) h := by
  intro pc lsr H locs cells slots hpc hn hl hP hD hS hb1 hb2
  obtain ⟨pc0, hpc0, ho⟩ := hok i x hc
  cases hpc0.symm.trans hpc
  rw [hi] at ho
  obtain ⟨hd, hn1⟩ := ho
  unfold xlnk at hn1
  rw [hi] at hn1
  obtain ⟨hf, hn1⟩ := hn1
  obtain ⟨c0, fs, hg, hmem, hfs⟩ := xfld_some hfl
  obtain ⟨r, ref, hr, hkN, hlink, hsame, hfin⟩ := hf _ hmem
  obtain ⟨hin, hnm, ty0, hty⟩ := hcl _ _ hr
  obtain ⟨r', hr', hlen, hpt⟩ := hG.1 _ _ _ hg
  cases hr.symm.trans hr'
  have ho1 : ∀ j : Int, j ≠ (k : Int) → xup h a k z a j = h a j := fun j hj => by simp [xup, hj]
  have hv1 : xup h a k z a (k : Int) = z := by simp [xup]
  refine va_put (C := r.1) (T := r.2.1) (N := r.2.2) (ref := ref) (v := xc ρ (xmk .boolean (xup h a k z a k))) (ty := .boolean) hx hb hts hin ty0 hty hnm hown hK hP hD hS a (xW_get hg) hr k hkN (hts _ hlink) (fun x9 h9 => hsame.elim (fun e9 => by rw [e9]; exact h9) (fun hsm => u_same (hts _ hsm) x9 h9)) (hfin rfl) (hpt k .boolean hfs) (by rw [hv1]; rcases hz with rfl | rfl <;> rfl) (by rw [hv1]; rcases hz with rfl | rfl <;> rfl) (by rw [xF_len, hlen]; exact hkN) hd (fun H1 locs1 hP1 hD1 hS1 => ?_) |> cast (by rw [hv1]; rfl)
  have e1 : (xWl ρ ca h G 0).set a (ρ a, .inr (c0, (xF ρ (h a) fs 0).set k (xc ρ (xmk .boolean (xup h a k z a k))))) = xWl ρ ca (xup h a k z) G 0 := xW_set hg (fun a' ha' => by funext j; simp [xup, ha']) (by show (Sum.inr (c0, xF ρ (xup h a k z a) fs 0) : va_E) = _; rw [xF_set hfs ho1])
  rw [e1] at hP1 hD1
  exact hk _ _ _ _ _ _ hn1 hn hl hP1 hD1 hS1 hb1 hb2
end XRULES
