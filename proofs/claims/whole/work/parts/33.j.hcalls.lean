/-! helpers' calls -/
def xFx (l : Launch) (D : va_G) (tys : List (ClassId × FieldType)) (ρ : Nat → Nat) (ca : FieldType → ClassId) (sz0 : Nat) (ST : State → Prop) : Prop := xcaok ca tys ∧ xSTok sz0 ST ∧ xDec ST ∧ xTW l sz0 ST ∧ (∀ h : xH, va_D (xA sz0) (xWl ρ ca h G0 0)) ∧ (∀ s : State, ST s → xStr ρ sz0 s) ∧ ∀ s : State, ST s → xNcs s
def xHW (l : Launch) (D : va_G) (tys : List (ClassId × FieldType)) (ρ : Nat → Nat) (ca : FieldType → ClassId) (sz0 : Nat) (ST : State → Prop) (d k hn : Nat) : Prop := ∀ (p : Program) (e : Env) (R : Room) (s : State) (m : MethodId) (args : Array Value) (below : List Frame) (meth : Method) (c : Code) (Z : State → Prop) (cl9 : ByteArray) (n9 mc ms : Nat), p.tables.exec = Jvm.exec → c.code = cl9 → s.vm.findClass RL = some m.cls → (∀ w ∈ xtg, w.before args s = true) → va_K D vcl tys s → c.maxLocals = n9 → sz0 ≤ s.heap.size → ST s → d + 10 ≤ R.frames → 60 * d + 320 ≤ R.locals → mc ≤ R.cells → ms ≤ R.slots →
  ∀ (b1 : Nat) (as : List xV) (h : xH) (Q' : Int → xH → Prop), xHl HT d b1 hn as h Q' → ∀ (pc : Nat) (lsr : Array Slot) (H : Heap) (locs : List Loc) (cells slots : Nat) (rest : List Value), decode cl9 pc = .ok (.invokestatic k, 3) → lsr.size = n9 → va_P D vcl (xWl ρ ca h G0 0) H → va_S (xA sz0) s.heap H locs → (rest.map fun v => v.category).sum ≤ 8 → cells + b1 ≤ mc → slots + 6 * b1 ≤ ms → (∀ (v : Int) (h' : xH) (H1 : Heap) (locs1 : List Loc), Q' v h' → va_P D vcl (xWl ρ ca h' G0 0) H1 → va_S (xA sz0) s.heap H1 locs1 → W p l e R s m args below meth c H1 locs1 (cells + b1) (slots + 6 * b1) Z (F0 m (pc + 3) lsr (.int (Int32.ofInt v) :: rest))) → W p l e R s m args below meth c H locs cells slots Z (F0 m pc lsr ((as.map (xc ρ)).reverse ++ rest))
section XHALL
variable {l : Launch} {D : va_G} {tys : List (ClassId × FieldType)} {ρ : Nat → Nat} {ca : FieldType → ClassId} {sz0 : Nat} {ST : State → Prop} {d : Nat}
theorem hW_many (F : xFx l D tys ρ ca sz0 ST) : xHW l D tys ρ ca sz0 ST d 137 0 := by
  obtain ⟨hca, hST, hdec, hthr, hDD, hstr, hnc⟩ := F
  intro p e R s m args below meth c Z cl9 n9 mc ms hx hb hown hts hK hml hsz hs0 hRf hRl hRc hRs b1 as h Q' hh pc lsr H locs cells slots rest hd9 hls hP hS hw hc1 hc2 kk
  obtain ⟨T, zs, hT, hz, rfl, hr⟩ := hh
  obtain rfl : (97, ["java/lang/IllegalArgumentException"], 1, false) = T := Option.some.inj hT
  obtain ⟨z0, rfl⟩ := zl1 hz
  exact xH_call (n := 3) hx hb hown hts hK hml hsz hs0 hST hRf hRl hRc hRs (xH_met hca hST hdec hthr hDD hstr hnc (by decide) rfl ok_L_many rfl (xHok1 (j := 8) (ci := 4) (pc := 4) rfl rfl ⟨by decide, by decide⟩ (by decide) tL_1118 (by decide)) (Nat.le_of_ble_eq_true rfl) (fun P hP => hw_many hz hr P hP)) tL_1117 tL_1115 tL_1116 tL_79 ⟨by decide, by decide⟩ (by decide +kernel) rfl (by decide) hd9 hls hP hS hw hc1 hc2 kk
theorem hW_example (F : xFx l D tys ρ ca sz0 ST) : xHW l D tys ρ ca sz0 ST d 146 1 := by
  obtain ⟨hca, hST, hdec, hthr, hDD, hstr, hnc⟩ := F
  intro p e R s m args below meth c Z cl9 n9 mc ms hx hb hown hts hK hml hsz hs0 hRf hRl hRc hRs b1 as h Q' hh pc lsr H locs cells slots rest hd9 hls hP hS hw hc1 hc2 kk
  obtain ⟨T, zs, hT, hz, rfl, hr⟩ := hh
  obtain rfl : (98, ["java/lang/IllegalArgumentException", "java/lang/IllegalStateException"], 4, false) = T := Option.some.inj hT
  obtain ⟨z0, z1, z2, z3, rfl⟩ := zl4 hz
  exact xH_call (n := 6) hx hb hown hts hK hml hsz hs0 hST hRf hRl hRc hRs (xH_met hca hST hdec hthr hDD hstr hnc (by decide) rfl ok_L_example rfl (xHok2 (j := 11) (j2 := 14) (ci := 7) (pc := 9) rfl rfl rfl ⟨by decide, by decide⟩ (by decide) (by decide) tL_1118 tL_1129 (by decide) (by decide) (by decide)) (Nat.le_of_ble_eq_true rfl) (fun P hP => hw_example hz hr P hP)) tL_1128 tL_1126 tL_1127 tL_79 ⟨by decide, by decide⟩ (by decide +kernel) rfl (by decide) hd9 hls hP hS hw hc1 hc2 kk
theorem hW_drop (F : xFx l D tys ρ ca sz0 ST) : xHW l D tys ρ ca sz0 ST d 150 2 := by
  obtain ⟨hca, hST, hdec, hthr, hDD, hstr, hnc⟩ := F
  intro p e R s m args below meth c Z cl9 n9 mc ms hx hb hown hts hK hml hsz hs0 hRf hRl hRc hRs b1 as h Q' hh pc lsr H locs cells slots rest hd9 hls hP hS hw hc1 hc2 kk
  obtain ⟨T, zs, hT, hz, rfl, hr⟩ := hh
  obtain rfl : (99, ["java/util/NoSuchElementException"], 1, false) = T := Option.some.inj hT
  obtain ⟨z0, rfl⟩ := zl1 hz
  exact xH_call (n := 3) hx hb hown hts hK hml hsz hs0 hST hRf hRl hRc hRs (xH_met hca hST hdec hthr hDD hstr hnc (by decide) rfl ok_L_drop rfl (xHok1 (j := 8) (ci := 4) (pc := 4) rfl rfl ⟨by decide, by decide⟩ (by decide) tL_1171 (by decide)) (Nat.le_of_ble_eq_true rfl) (fun P hP => hw_drop hz hr P hP)) tL_1170 tL_1168 tL_1169 tL_79 ⟨by decide, by decide⟩ (by decide +kernel) rfl (by decide) hd9 hls hP hS hw hc1 hc2 kk
theorem hW_part (F : xFx l D tys ρ ca sz0 ST) : xHW l D tys ρ ca sz0 ST d 153 3 := by
  obtain ⟨hca, hST, hdec, hthr, hDD, hstr, hnc⟩ := F
  intro p e R s m args below meth c Z cl9 n9 mc ms hx hb hown hts hK hml hsz hs0 hRf hRl hRc hRs b1 as h Q' hh pc lsr H locs cells slots rest hd9 hls hP hS hw hc1 hc2 kk
  obtain ⟨T, zs, hT, hz, rfl, hr⟩ := hh
  obtain rfl : (100, ["java/lang/IllegalArgumentException"], 2, true) = T := Option.some.inj hT
  obtain ⟨z0, z1, rfl⟩ := zl2 hz
  exact xH_call (n := 4) hx hb hown hts hK hml hsz hs0 hST hRf hRl hRc hRs (xH_met hca hST hdec hthr hDD hstr hnc (by decide) rfl ok_L_part rfl (xHok1 (j := 12) (ci := 5) (pc := 5) rfl rfl ⟨by decide, by decide⟩ (by decide) tL_1118 (by decide)) (Nat.le_of_ble_eq_true rfl) (fun P hP => hw_part hz hr P hP)) tL_1203 tL_1201 tL_1202 tL_79 ⟨by decide, by decide⟩ (by decide +kernel) rfl (by decide) hd9 hls hP hS hw hc1 hc2 kk
theorem hW_constant (F : xFx l D tys ρ ca sz0 ST) : xHW l D tys ρ ca sz0 ST d 157 4 := by
  obtain ⟨hca, hST, hdec, hthr, hDD, hstr, hnc⟩ := F
  intro p e R s m args below meth c Z cl9 n9 mc ms hx hb hown hts hK hml hsz hs0 hRf hRl hRc hRs b1 as h Q' hh pc lsr H locs cells slots rest hd9 hls hP hS hw hc1 hc2 kk
  obtain ⟨T, zs, hT, hz, rfl, hr⟩ := hh
  obtain rfl : (101, ["java/lang/IllegalArgumentException", "java/lang/IllegalStateException"], 1, true) = T := Option.some.inj hT
  obtain ⟨z0, rfl⟩ := zl1 hz
  exact xH_call (n := 3) hx hb hown hts hK hml hsz hs0 hST hRf hRl hRc hRs (xH_met hca hST hdec hthr hDD hstr hnc (by decide) rfl ok_L_constant rfl (xHok2 (j := 11) (j2 := 14) (ci := 4) (pc := 4) rfl rfl rfl ⟨by decide, by decide⟩ (by decide) (by decide) tL_1118 tL_1129 (by decide) (by decide) (by decide)) (Nat.le_of_ble_eq_true rfl) (fun P hP => hw_constant hz hr P hP)) tL_1215 tL_1213 tL_1214 tL_79 ⟨by decide, by decide⟩ (by decide +kernel) rfl (by decide) hd9 hls hP hS hw hc1 hc2 kk
theorem hW_budget (F : xFx l D tys ρ ca sz0 ST) : xHW l D tys ρ ca sz0 ST d 164 5 := by
  obtain ⟨hca, hST, hdec, hthr, hDD, hstr, hnc⟩ := F
  intro p e R s m args below meth c Z cl9 n9 mc ms hx hb hown hts hK hml hsz hs0 hRf hRl hRc hRs b1 as h Q' hh pc lsr H locs cells slots rest hd9 hls hP hS hw hc1 hc2 kk
  obtain ⟨T, zs, hT, hz, rfl, hr⟩ := hh
  obtain rfl : (103, ["java/lang/IllegalArgumentException"], 1, false) = T := Option.some.inj hT
  obtain ⟨z0, rfl⟩ := zl1 hz
  exact xH_call (n := 3) hx hb hown hts hK hml hsz hs0 hST hRf hRl hRc hRs (xH_met hca hST hdec hthr hDD hstr hnc (by decide) rfl ok_L_budget rfl (xHok1 (j := 8) (ci := 4) (pc := 4) rfl rfl ⟨by decide, by decide⟩ (by decide) tL_1118 (by decide)) (Nat.le_of_ble_eq_true rfl) (fun P hP => hw_budget hz hr P hP)) tL_1228 tL_1226 tL_1227 tL_79 ⟨by decide, by decide⟩ (by decide +kernel) rfl (by decide) hd9 hls hP hS hw hc1 hc2 kk
theorem hW_grown (F : xFx l D tys ρ ca sz0 ST) : xHW l D tys ρ ca sz0 ST d 172 6 := by
  obtain ⟨hca, hST, hdec, hthr, hDD, hstr, hnc⟩ := F
  intro p e R s m args below meth c Z cl9 n9 mc ms hx hb hown hts hK hml hsz hs0 hRf hRl hRc hRs b1 as h Q' hh pc lsr H locs cells slots rest hd9 hls hP hS hw hc1 hc2 kk
  obtain ⟨T, zs, hT, hz, rfl, hr⟩ := hh
  obtain rfl : (105, ["java/util/NoSuchElementException"], 2, false) = T := Option.some.inj hT
  obtain ⟨z0, z1, rfl⟩ := zl2 hz
  exact xH_call (n := 4) hx hb hown hts hK hml hsz hs0 hST hRf hRl hRc hRs (xH_met hca hST hdec hthr hDD hstr hnc (by decide) rfl ok_L_grown rfl (xHok1 (j := 9) (ci := 5) (pc := 5) rfl rfl ⟨by decide, by decide⟩ (by decide) tL_1171 (by decide)) (Nat.le_of_ble_eq_true rfl) (fun P hP => hw_grown hz hr P hP)) tL_1236 tL_1234 tL_1235 tL_79 ⟨by decide, by decide⟩ (by decide +kernel) rfl (by decide) hd9 hls hP hS hw hc1 hc2 kk
theorem hW_kept (F : xFx l D tys ρ ca sz0 ST) : xHW l D tys ρ ca sz0 ST d 176 7 := by
  obtain ⟨hca, hST, hdec, hthr, hDD, hstr, hnc⟩ := F
  intro p e R s m args below meth c Z cl9 n9 mc ms hx hb hown hts hK hml hsz hs0 hRf hRl hRc hRs b1 as h Q' hh pc lsr H locs cells slots rest hd9 hls hP hS hw hc1 hc2 kk
  obtain ⟨T, zs, hT, hz, rfl, hr⟩ := hh
  obtain rfl : (106, ["java/util/NoSuchElementException"], 3, false) = T := Option.some.inj hT
  obtain ⟨z0, z1, z2, rfl⟩ := zl3 hz
  exact xH_call (n := 5) hx hb hown hts hK hml hsz hs0 hST hRf hRl hRc hRs (xH_met hca hST hdec hthr hDD hstr hnc (by decide) rfl ok_L_kept rfl (xHok1 (j := 10) (ci := 6) (pc := 7) rfl rfl ⟨by decide, by decide⟩ (by decide) tL_1171 (by decide)) (Nat.le_of_ble_eq_true rfl) (fun P hP => hw_kept hz hr P hP)) tL_1244 tL_1242 tL_1243 tL_79 ⟨by decide, by decide⟩ (by decide +kernel) rfl (by decide) hd9 hls hP hS hw hc1 hc2 kk
theorem hW_output (F : xFx l D tys ρ ca sz0 ST) : xHW l D tys ρ ca sz0 ST d 180 8 := by
  obtain ⟨hca, hST, hdec, hthr, hDD, hstr, hnc⟩ := F
  intro p e R s m args below meth c Z cl9 n9 mc ms hx hb hown hts hK hml hsz hs0 hRf hRl hRc hRs b1 as h Q' hh pc lsr H locs cells slots rest hd9 hls hP hS hw hc1 hc2 kk
  obtain ⟨T, zs, hT, hz, rfl, hr⟩ := hh
  obtain rfl : (107, ["java/util/NoSuchElementException"], 3, false) = T := Option.some.inj hT
  obtain ⟨z0, z1, z2, rfl⟩ := zl3 hz
  exact xH_call (n := 5) hx hb hown hts hK hml hsz hs0 hST hRf hRl hRc hRs (xH_met hca hST hdec hthr hDD hstr hnc (by decide) rfl ok_L_output rfl (xHok1 (j := 10) (ci := 6) (pc := 7) rfl rfl ⟨by decide, by decide⟩ (by decide) tL_1171 (by decide)) (Nat.le_of_ble_eq_true rfl) (fun P hP => hw_output hz hr P hP)) tL_1261 tL_1259 tL_1260 tL_79 ⟨by decide, by decide⟩ (by decide +kernel) rfl (by decide) hd9 hls hP hS hw hc1 hc2 kk
theorem hW_value (F : xFx l D tys ρ ca sz0 ST) : xHW l D tys ρ ca sz0 ST d 183 9 := by
  obtain ⟨hca, hST, hdec, hthr, hDD, hstr, hnc⟩ := F
  intro p e R s m args below meth c Z cl9 n9 mc ms hx hb hown hts hK hml hsz hs0 hRf hRl hRc hRs b1 as h Q' hh pc lsr H locs cells slots rest hd9 hls hP hS hw hc1 hc2 kk
  obtain ⟨T, zs, hT, hz, rfl, hr⟩ := hh
  obtain rfl : (108, ["java/util/NoSuchElementException", "java/lang/IllegalArgumentException"], 5, false) = T := Option.some.inj hT
  obtain ⟨z0, z1, z2, z3, z4, rfl⟩ := zl5 hz
  exact xH_call (n := 7) hx hb hown hts hK hml hsz hs0 hST hRf hRl hRc hRs (xH_met hca hST hdec hthr hDD hstr hnc (by decide) rfl ok_L_value rfl (xHok2 (j := 12) (j2 := 15) (ci := 8) (pc := 11) rfl rfl rfl ⟨by decide, by decide⟩ (by decide) (by decide) tL_1171 tL_1118 (by decide) (by decide) (by decide)) (Nat.le_of_ble_eq_true rfl) (fun P hP => hw_value hz hr P hP)) tL_1275 tL_1273 tL_1274 tL_79 ⟨by decide, by decide⟩ (by decide +kernel) rfl (by decide) hd9 hls hP hS hw hc1 hc2 kk
theorem hW_write (F : xFx l D tys ρ ca sz0 ST) : xHW l D tys ρ ca sz0 ST d 187 10 := by
  obtain ⟨hca, hST, hdec, hthr, hDD, hstr, hnc⟩ := F
  intro p e R s m args below meth c Z cl9 n9 mc ms hx hb hown hts hK hml hsz hs0 hRf hRl hRc hRs b1 as h Q' hh pc lsr H locs cells slots rest hd9 hls hP hS hw hc1 hc2 kk
  obtain ⟨T, zs, hT, hz, rfl, hr⟩ := hh
  obtain rfl : (109, ["java/util/NoSuchElementException"], 2, false) = T := Option.some.inj hT
  obtain ⟨z0, z1, rfl⟩ := zl2 hz
  exact xH_call (n := 4) hx hb hown hts hK hml hsz hs0 hST hRf hRl hRc hRs (xH_met hca hST hdec hthr hDD hstr hnc (by decide) rfl ok_L_write rfl (xHok1 (j := 9) (ci := 5) (pc := 5) rfl rfl ⟨by decide, by decide⟩ (by decide) tL_1171 (by decide)) (Nat.le_of_ble_eq_true rfl) (fun P hP => hw_write hz hr P hP)) tL_1307 tL_1305 tL_1306 tL_79 ⟨by decide, by decide⟩ (by decide +kernel) rfl (by decide) hd9 hls hP hS hw hc1 hc2 kk
theorem hW_testOf (F : xFx l D tys ρ ca sz0 ST) : xHW l D tys ρ ca sz0 ST d 194 11 := by
  obtain ⟨hca, hST, hdec, hthr, hDD, hstr, hnc⟩ := F
  intro p e R s m args below meth c Z cl9 n9 mc ms hx hb hown hts hK hml hsz hs0 hRf hRl hRc hRs b1 as h Q' hh pc lsr H locs cells slots rest hd9 hls hP hS hw hc1 hc2 kk
  obtain ⟨T, zs, hT, hz, rfl, hr⟩ := hh
  obtain rfl : (111, ["java/lang/IllegalArgumentException"], 1, false) = T := Option.some.inj hT
  obtain ⟨z0, rfl⟩ := zl1 hz
  exact xH_call (n := 3) hx hb hown hts hK hml hsz hs0 hST hRf hRl hRc hRs (xH_met hca hST hdec hthr hDD hstr hnc (by decide) rfl ok_L_testOf rfl (xHok1 (j := 8) (ci := 4) (pc := 4) rfl rfl ⟨by decide, by decide⟩ (by decide) tL_1118 (by decide)) (Nat.le_of_ble_eq_true rfl) (fun P hP => hw_testOf hz hr P hP)) tL_1394 tL_1392 tL_1393 tL_79 ⟨by decide, by decide⟩ (by decide +kernel) rfl (by decide) hd9 hls hP hS hw hc1 hc2 kk
theorem hW_joins (F : xFx l D tys ρ ca sz0 ST) : xHW l D tys ρ ca sz0 ST d 197 12 := by
  obtain ⟨hca, hST, hdec, hthr, hDD, hstr, hnc⟩ := F
  intro p e R s m args below meth c Z cl9 n9 mc ms hx hb hown hts hK hml hsz hs0 hRf hRl hRc hRs b1 as h Q' hh pc lsr H locs cells slots rest hd9 hls hP hS hw hc1 hc2 kk
  obtain ⟨T, zs, hT, hz, rfl, hr⟩ := hh
  obtain rfl : (112, ["java/lang/IllegalArgumentException", "java/util/NoSuchElementException"], 3, false) = T := Option.some.inj hT
  obtain ⟨z0, z1, z2, rfl⟩ := zl3 hz
  exact xH_call (n := 5) hx hb hown hts hK hml hsz hs0 hST hRf hRl hRc hRs (xH_met hca hST hdec hthr hDD hstr hnc (by decide) rfl ok_L_joins rfl (xHok2 (j := 10) (j2 := 13) (ci := 6) (pc := 7) rfl rfl rfl ⟨by decide, by decide⟩ (by decide) (by decide) tL_1118 tL_1171 (by decide) (by decide) (by decide)) (Nat.le_of_ble_eq_true rfl) (fun P hP => hw_joins hz hr P hP)) tL_1406 tL_1404 tL_1405 tL_79 ⟨by decide, by decide⟩ (by decide +kernel) rfl (by decide) hd9 hls hP hS hw hc1 hc2 kk
theorem hW_unlike (F : xFx l D tys ρ ca sz0 ST) : xHW l D tys ρ ca sz0 ST d 205 13 := by
  obtain ⟨hca, hST, hdec, hthr, hDD, hstr, hnc⟩ := F
  intro p e R s m args below meth c Z cl9 n9 mc ms hx hb hown hts hK hml hsz hs0 hRf hRl hRc hRs b1 as h Q' hh pc lsr H locs cells slots rest hd9 hls hP hS hw hc1 hc2 kk
  obtain ⟨T, zs, hT, hz, rfl, hr⟩ := hh
  obtain rfl : (114, ["java/util/NoSuchElementException"], 3, false) = T := Option.some.inj hT
  obtain ⟨z0, z1, z2, rfl⟩ := zl3 hz
  exact xH_call (n := 5) hx hb hown hts hK hml hsz hs0 hST hRf hRl hRc hRs (xH_met hca hST hdec hthr hDD hstr hnc (by decide) rfl ok_L_unlike rfl (xHok1 (j := 10) (ci := 6) (pc := 7) rfl rfl ⟨by decide, by decide⟩ (by decide) tL_1171 (by decide)) (Nat.le_of_ble_eq_true rfl) (fun P hP => hw_unlike hz hr P hP)) tL_1416 tL_1414 tL_1415 tL_79 ⟨by decide, by decide⟩ (by decide +kernel) rfl (by decide) hd9 hls hP hS hw hc1 hc2 kk
theorem hW_uses (F : xFx l D tys ρ ca sz0 ST) : xHW l D tys ρ ca sz0 ST d 208 14 := by
  obtain ⟨hca, hST, hdec, hthr, hDD, hstr, hnc⟩ := F
  intro p e R s m args below meth c Z cl9 n9 mc ms hx hb hown hts hK hml hsz hs0 hRf hRl hRc hRs b1 as h Q' hh pc lsr H locs cells slots rest hd9 hls hP hS hw hc1 hc2 kk
  obtain ⟨T, zs, hT, hz, rfl, hr⟩ := hh
  obtain rfl : (115, ["java/util/NoSuchElementException", "java/lang/IllegalArgumentException"], 3, false) = T := Option.some.inj hT
  obtain ⟨z0, z1, z2, rfl⟩ := zl3 hz
  exact xH_call (n := 5) hx hb hown hts hK hml hsz hs0 hST hRf hRl hRc hRs (xH_met hca hST hdec hthr hDD hstr hnc (by decide) rfl ok_L_uses rfl (xHok2 (j := 10) (j2 := 13) (ci := 6) (pc := 7) rfl rfl rfl ⟨by decide, by decide⟩ (by decide) (by decide) tL_1171 tL_1118 (by decide) (by decide) (by decide)) (Nat.le_of_ble_eq_true rfl) (fun P hP => hw_uses hz hr P hP)) tL_1423 tL_1421 tL_1422 tL_79 ⟨by decide, by decide⟩ (by decide +kernel) rfl (by decide) hd9 hls hP hS hw hc1 hc2 kk
theorem hW_far (F : xFx l D tys ρ ca sz0 ST) : xHW l D tys ρ ca sz0 ST d 211 15 := by
  obtain ⟨hca, hST, hdec, hthr, hDD, hstr, hnc⟩ := F
  intro p e R s m args below meth c Z cl9 n9 mc ms hx hb hown hts hK hml hsz hs0 hRf hRl hRc hRs b1 as h Q' hh pc lsr H locs cells slots rest hd9 hls hP hS hw hc1 hc2 kk
  obtain ⟨T, zs, hT, hz, rfl, hr⟩ := hh
  obtain rfl : (116, ["java/util/NoSuchElementException"], 1, false) = T := Option.some.inj hT
  obtain ⟨z0, rfl⟩ := zl1 hz
  exact xH_call (n := 3) hx hb hown hts hK hml hsz hs0 hST hRf hRl hRc hRs (xH_met hca hST hdec hthr hDD hstr hnc (by decide) rfl ok_L_far rfl (xHok1 (j := 8) (ci := 4) (pc := 4) rfl rfl ⟨by decide, by decide⟩ (by decide) tL_1171 (by decide)) (Nat.le_of_ble_eq_true rfl) (fun P hP => hw_far hz hr P hP)) tL_1431 tL_1429 tL_1430 tL_79 ⟨by decide, by decide⟩ (by decide +kernel) rfl (by decide) hd9 hls hP hS hw hc1 hc2 kk
theorem hW_writeMerged (F : xFx l D tys ρ ca sz0 ST) : xHW l D tys ρ ca sz0 ST d 218 16 := by
  obtain ⟨hca, hST, hdec, hthr, hDD, hstr, hnc⟩ := F
  intro p e R s m args below meth c Z cl9 n9 mc ms hx hb hown hts hK hml hsz hs0 hRf hRl hRc hRs b1 as h Q' hh pc lsr H locs cells slots rest hd9 hls hP hS hw hc1 hc2 kk
  obtain ⟨T, zs, hT, hz, rfl, hr⟩ := hh
  obtain rfl : (118, ["java/util/NoSuchElementException"], 2, false) = T := Option.some.inj hT
  obtain ⟨z0, z1, rfl⟩ := zl2 hz
  exact xH_call (n := 4) hx hb hown hts hK hml hsz hs0 hST hRf hRl hRc hRs (xH_met hca hST hdec hthr hDD hstr hnc (by decide) rfl ok_L_writeMerged rfl (xHok1 (j := 9) (ci := 5) (pc := 5) rfl rfl ⟨by decide, by decide⟩ (by decide) tL_1171 (by decide)) (Nat.le_of_ble_eq_true rfl) (fun P hP => hw_writeMerged hz hr P hP)) tL_1438 tL_1436 tL_1437 tL_79 ⟨by decide, by decide⟩ (by decide +kernel) rfl (by decide) hd9 hls hP hS hw hc1 hc2 kk
theorem hW_mergedApart (F : xFx l D tys ρ ca sz0 ST) : xHW l D tys ρ ca sz0 ST d 221 17 := by
  obtain ⟨hca, hST, hdec, hthr, hDD, hstr, hnc⟩ := F
  intro p e R s m args below meth c Z cl9 n9 mc ms hx hb hown hts hK hml hsz hs0 hRf hRl hRc hRs b1 as h Q' hh pc lsr H locs cells slots rest hd9 hls hP hS hw hc1 hc2 kk
  obtain ⟨T, zs, hT, hz, rfl, hr⟩ := hh
  obtain rfl : (119, ["java/util/NoSuchElementException"], 3, false) = T := Option.some.inj hT
  obtain ⟨z0, z1, z2, rfl⟩ := zl3 hz
  exact xH_call (n := 5) hx hb hown hts hK hml hsz hs0 hST hRf hRl hRc hRs (xH_met hca hST hdec hthr hDD hstr hnc (by decide) rfl ok_L_mergedApart rfl (xHok1 (j := 10) (ci := 6) (pc := 7) rfl rfl ⟨by decide, by decide⟩ (by decide) tL_1171 (by decide)) (Nat.le_of_ble_eq_true rfl) (fun P hP => hw_mergedApart hz hr P hP)) tL_1451 tL_1449 tL_1450 tL_79 ⟨by decide, by decide⟩ (by decide +kernel) rfl (by decide) hd9 hls hP hS hw hc1 hc2 kk
theorem hW_differs (F : xFx l D tys ρ ca sz0 ST) : xHW l D tys ρ ca sz0 ST d 224 18 := by
  obtain ⟨hca, hST, hdec, hthr, hDD, hstr, hnc⟩ := F
  intro p e R s m args below meth c Z cl9 n9 mc ms hx hb hown hts hK hml hsz hs0 hRf hRl hRc hRs b1 as h Q' hh pc lsr H locs cells slots rest hd9 hls hP hS hw hc1 hc2 kk
  obtain ⟨T, zs, hT, hz, rfl, hr⟩ := hh
  obtain rfl : (120, ["java/util/NoSuchElementException"], 3, false) = T := Option.some.inj hT
  obtain ⟨z0, z1, z2, rfl⟩ := zl3 hz
  exact xH_call (n := 5) hx hb hown hts hK hml hsz hs0 hST hRf hRl hRc hRs (xH_met hca hST hdec hthr hDD hstr hnc (by decide) rfl ok_L_differs rfl (xHok1 (j := 10) (ci := 6) (pc := 7) rfl rfl ⟨by decide, by decide⟩ (by decide) tL_1171 (by decide)) (Nat.le_of_ble_eq_true rfl) (fun P hP => hw_differs hz hr P hP)) tL_1476 tL_1474 tL_1475 tL_79 ⟨by decide, by decide⟩ (by decide +kernel) rfl (by decide) hd9 hls hP hS hw hc1 hc2 kk
theorem hW_solve (F : xFx l D tys ρ ca sz0 ST) : xHW l D tys ρ ca sz0 ST d 227 19 := by
  obtain ⟨hca, hST, hdec, hthr, hDD, hstr, hnc⟩ := F
  intro p e R s m args below meth c Z cl9 n9 mc ms hx hb hown hts hK hml hsz hs0 hRf hRl hRc hRs b1 as h Q' hh pc lsr H locs cells slots rest hd9 hls hP hS hw hc1 hc2 kk
  obtain ⟨T, zs, hT, hz, rfl, hr⟩ := hh
  obtain rfl : (121, ["java/lang/IllegalArgumentException", "java/lang/IllegalStateException"], 1, false) = T := Option.some.inj hT
  obtain ⟨z0, rfl⟩ := zl1 hz
  exact xH_call (n := 3) hx hb hown hts hK hml hsz hs0 hST hRf hRl hRc hRs (xH_met hca hST hdec hthr hDD hstr hnc (by decide) rfl ok_L_solve rfl (xHok2 (j := 8) (j2 := 11) (ci := 4) (pc := 4) rfl rfl rfl ⟨by decide, by decide⟩ (by decide) (by decide) tL_1118 tL_1129 (by decide) (by decide) (by decide)) (Nat.le_of_ble_eq_true rfl) (fun P hP => hw_solve hz hr P hP)) tL_1483 tL_1481 tL_1482 tL_79 ⟨by decide, by decide⟩ (by decide +kernel) rfl (by decide) hd9 hls hP hS hw hc1 hc2 kk
theorem hW_make (F : xFx l D tys ρ ca sz0 ST) : xHW l D tys ρ ca sz0 ST d 230 20 := by
  obtain ⟨hca, hST, hdec, hthr, hDD, hstr, hnc⟩ := F
  intro p e R s m args below meth c Z cl9 n9 mc ms hx hb hown hts hK hml hsz hs0 hRf hRl hRc hRs b1 as h Q' hh pc lsr H locs cells slots rest hd9 hls hP hS hw hc1 hc2 kk
  obtain ⟨T, zs, hT, hz, rfl, hr⟩ := hh
  obtain rfl : (122, ["java/lang/IllegalArgumentException", "java/lang/IllegalStateException"], 1, false) = T := Option.some.inj hT
  obtain ⟨z0, rfl⟩ := zl1 hz
  exact xH_call (n := 3) hx hb hown hts hK hml hsz hs0 hST hRf hRl hRc hRs (xH_met hca hST hdec hthr hDD hstr hnc (by decide) rfl ok_L_make rfl (xHok2 (j := 8) (j2 := 11) (ci := 4) (pc := 4) rfl rfl rfl ⟨by decide, by decide⟩ (by decide) (by decide) tL_1118 tL_1129 (by decide) (by decide) (by decide)) (Nat.le_of_ble_eq_true rfl) (fun P hP => hw_make hz hr P hP)) tL_1539 tL_1537 tL_1538 tL_79 ⟨by decide, by decide⟩ (by decide +kernel) rfl (by decide) hd9 hls hP hS hw hc1 hc2 kk
theorem hW_solved (F : xFx l D tys ρ ca sz0 ST) : xHW l D tys ρ ca sz0 ST d 233 21 := by
  obtain ⟨hca, hST, hdec, hthr, hDD, hstr, hnc⟩ := F
  intro p e R s m args below meth c Z cl9 n9 mc ms hx hb hown hts hK hml hsz hs0 hRf hRl hRc hRs b1 as h Q' hh pc lsr H locs cells slots rest hd9 hls hP hS hw hc1 hc2 kk
  obtain ⟨T, zs, hT, hz, rfl, hr⟩ := hh
  obtain rfl : (123, ["java/lang/IllegalStateException", "java/util/NoSuchElementException"], 1, false) = T := Option.some.inj hT
  obtain ⟨z0, rfl⟩ := zl1 hz
  exact xH_call (n := 3) hx hb hown hts hK hml hsz hs0 hST hRf hRl hRc hRs (xH_met hca hST hdec hthr hDD hstr hnc (by decide) rfl ok_L_solved rfl (xHok2 (j := 8) (j2 := 11) (ci := 4) (pc := 4) rfl rfl rfl ⟨by decide, by decide⟩ (by decide) (by decide) tL_1129 tL_1171 (by decide) (by decide) (by decide)) (Nat.le_of_ble_eq_true rfl) (fun P hP => hw_solved hz hr P hP)) tL_1546 tL_1544 tL_1545 tL_79 ⟨by decide, by decide⟩ (by decide +kernel) rfl (by decide) hd9 hls hP hS hw hc1 hc2 kk
theorem hW_comes (F : xFx l D tys ρ ca sz0 ST) : xHW l D tys ρ ca sz0 ST d 236 22 := by
  obtain ⟨hca, hST, hdec, hthr, hDD, hstr, hnc⟩ := F
  intro p e R s m args below meth c Z cl9 n9 mc ms hx hb hown hts hK hml hsz hs0 hRf hRl hRc hRs b1 as h Q' hh pc lsr H locs cells slots rest hd9 hls hP hS hw hc1 hc2 kk
  obtain ⟨T, zs, hT, hz, rfl, hr⟩ := hh
  obtain rfl : (124, ["java/lang/IllegalStateException", "java/lang/IllegalArgumentException"], 3, false) = T := Option.some.inj hT
  obtain ⟨z0, z1, z2, rfl⟩ := zl3 hz
  exact xH_call (n := 5) hx hb hown hts hK hml hsz hs0 hST hRf hRl hRc hRs (xH_met hca hST hdec hthr hDD hstr hnc (by decide) rfl ok_L_comes rfl (xHok2 (j := 10) (j2 := 13) (ci := 6) (pc := 7) rfl rfl rfl ⟨by decide, by decide⟩ (by decide) (by decide) tL_1129 tL_1118 (by decide) (by decide) (by decide)) (Nat.le_of_ble_eq_true rfl) (fun P hP => hw_comes hz hr P hP)) tL_1574 tL_1572 tL_1573 tL_79 ⟨by decide, by decide⟩ (by decide +kernel) rfl (by decide) hd9 hls hP hS hw hc1 hc2 kk
theorem hW_writeSolved (F : xFx l D tys ρ ca sz0 ST) : xHW l D tys ρ ca sz0 ST d 239 23 := by
  obtain ⟨hca, hST, hdec, hthr, hDD, hstr, hnc⟩ := F
  intro p e R s m args below meth c Z cl9 n9 mc ms hx hb hown hts hK hml hsz hs0 hRf hRl hRc hRs b1 as h Q' hh pc lsr H locs cells slots rest hd9 hls hP hS hw hc1 hc2 kk
  obtain ⟨T, zs, hT, hz, rfl, hr⟩ := hh
  obtain rfl : (125, ["java/lang/IllegalStateException"], 0, false) = T := Option.some.inj hT
  obtain rfl := zl0 hz
  exact xH_call (n := 2) hx hb hown hts hK hml hsz hs0 hST hRf hRl hRc hRs (xH_met hca hST hdec hthr hDD hstr hnc (by decide) rfl ok_L_writeSolved rfl (xHok1 (j := 7) (ci := 3) (pc := 3) rfl rfl ⟨by decide, by decide⟩ (by decide) tL_1129 (by decide)) (Nat.le_of_ble_eq_true rfl) (fun P hP => hw_writeSolved hz hr P hP)) tL_1590 tL_1588 tL_1589 tL_79 ⟨by decide, by decide⟩ (by decide +kernel) rfl (by decide) hd9 hls hP hS hw hc1 hc2 kk
theorem hW_leaf (F : xFx l D tys ρ ca sz0 ST) : xHW l D tys ρ ca sz0 ST d 243 24 := by
  obtain ⟨hca, hST, hdec, hthr, hDD, hstr, hnc⟩ := F
  intro p e R s m args below meth c Z cl9 n9 mc ms hx hb hown hts hK hml hsz hs0 hRf hRl hRc hRs b1 as h Q' hh pc lsr H locs cells slots rest hd9 hls hP hS hw hc1 hc2 kk
  obtain ⟨T, zs, hT, hz, rfl, hr⟩ := hh
  obtain rfl : (126, ["java/lang/IllegalStateException", "java/util/NoSuchElementException"], 1, false) = T := Option.some.inj hT
  obtain ⟨z0, rfl⟩ := zl1 hz
  exact xH_call (n := 3) hx hb hown hts hK hml hsz hs0 hST hRf hRl hRc hRs (xH_met hca hST hdec hthr hDD hstr hnc (by decide) rfl ok_L_leaf rfl (xHok2 (j := 8) (j2 := 11) (ci := 4) (pc := 4) rfl rfl rfl ⟨by decide, by decide⟩ (by decide) (by decide) tL_1129 tL_1171 (by decide) (by decide) (by decide)) (Nat.le_of_ble_eq_true rfl) (fun P hP => hw_leaf hz hr P hP)) tL_1608 tL_1606 tL_1607 tL_79 ⟨by decide, by decide⟩ (by decide +kernel) rfl (by decide) hd9 hls hP hS hw hc1 hc2 kk
theorem hW_apart (F : xFx l D tys ρ ca sz0 ST) : xHW l D tys ρ ca sz0 ST d 246 25 := by
  obtain ⟨hca, hST, hdec, hthr, hDD, hstr, hnc⟩ := F
  intro p e R s m args below meth c Z cl9 n9 mc ms hx hb hown hts hK hml hsz hs0 hRf hRl hRc hRs b1 as h Q' hh pc lsr H locs cells slots rest hd9 hls hP hS hw hc1 hc2 kk
  obtain ⟨T, zs, hT, hz, rfl, hr⟩ := hh
  obtain rfl : (127, ["java/lang/IllegalStateException", "java/util/NoSuchElementException"], 2, false) = T := Option.some.inj hT
  obtain ⟨z0, z1, rfl⟩ := zl2 hz
  exact xH_call (n := 4) hx hb hown hts hK hml hsz hs0 hST hRf hRl hRc hRs (xH_met hca hST hdec hthr hDD hstr hnc (by decide) rfl ok_L_apart rfl (xHok2 (j := 9) (j2 := 12) (ci := 5) (pc := 5) rfl rfl rfl ⟨by decide, by decide⟩ (by decide) (by decide) tL_1129 tL_1171 (by decide) (by decide) (by decide)) (Nat.le_of_ble_eq_true rfl) (fun P hP => hw_apart hz hr P hP)) tL_1620 tL_1618 tL_1619 tL_79 ⟨by decide, by decide⟩ (by decide +kernel) rfl (by decide) hd9 hls hP hS hw hc1 hc2 kk
theorem hW_without (F : xFx l D tys ρ ca sz0 ST) : xHW l D tys ρ ca sz0 ST d 250 26 := by
  obtain ⟨hca, hST, hdec, hthr, hDD, hstr, hnc⟩ := F
  intro p e R s m args below meth c Z cl9 n9 mc ms hx hb hown hts hK hml hsz hs0 hRf hRl hRc hRs b1 as h Q' hh pc lsr H locs cells slots rest hd9 hls hP hS hw hc1 hc2 kk
  obtain ⟨T, zs, hT, hz, rfl, hr⟩ := hh
  obtain rfl : (128, ["java/lang/IllegalArgumentException", "java/lang/IllegalStateException"], 2, false) = T := Option.some.inj hT
  obtain ⟨z0, z1, rfl⟩ := zl2 hz
  exact xH_call (n := 4) hx hb hown hts hK hml hsz hs0 hST hRf hRl hRc hRs (xH_met hca hST hdec hthr hDD hstr hnc (by decide) rfl ok_L_without rfl (xHok2 (j := 9) (j2 := 12) (ci := 5) (pc := 5) rfl rfl rfl ⟨by decide, by decide⟩ (by decide) (by decide) tL_1118 tL_1129 (by decide) (by decide) (by decide)) (Nat.le_of_ble_eq_true rfl) (fun P hP => hw_without hz hr P hP)) tL_1628 tL_1626 tL_1627 tL_79 ⟨by decide, by decide⟩ (by decide +kernel) rfl (by decide) hd9 hls hP hS hw hc1 hc2 kk
theorem hW_ties (F : xFx l D tys ρ ca sz0 ST) : xHW l D tys ρ ca sz0 ST d 253 27 := by
  obtain ⟨hca, hST, hdec, hthr, hDD, hstr, hnc⟩ := F
  intro p e R s m args below meth c Z cl9 n9 mc ms hx hb hown hts hK hml hsz hs0 hRf hRl hRc hRs b1 as h Q' hh pc lsr H locs cells slots rest hd9 hls hP hS hw hc1 hc2 kk
  obtain ⟨T, zs, hT, hz, rfl, hr⟩ := hh
  obtain rfl : (129, ["java/lang/IllegalArgumentException", "java/lang/IllegalStateException"], 1, false) = T := Option.some.inj hT
  obtain ⟨z0, rfl⟩ := zl1 hz
  exact xH_call (n := 3) hx hb hown hts hK hml hsz hs0 hST hRf hRl hRc hRs (xH_met hca hST hdec hthr hDD hstr hnc (by decide) rfl ok_L_ties rfl (xHok2 (j := 8) (j2 := 11) (ci := 4) (pc := 4) rfl rfl rfl ⟨by decide, by decide⟩ (by decide) (by decide) tL_1118 tL_1129 (by decide) (by decide) (by decide)) (Nat.le_of_ble_eq_true rfl) (fun P hP => hw_ties hz hr P hP)) tL_1635 tL_1633 tL_1634 tL_79 ⟨by decide, by decide⟩ (by decide +kernel) rfl (by decide) hd9 hls hP hS hw hc1 hc2 kk
theorem hW_needed (F : xFx l D tys ρ ca sz0 ST) : xHW l D tys ρ ca sz0 ST d 256 28 := by
  obtain ⟨hca, hST, hdec, hthr, hDD, hstr, hnc⟩ := F
  intro p e R s m args below meth c Z cl9 n9 mc ms hx hb hown hts hK hml hsz hs0 hRf hRl hRc hRs b1 as h Q' hh pc lsr H locs cells slots rest hd9 hls hP hS hw hc1 hc2 kk
  obtain ⟨T, zs, hT, hz, rfl, hr⟩ := hh
  obtain rfl : (130, ["java/lang/IllegalStateException"], 0, false) = T := Option.some.inj hT
  obtain rfl := zl0 hz
  exact xH_call (n := 2) hx hb hown hts hK hml hsz hs0 hST hRf hRl hRc hRs (xH_met hca hST hdec hthr hDD hstr hnc (by decide) rfl ok_L_needed rfl (xHok1 (j := 7) (ci := 3) (pc := 3) rfl rfl ⟨by decide, by decide⟩ (by decide) tL_1129 (by decide)) (Nat.le_of_ble_eq_true rfl) (fun P hP => hw_needed hz hr P hP)) tL_1655 tL_1653 tL_1654 tL_79 ⟨by decide, by decide⟩ (by decide +kernel) rfl (by decide) hd9 hls hP hS hw hc1 hc2 kk
theorem hW_solvedUses (F : xFx l D tys ρ ca sz0 ST) : xHW l D tys ρ ca sz0 ST d 259 29 := by
  obtain ⟨hca, hST, hdec, hthr, hDD, hstr, hnc⟩ := F
  intro p e R s m args below meth c Z cl9 n9 mc ms hx hb hown hts hK hml hsz hs0 hRf hRl hRc hRs b1 as h Q' hh pc lsr H locs cells slots rest hd9 hls hP hS hw hc1 hc2 kk
  obtain ⟨T, zs, hT, hz, rfl, hr⟩ := hh
  obtain rfl : (131, ["java/lang/IllegalStateException", "java/lang/IllegalArgumentException"], 1, false) = T := Option.some.inj hT
  obtain ⟨z0, rfl⟩ := zl1 hz
  exact xH_call (n := 3) hx hb hown hts hK hml hsz hs0 hST hRf hRl hRc hRs (xH_met hca hST hdec hthr hDD hstr hnc (by decide) rfl ok_L_solvedUses rfl (xHok2 (j := 8) (j2 := 11) (ci := 4) (pc := 4) rfl rfl rfl ⟨by decide, by decide⟩ (by decide) (by decide) tL_1129 tL_1118 (by decide) (by decide) (by decide)) (Nat.le_of_ble_eq_true rfl) (fun P hP => hw_solvedUses hz hr P hP)) tL_1662 tL_1660 tL_1661 tL_79 ⟨by decide, by decide⟩ (by decide +kernel) rfl (by decide) hd9 hls hP hS hw hc1 hc2 kk
theorem hW_way (F : xFx l D tys ρ ca sz0 ST) : xHW l D tys ρ ca sz0 ST d 262 30 := by
  obtain ⟨hca, hST, hdec, hthr, hDD, hstr, hnc⟩ := F
  intro p e R s m args below meth c Z cl9 n9 mc ms hx hb hown hts hK hml hsz hs0 hRf hRl hRc hRs b1 as h Q' hh pc lsr H locs cells slots rest hd9 hls hP hS hw hc1 hc2 kk
  obtain ⟨T, zs, hT, hz, rfl, hr⟩ := hh
  obtain rfl : (132, ["java/lang/IllegalStateException", "java/lang/IllegalArgumentException"], 4, false) = T := Option.some.inj hT
  obtain ⟨z0, z1, z2, z3, rfl⟩ := zl4 hz
  exact xH_call (n := 6) hx hb hown hts hK hml hsz hs0 hST hRf hRl hRc hRs (xH_met hca hST hdec hthr hDD hstr hnc (by decide) rfl ok_L_way rfl (xHok2 (j := 11) (j2 := 14) (ci := 7) (pc := 9) rfl rfl rfl ⟨by decide, by decide⟩ (by decide) (by decide) tL_1129 tL_1118 (by decide) (by decide) (by decide)) (Nat.le_of_ble_eq_true rfl) (fun P hP => hw_way hz hr P hP)) tL_1680 tL_1678 tL_1679 tL_79 ⟨by decide, by decide⟩ (by decide +kernel) rfl (by decide) hd9 hls hP hS hw hc1 hc2 kk
theorem hW_isIdle (F : xFx l D tys ρ ca sz0 ST) : xHW l D tys ρ ca sz0 ST d 265 31 := by
  obtain ⟨hca, hST, hdec, hthr, hDD, hstr, hnc⟩ := F
  intro p e R s m args below meth c Z cl9 n9 mc ms hx hb hown hts hK hml hsz hs0 hRf hRl hRc hRs b1 as h Q' hh pc lsr H locs cells slots rest hd9 hls hP hS hw hc1 hc2 kk
  obtain ⟨T, zs, hT, hz, rfl, hr⟩ := hh
  obtain rfl : (133, ["java/lang/IllegalStateException", "java/util/NoSuchElementException"], 1, true) = T := Option.some.inj hT
  obtain ⟨z0, rfl⟩ := zl1 hz
  exact xH_call (n := 3) hx hb hown hts hK hml hsz hs0 hST hRf hRl hRc hRs (xH_met hca hST hdec hthr hDD hstr hnc (by decide) rfl ok_L_isIdle rfl (xHok2 (j := 11) (j2 := 14) (ci := 4) (pc := 4) rfl rfl rfl ⟨by decide, by decide⟩ (by decide) (by decide) tL_1129 tL_1171 (by decide) (by decide) (by decide)) (Nat.le_of_ble_eq_true rfl) (fun P hP => hw_isIdle hz hr P hP)) tL_1691 tL_1689 tL_1690 tL_79 ⟨by decide, by decide⟩ (by decide +kernel) rfl (by decide) hd9 hls hP hS hw hc1 hc2 kk
theorem hW_fits (F : xFx l D tys ρ ca sz0 ST) : xHW l D tys ρ ca sz0 ST d 268 32 := by
  obtain ⟨hca, hST, hdec, hthr, hDD, hstr, hnc⟩ := F
  intro p e R s m args below meth c Z cl9 n9 mc ms hx hb hown hts hK hml hsz hs0 hRf hRl hRc hRs b1 as h Q' hh pc lsr H locs cells slots rest hd9 hls hP hS hw hc1 hc2 kk
  obtain ⟨T, zs, hT, hz, rfl, hr⟩ := hh
  obtain rfl : (134, ["java/lang/IllegalArgumentException", "java/util/NoSuchElementException"], 2, false) = T := Option.some.inj hT
  obtain ⟨z0, z1, rfl⟩ := zl2 hz
  exact xH_call (n := 4) hx hb hown hts hK hml hsz hs0 hST hRf hRl hRc hRs (xH_met hca hST hdec hthr hDD hstr hnc (by decide) rfl ok_L_fits rfl (xHok2 (j := 9) (j2 := 12) (ci := 5) (pc := 5) rfl rfl rfl ⟨by decide, by decide⟩ (by decide) (by decide) tL_1118 tL_1171 (by decide) (by decide) (by decide)) (Nat.le_of_ble_eq_true rfl) (fun P hP => hw_fits hz hr P hP)) tL_1702 tL_1700 tL_1701 tL_79 ⟨by decide, by decide⟩ (by decide +kernel) rfl (by decide) hd9 hls hP hS hw hc1 hc2 kk
theorem hW_splits (F : xFx l D tys ρ ca sz0 ST) : xHW l D tys ρ ca sz0 ST d 275 33 := by
  obtain ⟨hca, hST, hdec, hthr, hDD, hstr, hnc⟩ := F
  intro p e R s m args below meth c Z cl9 n9 mc ms hx hb hown hts hK hml hsz hs0 hRf hRl hRc hRs b1 as h Q' hh pc lsr H locs cells slots rest hd9 hls hP hS hw hc1 hc2 kk
  obtain ⟨T, zs, hT, hz, rfl, hr⟩ := hh
  obtain rfl : (136, ["java/lang/IllegalArgumentException"], 2, false) = T := Option.some.inj hT
  obtain ⟨z0, z1, rfl⟩ := zl2 hz
  exact xH_call (n := 4) hx hb hown hts hK hml hsz hs0 hST hRf hRl hRc hRs (xH_met hca hST hdec hthr hDD hstr hnc (by decide) rfl ok_L_splits rfl (xHok1 (j := 9) (ci := 5) (pc := 5) rfl rfl ⟨by decide, by decide⟩ (by decide) tL_1118 (by decide)) (Nat.le_of_ble_eq_true rfl) (fun P hP => hw_splits hz hr P hP)) tL_1714 tL_1712 tL_1713 tL_79 ⟨by decide, by decide⟩ (by decide +kernel) rfl (by decide) hd9 hls hP hS hw hc1 hc2 kk
theorem hW_told (F : xFx l D tys ρ ca sz0 ST) : xHW l D tys ρ ca sz0 ST d 282 34 := by
  obtain ⟨hca, hST, hdec, hthr, hDD, hstr, hnc⟩ := F
  intro p e R s m args below meth c Z cl9 n9 mc ms hx hb hown hts hK hml hsz hs0 hRf hRl hRc hRs b1 as h Q' hh pc lsr H locs cells slots rest hd9 hls hP hS hw hc1 hc2 kk
  obtain ⟨T, zs, hT, hz, rfl, hr⟩ := hh
  obtain rfl : (138, ["java/util/NoSuchElementException"], 2, false) = T := Option.some.inj hT
  obtain ⟨z0, z1, rfl⟩ := zl2 hz
  exact xH_call (n := 4) hx hb hown hts hK hml hsz hs0 hST hRf hRl hRc hRs (xH_met hca hST hdec hthr hDD hstr hnc (by decide) rfl ok_L_told rfl (xHok1 (j := 9) (ci := 5) (pc := 5) rfl rfl ⟨by decide, by decide⟩ (by decide) tL_1171 (by decide)) (Nat.le_of_ble_eq_true rfl) (fun P hP => hw_told hz hr P hP)) tL_1722 tL_1720 tL_1721 tL_79 ⟨by decide, by decide⟩ (by decide +kernel) rfl (by decide) hd9 hls hP hS hw hc1 hc2 kk
theorem hW_constantAt (F : xFx l D tys ρ ca sz0 ST) : xHW l D tys ρ ca sz0 ST d 285 35 := by
  obtain ⟨hca, hST, hdec, hthr, hDD, hstr, hnc⟩ := F
  intro p e R s m args below meth c Z cl9 n9 mc ms hx hb hown hts hK hml hsz hs0 hRf hRl hRc hRs b1 as h Q' hh pc lsr H locs cells slots rest hd9 hls hP hS hw hc1 hc2 kk
  obtain ⟨T, zs, hT, hz, rfl, hr⟩ := hh
  obtain rfl : (139, ["java/util/NoSuchElementException"], 1, false) = T := Option.some.inj hT
  obtain ⟨z0, rfl⟩ := zl1 hz
  exact xH_call (n := 3) hx hb hown hts hK hml hsz hs0 hST hRf hRl hRc hRs (xH_met hca hST hdec hthr hDD hstr hnc (by decide) rfl ok_L_constantAt rfl (xHok1 (j := 8) (ci := 4) (pc := 4) rfl rfl ⟨by decide, by decide⟩ (by decide) tL_1171 (by decide)) (Nat.le_of_ble_eq_true rfl) (fun P hP => hw_constantAt hz hr P hP)) tL_1730 tL_1728 tL_1729 tL_79 ⟨by decide, by decide⟩ (by decide +kernel) rfl (by decide) hd9 hls hP hS hw hc1 hc2 kk
def hkL : List (Nat × Nat) := [(137, 0), (146, 1), (150, 2), (153, 3), (157, 4), (164, 5), (172, 6), (176, 7), (180, 8), (183, 9), (187, 10), (194, 11), (197, 12), (205, 13), (208, 14), (211, 15), (218, 16), (221, 17), (224, 18), (227, 19), (230, 20), (233, 21), (236, 22), (239, 23), (243, 24), (246, 25), (250, 26), (253, 27), (256, 28), (259, 29), (262, 30), (265, 31), (268, 32), (275, 33), (282, 34), (285, 35)]
theorem hW_all (F : xFx l D tys ρ ca sz0 ST) : ∀ q ∈ hkL, xHW l D tys ρ ca sz0 ST d q.1 q.2 := List.forall_mem_cons.mpr ⟨hW_many F, List.forall_mem_cons.mpr ⟨hW_example F, List.forall_mem_cons.mpr ⟨hW_drop F, List.forall_mem_cons.mpr ⟨hW_part F, List.forall_mem_cons.mpr ⟨hW_constant F, List.forall_mem_cons.mpr ⟨hW_budget F, List.forall_mem_cons.mpr ⟨hW_grown F, List.forall_mem_cons.mpr ⟨hW_kept F, List.forall_mem_cons.mpr ⟨hW_output F, List.forall_mem_cons.mpr ⟨hW_value F, List.forall_mem_cons.mpr ⟨hW_write F, List.forall_mem_cons.mpr ⟨hW_testOf F, List.forall_mem_cons.mpr ⟨hW_joins F, List.forall_mem_cons.mpr ⟨hW_unlike F, List.forall_mem_cons.mpr ⟨hW_uses F, List.forall_mem_cons.mpr ⟨hW_far F, List.forall_mem_cons.mpr ⟨hW_writeMerged F, List.forall_mem_cons.mpr ⟨hW_mergedApart F, List.forall_mem_cons.mpr ⟨hW_differs F, List.forall_mem_cons.mpr ⟨hW_solve F, List.forall_mem_cons.mpr ⟨hW_make F, List.forall_mem_cons.mpr ⟨hW_solved F, List.forall_mem_cons.mpr ⟨hW_comes F, List.forall_mem_cons.mpr ⟨hW_writeSolved F, List.forall_mem_cons.mpr ⟨hW_leaf F, List.forall_mem_cons.mpr ⟨hW_apart F, List.forall_mem_cons.mpr ⟨hW_without F, List.forall_mem_cons.mpr ⟨hW_ties F, List.forall_mem_cons.mpr ⟨hW_needed F, List.forall_mem_cons.mpr ⟨hW_solvedUses F, List.forall_mem_cons.mpr ⟨hW_way F, List.forall_mem_cons.mpr ⟨hW_isIdle F, List.forall_mem_cons.mpr ⟨hW_fits F, List.forall_mem_cons.mpr ⟨hW_splits F, List.forall_mem_cons.mpr ⟨hW_told F, List.forall_mem_cons.mpr ⟨hW_constantAt F, fun _ h => absurd h List.not_mem_nil⟩⟩⟩⟩⟩⟩⟩⟩⟩⟩⟩⟩⟩⟩⟩⟩⟩⟩⟩⟩⟩⟩⟩⟩⟩⟩⟩⟩⟩⟩⟩⟩⟩⟩⟩⟩
end XHALL
