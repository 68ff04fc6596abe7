/-! calls, returns, throws: a method's contract by the plain machine's words -/
def xws (M : xMt) : List Cond := Cond.code M.1 M.2.1 M.2.2.1 M.2.2.2.1 :: xtg
def xrm (d b : Nat) : Room := { frames := d + 8, cells := b, slots := 6 * b, locals := 60 * d + 200 }
/-- facts of the start that stay: by the machine's tables and by cells ahead of sz0 -/
def xSTok (sz0 : Nat) (ST : State → Prop) : Prop := ∀ U V : State, U.WarmedH V.vm → (∀ q : Nat, q < sz0 → V.heap[q]? = U.heap[q]?) → ST U → ST V
def xDec (ST : State → Prop) : Prop := ∀ (U : State), ST U → ∀ y : MethodName, Cond.declares y ∈ lw_tbl → va_Nw (.declares y) U
def xA (sz0 : Nat) : Nat → Prop := fun q => sz0 ≤ q
def xPc (ρ : Nat → Nat) (ca : FieldType → ClassId) (G : List xS) (D : va_G) (cl : List vw_C) (tys : List (ClassId × FieldType)) (sz0 : Nat) (ST : State → Prop) (as : List xV) (h : xH) : Array Value → State → Prop := va_Pc (as.map (xc ρ)) (fun U => va_K D cl tys U ∧ sz0 ≤ U.heap.size ∧ ST U ∧ va_P D cl (xWl ρ ca h G 0) U.heap)
def xQc (ρ : Nat → Nat) (ca : FieldType → ClassId) (G : List xS) (D : va_G) (cl : List vw_C) (sz0 : Nat) (Q : xO → xH → Prop) : Array Value → State → Outcome → State → Prop := fun _ st o t => (∃ (v : Option xV) (h' : xH), o = .returned (v.map (xc ρ)) ∧ Q (.inl v) h' ∧ va_P D cl (xWl ρ ca h' G 0) t.heap) ∧ va_F (xA sz0) st t
def xXC (ρ : Nat → Nat) (ca : FieldType → ClassId) (G : List xS) (D : va_G) (cl : List vw_C) (sz0 : Nat) (Q : xO → xH → Prop) : String → State → State → Prop := fun E st t => (∃ h' : xH, Q (.inr E) h' ∧ va_P D cl (xWl ρ ca h' G 0) t.heap) ∧ va_F (xA sz0) st t
section XCALLS
variable {p : Program} {l : Launch} {e : Env} {R : Room} {s : State} {m : MethodId} {args : Array Value} {below : List Frame} {meth : Method} {c : Code} {Z : State → Prop} {own : String} {cc : ByteArray} {nL : Nat} {pcs : List Nat} {D : va_G} {cl : List vw_C} {tys : List (ClassId × FieldType)} {ρ : Nat → Nat} {ca : FieldType → ClassId} {G : List xS} {cd : List xI} {mc ms : Nat} {MT : List xMt} {sz0 : Nat} {ST : State → Prop} {H : Heap} {locs : List Loc} {cells slots b1 : Nat} {pc : Nat} {lsr : Array Slot} {st0 restR : List Value} {Q' : xO → xH → Prop} {aa : Array Value}
theorem x_run (hS : va_S (xA sz0) s.heap H locs) (hr : vx_Run p l e R s m args below meth c H locs cells slots b1 (6 * b1) (F0 m pc lsr st0) restR (xQc ρ ca G D cl sz0 Q' aa) (xXC ρ ca G D cl sz0 Q') (xA sz0))
    (kk : ∀ (v : Option xV) (h' : xH) (H1 : Heap) (locs1 : List Loc), Q' (.inl v) h' → va_P D cl (xWl ρ ca h' G 0) H1 → va_S (xA sz0) s.heap H1 locs1 → W p l e R s m args below meth c H1 locs1 (cells + b1) (slots + 6 * b1) Z (F0 m (pc + 3) lsr ((v.map (xc ρ)).toList ++ restR)))
    (kx : ∀ (E : String) (h' : xH) (H1 : Heap) (locs1 : List Loc) (q9 : Addr) (ce : Cell), Q' (.inr E) h' → va_P D cl (xWl ρ ca h' G 0) H1 → va_S (xA sz0) s.heap H1 locs1 → H1[q9]? = some ce → ce.vm = .none → s.vm.findClass E = some ce.cls → vx_W p l e R s m args below meth c H1 locs1 (cells + b1) (slots + 6 * b1) Z (F0 m pc lsr restR) q9) :
    W p l e R s m args below meth c H locs cells slots Z (F0 m pc lsr st0) := by
  intro T hT X
  rcases hr T hT X with ⟨v, st₀, t, T', L, h0, X', hL, e1, e2, ⟨⟨v9, h', hv, hq, hp⟩, hF⟩, st⟩ | ⟨q, st₀, t, T', L, E, ce, h0, X', hL, e1, e2, ⟨⟨h', hq, hp⟩, hF⟩, hce, hcv, hcl, st⟩
  · obtain ⟨k1, k2, k3⟩ := vx_keep h0 e1 hS (fun _ _ z => z) (fun _ z => z) hL hF
    cases hv
    obtain ⟨t2, a1, b1⟩ := kk v9 h' T'.heap (locs ++ L) hq (by rw [e1]; exact hp) k3 T' rfl X'
    exact ⟨t2, st t2 a1, b1⟩
  · obtain ⟨k1, k2, k3⟩ := vx_keep h0 e1 hS (fun _ _ z => z) (fun _ z => z) hL hF
    obtain ⟨t2, a1, b1⟩ := kx E h' T'.heap (locs ++ L) q ce hq (by rw [e1]; exact hp) k3 (by rw [e1]; exact hce) hcv hcl T' rfl X'
    exact ⟨t2, st.trans a1, b1⟩
theorem x_runM (hS : va_S (xA sz0) s.heap H locs) (hr : va_Run p l e R s m args below meth c H locs cells slots b1 (6 * b1) (F0 m pc lsr st0) restR (xQc ρ ca G D cl sz0 Q' aa) (xA sz0))
    (kk : ∀ (v : Option xV) (h' : xH) (H1 : Heap) (locs1 : List Loc), Q' (.inl v) h' → va_P D cl (xWl ρ ca h' G 0) H1 → va_S (xA sz0) s.heap H1 locs1 → W p l e R s m args below meth c H1 locs1 (cells + b1) (slots + 6 * b1) Z (F0 m (pc + 3) lsr ((v.map (xc ρ)).toList ++ restR))) :
    W p l e R s m args below meth c H locs cells slots Z (F0 m pc lsr st0) := by
  intro T hT X
  obtain ⟨v, st₀, t, T', L, h0, X', hL, e1, e2, ⟨⟨v9, h', hv, hq, hp⟩, hF⟩, st⟩ := hr T hT X
  obtain ⟨k1, k2, k3⟩ := vx_keep h0 e1 hS (fun _ _ z => z) (fun _ z => z) hL hF
  cases hv
  obtain ⟨t2, a1, b1⟩ := kk v9 h' T'.heap (locs ++ L) hq (by rw [e1]; exact hp) k3 T' rfl X'
  exact ⟨t2, st t2 a1, b1⟩
theorem x_blind (hST : xSTok sz0 ST) {as : List xV} {h : xH} : FrameBlind (xPc ρ ca G D cl tys sz0 ST as h) := by
  rintro a U g mk ⟨h1, h2, h3, h4, h5⟩
  exact ⟨h1, va_K.moved (u := U) (U := U.calling g mk a) (Vm.Alike.refl _) h2, h3, hST U (U.calling g mk a) (State.WarmedH.refl _) (fun _ _ => rfl) h4, h5⟩
theorem x_pre (hST : xSTok sz0 ST) (hsz : sz0 ≤ s.heap.size) (hs0 : ST s) (hK : va_K D cl tys s) (hS : va_S (xA sz0) s.heap H locs) {as : List xV} {h : xH} (hP : va_P D cl (xWl ρ ca h G 0) H) (U : State) (hU : U.heap = H) (hW : s.WarmedH U.vm) : xPc ρ ca G D cl tys sz0 ST as h (as.map (xc ρ)).toArray U :=
  ⟨rfl, va_K.moved hW.alike hK, by rw [hU]; exact Nat.le_trans hsz hS.1, hST s U hW (fun q hq => by rw [hU]; exact hS.2.1 q (Nat.lt_of_lt_of_le hq hsz) (Nat.not_le.mpr hq)) hs0, by rw [hU]; exact hP⟩
theorem x_noX {y : MethodName} {ws : List Cond} {rm : Room} {Pc : Array Value → State → Prop} {Qc : Array Value → State → Outcome → State → Prop} {XC : String → State → State → Prop} {mc ms : Nat} {free : Addr → Prop} (h : vx_Met l y ws rm Pc Qc XC mc ms free) (hx : ∀ E st t, ¬ XC E st t) : Met l y ws rm Pc Qc mc ms free := by
  intro p e ha hc hk s m args below hf happ hP hK
  obtain ⟨n, o, h1, h2, h3, h4⟩ := h p e ha hc hk s m args below hf happ hP hK
  refine ⟨n, o, h1, h2, h3, ?_⟩
  rcases h4 with h4 | ⟨q, -, E, ce, L, hxc, -⟩
  · exact h4
  · exact absurd hxc (hx _ _ _)
theorem x_good (M : xMt) (h : Cond.code M.1 M.2.1 M.2.2.1 M.2.2.2.1 ∈ xtg) : GoodIn xtg (xws M) := by
  intro w hw
  have hm : w ∈ xtg := by
    rcases List.mem_cons.mp hw with rfl | hw
    · exact h
    · exact hw
  exact ⟨hm, good_of_word (List.mem_filter.mp hm).2⟩
end XCALLS
