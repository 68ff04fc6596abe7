/-! what the plain machine's values, locals and cells are on the machine: cell a stands at the address ρ a -/
def xc (ρ : Nat → Nat) (v : xV) : Value := match v with
  | .inl z => .int (Int32.ofInt z)
  | .inr (.inl z) => .long (Int64.ofInt z)
  | .inr (.inr a) => .ref (ρ a)
def xF (ρ : Nat → Nat) (h : Int → Int) : List (FieldType ⊕ Nat) → Nat → List Value
  | [], _ => []
  | f :: t, k => (match f with
    | .inl ty => xc ρ (xmk ty (h k))
    | .inr d => .ref (ρ d)) :: xF ρ h t (k + 1)
def xEn (ca : FieldType → ClassId) (h : Int → Int) (ty : FieldType) (n : Nat) : va_E := match ty with
  | .long => .inl (ca .long, n, .inr (.inl (fun j => Int64.ofInt (h j))))
  | t => .inl (ca t, n, .inl (fun j => Int32.ofInt (h j)))
def xE (ρ : Nat → Nat) (ca : FieldType → ClassId) (h : Int → Int) (g : xS) : va_E := match g with
  | .inl q => xEn ca h q.1 q.2
  | .inr (.inl ids) => .inl (ca (.array .int), ids.length, .inr (.inr (.inr (.inr (fun j => (ids[j]?).map ρ)))))
  | .inr (.inr q) => .inr (q.1, xF ρ h q.2 0)
def xWl (ρ : Nat → Nat) (ca : FieldType → ClassId) (h : xH) : List xS → Nat → va_W
  | [], _ => []
  | g :: t, k => (ρ k, xE ρ ca (h k) g) :: xWl ρ ca h t (k + 1)
def xLc (ρ : Nat → Nat) : xL → Nat → List (Nat × Value)
  | [], _ => []
  | o :: t, k => (match o with
    | some v => [(k, xc ρ v)]
    | none => []) ++ xLc ρ t (k + 1)
theorem xWl_get (ρ : Nat → Nat) (ca : FieldType → ClassId) (h : xH) : ∀ (G : List xS) (k i : Nat), (xWl ρ ca h G k)[i]? = (G[i]?).map (fun g => (ρ (k + i), xE ρ ca (h (k + i)) g))
  | [], k, i => by simp [xWl]
  | g :: t, k, 0 => by simp [xWl]
  | g :: t, k, i + 1 => by
    have e : k + 1 + i = k + (i + 1) := by omega
    simp only [xWl, List.getElem?_cons_succ, xWl_get ρ ca h t (k + 1) i, e]
theorem xW_get {ρ : Nat → Nat} {ca : FieldType → ClassId} {h : xH} {G : List xS} {a : Nat} {g : xS} (hg : G[a]? = some g) : (xWl ρ ca h G 0)[a]? = some (ρ a, xE ρ ca (h a) g) := by
  rw [xWl_get, hg]; simp
/-- a world with one cell written anew -/
theorem xW_set {ρ : Nat → Nat} {ca : FieldType → ClassId} {h h' : xH} {G : List xS} {a : Nat} {g : xS} {e : va_E} (hg : G[a]? = some g) (ho : ∀ a', a' ≠ a → h' a' = h a') (he : xE ρ ca (h' a) g = e) : (xWl ρ ca h G 0).set a (ρ a, e) = xWl ρ ca h' G 0 := by
  apply List.ext_getElem?
  intro i
  rw [xWl_get]
  have hl : a < (xWl ρ ca h G 0).length := (List.getElem?_eq_some_iff.mp (xW_get (ρ := ρ) (ca := ca) (h := h) hg)).1
  by_cases hi : i = a
  · subst hi
    rw [List.getElem?_set_self hl, hg, ← he]
    simp
  · rw [List.getElem?_set_ne (fun q => hi q.symm), xWl_get]
    cases hG : G[i]? with
    | none => rfl
    | some g' => simp [ho i hi]
theorem xLc_mem (ρ : Nat → Nat) : ∀ (ls : xL) (k : Nat) (q : Nat × Value), q ∈ xLc ρ ls k ↔ ∃ (j : Nat) (v : xV), ls[j]? = some (some v) ∧ q = (k + j, xc ρ v)
  | [], k, q => by simp [xLc]
  | o :: t, k, q => by
    have e0 : xLc ρ (o :: t) k = (match o with | some v => [(k, xc ρ v)] | none => []) ++ xLc ρ t (k + 1) := by cases o <;> rfl
    rw [e0, List.mem_append, xLc_mem ρ t (k + 1) q]
    constructor
    · rintro (h | ⟨j, v, h1, h2⟩)
      · cases o with
        | none => simp at h
        | some v => exact ⟨0, v, by simp, by simpa using h⟩
      · exact ⟨j + 1, v, by simpa using h1, by rw [h2]; congr 1; omega⟩
    · rintro ⟨j, v, h1, h2⟩
      cases j with
      | zero =>
        have e : o = some v := by simpa using h1
        subst e
        exact Or.inl (by simp [h2])
      | succ j => exact Or.inr ⟨j, v, by simpa using h1, by rw [h2]; congr 1; omega⟩
theorem xLc_at {ρ : Nat → Nat} {ls : xL} {lsr : Array Slot} {nL k : Nat} {v : xV} (hl : lv_has lsr nL (xLc ρ ls 0)) (hk : ls[k]? = some (some v)) : lsr[k]? = some (.val (xc ρ v)) :=
  hl.2.2 (k, xc ρ v) ((xLc_mem ρ ls 0 _).mpr ⟨k, v, hk, by simp⟩)
theorem xst1_len : ∀ (ls : xL) (i : Nat) (v : xV), (xst1 ls i v).length = ls.length
  | [], _, _ => rfl
  | _ :: _, 0, _ => rfl
  | _ :: t, i + 1, v => by simp [xst1, xst1_len t i v]
theorem xst2_len : ∀ (ls : xL) (i : Nat) (v : xV), (xst2 ls i v).length = ls.length
  | [], _, _ => rfl
  | [_], 0, _ => rfl
  | _ :: _ :: _, 0, _ => rfl
  | _ :: t, i + 1, v => by simp [xst2, xst2_len t i v]
theorem xst1_get : ∀ (ls : xL) (i : Nat) (v : xV) (j : Nat) (w : xV), (xst1 ls i v)[j]? = some (some w) → (j = i ∧ w = v) ∨ (j ≠ i ∧ ls[j]? = some (some w) ∧ ¬ (j + 1 = i ∧ xlong (some w) = true))
  | [], _, _, j, w, h => by simp [xst1] at h
  | o :: t, 0, v, 0, w, h => by
    have e : v = w := by simpa [xst1] using h
    exact Or.inl ⟨rfl, e.symm⟩
  | o :: t, 0, v, j + 1, w, h => Or.inr ⟨by omega, by simpa [xst1] using h, by omega⟩
  | o :: t, i + 1, v, 0, w, h => by
    refine Or.inr ⟨by omega, ?_, ?_⟩
    · by_cases hi : i = 0
      · by_cases ho : xlong o = true
        · simp [xst1, hi, ho] at h
        · simpa [xst1, hi, ho] using h
      · simpa [xst1, hi] using h
    · rintro ⟨h1, h2⟩
      have hi : i = 0 := by omega
      by_cases ho : xlong o = true
      · simp [xst1, hi, ho] at h
      · have e : o = some w := by simpa [xst1, hi, ho] using h
        exact ho (e ▸ h2)
  | o :: t, i + 1, v, j + 1, w, h => by
    have h' : (xst1 t i v)[j]? = some (some w) := by simpa [xst1] using h
    rcases xst1_get t i v j w h' with ⟨a, b⟩ | ⟨a, b, c⟩
    · exact Or.inl ⟨by omega, b⟩
    · exact Or.inr ⟨by omega, by simpa using b, fun q => c ⟨by omega, q.2⟩⟩
theorem xst2_get : ∀ (ls : xL) (i : Nat) (v : xV) (j : Nat) (w : xV), (xst2 ls i v)[j]? = some (some w) → (j = i ∧ w = v) ∨ (j ≠ i ∧ j ≠ i + 1 ∧ ls[j]? = some (some w) ∧ ¬ (j + 1 = i ∧ xlong (some w) = true))
  | [], _, _, j, w, h => by simp [xst2] at h
  | [o], 0, v, 0, w, h => by
    have e : v = w := by simpa [xst2] using h
    exact Or.inl ⟨rfl, e.symm⟩
  | [o], 0, v, j + 1, w, h => by simp [xst2] at h
  | o :: o2 :: t, 0, v, 0, w, h => by
    have e : v = w := by simpa [xst2] using h
    exact Or.inl ⟨rfl, e.symm⟩
  | o :: o2 :: t, 0, v, 1, w, h => by simp [xst2] at h
  | o :: o2 :: t, 0, v, j + 2, w, h => Or.inr ⟨by omega, by omega, by simpa [xst2] using h, by omega⟩
  | o :: t, i + 1, v, 0, w, h => by
    refine Or.inr ⟨by omega, by omega, ?_, ?_⟩
    · by_cases hi : i = 0
      · by_cases ho : xlong o = true
        · simp [xst2, hi, ho] at h
        · simpa [xst2, hi, ho] using h
      · simpa [xst2, hi] using h
    · rintro ⟨h1, h2⟩
      have hi : i = 0 := by omega
      by_cases ho : xlong o = true
      · simp [xst2, hi, ho] at h
      · have e : o = some w := by simpa [xst2, hi, ho] using h
        exact ho (e ▸ h2)
  | o :: t, i + 1, v, j + 1, w, h => by
    have h' : (xst2 t i v)[j]? = some (some w) := by simpa [xst2] using h
    rcases xst2_get t i v j w h' with ⟨a, b⟩ | ⟨a, a2, b, c⟩
    · exact Or.inl ⟨by omega, b⟩
    · exact Or.inr ⟨by omega, by omega, by simpa using b, fun q => c ⟨by omega, q.2⟩⟩
theorem xc_long {ρ : Nat → Nat} {v : xV} (h : (xc ρ v).category = 2) : xlong (some v) = true := by
  rcases v with z | z | a
  · simp [xc, Value.category] at h
  · rfl
  · simp [xc, Value.category] at h
theorem xLc_st1 {ρ : Nat → Nat} {ls : xL} {lsr : Array Slot} {nL i : Nat} {v : xV} (h : lv_has lsr nL ((i, xc ρ v) :: (xLc ρ ls 0).filter (fun q => !(q.1 == i) && !(q.1 + 1 == i && q.2.category == 2)))) : lv_has lsr nL (xLc ρ (xst1 ls i v) 0) := by
  refine ⟨h.1, h.2.1, fun q hq => ?_⟩
  obtain ⟨j, w, h1, rfl⟩ := (xLc_mem ρ _ 0 q).mp hq
  rcases xst1_get ls i v j w h1 with ⟨a, b⟩ | ⟨a, b, c⟩
  · subst a; subst b
    simpa using h.2.2 (j, xc ρ w) List.mem_cons_self
  · refine h.2.2 _ (List.mem_cons_of_mem _ (List.mem_filter.mpr ⟨(xLc_mem ρ ls 0 _).mpr ⟨j, w, b, rfl⟩, ?_⟩))
    have a' : (0 + j == i) = false := by simpa using a
    simp only [a', Bool.not_false, Bool.true_and, Bool.not_eq_true', Bool.and_eq_false_iff, beq_eq_false_iff_ne, ne_eq]
    by_cases e : 0 + j + 1 = i
    · exact Or.inr fun z => c ⟨by omega, xc_long z⟩
    · exact Or.inl e
theorem xLc_st2 {ρ : Nat → Nat} {ls : xL} {lsr : Array Slot} {nL i : Nat} {v : xV} (h : lv_has lsr nL ((i, xc ρ v) :: (xLc ρ ls 0).filter (fun q => !(q.1 == i) && (!(q.1 == i + 1) && !(q.1 + 1 == i && q.2.category == 2))))) : lv_has lsr nL (xLc ρ (xst2 ls i v) 0) := by
  refine ⟨h.1, h.2.1, fun q hq => ?_⟩
  obtain ⟨j, w, h1, rfl⟩ := (xLc_mem ρ _ 0 q).mp hq
  rcases xst2_get ls i v j w h1 with ⟨a, b⟩ | ⟨a, a2, b, c⟩
  · subst a; subst b
    simpa using h.2.2 (j, xc ρ w) List.mem_cons_self
  · refine h.2.2 _ (List.mem_cons_of_mem _ (List.mem_filter.mpr ⟨(xLc_mem ρ ls 0 _).mpr ⟨j, w, b, rfl⟩, ?_⟩))
    have a' : (0 + j == i) = false := by simpa using a
    have a2' : (0 + j == i + 1) = false := by simpa using a2
    simp only [a', a2', Bool.not_false, Bool.true_and, Bool.not_eq_true', Bool.and_eq_false_iff, beq_eq_false_iff_ne, ne_eq]
    by_cases e : 0 + j + 1 = i
    · exact Or.inr fun z => c ⟨by omega, xc_long z⟩
    · exact Or.inl e
theorem xF_get (ρ : Nat → Nat) (h : Int → Int) : ∀ (fs : List (FieldType ⊕ Nat)) (k i : Nat), (xF ρ h fs k)[i]? = (fs[i]?).map (fun f => match f with
    | .inl ty => xc ρ (xmk ty (h ((k + i : Nat) : Int)))
    | .inr d => .ref (ρ d))
  | [], k, i => by simp [xF]
  | f :: t, k, 0 => by simp [xF]
  | f :: t, k, i + 1 => by
    have e : k + 1 + i = k + (i + 1) := by omega
    simp only [xF, List.getElem?_cons_succ, xF_get ρ h t (k + 1) i, e]
theorem xF_len (ρ : Nat → Nat) (h : Int → Int) : ∀ (fs : List (FieldType ⊕ Nat)) (k : Nat), (xF ρ h fs k).length = fs.length
  | [], _ => rfl
  | _ :: t, k => by simp [xF, xF_len ρ h t (k + 1)]
theorem xF_set {ρ : Nat → Nat} {h h' : Int → Int} {fs : List (FieldType ⊕ Nat)} {k : Nat} {ty : FieldType} (hk : fs[k]? = some (.inl ty)) (ho : ∀ j : Int, j ≠ (k : Int) → h' j = h j) : (xF ρ h fs 0).set k (xc ρ (xmk ty (h' k))) = xF ρ h' fs 0 := by
  apply List.ext_getElem?
  intro i
  have hl : k < (xF ρ h fs 0).length := by rw [xF_len]; exact (List.getElem?_eq_some_iff.mp hk).1
  rw [xF_get]
  by_cases hi : i = k
  · subst hi
    rw [List.getElem?_set_self hl, hk]
    simp
  · rw [List.getElem?_set_ne (fun q => hi q.symm), xF_get]
    cases hf : fs[i]? with
    | none => rfl
    | some f =>
      have : h' ((0 + i : Nat) : Int) = h ((0 + i : Nat) : Int) := ho _ (by omega)
      simp only [Option.map_some, this]
