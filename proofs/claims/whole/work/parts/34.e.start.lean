/-! what is built is the plain world at its start -/
def bw3 : List bC := bw2 ++ [.inl (.long, 1, 0, [])]
/-- the same cells by the numbers that the plain world has for them -/
def bpi (k : Nat) : Nat := if k = 47 then 50 else if k = 48 then 47 else if k = 49 then 48 else if k = 50 then 49 else k
def bw4 : List bC := [.inr (.inr (9, [some (.inr (.inr 1)), some (.inr (.inr 7)), some (.inr (.inr 9)), some (.inr (.inr 28)), some (.inr (.inr 44)), some (.inr (.inr 56)), some (.inr (.inr 59)), some (.inr (.inr 62)), some (.inr (.inr 64)), some (.inl 5000)])), .inr (.inr (0, [some (.inr (.inr 2)), some (.inl 1), some (.inl 0)])), .inr (.inl [3, 4, 5, 6]), .inl (.int, 12, 0, []), .inl (.int, 12, 0, []), .inl (.int, 12, 0, []), .inl (.int, 12, 0, []), .inr (.inr (6, [some (.inr (.inr 8)), some (.inl 2), some (.inl 63)])), .inl (.int, 10, 0, [(1, 1)]), .inr (.inr (1, [some (.inr (.inr 1)), some (.inr (.inr 10)), some (.inr (.inr 14)), some (.inr (.inr 18)), some (.inr (.inr 19)), some (.inr (.inr 20)), some (.inr (.inr 21)), some (.inr (.inr 22)), some (.inr (.inr 23)), some (.inl 0), some (.inl 0), some (.inl 0), some (.inl 0), some (.inl 0), some (.inl 0), some (.inl 0), some (.inl 0), some (.inl 0), some (.inr (.inr 7)), some (.inr (.inr 24)), some (.inr (.inr 25)), some (.inr (.inr 26)), some (.inr (.inr 27)), some (.inl 0)])), .inr (.inr (2, [some (.inr (.inr 11)), some (.inr (.inr 12)), some (.inr (.inr 13))])), .inl (.int, 300, 0, []), .inl (.int, 300, 0, []), .inl (.int, 300, 0, []), .inr (.inr (2, [some (.inr (.inr 15)), some (.inr (.inr 16)), some (.inr (.inr 17))])), .inl (.int, 300, 0, []), .inl (.int, 300, 0, []), .inl (.int, 300, 0, []), .inl (.int, 300, 0, []), .inl (.long, 300, 0, []), .inl (.int, 300, 0, []), .inl (.int, 300, 0, []), .inl (.int, 300, 0, []), .inl (.int, 10, 0, []), .inl (.int, 3612, 0, []), .inl (.int, 512, (-1), []), .inl (.int, 300, 0, []), .inl (.int, 300, 0, []), .inr (.inr (7, [some (.inr (.inr 1)), some (.inr (.inr 29)), some (.inr (.inr 33)), some (.inr (.inr 37)), some (.inr (.inr 38)), some (.inr (.inr 39)), some (.inr (.inr 40)), some (.inr (.inr 41)), some (.inr (.inr 42)), some (.inl 0), some (.inl 0), some (.inl 0), some (.inl 0), some (.inl 0), some (.inl 0), some (.inl 0), some (.inl 0), some (.inl 0), some (.inr (.inr 9)), some (.inr (.inr 43)), some (.inl 0)])), .inr (.inr (2, [some (.inr (.inr 30)), some (.inr (.inr 31)), some (.inr (.inr 32))])), .inl (.int, 150, 0, []), .inl (.int, 150, 0, []), .inl (.int, 150, 0, []), .inr (.inr (2, [some (.inr (.inr 34)), some (.inr (.inr 35)), some (.inr (.inr 36))])), .inl (.int, 150, 0, []), .inl (.int, 150, 0, []), .inl (.int, 150, 0, []), .inl (.int, 150, 0, []), .inl (.long, 150, 0, []), .inl (.int, 150, 0, []), .inl (.int, 150, 0, []), .inl (.int, 150, 0, []), .inl (.int, 8, 0, []), .inl (.int, 4096, (-1), []), .inr (.inr (5, [some (.inr (.inr 1)), some (.inr (.inr 9)), some (.inr (.inr 28)), some (.inr (.inr 45)), some (.inr (.inr 46)), some (.inr (.inr 47)), some (.inr (.inr 54)), some (.inr (.inr 55)), some (.inl 0), some (.inl 0), some (.inl 0), some (.inl 0), some (.inl 0), some (.inl 0)])), .inl (.int, 4096, 0, []), .inr (.inl [48, 49, 50]), .inr (.inl [51, 52, 53]), .inl (.int, 4096, 0, []), .inl (.int, 4096, 0, []), .inl (.int, 4096, 0, []), .inl (.int, 4096, 0, []), .inl (.int, 4096, 0, []), .inl (.int, 4096, 0, []), .inl (.int, 4096, 0, []), .inl (.int, 150, 0, []), .inr (.inr (4, [some (.inr (.inr 9)), some (.inr (.inr 28)), some (.inr (.inr 57)), some (.inr (.inr 58)), some (.inl 0), some (.inl 0), some (.inl 0)])), .inl (.int, 15, 0, []), .inl (.int, 15, 0, []), .inr (.inr (4, [some (.inr (.inr 9)), some (.inr (.inr 28)), some (.inr (.inr 60)), some (.inr (.inr 61)), some (.inl 0), some (.inl 0), some (.inl 0)])), .inl (.int, 15, 0, []), .inl (.int, 15, 0, []), .inr (.inr (3, [some (.inr (.inr 63))])), .inl (.int, 3, 0, []), .inr (.inr (8, [some (.inr (.inr 65)), some (.inl 0)])), .inl (.byte, 1024, 0, []), .inr (.inr (10, [some (.inl 0), some (.inl 1), some (.inl 5000), some (.inl 63), some (.inl 0), some (.inr (.inr 67)), some (.inl 2), some (.inr (.inr 68)), some (.inl 0), some (.inr (.inr 69)), some (.inr (.inr 70)), some (.inr (.inr 71)), some (.inr (.inr 72)), some (.inr (.inr 73)), some (.inr (.inr 74)), some (.inr (.inr 75)), some (.inr (.inr 76)), some (.inr (.inr 77)), some (.inr (.inr 78)), some (.inl 0), some (.inr (.inr 79)), some (.inr (.inr 80)), some (.inr (.inr 81)), some (.inr (.inr 82)), some (.inr (.inr 83)), some (.inr (.inr 84)), some (.inr (.inr 85)), some (.inr (.inr 86)), some (.inr (.inr 87)), some (.inr (.inr 88)), some (.inr (.inr 89)), some (.inr (.inr 90)), some (.inr (.inr 91)), some (.inl 0), some (.inr (.inr 92)), some (.inl 0), some (.inl 0), some (.inl 0), some (.inr (.inr 93)), some (.inl 0), some (.inl 0), some (.inl 0), some (.inr (.inr 94)), some (.inr (.inr 95)), some (.inr (.inr 96)), some (.inl 0), some (.inr (.inr 97)), some (.inl 0), some (.inr (.inr 98)), some (.inr (.inr 99)), some (.inl 0), some (.inl 0), some (.inr (.inr 100)), some (.inr (.inr 101)), some (.inr (.inr 102)), some (.inr (.inr 103)), some (.inr (.inr 104)), some (.inr (.inr 105)), some (.inr (.inr 106)), some (.inr (.inr 107)), some (.inl 0), some (.inr (.inr 108)), some (.inr (.inr 109)), some (.inr (.inr 110)), some (.inr (.inr 111))])), .inl (.int, 48, 0, []), .inl (.int, 10, 0, [(9, 0), (8, 0), (7, 0), (6, 0), (5, 0), (4, 0), (3, 0), (2, 0), (1, 1), (0, 0)]), .inl (.int, 301, 0, []), .inl (.int, 301, 0, []), .inl (.int, 301, 0, []), .inl (.int, 300, 0, []), .inl (.int, 300, 0, []), .inl (.int, 300, 0, []), .inl (.int, 300, 0, []), .inl (.int, 300, 0, []), .inl (.int, 3600, 0, []), .inl (.int, 300, 0, []), .inl (.int, 151, 0, []), .inl (.int, 151, 0, []), .inl (.int, 151, 0, []), .inl (.int, 150, 0, []), .inl (.int, 150, 0, []), .inl (.int, 150, 0, []), .inl (.int, 150, 0, []), .inl (.int, 150, 0, []), .inl (.int, 150, 0, []), .inl (.int, 2, 0, []), .inl (.int, 2, 0, []), .inl (.int, 2, 0, []), .inl (.boolean, 2, 0, []), .inl (.int, 12, 0, []), .inl (.int, 300, 0, []), .inl (.int, 300, 0, []), .inl (.int, 150, 0, []), .inl (.byte, 4000, 0, []), .inl (.int, 400, 0, []), .inl (.int, 300, 0, []), .inl (.int, 150, 0, []), .inl (.int, 4096, 0, []), .inl (.int, 16384, 0, []), .inl (.int, 16384, 0, []), .inl (.boolean, 300, 0, []), .inl (.boolean, 150, 0, []), .inl (.int, 32, 0, []), .inl (.int, 32, 0, []), .inl (.int, 32, 0, []), .inl (.int, 32, 0, []), .inl (.int, 32, 0, []), .inl (.long, 16384, 0, []), .inl (.int, 4096, 0, []), .inl (.long, 1, 0, [])]
def brv (v : xV) : xV := match v with
  | .inr (.inr a) => .inr (.inr (bpi a))
  | v => v
def bren (g : bC) : bC := match g with
  | .inl q => .inl q
  | .inr (.inl ids) => .inr (.inl (ids.map bpi))
  | .inr (.inr q) => .inr (.inr (q.1, q.2.map (Option.map brv)))
theorem bren_e {ρ ρ' : Nat → Nat} {ca : FieldType → ClassId} (h : ∀ k, ρ k = ρ' (bpi k)) (g : bC) : bE ρ ca g = bE ρ' ca (bren g) := by
  rcases g with q | ids | q
  · rfl
  · show (.inl (ca (.array .int), ids.length, .inr (.inr (.inr (.inr (fun j => (ids[j]?).map ρ))))) : va_E) = .inl (ca (.array .int), (ids.map bpi).length, .inr (.inr (.inr (.inr (fun j => ((ids.map bpi)[j]?).map ρ')))))
    rw [List.length_map]
    have e : (fun j : Nat => (ids[j]?).map ρ) = (fun j : Nat => ((ids.map bpi)[j]?).map ρ') := by
      funext j
      rw [List.getElem?_map, Option.map_map]
      congr 1
      funext k
      exact h k
    rw [e]
  · show (.inr (q.1, bF ρ q.2) : va_E) = .inr (q.1, bF ρ' (q.2.map (Option.map brv)))
    have e : bF ρ q.2 = bF ρ' (q.2.map (Option.map brv)) := by
      unfold bF
      rw [List.map_map]
      apply List.map_congr_left
      intro o _
      rcases o with _ | z | z | a
      · rfl
      · rfl
      · rfl
      · show Value.ref (ρ a) = .ref (ρ' (bpi a))
        rw [h]
    rw [e]
def bpk : Bool := Nat.beq bw4.length 113 && ((List.range 113).all (fun a => match bw4[a]?, bw3[bpi a]? with
  | some g, some g2 => bcq (bren g) g2
  | _, _ => false))
theorem bpk_ok : bpk = true := by decide +kernel
theorem bw4_P {ρ ρ' : Nat → Nat} {ca : FieldType → ClassId} {D : va_G} {H : Heap} (h : ∀ k, ρ k = ρ' (bpi k)) (hP : va_P D vcl (bWl ρ' ca bw3 0) H) : va_P D vcl (bWl ρ ca bw4 0) H := by
  intro k q hq
  have hk := bpk_ok
  unfold bpk at hk
  rw [Bool.and_eq_true] at hk
  have hl : bw4.length = 113 := nq_eq hk.1
  have hkl := (List.getElem?_eq_some_iff.mp hq).1
  rw [bWl_len, hl] at hkl
  have h1 := List.all_eq_true.mp hk.2 k (List.mem_range.mpr hkl)
  rw [bWl_get] at hq
  obtain ⟨g, hg, rfl⟩ := Option.map_eq_some_iff.mp hq
  rw [hg] at h1
  split at h1
  · rename_i g1 g2 e1 e2
    cases e1
    have h2 := hP (bpi k) _ (bW_get e2)
    rw [← bcq_e h1, ← bren_e h] at h2
    simp only [Nat.zero_add]
    rw [h k]
    exact h2
  · cases h1
def bh (w : List bC) : xH := fun a j => match w[a]? with
  | some (.inl q) => bkk q.2.2.2 q.2.2.1 j.toNat
  | some (.inr (.inr q)) => (match q.2[j.toNat]? with
    | some (some (.inl z)) => z
    | _ => 0)
  | _ => 0
def bsf : List (Option xV) → List (FieldType ⊕ Nat) → Bool
  | [], [] => true
  | some (.inl _) :: s, .inl ty :: t => (ftq ty .int || ftq ty .boolean) && bsf s t
  | some (.inr (.inr d)) :: s, .inr d' :: t => nq d d' && bsf s t
  | _, _ => false
def bsh (g : bC) (x : xS) : Bool := match g, x with
  | .inl p, .inl q => ftq p.1 q.1 && nq p.2.1 q.2
  | .inr (.inl p), .inr (.inl q) => decide (p = q)
  | .inr (.inr p), .inr (.inr q) => nq p.1 q.1 && bsf p.2 q.2
  | _, _ => false
def bshl : List bC → List xS → Bool
  | [], [] => true
  | g :: s, x :: t => bsh g x && bshl s t
  | _, _ => false
def bfv (fs : List (Option xV)) (j : Nat) : Int := match fs[j]? with
  | some (some (.inl z)) => z
  | _ => 0
theorem bsf_e (ρ : Nat → Nat) (h : Int → Int) : ∀ (fs : List (Option xV)) (ts : List (FieldType ⊕ Nat)) (k : Nat), bsf fs ts = true → (∀ i : Nat, i < fs.length → h ((k + i : Nat) : Int) = bfv fs i) → bF ρ fs = xF ρ h ts k
  | [], [], _, _, _ => rfl
  | some (.inl z) :: s, .inl ty :: t, k, hb, hh => by
    simp only [bsf, Bool.and_eq_true, Bool.or_eq_true] at hb
    have ih := bsf_e ρ h s t (k + 1) hb.2 (fun i hi => by
      have := hh (i + 1) (by simp; omega)
      rw [show k + 1 + i = k + (i + 1) by omega]
      exact this)
    have h0 : h (k : Int) = z := hh 0 (by simp)
    show xc ρ (.inl z) :: bF ρ s = xc ρ (xmk ty (h k)) :: xF ρ h t (k + 1)
    rw [ih, h0]
    rcases hb.1 with e | e <;> rw [ftq_e e] <;> rfl
  | some (.inr (.inr d)) :: s, .inr d' :: t, k, hb, hh => by
    simp only [bsf, Bool.and_eq_true] at hb
    have ih := bsf_e ρ h s t (k + 1) hb.2 (fun i hi => by
      have := hh (i + 1) (by simp; omega)
      rw [show k + 1 + i = k + (i + 1) by omega]
      exact this)
    show xc ρ (.inr (.inr d)) :: bF ρ s = .ref (ρ d') :: xF ρ h t (k + 1)
    rw [ih, nq_eq hb.1]
    rfl
  | [], _ :: _, _, hb, _ => by simp [bsf] at hb
  | none :: _, _, _, hb, _ => by simp [bsf] at hb
  | some (.inl _) :: _, [], _, hb, _ => by simp [bsf] at hb
  | some (.inl _) :: _, .inr _ :: _, _, hb, _ => by simp [bsf] at hb
  | some (.inr (.inr _)) :: _, [], _, hb, _ => by simp [bsf] at hb
  | some (.inr (.inr _)) :: _, .inl _ :: _, _, hb, _ => by simp [bsf] at hb
  | some (.inr (.inl _)) :: _, _, _, hb, _ => by simp [bsf] at hb
theorem bsh_e (ρ : Nat → Nat) (ca : FieldType → ClassId) {w : List bC} {a : Nat} {g : bC} {x : xS} (hw : w[a]? = some g) (hb : bsh g x = true) : bE ρ ca g = xE ρ ca (bh w a) x := by
  unfold bsh at hb
  split at hb
  · rename_i p q
    simp only [Bool.and_eq_true] at hb
    have e : (fun j : Int => bkk p.2.2.2 p.2.2.1 j.toNat) = bh w a := by
      funext j
      unfold bh
      rw [hw]
    show xEn ca (fun j : Int => bkk p.2.2.2 p.2.2.1 j.toNat) p.1 p.2.1 = xEn ca (bh w a) q.1 q.2
    rw [e, ftq_e hb.1, nq_eq hb.2]
  · rename_i p q
    rw [of_decide_eq_true hb]
    rfl
  · rename_i p q
    simp only [Bool.and_eq_true] at hb
    show (.inr (p.1, bF ρ p.2) : va_E) = .inr (q.1, xF ρ (bh w a) q.2 0)
    rw [nq_eq hb.1, bsf_e ρ (bh w a) p.2 q.2 0 hb.2 (fun i hi => ?_)]
    unfold bh
    rw [hw]
    show (match p.2[((0 + i : Nat) : Int).toNat]? with
      | some (some (.inl z)) => z
      | _ => 0) = bfv p.2 i
    rw [Int.toNat_natCast, Nat.zero_add]
    rfl
  · cases hb
theorem bshl_g : ∀ (w : List bC) (G : List xS), bshl w G = true → w.length = G.length ∧ ∀ (i : Nat) (g : bC) (x : xS), w[i]? = some g → G[i]? = some x → bsh g x = true
  | [], [], _ => ⟨rfl, fun i g x h => by cases h⟩
  | g :: s, x :: t, h => by
    simp only [bshl, Bool.and_eq_true] at h
    obtain ⟨h1, h2⟩ := bshl_g s t h.2
    refine ⟨by simp [h1], fun i g' x' hg hx => ?_⟩
    cases i with
    | zero => cases hg; cases hx; exact h.1
    | succ i => exact h2 i g' x' hg hx
  | [], _ :: _, h => by cases h
  | _ :: _, [], h => by cases h
theorem bW_x (ρ : Nat → Nat) (ca : FieldType → ClassId) {w : List bC} {G : List xS} (h : bshl w G = true) : bWl ρ ca w 0 = xWl ρ ca (bh w) G 0 := by
  obtain ⟨h1, h2⟩ := bshl_g w G h
  apply List.ext_getElem?
  intro i
  rw [bWl_get, xWl_get]
  cases hg : w[i]? with
  | none =>
    have : G[i]? = none := by
      rw [List.getElem?_eq_none_iff] at hg ⊢
      omega
    rw [this]
    rfl
  | some g =>
    cases hx : G[i]? with
    | none =>
      exfalso
      rw [List.getElem?_eq_none_iff] at hx
      have := (List.getElem?_eq_some_iff.mp hg).1
      omega
    | some x =>
      simp only [Option.map_some, Nat.zero_add]
      rw [bsh_e ρ ca hg (h2 i g x hg hx)]
theorem bw4_ok : bshl bw4 G0 = true := by decide +kernel
def h00 : xH := bh bw4
set_option maxRecDepth 20000 in
theorem h00_v : h00 1 2 = 0 ∧ h00 1 1 = 1 ∧ h00 7 1 = 2 ∧ h00 0 9 = 5000 ∧ h00 66 4 = 0 ∧ h00 66 1 = 1 ∧ h00 66 6 = 2 ∧ h00 66 3 = 63 ∧ h00 7 2 = 63 ∧ h00 66 2 = 5000 ∧ h00 64 1 = 0 ∧ h00 66 45 = 0 := by decide +kernel
set_option maxRecDepth 20000 in
theorem h00_8 : ∀ i : Fin 2, h00 8 (i.val : Int) = i.val ∧ h00 68 (i.val : Int) = i.val := by decide +kernel
theorem h00_B : IB h00 := by
  obtain ⟨a1, a2, a3, a4, a5, a6, a7, a8, a9, a10, a11, a12⟩ := h00_v
  have hi : ∀ i : Int, 0 ≤ i → i < h00 7 1 → h00 8 i = i ∧ h00 68 i = i ∧ i < 2 := fun i h0 h1 => by
    rw [a3] at h1
    have := h00_8 ⟨i.toNat, by omega⟩
    rw [show ((i.toNat : Nat) : Int) = i from Int.toNat_of_nonneg h0] at this
    exact ⟨this.1, this.2, h1⟩
  refine ⟨by rw [a1]; decide, by rw [a2]; decide, fun e h0 h1 => by rw [a1] at h1; omega, by rw [a3]; decide, fun i h0 h1 => ?_, by rw [a4]; decide, by rw [a5, a1], by rw [a6, a2], by rw [a7, a3], by rw [a8, a9], by rw [a10, a4], fun e h0 h1 => by rw [a1] at h1; omega, fun i h0 h1 => ?_⟩
  · have := hi i h0 h1
    rw [this.1]; omega
  · have := hi i h0 h1
    rw [this.1, this.2.1]
theorem h00_X : IX h00 := by
  obtain ⟨a1, a2, a3, a4, a5, a6, a7, a8, a9, a10, a11, a12⟩ := h00_v
  exact ⟨by rw [a11]; decide, by rw [a11, a12], fun i h0 h1 => by rw [a11] at h1; omega⟩
