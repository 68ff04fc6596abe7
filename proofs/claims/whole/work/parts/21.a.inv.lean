/-! what is found for sets, as a pure thing -/
/-- each of a is in b -/
def sub (a b : Int) : Prop := xand a (xxor b (-1)) = 0
/-- how often a PART stands, out of the uses -/
def pin (u p : Int) : Int := xand (xlushr u (4 * p)) 15
def lk (u p : Int) : Prop := p = -1 ∨ pin u p = 0
noncomputable def lf (S : xH) (KE p set : Int) : Int := fnd (fun k => lk (S 11 k) p ∧ sub set (S 6 k)) KE.toNat
noncomputable def sz0 (S : xH) (KE p set : Int) : Int := if lf S KE p set = -1 then 1000000 else S 4 (lf S KE p set)
/-- a TEST parts a set in two -/
def prt (T : xH) (p set t : Int) : Prop := lk (T 11 t) p ∧ xand set (T 6 t) ≠ 0 ∧ xand set (T 6 t) ≠ set
def szt (T : xH) (f : Int → Int) (set t : Int) : Int := 1 + T 4 t + f (xand set (T 6 t)) + f (xxor set (xand set (T 6 t)))
noncomputable def stpf (T : xH) (p : Int) (f : Int → Int) (b0 set : Int) : Nat → Int
  | 0 => b0
  | m + 1 => @ite _ (prt T p set m ∧ szt T f set m < stpf T p f b0 set m) (Classical.propDecidable _) (szt T f set m) (stpf T p f b0 set m)
noncomputable def szf (S T : xH) (KE KT p : Int) : Nat → Int → Int
  | 0 => sz0 S KE p
  | i + 1 => fun set => stpf T p (szf S T KE KT p i) (sz0 S KE p set) set KT.toNat
/-- in how many ways: those that FIT, then by TESTS -/
noncomputable def cnf (S : xH) (set z : Int) : Nat → Int
  | 0 => 0
  | m + 1 => cnf S set z m + @ite _ (sub set (S 6 m) ∧ S 4 m = z) (Classical.propDecidable _) 1 0
noncomputable def wst (T : xH) (f g : Int → Int) (set z : Int) (c0 : Int) : Nat → Int
  | 0 => c0
  | m + 1 => @ite _ (prt T (-1) set m ∧ szt T f set m = z) (Classical.propDecidable _) (if wst T f g set z c0 m + g (xand set (T 6 m)) * g (xxor set (xand set (T 6 m))) < 1000000000 then wst T f g set z c0 m + g (xand set (T 6 m)) * g (xxor set (xand set (T 6 m))) else 1000000000) (wst T f g set z c0 m)
noncomputable def wyf (S T : xH) (KE KT : Int) : Nat → Int → Int
  | 0 => fun set => if 1000000 ≤ szf S T KE KT (-1) 0 set then 0 else cnf S set (szf S T KE KT (-1) 0 set) KE.toNat
  | i + 1 => fun set => if 1000000 ≤ szf S T KE KT (-1) (i + 1) set then 0 else wst T (szf S T KE KT (-1) i) (wyf S T KE KT i) set (szf S T KE KT (-1) (i + 1) set) (cnf S set (szf S T KE KT (-1) (i + 1) set) KE.toNat) KT.toNat
/-- the fewest that COVER a set, at most m looked for -/
noncomputable def few1 (S : xH) (f : Int → Int) (set : Int) : Nat → Int
  | 0 => 1000000
  | m + 1 => @ite _ (xand set (xxor (S 6 m) (-1)) ≠ set ∧ f (xand set (xxor (S 6 m) (-1))) + 1 < few1 S f set m) (Classical.propDecidable _) (f (xand set (xxor (S 6 m) (-1))) + 1) (few1 S f set m)
noncomputable def fwf (S : xH) (KE : Int) : Nat → Int → Int
  | 0 => fun _ => 0
  | q + 1 => fun set => if set = 0 then 0 else few1 S (fwf S KE q) set KE.toNat
/-- what the solver holds, of the first KE EXPRESSIONS and the first KT TESTS, p barred -/
def CCH (h S T : xH) (KE KT p : Int) : Prop :=
  (∀ set : Int, 0 ≤ set → set < (2 ^ (h 1 2).toNat : Nat) → h 45 set = (if lf S KE p set = -1 then 300 else lf S KE p set) ∧ h 48 set = sz0 S KE p set ∧ (h 49 set = 0 ∨ h 49 set = szf S T KE KT p 1 set) ∧ (h 50 set = 0 ∨ h 50 set = szf S T KE KT p 2 set) ∧ (h 51 set = 0 ∨ (p = -1 ∧ h 51 set = wyf S T KE KT 0 set)) ∧ (h 52 set = 0 ∨ (p = -1 ∧ h 52 set = wyf S T KE KT 1 set)) ∧ (h 53 set = 0 ∨ (p = -1 ∧ h 53 set = wyf S T KE KT 2 set)) ∧ (h 54 set = 0 ∨ (p = -1 ∧ h 54 set = fwf S KE set.toNat set))) ∧
  (0 ≤ h 44 9 ∧ h 44 9 < (2 ^ (h 1 2).toNat : Nat)) ∧ (∀ set : Int, 0 ≤ set → set < (2 ^ (h 1 2).toNat : Nat) → ¬ sub set (h 44 9) → ∃ e : Nat, (e : Int) < h 1 2 ∧ set.toNat.testBit e = true ∧ ∀ k, 0 ≤ k → k < KE → lk (S 11 k) p → (S 6 k).toNat.testBit e = false) ∧ (∀ e : Nat, (h 44 9).toNat.testBit e = true → ∃ k, 0 ≤ k ∧ k < KE ∧ lk (S 11 k) p ∧ (S 6 k).toNat.testBit e = true) ∧
  (0 ≤ h 44 8 ∧ h 44 8 ≤ KT ∧ (∀ i, 0 ≤ i → i < h 44 8 → 0 ≤ h 55 i ∧ h 55 i < KT ∧ lk (T 11 (h 55 i)) p) ∧ (∀ i j, 0 ≤ i → i < j → j < h 44 8 → h 55 i < h 55 j) ∧ (∀ t, 0 ≤ t → t < KT → lk (T 11 t) p → ∃ i, 0 ≤ i ∧ i < h 44 8 ∧ h 55 i = t))
/-- a PROGRAM as a tree -/
def TRp (as le : Int → Int) (S T : xH) : Nat → Int → Prop
  | 0, nd => as nd = -1 ∧ 0 ≤ le nd ∧ le nd < S 0 0
  | d + 1, nd => (as nd = -1 ∧ 0 ≤ le nd ∧ le nd < S 0 0) ∨ (0 ≤ as nd ∧ as nd < T 0 0 ∧ le nd = -1 ∧ TRp as le S T d (2 * nd + 1) ∧ TRp as le S T d (2 * nd + 2))
def szp (as le : Int → Int) (S T : xH) : Nat → Int → Int
  | 0, nd => S 4 (le nd)
  | d + 1, nd => if as nd = -1 then S 4 (le nd) else T 4 (as nd) + 1 + szp as le S T d (2 * nd + 1) + szp as le S T d (2 * nd + 2)
/-! the invariants that couple both -/
def IB (h : xH) : Prop := (0 ≤ h 1 2 ∧ h 1 2 ≤ 12) ∧ (1 ≤ h 1 1 ∧ h 1 1 ≤ 3) ∧ (∀ e, 0 ≤ e → e < h 1 2 → (-99 ≤ h 3 e ∧ h 3 e ≤ 99) ∧ (-99 ≤ h 4 e ∧ h 4 e ≤ 99) ∧ (-99 ≤ h 5 e ∧ h 5 e ≤ 99) ∧ (-999 ≤ h 6 e ∧ h 6 e ≤ 999)) ∧ (2 ≤ h 7 1 ∧ h 7 1 ≤ 10) ∧ (∀ i, 0 ≤ i → i < h 7 1 → -99 ≤ h 8 i ∧ h 8 i ≤ 99) ∧ (1 ≤ h 0 9 ∧ h 0 9 ≤ 20000) ∧
  h 66 4 = h 1 2 ∧ h 66 1 = h 1 1 ∧ h 66 6 = h 7 1 ∧ h 66 3 = h 7 2 ∧ h 66 2 = h 0 9 ∧ (∀ e, 0 ≤ e → e < h 1 2 → h 67 (4 * e) = h 3 e ∧ h 67 (4 * e + 1) = h 4 e ∧ h 67 (4 * e + 2) = h 5 e ∧ h 67 (4 * e + 3) = h 6 e) ∧ (∀ i, 0 ≤ i → i < h 7 1 → h 68 i = h 8 i)
def IE (h S : xH) : Prop := RC h S ∧ RR h S ∧ WE (h 1 2) S ∧ ENZ h S ∧ FW (h 1 2) (h 6) 9 S ∧ (h 9 14 = 0 → FW (h 1 2) (h 6) (h 9 13) S) ∧ (0 ≤ h 9 13 ∧ h 9 13 ≤ 9) ∧ (0 ≤ h 9 14 ∧ h 9 14 ≤ 1) ∧ h 88 0 = h 9 13 ∧ h 91 0 = h 9 14 ∧ h 9 11 = 0 ∧ h 90 0 = S 0 2 ∧ S 0 2 ≤ 20000 * (h 9 13 + h 9 14)
def IT (h S T : xH) : Prop := RCT h T ∧ RRT h T ∧ WT (h 1 2) T ∧ ETZ h T ∧ FWT S 7 T ∧ (h 28 14 = 0 → FWT S (h 28 13) T) ∧ (h 28 13 = 0 ∨ (3 ≤ h 28 13 ∧ h 28 13 ≤ 7)) ∧ (0 ≤ h 28 14 ∧ h 28 14 ≤ 1) ∧ h 88 1 = h 28 13 ∧ h 91 1 = h 28 14 ∧ h 90 1 = T 0 2 ∧ T 0 2 ≤ 20000 * (h 28 13 + h 28 14)
def IP (h S T : xH) : Prop := (h 56 4 = 0 ∨ h 56 4 = 1) ∧ h 66 50 = h 56 4 ∧ (h 56 4 = 1 → TRp (h 57) (h 58) S T 3 0 ∧ h 56 5 = szp (h 57) (h 58) S T 3 0 ∧ h 66 60 = h 56 5 ∧ (0 ≤ h 56 6 ∧ h 56 6 ≤ 3) ∧ h 66 51 = h 56 6 ∧ (∀ nd, 0 ≤ nd → nd < 15 → h 105 (nd + 1) = h 57 nd ∧ h 106 (nd + 1) = h 58 nd ∧ -1 ≤ h 57 nd ∧ h 57 nd < T 0 0 ∧ -1 ≤ h 58 nd ∧ h 58 nd < S 0 0) ∧ (∀ j, 0 ≤ j → j < 32 → (j = 0 ∨ 16 ≤ j) → h 105 j = -1 ∧ h 106 j = -1) ∧ (∀ nd, 0 ≤ nd → nd < 15 → (h 57 nd = -1 ∨ h 58 nd = -1) ∧ (7 ≤ nd → h 57 nd = -1)))
def IS (h S T : xH) : Prop := (h 44 13 = 0 ∨ h 44 13 = 1) ∧ (xr (h 44 10) ∧ xr (h 44 11) ∧ xr (h 44 12)) ∧ (h 44 13 = 1 → 0 ≤ h 44 11 ∧ h 44 11 ≤ S 0 0 ∧ 0 ≤ h 44 12 ∧ h 44 12 ≤ T 0 0 ∧ (h 44 10 = -1 ∨ (0 ≤ h 44 10 ∧ h 44 10 ≤ 9)) ∧ CCH h S T (h 44 11) (h 44 12) (h 44 10))
def IX (h : xH) : Prop := (0 ≤ h 64 1 ∧ h 64 1 ≤ 1024) ∧ h 66 45 = h 64 1 ∧ ∀ i, 0 ≤ i → i < h 64 1 → h 96 i = h 65 i
def Inv (h : xH) : Prop := ∃ S T, IB h ∧ IE h S ∧ IT h S T ∧ IP h S T ∧ IS h S T ∧ IX h
theorem IB_b {h : xH} (i : IB h) : B0 h := by
  obtain ⟨n, -, r, -⟩ := i
  refine ⟨n, fun e h1 h2 => ?_⟩
  obtain ⟨a, b, c, e9⟩ := r e h1 h2
  refine ⟨⟨by omega, by omega⟩, fun j => ?_⟩
  unfold rwf
  split
  · exact ⟨by omega, by omega⟩
  · split
    · exact ⟨by omega, by omega⟩
    · exact ⟨by omega, by omega⟩
/-- the fields and rows that calls may use as they like -/
def scr (a : Nat) : Prop := a = 92 ∨ a = 93 ∨ a = 94 ∨ a = 95 ∨ a = 97 ∨ a = 98 ∨ a = 99 ∨ a = 100 ∨ a = 101 ∨ a = 102 ∨ a = 103 ∨ a = 104 ∨ a = 107 ∨ a = 108 ∨ a = 109 ∨ a = 110 ∨ a = 111 ∨ a = 112 ∨ a = 62 ∨ a = 63 ∨ a = 59 ∨ a = 60 ∨ a = 61
def mdf (j : Int) : Prop := j = 1 ∨ j = 2 ∨ j = 3 ∨ j = 4 ∨ j = 6 ∨ j = 8 ∨ j = 19 ∨ j = 33 ∨ j = 45 ∨ j = 50 ∨ j = 51 ∨ j = 60
/-- nothing that counts has changed -/
def FM (h h' : xH) : Prop := (∀ a, ¬ scr a → a ≠ 66 → a ≠ 69 → a ≠ 70 → a ≠ 71 → a ≠ 79 → a ≠ 80 → a ≠ 81 → h' a = h a) ∧ (∀ j, mdf j → h' 66 j = h 66 j) ∧ (∀ k, k < 300 → h' 69 k = h 69 k ∧ h' 70 k = h 70 k ∧ h' 71 k = h 71 k) ∧ (∀ k, k < 150 → h' 79 k = h 79 k ∧ h' 80 k = h 80 k ∧ h' 81 k = h 81 k)
theorem FM.rf (h : xH) : FM h h := ⟨fun _ _ _ _ _ _ _ _ _ => rfl, fun _ _ => rfl, fun _ _ => ⟨rfl, rfl, rfl⟩, fun _ _ => ⟨rfl, rfl, rfl⟩⟩
theorem FM.tr {h1 h2 h3 : xH} (a : FM h1 h2) (b : FM h2 h3) : FM h1 h3 := ⟨fun x q0 q1 q2 q3 q4 q5 q6 q7 => (b.1 x q0 q1 q2 q3 q4 q5 q6 q7).trans (a.1 x q0 q1 q2 q3 q4 q5 q6 q7), fun j q => (b.2.1 j q).trans (a.2.1 j q), fun k q => ⟨(b.2.2.1 k q).1.trans (a.2.2.1 k q).1, (b.2.2.1 k q).2.1.trans (a.2.2.1 k q).2.1, (b.2.2.1 k q).2.2.trans (a.2.2.1 k q).2.2⟩, fun k q => ⟨(b.2.2.2 k q).1.trans (a.2.2.2 k q).1, (b.2.2.2 k q).2.1.trans (a.2.2.2 k q).2.1, (b.2.2.2 k q).2.2.trans (a.2.2.2 k q).2.2⟩⟩
theorem FM.up {h h' : xH} (f : FM h h') {a : Nat} {j z : Int} (ha : scr a ∨ (a = 66 ∧ ¬ mdf j)) : FM h (xup h' a j z) := by
  have hz : a = 66 ∨ scr a := by rcases ha with q | q; exact Or.inr q; exact Or.inl q.1
  have hne : ∀ x, ¬ scr x → x ≠ 66 → x ≠ a := fun x q1 q2 q3 => by
    subst q3
    rcases hz with q | q
    · exact q2 q
    · exact q1 q
  refine ⟨fun x q0 q1 q2 q3 q4 q5 q6 q7 => ?_, fun i q => ?_, fun k q => ?_, fun k q => ?_⟩
  · rw [← f.1 x q0 q1 q2 q3 q4 q5 q6 q7]
    exact xup_o h' a j z x (hne x q0 q1)
  · rw [← f.2.1 i q]
    rcases ha with q1 | q1
    · rw [xup_a (fun e => by subst e; revert q1; unfold scr; decide)]
    · obtain ⟨e, q2⟩ := q1
      subst e
      rw [xup_j (fun e => q2 (by rw [← e]; exact q))]
  · obtain ⟨g1, g2, g3⟩ := f.2.2.1 k q
    rw [xup_a (hne _ (by unfold scr; decide) (by decide)), xup_a (hne _ (by unfold scr; decide) (by decide)), xup_a (hne _ (by unfold scr; decide) (by decide))]
    exact ⟨g1, g2, g3⟩
  · obtain ⟨g1, g2, g3⟩ := f.2.2.2 k q
    rw [xup_a (hne _ (by unfold scr; decide) (by decide)), xup_a (hne _ (by unfold scr; decide) (by decide)), xup_a (hne _ (by unfold scr; decide) (by decide))]
    exact ⟨g1, g2, g3⟩
