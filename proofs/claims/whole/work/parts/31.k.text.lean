theorem tadd_o {h : xH} {v : Int} {a : Nat} (h1 : a ≠ 64) (h2 : a ≠ 65) : tadd h v a = h a := by
  unfold tadd
  rw [xup_o _ _ _ _ a h1, xup_o _ _ _ _ a h2]
theorem tadds_o {a : Nat} (h1 : a ≠ 64) (h2 : a ≠ 65) : ∀ (s : List Int) (h : xH), tadds h s a = h a
  | [], _ => rfl
  | v :: s, h => by
    show tadds (tadd h v) s a = _
    rw [tadds_o h1 h2 s, tadd_o h1 h2]
theorem ta1 (h : xH) (s : List Int) (v : Int) : tadd (tadds h s) v = tadds h (s ++ [v]) := by rw [tadds_a]; rfl
theorem ta0 (h : xH) : tadds h [] = h := rfl
