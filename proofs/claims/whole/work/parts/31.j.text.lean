theorem dgt_r {z : Int} (h : -99 ≤ z ∧ z ≤ 99) : (dgt z).length ≤ 3 := by
  unfold dgt
  simp only [List.length_append, List.length_cons, List.length_nil]
  split <;> split <;> simp
theorem wrU_r (k : Int) : (wrU k).length ≤ 4 := by
  unfold wrU
  split
  · simp
  · split <;> simp
