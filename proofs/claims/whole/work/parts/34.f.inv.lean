/-! the invariant holds at the start -/
set_option maxRecDepth 20000 in
theorem h00_w : (h00 9 9 = 0 ∧ h00 9 10 = 0 ∧ h00 9 11 = 0 ∧ h00 9 12 = 0 ∧ h00 9 13 = 0 ∧ h00 9 14 = 0) ∧ (h00 28 9 = 0 ∧ h00 28 10 = 0 ∧ h00 28 11 = 0 ∧ h00 28 12 = 0 ∧ h00 28 13 = 0 ∧ h00 28 14 = 0) ∧ (h00 9 16 = 0 ∧ h00 9 17 = 0 ∧ h00 28 16 = 0 ∧ h00 28 17 = 0) ∧ (h00 44 13 = 0 ∧ h00 44 10 = 0 ∧ h00 44 11 = 0 ∧ h00 44 12 = 0) ∧ h00 56 4 = 0 ∧ (h00 66 8 = 0 ∧ h00 66 19 = 0 ∧ h00 66 33 = 0 ∧ h00 66 50 = 0) := by decide +kernel
theorem h00_I : Inv h00 := by
  obtain ⟨a1, a2, ⟨b1, b2, b3, b4⟩, ⟨c1, c2, c3, c4⟩, a5, a6⟩ := h00_w
  have x0 : xr 0 := ⟨by decide, by decide⟩
  exact Inv_goes h00_B h00_X a1 (fun j _ _ => rfl) ⟨fun v _ _ => Or.inl ⟨rfl, fun k h0 h1 => by omega⟩, fun k h0 h1 => by omega⟩ ⟨by rw [b1]; decide, by rw [b2]; decide, by rw [b2]; decide⟩ a2 (fun j _ _ => rfl) ⟨fun v _ _ => Or.inl ⟨rfl, fun k h0 h1 => by omega⟩, fun k h0 h1 => by omega, fun j k h0 h1 h2 => by omega⟩ ⟨by rw [b3]; decide, by rw [b4]; decide, by rw [b4]; decide⟩ ⟨c1, by rw [c2]; exact x0, by rw [c3]; exact x0, by rw [c4]; exact x0⟩ a5 a6 (fun j _ _ => ⟨rfl, rfl, rfl, rfl⟩)
