/-! half B, G4: the middle of a piece lies on no other piece -/
theorem bt_line {D E h w : Int} (hD : 0 < D) (h0 : 0 ≤ h) (h1 : h ≤ D) (e : D * w = E * h) : (0 ≤ w ∧ w ≤ E) ∨ (E ≤ w ∧ w ≤ 0) := by
  by_cases c : 0 ≤ E
  · left
    have a1 : 0 ≤ D * w := by rw [e]; exact Int.mul_nonneg c h0
    have a2 : D * w ≤ D * E := by rw [e, Int.mul_comm D E]; exact Int.mul_le_mul_of_nonneg_left h1 c
    refine ⟨?_, Int.le_of_mul_le_mul_left a2 hD⟩
    exact Int.le_of_mul_le_mul_left (by rw [Int.mul_zero]; exact a1) hD
  · right
    have a1 : D * w ≤ 0 := by
      rw [e]
      exact Int.mul_nonpos_of_nonpos_of_nonneg (by omega) h0
    have a2 : D * E ≤ D * w := by
      rw [e, Int.mul_comm D E]
      exact Int.mul_le_mul_of_nonpos_left (by omega) h1
    exact ⟨Int.le_of_mul_le_mul_left a2 hD, Int.le_of_mul_le_mul_left (by rw [Int.mul_zero]; exact a1) hD⟩
theorem g4_sum (a b c d u1 u2 v1 v2 : Int) : rayS (u1 + v1) (u2 + v2) a b c d = crs a b c d u1 u2 + crs a b c d v1 v2 := by unfold rayS crs; grind
theorem g4_dif (a b c d u1 u2 v1 v2 : Int) : crs u1 u2 v1 v2 c d - crs u1 u2 v1 v2 a b = crs a b c d u1 u2 - crs a b c d v1 v2 := by unfold crs; grind
theorem g4_mul (a b c d u1 u2 v1 v2 : Int) : (2 * d - (u2 + v2)) * crs u1 u2 v1 v2 a b + (u2 + v2 - 2 * b) * crs u1 u2 v1 v2 c d = (u2 - v2) * rayS (u1 + v1) (u2 + v2) a b c d := by unfold rayS crs; grind
