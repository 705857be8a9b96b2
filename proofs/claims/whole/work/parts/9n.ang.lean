/-! half B, G1: directions round a point in order -/
def Uh (x y : Int) : Prop := 0 < y ∨ (y = 0 ∧ x < 0)
def cr2 (x y u v : Int) : Int := x * v - y * u
def aL (x y u v : Int) : Prop := (Uh x y ∧ ¬ Uh u v) ∨ ((Uh x y ↔ Uh u v) ∧ 0 < cr2 x y u v)
def snr (P Q R : Int) : Prop := (P ≤ 0 ∧ 0 < Q) ∨ (P < 0 ∧ 0 ≤ Q) ∨ (((P < 0 ∧ Q < 0) ∨ (P = 0 ∧ Q = 0) ∨ (0 < P ∧ 0 < Q)) ∧ R < 0)
theorem cr2_sw (x y u v : Int) : cr2 u v x y = - cr2 x y u v := by unfold cr2; grind
theorem tU {x y u v s t : Int} (h1 : Uh x y) (h2 : Uh u v) (h3 : Uh s t) (k1 : 0 ≤ cr2 x y u v) (k2 : 0 ≤ cr2 u v s t) : 0 ≤ cr2 x y s t ∧ ((0 < cr2 x y u v ∨ 0 < cr2 u v s t) → 0 < cr2 x y s t) := by
  have e : v * cr2 x y s t = y * cr2 u v s t + t * cr2 x y u v := by unfold cr2; grind
  unfold Uh at h1 h2 h3
  rcases h2 with h2 | ⟨h2, h2'⟩
  · have y0 : 0 < y := by
      rcases h1 with z | ⟨z, z'⟩
      · exact z
      · unfold cr2 at k1; rw [z] at k1
        have := Int.mul_neg_of_neg_of_pos z' h2
        omega
    have a1 : 0 ≤ y * cr2 u v s t := Int.mul_nonneg (by omega) k2
    have a2 : 0 ≤ t * cr2 x y u v := Int.mul_nonneg (by omega) k1
    constructor
    · rcases Int.lt_or_le (cr2 x y s t) 0 with z | z
      · have := Int.mul_neg_of_pos_of_neg h2 z; omega
      · exact z
    · intro hz
      have a3 : 0 < v * cr2 x y s t := by
        rcases hz with z | z
        · rcases h3 with w | ⟨w, w'⟩
          · have := Int.mul_pos w z; omega
          · have b1 : 0 < cr2 u v s t := by
              unfold cr2; rw [w]
              have := Int.mul_neg_of_pos_of_neg h2 w'
              omega
            have := Int.mul_pos y0 b1; omega
        · have := Int.mul_pos y0 z; omega
      exact Int.pos_of_mul_pos_right a3 (by omega)
  · rw [h2] at k1 k2 ⊢
    have c1 : cr2 x y u 0 = -(y * u) := by unfold cr2; omega
    have c2 : cr2 u 0 s t = u * t := by unfold cr2; omega
    rw [c1] at k1 ⊢; rw [c2] at k2 ⊢
    have t0 : t = 0 := by
      rcases h3 with z | z
      · have := Int.mul_neg_of_neg_of_pos h2' z; omega
      · exact z.1
    rw [t0]
    have s0 : s < 0 := by omega
    have c3 : cr2 x y s 0 = -(y * s) := by unfold cr2; omega
    rw [c3]
    have y0 : 0 ≤ y := by omega
    constructor
    · have := Int.mul_nonpos_of_nonneg_of_nonpos y0 (show s ≤ 0 by omega); omega
    · intro hz
      have y1 : 0 < y := by
        rcases hz with z | z
        · rcases Int.lt_or_le 0 y with w | w
          · exact w
          · have : y = 0 := by omega
            rw [this] at z; omega
        · omega
      have := Int.mul_neg_of_pos_of_neg y1 s0; omega
theorem rkU {x y u v s t : Int} (h1 : Uh x y) (h2 : Uh u v) (h3 : Uh s t) : ∃ i j l : Int, ((0 < cr2 x y u v ↔ i < j) ∧ (cr2 x y u v < 0 ↔ j < i)) ∧ ((0 < cr2 x y s t ↔ i < l) ∧ (cr2 x y s t < 0 ↔ l < i)) ∧ ((0 < cr2 u v s t ↔ j < l) ∧ (cr2 u v s t < 0 ↔ l < j)) := by
  have a1 := tU h1 h2 h3
  have a2 := tU h1 h3 h2
  have a3 := tU h2 h1 h3
  have a4 := tU h2 h3 h1
  have a5 := tU h3 h1 h2
  have a6 := tU h3 h2 h1
  rw [cr2_sw u v s t] at a2 a5 a6
  rw [cr2_sw x y u v] at a3 a4 a6
  rw [cr2_sw x y s t] at a4 a5 a6
  generalize cr2 x y u v = c1 at *
  generalize cr2 x y s t = c2 at *
  generalize cr2 u v s t = c3 at *
  rcases Int.lt_trichotomy c1 0 with g1 | g1 | g1 <;> rcases Int.lt_trichotomy c2 0 with g2 | g2 | g2 <;> rcases Int.lt_trichotomy c3 0 with g3 | g3 | g3 <;> first | (exfalso; omega) | exact ⟨0, 0, 0, by omega⟩ | exact ⟨0, 0, 1, by omega⟩ | exact ⟨0, 1, 0, by omega⟩ | exact ⟨1, 0, 0, by omega⟩ | exact ⟨0, 1, 1, by omega⟩ | exact ⟨1, 0, 1, by omega⟩ | exact ⟨1, 1, 0, by omega⟩ | exact ⟨0, 1, 2, by omega⟩ | exact ⟨0, 2, 1, by omega⟩ | exact ⟨1, 0, 2, by omega⟩ | exact ⟨1, 2, 0, by omega⟩ | exact ⟨2, 0, 1, by omega⟩ | exact ⟨2, 1, 0, by omega⟩
def rlD (h1 h2 : Prop) (c i j : Int) : Prop := ((h1 ↔ h2) → (0 < c ↔ i < j) ∧ (c < 0 ↔ j < i)) ∧ (¬ (h1 ↔ h2) → (0 < c ↔ j < i) ∧ (c < 0 ↔ i < j))
theorem Uh_neg {x y : Int} (h : ¬ (x = 0 ∧ y = 0)) (hu : ¬ Uh x y) : Uh (-x) (-y) := by unfold Uh at *; omega
theorem cr2_n1 (x y u v : Int) : cr2 (-x) (-y) u v = - cr2 x y u v := by unfold cr2; grind
theorem cr2_n2 (x y u v : Int) : cr2 x y (-u) (-v) = - cr2 x y u v := by unfold cr2; grind
theorem vec3 {x y u v s t : Int} (h1 : ¬ (x = 0 ∧ y = 0)) (h2 : ¬ (u = 0 ∧ v = 0)) (h3 : ¬ (s = 0 ∧ t = 0)) : ∃ i j l : Int, rlD (Uh x y) (Uh u v) (cr2 x y u v) i j ∧ rlD (Uh x y) (Uh s t) (cr2 x y s t) i l ∧ rlD (Uh u v) (Uh s t) (cr2 u v s t) j l := by
  unfold rlD
  by_cases u1 : Uh x y <;> by_cases u2 : Uh u v <;> by_cases u3 : Uh s t
  · obtain ⟨i, j, l, z⟩ := rkU u1 u2 u3
    refine ⟨i, j, l, ?_⟩; simp only [u1, u2, u3, iff_self, not_true_eq_false, not_false_eq_true, true_implies, false_implies, iff_true, iff_false, true_iff, false_iff, true_and, and_true, false_and, and_false, or_false, false_or]; omega
  · obtain ⟨i, j, l, z⟩ := rkU u1 u2 (Uh_neg h3 u3)
    refine ⟨i, j, l, ?_⟩; simp only [cr2_n1, cr2_n2] at z; simp only [u1, u2, u3, iff_self, not_true_eq_false, not_false_eq_true, true_implies, false_implies, iff_true, iff_false, true_iff, false_iff, true_and, and_true, false_and, and_false, or_false, false_or]; omega
  · obtain ⟨i, j, l, z⟩ := rkU u1 (Uh_neg h2 u2) u3
    refine ⟨i, j, l, ?_⟩; simp only [cr2_n1, cr2_n2] at z; simp only [u1, u2, u3, iff_self, not_true_eq_false, not_false_eq_true, true_implies, false_implies, iff_true, iff_false, true_iff, false_iff, true_and, and_true, false_and, and_false, or_false, false_or]; omega
  · obtain ⟨i, j, l, z⟩ := rkU u1 (Uh_neg h2 u2) (Uh_neg h3 u3)
    refine ⟨i, j, l, ?_⟩; simp only [cr2_n1, cr2_n2] at z; simp only [u1, u2, u3, iff_self, not_true_eq_false, not_false_eq_true, true_implies, false_implies, iff_true, iff_false, true_iff, false_iff, true_and, and_true, false_and, and_false, or_false, false_or]; omega
  · obtain ⟨i, j, l, z⟩ := rkU (Uh_neg h1 u1) u2 u3
    refine ⟨i, j, l, ?_⟩; simp only [cr2_n1, cr2_n2] at z; simp only [u1, u2, u3, iff_self, not_true_eq_false, not_false_eq_true, true_implies, false_implies, iff_true, iff_false, true_iff, false_iff, true_and, and_true, false_and, and_false, or_false, false_or]; omega
  · obtain ⟨i, j, l, z⟩ := rkU (Uh_neg h1 u1) u2 (Uh_neg h3 u3)
    refine ⟨i, j, l, ?_⟩; simp only [cr2_n1, cr2_n2] at z; simp only [u1, u2, u3, iff_self, not_true_eq_false, not_false_eq_true, true_implies, false_implies, iff_true, iff_false, true_iff, false_iff, true_and, and_true, false_and, and_false, or_false, false_or]; omega
  · obtain ⟨i, j, l, z⟩ := rkU (Uh_neg h1 u1) (Uh_neg h2 u2) u3
    refine ⟨i, j, l, ?_⟩; simp only [cr2_n1, cr2_n2] at z; simp only [u1, u2, u3, iff_self, not_true_eq_false, not_false_eq_true, true_implies, false_implies, iff_true, iff_false, true_iff, false_iff, true_and, and_true, false_and, and_false, or_false, false_or]; omega
  · obtain ⟨i, j, l, z⟩ := rkU (Uh_neg h1 u1) (Uh_neg h2 u2) (Uh_neg h3 u3)
    refine ⟨i, j, l, ?_⟩; simp only [cr2_n1, cr2_n2] at z; simp only [u1, u2, u3, iff_self, not_true_eq_false, not_false_eq_true, true_implies, false_implies, iff_true, iff_false, true_iff, false_iff, true_and, and_true, false_and, and_false, or_false, false_or]; omega
theorem aL_tr {x y u v s t : Int} (h1 : ¬ (x = 0 ∧ y = 0)) (h2 : ¬ (u = 0 ∧ v = 0)) (h3 : ¬ (s = 0 ∧ t = 0)) (k1 : aL x y u v) (k2 : aL u v s t) : aL x y s t := by
  obtain ⟨i, j, l, z1, z2, z3⟩ := vec3 h1 h2 h3
  unfold aL rlD at *
  by_cases u1 : Uh x y <;> by_cases u2 : Uh u v <;> by_cases u3 : Uh s t <;> simp only [u1, u2, u3, iff_self, not_true_eq_false, not_false_eq_true, true_implies, false_implies, iff_true, iff_false, true_iff, false_iff, true_and, and_true, false_and, and_false, or_false, false_or] at * <;> omega
theorem aL_ir {x y : Int} : ¬ aL x y x y := by
  unfold aL
  have : cr2 x y x y = 0 := by unfold cr2; grind
  rw [this]
  intro z
  rcases z with z | z
  · exact z.2 z.1
  · omega
theorem aL_to {x y u v : Int} (hd : ¬ ((Uh x y ↔ Uh u v) ∧ cr2 x y u v = 0)) : aL x y u v ∨ aL u v x y := by
  unfold aL
  rw [cr2_sw x y u v]
  by_cases u1 : Uh x y <;> by_cases u2 : Uh u v <;> simp only [u1, u2, iff_self, not_true_eq_false, not_false_eq_true, true_implies, false_implies, iff_true, iff_false, true_iff, false_iff, true_and, and_true, false_and, and_false, or_false, false_or] at * <;> omega
def dif2 (x y u v : Int) : Prop := ¬ ((Uh x y ↔ Uh u v) ∧ cr2 x y u v = 0)
theorem snr_aL {x y u v s t : Int} (h1 : ¬ (x = 0 ∧ y = 0)) (h2 : ¬ (u = 0 ∧ v = 0)) (h3 : ¬ (s = 0 ∧ t = 0)) (d1 : dif2 x y u v) (d2 : dif2 x y s t) (d3 : dif2 u v s t) : snr (cr2 x y u v) (cr2 x y s t) (cr2 u v s t) ↔ (aL u v x y ∧ aL x y s t) ∨ ((aL u v x y ↔ aL s t x y) ∧ aL s t u v) := by
  obtain ⟨i, j, l, z1, z2, z3⟩ := vec3 h1 h2 h3
  unfold aL rlD snr dif2 at *
  rw [cr2_sw x y u v, cr2_sw x y s t, cr2_sw u v s t]
  by_cases u1 : Uh x y <;> by_cases u2 : Uh u v <;> by_cases u3 : Uh s t <;> simp only [u1, u2, u3, iff_self, not_true_eq_false, not_false_eq_true, true_implies, false_implies, iff_true, iff_false, true_iff, false_iff, true_and, and_true, false_and, and_false, or_false, false_or] at * <;> omega
