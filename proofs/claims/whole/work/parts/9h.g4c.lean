/-! half B, G4: whole; class and reference count the same crossings -/
theorem opp {w1 w2 x y : Int} (h1 : 0 < w1) (h2 : 0 < w2) (e : w1 * x + w2 * y = 0) : (0 < x ∧ y < 0) ∨ (x < 0 ∧ 0 < y) ∨ (x = 0 ∧ y = 0) := by
  rcases Int.lt_trichotomy x 0 with h | h | h
  · have a1 : w1 * x < 0 := Int.mul_neg_of_pos_of_neg h1 h
    have a2 : 0 < w2 * y := by omega
    exact Or.inr (Or.inl ⟨h, Int.pos_of_mul_pos_right a2 (by omega)⟩)
  · rw [h, Int.mul_zero, Int.zero_add] at e
    rcases Int.mul_eq_zero.mp e with q | q
    · omega
    · exact Or.inr (Or.inr ⟨h, q⟩)
  · have a1 : 0 < w1 * x := Int.mul_pos h1 h
    have a2 : w2 * y < 0 := by omega
    refine Or.inl ⟨h, ?_⟩
    rcases Int.lt_trichotomy y 0 with g | g | g
    · exact g
    · rw [g, Int.mul_zero] at a2; omega
    · have := Int.mul_pos h2 g; omega
theorem g4_up {a b c d u1 u2 v1 v2 : Int32} (hUV : ¬ (u1 = v1 ∧ u2 = v2)) (hs : rayS (u1.toInt + v1.toInt) (u2.toInt + v2.toInt) a.toInt b.toInt c.toInt d.toInt = 0) (h1 : 2 * b.toInt ≤ u2.toInt + v2.toInt) (h2 : u2.toInt + v2.toInt < 2 * d.toInt) : clash u1 u2 v1 v2 a b c d ∨ sameP u1 u2 v1 v2 a b c d := by
  have hUV' : ¬ (u1.toInt = v1.toInt ∧ u2.toInt = v2.toInt) := fun z => hUV ⟨i32eq.mpr z.1, i32eq.mpr z.2⟩
  by_cases hb : 2 * b.toInt = u2.toInt + v2.toInt
  · have ha : 2 * a.toInt = u1.toInt + v1.toInt := by
      unfold rayS at hs
      have z : u2.toInt + v2.toInt - 2 * b.toInt = 0 := by omega
      rw [z, Int.mul_zero] at hs
      have : (d.toInt - b.toInt) * (u1.toInt + v1.toInt - 2 * a.toInt) = 0 := by omega
      rcases Int.mul_eq_zero.mp this with q | q <;> omega
    refine Or.inl (Or.inl ⟨⟨?_, ?_, by unfold bt; omega, by unfold bt; omega⟩, ?_⟩)
    · intro z; rw [z.1] at ha; rw [z.2] at hb; omega
    · intro z; rw [z.1] at ha; rw [z.2] at hb; omega
    · unfold crs
      have e1 : (v1.toInt - u1.toInt) * (2 * b.toInt - 2 * u2.toInt) = (v2.toInt - u2.toInt) * (2 * a.toInt - 2 * u1.toInt) := by
        rw [ha, hb]; grind
      grind
  · have k1 := g4_sum a.toInt b.toInt c.toInt d.toInt u1.toInt u2.toInt v1.toInt v2.toInt
    have k2 := g4_dif a.toInt b.toInt c.toInt d.toInt u1.toInt u2.toInt v1.toInt v2.toInt
    have k3 := g4_mul a.toInt b.toInt c.toInt d.toInt u1.toInt u2.toInt v1.toInt v2.toInt
    rw [hs, Int.mul_zero] at k3
    rw [hs] at k1
    have o := opp (by omega) (by omega) k3
    by_cases h0 : crs a.toInt b.toInt c.toInt d.toInt u1.toInt u2.toInt = 0
    · have hv0 : crs a.toInt b.toInt c.toInt d.toInt v1.toInt v2.toInt = 0 := by omega
      have hA : crs u1.toInt u2.toInt v1.toInt v2.toInt a.toInt b.toInt = 0 := by omega
      have hC : crs u1.toInt u2.toInt v1.toInt v2.toInt c.toInt d.toInt = 0 := by omega
      rcases Int.lt_trichotomy u2.toInt v2.toInt with g | g | g
      · exact g4_line (by omega) g (by omega) (by omega) hA hC h0 hv0
      · exfalso
        unfold crs at h0 hv0
        rw [g] at h0
        have : (d.toInt - b.toInt) * (u1.toInt - v1.toInt) = 0 := by grind
        rcases Int.mul_eq_zero.mp this with q | q <;> omega
      · have r := g4_line (a := a) (b := b) (c := c) (d := d) (u1 := v1) (u2 := v2) (v1 := u1) (v2 := u2) (by omega) g (by omega) (by omega) (by rw [crs_sw]; omega) (by rw [crs_sw]; omega) hv0 h0
        rcases r with r | r
        · exact Or.inl (clash_sy.mp (clash_sw.mp (clash_sy.mp r)))
        · exact Or.inr (sameP_sy (sameP_sw (sameP_sy r)))
    · refine Or.inl (Or.inr (Or.inr (Or.inr (Or.inr ?_))))
      unfold cr32
      rw [sg_mul, sg_mul]
      omega
theorem g4 {n : Nat} {ax ay bx b_y : Nat → Int32} (I1 : pcs n ax ay bx b_y) (I2 : apt n ax ay bx b_y) {k q : Nat} (hk : k < n) (hq : q < n) : crC ax ay bx b_y k q ↔ crM ax ay bx b_y k q := by
  have none0 : q ≠ k → ¬ ((ay k).toInt + (b_y k).toInt < 2 * (ay q).toInt ∧ 2 * (b_y q).toInt ≤ (ay k).toInt + (b_y k).toInt ∧ rayS ((ax k).toInt + (bx k).toInt) ((ay k).toInt + (b_y k).toInt) (ax q).toInt (ay q).toInt (bx q).toInt (b_y q).toInt = 0) := by
    intro hne ⟨z1, z2, z3⟩
    have z4 : rayS ((ax k).toInt + (bx k).toInt) ((ay k).toInt + (b_y k).toInt) (bx q).toInt (b_y q).toInt (ax q).toInt (ay q).toInt = 0 := by
      rw [g4_sum] at z3 ⊢
      rw [crs_sw, crs_sw (ax q).toInt]; omega
    have r := g4_up (lessP_ne (I1 k hk).2) z4 z2 z1
    have o := I2 k q hk hq (fun z => hne z.symm)
    rcases r with r | r
    · exact o.1 (clash_sw.mp r)
    · exact o.2 (sameP_sw r)
  unfold crC crM ray rayM
  constructor
  · intro ⟨z1, z2⟩
    exact ⟨z1, by omega⟩
  · intro ⟨z1, z2⟩
    have := none0 z1
    exact ⟨z1, by omega⟩
theorem in_same {n : Nat} {ax ay bx b_y mk : Nat → Int32} (I1 : pcs n ax ay bx b_y) (I2 : apt n ax ay bx b_y) {k : Nat} (hk : k < n) : inC n ax ay bx b_y mk k = inM n ax ay bx b_y mk k := by
  unfold inC inM
  apply xo_ext
  intro q hq
  rw [propext (g4 I1 I2 hk hq)]
