/-! half B, G1: pieces that do not clash lie off each other -/
/-- how the piece a b - c d lies off the piece u - w that does not have u in common with it -/
def ncl (u1 u2 w1 w2 a b c d : Int) : Prop := (0 < crs u1 u2 w1 w2 a b ∧ 0 < crs u1 u2 w1 w2 c d) ∨ (crs u1 u2 w1 w2 a b < 0 ∧ crs u1 u2 w1 w2 c d < 0) ∨ (0 < crs a b c d u1 u2 ∧ 0 ≤ crs a b c d w1 w2) ∨ (crs a b c d u1 u2 < 0 ∧ crs a b c d w1 w2 ≤ 0) ∨ (crs u1 u2 w1 w2 a b = 0 ∧ crs u1 u2 w1 w2 c d = 0 ∧ crs a b c d u1 u2 = 0 ∧ crs a b c d w1 w2 = 0)
theorem tri_x (u1 u2 w1 w2 a b c d : Int) : crs u1 u2 w1 w2 c d * (a - u1) - crs u1 u2 w1 w2 a b * (c - u1) = crs a b c d u1 u2 * (w1 - u1) := by unfold crs; grind
theorem tri_y (u1 u2 w1 w2 a b c d : Int) : crs u1 u2 w1 w2 c d * (b - u2) - crs u1 u2 w1 w2 a b * (d - u2) = crs a b c d u1 u2 * (w2 - u2) := by unfold crs; grind
theorem op_bt {s t x y : Int} (h : (0 < s ∧ t < 0) ∨ (s < 0 ∧ 0 < t)) (e : s * x = t * y) : (0 ≤ x ∧ y ≤ 0) ∨ (x ≤ 0 ∧ 0 ≤ y) := by
  rcases h with ⟨h1, h2⟩ | ⟨h1, h2⟩
  · have := opp (w1 := s) (w2 := -t) (x := x) (y := y) h1 (by omega) (by rw [Int.neg_mul]; omega)
    omega
  · have := opp (w1 := -s) (w2 := t) (x := x) (y := y) (by omega) h2 (by rw [Int.neg_mul]; omega)
    omega
/-- u on the line of A C, and A, C on both sides of a line through u: u lies between them -/
theorem mid_in {u1 u2 w1 w2 a b c d : Int32} (hA : ¬ (u1 = a ∧ u2 = b)) (hC : ¬ (u1 = c ∧ u2 = d)) (h : (0 < crs u1.toInt u2.toInt w1.toInt w2.toInt c.toInt d.toInt ∧ crs u1.toInt u2.toInt w1.toInt w2.toInt a.toInt b.toInt < 0) ∨ (crs u1.toInt u2.toInt w1.toInt w2.toInt c.toInt d.toInt < 0 ∧ 0 < crs u1.toInt u2.toInt w1.toInt w2.toInt a.toInt b.toInt)) (e : crs a.toInt b.toInt c.toInt d.toInt u1.toInt u2.toInt = 0) : inSeg a b c d u1 u2 := by
  have ex := tri_x u1.toInt u2.toInt w1.toInt w2.toInt a.toInt b.toInt c.toInt d.toInt
  have ey := tri_y u1.toInt u2.toInt w1.toInt w2.toInt a.toInt b.toInt c.toInt d.toInt
  rw [e, Int.zero_mul] at ex ey
  have bx := op_bt h (x := a.toInt - u1.toInt) (y := c.toInt - u1.toInt) (by omega)
  have b_y := op_bt h (x := b.toInt - u2.toInt) (y := d.toInt - u2.toInt) (by omega)
  refine ⟨⟨hA, hC, ?_, ?_⟩, e⟩
  · unfold bt; omega
  · unfold bt; omega
theorem ln_in {u1 u2 w1 w2 a b c d : Int32} (hA : ¬ (a = u1 ∧ b = u2)) (h0 : crs u1.toInt u2.toInt w1.toInt w2.toInt a.toInt b.toInt = 0) (h1 : crs u1.toInt u2.toInt w1.toInt w2.toInt c.toInt d.toInt ≠ 0) (hn : ¬ inSeg u1 u2 w1 w2 a b) : ncl u1.toInt u2.toInt w1.toInt w2.toInt a.toInt b.toInt c.toInt d.toInt := by
  have ex := tri_x u1.toInt u2.toInt w1.toInt w2.toInt a.toInt b.toInt c.toInt d.toInt
  have ey := tri_y u1.toInt u2.toInt w1.toInt w2.toInt a.toInt b.toInt c.toInt d.toInt
  have ed := g4_dif a.toInt b.toInt c.toInt d.toInt u1.toInt u2.toInt w1.toInt w2.toInt
  rw [h0, Int.zero_mul] at ex ey
  rw [h0] at ed
  have hA' : ¬ (a.toInt = u1.toInt ∧ b.toInt = u2.toInt) := fun z => hA ⟨i32eq.mpr z.1, i32eq.mpr z.2⟩
  have hU : crs a.toInt b.toInt c.toInt d.toInt u1.toInt u2.toInt ≠ 0 := by
    intro z
    rw [z, Int.zero_mul] at ex ey
    have q1 : a.toInt - u1.toInt = 0 := by
      rcases Int.mul_eq_zero.mp (show crs u1.toInt u2.toInt w1.toInt w2.toInt c.toInt d.toInt * (a.toInt - u1.toInt) = 0 by omega) with q | q
      · exact absurd q h1
      · exact q
    have q2 : b.toInt - u2.toInt = 0 := by
      rcases Int.mul_eq_zero.mp (show crs u1.toInt u2.toInt w1.toInt w2.toInt c.toInt d.toInt * (b.toInt - u2.toInt) = 0 by omega) with q | q
      · exact absurd q h1
      · exact q
    omega
  have key : ¬ ((0 < crs a.toInt b.toInt c.toInt d.toInt u1.toInt u2.toInt ∧ crs a.toInt b.toInt c.toInt d.toInt w1.toInt w2.toInt < 0) ∨ (crs a.toInt b.toInt c.toInt d.toInt u1.toInt u2.toInt < 0 ∧ 0 < crs a.toInt b.toInt c.toInt d.toInt w1.toInt w2.toInt)) := by
    intro z
    apply hn
    have nw : ¬ (a = w1 ∧ b = w2) := by
      intro g
      rw [g.1, g.2] at ex ey
      have q1 : (crs u1.toInt u2.toInt w1.toInt w2.toInt c.toInt d.toInt - crs w1.toInt w2.toInt c.toInt d.toInt u1.toInt u2.toInt) * (w1.toInt - u1.toInt) = 0 := by rw [Int.sub_mul]; omega
      have q2 : (crs u1.toInt u2.toInt w1.toInt w2.toInt c.toInt d.toInt - crs w1.toInt w2.toInt c.toInt d.toInt u1.toInt u2.toInt) * (w2.toInt - u2.toInt) = 0 := by rw [Int.sub_mul]; omega
      rw [g.1, g.2] at z ed hA'
      rcases Int.mul_eq_zero.mp q1 with q | q
      · omega
      · rcases Int.mul_eq_zero.mp q2 with q' | q' <;> omega
    rcases z with z | z
    · have bx := bt_line (D := crs u1.toInt u2.toInt w1.toInt w2.toInt c.toInt d.toInt) (E := w1.toInt - u1.toInt) (h := crs a.toInt b.toInt c.toInt d.toInt u1.toInt u2.toInt) (w := a.toInt - u1.toInt) (by omega) (by omega) (by omega) (by rw [Int.mul_comm (w1.toInt - u1.toInt)]; omega)
      have b_y := bt_line (D := crs u1.toInt u2.toInt w1.toInt w2.toInt c.toInt d.toInt) (E := w2.toInt - u2.toInt) (h := crs a.toInt b.toInt c.toInt d.toInt u1.toInt u2.toInt) (w := b.toInt - u2.toInt) (by omega) (by omega) (by omega) (by rw [Int.mul_comm (w2.toInt - u2.toInt)]; omega)
      exact ⟨⟨hA, nw, by unfold bt; omega, by unfold bt; omega⟩, h0⟩
    · have bx := bt_line (D := - crs u1.toInt u2.toInt w1.toInt w2.toInt c.toInt d.toInt) (E := w1.toInt - u1.toInt) (h := - crs a.toInt b.toInt c.toInt d.toInt u1.toInt u2.toInt) (w := a.toInt - u1.toInt) (by omega) (by omega) (by omega) (by rw [Int.mul_comm (w1.toInt - u1.toInt), Int.neg_mul, Int.neg_mul]; omega)
      have b_y := bt_line (D := - crs u1.toInt u2.toInt w1.toInt w2.toInt c.toInt d.toInt) (E := w2.toInt - u2.toInt) (h := - crs a.toInt b.toInt c.toInt d.toInt u1.toInt u2.toInt) (w := b.toInt - u2.toInt) (by omega) (by omega) (by omega) (by rw [Int.mul_comm (w2.toInt - u2.toInt), Int.neg_mul, Int.neg_mul]; omega)
      exact ⟨⟨hA, nw, by unfold bt; omega, by unfold bt; omega⟩, h0⟩
  unfold ncl
  omega
theorem ncl_sw {u1 u2 w1 w2 a b c d : Int} (h : ncl u1 u2 w1 w2 c d a b) : ncl u1 u2 w1 w2 a b c d := by
  unfold ncl at *
  rw [crs_sw a b c d u1 u2, crs_sw a b c d w1 w2] at h
  omega
theorem ncl_of {u1 u2 w1 w2 a b c d : Int32} (huw : ¬ (u1 = w1 ∧ u2 = w2)) (hA : ¬ (a = u1 ∧ b = u2)) (hC : ¬ (c = u1 ∧ d = u2)) (hn : ¬ clash u1 u2 w1 w2 a b c d) : ncl u1.toInt u2.toInt w1.toInt w2.toInt a.toInt b.toInt c.toInt d.toInt := by
  have ed := g4_dif a.toInt b.toInt c.toInt d.toInt u1.toInt u2.toInt w1.toInt w2.toInt
  have n1 : ¬ inSeg u1 u2 w1 w2 a b := fun z => hn (Or.inl z)
  have n2 : ¬ inSeg u1 u2 w1 w2 c d := fun z => hn (Or.inr (Or.inl z))
  have n3 : ¬ inSeg a b c d u1 u2 := fun z => hn (Or.inr (Or.inr (Or.inl z)))
  have n4 : ¬ inSeg a b c d w1 w2 := fun z => hn (Or.inr (Or.inr (Or.inr (Or.inl z))))
  have n5 : ¬ (sg (crs u1.toInt u2.toInt w1.toInt w2.toInt a.toInt b.toInt) * sg (crs u1.toInt u2.toInt w1.toInt w2.toInt c.toInt d.toInt) < 0 ∧ sg (crs a.toInt b.toInt c.toInt d.toInt u1.toInt u2.toInt) * sg (crs a.toInt b.toInt c.toInt d.toInt w1.toInt w2.toInt) < 0) := fun z => hn (Or.inr (Or.inr (Or.inr (Or.inr z))))
  rw [sg_mul, sg_mul] at n5
  by_cases s1 : crs u1.toInt u2.toInt w1.toInt w2.toInt a.toInt b.toInt = 0
  · by_cases s2 : crs u1.toInt u2.toInt w1.toInt w2.toInt c.toInt d.toInt = 0
    · have ex := tri_x u1.toInt u2.toInt w1.toInt w2.toInt a.toInt b.toInt c.toInt d.toInt
      have ey := tri_y u1.toInt u2.toInt w1.toInt w2.toInt a.toInt b.toInt c.toInt d.toInt
      rw [s1, s2, Int.zero_mul, Int.zero_mul] at ex ey
      have huw' : ¬ (u1.toInt = w1.toInt ∧ u2.toInt = w2.toInt) := fun z => huw ⟨i32eq.mpr z.1, i32eq.mpr z.2⟩
      have hU : crs a.toInt b.toInt c.toInt d.toInt u1.toInt u2.toInt = 0 := by
        rcases Int.mul_eq_zero.mp ex.symm with q | q
        · exact q
        · rcases Int.mul_eq_zero.mp ey.symm with q' | q'
          · exact q'
          · omega
      unfold ncl
      omega
    · exact ln_in hA s1 s2 n1
  · by_cases s2 : crs u1.toInt u2.toInt w1.toInt w2.toInt c.toInt d.toInt = 0
    · exact ncl_sw (ln_in hC s2 s1 n2)
    · have hu0 : ¬ ((0 < crs u1.toInt u2.toInt w1.toInt w2.toInt c.toInt d.toInt ∧ crs u1.toInt u2.toInt w1.toInt w2.toInt a.toInt b.toInt < 0) ∨ (crs u1.toInt u2.toInt w1.toInt w2.toInt c.toInt d.toInt < 0 ∧ 0 < crs u1.toInt u2.toInt w1.toInt w2.toInt a.toInt b.toInt)) ∨ crs a.toInt b.toInt c.toInt d.toInt u1.toInt u2.toInt ≠ 0 := by
        apply Classical.byContradiction
        intro z
        rw [not_or, Classical.not_not, Classical.not_not] at z
        exact n3 (mid_in (fun g => hA ⟨g.1.symm, g.2.symm⟩) (fun g => hC ⟨g.1.symm, g.2.symm⟩) z.1 z.2)
      have hw0 : ¬ ((0 < crs u1.toInt u2.toInt w1.toInt w2.toInt c.toInt d.toInt ∧ crs u1.toInt u2.toInt w1.toInt w2.toInt a.toInt b.toInt < 0) ∨ (crs u1.toInt u2.toInt w1.toInt w2.toInt c.toInt d.toInt < 0 ∧ 0 < crs u1.toInt u2.toInt w1.toInt w2.toInt a.toInt b.toInt)) ∨ crs a.toInt b.toInt c.toInt d.toInt w1.toInt w2.toInt ≠ 0 := by
        apply Classical.byContradiction
        intro z
        rw [not_or, Classical.not_not, Classical.not_not] at z
        have e0 : ∀ g1 g2 h1 h2 : Int, crs g1 g2 h1 h2 h1 h2 = 0 := by intro g1 g2 h1 h2; unfold crs; grind
        refine n4 (mid_in (u1 := w1) (u2 := w2) (w1 := u1) (w2 := u2) (fun g => ?_) (fun g => ?_) ?_ z.2)
        · rw [← g.1, ← g.2] at s1; exact s1 (e0 _ _ _ _)
        · rw [← g.1, ← g.2] at s2; exact s2 (e0 _ _ _ _)
        · rw [crs_sw u1.toInt u2.toInt w1.toInt w2.toInt c.toInt d.toInt, crs_sw u1.toInt u2.toInt w1.toInt w2.toInt a.toInt b.toInt]; omega
      unfold ncl
      omega
/-- scaled by s: the point that divides u - w by r, and u -/
theorem off_sc {u1 u2 w1 w2 a b c d s r : Int} (h : ncl u1 u2 w1 w2 a b c d) (hr : 0 < r) (hs : r < s) : offE (s * u1 + r * (w1 - u1)) (s * u2 + r * (w2 - u2)) (s * u1) (s * u2) (s * a) (s * b) (s * c) (s * d) := by
  have e1 : crs (s * u1 + r * (w1 - u1)) (s * u2 + r * (w2 - u2)) (s * u1) (s * u2) (s * a) (s * b) = -((s * r) * crs u1 u2 w1 w2 a b) := by unfold crs; grind
  have e2 : crs (s * u1 + r * (w1 - u1)) (s * u2 + r * (w2 - u2)) (s * u1) (s * u2) (s * c) (s * d) = -((s * r) * crs u1 u2 w1 w2 c d) := by unfold crs; grind
  have e3 : crs (s * a) (s * b) (s * c) (s * d) (s * u1 + r * (w1 - u1)) (s * u2 + r * (w2 - u2)) = (s * (s - r)) * crs a b c d u1 u2 + (s * r) * crs a b c d w1 w2 := by unfold crs; grind
  have e4 : crs (s * a) (s * b) (s * c) (s * d) (s * u1) (s * u2) = (s * s) * crs a b c d u1 u2 := by unfold crs; grind
  have p1 : 0 < s * r := Int.mul_pos (by omega) hr
  have p2 : 0 < s * (s - r) := Int.mul_pos (by omega) (by omega)
  have p3 : 0 < s * s := Int.mul_pos (by omega) (by omega)
  unfold offE
  rw [e1, e2, e3, e4]
  unfold ncl at h
  generalize crs u1 u2 w1 w2 a b = cA at *
  generalize crs u1 u2 w1 w2 c d = cC at *
  generalize crs a b c d u1 u2 = cU at *
  generalize crs a b c d w1 w2 = cW at *
  rcases h with ⟨h1, h2⟩ | ⟨h1, h2⟩ | ⟨h1, h2⟩ | ⟨h1, h2⟩ | ⟨h1, h2, h3, h4⟩
  · have := Int.mul_pos p1 h1; have := Int.mul_pos p1 h2; omega
  · have := Int.mul_neg_of_pos_of_neg p1 h1; have := Int.mul_neg_of_pos_of_neg p1 h2; omega
  · have := Int.mul_pos p2 h1; have := Int.mul_pos p3 h1; have := Int.mul_nonneg (show 0 ≤ s * r by omega) h2; omega
  · have := Int.mul_neg_of_pos_of_neg p2 h1; have := Int.mul_neg_of_pos_of_neg p3 h1; have := Int.mul_nonpos_of_nonneg_of_nonpos (show 0 ≤ s * r by omega) h2; omega
  · rw [h1, h2, h3, h4]; simp
