/-! half B: numbers. Coordinates as integers; sides; comparisons of longs -/
def inB (x : Int32) : Prop := -500000000 ≤ x.toInt ∧ x.toInt ≤ 500000000
def crs (px py qx qy x y : Int) : Int := (qx - px) * (y - py) - (qy - py) * (x - px)
def sg (z : Int) : Int32 := if 0 < z then 1 else if z < 0 then (-1) else 0
theorem lcl (x y : Int64) : lg_cmp x y ≤ 0 ↔ x.toInt ≤ y.toInt := by
  unfold lg_cmp
  by_cases h1 : x > y
  · rw [if_pos h1]
    have h2 : y.toInt < x.toInt := Int64.lt_iff_toInt_lt.mp h1
    constructor
    · intro h; exact absurd h (by decide)
    · intro h; omega
  · rw [if_neg h1]
    have h2 : ¬ y.toInt < x.toInt := fun z => h1 (Int64.lt_iff_toInt_lt.mpr z)
    by_cases h3 : x = y
    · rw [if_pos h3, h3]; exact ⟨fun _ => Int.le_refl _, fun _ => by decide⟩
    · rw [if_neg h3]; exact ⟨fun _ => by omega, fun _ => by decide⟩
theorem lcg (x y : Int64) : 0 ≤ lg_cmp x y ↔ y.toInt ≤ x.toInt := by
  rw [lg_cmp_ge, Int64.le_iff_toInt_le]
theorem lce (x y : Int64) : lg_cmp x y = 0 ↔ x.toInt = y.toInt := by
  have h1 := lcl x y
  have h2 := lcg x y
  constructor
  · intro h
    rw [h] at h1 h2
    have := h1.mp (by decide)
    have := h2.mp (by decide)
    omega
  · intro h
    have : x = y := Int64.toInt_inj.mp h
    subst this
    unfold lg_cmp
    rw [if_neg (by intro z; have := Int64.lt_iff_toInt_lt.mp z; omega), if_pos rfl]
theorem L_sub {a b : Int64} (h1 : -9223372036854775808 ≤ a.toInt - b.toInt) (h2 : a.toInt - b.toInt < 9223372036854775808) : (a - b).toInt = a.toInt - b.toInt := by
  rw [Int64.toInt_sub]
  exact Int.bmod_eq_of_le (by omega) (by omega)
theorem L_add {a b : Int64} (h1 : -9223372036854775808 ≤ a.toInt + b.toInt) (h2 : a.toInt + b.toInt < 9223372036854775808) : (a + b).toInt = a.toInt + b.toInt := by
  rw [Int64.toInt_add]
  exact Int.bmod_eq_of_le (by omega) (by omega)
theorem L_mul {a b : Int64} (h1 : -9223372036854775808 ≤ a.toInt * b.toInt) (h2 : a.toInt * b.toInt < 9223372036854775808) : (a * b).toInt = a.toInt * b.toInt := by
  rw [Int64.toInt_mul]
  exact Int.bmod_eq_of_le (by omega) (by omega)
theorem mul_in {a b : Int} {M N : Nat} (ha : a.natAbs ≤ M) (hb : b.natAbs ≤ N) : -((M * N : Nat) : Int) ≤ a * b ∧ a * b ≤ ((M * N : Nat) : Int) := by
  have h : (a * b).natAbs ≤ M * N := by rw [Int.natAbs_mul]; exact Nat.mul_le_mul ha hb
  omega
theorem L_mul' {a b : Int64} (ha : a.toInt.natAbs ≤ 2000000000) (hb : b.toInt.natAbs ≤ 2000000000) : (a * b).toInt = a.toInt * b.toInt := by
  have h := mul_in ha hb
  exact L_mul (by omega) (by omega)
theorem L_dif {x y : Int32} (hx : inB x) (hy : inB y) : (x.toInt64 - y.toInt64).toInt = x.toInt - y.toInt ∧ (x.toInt - y.toInt).natAbs ≤ 1000000000 := by
  obtain ⟨a, b⟩ := hx
  obtain ⟨c, d⟩ := hy
  refine ⟨?_, by omega⟩
  have h := L_sub (a := x.toInt64) (b := y.toInt64) (by rw [Int32.toInt_toInt64, Int32.toInt_toInt64]; omega) (by rw [Int32.toInt_toInt64, Int32.toInt_toInt64]; omega)
  rw [h, Int32.toInt_toInt64, Int32.toInt_toInt64]
theorem L_prod {x y z w : Int32} (hx : inB x) (hy : inB y) (hz : inB z) (hw : inB w) : ((x.toInt64 - y.toInt64) * (z.toInt64 - w.toInt64)).toInt = (x.toInt - y.toInt) * (z.toInt - w.toInt) := by
  obtain ⟨e1, b1⟩ := L_dif hx hy
  obtain ⟨e2, b2⟩ := L_dif hz hw
  rw [L_mul' (by rw [e1]; omega) (by rw [e2]; omega), e1, e2]
theorem sg_pos {z : Int} (h : 0 < z) : sg z = 1 := if_pos h
theorem sg_neg {z : Int} (h : z < 0) : sg z = -1 := by unfold sg; rw [if_neg (by omega), if_pos h]
theorem sg_zero {z : Int} (h : z = 0) : sg z = 0 := by unfold sg; rw [if_neg (by omega), if_neg (by omega)]
theorem sg_0 (z : Int) : sg z = 0 ↔ z = 0 := by
  rcases Int.lt_trichotomy z 0 with h | h | h
  · rw [sg_neg h]; exact ⟨fun q => absurd q (by decide), fun q => by omega⟩
  · rw [sg_zero h]; exact ⟨fun _ => h, fun _ => rfl⟩
  · rw [sg_pos h]; exact ⟨fun q => absurd q (by decide), fun q => by omega⟩
theorem pla_side {px py qx qy x y : Int32} (h0 : inB px) (h1 : inB py) (h2 : inB qx) (h3 : inB qy) (h4 : inB x) (h5 : inB y) : f_Pla_side px py qx qy x y = some (sg (crs px.toInt py.toInt qx.toInt qy.toInt x.toInt y.toInt)) := by
  unfold f_Pla_side b_Pla_side_0
  have e1 := L_prod h2 h0 h5 h1
  have e2 := L_prod h3 h1 h4 h0
  have k1 := lcl ((qx.toInt64 - px.toInt64) * (y.toInt64 - py.toInt64)) ((qy.toInt64 - py.toInt64) * (x.toInt64 - px.toInt64))
  have k2 := lcg ((qx.toInt64 - px.toInt64) * (y.toInt64 - py.toInt64)) ((qy.toInt64 - py.toInt64) * (x.toInt64 - px.toInt64))
  rw [e1, e2] at k1 k2
  have ec : crs px.toInt py.toInt qx.toInt qy.toInt x.toInt y.toInt = (qx.toInt - px.toInt) * (y.toInt - py.toInt) - (qy.toInt - py.toInt) * (x.toInt - px.toInt) := rfl
  rw [ec]
  generalize (qx.toInt - px.toInt) * (y.toInt - py.toInt) = A at k1 k2 ⊢
  generalize (qy.toInt - py.toInt) * (x.toInt - px.toInt) = B at k1 k2 ⊢
  by_cases c1 : A ≤ B
  · rw [if_pos (k1.mpr c1)]
    by_cases c2 : B ≤ A
    · rw [if_pos (k2.mpr c2), sg_zero (by omega)]
    · rw [if_neg (fun z => c2 (k2.mp z)), sg_neg (by omega)]
  · rw [if_neg (fun z => c1 (k1.mp z)), sg_pos (by omega)]
theorem mod_sign (z : Int64) : f_Mod_sign z = some (sg z.toInt) := by
  unfold f_Mod_sign b_Mod_sign_0
  have k1 := lcl z 0
  have k2 := lcg z 0
  rw [show (0 : Int64).toInt = 0 from rfl] at k1 k2
  by_cases c1 : z.toInt ≤ 0
  · rw [if_pos (k1.mpr c1)]
    by_cases c2 : 0 ≤ z.toInt
    · rw [if_pos (k2.mpr c2), sg_zero (by omega)]
    · rw [if_neg (fun z => c2 (k2.mp z)), sg_neg (by omega)]
  · rw [if_neg (fun z => c1 (k1.mp z)), sg_pos (by omega)]
theorem mod_side {px py qx qy x y : Int32} (h0 : inB px) (h1 : inB py) (h2 : inB qx) (h3 : inB qy) (h4 : inB x) (h5 : inB y) : f_Mod_side px py qx qy x y = some (sg (crs px.toInt py.toInt qx.toInt qy.toInt x.toInt y.toInt)) := by
  unfold f_Mod_side b_Mod_side_0 f_Mod_cross b_Mod_cross_0
  simp only [ob1, mod_sign]
  have e1 := L_prod h2 h0 h5 h1
  have e2 := L_prod h3 h1 h4 h0
  have b1 := mul_in (L_dif h2 h0).2 (L_dif h5 h1).2
  have b2 := mul_in (L_dif h3 h1).2 (L_dif h4 h0).2
  rw [L_sub (by rw [e1, e2]; omega) (by rw [e1, e2]; omega), e1, e2]
  rfl
/-- class and reference: the same side -/
theorem side_same {px py qx qy x y : Int32} (h0 : inB px) (h1 : inB py) (h2 : inB qx) (h3 : inB qy) (h4 : inB x) (h5 : inB y) : f_Pla_side px py qx qy x y = f_Mod_side px py qx qy x y := by
  rw [pla_side h0 h1 h2 h3 h4 h5, mod_side h0 h1 h2 h3 h4 h5]
