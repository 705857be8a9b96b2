/-! half B: the ray's test of the class; the results asked for; closed -/
def inT (z : Int64) : Prop := -1000000000 ≤ z.toInt ∧ z.toInt ≤ 1000000000
def rayS (tx ty a b c d : Int) : Int := (c - a) * (ty - 2 * b) - (d - b) * (tx - 2 * a)
def ray (tx ty a b c d : Int) : Prop := (2 * b ≤ ty ∧ ty < 2 * d ∧ 0 < rayS tx ty a b c d) ∨ (ty < 2 * b ∧ 2 * d ≤ ty ∧ rayS tx ty a b c d < 0)
theorem L_two {b : Int32} (hb : inB b) : ((2 : Int64) * b.toInt64).toInt = 2 * b.toInt := by
  have e : (2 : Int64).toInt = 2 := by decide
  obtain ⟨h1, h2⟩ := hb
  rw [L_mul (by rw [e, Int32.toInt_toInt64]; omega) (by rw [e, Int32.toInt_toInt64]; omega), e, Int32.toInt_toInt64]
theorem L_off {t : Int64} {b : Int32} (ht : inT t) (hb : inB b) : (t - (2 : Int64) * b.toInt64).toInt = t.toInt - 2 * b.toInt ∧ (t.toInt - 2 * b.toInt).natAbs ≤ 2000000000 := by
  obtain ⟨h1, h2⟩ := hb
  obtain ⟨h3, h4⟩ := ht
  refine ⟨?_, by omega⟩
  rw [L_sub (by rw [L_two ⟨h1, h2⟩]; omega) (by rw [L_two ⟨h1, h2⟩]; omega), L_two ⟨h1, h2⟩]
theorem L_pr2 {c a b : Int32} {t : Int64} (hc : inB c) (ha : inB a) (ht : inT t) (hb : inB b) : ((c.toInt64 - a.toInt64) * (t - (2 : Int64) * b.toInt64)).toInt = (c.toInt - a.toInt) * (t.toInt - 2 * b.toInt) := by
  obtain ⟨e1, b1⟩ := L_dif hc ha
  obtain ⟨e2, b2⟩ := L_off ht hb
  rw [L_mul' (by rw [e1]; omega) (by rw [e2]; omega), e1, e2]
theorem pla_ray {tx ty : Int64} {a b c d : Int32} (hx : inT tx) (hy : inT ty) (h1 : inB a) (h2 : inB b) (h3 : inB c) (h4 : inB d) : f_Pla_isCrossedFrom tx ty a b c d = some (dB (ray tx.toInt ty.toInt a.toInt b.toInt c.toInt d.toInt)) := by
  have k1 := lcl ((2 : Int64) * b.toInt64) ty
  have k2 := lcl ((2 : Int64) * d.toInt64) ty
  have k3 := lcg ((c.toInt64 - a.toInt64) * (ty - ((2 : Int64) * b.toInt64))) ((d.toInt64 - b.toInt64) * (tx - ((2 : Int64) * a.toInt64)))
  have k4 := lcl ((c.toInt64 - a.toInt64) * (ty - ((2 : Int64) * b.toInt64))) ((d.toInt64 - b.toInt64) * (tx - ((2 : Int64) * a.toInt64)))
  rw [L_two h2] at k1
  rw [L_two h4] at k2
  rw [L_pr2 h3 h1 hy h2, L_pr2 h4 h2 hx h1] at k3 k4
  have e10 : ¬ (1 : Int32) = 0 := by decide
  have e01 : ¬ (0 : Int32) = 1 := by decide
  unfold f_Pla_isCrossedFrom b_Pla_isCrossedFrom_0 b_Pla_isCrossedFrom_17 b_Pla_isCrossedFrom_36 ray rayS
  generalize (c.toInt - a.toInt) * (ty.toInt - 2 * b.toInt) = A at *
  generalize (d.toInt - b.toInt) * (tx.toInt - 2 * a.toInt) = B at *
  by_cases c1 : 2 * b.toInt ≤ ty.toInt
  · rw [if_pos (k1.mpr c1)]
    by_cases c2 : 2 * d.toInt ≤ ty.toInt
    · rw [if_pos (k2.mpr c2), if_pos rfl]; exact sF (by omega)
    · rw [if_neg (fun z => c2 (k2.mp z)), if_neg e01, if_neg e10]
      by_cases c3 : A ≤ B
      · rw [if_pos (k4.mpr c3)]; exact sF (by omega)
      · rw [if_neg (fun z => c3 (k4.mp z))]; exact sT (by omega)
  · rw [if_neg (fun z => c1 (k1.mp z))]
    by_cases c2 : 2 * d.toInt ≤ ty.toInt
    · rw [if_pos (k2.mpr c2), if_neg e10, if_pos rfl]
      by_cases c3 : B ≤ A
      · rw [if_pos (k3.mpr c3)]; exact sF (by omega)
      · rw [if_neg (fun z => c3 (k3.mp z))]; exact sT (by omega)
    · rw [if_neg (fun z => c2 (k2.mp z)), if_pos rfl]; exact sF (by omega)
/-- which marks are inside what is asked for -/
theorem res_same {w i : Int32} (hw : w = 0 ∨ w = 1 ∨ w = 2 ∨ w = 3 ∨ w = 4) (hi : i = 0 ∨ i = 1 ∨ i = 2 ∨ i = 3) : f_Bnd_isInResult w i = f_Mod_isResult w i ∧ ∃ b, f_Mod_isResult w i = some b := by
  rcases hw with rfl | rfl | rfl | rfl | rfl <;> rcases hi with rfl | rfl | rfl | rfl <;> exact ⟨by decide, _, by rfl⟩
theorem closed_same {n P : Nat} {ax ay bx b_y mk X Y O : Nat → Int32} {fr to : Nat → Nat} (I : netI n P ax ay bx b_y mk X Y O fr to) : (∀ i, i < P → O i = 0) ↔ (∀ k, k < n → oddAt n ax ay bx b_y mk (ax k) (ay k) = 0 ∧ oddAt n ax ay bx b_y mk (bx k) (b_y k) = 0) := by
  obtain ⟨I1, I2, I3, I4, I5, I6, I7⟩ := I
  constructor
  · intro h k hk
    obtain ⟨⟨l1, l2⟩, l3, l4, l5, l6⟩ := I4 k hk
    rw [← l3, ← l4, ← l5, ← l6, ← I6 _ l1, ← I6 _ l2]
    exact ⟨h _ l1, h _ l2⟩
  · intro h i hi
    obtain ⟨k, hk, e⟩ := I7 i hi
    obtain ⟨⟨l1, l2⟩, l3, l4, l5, l6⟩ := I4 k hk
    rw [I6 i hi]
    rcases e with e | e
    · rw [← e, l3, l4]; exact (h k hk).1
    · rw [← e, l5, l6]; exact (h k hk).2
