/-! half B, G1: the marks beside a piece at a place, by its rank -/
def closed (n : Nat) (ax ay bx b_y mk : Nat → Int32) : Prop := ∀ k, k < n → oddAt n ax ay bx b_y mk (ax k) (ay k) = 0 ∧ oddAt n ax ay bx b_y mk (bx k) (b_y k) = 0
theorem xeq {a b : Int32} (h : a ^^^ b = 0) : a = b := by
  have : a ^^^ (a ^^^ b) = a := by rw [h, Int32.xor_zero]
  rw [← x32a, xself, Int32.zero_xor] at this
  exact this.symm
theorem odd_any {n : Nat} {ax ay bx b_y mk : Nat → Int32} (hc : closed n ax ay bx b_y mk) (x y : Int32) : oddAt n ax ay bx b_y mk x y = 0 := by
  by_cases c : ∃ k, k < n ∧ isE (ax k) (ay k) (bx k) (b_y k) x y
  · obtain ⟨k, hk, h⟩ := c
    rcases h with h | h
    · rw [← h.1, ← h.2]; exact (hc k hk).1
    · rw [← h.1, ← h.2]; exact (hc k hk).2
  · exact xo_zero (fun j hj => mAt_f (fun z => c ⟨j, hj, z⟩))
theorem cl_pts {n : Nat} {ax ay bx b_y mk : Nat → Int32} (I1 : pcs n ax ay bx b_y) (hc : closed n ax ay bx b_y mk) {t : Int} (ht : 0 < t) (s : Int × Int) : xo (fun e => mAt ((t * (ax e).toInt, t * (ay e).toInt) = s) (mk e) ^^^ mAt ((t * (bx e).toInt, t * (b_y e).toInt) = s) (mk e)) n = 0 := by
  have inj : ∀ {x y : Int}, t * x = t * y → x = y := fun h => Int.eq_of_mul_eq_mul_left (by omega) h
  by_cases c : ∃ k, k < n ∧ ((t * (ax k).toInt, t * (ay k).toInt) = s ∨ (t * (bx k).toInt, t * (b_y k).toInt) = s)
  · have : ∃ x y : Int32, s = (t * x.toInt, t * y.toInt) := by
      obtain ⟨k, hk, h | h⟩ := c
      · exact ⟨_, _, h.symm⟩
      · exact ⟨_, _, h.symm⟩
    obtain ⟨x, y, hs⟩ := this
    have z := odd_any hc x y
    unfold oddAt at z
    rw [← z]
    apply xo_ext
    intro e he
    have hl := lessP_ne (I1 e he).2
    have q : ∀ {g h : Int32}, (t * g.toInt, t * h.toInt) = s ↔ (g = x ∧ h = y) := by
      intro g h
      rw [hs, Prod.mk.injEq]
      exact ⟨fun w => ⟨i32eq.mpr (inj w.1), i32eq.mpr (inj w.2)⟩, fun w => by rw [w.1, w.2]; exact ⟨rfl, rfl⟩⟩
    rw [propext q, propext q]
    unfold isE
    by_cases c1 : ax e = x ∧ ay e = y
    · have c2 : ¬ (bx e = x ∧ b_y e = y) := fun w => hl ⟨c1.1.trans w.1.symm, c1.2.trans w.2.symm⟩
      rw [mAt_t c1, mAt_f c2, mAt_t (Or.inl c1), Int32.xor_zero]
    · by_cases c2 : bx e = x ∧ b_y e = y
      · rw [mAt_f c1, mAt_t c2, mAt_t (Or.inr c2), Int32.zero_xor]
      · rw [mAt_f c1, mAt_f c2, mAt_f (fun w => by rcases w with w | w; exact c1 w; exact c2 w), Int32.zero_xor]
  · apply xo_zero
    intro e he
    rw [mAt_f (fun z => c ⟨e, he, Or.inl z⟩), mAt_f (fun z => c ⟨e, he, Or.inr z⟩), Int32.zero_xor]
theorem ray_rho (tx ty a b c d : Int) : ray tx ty a b c d ↔ rho tx ty (2 * a) (2 * b) (2 * c) (2 * d) := by
  have e : crs (2 * a) (2 * b) (2 * c) (2 * d) tx ty = 2 * rayS tx ty a b c d := by unfold crs rayS; grind
  unfold ray rho
  rw [e]
  omega
theorem tk_aL {x y s t : Int} (h1 : ¬ (x = 0 ∧ y = 0)) (h2 : ¬ (s = 0 ∧ t = 0)) : ((0 ≤ y ∧ 0 < t ∧ cr2 x y s t < 0) ∨ (y < 0 ∧ t ≤ 0 ∧ 0 < cr2 x y s t)) ↔ ((Uh x y ∧ aL s t x y) ∨ (¬ Uh x y ∧ aL x y s t)) := by
  have e := cr2_sw x y s t
  have e0 : t = 0 → cr2 x y s t = -(y * s) := fun z => by unfold cr2; rw [z]; omega
  have e1 : y = 0 → cr2 x y s t = x * t := fun z => by unfold cr2; rw [z]; omega
  have p1 : 0 < y → s < 0 → y * s < 0 := Int.mul_neg_of_pos_of_neg
  have p2 : 0 < y → 0 < s → 0 < y * s := Int.mul_pos
  have p3 : y < 0 → s < 0 → 0 < y * s := Int.mul_pos_of_neg_of_neg
  have p4 : y < 0 → 0 < s → y * s < 0 := Int.mul_neg_of_neg_of_pos
  have q1 : 0 < x → t < 0 → x * t < 0 := Int.mul_neg_of_pos_of_neg
  have q2 : 0 < x → 0 < t → 0 < x * t := Int.mul_pos
  have q3 : x < 0 → t < 0 → 0 < x * t := Int.mul_pos_of_neg_of_neg
  have q4 : x < 0 → 0 < t → x * t < 0 := Int.mul_neg_of_neg_of_pos
  have q5 : t = 0 → x * t = 0 := fun z => by rw [z, Int.mul_zero]
  have q6 : y = 0 → y * s = 0 := fun z => by rw [z, Int.zero_mul]
  unfold aL
  rw [e]
  by_cases u1 : Uh x y <;> by_cases u2 : Uh s t <;> simp only [u1, u2, iff_self, not_true_eq_false, not_false_eq_true, iff_true, iff_false, true_iff, false_iff, true_and, and_true, false_and, and_false, or_false, false_or] <;> unfold Uh at u1 u2 <;> omega
