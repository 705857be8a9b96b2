/-! half B: the area over all places of a ring and over its corners -/
def sumZ (g : Nat → Int) : Nat → Int
  | 0 => 0
  | n + 1 => sumZ g n + g n
theorem sumZ_ext {g h : Nat → Int} {n : Nat} (e : ∀ k, k < n → g k = h k) : sumZ g n = sumZ h n := by
  induction n with
  | zero => rfl
  | succ n ih => unfold sumZ; rw [ih (fun k hk => e k (by omega)), e n (by omega)]
theorem sumZ_add (g : Nat → Int) (a b : Nat) : sumZ g (a + b) = sumZ g a + sumZ (fun t => g (a + t)) b := by
  induction b with
  | zero => show _ = _ + 0; rw [Int.add_zero]; rfl
  | succ b ih =>
    show sumZ g (a + b) + g (a + b) = sumZ g a + (sumZ (fun t => g (a + t)) b + g (a + b))
    rw [ih]; omega
theorem sumZ_rot (g : Nat → Int) {N l : Nat} (hl : l < N) : sumZ (fun t => g (idI N l t)) N = sumZ g N := by
  have e1 := sumZ_add (fun t => g (idI N l t)) (N - l) l
  have e2 := sumZ_add g l (N - l)
  rw [show N - l + l = N by omega] at e1
  rw [show l + (N - l) = N by omega] at e2
  have f1 : sumZ (fun t => g (idI N l t)) (N - l) = sumZ (fun t => g (l + t)) (N - l) := sumZ_ext (fun t ht => by
    show g (idI N l t) = g (l + t)
    unfold idI; rw [if_pos (by omega)])
  have f2 : sumZ (fun t => g (idI N l (N - l + t))) l = sumZ g l := sumZ_ext (fun t ht => by
    show g (idI N l (N - l + t)) = g t
    unfold idI; rw [if_neg (by omega)]; congr 1; omega)
  rw [e1, e2, f1, f2]; omega
def shoeZ (px py : Nat → Int) (N : Nat) : Int := sumZ (fun t => cr2 (px t) (py t) (px (nxI N t)) (py (nxI N t))) N
theorem par_tr {a b c d e f : Int} (h : ¬ (c = 0 ∧ d = 0)) (h1 : cr2 a b c d = 0) (h2 : cr2 c d e f = 0) : cr2 a b e f = 0 := by
  have e1 : c * cr2 a b e f = e * cr2 a b c d + a * cr2 c d e f := by unfold cr2; grind
  have e2 : d * cr2 a b e f = f * cr2 a b c d + b * cr2 c d e f := by unfold cr2; grind
  rw [h1, h2, Int.mul_zero, Int.mul_zero] at e1 e2
  rcases Int.mul_eq_zero.mp (show c * cr2 a b e f = 0 by omega) with q | q
  · rcases Int.mul_eq_zero.mp (show d * cr2 a b e f = 0 by omega) with q' | q'
    · exact absurd ⟨q, q'⟩ h
    · exact q'
  · exact q
/-- a round of points P 0 .. P N with P N = P 0, the corners among them kept by their number -/
theorem area_c {N : Nat} {Px Py cx cy : Nat → Int} {co : Nat → Prop} (hN : 0 < N) (hx : Px N = Px 0) (hy : Py N = Py 0) (hne : ∀ t, t < N → ¬ (Px (t + 1) - Px t = 0 ∧ Py (t + 1) - Py t = 0)) (h0 : co 0) (hst : ∀ t, 0 < t → t < N → ¬ co t → crs (Px (t - 1)) (Py (t - 1)) (Px t) (Py t) (Px (t + 1)) (Py (t + 1)) = 0) (hc : ∀ t, t < N → co t → cx (cntP co t) = Px t ∧ cy (cntP co t) = Py t) : sumZ (fun t => cr2 (Px t) (Py t) (Px (t + 1)) (Py (t + 1))) N = shoeZ cx cy (cntP co N) := by
  have J : ∀ t, 0 < t → t ≤ N → 0 < cntP co t ∧ sumZ (fun t => cr2 (Px t) (Py t) (Px (t + 1)) (Py (t + 1))) t = sumZ (fun j => cr2 (cx j) (cy j) (cx (j + 1)) (cy (j + 1))) (cntP co t - 1) + cr2 (cx (cntP co t - 1)) (cy (cntP co t - 1)) (Px t) (Py t) ∧ cr2 (Px t - cx (cntP co t - 1)) (Py t - cy (cntP co t - 1)) (Px t - Px (t - 1)) (Py t - Py (t - 1)) = 0 := by
    intro t
    induction t with
    | zero => intro h; omega
    | succ t ih =>
      intro _ htN
      by_cases t0 : t = 0
      · subst t0
        have e1 : cntP co (0 + 1) = 1 := cnt_s h0
        obtain ⟨c1, c2⟩ := hc 0 hN h0
        have z0 : cntP co 0 = 0 := rfl
        rw [z0] at c1 c2
        rw [e1]
        refine ⟨by omega, ?_, ?_⟩
        · show (0 : Int) + cr2 (Px 0) (Py 0) (Px 1) (Py 1) = 0 + cr2 (cx 0) (cy 0) (Px 1) (Py 1)
          rw [c1, c2]
        · show cr2 (Px 1 - cx 0) (Py 1 - cy 0) (Px 1 - Px 0) (Py 1 - Py 0) = 0
          rw [c1, c2]; unfold cr2; grind
      · obtain ⟨i1, i2, i3⟩ := ih (by omega) (by omega)
        have es : sumZ (fun t => cr2 (Px t) (Py t) (Px (t + 1)) (Py (t + 1))) (t + 1) = sumZ (fun t => cr2 (Px t) (Py t) (Px (t + 1)) (Py (t + 1))) t + cr2 (Px t) (Py t) (Px (t + 1)) (Py (t + 1)) := rfl
        by_cases c : co t
        · rw [cnt_s c]
          obtain ⟨c1, c2⟩ := hc t (by omega) c
          rw [show cntP co t + 1 - 1 = cntP co t by omega]
          refine ⟨by omega, ?_, ?_⟩
          · rw [es, i2]
            have e3 : sumZ (fun j => cr2 (cx j) (cy j) (cx (j + 1)) (cy (j + 1))) (cntP co t) = sumZ (fun j => cr2 (cx j) (cy j) (cx (j + 1)) (cy (j + 1))) (cntP co t - 1) + cr2 (cx (cntP co t - 1)) (cy (cntP co t - 1)) (cx (cntP co t)) (cy (cntP co t)) := by
              have e4 : cntP co t = cntP co t - 1 + 1 := by omega
              have e5 : sumZ (fun j => cr2 (cx j) (cy j) (cx (j + 1)) (cy (j + 1))) (cntP co t - 1 + 1) = sumZ (fun j => cr2 (cx j) (cy j) (cx (j + 1)) (cy (j + 1))) (cntP co t - 1) + cr2 (cx (cntP co t - 1)) (cy (cntP co t - 1)) (cx (cntP co t - 1 + 1)) (cy (cntP co t - 1 + 1)) := rfl
              rw [← e4] at e5
              exact e5
            rw [e3, c1, c2]
          · rw [c1, c2, show t + 1 - 1 = t by omega]; unfold cr2; grind
        · rw [cnt_z c, show t + 1 - 1 = t by omega]
          have st := hst t (by omega) (by omega) c
          have ne := hne (t - 1) (by omega)
          rw [show t - 1 + 1 = t by omega] at ne
          have p1 : cr2 (Px t - Px (t - 1)) (Py t - Py (t - 1)) (Px (t + 1) - Px t) (Py (t + 1) - Py t) = 0 := by
            unfold crs at st; unfold cr2; grind
          have p2 := par_tr ne i3 p1
          refine ⟨i1, ?_, ?_⟩
          · rw [es, i2]
            unfold cr2 at p2 ⊢; grind
          · unfold cr2 at p2 ⊢; grind
  obtain ⟨i1, i2, _⟩ := J N hN (Nat.le_refl _)
  rw [i2, hx, hy]
  obtain ⟨c1, c2⟩ := hc 0 hN h0
  have z0 : cntP co 0 = 0 := rfl
  rw [z0] at c1 c2
  unfold shoeZ
  have e4 : cntP co N = cntP co N - 1 + 1 := by omega
  have e5 : sumZ (fun t => cr2 (cx t) (cy t) (cx (nxI (cntP co N) t)) (cy (nxI (cntP co N) t))) (cntP co N - 1 + 1) = sumZ (fun t => cr2 (cx t) (cy t) (cx (nxI (cntP co N) t)) (cy (nxI (cntP co N) t))) (cntP co N - 1) + cr2 (cx (cntP co N - 1)) (cy (cntP co N - 1)) (cx (nxI (cntP co N) (cntP co N - 1))) (cy (nxI (cntP co N) (cntP co N - 1))) := rfl
  rw [← e4] at e5
  rw [e5]
  have n0 : nxI (cntP co N) (cntP co N - 1) = 0 := if_neg (by omega)
  rw [n0, c1, c2]
  congr 1
  apply sumZ_ext
  intro j hj
  have nj : nxI (cntP co N) j = j + 1 := if_pos (by omega)
  rw [nj]
theorem tm64 {a b c d : Int32} (ha : inB a) (hb : inB b) (hc : inB c) (hd : inB d) : a.toInt64 * b.toInt64 - c.toInt64 * d.toInt64 = Int64.ofInt (a.toInt * b.toInt - c.toInt * d.toInt) := by
  have i9 : ∀ z : Int32, inB z → in9 z.toInt64.toInt := fun z h => by
    rw [Int32.toInt_toInt64]; unfold in9; unfold inB at h; omega
  obtain ⟨e1, b1, b2⟩ := L_m9 (i9 a ha) (i9 b hb)
  obtain ⟨e2, b3, b4⟩ := L_m9 (i9 c hc) (i9 d hd)
  have e3 := L_sub (a := a.toInt64 * b.toInt64) (b := c.toInt64 * d.toInt64) (by rw [e1, e2]; omega) (by rw [e1, e2]; omega)
  rw [e1, e2, Int32.toInt_toInt64, Int32.toInt_toInt64, Int32.toInt_toInt64, Int32.toInt_toInt64] at e3
  rw [← e3, Int64.ofInt_toInt]
theorem shoe_64 {px py : Nat → Int32} {N : Nat} (iB : ∀ i, i < N → inB (px i) ∧ inB (py i)) : ∀ t, t ≤ N → shoe64 px py N t = Int64.ofInt (sumZ (fun t => cr2 (px t).toInt (py t).toInt (px (nxI N t)).toInt (py (nxI N t)).toInt) t) := by
  intro t
  induction t with
  | zero => intro _; rfl
  | succ t ih =>
    intro ht
    have hx := nxI_lt (N := N) (i := t) (by omega)
    unfold shoe64 sumZ
    rw [ih (by omega), tm64 (iB t (by omega)).1 (iB _ hx).2 (iB t (by omega)).2 (iB _ hx).1, ← Int64.ofInt_add]
    rfl
theorem of64_ne {z : Int} (h0 : z ≠ 0) (h1 : -9223372036854775808 ≤ z) (h2 : z < 9223372036854775808) : Int64.ofInt z ≠ 0 := by
  intro h
  have : (Int64.ofInt z).toInt = 0 := by rw [h]; rfl
  rw [Int64.toInt_ofInt, show Int64.size = 18446744073709551616 from rfl] at this
  rw [Int.bmod_eq_of_le (by omega) (by omega)] at this
  exact h0 this
