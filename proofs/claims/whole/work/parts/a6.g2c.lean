/-! half B, G2: the edges across a height, in order -/
theorem D_ex (dl : Nat → Int) : ∀ N, ∃ (D : Int) (c : Nat → Int), 0 < D ∧ ∀ e, e < N → dl e ≠ 0 → c e * dl e = D := by
  intro N
  induction N with
  | zero => exact ⟨1, fun _ => 0, by omega, fun e he => absurd he (Nat.not_lt_zero e)⟩
  | succ N ih =>
    obtain ⟨D, c, hD, hc⟩ := ih
    by_cases h0 : dl N = 0
    · refine ⟨D, c, hD, fun e he hd => ?_⟩
      by_cases q : e = N
      · rw [q] at hd; exact absurd h0 hd
      · exact hc e (by omega) hd
    · rcases Int.lt_or_le (dl N) 0 with s | s
      · refine ⟨D * (-(dl N)), fun e => if e = N then -D else c e * (-(dl N)), Int.mul_pos hD (by omega), fun e he hd => ?_⟩
        by_cases q : e = N
        · simp only [q, ↓reduceIte]; grind
        · simp only [q, ↓reduceIte]
          have := hc e (by omega) hd
          rw [← this]; grind
      · refine ⟨D * dl N, fun e => if e = N then D else c e * dl N, Int.mul_pos hD (by omega), fun e he hd => ?_⟩
        by_cases q : e = N
        · simp only [q, ↓reduceIte]
        · simp only [q, ↓reduceIte]
          have := hc e (by omega) hd
          rw [← this]; grind
def upH (N : Nat) (y : Nat → Int32) (h : Int) (e : Nat) : Prop := (y e).toInt ≤ h ∧ h < (y (nxI N e)).toInt
def dnH (N : Nat) (y : Nat → Int32) (h : Int) (e : Nat) : Prop := (y (nxI N e)).toInt ≤ h ∧ h < (y e).toInt
def spH (N : Nat) (y : Nat → Int32) (h : Int) (e : Nat) : Prop := upH N y h e ∨ dnH N y h e
/-- twice D times the place where edge e crosses the height h + 1/2 -/
def ZH (N : Nat) (x y : Nat → Int32) (D : Int) (c : Nat → Int) (h : Int) (e : Nat) : Int := 2 * D * (x e).toInt + (2 * h + 1 - 2 * (y e).toInt) * (c e * ((x (nxI N e)).toInt - (x e).toInt))
theorem cmp_id {D a1 b1 a2 b2 a3 b3 a4 b4 ce cf h s r m : Int} (hm : (m = b2 - b1 ∧ r = 2 * h + 1 - 2 * b1) ∨ (m = -(b2 - b1) ∧ r = -(2 * h + 1 - 2 * b1))) (hs : s = 2 * m) (he : ce * (b2 - b1) = D) (hf : cf * (b4 - b3) = D) : s * b1 + r * (b2 - b1) = m * (2 * h + 1) ∧ D * crs (s * a3) (s * b3) (s * a4) (s * b4) (s * a1 + r * (a2 - a1)) (s * b1 + r * (b2 - b1)) = (s * m * (b4 - b3)) * ((2 * D * a3 + (2 * h + 1 - 2 * b3) * (cf * (a4 - a3))) - (2 * D * a1 + (2 * h + 1 - 2 * b1) * (ce * (a2 - a1)))) := by
  rcases hm with ⟨h1, h2⟩ | ⟨h1, h2⟩
  · have e1 : s * b1 + r * (b2 - b1) = m * (2 * h + 1) := by rw [hs, h1, h2]; grind
    refine ⟨e1, ?_⟩
    have e2 : crs (s * a3) (s * b3) (s * a4) (s * b4) (s * a1 + r * (a2 - a1)) (s * b1 + r * (b2 - b1)) = s * ((a4 - a3) * (m * (2 * h + 1 - 2 * b3)) - (b4 - b3) * (2 * m * a1 + r * (a2 - a1) - 2 * m * a3)) := by
      unfold crs; rw [e1, hs]; grind
    rw [e2, h2]
    have e3 : D * (s * ((a4 - a3) * (m * (2 * h + 1 - 2 * b3)) - (b4 - b3) * (2 * m * a1 + (2 * h + 1 - 2 * b1) * (a2 - a1) - 2 * m * a3))) = s * (m * (2 * h + 1 - 2 * b3) * (a4 - a3) * D - (b4 - b3) * (2 * m * a1 * D + (2 * h + 1 - 2 * b1) * (a2 - a1) * D - 2 * m * a3 * D)) := by grind
    rw [e3]
    have e4 : m * (2 * h + 1 - 2 * b3) * (a4 - a3) * D = (m * (b4 - b3)) * ((2 * h + 1 - 2 * b3) * (cf * (a4 - a3))) := by rw [← hf]; grind
    have e5 : (2 * h + 1 - 2 * b1) * (a2 - a1) * D = m * ((2 * h + 1 - 2 * b1) * (ce * (a2 - a1))) := by rw [← he, h1]; grind
    rw [e4, e5]; grind
  · have e1 : s * b1 + r * (b2 - b1) = m * (2 * h + 1) := by rw [hs, h1, h2]; grind
    refine ⟨e1, ?_⟩
    have e2 : crs (s * a3) (s * b3) (s * a4) (s * b4) (s * a1 + r * (a2 - a1)) (s * b1 + r * (b2 - b1)) = s * ((a4 - a3) * (m * (2 * h + 1 - 2 * b3)) - (b4 - b3) * (2 * m * a1 + r * (a2 - a1) - 2 * m * a3)) := by
      unfold crs; rw [e1, hs]; grind
    rw [e2, h2]
    have e3 : D * (s * ((a4 - a3) * (m * (2 * h + 1 - 2 * b3)) - (b4 - b3) * (2 * m * a1 + -(2 * h + 1 - 2 * b1) * (a2 - a1) - 2 * m * a3))) = s * (m * (2 * h + 1 - 2 * b3) * (a4 - a3) * D - (b4 - b3) * (2 * m * a1 * D + -((2 * h + 1 - 2 * b1) * (a2 - a1) * D) - 2 * m * a3 * D)) := by grind
    rw [e3]
    have e4 : m * (2 * h + 1 - 2 * b3) * (a4 - a3) * D = (m * (b4 - b3)) * ((2 * h + 1 - 2 * b3) * (cf * (a4 - a3))) := by rw [← hf]; grind
    have e5 : -((2 * h + 1 - 2 * b1) * (a2 - a1) * D) = m * ((2 * h + 1 - 2 * b1) * (ce * (a2 - a1))) := by rw [← he, h1]; grind
    rw [e4, e5]; grind
theorem mul_sg {k z : Int} (hk : 0 < k) : (0 < k * z ↔ 0 < z) ∧ (k * z < 0 ↔ z < 0) ∧ (k * z = 0 ↔ z = 0) := by
  rcases Int.lt_trichotomy z 0 with h | h | h
  · have := Int.mul_neg_of_pos_of_neg hk h; omega
  · rw [h, Int.mul_zero]; omega
  · have := Int.mul_pos hk h; omega
/-- s, r of the point of edge e at the height h + 1/2 -/
def sH (N : Nat) (y : Nat → Int32) (e : Nat) : Int := if 0 < (y (nxI N e)).toInt - (y e).toInt then 2 * ((y (nxI N e)).toInt - (y e).toInt) else 2 * (-((y (nxI N e)).toInt - (y e).toInt))
def rH (N : Nat) (y : Nat → Int32) (h : Int) (e : Nat) : Int := if 0 < (y (nxI N e)).toInt - (y e).toInt then 2 * h + 1 - 2 * (y e).toInt else -(2 * h + 1 - 2 * (y e).toInt)
theorem sr_ok {N e : Nat} {y : Nat → Int32} {h : Int} (hsp : spH N y h e) : 0 < rH N y h e ∧ rH N y h e < sH N y e := by
  unfold sH rH
  unfold spH upH dnH at hsp
  split <;> omega
theorem cmp_H {N e f : Nat} {x y : Nat → Int32} {D h : Int} {c : Nat → Int} (hD : 0 < D) (hc : ∀ e, e < N → (y (nxI N e)).toInt - (y e).toInt ≠ 0 → c e * ((y (nxI N e)).toInt - (y e).toInt) = D) (he : e < N) (hf : f < N) (se : spH N y h e) : (rho (sH N y e * (x e).toInt + rH N y h e * ((x (nxI N e)).toInt - (x e).toInt)) (sH N y e * (y e).toInt + rH N y h e * ((y (nxI N e)).toInt - (y e).toInt)) (sH N y e * (x f).toInt) (sH N y e * (y f).toInt) (sH N y e * (x (nxI N f)).toInt) (sH N y e * (y (nxI N f)).toInt) ↔ (spH N y h f ∧ ZH N x y D c h e < ZH N x y D c h f)) ∧ (spH N y h f → ZH N x y D c h e = ZH N x y D c h f → crs (sH N y e * (x f).toInt) (sH N y e * (y f).toInt) (sH N y e * (x (nxI N f)).toInt) (sH N y e * (y (nxI N f)).toInt) (sH N y e * (x e).toInt + rH N y h e * ((x (nxI N e)).toInt - (x e).toInt)) (sH N y e * (y e).toInt + rH N y h e * ((y (nxI N e)).toInt - (y e).toInt)) = 0) := by
  have de : (y (nxI N e)).toInt - (y e).toInt ≠ 0 := by unfold spH upH dnH at se; omega
  have hm : ∃ m, 0 < m ∧ sH N y e = 2 * m ∧ ((m = (y (nxI N e)).toInt - (y e).toInt ∧ rH N y h e = 2 * h + 1 - 2 * (y e).toInt) ∨ (m = -((y (nxI N e)).toInt - (y e).toInt) ∧ rH N y h e = -(2 * h + 1 - 2 * (y e).toInt))) := by
    unfold sH rH
    by_cases p : 0 < (y (nxI N e)).toInt - (y e).toInt
    · rw [if_pos p, if_pos p]; exact ⟨_, p, rfl, Or.inl ⟨rfl, rfl⟩⟩
    · rw [if_neg p, if_neg p]; exact ⟨_, by omega, rfl, Or.inr ⟨rfl, rfl⟩⟩
  obtain ⟨m, m0, ms, mr⟩ := hm
  have l1 : ∀ u : Int, (sH N y e * u ≤ m * (2 * h + 1) ↔ u ≤ h) := by
    intro u
    rw [ms]
    constructor
    · intro z
      have : m * (2 * u) ≤ m * (2 * h + 1) := by have e : 2 * m * u = m * (2 * u) := by grind
                                                 omega
      have := Int.le_of_mul_le_mul_left this m0
      omega
    · intro z
      have := Int.mul_le_mul_of_nonneg_left (show 2 * u ≤ 2 * h + 1 by omega) (show 0 ≤ m by omega)
      have e : 2 * m * u = m * (2 * u) := by grind
      omega
  have hy : sH N y e * (y e).toInt + rH N y h e * ((y (nxI N e)).toInt - (y e).toInt) = m * (2 * h + 1) := by
    rw [ms]
    rcases mr with ⟨h1, h2⟩ | ⟨h1, h2⟩
    · rw [h2, h1]; grind
    · rw [h2, h1]; grind
  have lf := l1 (y f).toInt
  have lf' := l1 (y (nxI N f)).toInt
  by_cases sf : spH N y h f
  · have df : (y (nxI N f)).toInt - (y f).toInt ≠ 0 := by unfold spH upH dnH at sf; omega
    obtain ⟨_, id⟩ := cmp_id (D := D) (a1 := (x e).toInt) (b1 := (y e).toInt) (a2 := (x (nxI N e)).toInt) (b2 := (y (nxI N e)).toInt) (a3 := (x f).toInt) (b3 := (y f).toInt) (a4 := (x (nxI N f)).toInt) (b4 := (y (nxI N f)).toInt) (ce := c e) (cf := c f) (h := h) (s := sH N y e) (r := rH N y h e) (m := m) mr ms (hc e he de) (hc f hf df)
    have s0 : 0 < sH N y e * m := Int.mul_pos (by omega) m0
    constructor
    · unfold rho
      rw [hy] at id ⊢
      generalize crs (sH N y e * (x f).toInt) (sH N y e * (y f).toInt) (sH N y e * (x (nxI N f)).toInt) (sH N y e * (y (nxI N f)).toInt) (sH N y e * (x e).toInt + rH N y h e * ((x (nxI N e)).toInt - (x e).toInt)) (m * (2 * h + 1)) = Q at id ⊢
      have id' : D * Q = (sH N y e * m * ((y (nxI N f)).toInt - (y f).toInt)) * (ZH N x y D c h f - ZH N x y D c h e) := id
      generalize ZH N x y D c h f = zf at id' ⊢
      generalize ZH N x y D c h e = ze at id' ⊢
      obtain ⟨q1, q2, q3⟩ := mul_sg (z := Q) hD
      have sf' := sf
      unfold spH upH dnH at sf'
      rcases sf' with u | u
      · have p := Int.mul_pos s0 (show 0 < (y (nxI N f)).toInt - (y f).toInt by omega)
        obtain ⟨p1, p2, p3⟩ := mul_sg (z := zf - ze) p
        rw [← id'] at p1 p2
        constructor
        · rintro (⟨z1, z2, z3⟩ | ⟨z1, z2, z3⟩)
          · exact ⟨sf, by omega⟩
          · omega
        · rintro ⟨_, z⟩
          exact Or.inl ⟨by omega, by omega, by omega⟩
      · have p := Int.mul_pos s0 (show 0 < -((y (nxI N f)).toInt - (y f).toInt) by omega)
        obtain ⟨p1, p2, p3⟩ := mul_sg (z := zf - ze) p
        have e2 : sH N y e * m * (-((y (nxI N f)).toInt - (y f).toInt)) * (zf - ze) = -(D * Q) := by rw [id']; grind
        rw [e2] at p1 p2
        constructor
        · rintro (⟨z1, z2, z3⟩ | ⟨z1, z2, z3⟩)
          · omega
          · exact ⟨sf, by omega⟩
        · rintro ⟨_, z⟩
          exact Or.inr ⟨by omega, by omega, by omega⟩
    · intro _ hz
      have id' : D * crs (sH N y e * (x f).toInt) (sH N y e * (y f).toInt) (sH N y e * (x (nxI N f)).toInt) (sH N y e * (y (nxI N f)).toInt) (sH N y e * (x e).toInt + rH N y h e * ((x (nxI N e)).toInt - (x e).toInt)) (sH N y e * (y e).toInt + rH N y h e * ((y (nxI N e)).toInt - (y e).toInt)) = (sH N y e * m * ((y (nxI N f)).toInt - (y f).toInt)) * (ZH N x y D c h f - ZH N x y D c h e) := id
      rw [hz, Int.sub_self, Int.mul_zero] at id'
      exact (mul_sg hD).2.2.mp id'
  · constructor
    · constructor
      · intro z
        exfalso
        unfold rho at z
        rw [hy] at z
        unfold spH upH dnH at sf
        omega
      · intro z; exact absurd z.1 sf
    · intro z; exact absurd z sf
