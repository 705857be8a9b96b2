/-! half B, G2: a ring's area is not 0, whole -/
def clp (v lo hi : Int) : Int := if v ≤ lo then 0 else if v ≤ hi then v - lo else hi - lo
theorem clp_s {v lo hi : Int} (h : lo ≤ hi) : (lo ≤ v ∧ v < hi → clp (v + 1) lo hi = clp v lo hi + 1 ∧ clp v lo hi = v - lo) ∧ (¬ (lo ≤ v ∧ v < hi) → clp (v + 1) lo hi = clp v lo hi) := by
  unfold clp
  constructor
  · intro z; split <;> split <;> (try split) <;> omega
  · intro z; split <;> split <;> (try split) <;> (try split) <;> omega
/-- one edge over all heights, going up -/
theorem strip_up {b b' p q : Int} (K : Nat) (hb : b ≤ b') (M : Nat) (hM : -(K : Int) ≤ b) : sumZ (fun j => if b ≤ (j : Int) - K ∧ (j : Int) - K < b' then p + (2 * ((j : Int) - K) + 1 - 2 * b) * q else 0) M = p * clp ((M : Int) - K) b b' + clp ((M : Int) - K) b b' * clp ((M : Int) - K) b b' * q := by
  induction M with
  | zero =>
    have e : clp (((0 : Nat) : Int) - K) b b' = 0 := by unfold clp; rw [if_pos (by omega)]
    rw [e]
    show (0 : Int) = _
    rw [Int.mul_zero, Int.zero_mul, Int.zero_mul]; rfl
  | succ M ih =>
    show sumZ (fun j => if b ≤ (j : Int) - K ∧ (j : Int) - K < b' then p + (2 * ((j : Int) - K) + 1 - 2 * b) * q else 0) M + (if b ≤ (M : Int) - K ∧ (M : Int) - K < b' then p + (2 * ((M : Int) - K) + 1 - 2 * b) * q else 0) = _
    have ev : ((M + 1 : Nat) : Int) - K = (M : Int) - K + 1 := by omega
    rw [ih, ev]
    obtain ⟨s1, s2⟩ := clp_s (v := (M : Int) - K) hb
    by_cases c : b ≤ (M : Int) - K ∧ (M : Int) - K < b'
    · obtain ⟨t1, t2⟩ := s1 c
      rw [if_pos c, t1]
      have : 2 * ((M : Int) - K) + 1 - 2 * b = 2 * clp ((M : Int) - K) b b' + 1 := by omega
      rw [this]; grind
    · rw [if_neg c, s2 c, Int.add_zero]
theorem strip_dn {b b' p q : Int} (K : Nat) (hb : b' ≤ b) (M : Nat) (hM : -(K : Int) ≤ b') : sumZ (fun j => if b' ≤ (j : Int) - K ∧ (j : Int) - K < b then -1 * (p + (2 * ((j : Int) - K) + 1 - 2 * b) * q) else 0) M = -(p * clp ((M : Int) - K) b' b) - (clp ((M : Int) - K) b' b * clp ((M : Int) - K) b' b + 2 * clp ((M : Int) - K) b' b * (b' - b)) * q := by
  induction M with
  | zero =>
    have e : clp (((0 : Nat) : Int) - K) b' b = 0 := by unfold clp; rw [if_pos (by omega)]
    rw [e]
    show (0 : Int) = _
    rw [Int.mul_zero, Int.zero_mul, Int.mul_zero, Int.zero_mul, Int.add_zero, Int.zero_mul]; rfl
  | succ M ih =>
    show sumZ (fun j => if b' ≤ (j : Int) - K ∧ (j : Int) - K < b then -1 * (p + (2 * ((j : Int) - K) + 1 - 2 * b) * q) else 0) M + (if b' ≤ (M : Int) - K ∧ (M : Int) - K < b then -1 * (p + (2 * ((M : Int) - K) + 1 - 2 * b) * q) else 0) = _
    have ev : ((M + 1 : Nat) : Int) - K = (M : Int) - K + 1 := by omega
    rw [ih, ev]
    obtain ⟨s1, s2⟩ := clp_s (v := (M : Int) - K) hb
    by_cases c : b' ≤ (M : Int) - K ∧ (M : Int) - K < b
    · obtain ⟨t1, t2⟩ := s1 c
      rw [if_pos c, t1]
      have : 2 * ((M : Int) - K) + 1 - 2 * b = 2 * clp ((M : Int) - K) b' b + 1 + 2 * (b' - b) := by omega
      rw [this]; grind
    · rw [if_neg c, s2 c, Int.add_zero]
theorem strip_e {N e : Nat} {x y : Nat → Int32} {D : Int} {c : Nat → Int} (he : e < N) (iB : ∀ i, i < N → inB (x i) ∧ inB (y i)) (hc : (y (nxI N e)).toInt - (y e).toInt ≠ 0 → c e * ((y (nxI N e)).toInt - (y e).toInt) = D) : sumZ (fun j => if dB (spH N y ((j : Int) - (500000000 : Nat)) e) = true then sgH N y ((j : Int) - (500000000 : Nat)) e * ZH N x y D c ((j : Int) - (500000000 : Nat)) e else 0) 1000000000 = D * (((x e).toInt + (x (nxI N e)).toInt) * ((y (nxI N e)).toInt - (y e).toInt)) := by
  obtain ⟨a1, a2⟩ := (iB e he).2
  obtain ⟨a3, a4⟩ := (iB _ (nxI_lt he)).2
  rcases Int.lt_trichotomy (y e).toInt (y (nxI N e)).toInt with h | h | h
  · have e1 : sumZ (fun j => if dB (spH N y ((j : Int) - (500000000 : Nat)) e) = true then sgH N y ((j : Int) - (500000000 : Nat)) e * ZH N x y D c ((j : Int) - (500000000 : Nat)) e else 0) 1000000000 = sumZ (fun j => if (y e).toInt ≤ (j : Int) - (500000000 : Nat) ∧ (j : Int) - (500000000 : Nat) < (y (nxI N e)).toInt then 2 * D * (x e).toInt + (2 * ((j : Int) - (500000000 : Nat)) + 1 - 2 * (y e).toInt) * (c e * ((x (nxI N e)).toInt - (x e).toInt)) else 0) 1000000000 := by
      apply sumZ_ext
      intro j _
      by_cases u : (y e).toInt ≤ (j : Int) - (500000000 : Nat) ∧ (j : Int) - (500000000 : Nat) < (y (nxI N e)).toInt
      · have su : spH N y ((j : Int) - (500000000 : Nat)) e := Or.inl u
        have uu : upH N y ((j : Int) - (500000000 : Nat)) e := u
        rw [if_pos (dB_t su), if_pos u]
        unfold sgH
        rw [if_pos (dB_t uu), Int.one_mul]
        rfl
      · rw [if_neg (fun z => by
          rcases dB_i.mp z with w | w
          · exact u w
          · unfold dnH at w; omega), if_neg u]
    rw [e1, strip_up 500000000 (by omega) 1000000000 (by omega)]
    have e2 : clp (((1000000000 : Nat) : Int) - (500000000 : Nat)) (y e).toInt (y (nxI N e)).toInt = (y (nxI N e)).toInt - (y e).toInt := by
      unfold clp; split <;> (try split) <;> omega
    rw [e2]
    have k := hc (by omega)
    rw [← k]; grind
  · have e1 : sumZ (fun j => if dB (spH N y ((j : Int) - (500000000 : Nat)) e) = true then sgH N y ((j : Int) - (500000000 : Nat)) e * ZH N x y D c ((j : Int) - (500000000 : Nat)) e else 0) 1000000000 = sumZ (fun j => 0 * (j : Int)) 1000000000 := by
      apply sumZ_ext
      intro j _
      rw [if_neg (fun z => by
          rcases dB_i.mp z with w | w
          · unfold upH at w; omega
          · unfold dnH at w; omega), Int.zero_mul]
    rw [e1, sumZ_mul, Int.zero_mul, h, Int.sub_self, Int.mul_zero, Int.mul_zero]
  · have e1 : sumZ (fun j => if dB (spH N y ((j : Int) - (500000000 : Nat)) e) = true then sgH N y ((j : Int) - (500000000 : Nat)) e * ZH N x y D c ((j : Int) - (500000000 : Nat)) e else 0) 1000000000 = sumZ (fun j => if (y (nxI N e)).toInt ≤ (j : Int) - (500000000 : Nat) ∧ (j : Int) - (500000000 : Nat) < (y e).toInt then -1 * (2 * D * (x e).toInt + (2 * ((j : Int) - (500000000 : Nat)) + 1 - 2 * (y e).toInt) * (c e * ((x (nxI N e)).toInt - (x e).toInt))) else 0) 1000000000 := by
      apply sumZ_ext
      intro j _
      by_cases u : (y (nxI N e)).toInt ≤ (j : Int) - (500000000 : Nat) ∧ (j : Int) - (500000000 : Nat) < (y e).toInt
      · have su : spH N y ((j : Int) - (500000000 : Nat)) e := Or.inr u
        rw [if_pos (dB_t su), if_pos u]
        unfold sgH
        rw [if_neg (fun z => by have := dB_i.mp z; unfold upH at this; omega)]
        rfl
      · rw [if_neg (fun z => by
          rcases dB_i.mp z with w | w
          · unfold upH at w; omega
          · exact u w), if_neg u]
    rw [e1, strip_dn 500000000 (by omega) 1000000000 (by omega)]
    have e2 : clp (((1000000000 : Nat) : Int) - (500000000 : Nat)) (y (nxI N e)).toInt (y e).toInt = (y e).toInt - (y (nxI N e)).toInt := by
      unfold clp; split <;> (try split) <;> omega
    rw [e2]
    have k := hc (by omega)
    rw [← k]; grind
/-- where an edge crosses a height: between its ends -/
theorem ZH_bd {N e : Nat} {x y : Nat → Int32} {D h : Int} {c : Nat → Int} (he : e < N) (iB : ∀ i, i < N → inB (x i) ∧ inB (y i)) (hD : 0 < D) (hc : (y (nxI N e)).toInt - (y e).toInt ≠ 0 → c e * ((y (nxI N e)).toInt - (y e).toInt) = D) (se : spH N y h e) : -(1000000000 * D) ≤ ZH N x y D c h e ∧ ZH N x y D c h e ≤ 1000000000 * D := by
  obtain ⟨a1, a2⟩ := (iB e he).1
  obtain ⟨a3, a4⟩ := (iB _ (nxI_lt he)).1
  have d0 : (y (nxI N e)).toInt - (y e).toInt ≠ 0 := by unfold spH upH dnH at se; omega
  have k := hc d0
  have m1 : 0 ≤ (2 * h + 1 - 2 * (y e).toInt) * c e ∧ (2 * h + 1 - 2 * (y e).toInt) * c e ≤ 2 * D := by
    unfold spH upH dnH at se
    rcases se with u | u
    · have c0 : 0 < c e := by
        rcases Int.lt_or_le 0 (c e) with z | z
        · exact z
        · have := Int.mul_nonpos_of_nonpos_of_nonneg z (show 0 ≤ (y (nxI N e)).toInt - (y e).toInt by omega); omega
      have p1 := Int.mul_nonneg (show 0 ≤ 2 * h + 1 - 2 * (y e).toInt by omega) (show 0 ≤ c e by omega)
      have p2 := Int.mul_le_mul_of_nonneg_right (show 2 * h + 1 - 2 * (y e).toInt ≤ 2 * ((y (nxI N e)).toInt - (y e).toInt) by omega) (show 0 ≤ c e by omega)
      have p3 : 2 * ((y (nxI N e)).toInt - (y e).toInt) * c e = 2 * D := by rw [← k]; grind
      omega
    · have c0 : c e < 0 := by
        rcases Int.lt_or_le (c e) 0 with z | z
        · exact z
        · have := Int.mul_nonpos_of_nonneg_of_nonpos z (show (y (nxI N e)).toInt - (y e).toInt ≤ 0 by omega); omega
      have p1 := Int.mul_nonneg (show 0 ≤ -(2 * h + 1 - 2 * (y e).toInt) by omega) (show 0 ≤ -(c e) by omega)
      have p2 := Int.mul_le_mul_of_nonneg_right (show -(2 * h + 1 - 2 * (y e).toInt) ≤ -(2 * ((y (nxI N e)).toInt - (y e).toInt)) by omega) (show 0 ≤ -(c e) by omega)
      have p3 : -(2 * ((y (nxI N e)).toInt - (y e).toInt)) * -(c e) = 2 * D := by rw [← k]; grind
      have p4 : -(2 * h + 1 - 2 * (y e).toInt) * -(c e) = (2 * h + 1 - 2 * (y e).toInt) * c e := by grind
      omega
  have eZ : ZH N x y D c h e = (2 * D - (2 * h + 1 - 2 * (y e).toInt) * c e) * (x e).toInt + (2 * h + 1 - 2 * (y e).toInt) * c e * (x (nxI N e)).toInt := by unfold ZH; grind
  rw [eZ]
  generalize (2 * h + 1 - 2 * (y e).toInt) * c e = m at m1 ⊢
  have q1 := Int.mul_le_mul_of_nonneg_left a2 (show 0 ≤ 2 * D - m by omega)
  have q2 := Int.mul_le_mul_of_nonneg_left a1 (show 0 ≤ 2 * D - m by omega)
  have q3 := Int.mul_le_mul_of_nonneg_left a4 (show 0 ≤ m by omega)
  have q4 := Int.mul_le_mul_of_nonneg_left a3 (show 0 ≤ m by omega)
  omega
/-- some edge is not level -/
theorem not_level {N : Nat} {x y : Nat → Int32} (H : ringP N x y) (hN : 0 < N) : ∃ e, e < N ∧ (y (nxI N e)).toInt ≠ (y e).toInt := by
  apply Classical.byContradiction
  intro hno
  have hl : ∀ e, e < N → (y (nxI N e)).toInt = (y e).toInt := by
    intro e he
    apply Classical.byContradiction
    intro z
    exact hno ⟨e, he, z⟩
  have h0 : ∀ e, e < N → (y e).toInt = (y 0).toInt := by
    intro e
    induction e with
    | zero => intro _; rfl
    | succ e ih =>
      intro he
      have := hl e (by omega)
      rw [show nxI N e = e + 1 from if_pos he] at this
      rw [this, ih (by omega)]
  obtain ⟨i, hi, _, hm⟩ := argmin (n := N) (C := fun _ => True) (w := fun i => ((x i).toInt + 500000000).toNat) _ ⟨0, hN, trivial, Nat.le_refl _⟩
  have hx : ∀ j, j < N → (x i).toInt ≤ (x j).toInt := by
    intro j hj
    have h1 : ((x i).toInt + 500000000).toNat ≤ ((x j).toInt + 500000000).toNat := hm j hj trivial
    have b1 := (H.1 i hi).1
    have b2 := (H.1 j hj).1
    unfold inB at b1 b2
    omega
  have hp := pvI_lt hi
  have np := (nx_pv hi).1
  obtain ⟨d1, d2, d3⟩ := ring_dif H hp
  rw [np] at d1 d2 d3
  have y1 := h0 i hi
  have y2 := h0 _ hp
  have y3 := h0 _ (nxI_lt hi)
  have x1 := hx _ hp
  have x2 := hx _ (nxI_lt hi)
  apply d3
  have z1 : (y (pvI N i)).toInt - (y i).toInt = 0 := by omega
  have z2 : (y (nxI N i)).toInt - (y i).toInt = 0 := by omega
  rw [z1, z2]
  constructor
  · unfold Uh; omega
  · unfold cr2; omega
theorem g2 {N : Nat} {x y : Nat → Int32} (H : ringP N x y) (hN : 0 < N) : shoeZ (fun i => (x i).toInt) (fun i => (y i).toInt) N ≠ 0 ∧ -9000000000000000000 ≤ shoeZ (fun i => (x i).toInt) (fun i => (y i).toInt) N ∧ shoeZ (fun i => (x i).toInt) (fun i => (y i).toInt) N ≤ 9000000000000000000 := by
  obtain ⟨D, c, hD, hc⟩ := D_ex (fun e => (y (nxI N e)).toInt - (y e).toInt) N
  have iB := H.1
  -- the area as the sum over the heights
  have e1 : D * shoeZ (fun i => (x i).toInt) (fun i => (y i).toInt) N = sumZ (fun j => SH N x y D c ((j : Int) - (500000000 : Nat))) 1000000000 := by
    unfold SH
    rw [sumZ_swap]
    have e2 : sumZ (fun e => sumZ (fun j => if dB (spH N y ((j : Int) - (500000000 : Nat)) e) = true then sgH N y ((j : Int) - (500000000 : Nat)) e * ZH N x y D c ((j : Int) - (500000000 : Nat)) e else 0) 1000000000) N = sumZ (fun e => D * (((x e).toInt + (x (nxI N e)).toInt) * ((y (nxI N e)).toInt - (y e).toInt))) N := sumZ_ext (fun e he => strip_e he iB (hc e he))
    rw [e2, sumZ_mul]
    refine congrArg (fun z => D * z) ?_
    show sumZ (fun e => cr2 (x e).toInt (y e).toInt (x (nxI N e)).toInt (y (nxI N e)).toInt) N = _
    have e3 : sumZ (fun e => ((x e).toInt + (x (nxI N e)).toInt) * ((y (nxI N e)).toInt - (y e).toInt)) N = sumZ (fun e => cr2 (x e).toInt (y e).toInt (x (nxI N e)).toInt (y (nxI N e)).toInt + ((x (nxI N e)).toInt * (y (nxI N e)).toInt + -1 * ((x e).toInt * (y e).toInt))) N := sumZ_ext (fun e _ => by unfold cr2; grind)
    rw [e3, sumZ_plus, sumZ_plus, sumZ_mul, sumZ_nx (fun e => (x e).toInt * (y e).toInt) hN]
    omega
  have hB : ∀ h e, e < N → spH N y h e → -(((1000000000 * D + 1).toNat : Nat) : Int) < ZH N x y D c h e ∧ ZH N x y D c h e < ((1000000000 * D + 1).toNat : Nat) := by
    intro h e he se
    have := ZH_bd (x := x) he iB hD (hc e he) se
    omega
  have S := fun h => SH_sgn (h := h) H hN hD hc (hB h)
  obtain ⟨e0, he0, ne0⟩ := not_level H hN
  obtain ⟨b1, b2⟩ := (iB e0 he0).2
  obtain ⟨b3, b4⟩ := (iB _ (nxI_lt he0)).2
  have e4 : kap N x y * (D * shoeZ (fun i => (x i).toInt) (fun i => (y i).toInt) N) = sumZ (fun j => kap N x y * SH N x y D c ((j : Int) - (500000000 : Nat))) 1000000000 := by rw [e1, ← sumZ_mul]
  have lo : 0 < kap N x y * (D * shoeZ (fun i => (x i).toInt) (fun i => (y i).toInt) N) := by
    rw [e4]
    have : ∃ j : Nat, j < 1000000000 ∧ spH N y ((j : Int) - (500000000 : Nat)) e0 := by
      rcases Int.lt_or_le (y e0).toInt (y (nxI N e0)).toInt with z | z
      · exact ⟨((y e0).toInt + 500000000).toNat, by omega, Or.inl (by unfold upH; omega)⟩
      · exact ⟨((y (nxI N e0)).toInt + 500000000).toNat, by omega, Or.inr (by unfold dnH; omega)⟩
    obtain ⟨j, hj, sj⟩ := this
    have h1 : kap N x y * SH N x y D c ((j : Int) - (500000000 : Nat)) ≤ sumZ (fun j => kap N x y * SH N x y D c ((j : Int) - (500000000 : Nat))) 1000000000 := sumZ_get (g := fun j => kap N x y * SH N x y D c ((j : Int) - (500000000 : Nat))) (j := j) (M := 1000000000) (fun i _ => (S _).1) hj
    have h2 := (S ((j : Int) - (500000000 : Nat))).2.2 ⟨e0, he0, sj⟩
    omega
  have hi : kap N x y * (D * shoeZ (fun i => (x i).toInt) (fun i => (y i).toInt) N) ≤ 1000000000 * (2 * (1000000000 * D + 1)) := by
    rw [e4]
    have h1 := sumZ_le (g := fun j => kap N x y * SH N x y D c ((j : Int) - (500000000 : Nat))) (b := ((2 * (1000000000 * D + 1).toNat : Nat) : Int)) (M := 1000000000) (fun i _ => (S _).2.1)
    omega
  have hk : kap N x y = 1 ∨ kap N x y = -1 := by
    unfold kap; split
    · exact Or.inl rfl
    · exact Or.inr rfl
  generalize shoeZ (fun i => (x i).toInt) (fun i => (y i).toInt) N = A at lo hi ⊢
  have hA : A ≠ 0 := by
    intro z
    rw [z, Int.mul_zero, Int.mul_zero] at lo
    omega
  refine ⟨hA, ?_, ?_⟩
  · apply Classical.byContradiction
    intro z
    have m := Int.mul_le_mul_of_nonneg_left (show A ≤ -9000000000000000000 by omega) (show 0 ≤ D by omega)
    rcases hk with k | k
    · rw [k, Int.one_mul] at lo; omega
    · rw [k] at hi; omega
  · apply Classical.byContradiction
    intro z
    have m := Int.mul_le_mul_of_nonneg_left (show 9000000000000000000 ≤ A by omega) (show 0 ≤ D by omega)
    rcases hk with k | k
    · rw [k, Int.one_mul] at hi; omega
    · rw [k] at lo; omega
