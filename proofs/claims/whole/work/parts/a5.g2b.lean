/-! half B, G2: one side of a ring is inside all along, whole -/
theorem ring_dif {N k : Nat} {x y : Nat → Int32} (H : ringP N x y) (hk : k < N) : ¬ ((x k).toInt - (x (nxI N k)).toInt = 0 ∧ (y k).toInt - (y (nxI N k)).toInt = 0) ∧ ¬ ((x (nxI N (nxI N k))).toInt - (x (nxI N k)).toInt = 0 ∧ (y (nxI N (nxI N k))).toInt - (y (nxI N k)).toInt = 0) ∧ dif2 ((x k).toInt - (x (nxI N k)).toInt) ((y k).toInt - (y (nxI N k)).toInt) ((x (nxI N (nxI N k))).toInt - (x (nxI N k)).toInt) ((y (nxI N (nxI N k))).toInt - (y (nxI N k)).toInt) := by
  obtain ⟨H1, H2, H3, H4⟩ := H
  have hn := nxI_lt hk
  have hnn := nxI_lt hn
  have a1 : ¬ ((x k).toInt - (x (nxI N k)).toInt = 0 ∧ (y k).toInt - (y (nxI N k)).toInt = 0) := fun z => H3 k hk (H2 _ _ hn hk (i32eq.mpr (by omega)) (i32eq.mpr (by omega)))
  have a2 : ¬ ((x (nxI N (nxI N k))).toInt - (x (nxI N k)).toInt = 0 ∧ (y (nxI N (nxI N k))).toInt - (y (nxI N k)).toInt = 0) := fun z => H3 _ hn (H2 _ _ hnn hn (i32eq.mpr (by omega)) (i32eq.mpr (by omega)))
  refine ⟨a1, a2, ?_⟩
  intro z
  obtain ⟨n1, n2⟩ := H4 k (nxI N k) hk hn (Ne.symm (H3 k hk))
  rcases one_dir a1 a2 z.1 z.2 with o | o | o
  · exact n1 (inSeg_cl (Or.inr (Or.inl (inSeg_sw.mp o))))
  · exact n1 (inSeg_cl (Or.inr (Or.inr (Or.inl o))))
  · exact n2 (Or.inr ⟨o.1, o.2, rfl, rfl⟩)
theorem tk_two {a b c d : Int} (h1 : ¬ (a = 0 ∧ b = 0)) (h2 : ¬ (c = 0 ∧ d = 0)) (hd : dif2 a b c d) : mAt (tkv a b c d) 1 ^^^ mAt (Uh (-a) (-b)) 1 = mAt (tkv c d a b) 1 ^^^ mAt (Uh c d) 1 := by
  have t1 : tkv a b c d ↔ _ := tk_aL h1 h2
  have t2 : tkv c d a b ↔ _ := tk_aL h2 h1
  have un : Uh (-a) (-b) ↔ ¬ Uh a b := by unfold Uh; omega
  have tot := aL_to hd
  have asy : ¬ (aL a b c d ∧ aL c d a b) := by
    unfold aL
    rw [cr2_sw a b c d]
    intro z
    by_cases u1 : Uh a b <;> by_cases u2 : Uh c d <;> simp only [u1, u2, iff_self, not_true_eq_false, not_false_eq_true, iff_true, iff_false, true_iff, false_iff, true_and, and_true, false_and, and_false, or_false, false_or] at z <;> omega
  have lU : Uh a b → ¬ Uh c d → aL a b c d := fun p q => Or.inl ⟨p, q⟩
  have lU' : Uh c d → ¬ Uh a b → aL c d a b := fun p q => Or.inl ⟨p, q⟩
  rw [propext t1, propext t2, propext un]
  by_cases u1 : Uh a b <;> by_cases u2 : Uh c d <;> by_cases l1 : aL a b c d <;> by_cases l2 : aL c d a b <;> simp only [u1, u2, l1, l2, and_self, or_self, not_true_eq_false, not_false_eq_true, and_true, true_and, and_false, false_and, or_false, false_or, implies_true, true_implies, false_implies, or_true, true_or] at tot asy lU lU' ⊢ <;> simp [mAt_t, mAt_f]
noncomputable def ER (N : Nat) (x y : Nat → Int32) (k : Nat) : Int32 := (c0R N x y (nxI N k) ^^^ mAt (tkv ((x k).toInt - (x (nxI N k)).toInt) ((y k).toInt - (y (nxI N k)).toInt) ((x (nxI N (nxI N k))).toInt - (x (nxI N k)).toInt) ((y (nxI N (nxI N k))).toInt - (y (nxI N k)).toInt)) 1) ^^^ mAt (Uh ((x (nxI N k)).toInt - (x k).toInt) ((y (nxI N k)).toInt - (y k).toInt)) 1
/-- the ray from a point of edge k, and whether k rises -/
theorem ER_P {N k : Nat} {x y : Nat → Int32} {s r : Int} (H : ringP N x y) (hk : k < N) (hr : 0 < r) (hs : r < s) : xo (fun e => mAt (e ≠ k ∧ rho (s * (x k).toInt + r * ((x (nxI N k)).toInt - (x k).toInt)) (s * (y k).toInt + r * ((y (nxI N k)).toInt - (y k).toInt)) (s * (x e).toInt) (s * (y e).toInt) (s * (x (nxI N e)).toInt) (s * (y (nxI N e)).toInt)) 1) N ^^^ mAt (Uh ((x (nxI N k)).toInt - (x k).toInt) ((y (nxI N k)).toInt - (y k).toInt)) 1 = ER N x y k := by
  have hn := nxI_lt hk
  have := ring_ray (k := k) (v := nxI N k) (w := k) (k' := nxI N k) (f := nxI N (nxI N k)) (s := s) (r := s - r) H hk hn hk hn (nxI_lt hn) (by omega) (by omega) (H.2.2.1 k hk) (Or.inr ⟨rfl, rfl, rfl, rfl⟩)
  unfold ER
  rw [← this]
  have ex : ∀ u w : Int, s * w + (s - r) * (u - w) = s * u + r * (w - u) := by intro u w; grind
  rw [ex, ex]
theorem ER_nx {N k : Nat} {x y : Nat → Int32} (H : ringP N x y) (hk : k < N) : ER N x y (nxI N k) = ER N x y k := by
  have hn := nxI_lt hk
  obtain ⟨d1, d2, d3⟩ := ring_dif H hk
  rw [← ER_P H hn (s := 2) (r := 1) (by omega) (by omega)]
  rw [ring_ray (k := nxI N k) (v := nxI N k) (w := nxI N (nxI N k)) (k' := k) (f := k) (s := 2) (r := 1) H hn hn (nxI_lt hn) hk hk (by omega) (by omega) (fun z => H.2.2.1 k hk z.symm) (Or.inl ⟨rfl, rfl, rfl, rfl⟩)]
  unfold ER
  rw [x32a, x32a]
  congr 1
  have t := tk_two d1 d2 d3
  have n1 : ∀ u w : Int, -(u - w) = w - u := by intro u w; omega
  rw [n1, n1] at t
  exact t.symm
theorem ER_all {N : Nat} {x y : Nat → Int32} (H : ringP N x y) : ∀ k, k < N → ER N x y k = ER N x y 0 := by
  intro k
  induction k with
  | zero => intro _; rfl
  | succ k ih =>
    intro hk
    have e : nxI N k = k + 1 := if_pos hk
    rw [← ih (by omega), ← e]
    exact ER_nx H (by omega)
