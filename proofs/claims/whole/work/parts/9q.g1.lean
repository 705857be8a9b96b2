/-! half B, G1: the pieces at a place -/
def farX (ax ay bx : Nat → Int32) (vx vy : Int32) (e : Nat) : Int32 := if ax e = vx ∧ ay e = vy then bx e else ax e
def farY (ax ay b_y : Nat → Int32) (vx vy : Int32) (e : Nat) : Int32 := if ax e = vx ∧ ay e = vy then b_y e else ay e
def atV (ax ay bx b_y : Nat → Int32) (vx vy : Int32) (e : Nat) : Prop := isE (ax e) (ay e) (bx e) (b_y e) vx vy
def dX (ax ay bx : Nat → Int32) (vx vy : Int32) (e : Nat) : Int := (farX ax ay bx vx vy e).toInt - vx.toInt
def dY (ax ay b_y : Nat → Int32) (vx vy : Int32) (e : Nat) : Int := (farY ax ay b_y vx vy e).toInt - vy.toInt
/-- the two forms of a piece at v -/
theorem at_form {ax ay bx b_y : Nat → Int32} {vx vy : Int32} {e : Nat} (h : atV ax ay bx b_y vx vy e) : ((ax e = vx ∧ ay e = vy) ∧ farX ax ay bx vx vy e = bx e ∧ farY ax ay b_y vx vy e = b_y e) ∨ (¬ (ax e = vx ∧ ay e = vy) ∧ (bx e = vx ∧ b_y e = vy) ∧ farX ax ay bx vx vy e = ax e ∧ farY ax ay b_y vx vy e = ay e) := by
  by_cases c : ax e = vx ∧ ay e = vy
  · exact Or.inl ⟨c, if_pos c, if_pos c⟩
  · rcases h with h | h
    · exact absurd h c
    · exact Or.inr ⟨c, h, if_neg c, if_neg c⟩
theorem dir_ne {n : Nat} {ax ay bx b_y : Nat → Int32} {vx vy : Int32} {e : Nat} (I1 : pcs n ax ay bx b_y) (he : e < n) (h : atV ax ay bx b_y vx vy e) : ¬ (dX ax ay bx vx vy e = 0 ∧ dY ax ay b_y vx vy e = 0) := by
  have hl := lessP_ne (I1 e he).2
  unfold dX dY
  rcases at_form h with ⟨⟨h1, h2⟩, h3, h4⟩ | ⟨_, ⟨h1, h2⟩, h3, h4⟩
  · rw [h3, h4, ← h1, ← h2]
    intro z
    exact hl ⟨i32eq.mpr (by omega), i32eq.mpr (by omega)⟩
  · rw [h3, h4, ← h1, ← h2]
    intro z
    exact hl ⟨i32eq.mpr (by omega), i32eq.mpr (by omega)⟩
/-- two ends in one direction from v -/
theorem one_dir {v1 v2 f1 f2 g1 g2 : Int32} (hf : ¬ (f1.toInt - v1.toInt = 0 ∧ f2.toInt - v2.toInt = 0)) (hg : ¬ (g1.toInt - v1.toInt = 0 ∧ g2.toInt - v2.toInt = 0)) (hu : Uh (f1.toInt - v1.toInt) (f2.toInt - v2.toInt) ↔ Uh (g1.toInt - v1.toInt) (g2.toInt - v2.toInt)) (hc : cr2 (f1.toInt - v1.toInt) (f2.toInt - v2.toInt) (g1.toInt - v1.toInt) (g2.toInt - v2.toInt) = 0) : inSeg v1 v2 f1 f2 g1 g2 ∨ inSeg v1 v2 g1 g2 f1 f2 ∨ (f1 = g1 ∧ f2 = g2) := by
  have c1 : crs v1.toInt v2.toInt f1.toInt f2.toInt g1.toInt g2.toInt = 0 := hc
  have c2 : crs v1.toInt v2.toInt g1.toInt g2.toInt f1.toInt f2.toInt = 0 := by
    have : crs v1.toInt v2.toInt g1.toInt g2.toInt f1.toInt f2.toInt = - crs v1.toInt v2.toInt f1.toInt f2.toInt g1.toInt g2.toInt := by unfold crs; grind
    omega
  by_cases y0 : f2.toInt = v2.toInt
  · have y1 : g2.toInt = v2.toInt := by
      unfold cr2 at hc
      rw [y0, Int.sub_self, Int.zero_mul, Int.sub_zero] at hc
      rcases Int.mul_eq_zero.mp hc with q | q <;> omega
    unfold Uh at hu
    rcases Int.lt_trichotomy f1.toInt g1.toInt with g | g | g
    · rcases Int.lt_or_le v1.toInt f1.toInt with k | k
      · refine Or.inr (Or.inl ⟨⟨?_, ?_, by unfold bt; omega, by unfold bt; omega⟩, c2⟩)
        · intro z; rw [z.1] at k; omega
        · intro z; rw [z.1] at g; omega
      · refine Or.inl ⟨⟨?_, ?_, by unfold bt; omega, by unfold bt; omega⟩, c1⟩
        · intro z; have := z.1; rw [i32eq] at this; omega
        · intro z; have := z.1; rw [i32eq] at this; omega
    · exact Or.inr (Or.inr ⟨i32eq.mpr g, i32eq.mpr (by omega)⟩)
    · rcases Int.lt_or_le v1.toInt g1.toInt with k | k
      · refine Or.inl ⟨⟨?_, ?_, by unfold bt; omega, by unfold bt; omega⟩, c1⟩
        · intro z; have := z.1; rw [i32eq] at this; omega
        · intro z; have := z.1; rw [i32eq] at this; omega
      · refine Or.inr (Or.inl ⟨⟨?_, ?_, by unfold bt; omega, by unfold bt; omega⟩, c2⟩)
        · intro z; have := z.1; rw [i32eq] at this; omega
        · intro z; have := z.1; rw [i32eq] at this; omega
  · have y1 : ¬ g2.toInt = v2.toInt := by
      intro z
      unfold cr2 at hc
      rw [z, Int.sub_self, Int.mul_zero, Int.zero_sub] at hc
      have : (f2.toInt - v2.toInt) * (g1.toInt - v1.toInt) = 0 := by omega
      rcases Int.mul_eq_zero.mp this with q | q <;> omega
    unfold Uh at hu
    rcases Int.lt_trichotomy f2.toInt g2.toInt with g | g | g
    · rcases Int.lt_or_le v2.toInt f2.toInt with k | k
      · exact Or.inr (Or.inl (in_up k g c2))
      · exact Or.inl (in_dn g (by omega) c1)
    · right; right
      refine ⟨i32eq.mpr ?_, i32eq.mpr g⟩
      unfold cr2 at hc
      rw [g] at hc
      have : (g2.toInt - v2.toInt) * (f1.toInt - g1.toInt) = 0 := by grind
      rcases Int.mul_eq_zero.mp this with q | q <;> omega
    · rcases Int.lt_or_le v2.toInt g2.toInt with k | k
      · exact Or.inl (in_up k g c1)
      · exact Or.inr (Or.inl (in_dn g (by omega) c2))
theorem inSeg_cl {a b c d p q r s : Int32} : (inSeg a b c d p q ∨ inSeg a b c d r s ∨ inSeg p q r s a b ∨ inSeg p q r s c d) → clash a b c d p q r s := by
  intro h
  rcases h with h | h | h | h
  · exact Or.inl h
  · exact Or.inr (Or.inl h)
  · exact Or.inr (Or.inr (Or.inl h))
  · exact Or.inr (Or.inr (Or.inr (Or.inl h)))
theorem dir_dif {n : Nat} {ax ay bx b_y : Nat → Int32} {vx vy : Int32} {d e : Nat} (I1 : pcs n ax ay bx b_y) (I2 : apt n ax ay bx b_y) (hd : d < n) (he : e < n) (hde : d ≠ e) (sd : atV ax ay bx b_y vx vy d) (se : atV ax ay bx b_y vx vy e) : dif2 (dX ax ay bx vx vy d) (dY ax ay b_y vx vy d) (dX ax ay bx vx vy e) (dY ax ay b_y vx vy e) := by
  intro z
  obtain ⟨n1, n2⟩ := I2 d e hd he hde
  have o := one_dir (dir_ne I1 hd sd) (dir_ne I1 he se) z.1 z.2
  rcases at_form sd with ⟨⟨h1, h2⟩, h3, h4⟩ | ⟨_, ⟨h1, h2⟩, h3, h4⟩
  · rcases at_form se with ⟨⟨k1, k2⟩, k3, k4⟩ | ⟨_, ⟨k1, k2⟩, k3, k4⟩
    · rw [h3, h4, k3, k4] at o
      rcases o with o | o | o
      · rw [← h1, ← h2] at o; exact n1 (inSeg_cl (Or.inr (Or.inl o)))
      · rw [← k1, ← k2] at o; exact n1 (inSeg_cl (Or.inr (Or.inr (Or.inr o))))
      · exact n2 (Or.inl ⟨h1.trans k1.symm, h2.trans k2.symm, o.1, o.2⟩)
    · rw [h3, h4, k3, k4] at o
      rcases o with o | o | o
      · rw [← h1, ← h2] at o; exact n1 (inSeg_cl (Or.inl o))
      · rw [← k1, ← k2] at o; exact n1 (inSeg_cl (Or.inr (Or.inr (Or.inr (inSeg_sw.mp o)))))
      · exact n2 (Or.inr ⟨h1.trans k1.symm, h2.trans k2.symm, o.1, o.2⟩)
  · rcases at_form se with ⟨⟨k1, k2⟩, k3, k4⟩ | ⟨_, ⟨k1, k2⟩, k3, k4⟩
    · rw [h3, h4, k3, k4] at o
      rcases o with o | o | o
      · rw [← h1, ← h2] at o; exact n1 (inSeg_cl (Or.inr (Or.inl (inSeg_sw.mp o))))
      · rw [← k1, ← k2] at o; exact n1 (inSeg_cl (Or.inr (Or.inr (Or.inl o))))
      · exact n2 (Or.inr ⟨o.1, o.2, h1.trans k1.symm, h2.trans k2.symm⟩)
    · rw [h3, h4, k3, k4] at o
      rcases o with o | o | o
      · rw [← h1, ← h2] at o; exact n1 (inSeg_cl (Or.inl (inSeg_sw.mp o)))
      · rw [← k1, ← k2] at o; exact n1 (inSeg_cl (Or.inr (Or.inr (Or.inl (inSeg_sw.mp o)))))
      · exact n2 (Or.inl ⟨o.1, o.2, h1.trans k1.symm, h2.trans k2.symm⟩)
/-- the rank of a piece at v -/
noncomputable def rkV (n : Nat) (ax ay bx b_y : Nat → Int32) (vx vy : Int32) : Nat → Nat := rkD n (atV ax ay bx b_y vx vy) (fun d e => aL (dX ax ay bx vx vy d) (dY ax ay b_y vx vy d) (dX ax ay bx vx vy e) (dY ax ay b_y vx vy e))
theorem rkV_lt {n : Nat} {ax ay bx b_y : Nat → Int32} {vx vy : Int32} (I1 : pcs n ax ay bx b_y) (I2 : apt n ax ay bx b_y) {d e : Nat} (hd : d < n) (he : e < n) (sd : atV ax ay bx b_y vx vy d) (se : atV ax ay bx b_y vx vy e) : aL (dX ax ay bx vx vy d) (dY ax ay b_y vx vy d) (dX ax ay bx vx vy e) (dY ax ay b_y vx vy e) ↔ rkV n ax ay bx b_y vx vy d < rkV n ax ay bx b_y vx vy e := by
  have key : ∀ d e, d < n → e < n → atV ax ay bx b_y vx vy d → atV ax ay bx b_y vx vy e → aL (dX ax ay bx vx vy d) (dY ax ay b_y vx vy d) (dX ax ay bx vx vy e) (dY ax ay b_y vx vy e) → rkV n ax ay bx b_y vx vy d < rkV n ax ay bx b_y vx vy e := by
    intro d e hd he sd se h
    exact rk_lt (fun e _ _ => aL_ir) (fun d e f hd he hf sd se sf k1 k2 => aL_tr (dir_ne I1 hd sd) (dir_ne I1 he se) (dir_ne I1 hf sf) k1 k2) hd he sd se h
  constructor
  · exact key d e hd he sd se
  · intro h
    by_cases c : d = e
    · rw [c] at h; omega
    · rcases aL_to (dir_dif I1 I2 hd he c sd se) with z | z
      · exact z
      · have := key e d he hd se sd z; omega
theorem rkV_inj {n : Nat} {ax ay bx b_y : Nat → Int32} {vx vy : Int32} (I1 : pcs n ax ay bx b_y) (I2 : apt n ax ay bx b_y) : ∀ d e, d < n → e < n → atV ax ay bx b_y vx vy d → atV ax ay bx b_y vx vy e → rkV n ax ay bx b_y vx vy d = rkV n ax ay bx b_y vx vy e → d = e := by
  intro d e hd he sd se h
  apply Classical.byContradiction
  intro c
  rcases aL_to (dir_dif I1 I2 hd he c sd se) with z | z
  · have := (rkV_lt I1 I2 hd he sd se).mp z; omega
  · have := (rkV_lt I1 I2 he hd se sd).mp z; omega
theorem snr_cw {n : Nat} {ax ay bx b_y : Nat → Int32} {vx vy : Int32} (I1 : pcs n ax ay bx b_y) (I2 : apt n ax ay bx b_y) {k d e : Nat} (hk : k < n) (hd : d < n) (he : e < n) (nkd : k ≠ d) (nke : k ≠ e) (nde : d ≠ e) (sk : atV ax ay bx b_y vx vy k) (sd : atV ax ay bx b_y vx vy d) (se : atV ax ay bx b_y vx vy e) : snr (cr2 (dX ax ay bx vx vy k) (dY ax ay b_y vx vy k) (dX ax ay bx vx vy d) (dY ax ay b_y vx vy d)) (cr2 (dX ax ay bx vx vy k) (dY ax ay b_y vx vy k) (dX ax ay bx vx vy e) (dY ax ay b_y vx vy e)) (cr2 (dX ax ay bx vx vy d) (dY ax ay b_y vx vy d) (dX ax ay bx vx vy e) (dY ax ay b_y vx vy e)) ↔ cwR (rkV n ax ay bx b_y vx vy k) (rkV n ax ay bx b_y vx vy d) (rkV n ax ay bx b_y vx vy e) := by
  rw [snr_aL (dir_ne I1 hk sk) (dir_ne I1 hd sd) (dir_ne I1 he se) (dir_dif I1 I2 hk hd nkd sk sd) (dir_dif I1 I2 hk he nke sk se) (dir_dif I1 I2 hd he nde sd se)]
  rw [rkV_lt I1 I2 hd hk sd sk, rkV_lt I1 I2 hk he sk se, rkV_lt I1 I2 he hk se sk, rkV_lt I1 I2 he hd se sd]
  rfl
