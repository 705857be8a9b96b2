/-! half B, G1: the first boundary piece to the right of the way back is a way out -/
theorem bool_tf {b : Bool} : b = true ∨ b = false := by cases b <;> simp
def sPX (W : Nat → Int32) (ax bx : Nat → Int32) (k : Nat) : Int32 := if W k = 1 then ax k else bx k
def ePX (W : Nat → Int32) (ax bx : Nat → Int32) (k : Nat) : Int32 := if W k = 1 then bx k else ax k
theorem sides {n k : Nat} {ax ay bx b_y mk : Nat → Int32} {vx vy : Int32} (I1 : pcs n ax ay bx b_y) (I2 : apt n ax ay bx b_y) (I3 : mks n mk) (hc : closed n ax ay bx b_y mk) (hk : k < n) (sk : atV ax ay bx b_y vx vy k) : ((ax k = vx ∧ ay k = vy) → c0V n ax ay bx b_y mk vx vy ^^^ NNr n (atV ax ay bx b_y vx vy) (rkV n ax ay bx b_y vx vy) mk (rkV n ax ay bx b_y vx vy k + 1) = lfM n ax ay bx b_y mk k ∧ c0V n ax ay bx b_y mk vx vy ^^^ NNr n (atV ax ay bx b_y vx vy) (rkV n ax ay bx b_y vx vy) mk (rkV n ax ay bx b_y vx vy k) = lfM n ax ay bx b_y mk k ^^^ mk k) ∧ ((bx k = vx ∧ b_y k = vy) → c0V n ax ay bx b_y mk vx vy ^^^ NNr n (atV ax ay bx b_y vx vy) (rkV n ax ay bx b_y vx vy) mk (rkV n ax ay bx b_y vx vy k) = lfM n ax ay bx b_y mk k ∧ c0V n ax ay bx b_y mk vx vy ^^^ NNr n (atV ax ay bx b_y vx vy) (rkV n ax ay bx b_y vx vy) mk (rkV n ax ay bx b_y vx vy k + 1) = lfM n ax ay bx b_y mk k ^^^ mk k) := by
  have hs := side_k I1 I2 hc hk sk
  have st := NN_step (m := mk) (rkV_inj I1 I2 (vx := vx) (vy := vy)) hk sk
  obtain ⟨_, hl⟩ := I1 k hk
  have xxm : ∀ a : Int32, a ^^^ mk k ^^^ mk k = a := fun a => by rw [x32a, xself, Int32.xor_zero]
  unfold lfM
  rw [hs, st]
  constructor
  · rintro ⟨h1, h2⟩
    have fx : farX ax ay bx vx vy k = bx k := if_pos ⟨h1, h2⟩
    have fy : farY ax ay b_y vx vy k = b_y k := if_pos ⟨h1, h2⟩
    by_cases c : (ay k).toInt < (b_y k).toInt
    · have u : Uh (dX ax ay bx vx vy k) (dY ax ay b_y vx vy k) := by unfold Uh dX dY; rw [fy, ← h2]; omega
      rw [if_pos (dB_t u), mAt_t c, Nat.add_zero, xxm, x32a]
      exact ⟨rfl, rfl⟩
    · have u : ¬ Uh (dX ax ay bx vx vy k) (dY ax ay b_y vx vy k) := by
        unfold Uh dX dY
        unfold lessP at hl
        rw [fy, fx, ← h2, ← h1]
        omega
      rw [if_neg (fun z => u (dB_i.mp z)), mAt_f c, Int32.xor_zero, st, ← x32a, xxm]
      exact ⟨rfl, rfl⟩
  · rintro ⟨h1, h2⟩
    have na : ¬ (ax k = vx ∧ ay k = vy) := fun z => lessP_ne hl ⟨z.1.trans h1.symm, z.2.trans h2.symm⟩
    have fx : farX ax ay bx vx vy k = ax k := if_neg na
    have fy : farY ax ay b_y vx vy k = ay k := if_neg na
    by_cases c : (ay k).toInt < (b_y k).toInt
    · have u : ¬ Uh (dX ax ay bx vx vy k) (dY ax ay b_y vx vy k) := by unfold Uh dX dY; rw [fy, ← h2]; omega
      rw [if_neg (fun z => u (dB_i.mp z)), mAt_t c, st, ← x32a, xxm]
      exact ⟨rfl, rfl⟩
    · have u : Uh (dX ax ay bx vx vy k) (dY ax ay b_y vx vy k) := by
        unfold Uh dX dY
        unfold lessP at hl
        rw [fy, fx, ← h2, ← h1]
        omega
      rw [if_pos (dB_t u), mAt_f c, Nat.add_zero, Int32.xor_zero, x32a]
      exact ⟨rfl, rfl⟩
theorem wy_cases {w : Int32} {n k : Nat} {ax ay bx b_y mk : Nat → Int32} : (wyM w n ax ay bx b_y mk k = 0 ∧ resB w (lfM n ax ay bx b_y mk k) = resB w (lfM n ax ay bx b_y mk k ^^^ mk k)) ∨ (wyM w n ax ay bx b_y mk k = 1 ∧ resB w (lfM n ax ay bx b_y mk k) = true ∧ resB w (lfM n ax ay bx b_y mk k ^^^ mk k) = false) ∨ (wyM w n ax ay bx b_y mk k = 2 ∧ resB w (lfM n ax ay bx b_y mk k) = false ∧ resB w (lfM n ax ay bx b_y mk k ^^^ mk k) = true) := by
  unfold wyM wOf
  cases h1 : resB w (lfM n ax ay bx b_y mk k) <;> cases h2 : resB w (lfM n ax ay bx b_y mk k ^^^ mk k) <;> simp
theorem g1 {n k : Nat} {ax ay bx b_y mk : Nat → Int32} {w : Int32} (I1 : pcs n ax ay bx b_y) (I2 : apt n ax ay bx b_y) (I3 : mks n mk) (hc : closed n ax ay bx b_y mk) (hk : k < n) (hw : wyM w n ax ay bx b_y mk k ≠ 0) {vx vy : Int32} (hvx : vx = ePX (wyM w n ax ay bx b_y mk) ax bx k) (hvy : vy = ePX (wyM w n ax ay bx b_y mk) ay b_y k) : ∃ (ps : Nat → Nat) (j : Nat), (∀ d e, d < n → e < n → d ≠ k → e ≠ k → d ≠ e → atV ax ay bx b_y vx vy d → atV ax ay bx b_y vx vy e → (snr (cr2 (dX ax ay bx vx vy k) (dY ax ay b_y vx vy k) (dX ax ay bx vx vy d) (dY ax ay b_y vx vy d)) (cr2 (dX ax ay bx vx vy k) (dY ax ay b_y vx vy k) (dX ax ay bx vx vy e) (dY ax ay b_y vx vy e)) (cr2 (dX ax ay bx vx vy d) (dY ax ay b_y vx vy d) (dX ax ay bx vx vy e) (dY ax ay b_y vx vy e)) ↔ ps d < ps e)) ∧ (∀ d e, d < n → e < n → d ≠ k → e ≠ k → d ≠ e → atV ax ay bx b_y vx vy d → atV ax ay bx b_y vx vy e → ps d ≠ ps e) ∧ j < n ∧ j ≠ k ∧ atV ax ay bx b_y vx vy j ∧ wyM w n ax ay bx b_y mk j ≠ 0 ∧ sPX (wyM w n ax ay bx b_y mk) ax bx j = vx ∧ sPX (wyM w n ax ay bx b_y mk) ay b_y j = vy ∧ ∀ e, e < n → e ≠ k → e ≠ j → atV ax ay bx b_y vx vy e → wyM w n ax ay bx b_y mk e ≠ 0 → ps j < ps e := by
  have sk : atV ax ay bx b_y vx vy k := by
    rw [hvx, hvy]
    unfold ePX
    by_cases c : wyM w n ax ay bx b_y mk k = 1
    · rw [if_pos c, if_pos c]; exact Or.inr ⟨rfl, rfl⟩
    · rw [if_neg c, if_neg c]; exact Or.inl ⟨rfl, rfl⟩
  have hr : ∀ e, e < n → atV ax ay bx b_y vx vy e → rkV n ax ay bx b_y vx vy e < n + 1 := fun e _ _ => Nat.lt_succ_of_le cnt_n
  have kk : resB w (c0V n ax ay bx b_y mk vx vy ^^^ NNr n (atV ax ay bx b_y vx vy) (rkV n ax ay bx b_y vx vy) mk (rkV n ax ay bx b_y vx vy k)) = true ∧ resB w (c0V n ax ay bx b_y mk vx vy ^^^ NNr n (atV ax ay bx b_y vx vy) (rkV n ax ay bx b_y vx vy) mk (rkV n ax ay bx b_y vx vy k + 1)) = false := by
    obtain ⟨s1, s2⟩ := sides I1 I2 I3 hc hk sk
    rcases wy_cases (w := w) (n := n) (k := k) (ax := ax) (ay := ay) (bx := bx) (b_y := b_y) (mk := mk) with z | z | z
    · exact absurd z.1 hw
    · have hv := s2 (by rw [hvx, hvy]; unfold ePX; rw [if_pos z.1, if_pos z.1]; exact ⟨rfl, rfl⟩)
      rw [hv.1, hv.2]; exact z.2
    · have c : ¬ wyM w n ax ay bx b_y mk k = 1 := by rw [z.1]; decide
      have hv := s1 (by rw [hvx, hvy]; unfold ePX; rw [if_neg c, if_neg c]; exact ⟨rfl, rfl⟩)
      rw [hv.1, hv.2]; exact ⟨z.2.2, z.2.1⟩
  have bd : ∀ e, e < n → atV ax ay bx b_y vx vy e → (wyM w n ax ay bx b_y mk e ≠ 0 ↔ resB w (c0V n ax ay bx b_y mk vx vy ^^^ NNr n (atV ax ay bx b_y vx vy) (rkV n ax ay bx b_y vx vy) mk (rkV n ax ay bx b_y vx vy e)) ≠ resB w (c0V n ax ay bx b_y mk vx vy ^^^ NNr n (atV ax ay bx b_y vx vy) (rkV n ax ay bx b_y vx vy) mk (rkV n ax ay bx b_y vx vy e + 1))) := by
    intro e he se
    obtain ⟨s1, s2⟩ := sides I1 I2 I3 hc he se
    rcases se with h | h
    · have hv := s1 h
      rw [hv.1, hv.2]
      rcases wy_cases (w := w) (n := n) (k := e) (ax := ax) (ay := ay) (bx := bx) (b_y := b_y) (mk := mk) with z | z | z
      · rw [z.1, z.2]; simp
      · rw [z.1, z.2.1, z.2.2]; simp
      · rw [z.1, z.2.1, z.2.2]; simp
    · have hv := s2 h
      rw [hv.1, hv.2]
      rcases wy_cases (w := w) (n := n) (k := e) (ax := ax) (ay := ay) (bx := bx) (b_y := b_y) (mk := mk) with z | z | z
      · rw [z.1, z.2]; simp
      · rw [z.1, z.2.1, z.2.2]; simp
      · rw [z.1, z.2.1, z.2.2]; simp
  obtain ⟨j, hj, sj, njk, ⟨j1, j2⟩, hmin⟩ := g1_abs (n := n) (k := k) (N := n + 1) (S := atV ax ay bx b_y vx vy) (r := rkV n ax ay bx b_y vx vy) (m := mk) (c0 := c0V n ax ay bx b_y mk vx vy) (res := resB w) hr (odd_any hc vx vy) (rkV_inj I1 I2) hk sk kk.1 kk.2
  have wj : wyM w n ax ay bx b_y mk j ≠ 0 := (bd j hj sj).mpr (by rw [j1, j2]; decide)
  have start : sPX (wyM w n ax ay bx b_y mk) ax bx j = vx ∧ sPX (wyM w n ax ay bx b_y mk) ay b_y j = vy := by
    obtain ⟨s1, s2⟩ := sides I1 I2 I3 hc hj sj
    unfold sPX
    rcases sj with h | h
    · have hv := s1 h
      rw [hv.1] at j2; rw [hv.2] at j1
      rcases wy_cases (w := w) (n := n) (k := j) (ax := ax) (ay := ay) (bx := bx) (b_y := b_y) (mk := mk) with z | z | z
      · exact absurd z.1 wj
      · rw [if_pos z.1, if_pos z.1]; exact h
      · rw [z.2.1] at j2; exact absurd j2 (by decide)
    · have hv := s2 h
      rw [hv.1] at j1; rw [hv.2] at j2
      rcases wy_cases (w := w) (n := n) (k := j) (ax := ax) (ay := ay) (bx := bx) (b_y := b_y) (mk := mk) with z | z | z
      · exact absurd z.1 wj
      · rw [z.2.1] at j1; exact absurd j1 (by decide)
      · have c : ¬ wyM w n ax ay bx b_y mk j = 1 := by rw [z.1]; decide
        rw [if_neg c, if_neg c]; exact h
  refine ⟨fun e => psi (rkV n ax ay bx b_y vx vy k) (n + 1) (rkV n ax ay bx b_y vx vy e), j, ?_, ?_, hj, njk, sj, wj, start.1, start.2, ?_⟩
  · intro d e hd he ndk nek nde sd se
    rw [snr_cw I1 I2 hk hd he (Ne.symm ndk) (Ne.symm nek) nde sk sd se]
    exact psi_cw (hr d hd sd) (hr e he se) (fun z => ndk (rkV_inj I1 I2 d k hd hk sd sk z)) (fun z => nek (rkV_inj I1 I2 e k he hk se sk z))
  · intro d e hd he ndk nek nde sd se
    have h1 := hr d hd sd
    have h2 := hr e he se
    have h3 : rkV n ax ay bx b_y vx vy d ≠ rkV n ax ay bx b_y vx vy k := fun z => ndk (rkV_inj I1 I2 d k hd hk sd sk z)
    have h4 : rkV n ax ay bx b_y vx vy e ≠ rkV n ax ay bx b_y vx vy k := fun z => nek (rkV_inj I1 I2 e k he hk se sk z)
    have h5 : rkV n ax ay bx b_y vx vy d ≠ rkV n ax ay bx b_y vx vy e := fun z => nde (rkV_inj I1 I2 d e hd he sd se z)
    simp only [psi]
    split <;> split <;> omega
  · intro e he nek nej se we
    exact hmin e he se nek nej ((bd e he se).mp we)
