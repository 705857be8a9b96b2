/-! half B: the way behind each way -/
def NXs (n : Nat) (ax ay bx b_y W : Nat → Int32) (nx : Nat → Nat) : Prop := ∀ k, k < n → W k ≠ 0 → nx k < n ∧ nx k ≠ k ∧ W (nx k) ≠ 0 ∧ sPX W ax bx (nx k) = ePX W ax bx k ∧ sPX W ay b_y (nx k) = ePX W ay b_y k ∧ ∃ ps : Nat → Nat, (∀ d e, d < n → e < n → d ≠ k → e ≠ k → d ≠ e → atV ax ay bx b_y (ePX W ax bx k) (ePX W ay b_y k) d → atV ax ay bx b_y (ePX W ax bx k) (ePX W ay b_y k) e → (snK ax ay bx b_y W k d e ↔ ps d < ps e)) ∧ (∀ d e, d < n → e < n → cand W ax ay bx b_y (ePX W ax bx k) (ePX W ay b_y k) k d → cand W ax ay bx b_y (ePX W ax bx k) (ePX W ay b_y k) k e → d ≠ e → ps d ≠ ps e) ∧ (∀ e, e < n → e ≠ nx k → cand W ax ay bx b_y (ePX W ax bx k) (ePX W ay b_y k) k e → ps (nx k) < ps e)
theorem at_start {W ax ay bx b_y : Nat → Int32} {k : Nat} : atV ax ay bx b_y (sPX W ax bx k) (sPX W ay b_y k) k := by
  unfold atV isE sPX
  by_cases c : W k = 1
  · simp only [c, ↓reduceIte]; exact Or.inl ⟨trivial, trivial⟩
  · simp only [c, ↓reduceIte]; exact Or.inr ⟨trivial, trivial⟩
theorem at_end {W ax ay bx b_y : Nat → Int32} {k : Nat} : atV ax ay bx b_y (ePX W ax bx k) (ePX W ay b_y k) k := by
  unfold atV isE ePX
  by_cases c : W k = 1
  · simp only [c, ↓reduceIte]; exact Or.inr ⟨trivial, trivial⟩
  · simp only [c, ↓reduceIte]; exact Or.inl ⟨trivial, trivial⟩
theorem nx_ex {n : Nat} {ax ay bx b_y mk W : Nat → Int32} {w : Int32} (I1 : pcs n ax ay bx b_y) (I2 : apt n ax ay bx b_y) (I3 : mks n mk) (hc : closed n ax ay bx b_y mk) (hW : ∀ k, k < n → W k = wyM w n ax ay bx b_y mk k) : ∃ nx, NXs n ax ay bx b_y W nx := by
  have eE : ∀ (p q : Nat → Int32) k, k < n → ePX (wyM w n ax ay bx b_y mk) p q k = ePX W p q k := fun p q k hk => by unfold ePX; rw [hW k hk]
  have eS : ∀ (p q : Nat → Int32) k, k < n → sPX (wyM w n ax ay bx b_y mk) p q k = sPX W p q k := fun p q k hk => by unfold sPX; rw [hW k hk]
  have one : ∀ k, ∃ j, (k < n → W k ≠ 0 → j < n ∧ j ≠ k ∧ W j ≠ 0 ∧ sPX W ax bx j = ePX W ax bx k ∧ sPX W ay b_y j = ePX W ay b_y k ∧ ∃ ps : Nat → Nat, (∀ d e, d < n → e < n → d ≠ k → e ≠ k → d ≠ e → atV ax ay bx b_y (ePX W ax bx k) (ePX W ay b_y k) d → atV ax ay bx b_y (ePX W ax bx k) (ePX W ay b_y k) e → (snK ax ay bx b_y W k d e ↔ ps d < ps e)) ∧ (∀ d e, d < n → e < n → cand W ax ay bx b_y (ePX W ax bx k) (ePX W ay b_y k) k d → cand W ax ay bx b_y (ePX W ax bx k) (ePX W ay b_y k) k e → d ≠ e → ps d ≠ ps e) ∧ (∀ e, e < n → e ≠ j → cand W ax ay bx b_y (ePX W ax bx k) (ePX W ay b_y k) k e → ps j < ps e)) := by
    intro k
    by_cases c : k < n ∧ W k ≠ 0
    · obtain ⟨hk, hw⟩ := c
      rw [hW k hk] at hw
      obtain ⟨ps, j, h1, h2, hj, njk, sj, wj, s1, s2, h3⟩ := g1 (w := w) I1 I2 I3 hc hk hw rfl rfl
      rw [eE _ _ k hk, eE _ _ k hk] at h1 h2 sj h3
      rw [eE _ _ k hk, eS _ _ j hj] at s1 s2
      refine ⟨j, fun _ _ => ⟨hj, njk, by rw [hW j hj]; exact wj, s1, s2, ps, h1, fun d e hd he cd ce nde => h2 d e hd he cd.1 ce.1 nde cd.2.2 ce.2.2, fun e he ne ce => h3 e he ce.1 ne ce.2.2 (by rw [← hW e he]; exact ce.2.1)⟩⟩
    · exact ⟨0, fun a b => absurd ⟨a, b⟩ c⟩
  obtain ⟨nx, h⟩ := Classical.skolem.mp one
  exact ⟨nx, h⟩
theorem nx_inj {n : Nat} {ax ay bx b_y W : Nat → Int32} {nx : Nat → Nat} (I1 : pcs n ax ay bx b_y) (I2 : apt n ax ay bx b_y) (H : NXs n ax ay bx b_y W nx) {k l : Nat} (hk : k < n) (hl : l < n) (wk : W k ≠ 0) (wl : W l ≠ 0) (h : nx k = nx l) : k = l := by
  apply Classical.byContradiction
  intro c
  obtain ⟨j1, j2, j3, j4, j5, ps, j6, j7, j8⟩ := H k hk wk
  obtain ⟨k1, k2, k3, k4, k5, qs, k6, k7, k8⟩ := H l hl wl
  rw [← h] at k1 k2 k3 k4 k5 k8
  have ex : ePX W ax bx k = ePX W ax bx l := j4.symm.trans k4
  have ey : ePX W ay b_y k = ePX W ay b_y l := j5.symm.trans k5
  have ak : atV ax ay bx b_y (ePX W ax bx k) (ePX W ay b_y k) k := at_end
  have al : atV ax ay bx b_y (ePX W ax bx k) (ePX W ay b_y k) l := by rw [ex, ey]; exact at_end
  have aj : atV ax ay bx b_y (ePX W ax bx k) (ePX W ay b_y k) (nx k) := by rw [← j4, ← j5]; exact at_start
  have p1 := (j6 (nx k) l j1 hl j2 (Ne.symm c) (Ne.symm (Ne.symm k2)) aj al).mpr (j8 l hl (Ne.symm k2) ⟨Ne.symm c, wl, al⟩)
  have p2 := (k6 (nx k) k k1 hk k2 c j2 (by rw [← ex, ← ey]; exact aj) (by rw [← ex, ← ey]; exact ak)).mpr (k8 k hk (Ne.symm j2) ⟨c, wk, by rw [← ex, ← ey]; exact ak⟩)
  unfold snK at p1 p2
  rw [← ex, ← ey] at p2
  rw [snr_cw I1 I2 hk j1 hl (Ne.symm j2) c k2 ak aj al] at p1
  rw [snr_cw I1 I2 hl j1 hk (Ne.symm k2) (Ne.symm c) j2 al aj ak] at p2
  have dd : rkV n ax ay bx b_y (ePX W ax bx k) (ePX W ay b_y k) k ≠ rkV n ax ay bx b_y (ePX W ax bx k) (ePX W ay b_y k) l := fun z => c (rkV_inj I1 I2 k l hk hl ak al z)
  unfold cwR at p1 p2
  omega
/-- a way out from v: its far end from v is its end -/
theorem far_end {n e : Nat} {ax ay bx b_y W : Nat → Int32} {vx vy : Int32} (I1 : pcs n ax ay bx b_y) (he : e < n) (h1 : sPX W ax bx e = vx) (h2 : sPX W ay b_y e = vy) : farX ax ay bx vx vy e = ePX W ax bx e ∧ farY ax ay b_y vx vy e = ePX W ay b_y e := by
  have hl := lessP_ne (I1 e he).2
  rw [← h1, ← h2]
  unfold farX farY ePX sPX
  by_cases c : W e = 1
  · simp only [c, ↓reduceIte, and_self]
  · simp only [c, ↓reduceIte]
    rw [if_neg hl, if_neg hl]; exact ⟨rfl, rfl⟩
/-- the number of the ways among the pieces before k -/
noncomputable def wn (W : Nat → Int32) (k : Nat) : Nat := cntP (fun q => W q ≠ 0) k
theorem wn_s0 {W : Nat → Int32} {k : Nat} (h : W k = 0) : wn W (k + 1) = wn W k := by
  show cntP _ k + _ = cntP _ k
  rw [if_neg (fun z => (dB_i.mp z) h)]; rfl
theorem wn_s1 {W : Nat → Int32} {k : Nat} (h : W k ≠ 0) : wn W (k + 1) = wn W k + 1 := by
  show cntP _ k + _ = cntP _ k + 1
  rw [if_pos (dB_t h)]
theorem wn_mono {W : Nat → Int32} {k l : Nat} (h : k ≤ l) : wn W k ≤ wn W l := by
  induction l with
  | zero => have : k = 0 := by omega
            rw [this]; exact Nat.le_refl _
  | succ l ih =>
    by_cases c : k = l + 1
    · rw [c]; exact Nat.le_refl _
    · have := ih (by omega)
      by_cases d : W l = 0
      · rw [wn_s0 d]; exact this
      · rw [wn_s1 d]; omega
theorem wn_lt {W : Nat → Int32} {k l : Nat} (h : k < l) (hw : W k ≠ 0) : wn W k < wn W l := by
  have := wn_mono (W := W) (show k + 1 ≤ l by omega)
  rw [wn_s1 hw] at this
  omega
theorem wn_le {W : Nat → Int32} {k : Nat} : wn W k ≤ k := cnt_n
theorem wn_inj {W : Nat → Int32} {k l : Nat} (hk : W k ≠ 0) (hl : W l ≠ 0) (h : wn W k = wn W l) : k = l := by
  rcases Nat.lt_trichotomy k l with z | z | z
  · have := wn_lt z hk; omega
  · exact z
  · have := wn_lt z hl; omega
/-- the piece of each way -/
def isPw (n : Nat) (W : Nat → Int32) (pw : Nat → Nat) : Prop := ∀ i, i < wn W n → pw i < n ∧ W (pw i) ≠ 0 ∧ wn W (pw i) = i
theorem pw_ex (n : Nat) (W : Nat → Int32) : ∃ pw, isPw n W pw := by
  have one : ∀ i, ∃ k, i < wn W n → k < n ∧ W k ≠ 0 ∧ wn W k = i := by
    intro i
    by_cases c : i < wn W n
    · have : ∀ l, i < wn W l → l ≤ n → ∃ k, k < n ∧ W k ≠ 0 ∧ wn W k = i := by
        intro l
        induction l with
        | zero => intro h; exact absurd h (Nat.not_lt_zero i)
        | succ l ih =>
          intro h hl
          by_cases d : W l = 0
          · rw [wn_s0 d] at h; exact ih h (by omega)
          · by_cases e : i < wn W l
            · exact ih e (by omega)
            · rw [wn_s1 d] at h
              exact ⟨l, by omega, d, by omega⟩
      obtain ⟨k, h⟩ := this n c (Nat.le_refl n)
      exact ⟨k, fun _ => h⟩
    · exact ⟨0, fun z => absurd z c⟩
  obtain ⟨pw, h⟩ := Classical.skolem.mp one
  exact ⟨pw, h⟩
theorem pw_wn {n k : Nat} {W : Nat → Int32} {pw : Nat → Nat} (h : isPw n W pw) (hk : k < n) (hw : W k ≠ 0) : pw (wn W k) = k := by
  obtain ⟨_, h2, h3⟩ := h (wn W k) (wn_lt hk hw)
  exact wn_inj h2 hw h3
