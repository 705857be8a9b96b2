/-! half B: trace of the class -/
def stW (W : Nat → Int32) (fr to : Nat → Nat) (k : Nat) : Nat := if W k = 1 then fr k else to k
def enW (W : Nat → Int32) (fr to : Nat → Nat) (k : Nat) : Nat := if W k = 1 then to k else fr k
theorem stW_S {n k : Nat} {ax ay bx b_y mk W : Nat → Int32} {w : Int32} {fr to : Nat → Nat} (hW : ∀ k, k < n → W k = wyM w n ax ay bx b_y mk k) (hk : k < n) : wS w n ax ay bx b_y mk fr to k = stW W fr to k ∧ wE w n ax ay bx b_y mk fr to k = enW W fr to k := by
  unfold wS wE stW enW
  rw [hW k hk]
  by_cases c : wyM w n ax ay bx b_y mk k = 1
  · rw [if_pos (dB_t c), if_pos c, if_pos (dB_t c), if_pos c]; exact ⟨rfl, rfl⟩
  · rw [if_neg (fun z => c (dB_i.mp z)), if_neg c, if_neg (fun z => c (dB_i.mp z)), if_neg c]; exact ⟨rfl, rfl⟩
/-- the last way before m that starts at p -/
def lastW (wf : Nat → Nat) (p : Nat) : Nat → Int32
  | 0 => -1
  | m + 1 => if wf m = p then nI m else lastW wf p m
theorem lastW_c (wf : Nat → Nat) (p m : Nat) : (lastW wf p m = -1 ∧ ∀ i, i < m → wf i ≠ p) ∨ (∃ i, i < m ∧ lastW wf p m = nI i ∧ wf i = p ∧ ∀ j, i < j → j < m → wf j ≠ p) := by
  induction m with
  | zero => exact Or.inl ⟨rfl, fun i hi => absurd hi (Nat.not_lt_zero i)⟩
  | succ m ih =>
    show ((if wf m = p then nI m else lastW wf p m) = -1 ∧ _) ∨ (∃ i, i < m + 1 ∧ (if wf m = p then nI m else lastW wf p m) = nI i ∧ _)
    by_cases c : wf m = p
    · rw [if_pos c]
      exact Or.inr ⟨m, by omega, rfl, c, fun j h1 h2 => by omega⟩
    · rw [if_neg c]
      rcases ih with ⟨h1, h2⟩ | ⟨i, h1, h2, h3, h4⟩
      · refine Or.inl ⟨h1, fun i hi => ?_⟩
        by_cases d : i = m
        · rw [d]; exact c
        · exact h2 i (by omega)
      · refine Or.inr ⟨i, by omega, h2, h3, fun j hj hm => ?_⟩
        by_cases d : j = m
        · rw [d]; exact c
        · exact h4 j hj (by omega)
theorem nI_ne1 {a : Nat} (h : a ≤ 1000000) : ¬ nI a = -1 := by
  intro z
  have := nI_pos (n := a) (by omega)
  rw [z] at this
  exact this (by decide)
/-- ends of the ways as places -/
theorem X_st {n P k : Nat} {ax ay bx b_y X Y W : Nat → Int32} {fr to : Nat → Nat} (I4 : lnk n P ax ay bx b_y X Y fr to) (hk : k < n) : (stW W fr to k < P ∧ enW W fr to k < P) ∧ (X (stW W fr to k) = sPX W ax bx k ∧ Y (stW W fr to k) = sPX W ay b_y k) ∧ (X (enW W fr to k) = ePX W ax bx k ∧ Y (enW W fr to k) = ePX W ay b_y k) := by
  obtain ⟨⟨l1, l2⟩, l3, l4, l5, l6⟩ := I4 k hk
  unfold stW enW sPX ePX
  by_cases c : W k = 1
  · simp only [c, ↓reduceIte]; exact ⟨⟨l1, l2⟩, ⟨l3, l4⟩, l5, l6⟩
  · simp only [c, ↓reduceIte]; exact ⟨⟨l2, l1⟩, ⟨l5, l6⟩, l3, l4⟩
theorem net_isSooner {P a b d e : Nat} {X Y : Nat → Int32} (hP : P ≤ 1000000) (ha : a < P) (hb : b < P) (hd : d < P) (he : e < P) (iB : ∀ i, i < P → inB (X i) ∧ inB (Y i)) : f_Net_isSooner (tab P X) (tab P Y) (nI a) (nI b) (nI d) (nI e) = some (dB (snr (cr2 ((X b).toInt - (X a).toInt) ((Y b).toInt - (Y a).toInt) ((X d).toInt - (X a).toInt) ((Y d).toInt - (Y a).toInt)) (cr2 ((X b).toInt - (X a).toInt) ((Y b).toInt - (Y a).toInt) ((X e).toInt - (X a).toInt) ((Y e).toInt - (Y a).toInt)) (cr2 ((X d).toInt - (X a).toInt) ((Y d).toInt - (Y a).toInt) ((X e).toInt - (X a).toInt) ((Y e).toInt - (Y a).toInt)))) := by
  unfold f_Net_isSooner b_Net_isSooner_0
  rw [rg_tab ha hP, rg_tab hb hP, rg_tab hd hP, rg_tab he hP, rg_tab ha hP, rg_tab hb hP, rg_tab hd hP, rg_tab he hP]
  obtain ⟨q1, r1⟩ := I_sub (iB b hb).1 (iB a ha).1
  obtain ⟨q2, r2⟩ := I_sub (iB b hb).2 (iB a ha).2
  obtain ⟨q3, r3⟩ := I_sub (iB d hd).1 (iB a ha).1
  obtain ⟨q4, r4⟩ := I_sub (iB d hd).2 (iB a ha).2
  obtain ⟨q5, r5⟩ := I_sub (iB e he).1 (iB a ha).1
  obtain ⟨q6, r6⟩ := I_sub (iB e he).2 (iB a ha).2
  rw [pla_isSooner (by rw [q1]; exact r1) (by rw [q2]; exact r2) (by rw [q3]; exact r3) (by rw [q4]; exact r4) (by rw [q5]; exact r5) (by rw [q6]; exact r6), q1, q2, q3, q4, q5, q6]
  rfl
theorem inB_P {n P : Nat} {ax ay bx b_y mk X Y O : Nat → Int32} {fr to : Nat → Nat} (I : netI n P ax ay bx b_y mk X Y O fr to) : ∀ i, i < P → inB (X i) ∧ inB (Y i) := by
  obtain ⟨I1, I2, I3, I4, I5, I6, I7⟩ := I
  intro i hi
  obtain ⟨k, hk, h⟩ := I7 i hi
  obtain ⟨⟨b1, b2, b3, b4⟩, _⟩ := I1 k hk
  obtain ⟨_, l3, l4, l5, l6⟩ := I4 k hk
  rcases h with h | h
  · rw [← h, l3, l4]; exact ⟨b1, b2⟩
  · rw [← h, l5, l6]; exact ⟨b3, b4⟩
theorem bnd_behind {n P F i : Nat} {ax ay bx b_y mk X Y O W : Nat → Int32} {fr to nx pw : Nat → Nat} (I : netI n P ax ay bx b_y mk X Y O fr to) (hn : n ≤ 2000) (hP : P ≤ 2 * n) (hF : 5000 ≤ F) (NX : NXs n ax ay bx b_y W nx) (hpw : isPw n W pw) (hi : i < wn W n) : f_Bnd_wayBehind F (tab (wn W n) (fun i => nI (enW W fr to (pw i)))) (tab (wn W n) (fun i => nI (stW W fr to (pw i)))) (tab P (fun p => lastW (fun i => stW W fr to (pw i)) p (wn W n))) (tab (wn W n) (fun i => lastW (fun i => stW W fr to (pw i)) (stW W fr to (pw i)) i)) (tab P X) (tab P Y) (nI i) = some (nI (wn W (nx (pw i)))) := by
  have iB := inB_P I
  obtain ⟨I1, I2, I3, I4, I5, I6, I7⟩ := I
  have hm := wn_le (W := W) (k := n)
  obtain ⟨hk, wk, _⟩ := hpw i hi
  obtain ⟨j1, j2, j3, j4, j5, ps, j6, j7, j8⟩ := NX (pw i) hk wk
  obtain ⟨⟨sP, eP⟩, ⟨xs, ys⟩, xe, ye⟩ := X_st (W := W) I4 hk
  -- a way starts at the place at iff its piece starts at the end of way i
  have stEq : ∀ o, o < wn W n → (stW W fr to (pw o) = enW W fr to (pw i) ↔ (sPX W ax bx (pw o) = ePX W ax bx (pw i) ∧ sPX W ay b_y (pw o) = ePX W ay b_y (pw i))) := by
    intro o ho
    obtain ⟨ok, _, _⟩ := hpw o ho
    obtain ⟨⟨a1, _⟩, ⟨a2, a3⟩, _⟩ := X_st (W := W) I4 ok
    constructor
    · intro z; rw [← a2, ← a3, ← xe, ← ye, z]; exact ⟨rfl, rfl⟩
    · intro z; exact I5 _ _ a1 eP (by rw [a2, xe]; exact z.1) (by rw [a3, ye]; exact z.2)
  have cnd : ∀ o, o < wn W n → stW W fr to (pw o) = enW W fr to (pw i) → cand W ax ay bx b_y (ePX W ax bx (pw i)) (ePX W ay b_y (pw i)) (pw i) (pw o) := by
    intro o ho z
    obtain ⟨ok, ow, _⟩ := hpw o ho
    obtain ⟨z1, z2⟩ := (stEq o ho).mp z
    refine ⟨?_, ow, by rw [← z1, ← z2]; exact at_start⟩
    intro q
    rw [q] at z1 z2
    have hl := lessP_ne (I1 (pw i) hk).2
    unfold sPX ePX at z1 z2
    by_cases c : W (pw i) = 1
    · simp only [c, ↓reduceIte] at z1 z2; exact hl ⟨z1, z2⟩
    · simp only [c, ↓reduceIte] at z1 z2; exact hl ⟨z1.symm, z2.symm⟩
  have snE : ∀ o b, o < wn W n → b < wn W n → o ≠ b → stW W fr to (pw o) = enW W fr to (pw i) → stW W fr to (pw b) = enW W fr to (pw i) → f_Net_isSooner (tab P X) (tab P Y) (nI (enW W fr to (pw i))) (nI (stW W fr to (pw i))) (nI (enW W fr to (pw o))) (nI (enW W fr to (pw b))) = some (dB (ps (pw o) < ps (pw b))) := by
    intro o b ho hb nob zo zb
    obtain ⟨ok, ow, oi⟩ := hpw o ho
    obtain ⟨bk, bw, bi⟩ := hpw b hb
    have co := cnd o ho zo
    have cb := cnd b hb zb
    obtain ⟨⟨_, a1⟩, _, a2, a3⟩ := X_st (W := W) I4 ok
    obtain ⟨⟨_, b1⟩, _, b2, b3⟩ := X_st (W := W) I4 bk
    rw [net_isSooner (by omega) eP sP a1 b1 iB]
    have npo : pw o ≠ pw b := fun z => nob (by rw [← oi, ← bi, z])
    have hs := j6 (pw o) (pw b) ok bk co.1 cb.1 npo co.2.2 cb.2.2
    rw [← dB_c hs]
    obtain ⟨fs1, fs2⟩ := far_start (W := W) I1 hk
    obtain ⟨fo1, fo2⟩ := far_end (W := W) I1 ok ((stEq o ho).mp zo).1 ((stEq o ho).mp zo).2
    obtain ⟨fb1, fb2⟩ := far_end (W := W) I1 bk ((stEq b hb).mp zb).1 ((stEq b hb).mp zb).2
    unfold snK dX dY
    rw [fs1, fs2, fo1, fo2, fb1, fb2, xs, ys, xe, ye, a2, a3, b2, b3]
  have hj0 : wn W (nx (pw i)) < wn W n := wn_lt j1 j3
  have pj0 : pw (wn W (nx (pw i))) = nx (pw i) := pw_wn hpw j1 j3
  have sj0 : stW W fr to (pw (wn W (nx (pw i)))) = enW W fr to (pw i) := (stEq _ hj0).mpr (by rw [pj0]; exact ⟨j4, j5⟩)
  unfold f_Bnd_wayBehind b_Bnd_wayBehind_0
  rw [rg_tab hi (by omega), rg_tab hi (by omega), rg_tab eP (by omega)]
  rcases lastW_c (fun i => stW W fr to (pw i)) (enW W fr to (pw i)) (wn W n) with ⟨_, h⟩ | ⟨b0, hb0, e0, s0, m0⟩
  · exact absurd sj0 (h _ hj0)
  · rw [e0, rg_tab hb0 (by omega), s0]
    have key := lp_inv (fun _ _ _ _ _ => none) (b_Bnd_wayBehind_43 F (tab (wn W n) (fun i => nI (enW W fr to (pw i)))) (tab (wn W n) (fun i => nI (stW W fr to (pw i)))) (tab P (fun p => lastW (fun i => stW W fr to (pw i)) p (wn W n))) (tab (wn W n) (fun i => lastW (fun i => stW W fr to (pw i)) (stW W fr to (pw i)) i)) (tab P X) (tab P Y) (nI i)) (fun s : Nat × Nat × Nat => wn W n - s.2.2) (fun f s => s.1 < wn W n → stW W fr to (pw s.1) = enW W fr to (pw i) → s.2.1 ≤ s.1 → s.2.2 + s.2.1 ≤ wn W n → (∀ o, s.2.1 ≤ o → o < wn W n → o ≠ s.1 → stW W fr to (pw o) = enW W fr to (pw i) → ps (pw s.1) < ps (pw o)) → f (nI (enW W fr to (pw i))) (nI (stW W fr to (pw i))) (nI s.1) (lastW (fun i => stW W fr to (pw i)) (enW W fr to (pw i)) s.2.1) (nI s.2.2) = some (nI (wn W (nx (pw i))))) (fun s f hr => by
      obtain ⟨b, o, t⟩ := s
      simp only at hr ⊢
      intro hb zb hob hto hmin
      unfold b_Bnd_wayBehind_43 f_Bnd_ways b_Bnd_ways_0
      rw [tab_len]
      simp only [ob1]
      have fin : (∀ q, q < o → stW W fr to (pw q) ≠ enW W fr to (pw i)) → some (nI b) = some (nI (wn W (nx (pw i)))) := by
        intro hno
        by_cases q : b = wn W (nx (pw i))
        · rw [q]
        · exfalso
          have l1 : ps (pw b) < ps (pw (wn W (nx (pw i)))) := by
            apply hmin
            · apply Classical.byContradiction
              intro z
              exact hno _ (by omega) sj0
            · exact hj0
            · exact fun z => q z.symm
            · exact sj0
          rw [pj0] at l1
          obtain ⟨bk, bw, bi⟩ := hpw b hb
          have l2 := j8 (pw b) bk (fun z => q (by rw [← bi, z])) (cnd b hb zb)
          omega
      rcases lastW_c (fun i => stW W fr to (pw i)) (enW W fr to (pw i)) o with ⟨e1, h⟩ | ⟨q, hq, e1, s1, m1⟩
      · rw [e1]
        by_cases c : wn W n ≤ t
        · rw [if_pos ((nIle (by omega) (by omega)).mpr c)]; exact fin h
        · rw [if_neg (fun z => c ((nIle (by omega) (by omega)).mp z)), if_pos rfl]; exact fin h
      · rw [e1, if_neg (fun z => by have := (nIle (by omega) (by omega)).mp z; omega), if_neg (nI_ne1 (by omega))]
        have s1' : stW W fr to (pw q) = enW W fr to (pw i) := s1
        rw [rg_tab (show q < wn W n by omega) (by omega), rg_tab hb (by omega), snE q b (by omega) hb (by omega) s1' zb]
        simp only [ob1]
        unfold b_Bnd_wayBehind_90
        rw [rg_tab (show q < wn W n by omega) (by omega), s1', nI_1]
        obtain ⟨bk, bw, bi⟩ := hpw b hb
        obtain ⟨qk, qw, qi⟩ := hpw q (by omega)
        by_cases c : ps (pw q) < ps (pw b)
        · rw [if_neg (fun z => bI_dB.mp z c)]
          refine hr (q, q, t + 1) (by simp only; omega) (by simp only; omega) s1' (Nat.le_refl _) (by simp only; omega) (fun p h1 h2 h3 h4 => ?_)
          simp only at h1 h3 ⊢
          by_cases d : p = b
          · rw [d]; exact c
          · have : o ≤ p := by
              apply Classical.byContradiction
              intro z
              exact m1 p (by omega) (by omega) h4
            have := hmin p this h2 d h4
            omega
        · rw [if_pos (bI_dB.mpr c)]
          refine hr (b, q, t + 1) (by simp only; omega) hb zb (by simp only; omega) (by simp only; omega) (fun p h1 h2 h3 h4 => ?_)
          simp only at h1 h3 ⊢
          by_cases d : p = q
          · rw [d]
            have nq : ps (pw b) ≠ ps (pw q) := j7 (pw b) (pw q) bk qk (cnd b hb zb) (cnd q (by omega) s1') (fun z => by
              have : b = q := by rw [← bi, ← qi, z]
              omega)
            omega
          · have : o ≤ p := by
              apply Classical.byContradiction
              intro z
              exact m1 p (by omega) (by omega) h4
            exact hmin p this h2 h3 h4) F (b0, b0, 0) (by simp only; omega)
    refine key hb0 s0 (Nat.le_refl _) (by simp only; omega) (fun o h1 h2 h3 h4 => ?_)
    simp only at h1 h3
    exact absurd h4 (m0 o (by omega) h2)
