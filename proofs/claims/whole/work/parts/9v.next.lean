/-! half B: the reference's next -/
def cand (W : Nat → Int32) (ax ay bx b_y : Nat → Int32) (vx vy : Int32) (k e : Nat) : Prop := e ≠ k ∧ W e ≠ 0 ∧ atV ax ay bx b_y vx vy e
theorem mod_farX {e : Nat} (he : e < 2049) (ax ay bx : Nat → Int32) (x y : Int32) : f_Mod_farX 2049 ax 2049 ay 2049 bx (nI e) x y = some (farX ax ay bx x y e) := by
  unfold f_Mod_farX b_Mod_farX_0 b_Mod_farX_29 farX
  simp only [ixc he (by omega), ixf he (by omega), ↓reduceIte]
  by_cases c1 : ax e = x
  · by_cases c2 : ay e = y
    · rw [if_pos c1, if_pos c2, if_pos ⟨c1, c2⟩]
    · rw [if_pos c1, if_neg c2, if_neg (fun z => c2 z.2)]
  · rw [if_neg c1, if_neg (fun z => c1 z.1)]
theorem mod_farY {e : Nat} (he : e < 2049) (ax ay b_y : Nat → Int32) (x y : Int32) : f_Mod_farY 2049 ax 2049 ay 2049 b_y (nI e) x y = some (farY ax ay b_y x y e) := by
  unfold f_Mod_farY b_Mod_farY_0 b_Mod_farY_29 farY
  simp only [ixc he (by omega), ixf he (by omega), ↓reduceIte]
  by_cases c1 : ax e = x
  · by_cases c2 : ay e = y
    · rw [if_pos c1, if_pos c2, if_pos ⟨c1, c2⟩]
    · rw [if_pos c1, if_neg c2, if_neg (fun z => c2 z.2)]
  · rw [if_neg c1, if_neg (fun z => c1 z.1)]
theorem mod_startX {k : Nat} (hk : k < 2048) (W ax bx : Nat → Int32) : f_Mod_startX 2048 W 2049 bx 2049 ax (nI k) = some (sPX W ax bx k) := by
  unfold f_Mod_startX b_Mod_startX_0 sPX
  simp only [ixc hk (by omega), ixf (show k < 2048 by omega) (by omega), ixf (show k < 2049 by omega) (by omega), ↓reduceIte]
  by_cases c1 : W k = 1
  · rw [if_pos c1, if_pos c1]
  · rw [if_neg c1, if_neg c1]
theorem mod_startY {k : Nat} (hk : k < 2048) (W ay b_y : Nat → Int32) : f_Mod_startY 2048 W 2049 b_y 2049 ay (nI k) = some (sPX W ay b_y k) := by
  unfold f_Mod_startY b_Mod_startY_0 sPX
  simp only [ixc hk (by omega), ixf (show k < 2048 by omega) (by omega), ixf (show k < 2049 by omega) (by omega), ↓reduceIte]
  by_cases c1 : W k = 1
  · rw [if_pos c1, if_pos c1]
  · rw [if_neg c1, if_neg c1]
theorem mod_endX {k : Nat} (hk : k < 2048) (W ax bx : Nat → Int32) : f_Mod_endX 2048 W 2049 ax 2049 bx (nI k) = some (ePX W ax bx k) := by
  unfold f_Mod_endX b_Mod_endX_0 ePX
  simp only [ixc hk (by omega), ixf (show k < 2048 by omega) (by omega), ixf (show k < 2049 by omega) (by omega), ↓reduceIte]
  by_cases c1 : W k = 1
  · rw [if_pos c1, if_pos c1]
  · rw [if_neg c1, if_neg c1]
theorem mod_endY {k : Nat} (hk : k < 2048) (W ay b_y : Nat → Int32) : f_Mod_endY 2048 W 2049 ay 2049 b_y (nI k) = some (ePX W ay b_y k) := by
  unfold f_Mod_endY b_Mod_endY_0 ePX
  simp only [ixc hk (by omega), ixf (show k < 2048 by omega) (by omega), ixf (show k < 2049 by omega) (by omega), ↓reduceIte]
  by_cases c1 : W k = 1
  · rw [if_pos c1, if_pos c1]
  · rw [if_neg c1, if_neg c1]
def w3 (W : Nat → Int32) (n : Nat) : Prop := ∀ k, k < n → W k = 0 ∨ W k = 1 ∨ W k = 2
theorem w3_le {W : Nat → Int32} {n k : Nat} (h : w3 W n) (hk : k < n) : W k ≤ 0 ↔ W k = 0 := by
  rcases h k hk with z | z | z <;> rw [z] <;> decide
/-- the far end of a way from its end is its start -/
theorem far_start {n k : Nat} {ax ay bx b_y W : Nat → Int32} (I1 : pcs n ax ay bx b_y) (hk : k < n) : farX ax ay bx (ePX W ax bx k) (ePX W ay b_y k) k = sPX W ax bx k ∧ farY ax ay b_y (ePX W ax bx k) (ePX W ay b_y k) k = sPX W ay b_y k := by
  have hl := lessP_ne (I1 k hk).2
  unfold farX farY ePX sPX
  by_cases c : W k = 1
  · simp only [c, ↓reduceIte]
    rw [if_neg hl, if_neg hl]; exact ⟨rfl, rfl⟩
  · simp only [c, ↓reduceIte, and_self]
theorem inB_far {n : Nat} {ax ay bx b_y : Nat → Int32} (I1 : pcs n ax ay bx b_y) {vx vy : Int32} {e : Nat} (he : e < n) : inB (farX ax ay bx vx vy e) ∧ inB (farY ax ay b_y vx vy e) := by
  obtain ⟨⟨h1, h2, h3, h4⟩, _⟩ := I1 e he
  unfold farX farY
  by_cases c : ax e = vx ∧ ay e = vy
  · rw [if_pos c, if_pos c]; exact ⟨h3, h4⟩
  · rw [if_neg c, if_neg c]; exact ⟨h1, h2⟩
theorem inB_se {n : Nat} {ax ay bx b_y W : Nat → Int32} (I1 : pcs n ax ay bx b_y) {e : Nat} (he : e < n) : (inB (sPX W ax bx e) ∧ inB (sPX W ay b_y e)) ∧ (inB (ePX W ax bx e) ∧ inB (ePX W ay b_y e)) := by
  obtain ⟨⟨h1, h2, h3, h4⟩, _⟩ := I1 e he
  unfold sPX ePX
  by_cases c : W e = 1
  · simp only [c, ↓reduceIte]; exact ⟨⟨h1, h2⟩, h3, h4⟩
  · simp only [c, ↓reduceIte]; exact ⟨⟨h3, h4⟩, h1, h2⟩
/-- at v = the end of way k: d comes sooner than e -/
def snK (ax ay bx b_y W : Nat → Int32) (k d e : Nat) : Prop := snr (cr2 (dX ax ay bx (ePX W ax bx k) (ePX W ay b_y k) k) (dY ax ay b_y (ePX W ax bx k) (ePX W ay b_y k) k) (dX ax ay bx (ePX W ax bx k) (ePX W ay b_y k) d) (dY ax ay b_y (ePX W ax bx k) (ePX W ay b_y k) d)) (cr2 (dX ax ay bx (ePX W ax bx k) (ePX W ay b_y k) k) (dY ax ay b_y (ePX W ax bx k) (ePX W ay b_y k) k) (dX ax ay bx (ePX W ax bx k) (ePX W ay b_y k) e) (dY ax ay b_y (ePX W ax bx k) (ePX W ay b_y k) e)) (cr2 (dX ax ay bx (ePX W ax bx k) (ePX W ay b_y k) d) (dY ax ay b_y (ePX W ax bx k) (ePX W ay b_y k) d) (dX ax ay bx (ePX W ax bx k) (ePX W ay b_y k) e) (dY ax ay b_y (ePX W ax bx k) (ePX W ay b_y k) e))
theorem mod_next {n k j F : Nat} {ax ay bx b_y W : Nat → Int32} {ps : Nat → Nat} (I1 : pcs n ax ay bx b_y) (hW : w3 W n) (hn : n ≤ 2000) (hF : 5000 ≤ F) (hk : k < n) (hps : ∀ d e, d < n → e < n → d ≠ k → e ≠ k → d ≠ e → atV ax ay bx b_y (ePX W ax bx k) (ePX W ay b_y k) d → atV ax ay bx b_y (ePX W ax bx k) (ePX W ay b_y k) e → (snK ax ay bx b_y W k d e ↔ ps d < ps e)) (hne : ∀ d e, d < n → e < n → cand W ax ay bx b_y (ePX W ax bx k) (ePX W ay b_y k) k d → cand W ax ay bx b_y (ePX W ax bx k) (ePX W ay b_y k) k e → d ≠ e → ps d ≠ ps e) (hj : j < n) (cj : cand W ax ay bx b_y (ePX W ax bx k) (ePX W ay b_y k) k j) (hm : ∀ e, e < n → e ≠ j → cand W ax ay bx b_y (ePX W ax bx k) (ePX W ay b_y k) k e → ps j < ps e) : f_Mod_next F (nI n) 2048 W 2049 ax 2049 bx 2049 ay 2049 b_y (nI k) = some (nI j) := by
  unfold f_Mod_next b_Mod_next_0
  rw [mod_endX (by omega), mod_endY (by omega)]
  simp only [ob1]
  have key := lp_inv (fun _ _ _ _ => none) (b_Mod_next_18 F (nI n) 2048 W 2049 ax 2049 bx 2049 ay 2049 b_y (nI k)) (fun i : Nat × Int32 => n - i.1) (fun f i => i.1 ≤ n → ((i.2 = -1 ∧ ∀ e, e < i.1 → ¬ cand W ax ay bx b_y (ePX W ax bx k) (ePX W ay b_y k) k e) ∨ (∃ b, b < i.1 ∧ i.2 = nI b ∧ cand W ax ay bx b_y (ePX W ax bx k) (ePX W ay b_y k) k b ∧ ∀ e, e < i.1 → e ≠ b → cand W ax ay bx b_y (ePX W ax bx k) (ePX W ay b_y k) k e → ps b < ps e)) → f (ePX W ax bx k) (ePX W ay b_y k) i.2 (nI i.1) = some (nI j)) (fun i f hr hc hb => by
    obtain ⟨c, best⟩ := i
    simp only at hr hc hb ⊢
    unfold b_Mod_next_18
    by_cases hl : n ≤ c
    · have : c = n := by omega
      subst this
      rw [if_pos ((nIle (by omega) (by omega)).mpr hl)]
      rcases hb with ⟨_, h⟩ | ⟨b, h1, h2, h3, h4⟩
      · exact absurd cj (h j hj)
      · by_cases q : b = j
        · rw [h2, q]
        · have l1 := h4 j hj (fun z => q z.symm) cj
          have l2 := hm b h1 q h3
          omega
    · rw [if_neg (fun z => hl ((nIle (by omega) (by omega)).mp z))]
      have hcn : c < n := by omega
      have hr' := fun b hb => hr (c + 1, b) (by simp only; omega) (by simp only; omega) hb
      simp only at hr'
      -- passing over c
      have pass : ¬ cand W ax ay bx b_y (ePX W ax bx k) (ePX W ay b_y k) k c → b_Mod_next_152 F (nI n) 2048 W 2049 ax 2049 bx 2049 ay 2049 b_y (nI k) f (ePX W ax bx k) (ePX W ay b_y k) best (nI c) = some (nI j) := by
        intro nc
        unfold b_Mod_next_152
        rw [nI_1]
        apply hr'
        rcases hb with ⟨h1, h2⟩ | ⟨b, h1, h2, h3, h4⟩
        · refine Or.inl ⟨h1, fun e he => ?_⟩
          by_cases q : e = c
          · rw [q]; exact nc
          · exact h2 e (by omega)
        · refine Or.inr ⟨b, by omega, h2, h3, fun e he ne ce => ?_⟩
          by_cases q : e = c
          · rw [q] at ce; exact absurd ce nc
          · exact h4 e (by omega) ne ce
      by_cases c1 : c = k
      · rw [if_pos (by rw [c1])]
        exact pass (fun z => z.1 c1)
      · rw [if_neg (fun z => c1 ((nIeq (by omega) (by omega)).mp z))]
        simp only [ixc (show c < 2048 by omega) (by omega), ixf (show c < 2048 by omega) (by omega), ↓reduceIte]
        by_cases c2 : W c = 0
        · rw [if_pos ((w3_le hW hcn).mpr c2)]
          exact pass (fun z => z.2.1 c2)
        · rw [if_neg (fun z => c2 ((w3_le hW hcn).mp z)), mod_isE (by omega)]
          simp only [ob1]
          by_cases c3 : isE (ax c) (ay c) (bx c) (b_y c) (ePX W ax bx k) (ePX W ay b_y k)
          · rw [if_neg (fun z => bI_dB.mp z c3)]
            have cc : cand W ax ay bx b_y (ePX W ax bx k) (ePX W ay b_y k) k c := ⟨c1, c2, c3⟩
            unfold b_Mod_next_131 b_Mod_next_136
            rcases hb with ⟨h1, h2⟩ | ⟨b, h1, h2, h3, h4⟩
            · rw [if_pos (by rw [h1]; decide), if_neg (by decide)]
              unfold b_Mod_next_150 b_Mod_next_152
              rw [nI_1]
              apply hr'
              refine Or.inr ⟨c, by omega, rfl, cc, fun e he ne ce => ?_⟩
              exact absurd ce (h2 e (by omega))
            · have hb1 : ¬ best < 0 := by rw [h2]; exact nI_pos (by omega)
              rw [if_neg hb1, h2, mod_startX (by omega), mod_startY (by omega), mod_farX (by omega), mod_farY (by omega), mod_farX (by omega), mod_farY (by omega)]
              simp only [ob1]
              obtain ⟨⟨a1, a2⟩, a3, a4⟩ := inB_se (W := W) I1 hk
              obtain ⟨a5, a6⟩ := inB_far (vx := ePX W ax bx k) (vy := ePX W ay b_y k) I1 hcn
              obtain ⟨a7, a8⟩ := inB_far (vx := ePX W ax bx k) (vy := ePX W ay b_y k) I1 (show b < n by omega)
              obtain ⟨q1, r1⟩ := L_sub9 a1 a3
              obtain ⟨q2, r2⟩ := L_sub9 a2 a4
              obtain ⟨q3, r3⟩ := L_sub9 a5 a3
              obtain ⟨q4, r4⟩ := L_sub9 a6 a4
              obtain ⟨q5, r5⟩ := L_sub9 a7 a3
              obtain ⟨q6, r6⟩ := L_sub9 a8 a4
              rw [mod_isSooner r1 r2 r3 r4 r5 r6, q1, q2, q3, q4, q5, q6]
              simp only [ob1]
              obtain ⟨fs1, fs2⟩ := far_start (W := W) I1 hk
              have nbc : c ≠ b := by omega
              have hs := hps c b hcn (by omega) c1 h3.1 nbc c3 h3.2.2
              unfold snK dX dY at hs
              rw [fs1, fs2] at hs
              rw [dB_c hs]
              unfold b_Mod_next_150 b_Mod_next_152
              by_cases c4 : ps c < ps b
              · rw [if_neg (fun z => bI_dB.mp z c4), if_neg (by decide), nI_1]
                apply hr'
                refine Or.inr ⟨c, by omega, rfl, cc, fun e he ne ce => ?_⟩
                by_cases q : e = b
                · rw [q]; exact c4
                · have := h4 e (by omega) q ce; omega
              · rw [if_pos (bI_dB.mpr c4), if_pos trivial, nI_1]
                apply hr'
                refine Or.inr ⟨b, by omega, rfl, h3, fun e he ne ce => ?_⟩
                by_cases q : e = c
                · rw [q]
                  have hs' := hps b c (by omega) hcn h3.1 c1 (Ne.symm nbc) h3.2.2 c3
                  have tot : ps b ≠ ps c := by
                    intro z
                    -- equal keys: neither is sooner, against the order of directions
                    exact absurd z (hne b c (by omega) hcn h3 cc (Ne.symm nbc))
                  omega
                · exact h4 e (by omega) ne ce
          · rw [if_pos (bI_dB.mpr c3)]
            exact pass (fun z => c3 z.2.2)) F (0, -1) (by simp only; omega)
  exact key (Nat.zero_le n) (Or.inl ⟨rfl, fun e he => absurd he (Nat.not_lt_zero e)⟩)
