/-! half B: findWays of the reference, whole -/
noncomputable def gnM (w : Int32) (n : Nat) (ax ay bx b_y mk : Nat → Int32) (k : Nat) : Int32 := mAt (wyM w n ax ay bx b_y mk k = 0) 1
theorem mod_findWays {n F : Nat} {ax ay bx b_y mk : Nat → Int32} {w : Int32} (I1 : pcs n ax ay bx b_y) (I3 : mks n mk) (hn : n ≤ 2000) (hF : 5000 ≤ F) (hw : w04 w) (ways gone : Nat → Int32) : ∃ W G, f_Mod_findWays F (nI n) 2049 ax 2049 bx 2049 ay 2049 b_y 2048 mk 2048 2048 w ways gone = some (W, G) ∧ ∀ k, k < n → W k = wyM w n ax ay bx b_y mk k ∧ G k = gnM w n ax ay bx b_y mk k := by
  have key := lp_inv (fun _ _ _ => none) (b_Mod_findWays_2 F (nI n) 2049 ax 2049 bx 2049 ay 2049 b_y 2048 mk 2048 2048 w) (fun t : Nat × (Nat → Int32) × (Nat → Int32) => n - t.1) (fun f t => t.1 ≤ n → ∃ W G, f (nI t.1) t.2.1 t.2.2 = some (W, G) ∧ (∀ k, k < t.1 → W k = t.2.1 k ∧ G k = t.2.2 k) ∧ ∀ k, t.1 ≤ k → k < n → W k = wyM w n ax ay bx b_y mk k ∧ G k = gnM w n ax ay bx b_y mk k) (fun t f hr hc => by
    obtain ⟨c, W0, G0⟩ := t
    simp only at hr hc ⊢
    unfold b_Mod_findWays_2
    by_cases hl : n ≤ c
    · rw [if_pos ((nIle (by omega) (by omega)).mpr hl)]
      exact ⟨W0, G0, rfl, fun k _ => ⟨rfl, rfl⟩, fun k h1 h2 => by omega⟩
    · rw [if_neg (fun z => hl ((nIle (by omega) (by omega)).mp z)), mod_right I1 hn hF (by omega)]
      have hc' : c < n := by omega
      simp only [ob1]
      have i3 := ixc (k := c) (n := 2048) (by omega) (by omega)
      have x1 := ixf (k := c) (n := 2049) (by omega) (by omega)
      have x2 := ixf (k := c) (n := 2048) (by omega) (by omega)
      have last : ∀ v : Int32, v = wyM w n ax ay bx b_y mk c → ∃ W G, b_Mod_findWays_110 F (nI n) 2049 ax 2049 bx 2049 ay 2049 b_y 2048 mk 2048 2048 w f (nI c) (nI c) v W0 G0 = some (W, G) ∧ (∀ k, k < c → W k = W0 k ∧ G k = G0 k) ∧ ∀ k, c ≤ k → k < n → W k = wyM w n ax ay bx b_y mk k ∧ G k = gnM w n ax ay bx b_y mk k := by
        intro v hv
        have go : ∀ g : Int32, g = gnM w n ax ay bx b_y mk c → ∃ W G, f (nI c + 1) (upd W0 c v) (upd G0 c g) = some (W, G) ∧ (∀ k, k < c → W k = W0 k ∧ G k = G0 k) ∧ ∀ k, c ≤ k → k < n → W k = wyM w n ax ay bx b_y mk k ∧ G k = gnM w n ax ay bx b_y mk k := by
          intro g hg
          obtain ⟨W, G, e, h1, h2⟩ := hr (c + 1, upd W0 c v, upd G0 c g) (by simp only; omega) (by simp only; omega)
          simp only at e h1 h2
          refine ⟨W, G, by rw [nI_1]; exact e, fun k hk => ?_, fun k h3 h4 => ?_⟩
          · have q := h1 k (by omega)
            rw [pk_un (by omega), pk_un (by omega)] at q
            exact q
          · by_cases hk : k = c
            · subst hk
              have q := h1 k (by omega)
              rw [pk_us, pk_us, hv, hg] at q
              exact q
            · exact h2 k (by omega) h4
        unfold b_Mod_findWays_110 b_Mod_findWays_130
        simp only [i3, x2, ↓reduceIte, pk_us]
        by_cases c1 : v = 0
        · rw [if_pos c1]; exact go _ (by unfold gnM; rw [mAt_t (by rw [← hv]; exact c1)]; rfl)
        · rw [if_neg c1]; exact go _ (by unfold gnM; rw [mAt_f (by rw [← hv]; exact c1)]; rfl)
      have mid : ∀ a b : Bool, ∃ v : Int32, v = wOf a b ∧ ∀ R : Int32 → Option ((Nat → Int32) × (Nat → Int32)), (if bI a = bI b then R 0 else (if bI a = 0 then R 2 else R 1)) = R v := by
        intro a b
        cases a <;> cases b
        · exact ⟨0, rfl, fun R => rfl⟩
        · exact ⟨2, rfl, fun R => rfl⟩
        · exact ⟨1, rfl, fun R => rfl⟩
        · exact ⟨0, rfl, fun R => rfl⟩
      have hin : m03 (inM n ax ay bx b_y mk c) := m03_in I3
      have hmk : m03 (mk c) := I3 c hc'
      obtain ⟨v, hv, hR⟩ := mid (resB w (lfM n ax ay bx b_y mk c)) (resB w (lfM n ax ay bx b_y mk c ^^^ mk c))
      have R := hR (fun v => b_Mod_findWays_110 F (nI n) 2049 ax 2049 bx 2049 ay 2049 b_y 2048 mk 2048 2048 w f (nI c) (nI c) v W0 G0)
      unfold b_Mod_findWays_36 b_Mod_findWays_56 b_Mod_findWays_79
      simp only [i3, x1, x2, ↓reduceIte, show ¬ (1 : Int32) = 0 by decide]
      by_cases up : b_y c ≤ ay c
      · have up' := up
        rw [i32le] at up'
        have e1 : lfM n ax ay bx b_y mk c = inM n ax ay bx b_y mk c := by unfold lfM; rw [mAt_f (by omega), Int32.xor_zero]
        rw [e1] at R
        rw [if_pos up, (res_B hw hin).1, (res_B hw (m03_x hin hmk)).1]
        simp only [ob1]
        rw [R]
        exact last v (by unfold wyM; exact hv)
      · have up' := up
        rw [i32le] at up'
        have e1 : lfM n ax ay bx b_y mk c = inM n ax ay bx b_y mk c ^^^ mk c := by unfold lfM; rw [mAt_t (by omega)]
        rw [e1, xx0 hin hmk] at R
        rw [if_neg up, (res_B hw hin).1, (res_B hw (m03_x hin hmk)).1]
        simp only [ob1]
        rw [R]
        exact last v (by unfold wyM; exact hv)) F (0, ways, gone) (by simp only; omega)
  obtain ⟨W, G, e, _, h⟩ := key (by simp only; omega)
  exact ⟨W, G, e, fun k hk => h k (Nat.zero_le _) hk⟩
