/-! half B: the class's net on tables: placeAt, pieceBetween, isInTheWayOf, isClosed -/
theorem nIle {a b : Nat} (ha : a ≤ 1000000) (hb : b ≤ 1000000) : nI a ≤ nI b ↔ a ≤ b := nI_leI (by omega) (by omega)
theorem nIeq {a b : Nat} (ha : a ≤ 1000000) (hb : b ≤ 1000000) : nI a = nI b ↔ a = b := nI_eq (by omega) (by omega)
theorem nIm1 {a : Nat} (ha : a ≤ 1000000) : ¬ nI a = -1 := by
  intro h
  have h1 := nI_pos (n := a) (by omega)
  rw [h] at h1
  exact h1 (by decide)
theorem net_placeAt {P F : Nat} (hP : P ≤ 1000000) (hF : P < F) (O X Y : Nat → Int32) (x y : Int32) : ∃ r, f_Net_placeAt F (tab P O) (tab P X) (tab P Y) x y = some r ∧ ((∃ i, i < P ∧ (X i = x ∧ Y i = y) ∧ r = nI i) ∨ ((∀ i, i < P → ¬ (X i = x ∧ Y i = y)) ∧ r = -1)) := by
  have k := lp_up (fun _ => none) (b_Net_placeAt_2 F (tab P O) (tab P X) (tab P Y) x y) P (fun i o => ∃ r, o = some r ∧ ((∃ j, i ≤ j ∧ j < P ∧ (X j = x ∧ Y j = y) ∧ r = nI j) ∨ ((∀ j, i ≤ j → j < P → ¬ (X j = x ∧ Y j = y)) ∧ r = -1))) (fun i r hi hr => by
    unfold b_Net_placeAt_2 f_Net_places b_Net_places_0 b_Net_placeAt_36
    simp only [ob1, tab_len]
    by_cases hl : P ≤ i
    · rw [if_pos ((nIle hP (by omega)).mpr hl)]
      exact ⟨_, rfl, Or.inr ⟨fun j h1 h2 => by omega, rfl⟩⟩
    · rw [if_neg (fun z => hl ((nIle hP (by omega)).mp z)), rg_tab (by omega) hP, rg_tab (by omega) hP]
      obtain ⟨s, e, hs⟩ := hr (by omega)
      have step : ¬ (X i = x ∧ Y i = y) → ∃ r_1, r (nI i + 1) = some r_1 ∧ ((∃ j, i ≤ j ∧ j < P ∧ (X j = x ∧ Y j = y) ∧ r_1 = nI j) ∨ ((∀ j, i ≤ j → j < P → ¬ (X j = x ∧ Y j = y)) ∧ r_1 = -1)) := by
        intro hne
        refine ⟨s, by rw [nI_1]; exact e, ?_⟩
        rcases hs with ⟨j, h1, h2, h3, h4⟩ | ⟨h1, h2⟩
        · exact Or.inl ⟨j, by omega, h2, h3, h4⟩
        · refine Or.inr ⟨fun j g1 g2 => ?_, h2⟩
          by_cases hj : j = i
          · rw [hj]; exact hne
          · exact h1 j (by omega) g2
      by_cases c1 : X i = x
      · rw [if_pos c1]
        by_cases c2 : Y i = y
        · rw [if_pos c2]; exact ⟨_, rfl, Or.inl ⟨i, Nat.le_refl _, by omega, ⟨c1, c2⟩, rfl⟩⟩
        · rw [if_neg c2]; exact step (fun z => c2 z.2)
      · rw [if_neg c1]; exact step (fun z => c1 z.1)) (i := 0) (Nat.zero_le _) hF
  obtain ⟨r, e, h⟩ := k
  refine ⟨r, e, ?_⟩
  rcases h with ⟨j, _, h⟩ | ⟨h1, h2⟩
  · exact Or.inl ⟨j, h⟩
  · exact Or.inr ⟨fun j => h1 j (Nat.zero_le _), h2⟩
def sameP (a b c d p q r s : Int32) : Prop := (a = p ∧ b = q ∧ c = r ∧ d = s) ∨ (a = r ∧ b = s ∧ c = p ∧ d = q)
theorem net_pieceBetween {n P F : Nat} (hn : n ≤ 1000000) (hP : P ≤ 1000000) (hF : P < F) (hF' : n < F) (O X Y M : Nat → Int32) (fr to : Nat → Nat) (hfr : ∀ k, k < n → fr k < P) (hto : ∀ k, k < n → to k < P) (hd : ∀ i j, i < P → j < P → X i = X j → Y i = Y j → i = j) (p q r s : Int32) : ∃ v, f_Net_pieceBetween F (tab P O) (tab P X) (tab P Y) (tab n M) (tab n (fun k => nI (fr k))) (tab n (fun k => nI (to k))) p q r s = some v ∧ ((∃ k, k < n ∧ sameP (X (fr k)) (Y (fr k)) (X (to k)) (Y (to k)) p q r s ∧ v = nI k) ∨ ((∀ k, k < n → ¬ sameP (X (fr k)) (Y (fr k)) (X (to k)) (Y (to k)) p q r s) ∧ v = -1)) := by
  unfold f_Net_pieceBetween b_Net_pieceBetween_0
  obtain ⟨u, eu, hu⟩ := net_placeAt hP hF O X Y p q
  obtain ⟨w, ew, hw⟩ := net_placeAt hP hF O X Y r s
  rw [eu, ew]
  simp only [ob1]
  rcases hu with ⟨i, hi, hpi, rfl⟩ | ⟨hno, rfl⟩
  · rw [if_neg (nIm1 (by omega))]
    rcases hw with ⟨j, hj, hpj, rfl⟩ | ⟨hno, rfl⟩
    · rw [if_neg (nIm1 (by omega))]
      have key : ∀ k, k < n → (sameP (X (fr k)) (Y (fr k)) (X (to k)) (Y (to k)) p q r s ↔ (fr k = i ∧ to k = j) ∨ (fr k = j ∧ to k = i)) := by
        intro k hk
        have a1 := hfr k hk
        have a2 := hto k hk
        unfold sameP
        constructor
        · intro z
          rcases z with ⟨z1, z2, z3, z4⟩ | ⟨z1, z2, z3, z4⟩
          · exact Or.inl ⟨hd _ _ a1 hi (by rw [z1, hpi.1]) (by rw [z2, hpi.2]), hd _ _ a2 hj (by rw [z3, hpj.1]) (by rw [z4, hpj.2])⟩
          · exact Or.inr ⟨hd _ _ a1 hj (by rw [z1, hpj.1]) (by rw [z2, hpj.2]), hd _ _ a2 hi (by rw [z3, hpi.1]) (by rw [z4, hpi.2])⟩
        · intro z
          rcases z with ⟨z1, z2⟩ | ⟨z1, z2⟩
          · rw [z1, z2]; exact Or.inl ⟨hpi.1, hpi.2, hpj.1, hpj.2⟩
          · rw [z1, z2]; exact Or.inr ⟨hpj.1, hpj.2, hpi.1, hpi.2⟩
      have k := lp_inv (fun _ _ _ => none) (b_Net_pieceBetween_34 F (tab P O) (tab P X) (tab P Y) (tab n M) (tab n (fun k => nI (fr k))) (tab n (fun k => nI (to k))) p q r s) (fun c : Nat => n - c) (fun f c => c ≤ n → ∃ v, f (nI i) (nI j) (nI c) = some v ∧ ((∃ k, c ≤ k ∧ k < n ∧ ((fr k = i ∧ to k = j) ∨ (fr k = j ∧ to k = i)) ∧ v = nI k) ∨ ((∀ k, c ≤ k → k < n → ¬ ((fr k = i ∧ to k = j) ∨ (fr k = j ∧ to k = i))) ∧ v = -1))) (fun c f hr hc => by
        unfold b_Net_pieceBetween_34 f_Net_pieces b_Net_pieces_0
        simp only [ob1, tab_len]
        by_cases hl : n ≤ c
        · rw [if_pos ((nIle hn (by omega)).mpr hl)]
          exact ⟨_, rfl, Or.inr ⟨fun j h1 h2 => by omega, rfl⟩⟩
        · rw [if_neg (fun z => hl ((nIle hn (by omega)).mp z)), rg_tab (by omega) hn, rg_tab (by omega) hn]
          have b1 := hfr c (by omega)
          have b2 := hto c (by omega)
          unfold b_Net_pieceBetween_79 b_Net_pieceBetween_96
          obtain ⟨v, e, hv⟩ := hr (c + 1) (by omega) (by omega)
          have step : ¬ ((fr c = i ∧ to c = j) ∨ (fr c = j ∧ to c = i)) → ∃ v, f (nI i) (nI j) (nI c + 1) = some v ∧ ((∃ k, c ≤ k ∧ k < n ∧ ((fr k = i ∧ to k = j) ∨ (fr k = j ∧ to k = i)) ∧ v = nI k) ∨ ((∀ k, c ≤ k → k < n → ¬ ((fr k = i ∧ to k = j) ∨ (fr k = j ∧ to k = i))) ∧ v = -1)) := by
            intro hne
            refine ⟨v, by rw [nI_1]; exact e, ?_⟩
            rcases hv with ⟨k, h1, h2, h3, h4⟩ | ⟨h1, h2⟩
            · exact Or.inl ⟨k, by omega, h2, h3, h4⟩
            · refine Or.inr ⟨fun k g1 g2 => ?_, h2⟩
              by_cases hk : k = c
              · rw [hk]; exact hne
              · exact h1 k (by omega) g2
          have d1 := nIeq (a := fr c) (b := i) (by omega) (by omega)
          have d2 := nIeq (a := to c) (b := j) (by omega) (by omega)
          have d3 := nIeq (a := fr c) (b := j) (by omega) (by omega)
          have d4 := nIeq (a := to c) (b := i) (by omega) (by omega)
          have done : ((fr c = i ∧ to c = j) ∨ (fr c = j ∧ to c = i)) → ∃ v, (some (nI c) : Option Int32) = some v ∧ ((∃ k, c ≤ k ∧ k < n ∧ ((fr k = i ∧ to k = j) ∨ (fr k = j ∧ to k = i)) ∧ v = nI k) ∨ ((∀ k, c ≤ k → k < n → ¬ ((fr k = i ∧ to k = j) ∨ (fr k = j ∧ to k = i))) ∧ v = -1)) := fun z => ⟨_, rfl, Or.inl ⟨c, Nat.le_refl _, by omega, z, rfl⟩⟩
          have tail : ¬ (fr c = i ∧ to c = j) → ∃ v, (if nI (fr c) = nI j then (if nI (to c) = nI i then some (nI c) else f (nI i) (nI j) (nI c + 1)) else f (nI i) (nI j) (nI c + 1)) = some v ∧ ((∃ k, c ≤ k ∧ k < n ∧ ((fr k = i ∧ to k = j) ∨ (fr k = j ∧ to k = i)) ∧ v = nI k) ∨ ((∀ k, c ≤ k → k < n → ¬ ((fr k = i ∧ to k = j) ∨ (fr k = j ∧ to k = i))) ∧ v = -1)) := by
            intro h0
            by_cases c3 : fr c = j
            · rw [if_pos (d3.mpr c3)]
              by_cases c4 : to c = i
              · rw [if_pos (d4.mpr c4)]; exact done (Or.inr ⟨c3, c4⟩)
              · rw [if_neg (fun z => c4 (d4.mp z))]; exact step (fun z => z.elim h0 (fun w => c4 w.2))
            · rw [if_neg (fun z => c3 (d3.mp z))]; exact step (fun z => z.elim h0 (fun w => c3 w.1))
          by_cases c1 : fr c = i
          · rw [if_pos (d1.mpr c1)]
            by_cases c2 : to c = j
            · rw [if_pos (d2.mpr c2)]; exact done (Or.inl ⟨c1, c2⟩)
            · rw [if_neg (fun z => c2 (d2.mp z))]; exact tail (fun z => c2 z.2)
          · rw [if_neg (fun z => c1 (d1.mp z))]; exact tail (fun z => c1 z.1)) F 0 (by omega)
      obtain ⟨v, e, hv⟩ := k (by omega)
      refine ⟨v, e, ?_⟩
      rcases hv with ⟨k, _, h2, h3, h4⟩ | ⟨h1, h2⟩
      · exact Or.inl ⟨k, h2, (key k h2).mpr h3, h4⟩
      · exact Or.inr ⟨fun k hk z => h1 k (by omega) hk ((key k hk).mp z), h2⟩
    · rw [if_pos rfl]
      refine ⟨_, rfl, Or.inr ⟨fun k hk z => ?_, rfl⟩⟩
      rcases z with ⟨z1, z2, z3, z4⟩ | ⟨z1, z2, z3, z4⟩
      · exact hno _ (hto k hk) ⟨z3, z4⟩
      · exact hno _ (hfr k hk) ⟨z1, z2⟩
  · rw [if_pos rfl]
    refine ⟨_, rfl, Or.inr ⟨fun k hk z => ?_, rfl⟩⟩
    rcases z with ⟨z1, z2, z3, z4⟩ | ⟨z1, z2, z3, z4⟩
    · exact hno _ (hfr k hk) ⟨z1, z2⟩
    · exact hno _ (hto k hk) ⟨z3, z4⟩
theorem net_inWay {n P F : Nat} (hn : n ≤ 1000000) (hP : P ≤ 1000000) (hF : n < F) (X Y M : Nat → Int32) (fr to : Nat → Nat) (hfr : ∀ k, k < n → fr k < P) (hto : ∀ k, k < n → to k < P) (hX : ∀ i, i < P → inB (X i)) (hY : ∀ i, i < P → inB (Y i)) {p q r s : Int32} (hp : inB p) (hq : inB q) (hr : inB r) (hs : inB s) : f_Net_isInTheWayOf F (tab n M) (tab n (fun k => nI (fr k))) (tab P X) (tab P Y) (tab n (fun k => nI (to k))) p q r s = some (dB (∃ k, k < n ∧ clash (X (fr k)) (Y (fr k)) (X (to k)) (Y (to k)) p q r s)) := by
  have k := lp_up (fun _ => none) (b_Net_isInTheWayOf_3 F (tab n M) (tab n (fun k => nI (fr k))) (tab P X) (tab P Y) (tab n (fun k => nI (to k))) p q r s) n (fun c o => o = some (dB (∃ k, c ≤ k ∧ k < n ∧ clash (X (fr k)) (Y (fr k)) (X (to k)) (Y (to k)) p q r s))) (fun c f hc hi => by
    unfold b_Net_isInTheWayOf_3 f_Net_pieces b_Net_pieces_0
    simp only [ob1, tab_len]
    by_cases hl : n ≤ c
    · rw [if_pos ((nIle hn (by omega)).mpr hl)]
      exact sF (fun ⟨k, h1, h2, _⟩ => by omega)
    · rw [if_neg (fun z => hl ((nIle hn (by omega)).mp z))]
      have b1 := hfr c (by omega)
      have b2 := hto c (by omega)
      have e1 : rg (tab n (fun k => nI (fr k))) (nI c) = nI (fr c) := rg_tab (f := fun k => nI (fr k)) (by omega) hn
      have e2 : rg (tab n (fun k => nI (to k))) (nI c) = nI (to c) := rg_tab (f := fun k => nI (to k)) (by omega) hn
      have cl := net_clashes (lf := tab n (fun k => nI (fr k))) (lx := tab P X) (ly := tab P Y) (lt := tab n (fun k => nI (to k))) (k := nI c) (p := p) (q := q) (r := r) (s := s)
      rw [e1, e2, rg_tab b1 hP, rg_tab b1 hP, rg_tab b2 hP, rg_tab b2 hP] at cl
      rw [cl (hX _ b1) (hY _ b1) (hX _ b2) (hY _ b2) hp hq hr hs]
      simp only []
      by_cases c1 : clash (X (fr c)) (Y (fr c)) (X (to c)) (Y (to c)) p q r s
      · rw [if_neg (fun z => bI_dB.mp z c1)]; exact sT ⟨c, Nat.le_refl _, by omega, c1⟩
      · rw [if_pos (bI_dB.mpr c1), nI_1, hi (by omega)]
        refine congrArg some (dB_c ⟨fun ⟨k, h1, h2, h3⟩ => ⟨k, by omega, h2, h3⟩, fun ⟨k, h1, h2, h3⟩ => ⟨k, ?_, h2, h3⟩⟩)
        by_cases hk : k = c
        · rw [hk] at h3; exact absurd h3 c1
        · omega) (i := 0) (Nat.zero_le _) hF
  refine Eq.trans k (congrArg some (dB_c ⟨fun ⟨k, _, h⟩ => ⟨k, h⟩, fun ⟨k, h⟩ => ⟨k, Nat.zero_le _, h⟩⟩))
theorem net_isClosed {P F : Nat} (hP : P ≤ 1000000) (hF : P < F) (O : Nat → Int32) : f_Net_isClosed F (tab P O) = some (dB (∀ i, i < P → O i = 0)) := by
  have k := lp_up (fun _ => none) (b_Net_isClosed_2 F (tab P O)) P (fun c o => o = some (dB (∀ i, c ≤ i → i < P → O i = 0))) (fun c f hc hi => by
    unfold b_Net_isClosed_2 f_Net_places b_Net_places_0
    simp only [ob1, tab_len]
    by_cases hl : P ≤ c
    · rw [if_pos ((nIle hP (by omega)).mpr hl)]
      exact sT (fun k h1 h2 => by omega)
    · rw [if_neg (fun z => hl ((nIle hP (by omega)).mp z)), rg_tab (by omega) hP]
      by_cases c1 : O c = 0
      · rw [if_pos c1, nI_1, hi (by omega)]
        refine congrArg some (dB_c ⟨fun h k h1 h2 => ?_, fun h k h1 h2 => h k (by omega) h2⟩)
        by_cases hk : k = c
        · rw [hk]; exact c1
        · exact h k (by omega) h2
      · rw [if_neg c1]; exact sF (fun h => c1 (h c (Nat.le_refl _) (by omega)))) (i := 0) (Nat.zero_le _) hF
  exact Eq.trans k (congrArg some (dB_c ⟨fun h i hi => h i (Nat.zero_le _) hi, fun h i _ hi => h i hi⟩))
