/-! half B: the path of the walk, class and reference side by side -/
theorem mod_placeOf {len F : Nat} {VX VY : Nat → Int32} {x y : Int32} (hl : len ≤ 2052) (hF : 5000 ≤ F) : ∃ v, f_Mod_placeOf F (nI len) 2052 VX 2052 VY x y = some v ∧ ((v = -1 ∧ ∀ i, i < len → ¬ (VX i = x ∧ VY i = y)) ∨ (∃ i, i < len ∧ v = nI i ∧ VX i = x ∧ VY i = y)) := by
  unfold f_Mod_placeOf b_Mod_placeOf_0
  have key := lp_inv (fun _ _ => none) (b_Mod_placeOf_5 F (nI len) 2052 VX 2052 VY x y) (fun s : Nat × Int32 => len - s.1) (fun f s => s.1 ≤ len → ((s.2 = -1 ∧ ∀ i, i < s.1 → ¬ (VX i = x ∧ VY i = y)) ∨ (∃ i, i < s.1 ∧ s.2 = nI i ∧ VX i = x ∧ VY i = y)) → ∃ v, f s.2 (nI s.1) = some v ∧ ((v = -1 ∧ ∀ i, i < len → ¬ (VX i = x ∧ VY i = y)) ∨ (∃ i, i < len ∧ v = nI i ∧ VX i = x ∧ VY i = y))) (fun s f hr => by
    obtain ⟨c, v⟩ := s
    simp only at hr ⊢
    intro hc hv
    unfold b_Mod_placeOf_5
    by_cases hl' : len ≤ c
    · have : c = len := by omega
      subst this
      rw [if_pos ((nIle (by omega) (by omega)).mpr hl')]
      exact ⟨v, rfl, hv⟩
    · rw [if_neg (fun z => hl' ((nIle (by omega) (by omega)).mp z))]
      simp only [ixc (show c < 2052 by omega) (by omega), ixf (show c < 2052 by omega) (by omega), ↓reduceIte]
      unfold b_Mod_placeOf_41 b_Mod_placeOf_42
      have pass : ¬ (VX c = x ∧ VY c = y) → ∃ w, f v (nI c + 1) = some w ∧ ((w = -1 ∧ ∀ i, i < len → ¬ (VX i = x ∧ VY i = y)) ∨ (∃ i, i < len ∧ w = nI i ∧ VX i = x ∧ VY i = y)) := by
        intro nz
        rw [nI_1]
        refine hr (c + 1, v) (by simp only; omega) (by simp only; omega) ?_
        simp only
        rcases hv with ⟨h1, h2⟩ | ⟨i, h1, h2⟩
        · refine Or.inl ⟨h1, fun i hi => ?_⟩
          by_cases e : i = c
          · rw [e]; exact nz
          · exact h2 i (by omega)
        · exact Or.inr ⟨i, by omega, h2⟩
      by_cases c1 : VX c = x
      · rw [if_pos c1]
        by_cases c2 : VY c = y
        · rw [if_pos c2, nI_1]
          exact hr (c + 1, nI c) (by simp only; omega) (by simp only; omega) (Or.inr ⟨c, by simp only; omega, rfl, c1, c2⟩)
        · rw [if_neg c2]; exact pass (fun z => c2 z.2)
      · rw [if_neg c1]; exact pass (fun z => c1 z.1)) F (0, -1) (by simp only; omega)
  exact key (Nat.zero_le _) (Or.inl ⟨rfl, fun i hi => absurd hi (Nat.not_lt_zero i)⟩)
def onP (P T : Nat) (q : Nat → Nat) (L : Nat → Int32) : Prop := ∀ p, p < P → (L p = -1 ∧ ∀ i, i < T → q i ≠ p) ∨ (∃ i, i < T ∧ q i = p ∧ L p = nI i)
def pathI (n P T : Nat) (X Y W : Nat → Int32) (fr to q κ : Nat → Nat) (k s0 : Nat) (VX VY L : Nat → Int32) : Prop := (∀ i, i < T → κ i < n ∧ stW W fr to (κ i) = q i) ∧ (∀ i, i < T → enW W fr to (κ i) = if i + 1 < T then q (i + 1) else stW W fr to k) ∧ (∀ i j, i < T → j < T → q i = q j → i = j) ∧ (∀ i, i < T → q i ≠ stW W fr to k) ∧ ((T = 0 ∧ stW W fr to k = stW W fr to s0) ∨ (0 < T ∧ q 0 = stW W fr to s0)) ∧ onP P T q L ∧ (∀ i, i < T → VX i = X (q i) ∧ VY i = Y (q i)) ∧ VX T = X (stW W fr to k) ∧ VY T = Y (stW W fr to k)
/-- the path with the start of way k behind it -/
theorem path_push {n P T k s0 : Nat} {X Y W VX VY L : Nat → Int32} {fr to q κ : Nat → Nat} (hk : k < n) (H : pathI n P T X Y W fr to q κ k s0 VX VY L) : (∀ i, i < T + 1 → updN κ T k i < n ∧ stW W fr to (updN κ T k i) = updN q T (stW W fr to k) i) ∧ (∀ i, i < T + 1 → enW W fr to (updN κ T k i) = if i + 1 < T + 1 then updN q T (stW W fr to k) (i + 1) else enW W fr to k) ∧ (∀ i j, i < T + 1 → j < T + 1 → updN q T (stW W fr to k) i = updN q T (stW W fr to k) j → i = j) ∧ updN q T (stW W fr to k) 0 = stW W fr to s0 ∧ onP P (T + 1) (updN q T (stW W fr to k)) (upd L (stW W fr to k) (nI T)) ∧ (∀ i, i < T + 1 → VX i = X (updN q T (stW W fr to k) i) ∧ VY i = Y (updN q T (stW W fr to k) i)) := by
  obtain ⟨h1, h2, h3, h4, h5, h6, h7, h8, h9⟩ := H
  have qo : ∀ i, i < T → updN q T (stW W fr to k) i = q i := fun i hi => updN_n (by omega)
  have qn : updN q T (stW W fr to k) T = stW W fr to k := updN_s
  have ko : ∀ i, i < T → updN κ T k i = κ i := fun i hi => updN_n (by omega)
  have kn : updN κ T k T = k := updN_s
  refine ⟨?_, ?_, ?_, ?_, ?_, ?_⟩
  · intro i hi
    by_cases c : i = T
    · rw [c, kn, qn]; exact ⟨hk, rfl⟩
    · rw [ko i (by omega), qo i (by omega)]; exact h1 i (by omega)
  · intro i hi
    by_cases c : i = T
    · rw [c, kn, if_neg (by omega)]
    · rw [ko i (by omega), if_pos (by omega), h2 i (by omega)]
      by_cases d : i + 1 = T
      · rw [if_neg (by omega), d, qn]
      · rw [if_pos (by omega), qo (i + 1) (by omega)]
  · intro i j hi hj h
    by_cases c : i = T
    · by_cases d : j = T
      · omega
      · rw [c, qn, qo j (by omega)] at h
        exact absurd h.symm (h4 j (by omega))
    · by_cases d : j = T
      · rw [d, qn, qo i (by omega)] at h
        exact absurd h (h4 i (by omega))
      · rw [qo i (by omega), qo j (by omega)] at h
        exact h3 i j (by omega) (by omega) h
  · rcases h5 with ⟨t0, e⟩ | ⟨t0, e⟩
    · subst t0; rw [qn]; exact e
    · rw [qo 0 t0]; exact e
  · intro p hp
    by_cases c : p = stW W fr to k
    · right
      exact ⟨T, by omega, by rw [qn, c], by rw [c, pk_us]⟩
    · rw [pk_un c]
      rcases h6 p hp with ⟨a, b⟩ | ⟨i, a, b, d⟩
      · refine Or.inl ⟨a, fun i hi => ?_⟩
        by_cases e : i = T
        · rw [e, qn]; exact fun z => c z.symm
        · rw [qo i (by omega)]; exact b i (by omega)
      · exact Or.inr ⟨i, by omega, by rw [qo i a]; exact b, d⟩
  · intro i hi
    by_cases c : i = T
    · rw [c, qn]; exact ⟨h8, h9⟩
    · rw [qo i (by omega)]; exact h7 i (by omega)
/-- the end of way k is no place of the path -/
theorem path_no {n P T k k' s0 : Nat} {X Y W VX VY L : Nat → Int32} {fr to q κ : Nat → Nat} (hk : k < n) (H : pathI n P T X Y W fr to q κ k s0 VX VY L) (he : stW W fr to k' = enW W fr to k) (hno : ∀ i, i < T + 1 → updN q T (stW W fr to k) i ≠ enW W fr to k) : pathI n P (T + 1) X Y W fr to (updN q T (stW W fr to k)) (updN κ T k) k' s0 (upd VX (T + 1) (X (enW W fr to k))) (upd VY (T + 1) (Y (enW W fr to k))) (upd L (stW W fr to k) (nI T)) := by
  obtain ⟨g1, g2, g3, g4, g5, g6⟩ := path_push hk H
  refine ⟨g1, ?_, g3, ?_, Or.inr ⟨by omega, g4⟩, g5, ?_, ?_, ?_⟩
  · intro i hi; rw [g2 i hi, he]
  · intro i hi; rw [he]; exact hno i hi
  · intro i hi; rw [pk_un (by omega), pk_un (by omega)]; exact g6 i hi
  · rw [pk_us, he]
  · rw [pk_us, he]
/-- the end of way k is place b of the path -/
theorem path_ring {n P T k k' s0 b : Nat} {X Y W VX VY L : Nat → Int32} {fr to q κ : Nat → Nat} (hk : k < n) (H : pathI n P T X Y W fr to q κ k s0 VX VY L) (he : stW W fr to k' = enW W fr to k) (hb : b < T + 1) (hq : updN q T (stW W fr to k) b = enW W fr to k) : pathI n P b X Y W fr to (updN q T (stW W fr to k)) (updN κ T k) k' s0 VX VY (clrL (upd L (stW W fr to k) (nI T)) (updN q T (stW W fr to k)) b (T + 1 - b)) := by
  obtain ⟨g1, g2, g3, g4, g5, g6⟩ := path_push hk H
  refine ⟨fun i hi => g1 i (by omega), ?_, fun i j hi hj => g3 i j (by omega) (by omega), ?_, ?_, ?_, fun i hi => g6 i (by omega), ?_, ?_⟩
  · intro i hi
    rw [g2 i (by omega), if_pos (by omega)]
    by_cases c : i + 1 < b
    · rw [if_pos c]
    · rw [if_neg c, show i + 1 = b by omega, hq, he]
  · intro i hi z
    rw [he, ← hq] at z
    have := g3 i b (by omega) hb z
    omega
  · by_cases c : b = 0
    · left
      refine ⟨c, ?_⟩
      rw [he, ← hq, c]; exact g4
    · exact Or.inr ⟨by omega, g4⟩
  · intro p hp
    unfold clrL
    by_cases c : ∃ i, b ≤ i ∧ i < b + (T + 1 - b) ∧ updN q T (stW W fr to k) i = p
    · rw [if_pos (dB_t c)]
      obtain ⟨i, h1, h2, h3⟩ := c
      refine Or.inl ⟨rfl, fun j hj z => ?_⟩
      have := g3 j i (by omega) (by omega) (by rw [z, h3])
      omega
    · rw [if_neg (fun z => c (dB_i.mp z))]
      rcases g5 p hp with ⟨a, d⟩ | ⟨i, a, d, e⟩
      · exact Or.inl ⟨a, fun j hj => d j (by omega)⟩
      · refine Or.inr ⟨i, ?_, d, e⟩
        apply Classical.byContradiction
        intro z
        exact c ⟨i, by omega, by omega, d⟩
  · rw [(g6 b hb).1, hq, he]
  · rw [(g6 b hb).2, hq, he]
/-- the ring from place b on -/
theorem path_cyc {n P T k s0 b : Nat} {ax ay bx b_y mk O X Y W VX VY L : Nat → Int32} {fr to q κ : Nat → Nat} (I : netI n P ax ay bx b_y mk X Y O fr to) (hk : k < n) (H : pathI n P T X Y W fr to q κ k s0 VX VY L) (hb : b < T + 1) (hq : updN q T (stW W fr to k) b = enW W fr to k) : ringP (T + 1 - b) (pX X (updN q T (stW W fr to k)) b) (pX Y (updN q T (stW W fr to k)) b) := by
  obtain ⟨g1, g2, g3, g4, g5, g6⟩ := path_push hk H
  refine cyc_ring (W := W) (κ := updN κ T k) I (by omega) ?_ ?_
  · intro i hi
    obtain ⟨a1, a2⟩ := g1 (b + i) (by omega)
    refine ⟨a1, a2, ?_⟩
    rw [g2 (b + i) (by omega)]
    unfold nxI
    by_cases c : b + i + 1 < T + 1
    · rw [if_pos c, if_pos (by omega), show b + (i + 1) = b + i + 1 by omega]
    · rw [if_neg c, if_neg (by omega), Nat.add_zero, hq]
  · intro i j hi hj h
    have := g3 (b + i) (b + j) (by omega) (by omega) h
    omega
