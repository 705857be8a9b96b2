/-! half B: knownPlace and addPiece on tables, with their costs -/
def capO (n k B : Nat) : Prop := n ≤ k ∧ 16 ≤ k ∧ k ≤ 2 * B
theorem ra_cap {n k B : Nat} (h : capO n k B) (h3 : n < B) (hB : B ≤ 4096) : ∃ c s k', ra n k = some (c, s, k') ∧ c + k ≤ k' ∧ s + 2 * k = 2 * k' ∧ capO (n + 1) k' B := by
  obtain ⟨h1, h2, h4⟩ := h
  obtain ⟨c, s, k', e, a1, a2, a3, a4⟩ := ra_ok h1 h2 h3 h4 hB
  exact ⟨c, s, k', e, a1, a2, a4, by omega, a3⟩
theorem net_known {P F kO kX kY B : Nat} (hB : B ≤ 4096) (hP : P < B) (hF : P < F) (O X Y : Nat → Int32) (x y : Int32) (cO : capO P kO B) (cX : capO P kX B) (cY : capO P kY B) : ∃ c s i P' kO' kX' kY', ∃ O' X' Y' : Nat → Int32, f_Net_knownPlace F x y (tab P O) kO (tab P X) kX (tab P Y) kY = some (c, s, nI i, tab P' O', kO', tab P' X', kX', tab P' Y', kY') ∧ i < P' ∧ (X' i = x ∧ Y' i = y) ∧ (∀ j, j < P → X' j = X j ∧ Y' j = Y j ∧ O' j = O j) ∧ ((P' = P) ∨ (P' = P + 1 ∧ i = P ∧ O' i = 0 ∧ ∀ t, t < P → ¬ (X t = x ∧ Y t = y))) ∧ (capO P' kO' B ∧ capO P' kX' B ∧ capO P' kY' B) ∧ c + kO + kX + kY ≤ kO' + kX' + kY' ∧ s + 2 * (kO + kX + kY) = 2 * (kO' + kX' + kY') := by
  obtain ⟨u, eu, hu⟩ := net_placeAt (by omega) hF O X Y x y
  unfold f_Net_knownPlace b_Net_knownPlace_0
  rw [eu]
  simp only [ob1]
  rcases hu with ⟨i, hi, hpi, rfl⟩ | ⟨hno, rfl⟩
  · rw [if_neg (nIm1 (by omega))]
    exact ⟨0, 0, i, P, kO, kX, kY, O, X, Y, rfl, hi, hpi, fun j hj => ⟨rfl, rfl, rfl⟩, Or.inl rfl, ⟨cO, cX, cY⟩, by omega, by omega⟩
  · rw [if_pos rfl]
    simp only [tab_len]
    obtain ⟨c1, s1, k1, e1, a1, b1, d1⟩ := ra_cap cX hP hB
    obtain ⟨c2, s2, k2, e2, a2, b2, d2⟩ := ra_cap cY hP hB
    obtain ⟨c3, s3, k3, e3, a3, b3, d3⟩ := ra_cap cO hP hB
    rw [e1, e2, e3]
    simp only [ob3, ac, tab_add, tab_len, nI_pred]
    refine ⟨_, _, P, P + 1, k3, k1, k2, upd O P 0, upd X P x, upd Y P y, rfl, by omega, ⟨pk_us, pk_us⟩, fun j hj => ⟨pk_un (by omega), pk_un (by omega), pk_un (by omega)⟩, Or.inr ⟨rfl, rfl, pk_us, hno⟩, ⟨d3, d1, d2⟩, by omega, by omega⟩
def updN (f : Nat → Nat) (n v : Nat) : Nat → Nat := fun k => if k = n then v else f k
theorem updN_s {f : Nat → Nat} {n v : Nat} : updN f n v n = v := if_pos rfl
theorem updN_n {f : Nat → Nat} {n v k : Nat} (h : k ≠ n) : updN f n v k = f k := if_neg h
theorem upd_updN (n : Nat) (f : Nat → Nat) (v : Nat) : upd (fun k => nI (f k)) n (nI v) = fun k => nI (updN f n v k) := by
  funext i
  by_cases h : i = n
  · rw [h, pk_us, updN_s]
  · rw [pk_un h, updN_n h]
theorem tab_addN (n : Nat) (f : Nat → Nat) (v : Nat) : tab n (fun k => nI (f k)) ++ [nI v] = tab (n + 1) (fun k => nI (updN f n v k)) := by
  rw [tab_add, upd_updN]
/-- what a table of places says after an add of one or two places -/
def grew (P P' : Nat) (O X Y O' X' Y' : Nat → Int32) : Prop := P ≤ P' ∧ (∀ j, j < P → X' j = X j ∧ Y' j = Y j ∧ O' j = O j) ∧ (∀ j, P ≤ j → j < P' → O' j = 0)
theorem net_addPiece {n P F kO kX kY kF kT kM B : Nat} (hB : B ≤ 4096) (hP : P + 1 < B) (hn : n < B) (hF : P + 1 < F) (O X Y M : Nat → Int32) (fr to : Nat → Nat) (hd : ∀ i j, i < P → j < P → X i = X j → Y i = Y j → i = j) {x y u v : Int32} (hne : ¬ (x = u ∧ y = v)) (cO : capO P kO B) (cX : capO P kX B) (cY : capO P kY B) (cF : capO n kF B) (cT : capO n kT B) (cM : capO n kM B) : ∃ c s P' a b kO' kX' kY' kF' kT' kM', ∃ O' X' Y' : Nat → Int32, f_Net_addPiece F x y u v (tab P O) kO (tab P X) kX (tab P Y) kY (tab n (fun k => nI (fr k))) kF (tab n (fun k => nI (to k))) kT (tab n M) kM = some (c, s, nI n, tab P' O', kO', tab P' X', kX', tab P' Y', kY', tab (n + 1) (fun k => nI (updN fr n a k)), kF', tab (n + 1) (fun k => nI (updN to n b k)), kT', tab (n + 1) (upd M n 0), kM') ∧ grew P P' O X Y O' X' Y' ∧ P' ≤ P + 2 ∧ (a < P' ∧ b < P') ∧ ((lessP x y u v ∧ X' a = x ∧ Y' a = y ∧ X' b = u ∧ Y' b = v) ∨ (¬ lessP x y u v ∧ X' a = u ∧ Y' a = v ∧ X' b = x ∧ Y' b = y)) ∧ (∀ i j, i < P' → j < P' → X' i = X' j → Y' i = Y' j → i = j) ∧ (∀ j, P ≤ j → j < P' → j = a ∨ j = b) ∧ (capO P' kO' B ∧ capO P' kX' B ∧ capO P' kY' B ∧ capO (n + 1) kF' B ∧ capO (n + 1) kT' B ∧ capO (n + 1) kM' B) ∧ c + (kO + kX + kY + kF + kT + kM) ≤ kO' + kX' + kY' + kF' + kT' + kM' ∧ s + 2 * (kO + kX + kY + kF + kT + kM) = 2 * (kO' + kX' + kY' + kF' + kT' + kM') := by
  unfold f_Net_addPiece b_Net_addPiece_0
  obtain ⟨c1, s1, i, P1, kO1, kX1, kY1, O1, X1, Y1, e1, hi1, hp1, hk1, hg1, ⟨cO1, cX1, cY1⟩, ka1, kb1⟩ := net_known (P := P) (F := F) hB (by omega) (by omega) O X Y x y cO cX cY
  have hP1 : P ≤ P1 ∧ P1 ≤ P + 1 := by rcases hg1 with h | h <;> omega
  obtain ⟨c2, s2, j, P2, kO2, kX2, kY2, O2, X2, Y2, e2, hi2, hp2, hk2, hg2, ⟨cO2, cX2, cY2⟩, ka2, kb2⟩ := net_known (P := P1) (F := F) hB (by omega) (by omega) O1 X1 Y1 u v cO1 cX1 cY1
  have hP2 : P1 ≤ P2 ∧ P2 ≤ P1 + 1 := by rcases hg2 with h | h <;> omega
  rw [e1]
  simp only [ob9]
  rw [e2]
  simp only [ob9, pla_isLess, ob1]
  have dist1 : ∀ i' j', i' < P1 → j' < P1 → X1 i' = X1 j' → Y1 i' = Y1 j' → i' = j' := by
    intro i' j' h1 h2 h3 h4
    rcases hg1 with h | ⟨h, g1, g2, g3⟩
    · rw [h] at h1 h2
      have q1 := hk1 i' h1
      have q2 := hk1 j' h2
      exact hd i' j' h1 h2 (by rw [← q1.1, ← q2.1, h3]) (by rw [← q1.2.1, ← q2.2.1, h4])
    · by_cases r1 : i' < P
      · have q1 := hk1 i' r1
        by_cases r2 : j' < P
        · have q2 := hk1 j' r2
          exact hd i' j' r1 r2 (by rw [← q1.1, ← q2.1, h3]) (by rw [← q1.2.1, ← q2.2.1, h4])
        · have : j' = i := by omega
          rw [this] at h3 h4
          exact absurd ⟨q1.1.symm.trans (h3.trans hp1.1), q1.2.1.symm.trans (h4.trans hp1.2)⟩ (g3 i' r1)
      · by_cases r2 : j' < P
        · have q2 := hk1 j' r2
          have : i' = i := by omega
          rw [this] at h3 h4
          exact absurd ⟨q2.1.symm.trans (h3.symm.trans hp1.1), q2.2.1.symm.trans (h4.symm.trans hp1.2)⟩ (g3 j' r2)
        · omega
  have dist2 : ∀ i' j', i' < P2 → j' < P2 → X2 i' = X2 j' → Y2 i' = Y2 j' → i' = j' := by
    intro i' j' h1 h2 h3 h4
    rcases hg2 with h | ⟨h, g1, g2, g3⟩
    · rw [h] at h1 h2
      have q1 := hk2 i' h1
      have q2 := hk2 j' h2
      exact dist1 i' j' h1 h2 (by rw [← q1.1, ← q2.1, h3]) (by rw [← q1.2.1, ← q2.2.1, h4])
    · by_cases r1 : i' < P1
      · have q1 := hk2 i' r1
        by_cases r2 : j' < P1
        · have q2 := hk2 j' r2
          exact dist1 i' j' r1 r2 (by rw [← q1.1, ← q2.1, h3]) (by rw [← q1.2.1, ← q2.2.1, h4])
        · have : j' = j := by omega
          rw [this] at h3 h4
          exact absurd ⟨q1.1.symm.trans (h3.trans hp2.1), q1.2.1.symm.trans (h4.trans hp2.2)⟩ (g3 i' r1)
      · by_cases r2 : j' < P1
        · have q2 := hk2 j' r2
          have : i' = j := by omega
          rw [this] at h3 h4
          exact absurd ⟨q2.1.symm.trans (h3.symm.trans hp2.1), q2.2.1.symm.trans (h4.symm.trans hp2.2)⟩ (g3 j' r2)
        · omega
  have gr : grew P P2 O X Y O2 X2 Y2 := by
    refine ⟨by omega, fun t ht => ?_, fun t h1 h2 => ?_⟩
    · have q1 := hk1 t ht
      have q2 := hk2 t (by omega)
      exact ⟨q2.1.trans q1.1, q2.2.1.trans q1.2.1, q2.2.2.trans q1.2.2⟩
    · by_cases r : t < P1
      · rw [(hk2 t r).2.2]
        rcases hg1 with h | ⟨h, g1, g2, g3⟩
        · omega
        · have : t = i := by omega
          rw [this]; exact g2
      · rcases hg2 with h | ⟨h, g1, g2, g3⟩
        · omega
        · have : t = j := by omega
          rw [this]; exact g2
  have pi : X2 i = x ∧ Y2 i = y := by
    have q := hk2 i hi1
    exact ⟨q.1.trans hp1.1, q.2.1.trans hp1.2⟩
  have nw : ∀ t, P ≤ t → t < P2 → t = i ∨ t = j := by
    intro t h1 h2
    by_cases r : t < P1
    · rcases hg1 with h | ⟨h, g1, g2, g3⟩
      · omega
      · exact Or.inl (by omega)
    · rcases hg2 with h | ⟨h, g1, g2, g3⟩
      · omega
      · exact Or.inr (by omega)
  obtain ⟨c3, s3, kF', e3, a3, b3, d3⟩ := ra_cap cF hn hB
  obtain ⟨c4, s4, kT', e4, a4, b4, d4⟩ := ra_cap cT hn hB
  obtain ⟨c5, s5, kM', e5, a5, b5, d5⟩ := ra_cap cM hn hB
  by_cases hl : lessP x y u v
  · rw [if_neg (fun z => bI_dB.mp z hl)]
    unfold b_Net_addPiece_43
    rw [tab_len, e3]
    simp only [ob3]
    rw [if_neg (fun z => bI_dB.mp z hl)]
    unfold b_Net_addPiece_62
    rw [tab_len, tab_len, e4, e5]
    simp only [ob3, ac, tab_add, upd_updN, tab_len, nI_pred]
    exact ⟨c1 + (c2 + (c3 + (c4 + (c5 + 0)))), s1 + (s2 + (s3 + (s4 + (s5 + 0)))), P2, i, j, kO2, kX2, kY2, kF', kT', kM', O2, X2, Y2, rfl, gr, by omega, ⟨by omega, hi2⟩, Or.inl ⟨hl, pi.1, pi.2, hp2.1, hp2.2⟩, dist2, nw, ⟨cO2, cX2, cY2, d3, d4, d5⟩, by omega, by omega⟩
  · rw [if_pos (bI_dB.mpr hl)]
    unfold b_Net_addPiece_43
    rw [tab_len, e3]
    simp only [ob3]
    rw [if_pos (bI_dB.mpr hl)]
    unfold b_Net_addPiece_62
    rw [tab_len, tab_len, e4, e5]
    simp only [ob3, ac, tab_add, upd_updN, tab_len, nI_pred]
    exact ⟨c1 + (c2 + (c3 + (c4 + (c5 + 0)))), s1 + (s2 + (s3 + (s4 + (s5 + 0)))), P2, j, i, kO2, kX2, kY2, kF', kT', kM', O2, X2, Y2, rfl, gr, by omega, ⟨hi2, by omega⟩, Or.inr ⟨hl, hp2.1, hp2.2, pi.1, pi.2⟩, dist2, fun t h1 h2 => (nw t h1 h2).symm, ⟨cO2, cX2, cY2, d3, d4, d5⟩, by omega, by omega⟩
