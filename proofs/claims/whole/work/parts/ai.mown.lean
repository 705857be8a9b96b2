/-! half B: rings by their corners in the reference: on it, in it -/
def RRf (R : Nat) (st : Nat → Nat) (RX RY FI SZ RXr RYr : Nat → Int32) : Prop := (∀ r, r < R → FI r = nI (st r) ∧ SZ r = nI (st (r + 1) - st r)) ∧ (∀ j, j < st R → RXr j = RX j ∧ RYr j = RY j)
theorem mod_on {R s F : Nat} {st : Nat → Nat} {RX RY FI SZ RXr RYr : Nat → Int32} {x y : Int32} (H : RSt R st RX RY) (K : RRf R st RX RY FI SZ RXr RYr) (hs : s < R) (hF : 5000 ≤ F) (hx : inB x) (hy : inB y) : f_Mod_isOn F 1024 SZ 1024 FI 2052 RXr 2052 RYr x y (nI s) = some (dB (onR st RX RY s x y)) := by
  have m0 := RSt_m H (Nat.zero_le R)
  have m1 := RSt_m H (show s + 1 ≤ R by omega)
  have h3 := H.2.2
  have h1 := H.1 s hs
  obtain ⟨k1, k2⟩ := K.1 s hs
  have hN0 : ¬ nI (st (s + 1) - st s) = 0 := fun z => by
    have := (nIeq (a := st (s + 1) - st s) (b := 0) (by omega) (by omega)).mp z
    omega
  unfold f_Mod_isOn b_Mod_isOn_0
  have key := lp_inv (fun _ _ => none) (b_Mod_isOn_6 F 1024 SZ 1024 FI 2052 RXr 2052 RYr x y (nI s)) (fun t : Nat => st (s + 1) - st s - t) (fun f t => t ≤ st (s + 1) - st s → ((∀ i, i < t → ¬ onSeg (RX (st s + i)) (RY (st s + i)) (RX (st s + nxI (st (s + 1) - st s) i)) (RY (st s + nxI (st (s + 1) - st s) i)) x y) → f 0 (nI t) = some (dB (onR st RX RY s x y))) ∧ (onR st RX RY s x y → f 1 (nI t) = some true)) (fun t f hr' ht => by
    have i10 : ¬ (1 : Int32) = 0 := by decide
    unfold b_Mod_isOn_6
    simp only [ixc (show s < 1024 by omega) (by omega), ixf (show s < 1024 by omega) (by omega), ↓reduceIte, k1, k2]
    constructor
    · intro hno
      by_cases c : st (s + 1) - st s ≤ t
      · rw [if_pos ((nIle (by omega) (by omega)).mpr c), dB_f]
        rintro ⟨i, hi, z⟩
        exact hno i (by omega) z
      · rw [if_neg (fun z => by have := (nIle (by omega) (by omega)).mp z; omega)]
        have hx' := nxI_lt (N := st (s + 1) - st s) (i := t) (by omega)
        rw [if_neg hN0, mod_nx (show t < st (s + 1) - st s by omega) (by omega), nI_ad, nI_ad]
        simp only [ixc (show st s + t < 2052 by omega) (by omega), ixf (show st s + t < 2052 by omega) (by omega), ixc (show st s + nxI (st (s + 1) - st s) t < 2052 by omega) (by omega), ixf (show st s + nxI (st (s + 1) - st s) t < 2052 by omega) (by omega), ↓reduceIte]
        obtain ⟨a1, a2⟩ := K.2 (st s + t) (by omega)
        obtain ⟨a3, a4⟩ := K.2 (st s + nxI (st (s + 1) - st s) t) (by omega)
        have b1 := H.2.1 (st s + t) (by omega)
        have b2 := H.2.1 (st s + nxI (st (s + 1) - st s) t) (by omega)
        rw [a1, a2, a3, a4, mod_side b1.1 b1.2 b2.1 b2.2 hx hy, mod_between, mod_between]
        simp only [ob1]
        unfold b_Mod_isOn_135 b_Mod_isOn_136
        obtain ⟨n1, n2⟩ := hr' (t + 1) (by omega) (by omega)
        rw [← nI_1] at n1 n2
        have no : ¬ onSeg (RX (st s + t)) (RY (st s + t)) (RX (st s + nxI (st (s + 1) - st s) t)) (RY (st s + nxI (st (s + 1) - st s) t)) x y → f 0 (nI t + 1) = some (dB (onR st RX RY s x y)) := fun z => n1 (fun i hi => by
          by_cases q : i = t
          · rw [q]; exact z
          · exact hno i (by omega))
        unfold onSeg at no
        by_cases o1 : crs (RX (st s + t)).toInt (RY (st s + t)).toInt (RX (st s + nxI (st (s + 1) - st s) t)).toInt (RY (st s + nxI (st (s + 1) - st s) t)).toInt x.toInt y.toInt = 0
        · rw [if_pos ((sg_0 _).mpr o1)]
          by_cases o2 : bt (RX (st s + t)) (RX (st s + nxI (st (s + 1) - st s) t)) x
          · rw [if_neg (fun z => bI_dB.mp z o2)]
            by_cases o3 : bt (RY (st s + t)) (RY (st s + nxI (st (s + 1) - st s) t)) y
            · rw [if_neg (fun z => bI_dB.mp z o3)]
              have on : onR st RX RY s x y := ⟨t, by omega, o1, o2, o3⟩
              rw [dB_t on]
              exact n2 on
            · rw [if_pos (bI_dB.mpr o3)]; exact no (fun z => o3 z.2.2)
          · rw [if_pos (bI_dB.mpr o2)]; exact no (fun z => o2 z.2.1)
        · rw [if_neg (fun z => o1 ((sg_0 _).mp z))]; exact no (fun z => o1 z.1)
    · intro _
      by_cases c : st (s + 1) - st s ≤ t
      · rw [if_pos ((nIle (by omega) (by omega)).mpr c), if_neg i10]
      · rw [if_neg (fun z => by have := (nIle (by omega) (by omega)).mp z; omega), if_neg i10, if_neg i10]) F 0 (by omega)
  exact (key (Nat.zero_le _)).1 (fun i hi => absurd hi (Nat.not_lt_zero i))
/-- on the line, within the heights: on the piece -/
theorem str_on {a b c d x y : Int32} (h : (b.toInt ≤ y.toInt ∧ y.toInt < d.toInt) ∨ (y.toInt < b.toInt ∧ d.toInt ≤ y.toInt)) (e : crs a.toInt b.toInt c.toInt d.toInt x.toInt y.toInt = 0) : onSeg a b c d x y := by
  refine ⟨e, ?_, by unfold bt; omega⟩
  unfold crs at e
  rcases h with h | h
  · have k := bt_line (D := d.toInt - b.toInt) (E := c.toInt - a.toInt) (h := y.toInt - b.toInt) (w := x.toInt - a.toInt) (by omega) (by omega) (by omega) (by omega)
    unfold bt; omega
  · have k := bt_line (D := b.toInt - d.toInt) (E := a.toInt - c.toInt) (h := y.toInt - d.toInt) (w := x.toInt - c.toInt) (by omega) (by omega) (by omega) (by grind)
    unfold bt; omega
theorem mod_in {R s F : Nat} {st : Nat → Nat} {RX RY FI SZ RXr RYr : Nat → Int32} {x y : Int32} (H : RSt R st RX RY) (K : RRf R st RX RY FI SZ RXr RYr) (hs : s < R) (hF : 5000 ≤ F) (hx : inB x) (hy : inB y) (ho : ¬ onR st RX RY s x y) : f_Mod_isInside F 1024 SZ 1024 FI 2052 RYr 2052 RXr x y (nI s) = some (dB (inR st RX RY s x y)) := by
  have m0 := RSt_m H (Nat.zero_le R)
  have m1 := RSt_m H (show s + 1 ≤ R by omega)
  have h3 := H.2.2
  have h1 := H.1 s hs
  obtain ⟨k1, k2⟩ := K.1 s hs
  have hN0 : ¬ nI (st (s + 1) - st s) = 0 := fun z => by
    have := (nIeq (a := st (s + 1) - st s) (b := 0) (by omega) (by omega)).mp z
    omega
  unfold f_Mod_isInside b_Mod_isInside_0
  have key := lp_inv (fun _ _ => none) (b_Mod_isInside_6 F 1024 SZ 1024 FI 2052 RYr 2052 RXr x y (nI s)) (fun t : Nat => st (s + 1) - st s - t) (fun f t => t ≤ st (s + 1) - st s → f (if cntP (rayE st RX RY s x y) t % 2 = 1 then 1 else 0) (nI t) = some (dB (inR st RX RY s x y))) (fun t f hr' ht => by
    have i10 : ¬ (1 : Int32) = 0 := by decide
    have i01 : ¬ (0 : Int32) = 1 := by decide
    unfold b_Mod_isInside_6
    simp only [ixc (show s < 1024 by omega) (by omega), ixf (show s < 1024 by omega) (by omega), ↓reduceIte, k1, k2]
    by_cases c : st (s + 1) - st s ≤ t
    · have e : t = st (s + 1) - st s := by omega
      rw [if_pos ((nIle (by omega) (by omega)).mpr (by omega)), e]
      unfold inR
      by_cases q : cntP (rayE st RX RY s x y) (st (s + 1) - st s) % 2 = 1
      · rw [if_pos q, if_neg (by decide), if_pos rfl, dB_t q]
      · rw [if_neg q, if_pos rfl, dB_f q]
    · have hx' := nxI_lt (N := st (s + 1) - st s) (i := t) (by omega)
      rw [if_neg (fun z => by have := (nIle (by omega) (by omega)).mp z; omega), if_neg hN0, mod_nx (show t < st (s + 1) - st s by omega) (by omega), nI_ad, nI_ad]
      unfold b_Mod_isInside_64 b_Mod_isInside_82 b_Mod_isInside_128 b_Mod_isInside_143 b_Mod_isInside_145
      simp only [ixc (show st s + t < 2052 by omega) (by omega), ixf (show st s + t < 2052 by omega) (by omega), ixc (show st s + nxI (st (s + 1) - st s) t < 2052 by omega) (by omega), ixf (show st s + nxI (st (s + 1) - st s) t < 2052 by omega) (by omega), ↓reduceIte, i10, i01]
      obtain ⟨a1, a2⟩ := K.2 (st s + t) (by omega)
      obtain ⟨a3, a4⟩ := K.2 (st s + nxI (st (s + 1) - st s) t) (by omega)
      have b1 := H.2.1 (st s + t) (by omega)
      have b2 := H.2.1 (st s + nxI (st (s + 1) - st s) t) (by omega)
      rw [a1, a2, a3, a4, mod_side b1.1 b1.2 b2.1 b2.2 hx hy]
      simp only [ob1]
      have nxt := hr' (t + 1) (by omega) (by omega)
      rw [← nI_1] at nxt
      have nz : ((RY (st s + t)).toInt ≤ y.toInt ∧ y.toInt < (RY (st s + nxI (st (s + 1) - st s) t)).toInt) ∨ (y.toInt < (RY (st s + t)).toInt ∧ (RY (st s + nxI (st (s + 1) - st s) t)).toInt ≤ y.toInt) → crs (RX (st s + t)).toInt (RY (st s + t)).toInt (RX (st s + nxI (st (s + 1) - st s) t)).toInt (RY (st s + nxI (st (s + 1) - st s) t)).toInt x.toInt y.toInt ≠ 0 := fun h e => ho ⟨t, by omega, str_on h e⟩
      have e2 : rayS (2 * x.toInt) (2 * y.toInt) (RX (st s + t)).toInt (RY (st s + t)).toInt (RX (st s + nxI (st (s + 1) - st s) t)).toInt (RY (st s + nxI (st (s + 1) - st s) t)).toInt = 2 * crs (RX (st s + t)).toInt (RY (st s + t)).toInt (RX (st s + nxI (st (s + 1) - st s) t)).toInt (RY (st s + nxI (st (s + 1) - st s) t)).toInt x.toInt y.toInt := by unfold rayS crs; grind
      have er : rayE st RX RY s x y t ↔ ((RY (st s + t)).toInt ≤ y.toInt ∧ y.toInt < (RY (st s + nxI (st (s + 1) - st s) t)).toInt ∧ 0 < crs (RX (st s + t)).toInt (RY (st s + t)).toInt (RX (st s + nxI (st (s + 1) - st s) t)).toInt (RY (st s + nxI (st (s + 1) - st s) t)).toInt x.toInt y.toInt) ∨ (y.toInt < (RY (st s + t)).toInt ∧ (RY (st s + nxI (st (s + 1) - st s) t)).toInt ≤ y.toInt ∧ crs (RX (st s + t)).toInt (RY (st s + t)).toInt (RX (st s + nxI (st (s + 1) - st s) t)).toInt (RY (st s + nxI (st (s + 1) - st s) t)).toInt x.toInt y.toInt < 0) := by
        unfold rayE ray; rw [e2]; omega
      have sgl : ∀ z : Int, sg z ≤ 0 ↔ z ≤ 0 := by
        intro z
        rcases Int.lt_trichotomy z 0 with h | h | h
        · rw [sg_neg h]; exact ⟨fun _ => by omega, fun _ => by decide⟩
        · rw [sg_zero h]; exact ⟨fun _ => by omega, fun _ => by decide⟩
        · rw [sg_pos h]; exact ⟨fun q => absurd q (by decide), fun q => by omega⟩
      have l1 : RY (st s + t) ≤ y ↔ (RY (st s + t)).toInt ≤ y.toInt := i32le
      have l2 : RY (st s + nxI (st (s + 1) - st s) t) ≤ y ↔ (RY (st s + nxI (st (s + 1) - st s) t)).toInt ≤ y.toInt := i32le
      have sl := sgl (crs (RX (st s + t)).toInt (RY (st s + t)).toInt (RX (st s + nxI (st (s + 1) - st s) t)).toInt (RY (st s + nxI (st (s + 1) - st s) t)).toInt x.toInt y.toInt)
      generalize crs (RX (st s + t)).toInt (RY (st s + t)).toInt (RX (st s + nxI (st (s + 1) - st s) t)).toInt (RY (st s + nxI (st (s + 1) - st s) t)).toInt x.toInt y.toInt = Q at *
      have yes : rayE st RX RY s x y t → (if (if cntP (rayE st RX RY s x y) t % 2 = 1 then (1 : Int32) else 0) = 0 then f 1 (nI t + 1) else f 0 (nI t + 1)) = some (dB (inR st RX RY s x y)) := by
        intro z
        rw [cnt_s z] at nxt
        by_cases q : cntP (rayE st RX RY s x y) t % 2 = 1
        · rw [if_pos q, if_neg i10]
          rw [if_neg (by omega)] at nxt
          exact nxt
        · rw [if_neg q, if_pos rfl]
          rw [if_pos (by omega)] at nxt
          exact nxt
      have no : ¬ rayE st RX RY s x y t → f (if cntP (rayE st RX RY s x y) t % 2 = 1 then (1 : Int32) else 0) (nI t + 1) = some (dB (inR st RX RY s x y)) := by
        intro z
        rw [cnt_z z] at nxt
        exact nxt
      by_cases c1 : (RY (st s + nxI (st (s + 1) - st s) t)).toInt ≤ y.toInt
      · rw [if_pos (l2.mpr c1)]
        by_cases c2 : (RY (st s + t)).toInt ≤ y.toInt
        · rw [if_pos (l1.mpr c2)]
          exact no (fun z => by rw [er] at z; omega)
        · rw [if_neg (fun z => c2 (l1.mp z))]
          have := nz (Or.inr ⟨by omega, c1⟩)
          by_cases c3 : Q ≤ 0
          · rw [if_pos (sl.mpr c3)]
            exact yes (er.mpr (Or.inr ⟨by omega, c1, by omega⟩))
          · rw [if_neg (fun z => c3 (sl.mp z))]
            exact no (fun z => by rw [er] at z; omega)
      · rw [if_neg (fun z => c1 (l2.mp z))]
        by_cases c2 : (RY (st s + t)).toInt ≤ y.toInt
        · rw [if_pos (l1.mpr c2)]
          by_cases c3 : Q ≤ 0
          · rw [if_pos (sl.mpr c3)]
            exact no (fun z => by rw [er] at z; omega)
          · rw [if_neg (fun z => c3 (sl.mp z))]
            exact yes (er.mpr (Or.inl ⟨c2, by omega, by omega⟩))
        · rw [if_neg (fun z => c2 (l1.mp z))]
          exact no (fun z => by rw [er] at z; omega)) F 0 (by omega)
  exact key (Nat.zero_le _)
theorem mod_lies {R r s F : Nat} {st : Nat → Nat} {RX RY FI SZ RXr RYr : Nat → Int32} (H : RSt R st RX RY) (K : RRf R st RX RY FI SZ RXr RYr) (hr : r < R) (hs : s < R) (hF : 5000 ≤ F) : f_Mod_liesIn F 1024 FI 1024 SZ 2052 RXr 2052 RYr (nI r) (nI s) = some (lieF st RX RY s (st (r + 1) - st r) (st r)) := by
  have m0 := RSt_m H (Nat.zero_le R)
  have m1 := RSt_m H (show r + 1 ≤ R by omega)
  have h3 := H.2.2
  have h1 := H.1 r hr
  obtain ⟨k1, k2⟩ := K.1 r hr
  unfold f_Mod_liesIn b_Mod_liesIn_0
  simp only [ixc (show r < 1024 by omega) (by omega), ixf (show r < 1024 by omega) (by omega), ↓reduceIte, k1]
  have key := lp_inv (fun _ => none) (b_Mod_liesIn_7 F 1024 FI 1024 SZ 2052 RXr 2052 RYr (nI r) (nI s)) (fun d : Nat => d) (fun f d => d ≤ st (r + 1) - st r → f (nI (st (r + 1) - d)) = some (lieF st RX RY s d (st (r + 1) - d))) (fun d f hr' hd => by
    unfold b_Mod_liesIn_7
    simp only [ixc (show r < 1024 by omega) (by omega), ixf (show r < 1024 by omega) (by omega), ↓reduceIte, k1, k2]
    rw [nI_ad, show st r + (st (r + 1) - st r) = st (r + 1) by omega]
    match d, hr', hd with
    | 0, _, _ => rw [if_pos ((nIle (by omega) (by omega)).mpr (by omega))]; rfl
    | d + 1, hr', hd =>
      rw [if_neg (fun z => by have := (nIle (by omega) (by omega)).mp z; omega)]
      simp only [ixc (show st (r + 1) - (d + 1) < 2052 by omega) (by omega), ixf (show st (r + 1) - (d + 1) < 2052 by omega) (by omega), ↓reduceIte]
      obtain ⟨a1, a2⟩ := K.2 (st (r + 1) - (d + 1)) (by omega)
      have b1 := H.2.1 (st (r + 1) - (d + 1)) (by omega)
      rw [a1, a2, mod_on H K hs hF b1.1 b1.2]
      simp only [ob1]
      unfold lieF
      by_cases o : onR st RX RY s (RX (st (r + 1) - (d + 1))) (RY (st (r + 1) - (d + 1)))
      · rw [if_neg (fun z => bI_dB.mp z o), if_pos (dB_t o), nI_1]
        have := hr' d (by omega) (by omega)
        rw [show st (r + 1) - (d + 1) + 1 = st (r + 1) - d by omega]
        exact this
      · rw [if_pos (bI_dB.mpr o), if_neg (fun z => o (dB_i.mp z)), mod_in H K hs hF b1.1 b1.2 o]) F (st (r + 1) - st r) (by omega)
  have k0 := key (Nat.le_refl _)
  rw [show st (r + 1) - (st (r + 1) - st r) = st r by omega] at k0
  exact k0
