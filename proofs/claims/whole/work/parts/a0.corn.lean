/-! half B: the corners of a ring, in the class -/
theorem net_isStraight {P a b c : Nat} {X Y : Nat → Int32} (hP : P ≤ 1000000) (ha : a < P) (hb : b < P) (hc : c < P) (iB : ∀ i, i < P → inB (X i) ∧ inB (Y i)) : f_Net_isStraight (tab P X) (tab P Y) (nI a) (nI b) (nI c) = some (dB (crs (X a).toInt (Y a).toInt (X b).toInt (Y b).toInt (X c).toInt (Y c).toInt = 0)) := by
  unfold f_Net_isStraight b_Net_isStraight_0
  rw [rg_tab ha hP, rg_tab hb hP, rg_tab hc hP, rg_tab ha hP, rg_tab hb hP, rg_tab hc hP, pla_side (iB a ha).1 (iB a ha).2 (iB b hb).1 (iB b hb).2 (iB c hc).1 (iB c hc).2]
  simp only [ob1]
  by_cases z : crs (X a).toInt (Y a).toInt (X b).toInt (Y b).toInt (X c).toInt (Y c).toInt = 0
  · rw [if_pos ((sg_0 _).mpr z), dB_t z]
  · rw [if_neg (fun w => z ((sg_0 _).mp w)), dB_f z]
theorem net_isPlaceLess {P a b : Nat} {X Y : Nat → Int32} (hP : P ≤ 1000000) (ha : a < P) (hb : b < P) : f_Net_isPlaceLess (tab P X) (tab P Y) (nI a) (nI b) = some (dB (lessP (X a) (Y a) (X b) (Y b))) := by
  unfold f_Net_isPlaceLess b_Net_isPlaceLess_0
  rw [rg_tab ha hP, rg_tab hb hP, rg_tab ha hP, rg_tab hb hP, pla_isLess]
  rfl
/-- the points of the ring from b on -/
def pX (X : Nat → Int32) (q : Nat → Nat) (b i : Nat) : Int32 := X (q (b + i))
theorem rgs_corners {P T b l Q F kx ky : Nat} {X Y RX RY : Nat → Int32} {q : Nat → Nat} (hP : P ≤ 4096) (hT : T ≤ 2000) (hF : 5000 ≤ F) (hb : b < T) (hl : l < T - b) (hq : ∀ i, i < T → q i < P) (iB : ∀ i, i < P → inB (X i) ∧ inB (Y i)) (hQ : Q + (T - b) ≤ 2000) (cx : capO Q kx 4096) (cy : capO Q ky 4096) : ∃ c d kx' ky', f_Rgs_addCorners F (tab T (fun i => nI (q i))) (tab P X) (tab P Y) (nI (b + l)) (nI b) (nI T) (tab Q RX) kx (tab Q RY) ky = some (c, d, tab (Q + cntP (coI (T - b) l (pX X q b) (pX Y q b)) (T - b)) (crnF (coI (T - b) l (pX X q b) (pX Y q b)) (fun t => pX X q b (idI (T - b) l t)) Q RX (T - b)), kx', tab (Q + cntP (coI (T - b) l (pX X q b) (pX Y q b)) (T - b)) (crnF (coI (T - b) l (pX X q b) (pX Y q b)) (fun t => pX Y q b (idI (T - b) l t)) Q RY (T - b)), ky') ∧ (capO (Q + cntP (coI (T - b) l (pX X q b) (pX Y q b)) (T - b)) kx' 4096 ∧ capO (Q + cntP (coI (T - b) l (pX X q b) (pX Y q b)) (T - b)) ky' 4096) ∧ c + (kx + ky) ≤ kx' + ky' ∧ d + 2 * (kx + ky) = 2 * (kx' + ky') := by
  unfold f_Rgs_addCorners b_Rgs_addCorners_0
  have key := lp_inv (fun _ _ _ _ _ _ => none) (b_Rgs_addCorners_6 F (tab T (fun i => nI (q i))) (tab P X) (tab P Y) (nI (b + l)) (nI b) (nI T)) (fun t : Nat => T - b - t) (fun f t => ∀ kx ky, t ≤ T - b → capO (Q + cntP (coI (T - b) l (pX X q b) (pX Y q b)) t) kx 4096 → capO (Q + cntP (coI (T - b) l (pX X q b) (pX Y q b)) t) ky 4096 → ∃ c d kx' ky', f (nI (b + if t < T - b then idI (T - b) l t else l)) (nI (b + t)) (tab (Q + cntP (coI (T - b) l (pX X q b) (pX Y q b)) t) (crnF (coI (T - b) l (pX X q b) (pX Y q b)) (fun t => pX X q b (idI (T - b) l t)) Q RX t)) kx (tab (Q + cntP (coI (T - b) l (pX X q b) (pX Y q b)) t) (crnF (coI (T - b) l (pX X q b) (pX Y q b)) (fun t => pX Y q b (idI (T - b) l t)) Q RY t)) ky = some (c, d, tab (Q + cntP (coI (T - b) l (pX X q b) (pX Y q b)) (T - b)) (crnF (coI (T - b) l (pX X q b) (pX Y q b)) (fun t => pX X q b (idI (T - b) l t)) Q RX (T - b)), kx', tab (Q + cntP (coI (T - b) l (pX X q b) (pX Y q b)) (T - b)) (crnF (coI (T - b) l (pX X q b) (pX Y q b)) (fun t => pX Y q b (idI (T - b) l t)) Q RY (T - b)), ky') ∧ (capO (Q + cntP (coI (T - b) l (pX X q b) (pX Y q b)) (T - b)) kx' 4096 ∧ capO (Q + cntP (coI (T - b) l (pX X q b) (pX Y q b)) (T - b)) ky' 4096) ∧ c + (kx + ky) ≤ kx' + ky' ∧ d + 2 * (kx + ky) = 2 * (kx' + ky')) (fun t f hr => by
    intro kx ky ht cx cy
    unfold b_Rgs_addCorners_6
    by_cases hl' : T - b ≤ t
    · have : t = T - b := by omega
      subst this
      rw [if_pos ((nIle (by omega) (by omega)).mpr (by omega))]
      exact ⟨0, 0, kx, ky, rfl, ⟨cx, cy⟩, by omega, by omega⟩
    · have htN : t < T - b := by omega
      have hi := idI_lt (N := T - b) (l := l) (t := t) hl htN
      have hp := pvI_lt (N := T - b) hi
      have hx := nxI_lt (N := T - b) hi
      rw [if_neg (fun z => by have := (nIle (by omega) (by omega)).mp z; omega), if_pos htN]
      have cN := cnt_n (p := coI (T - b) l (pX X q b) (pX Y q b)) (n := t)
      -- the one before
      have e30 : ∀ s : Int32, s = nI (b + pvI (T - b) (idI (T - b) l t)) → ∃ c d kx' ky', b_Rgs_addCorners_30 F (tab T (fun i => nI (q i))) (tab P X) (tab P Y) (nI (b + l)) (nI b) (nI T) f (nI (b + idI (T - b) l t)) (nI (b + t)) s (tab (Q + cntP (coI (T - b) l (pX X q b) (pX Y q b)) t) (crnF (coI (T - b) l (pX X q b) (pX Y q b)) (fun t => pX X q b (idI (T - b) l t)) Q RX t)) kx (tab (Q + cntP (coI (T - b) l (pX X q b) (pX Y q b)) t) (crnF (coI (T - b) l (pX X q b) (pX Y q b)) (fun t => pX Y q b (idI (T - b) l t)) Q RY t)) ky = some (c, d, tab (Q + cntP (coI (T - b) l (pX X q b) (pX Y q b)) (T - b)) (crnF (coI (T - b) l (pX X q b) (pX Y q b)) (fun t => pX X q b (idI (T - b) l t)) Q RX (T - b)), kx', tab (Q + cntP (coI (T - b) l (pX X q b) (pX Y q b)) (T - b)) (crnF (coI (T - b) l (pX X q b) (pX Y q b)) (fun t => pX Y q b (idI (T - b) l t)) Q RY (T - b)), ky') ∧ (capO (Q + cntP (coI (T - b) l (pX X q b) (pX Y q b)) (T - b)) kx' 4096 ∧ capO (Q + cntP (coI (T - b) l (pX X q b) (pX Y q b)) (T - b)) ky' 4096) ∧ c + (kx + ky) ≤ kx' + ky' ∧ d + 2 * (kx + ky) = 2 * (kx' + ky') := by
        intro s hs
        have e49 : ∃ c d kx' ky', b_Rgs_addCorners_49 F (tab T (fun i => nI (q i))) (tab P X) (tab P Y) (nI (b + l)) (nI b) (nI T) f (nI (b + idI (T - b) l t)) (nI (b + t)) s (nI (b + nxI (T - b) (idI (T - b) l t))) (tab (Q + cntP (coI (T - b) l (pX X q b) (pX Y q b)) t) (crnF (coI (T - b) l (pX X q b) (pX Y q b)) (fun t => pX X q b (idI (T - b) l t)) Q RX t)) kx (tab (Q + cntP (coI (T - b) l (pX X q b) (pX Y q b)) t) (crnF (coI (T - b) l (pX X q b) (pX Y q b)) (fun t => pX Y q b (idI (T - b) l t)) Q RY t)) ky = some (c, d, tab (Q + cntP (coI (T - b) l (pX X q b) (pX Y q b)) (T - b)) (crnF (coI (T - b) l (pX X q b) (pX Y q b)) (fun t => pX X q b (idI (T - b) l t)) Q RX (T - b)), kx', tab (Q + cntP (coI (T - b) l (pX X q b) (pX Y q b)) (T - b)) (crnF (coI (T - b) l (pX X q b) (pX Y q b)) (fun t => pX Y q b (idI (T - b) l t)) Q RY (T - b)), ky') ∧ (capO (Q + cntP (coI (T - b) l (pX X q b) (pX Y q b)) (T - b)) kx' 4096 ∧ capO (Q + cntP (coI (T - b) l (pX X q b) (pX Y q b)) (T - b)) ky' 4096) ∧ c + (kx + ky) ≤ kx' + ky' ∧ d + 2 * (kx + ky) = 2 * (kx' + ky') := by
          unfold b_Rgs_addCorners_49
          rw [hs, rg_tab (show b + pvI (T - b) (idI (T - b) l t) < T by omega) (by omega), rg_tab (show b + idI (T - b) l t < T by omega) (by omega), rg_tab (show b + nxI (T - b) (idI (T - b) l t) < T by omega) (by omega), net_isStraight (by omega) (hq _ (by omega)) (hq _ (by omega)) (hq _ (by omega)) iB]
          simp only [ob1]
          rw [rg_tab (hq _ (show b + idI (T - b) l t < T by omega)) (by omega), rg_tab (hq _ (show b + idI (T - b) l t < T by omega)) (by omega)]
          have hr' := hr (t + 1) (by omega)
          have inx : nI (b + nxI (T - b) (idI (T - b) l t)) = nI (b + if t + 1 < T - b then idI (T - b) l (t + 1) else l) := by rw [idI_nx hl htN]
          by_cases co : coI (T - b) l (pX X q b) (pX Y q b) t
          · have co2 : ¬ crs (X (q (b + pvI (T - b) (idI (T - b) l t)))).toInt (Y (q (b + pvI (T - b) (idI (T - b) l t)))).toInt (X (q (b + idI (T - b) l t))).toInt (Y (q (b + idI (T - b) l t))).toInt (X (q (b + nxI (T - b) (idI (T - b) l t)))).toInt (Y (q (b + nxI (T - b) (idI (T - b) l t)))).toInt = 0 := co
            rw [if_pos (bI_dB.mpr co2)]
            obtain ⟨c1, s1, k1, e1, a1, b1, d1⟩ := ra_cap cx (by omega) (by omega)
            obtain ⟨c2, s2, k2, e2, a2, b2, d2⟩ := ra_cap cy (by omega) (by omega)
            rw [tab_len, e1]
            simp only [ob3]
            rw [tab_len, e2]
            simp only [ob3]
            unfold b_Rgs_addCorners_121
            rw [tab_add, tab_add, nI_1, inx]
            obtain ⟨c, d, kx', ky', e, cc, q1, q2⟩ := hr' k1 k2 (by omega) (by rw [cnt_s co, ← Nat.add_assoc]; exact d1) (by rw [cnt_s co, ← Nat.add_assoc]; exact d2)
            rw [cnt_s co] at e
            have w1 : crnF (coI (T - b) l (pX X q b) (pX Y q b)) (fun t => pX X q b (idI (T - b) l t)) Q RX (t + 1) = upd (crnF (coI (T - b) l (pX X q b) (pX Y q b)) (fun t => pX X q b (idI (T - b) l t)) Q RX t) (Q + cntP (coI (T - b) l (pX X q b) (pX Y q b)) t) (pX X q b (idI (T - b) l t)) := if_pos (dB_t co)
            have w2 : crnF (coI (T - b) l (pX X q b) (pX Y q b)) (fun t => pX Y q b (idI (T - b) l t)) Q RY (t + 1) = upd (crnF (coI (T - b) l (pX X q b) (pX Y q b)) (fun t => pX Y q b (idI (T - b) l t)) Q RY t) (Q + cntP (coI (T - b) l (pX X q b) (pX Y q b)) t) (pX Y q b (idI (T - b) l t)) := if_pos (dB_t co)
            rw [w1, w2] at e
            exact ⟨c1 + (c2 + c), s1 + (s2 + d), kx', ky', (congrArg (fun z => ac c1 s1 (ac c2 s2 z)) e).trans rfl, cc, by omega, by omega⟩
          · have co' : crs (X (q (b + pvI (T - b) (idI (T - b) l t)))).toInt (Y (q (b + pvI (T - b) (idI (T - b) l t)))).toInt (X (q (b + idI (T - b) l t))).toInt (Y (q (b + idI (T - b) l t))).toInt (X (q (b + nxI (T - b) (idI (T - b) l t)))).toInt (Y (q (b + nxI (T - b) (idI (T - b) l t)))).toInt = 0 := Classical.byContradiction co
            rw [if_neg (fun z => bI_dB.mp z co')]
            unfold b_Rgs_addCorners_121
            rw [nI_1, inx]
            have e := hr' kx ky (by omega) (by rw [cnt_z co]; exact cx) (by rw [cnt_z co]; exact cy)
            rw [cnt_z co] at e
            have w1 : crnF (coI (T - b) l (pX X q b) (pX Y q b)) (fun t => pX X q b (idI (T - b) l t)) Q RX (t + 1) = crnF (coI (T - b) l (pX X q b) (pX Y q b)) (fun t => pX X q b (idI (T - b) l t)) Q RX t := if_neg (fun z => co (dB_i.mp z))
            have w2 : crnF (coI (T - b) l (pX X q b) (pX Y q b)) (fun t => pX Y q b (idI (T - b) l t)) Q RY (t + 1) = crnF (coI (T - b) l (pX X q b) (pX Y q b)) (fun t => pX Y q b (idI (T - b) l t)) Q RY t := if_neg (fun z => co (dB_i.mp z))
            rw [w1, w2] at e
            exact e
        unfold b_Rgs_addCorners_30
        rw [nI_1]
        by_cases c1 : T ≤ b + idI (T - b) l t + 1
        · rw [if_pos ((nIle (by omega) (by omega)).mpr c1)]
          have : nxI (T - b) (idI (T - b) l t) = 0 := if_neg (by omega)
          rw [this] at e49
          exact e49
        · rw [if_neg (fun z => c1 ((nIle (by omega) (by omega)).mp z))]
          have : nxI (T - b) (idI (T - b) l t) = idI (T - b) l t + 1 := if_pos (by omega)
          rw [this] at e49
          exact e49
      by_cases c1 : idI (T - b) l t = 0
      · rw [if_pos ((nIle (by omega) (by omega)).mpr (by omega))]
        apply e30
        rw [nI_s1 (by omega)]
        have : pvI (T - b) (idI (T - b) l t) = T - b - 1 := if_neg (by omega)
        rw [this, show b + (T - b - 1) = T - 1 by omega]
      · rw [if_neg (fun z => by have := (nIle (by omega) (by omega)).mp z; omega)]
        apply e30
        rw [nI_s1 (by omega)]
        have : pvI (T - b) (idI (T - b) l t) = idI (T - b) l t - 1 := if_pos (by omega)
        rw [this, show b + (idI (T - b) l t - 1) = b + idI (T - b) l t - 1 by omega]) F 0 (by omega)
  have k0 := key kx ky (Nat.zero_le _) cx cy
  rw [if_pos (show 0 < T - b by omega)] at k0
  have i0 : idI (T - b) l 0 = l := if_pos (by omega)
  rw [i0] at k0
  exact k0
