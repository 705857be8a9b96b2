/-! half B: ring of the reference -/
def pI (i : Nat) : Nat := i
def shoe64 (px py : Nat → Int32) (N : Nat) : Nat → Int64
  | 0 => 0
  | t + 1 => shoe64 px py N t + ((px t).toInt64 * (py (nxI N t)).toInt64 - (py t).toInt64 * (px (nxI N t)).toInt64)
theorem mod_isStraight {b N i : Nat} {VX VY : Nat → Int32} (hi : i < N) (hN : b + N ≤ 2052) (iB : ∀ j, j < b + N → inB (VX j) ∧ inB (VY j)) : f_Mod_isStraight 2052 VX 2052 VY (nI b) (nI N) (nI i) = some (dB (¬ crs (VX (b + pvI N i)).toInt (VY (b + pvI N i)).toInt (VX (b + i)).toInt (VY (b + i)).toInt (VX (b + nxI N i)).toInt (VY (b + nxI N i)).toInt ≠ 0)) := by
  have hp := pvI_lt hi
  have hx := nxI_lt hi
  have hN0 : ¬ nI N = 0 := fun z => by
    have := (nIeq (a := N) (b := 0) (by omega) (by omega)).mp z
    omega
  unfold f_Mod_isStraight b_Mod_isStraight_0
  rw [if_neg hN0, if_neg hN0, mod_pv hi (by omega), mod_nx hi (by omega), nI_ad, nI_ad, nI_ad]
  simp only [ixc (show b + pvI N i < 2052 by omega) (by omega), ixc (show b + nxI N i < 2052 by omega) (by omega), ixc (show b + i < 2052 by omega) (by omega), ixf (show b + pvI N i < 2052 by omega) (by omega), ixf (show b + nxI N i < 2052 by omega) (by omega), ixf (show b + i < 2052 by omega) (by omega), ↓reduceIte]
  rw [mod_side (iB _ (by omega)).1 (iB _ (by omega)).2 (iB _ (by omega)).1 (iB _ (by omega)).2 (iB _ (by omega)).1 (iB _ (by omega)).2]
  simp only [ob1]
  have e : crs (VX (b + pvI N i)).toInt (VY (b + pvI N i)).toInt (VX (b + nxI N i)).toInt (VY (b + nxI N i)).toInt (VX (b + i)).toInt (VY (b + i)).toInt = - crs (VX (b + pvI N i)).toInt (VY (b + pvI N i)).toInt (VX (b + i)).toInt (VY (b + i)).toInt (VX (b + nxI N i)).toInt (VY (b + nxI N i)).toInt := by unfold crs; grind
  rw [e]
  by_cases c : crs (VX (b + pvI N i)).toInt (VY (b + pvI N i)).toInt (VX (b + i)).toInt (VY (b + i)).toInt (VX (b + nxI N i)).toInt (VY (b + nxI N i)).toInt = 0
  · rw [if_pos ((sg_0 _).mpr (by omega)), dB_t (fun z => z c)]
  · rw [if_neg (fun z => c (by have := (sg_0 _).mp z; omega)), dB_f (fun z => z c)]
theorem mod_ring {T b Q R F : Nat} {VX VY RX RY FI SZ : Nat → Int32} {AR : Nat → Int64} (hT : T ≤ 2000) (hF : 5000 ≤ F) (hb : b < T) (iB : ∀ j, j < T → inB (VX j) ∧ inB (VY j)) (hQ : Q + (T - b) ≤ 2000) (hR : R < 1024) : f_Mod_ring F (nI T) 1024 1024 1024 2052 VX 2052 VY 2052 2052 (nI b) (nI R) (nI Q) FI AR SZ RX RY = some (nI (R + 1), nI (Q + rgQ VX VY pI b T), upd FI R (nI Q), vp_updL AR R (shoe64 (pX VX pI b) (pX VY pI b) (T - b) (T - b)), upd SZ R (nI (rgQ VX VY pI b T)), rgF VX VX VY pI b T Q RX, rgF VY VX VY pI b T Q RY) := by
  unfold f_Mod_ring b_Mod_ring_0
  rw [nI_sub' (by omega) (by omega)]
  have hN0 : ¬ nI (T - b) = 0 := fun z => by
    have := (nIeq (a := T - b) (b := 0) (by omega) (by omega)).mp z
    omega
  have hL : rgL VX VY pI b T < T - b := lstI_lt (px := pX VX pI b) (py := pX VY pI b) (k := T - b) (N := T - b) (by omega) (Nat.le_refl _)
  -- the corners
  have L2 : ∀ t, t ≤ T - b → lp (fun _ _ _ _ _ _ _ _ _ _ => none) (b_Mod_ring_173 F (nI T) 1024 1024 1024 2052 VX 2052 VY 2052 2052 (nI b)) F (nI (T - b)) (nI (rgL VX VY pI b T)) (nI t) (nI R) (nI (Q + cntP (rgC VX VY pI b T) t)) (upd FI R (nI Q)) (vp_updL AR R (shoe64 (pX VX pI b) (pX VY pI b) (T - b) (T - b))) SZ (crnF (rgC VX VY pI b T) (fun t => pX VX pI b (idI (T - b) (rgL VX VY pI b T) t)) Q RX t) (crnF (rgC VX VY pI b T) (fun t => pX VY pI b (idI (T - b) (rgL VX VY pI b T) t)) Q RY t) = some (nI (R + 1), nI (Q + rgQ VX VY pI b T), upd FI R (nI Q), vp_updL AR R (shoe64 (pX VX pI b) (pX VY pI b) (T - b) (T - b)), upd SZ R (nI (rgQ VX VY pI b T)), rgF VX VX VY pI b T Q RX, rgF VY VX VY pI b T Q RY) := by
    intro t ht
    exact lp_inv (fun _ _ _ _ _ _ _ _ _ _ => none) (b_Mod_ring_173 F (nI T) 1024 1024 1024 2052 VX 2052 VY 2052 2052 (nI b)) (fun t : Nat => T - b - t) (fun f t => t ≤ T - b → f (nI (T - b)) (nI (rgL VX VY pI b T)) (nI t) (nI R) (nI (Q + cntP (rgC VX VY pI b T) t)) (upd FI R (nI Q)) (vp_updL AR R (shoe64 (pX VX pI b) (pX VY pI b) (T - b) (T - b))) SZ (crnF (rgC VX VY pI b T) (fun t => pX VX pI b (idI (T - b) (rgL VX VY pI b T) t)) Q RX t) (crnF (rgC VX VY pI b T) (fun t => pX VY pI b (idI (T - b) (rgL VX VY pI b T) t)) Q RY t) = some (nI (R + 1), nI (Q + rgQ VX VY pI b T), upd FI R (nI Q), vp_updL AR R (shoe64 (pX VX pI b) (pX VY pI b) (T - b) (T - b)), upd SZ R (nI (rgQ VX VY pI b T)), rgF VX VX VY pI b T Q RX, rgF VY VX VY pI b T Q RY)) (fun t f hr => by
      intro ht
      unfold b_Mod_ring_173
      have cN := cnt_n (p := rgC VX VY pI b T) (n := t)
      simp only [ixc (show R < 1024 by omega) (by omega), ixf (show R < 1024 by omega) (by omega), ↓reduceIte]
      by_cases hl' : T - b ≤ t
      · have : t = T - b := by omega
        subst this
        rw [if_pos ((nIle (by omega) (by omega)).mpr (by omega)), pk_us, nI_sub' (by omega) (by omega), nI_1, show Q + cntP (rgC VX VY pI b T) (T - b) - Q = rgQ VX VY pI b T by unfold rgQ; omega]
        rfl
      · have htN : t < T - b := by omega
        have hi := idI_lt (N := T - b) (l := rgL VX VY pI b T) (t := t) hL htN
        rw [if_neg (fun z => by have := (nIle (by omega) (by omega)).mp z; omega), if_neg hN0, mod_id hL htN (by omega), mod_isStraight hi (by omega) (fun j hj => iB j (by omega)), nI_ad]
        simp only [ob1, ixc (show b + idI (T - b) (rgL VX VY pI b T) t < 2052 by omega) (by omega), ixf (show b + idI (T - b) (rgL VX VY pI b T) t < 2052 by omega) (by omega), ixc (show Q + cntP (rgC VX VY pI b T) t < 2052 by omega) (by omega), ixf (show Q + cntP (rgC VX VY pI b T) t < 2052 by omega) (by omega), ↓reduceIte]
        unfold b_Mod_ring_244
        have h := hr (t + 1) (by omega) (by omega)
        rw [← nI_1] at h
        by_cases c : rgC VX VY pI b T t
        · have c' : crs (VX (b + pvI (T - b) (idI (T - b) (rgL VX VY pI b T) t))).toInt (VY (b + pvI (T - b) (idI (T - b) (rgL VX VY pI b T) t))).toInt (VX (b + idI (T - b) (rgL VX VY pI b T) t)).toInt (VY (b + idI (T - b) (rgL VX VY pI b T) t)).toInt (VX (b + nxI (T - b) (idI (T - b) (rgL VX VY pI b T) t))).toInt (VY (b + nxI (T - b) (idI (T - b) (rgL VX VY pI b T) t))).toInt ≠ 0 := c
          rw [if_pos (bI_dB.mpr (fun z => z c'))]
          rw [cnt_s c] at h
          have w1 : crnF (rgC VX VY pI b T) (fun t => pX VX pI b (idI (T - b) (rgL VX VY pI b T) t)) Q RX (t + 1) = upd (crnF (rgC VX VY pI b T) (fun t => pX VX pI b (idI (T - b) (rgL VX VY pI b T) t)) Q RX t) (Q + cntP (rgC VX VY pI b T) t) (pX VX pI b (idI (T - b) (rgL VX VY pI b T) t)) := if_pos (dB_t c)
          have w2 : crnF (rgC VX VY pI b T) (fun t => pX VY pI b (idI (T - b) (rgL VX VY pI b T) t)) Q RY (t + 1) = upd (crnF (rgC VX VY pI b T) (fun t => pX VY pI b (idI (T - b) (rgL VX VY pI b T) t)) Q RY t) (Q + cntP (rgC VX VY pI b T) t) (pX VY pI b (idI (T - b) (rgL VX VY pI b T) t)) := if_pos (dB_t c)
          rw [w1, w2] at h
          rw [nI_1 (Q + cntP (rgC VX VY pI b T) t)]
          exact h
        · have c' : ¬ crs (VX (b + pvI (T - b) (idI (T - b) (rgL VX VY pI b T) t))).toInt (VY (b + pvI (T - b) (idI (T - b) (rgL VX VY pI b T) t))).toInt (VX (b + idI (T - b) (rgL VX VY pI b T) t)).toInt (VY (b + idI (T - b) (rgL VX VY pI b T) t)).toInt (VX (b + nxI (T - b) (idI (T - b) (rgL VX VY pI b T) t))).toInt (VY (b + nxI (T - b) (idI (T - b) (rgL VX VY pI b T) t))).toInt ≠ 0 := c
          rw [if_neg (fun z => bI_dB.mp z c')]
          rw [cnt_z c] at h
          have w1 : crnF (rgC VX VY pI b T) (fun t => pX VX pI b (idI (T - b) (rgL VX VY pI b T) t)) Q RX (t + 1) = crnF (rgC VX VY pI b T) (fun t => pX VX pI b (idI (T - b) (rgL VX VY pI b T) t)) Q RX t := if_neg (fun z => c (dB_i.mp z))
          have w2 : crnF (rgC VX VY pI b T) (fun t => pX VY pI b (idI (T - b) (rgL VX VY pI b T) t)) Q RY (t + 1) = crnF (rgC VX VY pI b T) (fun t => pX VY pI b (idI (T - b) (rgL VX VY pI b T) t)) Q RY t := if_neg (fun z => c (dB_i.mp z))
          rw [w1, w2] at h
          exact h) F t (by omega) ht
  have key := lp_inv (fun _ _ _ _ _ _ _ _ _ _ _ => none) (b_Mod_ring_15 F (nI T) 1024 1024 1024 2052 VX 2052 VY 2052 2052 (nI b)) (fun t : Nat => T - b - t) (fun f t => t ≤ T - b → f (nI (T - b)) (nI (lstI (pX VX pI b) (pX VY pI b) t)) (shoe64 (pX VX pI b) (pX VY pI b) (T - b) t) (nI t) (nI R) (nI Q) FI AR SZ RX RY = some (nI (R + 1), nI (Q + rgQ VX VY pI b T), upd FI R (nI Q), vp_updL AR R (shoe64 (pX VX pI b) (pX VY pI b) (T - b) (T - b)), upd SZ R (nI (rgQ VX VY pI b T)), rgF VX VX VY pI b T Q RX, rgF VY VX VY pI b T Q RY)) (fun t f hr => by
    intro ht
    unfold b_Mod_ring_15
    have hl0 := lstI_lt (px := pX VX pI b) (py := pX VY pI b) (k := t) (N := T - b) (by omega) ht
    simp only [ixc (show R < 1024 by omega) (by omega), ixf (show R < 1024 by omega) (by omega), ↓reduceIte]
    by_cases hl' : T - b ≤ t
    · have : t = T - b := by omega
      subst this
      rw [if_pos ((nIle (by omega) (by omega)).mpr (by omega))]
      exact L2 0 (Nat.zero_le _)
    · have htN : t < T - b := by omega
      have hx := nxI_lt (N := T - b) htN
      rw [if_neg (fun z => by have := (nIle (by omega) (by omega)).mp z; omega), if_neg hN0, mod_nx htN (by omega), nI_ad, nI_ad, nI_ad]
      unfold f_Mod_cross b_Mod_cross_0 b_Mod_ring_133 b_Mod_ring_138 b_Mod_ring_139
      simp only [ob1, ixc (show b + t < 2052 by omega) (by omega), ixf (show b + t < 2052 by omega) (by omega), ixc (show b + nxI (T - b) t < 2052 by omega) (by omega), ixf (show b + nxI (T - b) t < 2052 by omega) (by omega), ixc (show b + lstI (pX VX pI b) (pX VY pI b) t < 2052 by omega) (by omega), ixf (show b + lstI (pX VX pI b) (pX VY pI b) t < 2052 by omega) (by omega), ↓reduceIte]
      have h := hr (t + 1) (by omega) (by omega)
      rw [← nI_1] at h
      have yes : lessP (VX (b + t)) (VY (b + t)) (VX (b + lstI (pX VX pI b) (pX VY pI b) t)) (VY (b + lstI (pX VX pI b) (pX VY pI b) t)) → f (nI (T - b)) (nI t) (shoe64 (pX VX pI b) (pX VY pI b) (T - b) t + ((VX (b + t)).toInt64 * (VY (b + nxI (T - b) t)).toInt64 - (VY (b + t)).toInt64 * (VX (b + nxI (T - b) t)).toInt64)) (nI t + 1) (nI R) (nI Q) FI AR SZ RX RY = some (nI (R + 1), nI (Q + rgQ VX VY pI b T), upd FI R (nI Q), vp_updL AR R (shoe64 (pX VX pI b) (pX VY pI b) (T - b) (T - b)), upd SZ R (nI (rgQ VX VY pI b T)), rgF VX VX VY pI b T Q RX, rgF VY VX VY pI b T Q RY) := by
        intro z
        have e : lstI (pX VX pI b) (pX VY pI b) (t + 1) = t := if_pos (dB_t z)
        rw [e] at h
        exact h
      have no : ¬ lessP (VX (b + t)) (VY (b + t)) (VX (b + lstI (pX VX pI b) (pX VY pI b) t)) (VY (b + lstI (pX VX pI b) (pX VY pI b) t)) → f (nI (T - b)) (nI (lstI (pX VX pI b) (pX VY pI b) t)) (shoe64 (pX VX pI b) (pX VY pI b) (T - b) t + ((VX (b + t)).toInt64 * (VY (b + nxI (T - b) t)).toInt64 - (VY (b + t)).toInt64 * (VX (b + nxI (T - b) t)).toInt64)) (nI t + 1) (nI R) (nI Q) FI AR SZ RX RY = some (nI (R + 1), nI (Q + rgQ VX VY pI b T), upd FI R (nI Q), vp_updL AR R (shoe64 (pX VX pI b) (pX VY pI b) (T - b) (T - b)), upd SZ R (nI (rgQ VX VY pI b T)), rgF VX VX VY pI b T Q RX, rgF VY VX VY pI b T Q RY) := by
        intro z
        have e : lstI (pX VX pI b) (pX VY pI b) (t + 1) = lstI (pX VX pI b) (pX VY pI b) t := if_neg (fun w => z (dB_i.mp w))
        rw [e] at h
        exact h
      unfold lessP at yes no
      by_cases c1 : VX (b + t) < VX (b + lstI (pX VX pI b) (pX VY pI b) t)
      · rw [if_pos c1]
        exact yes (Or.inl (i32lt.mp c1))
      · rw [if_neg c1]
        by_cases c2 : VX (b + t) = VX (b + lstI (pX VX pI b) (pX VY pI b) t)
        · rw [if_pos c2]
          by_cases c3 : VY (b + lstI (pX VX pI b) (pX VY pI b) t) ≤ VY (b + t)
          · rw [if_pos c3]
            refine no (fun z => ?_)
            rw [i32le] at c3
            rw [i32eq] at c2
            omega
          · rw [if_neg c3]
            refine yes (Or.inr ⟨i32eq.mp c2, ?_⟩)
            rw [i32le] at c3
            omega
        · rw [if_neg c2]
          refine no (fun z => ?_)
          rw [i32lt] at c1
          rw [i32eq] at c2
          omega) F 0 (by omega)
  exact key (Nat.zero_le _)
