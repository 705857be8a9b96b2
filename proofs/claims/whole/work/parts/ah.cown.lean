/-! half B: rings by their corners in the class: area, on it, in it -/
def RSt (R : Nat) (st : Nat → Nat) (RX RY : Nat → Int32) : Prop := (∀ r, r < R → st r + 3 ≤ st (r + 1)) ∧ (∀ j, j < st R → inB (RX j) ∧ inB (RY j)) ∧ st R ≤ 1000
theorem RSt_m {R : Nat} {st : Nat → Nat} {RX RY : Nat → Int32} (H : RSt R st RX RY) {r : Nat} (hr : r ≤ R) : st r + 3 * (R - r) ≤ st R := by
  have : ∀ d r, r + d = R → st r + 3 * d ≤ st R := by
    intro d
    induction d with
    | zero => intro r hr; rw [show r = R by omega]; omega
    | succ d ih =>
      intro r hr
      have h1 := H.1 r (by omega)
      have h2 := ih (r + 1) (by omega)
      omega
  exact this (R - r) r (by omega)
theorem rgs_end {R r : Nat} {st : Nat → Nat} {RX RY : Nat → Int32} (H : RSt R st RX RY) (hr : r < R) : f_Rgs_endOf (tab R (fun r => nI (st r))) (tab (st R) RX) (nI r) = some (nI (st (r + 1))) := by
  have m := RSt_m H (Nat.zero_le R)
  have h3 := H.2.2
  unfold f_Rgs_endOf b_Rgs_endOf_0
  rw [tab_len, tab_len, nI_1]
  by_cases c : R ≤ r + 1
  · rw [if_pos ((nIle (by omega) (by omega)).mpr c), show R = r + 1 by omega]
  · rw [if_neg (fun z => c ((nIle (by omega) (by omega)).mp z)), rg_tab (show r + 1 < R by omega) (by omega)]
theorem rgs_start {R r : Nat} {st : Nat → Nat} (hr : r < R) (hR : R ≤ 1000) : f_Rgs_startOf (tab R (fun r => nI (st r))) (nI r) = some (nI (st r)) := by
  unfold f_Rgs_startOf b_Rgs_startOf_0
  rw [rg_tab hr (by omega)]
def arR (st : Nat → Nat) (RX RY : Nat → Int32) (r : Nat) : Int64 := shoe64 (fun j => RX (st r + j)) (fun j => RY (st r + j)) (st (r + 1) - st r) (st (r + 1) - st r)
theorem rgs_area {R r F : Nat} {st : Nat → Nat} {RX RY : Nat → Int32} (H : RSt R st RX RY) (hr : r < R) (hF : 5000 ≤ F) : f_Rgs_twiceAreaOf F (tab R (fun r => nI (st r))) (tab (st R) RX) (tab (st R) RY) (nI r) = some (arR st RX RY r) := by
  have m0 := RSt_m H (Nat.zero_le R)
  have m1 := RSt_m H (show r + 1 ≤ R by omega)
  have h3 := H.2.2
  have h1 := H.1 r hr
  unfold f_Rgs_twiceAreaOf b_Rgs_twiceAreaOf_0
  rw [rgs_end H hr, rgs_start hr (by omega)]
  simp only [ob1]
  rw [nI_s1 (by omega)]
  have key := lp_inv (fun _ _ _ => none) (b_Rgs_twiceAreaOf_17 F (tab R (fun r => nI (st r))) (tab (st R) RX) (tab (st R) RY) (nI r)) (fun t : Nat => st (r + 1) - st r - t) (fun f t => t ≤ st (r + 1) - st r → f (nI (st (r + 1) - 1)) (shoe64 (fun j => RX (st r + j)) (fun j => RY (st r + j)) (st (r + 1) - st r) t) (nI (st r + t)) = some (arR st RX RY r)) (fun t f hr' ht => by
    unfold b_Rgs_twiceAreaOf_17
    by_cases c : st (r + 1) - st r ≤ t
    · have e : t = st (r + 1) - st r := by omega
      rw [if_pos (nI_lt (by omega) (by omega)), e]
      rfl
    · rw [if_neg (fun z => by rw [i32lt, nI_toInt (by omega), nI_toInt (by omega)] at z; omega)]
      have tt := hr' (t + 1) (by omega) (by omega)
      have sw : ∀ s, s = st r + nxI (st (r + 1) - st r) t → b_Rgs_twiceAreaOf_41 F (tab R (fun r => nI (st r))) (tab (st R) RX) (tab (st R) RY) (nI r) f (nI (st (r + 1) - 1)) (shoe64 (fun j => RX (st r + j)) (fun j => RY (st r + j)) (st (r + 1) - st r) t) (nI (st r + t)) (nI s) = some (arR st RX RY r) := by
        intro s hs
        have hx := nxI_lt (N := st (r + 1) - st r) (i := t) (by omega)
        unfold b_Rgs_twiceAreaOf_41
        rw [rg_tab (show st r + t < st R by omega) (by omega), rg_tab (show st r + t < st R by omega) (by omega), rg_tab (show s < st R by omega) (by omega), rg_tab (show s < st R by omega) (by omega), nI_1, hs]
        have e2 : shoe64 (fun j => RX (st r + j)) (fun j => RY (st r + j)) (st (r + 1) - st r) (t + 1) = shoe64 (fun j => RX (st r + j)) (fun j => RY (st r + j)) (st (r + 1) - st r) t + ((RX (st r + t)).toInt64 * (RY (st r + nxI (st (r + 1) - st r) t)).toInt64 - (RY (st r + t)).toInt64 * (RX (st r + nxI (st (r + 1) - st r) t)).toInt64) := rfl
        rw [e2, Int64.mul_comm (RY (st r + t)).toInt64] at tt
        exact tt
      by_cases c2 : st (r + 1) - 1 ≤ st r + t
      · rw [if_pos ((nIle (by omega) (by omega)).mpr c2), rgs_start hr (by omega)]
        simp only [ob1]
        apply sw
        unfold nxI
        rw [if_neg (by omega), Nat.add_zero]
      · rw [if_neg (fun z => c2 ((nIle (by omega) (by omega)).mp z)), nI_1]
        apply sw
        unfold nxI
        rw [if_pos (by omega), Nat.add_assoc]) F 0 (by omega)
  exact key (Nat.zero_le _)
def onR (st : Nat → Nat) (RX RY : Nat → Int32) (s : Nat) (x y : Int32) : Prop := ∃ i, i < st (s + 1) - st s ∧ onSeg (RX (st s + i)) (RY (st s + i)) (RX (st s + nxI (st (s + 1) - st s) i)) (RY (st s + nxI (st (s + 1) - st s) i)) x y
def rayE (st : Nat → Nat) (RX RY : Nat → Int32) (s : Nat) (x y : Int32) (i : Nat) : Prop := ray (2 * x.toInt) (2 * y.toInt) (RX (st s + i)).toInt (RY (st s + i)).toInt (RX (st s + nxI (st (s + 1) - st s) i)).toInt (RY (st s + nxI (st (s + 1) - st s) i)).toInt
def inR (st : Nat → Nat) (RX RY : Nat → Int32) (s : Nat) (x y : Int32) : Prop := cntP (rayE st RX RY s x y) (st (s + 1) - st s) % 2 = 1
theorem cnt_pv {p : Nat → Prop} {N : Nat} (hN : 0 < N) : cntP (fun i => p (pvI N i)) N % 2 = cntP p N % 2 := by
  have e1 := xo_cnt (fun i => p (pvI N i)) N
  have e2 := xo_cnt p N
  have e3 := xo_nx (fun i => mAt (p (pvI N i)) 1) hN
  have e4 : xo (fun e => mAt (p (pvI N (nxI N e))) 1) N = xo (fun e => mAt (p e) 1) N := xo_ext (fun e he => by rw [(nx_pv he).2])
  rw [e4, e1, e2] at e3
  by_cases c : cntP p N % 2 = 1
  · rw [if_pos c] at e3
    by_cases d : cntP (fun i => p (pvI N i)) N % 2 = 1
    · omega
    · rw [if_neg d] at e3; exact absurd e3 (by decide)
  · rw [if_neg c] at e3
    by_cases d : cntP (fun i => p (pvI N i)) N % 2 = 1
    · rw [if_pos d] at e3; exact absurd e3 (by decide)
    · omega
theorem rgs_on {R s F : Nat} {st : Nat → Nat} {RX RY : Nat → Int32} {x y : Int32} (H : RSt R st RX RY) (hs : s < R) (hF : 5000 ≤ F) (hx : inB x) (hy : inB y) : f_Rgs_isOnRing F (tab R (fun r => nI (st r))) (tab (st R) RX) (tab (st R) RY) (nI s) x y = some (dB (onR st RX RY s x y)) := by
  have m0 := RSt_m H (Nat.zero_le R)
  have m1 := RSt_m H (show s + 1 ≤ R by omega)
  have h3 := H.2.2
  have h1 := H.1 s hs
  unfold f_Rgs_isOnRing b_Rgs_isOnRing_0
  rw [rgs_end H hs, rgs_start hs (by omega)]
  simp only [ob1]
  rw [nI_s1 (by omega)]
  have key := lp_inv (fun _ _ => none) (b_Rgs_isOnRing_16 F (tab R (fun r => nI (st r))) (tab (st R) RX) (tab (st R) RY) (nI s) x y) (fun t : Nat => st (s + 1) - st s - t) (fun f t => t ≤ st (s + 1) - st s → (∀ i, i < t → ¬ onSeg (RX (st s + pvI (st (s + 1) - st s) i)) (RY (st s + pvI (st (s + 1) - st s) i)) (RX (st s + i)) (RY (st s + i)) x y) → f (nI (if t = 0 then st (s + 1) - 1 else st s + t - 1)) (nI (st s + t)) = some (dB (onR st RX RY s x y))) (fun t f hr' ht hno => by
    unfold b_Rgs_isOnRing_16
    rw [rgs_end H hs]
    simp only [ob1]
    by_cases c : st (s + 1) - st s ≤ t
    · rw [if_pos ((nIle (by omega) (by omega)).mpr (by omega)), dB_f]
      rintro ⟨i, hi, z⟩
      have hx' := nxI_lt (N := st (s + 1) - st s) hi
      apply hno (nxI (st (s + 1) - st s) i) (by omega)
      rw [(nx_pv hi).2]; exact z
    · rw [if_neg (fun z => by have := (nIle (by omega) (by omega)).mp z; omega)]
      have ep : (if t = 0 then st (s + 1) - 1 else st s + t - 1) = st s + pvI (st (s + 1) - st s) t := by
        unfold pvI
        by_cases d : t = 0
        · rw [if_pos d, if_neg (by omega)]; omega
        · rw [if_neg d, if_pos (by omega)]; omega
      have hp := pvI_lt (N := st (s + 1) - st s) (i := t) (by omega)
      rw [ep, rg_tab (show st s + pvI (st (s + 1) - st s) t < st R by omega) (by omega), rg_tab (show st s + pvI (st (s + 1) - st s) t < st R by omega) (by omega), rg_tab (show st s + t < st R by omega) (by omega), rg_tab (show st s + t < st R by omega) (by omega)]
      have b1 := H.2.1 (st s + pvI (st (s + 1) - st s) t) (by omega)
      have b2 := H.2.1 (st s + t) (by omega)
      rw [pla_isOn b1.1 b1.2 b2.1 b2.2 hx hy]
      simp only [ob1]
      by_cases o : onSeg (RX (st s + pvI (st (s + 1) - st s) t)) (RY (st s + pvI (st (s + 1) - st s) t)) (RX (st s + t)) (RY (st s + t)) x y
      · rw [if_neg (fun z => bI_dB.mp z o), dB_t]
        exact ⟨pvI (st (s + 1) - st s) t, hp, by rw [(nx_pv (show t < st (s + 1) - st s by omega)).1]; exact o⟩
      · rw [if_pos (bI_dB.mpr o), nI_1]
        have := hr' (t + 1) (by omega) (by omega) (fun i hi => by
          by_cases q : i = t
          · rw [q]; exact o
          · exact hno i (by omega))
        rw [if_neg (by omega), show st s + (t + 1) - 1 = st s + t by omega] at this
        exact this) F 0 (by omega)
  have k0 := key (Nat.zero_le _) (fun i hi => absurd hi (Nat.not_lt_zero i))
  rw [if_pos rfl] at k0
  exact k0
theorem rgs_in {R s F : Nat} {st : Nat → Nat} {RX RY : Nat → Int32} {x y : Int32} (H : RSt R st RX RY) (hs : s < R) (hF : 5000 ≤ F) (hx : inB x) (hy : inB y) : f_Rgs_isInRing F (tab R (fun r => nI (st r))) (tab (st R) RX) (tab (st R) RY) (nI s) x y = some (dB (inR st RX RY s x y)) := by
  have m0 := RSt_m H (Nat.zero_le R)
  have m1 := RSt_m H (show s + 1 ≤ R by omega)
  have h3 := H.2.2
  have h1 := H.1 s hs
  have tx := L_two hx
  have ty := L_two hy
  have ix : inT ((2 : Int64) * x.toInt64) := by unfold inT; rw [tx]; unfold inB at hx; omega
  have iy : inT ((2 : Int64) * y.toInt64) := by unfold inT; rw [ty]; unfold inB at hy; omega
  unfold f_Rgs_isInRing b_Rgs_isInRing_0
  rw [rgs_end H hs, rgs_start hs (by omega)]
  simp only [ob1]
  rw [nI_s1 (by omega)]
  have key := lp_inv (fun _ _ _ => none) (b_Rgs_isInRing_19 F (tab R (fun r => nI (st r))) (tab (st R) RX) (tab (st R) RY) (nI s) x y) (fun t : Nat => st (s + 1) - st s - t) (fun f t => t ≤ st (s + 1) - st s → f (if cntP (fun i => rayE st RX RY s x y (pvI (st (s + 1) - st s) i)) t % 2 = 1 then 1 else 0) (nI (if t = 0 then st (s + 1) - 1 else st s + t - 1)) (nI (st s + t)) = some (dB (inR st RX RY s x y))) (fun t f hr' ht => by
    unfold b_Rgs_isInRing_19
    rw [rgs_end H hs]
    simp only [ob1]
    by_cases c : st (s + 1) - st s ≤ t
    · have e : t = st (s + 1) - st s := by omega
      rw [if_pos ((nIle (by omega) (by omega)).mpr (by omega)), e, cnt_pv (by omega)]
      unfold inR
      by_cases q : cntP (rayE st RX RY s x y) (st (s + 1) - st s) % 2 = 1
      · rw [if_pos q, if_neg (by decide), if_pos rfl, dB_t q]
      · rw [if_neg q, if_pos rfl, dB_f q]
    · rw [if_neg (fun z => by have := (nIle (by omega) (by omega)).mp z; omega)]
      have ep : (if t = 0 then st (s + 1) - 1 else st s + t - 1) = st s + pvI (st (s + 1) - st s) t := by
        unfold pvI
        by_cases d : t = 0
        · rw [if_pos d, if_neg (by omega)]; omega
        · rw [if_neg d, if_pos (by omega)]; omega
      have hp := pvI_lt (N := st (s + 1) - st s) (i := t) (by omega)
      rw [ep, rg_tab (show st s + pvI (st (s + 1) - st s) t < st R by omega) (by omega), rg_tab (show st s + pvI (st (s + 1) - st s) t < st R by omega) (by omega), rg_tab (show st s + t < st R by omega) (by omega), rg_tab (show st s + t < st R by omega) (by omega)]
      have b1 := H.2.1 (st s + pvI (st (s + 1) - st s) t) (by omega)
      have b2 := H.2.1 (st s + t) (by omega)
      rw [pla_ray ix iy b1.1 b1.2 b2.1 b2.2, tx, ty]
      simp only [ob1]
      unfold b_Rgs_isInRing_93 b_Rgs_isInRing_95
      rw [nI_1]
      have nxt := hr' (t + 1) (by omega) (by omega)
      rw [if_neg (show ¬ t + 1 = 0 by omega), show st s + (t + 1) - 1 = st s + t by omega] at nxt
      have er : rayE st RX RY s x y (pvI (st (s + 1) - st s) t) ↔ ray (2 * x.toInt) (2 * y.toInt) (RX (st s + pvI (st (s + 1) - st s) t)).toInt (RY (st s + pvI (st (s + 1) - st s) t)).toInt (RX (st s + t)).toInt (RY (st s + t)).toInt := by
        unfold rayE; rw [(nx_pv (show t < st (s + 1) - st s by omega)).1]
      by_cases o : ray (2 * x.toInt) (2 * y.toInt) (RX (st s + pvI (st (s + 1) - st s) t)).toInt (RY (st s + pvI (st (s + 1) - st s) t)).toInt (RX (st s + t)).toInt (RY (st s + t)).toInt
      · rw [if_neg (fun z => bI_dB.mp z o)]
        rw [cnt_s (p := fun i => rayE st RX RY s x y (pvI (st (s + 1) - st s) i)) (er.mpr o)] at nxt
        by_cases q : cntP (fun i => rayE st RX RY s x y (pvI (st (s + 1) - st s) i)) t % 2 = 1
        · rw [if_pos q, if_neg (show ¬ (1 : Int32) = 0 by decide)]
          rw [if_neg (by omega)] at nxt
          exact nxt
        · rw [if_neg q, if_pos rfl]
          rw [if_pos (by omega)] at nxt
          exact nxt
      · rw [if_pos (bI_dB.mpr o)]
        rw [cnt_z (p := fun i => rayE st RX RY s x y (pvI (st (s + 1) - st s) i)) (fun z => o (er.mp z))] at nxt
        exact nxt) F 0 (by omega)
  have k0 := key (Nat.zero_le _)
  rw [if_pos rfl] at k0
  exact k0
/-- a ring lies in the ring s, tried from corner j on -/
noncomputable def lieF (st : Nat → Nat) (RX RY : Nat → Int32) (s : Nat) : Nat → Nat → Bool
  | 0, _ => false
  | d + 1, j => if dB (onR st RX RY s (RX j) (RY j)) = true then lieF st RX RY s d (j + 1) else dB (inR st RX RY s (RX j) (RY j))
theorem rgs_lies {R r s F : Nat} {st : Nat → Nat} {RX RY : Nat → Int32} (H : RSt R st RX RY) (hr : r < R) (hs : s < R) (hF : 5000 ≤ F) : f_Rgs_liesIn F (tab R (fun r => nI (st r))) (tab (st R) RX) (tab (st R) RY) (nI r) (nI s) = some (lieF st RX RY s (st (r + 1) - st r) (st r)) := by
  have m0 := RSt_m H (Nat.zero_le R)
  have m1 := RSt_m H (show r + 1 ≤ R by omega)
  have h3 := H.2.2
  have h1 := H.1 r hr
  unfold f_Rgs_liesIn b_Rgs_liesIn_0
  rw [rgs_start hr (by omega)]
  simp only [ob1]
  have key := lp_inv (fun _ => none) (b_Rgs_liesIn_6 F (tab R (fun r => nI (st r))) (tab (st R) RX) (tab (st R) RY) (nI r) (nI s)) (fun d : Nat => d) (fun f d => d ≤ st (r + 1) - st r → f (nI (st (r + 1) - d)) = some (lieF st RX RY s d (st (r + 1) - d))) (fun d f hr' hd => by
    unfold b_Rgs_liesIn_6
    rw [rgs_end H hr]
    simp only [ob1]
    match d, hr', hd with
    | 0, _, _ => rw [if_pos ((nIle (by omega) (by omega)).mpr (by omega))]; rfl
    | d + 1, hr', hd =>
      rw [if_neg (fun z => by have := (nIle (by omega) (by omega)).mp z; omega), rg_tab (show st (r + 1) - (d + 1) < st R by omega) (by omega), rg_tab (show st (r + 1) - (d + 1) < st R by omega) (by omega)]
      have b1 := H.2.1 (st (r + 1) - (d + 1)) (by omega)
      rw [rgs_on H hs hF b1.1 b1.2, rgs_in H hs hF b1.1 b1.2]
      simp only [ob1]
      unfold lieF
      by_cases o : onR st RX RY s (RX (st (r + 1) - (d + 1))) (RY (st (r + 1) - (d + 1)))
      · rw [if_neg (fun z => bI_dB.mp z o), if_pos (dB_t o), nI_1]
        have := hr' d (by omega) (by omega)
        rw [show st (r + 1) - (d + 1) + 1 = st (r + 1) - d by omega]
        exact this
      · rw [if_pos (bI_dB.mpr o), if_neg (fun z => o (dB_i.mp z))]) F (st (r + 1) - st r) (by omega)
  have k0 := key (Nat.le_refl _)
  rw [show st (r + 1) - (st (r + 1) - st r) = st r by omega] at k0
  exact k0
