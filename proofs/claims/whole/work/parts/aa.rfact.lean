/-! half B: what is known of a ring: its corners, its area, its first way -/
def sdD (x y u v : Int) : Prop := (Uh x y ↔ Uh u v) ∧ cr2 x y u v = 0 ∧ ¬ (x = 0 ∧ y = 0)
theorem sd_add {a b c d u v : Int} (h1 : sdD a b u v) (h2 : sdD c d u v) : sdD (a + c) (b + d) u v := by
  obtain ⟨p1, p2, p3⟩ := h1
  obtain ⟨q1, q2, q3⟩ := h2
  refine ⟨?_, ?_, ?_⟩
  · unfold Uh at *; omega
  · unfold cr2 at *; grind
  · unfold Uh at *; omega
theorem sd_tr {a b c d u v : Int} (h : ¬ (c = 0 ∧ d = 0)) (h1 : sdD a b c d) (h2 : sdD c d u v) : sdD a b u v := ⟨h1.1.trans h2.1, par_tr h h1.2.1 h2.2.1, h1.2.2⟩
theorem sd_rf {a b : Int} (h : ¬ (a = 0 ∧ b = 0)) : sdD a b a b := ⟨Iff.rfl, by unfold cr2; grind, h⟩
theorem lst_min {x y : Nat → Int32} : ∀ k i, i < k → ¬ lessP (x i) (y i) (x (lstI x y k)) (y (lstI x y k)) := by
  intro k
  induction k with
  | zero => intro i hi; omega
  | succ k ih =>
    intro i hi
    unfold lstI
    by_cases c : lessP (x k) (y k) (x (lstI x y k)) (y (lstI x y k))
    · rw [if_pos (dB_t c)]
      by_cases d : i = k
      · rw [d]; unfold lessP; omega
      · have := ih i (by omega)
        unfold lessP at *; omega
    · rw [if_neg (fun z => c (dB_i.mp z))]
      by_cases d : i = k
      · rw [d]; exact c
      · exact ih i (by omega)
theorem lex_dir {a b c d : Int} (h1 : 0 < a ∨ (a = 0 ∧ 0 < b)) (h2 : 0 < c ∨ (c = 0 ∧ 0 < d)) (h : cr2 a b c d = 0) : Uh a b ↔ Uh c d := by
  have key : ∀ a b c d : Int, (0 < a ∨ (a = 0 ∧ 0 < b)) → (0 < c ∨ (c = 0 ∧ 0 < d)) → cr2 a b c d = 0 → 0 < b → 0 < d := by
    intro a b c d h1 h2 h hb
    apply Classical.byContradiction
    intro z
    have p1 := Int.mul_nonpos_of_nonneg_of_nonpos (show 0 ≤ a by omega) (show d ≤ 0 by omega)
    have p2 := Int.mul_pos hb (show 0 < c by omega)
    unfold cr2 at h
    omega
  have k1 := key a b c d h1 h2 h
  have k2 := key c d a b h2 h1 (by rw [cr2_sw]; omega)
  unfold Uh
  omega
/-- the points of the round from l -/
def rdI (N l t : Nat) : Nat := if t < N then idI N l t else l
theorem rd_nx {N l t : Nat} (hl : l < N) (ht : t < N) : rdI N l (t + 1) = nxI N (rdI N l t) := by
  have e : rdI N l t = idI N l t := if_pos ht
  rw [e, idI_nx hl ht]
  rfl
theorem rd_lt {N l t : Nat} (hl : l < N) : rdI N l t < N := by
  unfold rdI
  by_cases c : t < N
  · rw [if_pos c]; exact idI_lt hl c
  · rw [if_neg c]; exact hl
theorem rd_pv {N l t : Nat} (hl : l < N) (h0 : 0 < t) (ht : t ≤ N) : rdI N l (t - 1) = pvI N (rdI N l t) := by
  have := rd_nx (t := t - 1) hl (by omega)
  rw [show t - 1 + 1 = t by omega] at this
  rw [this, (nx_pv (rd_lt hl)).2]
theorem co_zero {N : Nat} {x y : Nat → Int32} (H : ringP N x y) (hN : 0 < N) : coI N (lstI x y N) x y 0 := by
  have hl := lstI_lt (px := x) (py := y) hN (Nat.le_refl N)
  have hp := pvI_lt hl
  have hx := nxI_lt hl
  have np := (nx_pv hl).1
  obtain ⟨d1, d2, d3⟩ := ring_dif H hp
  rw [np] at d1 d2 d3
  have m1 := lst_min (x := x) (y := y) N _ hp
  have m2 := lst_min (x := x) (y := y) N _ hx
  have i0 : idI N (lstI x y N) 0 = lstI x y N := if_pos (by omega)
  unfold coI
  rw [i0]
  intro z
  have c0 : cr2 ((x (pvI N (lstI x y N))).toInt - (x (lstI x y N)).toInt) ((y (pvI N (lstI x y N))).toInt - (y (lstI x y N)).toInt) ((x (nxI N (lstI x y N))).toInt - (x (lstI x y N)).toInt) ((y (nxI N (lstI x y N))).toInt - (y (lstI x y N)).toInt) = 0 := by
    unfold crs at z; unfold cr2; grind
  apply d3
  refine ⟨lex_dir ?_ ?_ c0, c0⟩
  · unfold lessP at m1; omega
  · unfold lessP at m2; omega
theorem shoe_small {cx cy : Nat → Int} {M : Nat} (h : shoeZ cx cy M ≠ 0) : 3 ≤ M := by
  apply Classical.byContradiction
  intro z
  apply h
  have : M = 0 ∨ M = 1 ∨ M = 2 := by omega
  rcases this with e | e | e
  · rw [e]; rfl
  · rw [e]
    show (0 : Int) + cr2 (cx 0) (cy 0) (cx 0) (cy 0) = 0
    unfold cr2; grind
  · rw [e]
    show (0 : Int) + cr2 (cx 0) (cy 0) (cx 1) (cy 1) + cr2 (cx 1) (cy 1) (cx 0) (cy 0) = 0
    unfold cr2; grind
theorem ring_facts {N Q : Nat} {x y f g : Nat → Int32} (H : ringP N x y) (hN : 0 < N) : 3 ≤ cntP (coI N (lstI x y N) x y) N ∧ (shoe64 (fun j => crnF (coI N (lstI x y N) x y) (fun t => x (idI N (lstI x y N) t)) Q f N (Q + j)) (fun j => crnF (coI N (lstI x y N) x y) (fun t => y (idI N (lstI x y N) t)) Q g N (Q + j)) (cntP (coI N (lstI x y N) x y) N) (cntP (coI N (lstI x y N) x y) N) = shoe64 x y N N ∧ shoe64 x y N N ≠ 0) ∧ (crnF (coI N (lstI x y N) x y) (fun t => x (idI N (lstI x y N) t)) Q f N Q = x (lstI x y N) ∧ crnF (coI N (lstI x y N) x y) (fun t => y (idI N (lstI x y N) t)) Q g N Q = y (lstI x y N)) ∧ sdD ((crnF (coI N (lstI x y N) x y) (fun t => x (idI N (lstI x y N) t)) Q f N (Q + 1)).toInt - (x (lstI x y N)).toInt) ((crnF (coI N (lstI x y N) x y) (fun t => y (idI N (lstI x y N) t)) Q g N (Q + 1)).toInt - (y (lstI x y N)).toInt) ((x (nxI N (lstI x y N))).toInt - (x (lstI x y N)).toInt) ((y (nxI N (lstI x y N))).toInt - (y (lstI x y N)).toInt) ∧ (∀ j, j < cntP (coI N (lstI x y N) x y) N → inB (crnF (coI N (lstI x y N) x y) (fun t => x (idI N (lstI x y N) t)) Q f N (Q + j)) ∧ inB (crnF (coI N (lstI x y N) x y) (fun t => y (idI N (lstI x y N) t)) Q g N (Q + j))) := by
  have hl := lstI_lt (px := x) (py := y) hN (Nat.le_refl N)
  have c0 := co_zero H hN
  generalize lstI x y N = l at hl c0 ⊢
  obtain ⟨H1, H2, H3, H4⟩ := H
  have H : ringP N x y := ⟨H1, H2, H3, H4⟩
  have cX : ∀ t, t < N → coI N l x y t → crnF (coI N l x y) (fun t => x (idI N l t)) Q f N (Q + cntP (coI N l x y) t) = x (rdI N l t) := fun t ht hc => by
    rw [crnF_at N t ht hc]; unfold rdI; rw [if_pos ht]
  have cY : ∀ t, t < N → coI N l x y t → crnF (coI N l x y) (fun t => y (idI N l t)) Q g N (Q + cntP (coI N l x y) t) = y (rdI N l t) := fun t ht hc => by
    rw [crnF_at N t ht hc]; unfold rdI; rw [if_pos ht]
  -- every corner's number belongs to a step
  have inv : ∀ T, T ≤ N → ∀ j, j < cntP (coI N l x y) T → ∃ t, t < T ∧ coI N l x y t ∧ cntP (coI N l x y) t = j := by
    intro T
    induction T with
    | zero => intro _ j hj; exact absurd hj (Nat.not_lt_zero j)
    | succ T ih =>
      intro hT j hj
      by_cases c : coI N l x y T
      · rw [cnt_s c] at hj
        by_cases d : j = cntP (coI N l x y) T
        · exact ⟨T, by omega, c, d.symm⟩
        · obtain ⟨t, h1, h2, h3⟩ := ih (by omega) j (by omega)
          exact ⟨t, by omega, h2, h3⟩
      · rw [cnt_z c] at hj
        obtain ⟨t, h1, h2, h3⟩ := ih (by omega) j hj
        exact ⟨t, by omega, h2, h3⟩
  have iBc : ∀ j, j < cntP (coI N l x y) N → inB (crnF (coI N l x y) (fun t => x (idI N l t)) Q f N (Q + j)) ∧ inB (crnF (coI N l x y) (fun t => y (idI N l t)) Q g N (Q + j)) := by
    intro j hj
    obtain ⟨t, h1, h2, h3⟩ := inv N (Nat.le_refl _) j hj
    rw [← h3, cX t h1 h2, cY t h1 h2]
    exact H1 _ (rd_lt hl)
  have rot : sumZ (fun t => cr2 (x (rdI N l t)).toInt (y (rdI N l t)).toInt (x (rdI N l (t + 1))).toInt (y (rdI N l (t + 1))).toInt) N = shoeZ (fun i => (x i).toInt) (fun i => (y i).toInt) N := by
    have := sumZ_rot (fun i => cr2 (x i).toInt (y i).toInt (x (nxI N i)).toInt (y (nxI N i)).toInt) hl
    unfold shoeZ
    rw [← this]
    apply sumZ_ext
    intro t ht
    rw [rd_nx hl ht]
    unfold rdI; rw [if_pos ht]
  have pne : ∀ t, t < N → ¬ ((x (rdI N l (t + 1))).toInt - (x (rdI N l t)).toInt = 0 ∧ (y (rdI N l (t + 1))).toInt - (y (rdI N l t)).toInt = 0) := by
    intro t ht z
    rw [rd_nx hl ht] at z
    have hr := rd_lt (t := t) hl
    exact H3 _ hr (H2 _ _ (nxI_lt hr) hr (i32eq.mpr (by omega)) (i32eq.mpr (by omega)))
  have pst : ∀ t, 0 < t → t < N → ¬ coI N l x y t → crs (x (rdI N l (t - 1))).toInt (y (rdI N l (t - 1))).toInt (x (rdI N l t)).toInt (y (rdI N l t)).toInt (x (rdI N l (t + 1))).toInt (y (rdI N l (t + 1))).toInt = 0 := by
    intro t h0 ht hc
    rw [rd_nx hl ht, rd_pv hl h0 (by omega)]
    have e : rdI N l t = idI N l t := if_pos ht
    rw [e]
    exact Classical.byContradiction hc
  have ar := area_c (N := N) (Px := fun t => (x (rdI N l t)).toInt) (Py := fun t => (y (rdI N l t)).toInt) (cx := fun j => (crnF (coI N l x y) (fun t => x (idI N l t)) Q f N (Q + j)).toInt) (cy := fun j => (crnF (coI N l x y) (fun t => y (idI N l t)) Q g N (Q + j)).toInt) (co := coI N l x y) hN (by
      show (x (rdI N l N)).toInt = (x (rdI N l 0)).toInt
      have e1 : rdI N l N = l := if_neg (by omega)
      have e2 : rdI N l 0 = l := by unfold rdI; rw [if_pos hN]; exact if_pos (by omega)
      rw [e1, e2]) (by
      show (y (rdI N l N)).toInt = (y (rdI N l 0)).toInt
      have e1 : rdI N l N = l := if_neg (by omega)
      have e2 : rdI N l 0 = l := by unfold rdI; rw [if_pos hN]; exact if_pos (by omega)
      rw [e1, e2]) pne c0 pst (fun t ht hc => by
      show (crnF _ _ Q f N (Q + cntP _ t)).toInt = _ ∧ (crnF _ _ Q g N (Q + cntP _ t)).toInt = _
      rw [cX t ht hc, cY t ht hc]; exact ⟨rfl, rfl⟩)
  rw [rot] at ar
  obtain ⟨z1, z2, z3⟩ := g2 H hN
  have M3 : 3 ≤ cntP (coI N l x y) N := shoe_small (by rw [← ar]; exact z1)
  have s1 := shoe_64 (px := x) (py := y) (N := N) H1 N (Nat.le_refl _)
  have s2 := shoe_64 (px := fun j => crnF (coI N l x y) (fun t => x (idI N l t)) Q f N (Q + j)) (py := fun j => crnF (coI N l x y) (fun t => y (idI N l t)) Q g N (Q + j)) (N := cntP (coI N l x y) N) iBc _ (Nat.le_refl _)
  have z00 : cntP (coI N l x y) 0 = 0 := rfl
  have f0 := cX 0 hN c0
  have g0 := cY 0 hN c0
  have r0 : rdI N l 0 = l := by unfold rdI; rw [if_pos hN]; exact if_pos (by omega)
  rw [z00, Nat.add_zero, r0] at f0 g0
  refine ⟨M3, ⟨?_, ?_⟩, ⟨f0, g0⟩, ?_, iBc⟩
  · rw [s1, s2]
    exact congrArg Int64.ofInt ar.symm
  · rw [s1]
    have lo : -9223372036854775808 ≤ shoeZ (fun i => (x i).toInt) (fun i => (y i).toInt) N := by omega
    have hi : shoeZ (fun i => (x i).toInt) (fun i => (y i).toInt) N < 9223372036854775808 := by omega
    exact of64_ne z1 lo hi
  · -- the second corner
    obtain ⟨t1, ht1, ct1, nt1⟩ := inv N (Nat.le_refl _) 1 (by omega)
    have t10 : 0 < t1 := by
      apply Classical.byContradiction
      intro z
      rw [show t1 = 0 by omega] at nt1
      omega
    have cs1 : cntP (coI N l x y) 1 = 1 := cnt_s c0
    have noc : ∀ t, 0 < t → t < t1 → ¬ coI N l x y t := by
      intro t h0 h1 hc
      have mono : ∀ a b, a ≤ b → cntP (coI N l x y) a ≤ cntP (coI N l x y) b := by
        intro a b hab
        induction b with
        | zero => rw [show a = 0 by omega]; exact Nat.le_refl _
        | succ b ih2 =>
          by_cases e : a = b + 1
          · rw [e]; exact Nat.le_refl _
          · have := ih2 (by omega)
            show _ ≤ cntP _ b + _
            omega
      have m1 := mono 1 t h0
      have m2 := mono (t + 1) t1 h1
      rw [cnt_s hc] at m2
      omega
    have dirs : ∀ t, 0 < t → t ≤ t1 → sdD ((x (rdI N l t)).toInt - (x (rdI N l (t - 1))).toInt) ((y (rdI N l t)).toInt - (y (rdI N l (t - 1))).toInt) ((x (rdI N l 1)).toInt - (x (rdI N l 0)).toInt) ((y (rdI N l 1)).toInt - (y (rdI N l 0)).toInt) ∧ sdD ((x (rdI N l t)).toInt - (x (rdI N l 0)).toInt) ((y (rdI N l t)).toInt - (y (rdI N l 0)).toInt) ((x (rdI N l 1)).toInt - (x (rdI N l 0)).toInt) ((y (rdI N l 1)).toInt - (y (rdI N l 0)).toInt) := by
      intro t
      induction t with
      | zero => intro h; omega
      | succ t ih =>
        intro _ htt
        by_cases t0 : t = 0
        · subst t0
          exact ⟨sd_rf (pne 0 hN), sd_rf (pne 0 hN)⟩
        · obtain ⟨i1, i2⟩ := ih (by omega) (by omega)
          have st := pst t (by omega) (by omega) (noc t (by omega) (by omega))
          have hk := rd_lt (t := t - 1) hl
          obtain ⟨d1, d2, d3⟩ := ring_dif H hk
          have e1 : nxI N (rdI N l (t - 1)) = rdI N l t := by
            have := rd_nx (t := t - 1) hl (by omega)
            rw [show t - 1 + 1 = t by omega] at this
            exact this.symm
          have e2 : nxI N (rdI N l t) = rdI N l (t + 1) := (rd_nx hl (by omega)).symm
          rw [e1] at d1
          rw [e1, e2] at d3
          have cz : cr2 ((x (rdI N l (t - 1))).toInt - (x (rdI N l t)).toInt) ((y (rdI N l (t - 1))).toInt - (y (rdI N l t)).toInt) ((x (rdI N l (t + 1))).toInt - (x (rdI N l t)).toInt) ((y (rdI N l (t + 1))).toInt - (y (rdI N l t)).toInt) = 0 := by
            unfold crs at st; unfold cr2; grind
          have nu : ¬ (Uh ((x (rdI N l (t - 1))).toInt - (x (rdI N l t)).toInt) ((y (rdI N l (t - 1))).toInt - (y (rdI N l t)).toInt) ↔ Uh ((x (rdI N l (t + 1))).toInt - (x (rdI N l t)).toInt) ((y (rdI N l (t + 1))).toInt - (y (rdI N l t)).toInt)) := fun z => d3 ⟨z, cz⟩
          have w : sdD ((x (rdI N l (t + 1))).toInt - (x (rdI N l t)).toInt) ((y (rdI N l (t + 1))).toInt - (y (rdI N l t)).toInt) ((x (rdI N l t)).toInt - (x (rdI N l (t - 1))).toInt) ((y (rdI N l t)).toInt - (y (rdI N l (t - 1))).toInt) := by
            refine ⟨?_, ?_, pne t (by omega)⟩
            · unfold Uh at *; omega
            · unfold cr2 at *; grind
          have w2 := sd_tr (fun z => d1 (by omega)) w i1
          refine ⟨by rw [show t + 1 - 1 = t by omega]; exact w2, ?_⟩
          have w3 := sd_add w2 i2
          have q1 : (x (rdI N l (t + 1))).toInt - (x (rdI N l t)).toInt + ((x (rdI N l t)).toInt - (x (rdI N l 0)).toInt) = (x (rdI N l (t + 1))).toInt - (x (rdI N l 0)).toInt := by omega
          have q2 : (y (rdI N l (t + 1))).toInt - (y (rdI N l t)).toInt + ((y (rdI N l t)).toInt - (y (rdI N l 0)).toInt) = (y (rdI N l (t + 1))).toInt - (y (rdI N l 0)).toInt := by omega
          rw [q1, q2] at w3
          exact w3
    have fx := cX t1 ht1 ct1
    have fy := cY t1 ht1 ct1
    rw [nt1] at fx fy
    have d := (dirs t1 t10 (Nat.le_refl _)).2
    have r1 : rdI N l 1 = nxI N l := by
      have := rd_nx (t := 0) hl hN
      rw [r0] at this
      exact this
    rw [r0, r1] at d
    rw [fx, fy]
    exact d
