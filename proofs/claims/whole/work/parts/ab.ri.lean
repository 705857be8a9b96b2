/-! half B: the rings of class and reference side by side -/
theorem lstI_ext {px py px' py' : Nat → Int32} {N : Nat} (hN : 0 < N) (h : ∀ i, i < N → px i = px' i ∧ py i = py' i) : ∀ k, k ≤ N → lstI px py k = lstI px' py' k := by
  intro k
  induction k with
  | zero => intro _; rfl
  | succ k ih =>
    intro hk
    have e := ih (by omega)
    have hl := lstI_lt (px := px') (py := py') hN (show k ≤ N by omega)
    unfold lstI
    rw [e, (h k (by omega)).1, (h k (by omega)).2, (h _ hl).1, (h _ hl).2]
theorem coI_ext {px py px' py' : Nat → Int32} {N l t : Nat} (h : ∀ i, i < N → px i = px' i ∧ py i = py' i) (hl : l < N) (ht : t < N) : coI N l px py t ↔ coI N l px' py' t := by
  have hi := idI_lt hl ht
  have hp := pvI_lt hi
  have hx := nxI_lt hi
  unfold coI
  rw [(h _ hi).1, (h _ hi).2, (h _ hp).1, (h _ hp).2, (h _ hx).1, (h _ hx).2]
theorem crnF_ext {co co' : Nat → Prop} {v v' : Nat → Int32} {q : Nat} {f : Nat → Int32} : ∀ n, (∀ t, t < n → (co t ↔ co' t)) → (∀ t, t < n → v t = v' t) → crnF co v q f n = crnF co' v' q f n := by
  intro n
  induction n with
  | zero => intro _ _; rfl
  | succ n ih =>
    intro h1 h2
    have e := ih (fun t ht => h1 t (by omega)) (fun t ht => h2 t (by omega))
    have c := cnt_eq (N := n) (fun t ht => h1 t (by omega))
    unfold crnF
    rw [e, c, h2 n (by omega), dB_c (h1 n (by omega))]
theorem shoe64_ext {px py px' py' : Nat → Int32} {N : Nat} (h : ∀ i, i < N → px i = px' i ∧ py i = py' i) : ∀ t, t ≤ N → shoe64 px py N t = shoe64 px' py' N t := by
  intro t
  induction t with
  | zero => intro _; rfl
  | succ t ih =>
    intro ht
    have hx := nxI_lt (N := N) (i := t) (by omega)
    unfold shoe64
    rw [ih (by omega), (h t (by omega)).1, (h t (by omega)).2, (h _ hx).1, (h _ hx).2]
theorem rg_same {X Y VX VY : Nat → Int32} {q : Nat → Nat} {b T : Nat} (hb : b < T) (h : ∀ i, i < T → VX i = X (q i) ∧ VY i = Y (q i)) : rgQ VX VY pI b T = rgQ X Y q b T ∧ (∀ Q f, rgF VX VX VY pI b T Q f = rgF X X Y q b T Q f) ∧ (∀ Q f, rgF VY VX VY pI b T Q f = rgF Y X Y q b T Q f) ∧ shoe64 (pX VX pI b) (pX VY pI b) (T - b) (T - b) = shoe64 (pX X q b) (pX Y q b) (T - b) (T - b) := by
  have hp : ∀ i, i < T - b → pX VX pI b i = pX X q b i ∧ pX VY pI b i = pX Y q b i := fun i hi => h (b + i) (by omega)
  have eL : rgL VX VY pI b T = rgL X Y q b T := lstI_ext (by omega) hp _ (Nat.le_refl _)
  have hL : rgL X Y q b T < T - b := lstI_lt (by omega) (Nat.le_refl _)
  have eC : ∀ t, t < T - b → (rgC VX VY pI b T t ↔ rgC X Y q b T t) := by
    intro t ht
    unfold rgC
    rw [eL]
    exact coI_ext hp hL ht
  refine ⟨cnt_eq eC, fun Q f => ?_, fun Q f => ?_, shoe64_ext hp _ (Nat.le_refl _)⟩
  · unfold rgF
    rw [eL]
    exact crnF_ext _ eC (fun t ht => (hp _ (idI_lt hL ht)).1)
  · unfold rgF
    rw [eL]
    exact crnF_ext _ eC (fun t ht => (hp _ (idI_lt hL ht)).2)
/-- a round of ways is a ring -/
theorem cyc_ring {n P N b : Nat} {ax ay bx b_y mk X Y O W : Nat → Int32} {fr to q κ : Nat → Nat} (I : netI n P ax ay bx b_y mk X Y O fr to) (hN : 0 < N) (hk : ∀ i, i < N → κ (b + i) < n ∧ stW W fr to (κ (b + i)) = q (b + i) ∧ enW W fr to (κ (b + i)) = q (b + nxI N i)) (hq : ∀ i j, i < N → j < N → q (b + i) = q (b + j) → i = j) : ringP N (pX X q b) (pX Y q b) := by
  have iB := inB_P I
  obtain ⟨I1, I2, I3, I4, I5, I6, I7⟩ := I
  have co : ∀ i, i < N → q (b + i) < P ∧ pX X q b i = sPX W ax bx (κ (b + i)) ∧ pX Y q b i = sPX W ay b_y (κ (b + i)) ∧ pX X q b (nxI N i) = ePX W ax bx (κ (b + i)) ∧ pX Y q b (nxI N i) = ePX W ay b_y (κ (b + i)) := by
    intro i hi
    obtain ⟨k1, k2, k3⟩ := hk i hi
    obtain ⟨⟨a1, a2⟩, ⟨a3, a4⟩, a5, a6⟩ := X_st (W := W) I4 k1
    unfold pX
    rw [← k2, ← k3]
    exact ⟨a1, a3, a4, a5, a6⟩
  refine ⟨fun i hi => iB _ (co i hi).1, fun i j hi hj hx hy => hq i j hi hj (I5 _ _ (co i hi).1 (co j hj).1 hx hy), ?_, ?_⟩
  · intro i hi z
    obtain ⟨_, c1, c2, c3, c4⟩ := co i hi
    rw [z, c1] at c3
    rw [z, c2] at c4
    have hl := lessP_ne (I1 _ (hk i hi).1).2
    unfold sPX ePX at c3 c4
    by_cases w : W (κ (b + i)) = 1
    · rw [if_pos w, if_pos w] at c3 c4; exact hl ⟨c3, c4⟩
    · rw [if_neg w, if_neg w] at c3 c4; exact hl ⟨c3.symm, c4.symm⟩
  · intro i j hi hj hij
    have nk : κ (b + i) ≠ κ (b + j) := fun z => hij (hq i j hi hj (by rw [← (hk i hi).2.1, ← (hk j hj).2.1, z]))
    obtain ⟨n1, n2⟩ := I2 _ _ (hk i hi).1 (hk j hj).1 nk
    obtain ⟨_, c1, c2, c3, c4⟩ := co i hi
    obtain ⟨_, d1, d2, d3, d4⟩ := co j hj
    rw [c1, c2, c3, c4, d1, d2, d3, d4]
    unfold sPX ePX
    by_cases w : W (κ (b + i)) = 1
    · rw [if_pos w, if_pos w, if_pos w, if_pos w]
      by_cases v : W (κ (b + j)) = 1
      · rw [if_pos v, if_pos v, if_pos v, if_pos v]; exact ⟨n1, n2⟩
      · rw [if_neg v, if_neg v, if_neg v, if_neg v]; exact ⟨fun z => n1 (clash_sw.mp z), fun z => n2 (sameP_sw z)⟩
    · rw [if_neg w, if_neg w, if_neg w, if_neg w]
      by_cases v : W (κ (b + j)) = 1
      · rw [if_pos v, if_pos v, if_pos v, if_pos v]; exact ⟨fun z => n1 (clash_sx.mp z), fun z => n2 (sameP_sx.mp z)⟩
      · rw [if_neg v, if_neg v, if_neg v, if_neg v]; exact ⟨fun z => n1 (clash_sx.mp (clash_sw.mp z)), fun z => n2 (sameP_sx.mp (sameP_sw z))⟩
/-- what is known of ring r -/
def rfD (n : Nat) (ax ay bx b_y W : Nat → Int32) (st : Nat → Nat) (RX RY : Nat → Int32) (AR : Nat → Int64) (fp : Nat → Nat) (U : Nat → Prop) (r : Nat) : Prop := st r + 3 ≤ st (r + 1) ∧ (AR r = shoe64 (fun j => RX (st r + j)) (fun j => RY (st r + j)) (st (r + 1) - st r) (st (r + 1) - st r) ∧ AR r ≠ 0) ∧ (U (fp r) ∧ fp r < n) ∧ (sPX W ax bx (fp r) = RX (st r) ∧ sPX W ay b_y (fp r) = RY (st r)) ∧ sdD ((RX (st r + 1)).toInt - (RX (st r)).toInt) ((RY (st r + 1)).toInt - (RY (st r)).toInt) ((ePX W ax bx (fp r)).toInt - (RX (st r)).toInt) ((ePX W ay b_y (fp r)).toInt - (RY (st r)).toInt)
def RIs (n : Nat) (ax ay bx b_y W : Nat → Int32) (R : Nat) (st : Nat → Nat) (RX RY FI SZ RXr RYr : Nat → Int32) (AR : Nat → Int64) (fp : Nat → Nat) (U : Nat → Prop) : Prop := st 0 = 0 ∧ (∀ r, r < R → rfD n ax ay bx b_y W st RX RY AR fp U r) ∧ (∀ r s, r < R → s < R → fp r = fp s → r = s) ∧ (∀ j, j < st R → (inB (RX j) ∧ inB (RY j)) ∧ RXr j = RX j ∧ RYr j = RY j) ∧ (∀ r, r < R → FI r = nI (st r) ∧ SZ r = nI (st (r + 1) - st r))
theorem st_mono {n : Nat} {ax ay bx b_y W : Nat → Int32} {st : Nat → Nat} {RX RY : Nat → Int32} {AR : Nat → Int64} {fp : Nat → Nat} {U : Nat → Prop} {R : Nat} (h : ∀ r, r < R → rfD n ax ay bx b_y W st RX RY AR fp U r) : ∀ r, r ≤ R → st r + 3 * (R - r) ≤ st R := by
  intro r
  have : ∀ d r, r + d = R → st r + 3 * d ≤ st R := by
    intro d
    induction d with
    | zero => intro r hr; rw [show r = R by omega]; omega
    | succ d ih =>
      intro r hr
      have h1 := (h r (by omega)).1
      have h2 := ih (r + 1) (by omega)
      omega
  intro hr
  exact this (R - r) r (by omega)
theorem RI_add {n R Q M c : Nat} {ax ay bx b_y W : Nat → Int32} {st : Nat → Nat} {RX RY FI SZ RXr RYr RX' RY' RXr' RYr' : Nat → Int32} {AR : Nat → Int64} {fp : Nat → Nat} {U U' : Nat → Prop} {A : Int64} (H : RIs n ax ay bx b_y W R st RX RY FI SZ RXr RYr AR fp U) (hQ : st R = Q) (hU : ∀ e, U e → U' e) (o1 : ∀ j, j < Q → RX' j = RX j ∧ RY' j = RY j) (o2 : ∀ j, j < Q + M → RXr' j = RX' j ∧ RYr' j = RY' j) (iB : ∀ j, j < M → inB (RX' (Q + j)) ∧ inB (RY' (Q + j))) (M3 : 3 ≤ M) (hA : A = shoe64 (fun j => RX' (Q + j)) (fun j => RY' (Q + j)) M M) (hA0 : A ≠ 0) (uc : U' c) (nc : ¬ U c) (hcn : c < n) (hs : sPX W ax bx c = RX' Q ∧ sPX W ay b_y c = RY' Q) (hd : sdD ((RX' (Q + 1)).toInt - (RX' Q).toInt) ((RY' (Q + 1)).toInt - (RY' Q).toInt) ((ePX W ax bx c).toInt - (RX' Q).toInt) ((ePX W ay b_y c).toInt - (RY' Q).toInt)) : RIs n ax ay bx b_y W (R + 1) (updN st (R + 1) (Q + M)) RX' RY' (upd FI R (nI Q)) (upd SZ R (nI M)) RXr' RYr' (vp_updL AR R A) (updN fp R c) U' := by
  obtain ⟨H0, H1, H2, H3, H4⟩ := H
  have mono := st_mono H1
  have sO : ∀ r, r ≤ R → updN st (R + 1) (Q + M) r = st r := fun r hr => updN_n (by omega)
  have sN : updN st (R + 1) (Q + M) (R + 1) = Q + M := updN_s
  refine ⟨by rw [sO 0 (by omega)]; exact H0, ?_, ?_, ?_, ?_⟩
  · intro r hr
    by_cases e : r = R
    · subst e
      unfold rfD
      rw [sO r (Nat.le_refl _), sN, hQ, show Q + M - Q = M by omega, updN_s]
      have ea : vp_updL AR r A r = A := if_pos rfl
      rw [ea]
      exact ⟨by omega, ⟨hA, hA0⟩, ⟨uc, hcn⟩, hs, hd⟩
    · have hr' : r < R := by omega
      obtain ⟨h1, ⟨h2, h3⟩, ⟨h4, h5⟩, ⟨h6, h7⟩, h8⟩ := H1 r hr'
      have m1 := mono (r + 1) (by omega)
      unfold rfD
      rw [sO r (by omega), sO (r + 1) (by omega), updN_n e]
      have ea : vp_updL AR R A r = AR r := if_neg e
      rw [ea]
      have r0 := o1 (st r) (by omega)
      have r1 := o1 (st r + 1) (by omega)
      refine ⟨h1, ⟨?_, h3⟩, ⟨hU _ h4, h5⟩, ?_, ?_⟩
      · rw [h2]
        exact shoe64_ext (fun i hi => ⟨(o1 _ (by omega)).1.symm, (o1 _ (by omega)).2.symm⟩) _ (Nat.le_refl _)
      · rw [r0.1, r0.2]; exact ⟨h6, h7⟩
      · rw [r0.1, r0.2, r1.1, r1.2]; exact h8
  · have nn : ∀ r, r < R → fp r ≠ c := fun r hr z => nc (by rw [← z]; exact (H1 r hr).2.2.1.1)
    intro r s hr hs' h
    by_cases e1 : r = R
    · by_cases e2 : s = R
      · omega
      · rw [e1, updN_s, updN_n e2] at h
        exact absurd h.symm (nn s (by omega))
    · by_cases e2 : s = R
      · rw [e2, updN_s, updN_n e1] at h
        exact absurd h (nn r (by omega))
      · rw [updN_n e1, updN_n e2] at h
        exact H2 r s (by omega) (by omega) h
  · intro j hj
    rw [sN] at hj
    refine ⟨?_, o2 j hj⟩
    by_cases c1 : j < Q
    · rw [(o1 j c1).1, (o1 j c1).2]; exact (H3 j (by omega)).1
    · have := iB (j - Q) (by omega)
      rw [show Q + (j - Q) = j by omega] at this
      exact this
  · intro r hr
    by_cases e : r = R
    · subst e
      rw [pk_us, pk_us, sO r (Nat.le_refl _), sN, hQ, show Q + M - Q = M by omega]; exact ⟨rfl, rfl⟩
    · rw [pk_un e, pk_un e, sO r (by omega), sO (r + 1) (by omega)]
      exact H4 r (by omega)
