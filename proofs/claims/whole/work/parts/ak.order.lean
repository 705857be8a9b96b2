/-! half B: the order of the rings -/
def befP (st : Nat → Nat) (RX RY : Nat → Int32) (r s : Nat) : Prop := ((RX (st r) = RX (st s) ∧ RY (st r) = RY (st s)) ∧ lessP (RX (st r + 1)) (RY (st r + 1)) (RX (st s + 1)) (RY (st s + 1))) ∨ (¬ (RX (st r) = RX (st s) ∧ RY (st r) = RY (st s)) ∧ lessP (RX (st r)) (RY (st r)) (RX (st s)) (RY (st s)))
theorem bef_ir {st : Nat → Nat} {RX RY : Nat → Int32} {r : Nat} : ¬ befP st RX RY r r := by
  unfold befP lessP
  rintro (⟨_, h⟩ | ⟨h, _⟩)
  · omega
  · exact h ⟨rfl, rfl⟩
theorem bef_tr {st : Nat → Nat} {RX RY : Nat → Int32} {r s t : Nat} (h1 : befP st RX RY r s) (h2 : befP st RX RY s t) : befP st RX RY r t := by
  unfold befP lessP at *
  rw [i32eq, i32eq] at h1 h2 ⊢
  omega
/-- no two rings have the first two corners in common -/
def totR (R : Nat) (st : Nat → Nat) (RX RY : Nat → Int32) : Prop := ∀ r s, r < R → s < R → r ≠ s → befP st RX RY r s ∨ befP st RX RY s r
theorem g3 {n R : Nat} {ax ay bx b_y W : Nat → Int32} {st : Nat → Nat} {RX RY FI SZ RXr RYr : Nat → Int32} {AR : Nat → Int64} {fp : Nat → Nat} {U : Nat → Prop} (I1 : pcs n ax ay bx b_y) (I2 : apt n ax ay bx b_y) (H : RIs n ax ay bx b_y W R st RX RY FI SZ RXr RYr AR fp U) : totR R st RX RY := by
  intro r s hr hs hrs
  by_cases c : (RX (st r) = RX (st s) ∧ RY (st r) = RY (st s)) ∧ (RX (st r + 1) = RX (st s + 1) ∧ RY (st r + 1) = RY (st s + 1))
  · exfalso
    obtain ⟨⟨c1, c2⟩, c3, c4⟩ := c
    obtain ⟨_, _, ⟨_, n1⟩, ⟨a1, a2⟩, a3⟩ := H.2.1 r hr
    obtain ⟨_, _, ⟨_, n2⟩, ⟨b1, b2⟩, b3⟩ := H.2.1 s hs
    have nf : fp r ≠ fp s := fun z => hrs (H.2.2.1 r s hr hs z)
    rw [← c1] at b1
    rw [← c2] at b2
    rw [← c1, ← c2, ← c3, ← c4] at b3
    have at1 : atV ax ay bx b_y (RX (st r)) (RY (st r)) (fp r) := by rw [← a1, ← a2]; exact at_start
    have at2 : atV ax ay bx b_y (RX (st r)) (RY (st r)) (fp s) := by rw [← b1, ← b2]; exact at_start
    have d := dir_dif I1 I2 n1 n2 nf at1 at2
    obtain ⟨e1, e2⟩ := far_end (W := W) I1 n1 a1 a2
    obtain ⟨e3, e4⟩ := far_end (W := W) I1 n2 b1 b2
    unfold dX dY at d
    rw [e1, e2, e3, e4] at d
    apply d
    refine ⟨a3.1.symm.trans b3.1, ?_⟩
    refine par_tr a3.2.2 ?_ b3.2.1
    rw [cr2_sw]; have := a3.2.1; omega
  · unfold befP lessP
    rw [i32eq, i32eq, i32eq, i32eq] at c
    rw [i32eq, i32eq, i32eq, i32eq]
    omega
theorem rgs_before {R r s : Nat} {st : Nat → Nat} {RX RY : Nat → Int32} (H : RSt R st RX RY) (hr : r < R) (hs : s < R) : f_Rgs_comesBefore (tab R (fun r => nI (st r))) (tab (st R) RX) (tab (st R) RY) (nI r) (nI s) = some (dB (befP st RX RY r s)) := by
  have m0 := RSt_m H (Nat.zero_le R)
  have m1 := RSt_m H (show r + 1 ≤ R by omega)
  have m2 := RSt_m H (show s + 1 ≤ R by omega)
  have q1 := H.1 r hr
  have q2 := H.1 s hs
  have h3 := H.2.2
  unfold f_Rgs_comesBefore b_Rgs_comesBefore_0 b_Rgs_comesBefore_59
  rw [rgs_start hr (by omega), rgs_start hs (by omega)]
  simp only [ob1]
  rw [nI_1, nI_1, rg_tab (show st r < st R by omega) (by omega), rg_tab (show st s < st R by omega) (by omega), rg_tab (show st r < st R by omega) (by omega), rg_tab (show st s < st R by omega) (by omega), rg_tab (show st r + 1 < st R by omega) (by omega), rg_tab (show st s + 1 < st R by omega) (by omega), rg_tab (show st r + 1 < st R by omega) (by omega), rg_tab (show st s + 1 < st R by omega) (by omega), pla_isLess, pla_isLess]
  simp only [ob1]
  unfold befP
  by_cases c1 : RX (st r) = RX (st s)
  · rw [if_pos c1]
    by_cases c2 : RY (st r) = RY (st s)
    · rw [if_pos c2]
      exact congrArg some (dB_c ⟨fun z => Or.inl ⟨⟨c1, c2⟩, z⟩, fun z => by
        rcases z with z | z
        · exact z.2
        · exact absurd ⟨c1, c2⟩ z.1⟩)
    · rw [if_neg c2]
      exact congrArg some (dB_c ⟨fun z => Or.inr ⟨fun w => c2 w.2, z⟩, fun z => by
        rcases z with z | z
        · exact absurd z.1.2 c2
        · exact z.2⟩)
  · rw [if_neg c1]
    exact congrArg some (dB_c ⟨fun z => Or.inr ⟨fun w => c1 w.1, z⟩, fun z => by
      rcases z with z | z
      · exact absurd z.1.1 c1
      · exact z.2⟩)
theorem mod_less {i j : Nat} {RXr RYr : Nat → Int32} (hi : i < 2052) (hj : j < 2052) : f_Mod_isLess 2052 RXr 2052 RYr (nI i) (nI j) = some (dB (lessP (RXr i) (RYr i) (RXr j) (RYr j))) := by
  unfold f_Mod_isLess b_Mod_isLess_0
  simp only [ixc hi (by omega), ixf hi (by omega), ixc hj (by omega), ixf hj (by omega), ↓reduceIte]
  unfold lessP
  by_cases c1 : RXr i < RXr j
  · rw [if_pos c1, dB_t (Or.inl (i32lt.mp c1))]
  · rw [if_neg c1]
    by_cases c2 : RXr i = RXr j
    · rw [if_pos c2]
      by_cases c3 : RYr j ≤ RYr i
      · rw [if_pos c3, dB_f (fun z => by rw [i32lt] at c1; rw [i32le] at c3; omega)]
      · rw [if_neg c3, dB_t (Or.inr ⟨i32eq.mp c2, by rw [i32le] at c3; omega⟩)]
    · rw [if_neg c2, dB_f (fun z => by rw [i32lt] at c1; rw [i32eq] at c2; omega)]
theorem mod_same {i j : Nat} {RXr RYr : Nat → Int32} (hi : i < 2052) (hj : j < 2052) : f_Mod_same 2052 RXr 2052 RYr (nI i) (nI j) = some (dB (RXr i = RXr j ∧ RYr i = RYr j)) := by
  unfold f_Mod_same b_Mod_same_0
  simp only [ixc hi (by omega), ixf hi (by omega), ixc hj (by omega), ixf hj (by omega), ↓reduceIte]
  by_cases c1 : RXr i = RXr j
  · rw [if_pos c1]
    by_cases c2 : RYr i = RYr j
    · rw [if_pos c2, dB_t ⟨c1, c2⟩]
    · rw [if_neg c2, dB_f (fun z => c2 z.2)]
  · rw [if_neg c1, dB_f (fun z => c1 z.1)]
theorem mod_before {R r s : Nat} {st : Nat → Nat} {RX RY FI SZ RXr RYr : Nat → Int32} (H : RSt R st RX RY) (K : RRf R st RX RY FI SZ RXr RYr) (hr : r < R) (hs : s < R) : f_Mod_isBefore 1024 FI 2052 RXr 2052 RYr (nI r) (nI s) = some (dB (befP st RX RY r s)) := by
  have m0 := RSt_m H (Nat.zero_le R)
  have m1 := RSt_m H (show r + 1 ≤ R by omega)
  have m2 := RSt_m H (show s + 1 ≤ R by omega)
  have q1 := H.1 r hr
  have q2 := H.1 s hs
  have h3 := H.2.2
  unfold f_Mod_isBefore b_Mod_isBefore_0
  simp only [ixc (show r < 1024 by omega) (by omega), ixf (show r < 1024 by omega) (by omega), ixc (show s < 1024 by omega) (by omega), ixf (show s < 1024 by omega) (by omega), ↓reduceIte, (K.1 r hr).1, (K.1 s hs).1, nI_1]
  rw [mod_same (by omega) (by omega), mod_less (by omega) (by omega), mod_less (by omega) (by omega)]
  simp only [ob1]
  rw [(K.2 (st r) (by omega)).1, (K.2 (st r) (by omega)).2, (K.2 (st s) (by omega)).1, (K.2 (st s) (by omega)).2, (K.2 (st r + 1) (by omega)).1, (K.2 (st r + 1) (by omega)).2, (K.2 (st s + 1) (by omega)).1, (K.2 (st s + 1) (by omega)).2]
  unfold befP
  by_cases c : RX (st r) = RX (st s) ∧ RY (st r) = RY (st s)
  · rw [if_neg (fun z => bI_dB.mp z c)]
    exact congrArg some (dB_c ⟨fun z => Or.inl ⟨c, z⟩, fun z => by
      rcases z with z | z
      · exact z.2
      · exact absurd c z.1⟩)
  · rw [if_pos (bI_dB.mpr c)]
    exact congrArg some (dB_c ⟨fun z => Or.inr ⟨c, z⟩, fun z => by
      rcases z with z | z
      · exact absurd z.1 c
      · exact z.2⟩)
/-- the rings before c, in order -/
def ordO (c : Nat) (st : Nat → Nat) (RX RY : Nat → Int32) (so : Nat → Nat) : Prop := (∀ i, i < c → so i < c) ∧ (∀ i j, i < j → j < c → befP st RX RY (so i) (so j)) ∧ (∀ r, r < c → ∃ i, i < c ∧ so i = r) ∧ (∀ p : Nat → Prop, cntP (fun i => p (so i)) c = cntP p c)
def insN (so : Nat → Nat) (c j i : Nat) : Nat := if i < j then so i else if i = j then c else so (i - 1)
theorem cnt_ins {so : Nat → Nat} {j x : Nat} {p : Nat → Prop} : ∀ c, j ≤ c → cntP (fun i => p (insN so x j i)) (c + 1) = cntP (fun i => p (so i)) c + (if dB (p x) = true then 1 else 0) := by
  intro c
  have lo : ∀ c, c ≤ j → cntP (fun i => p (insN so x j i)) c = cntP (fun i => p (so i)) c := by
    intro c hc
    apply cnt_eq
    intro i hi
    have : insN so x j i = so i := if_pos (by omega)
    rw [this]
  induction c with
  | zero =>
    intro hj
    have e : insN so x j 0 = x := by unfold insN; rw [if_neg (by omega), if_pos (by omega)]
    show cntP _ 0 + (if dB (p (insN so x j 0)) = true then 1 else 0) = _
    rw [e]; rfl
  | succ c ih =>
    intro hj
    show cntP (fun i => p (insN so x j i)) (c + 1) + (if dB (p (insN so x j (c + 1))) = true then 1 else 0) = (cntP (fun i => p (so i)) c + (if dB (p (so c)) = true then 1 else 0)) + _
    by_cases q : j = c + 1
    · rw [lo (c + 1) (by omega)]
      have e : insN so x j (c + 1) = x := by unfold insN; rw [if_neg (by omega), if_pos (by omega)]
      rw [e]; rfl
    · rw [ih (by omega)]
      have e : insN so x j (c + 1) = so c := by unfold insN; rw [if_neg (by omega), if_neg (by omega)]; rfl
      rw [e]; omega
theorem ord_ins {R c j : Nat} {st : Nat → Nat} {RX RY : Nat → Int32} {so : Nat → Nat} (T : totR R st RX RY) (hc : c < R) (H : ordO c st RX RY so) (hj : j ≤ c) (h1 : ∀ t, j ≤ t → t < c → befP st RX RY c (so t)) (h2 : j = 0 ∨ ¬ befP st RX RY c (so (j - 1))) : ordO (c + 1) st RX RY (insN so c j) := by
  obtain ⟨a1, a2, a3, a4⟩ := H
  have lo : ∀ i, i < j → insN so c j i = so i := fun i hi => if_pos hi
  have mi : insN so c j j = c := by unfold insN; rw [if_neg (by omega), if_pos rfl]
  have hi' : ∀ i, j < i → insN so c j i = so (i - 1) := fun i hi => by unfold insN; rw [if_neg (by omega), if_neg (by omega)]
  have bel : ∀ t, t < j → befP st RX RY (so t) c := by
    intro t ht
    have nb := h2.resolve_left (by omega)
    have l1 := a1 (j - 1) (by omega)
    have b1 : befP st RX RY (so (j - 1)) c := (T c (so (j - 1)) hc (by omega) (by omega)).resolve_left nb
    by_cases e : t = j - 1
    · rw [e]; exact b1
    · exact bef_tr (a2 t (j - 1) (by omega) (by omega)) b1
  refine ⟨?_, ?_, ?_, ?_⟩
  · intro i hi
    rcases Nat.lt_trichotomy i j with z | z | z
    · rw [lo i z]; have := a1 i (by omega); omega
    · rw [z, mi]; omega
    · rw [hi' i z]; have := a1 (i - 1) (by omega); omega
  · intro i k hik hk
    rcases Nat.lt_trichotomy i j with z | z | z
    · rw [lo i z]
      rcases Nat.lt_trichotomy k j with w | w | w
      · rw [lo k w]; exact a2 i k hik (by omega)
      · rw [w, mi]; exact bel i z
      · rw [hi' k w]; exact a2 i (k - 1) (by omega) (by omega)
    · rw [z, mi, hi' k (by omega)]; exact h1 (k - 1) (by omega) (by omega)
    · rw [hi' i z, hi' k (by omega)]; exact a2 (i - 1) (k - 1) (by omega) (by omega)
  · intro r hr
    by_cases e : r = c
    · exact ⟨j, by omega, by rw [mi, e]⟩
    · obtain ⟨i, hi, q⟩ := a3 r (by omega)
      by_cases z : i < j
      · exact ⟨i, by omega, by rw [lo i z, q]⟩
      · exact ⟨i + 1, by omega, by rw [hi' (i + 1) (by omega)]; exact q⟩
  · intro p
    rw [cnt_ins c hj, a4 p]
    rfl
theorem rgs_put {R c F ko : Nat} {st so : Nat → Nat} {RX RY : Nat → Int32} (H : RSt R st RX RY) (T : totR R st RX RY) (hF : 5000 ≤ F) (hc : c < R) (O : ordO c st RX RY so) (cp : capO c ko 4096) : ∃ so' k' c' d', f_Rgs_putInOrder F (tab R (fun r => nI (st r))) (tab (st R) RX) (tab (st R) RY) (nI c) (tab c (fun i => nI (so i))) ko = some (c', d', tab (c + 1) (fun i => nI (so' i)), k') ∧ ordO (c + 1) st RX RY so' ∧ capO (c + 1) k' 4096 ∧ c' + ko ≤ k' ∧ d' + 2 * ko = 2 * k' := by
  have m0 := RSt_m H (Nat.zero_le R)
  have h3 := H.2.2
  obtain ⟨c1, s1, k1, e1, q1, q2, q3⟩ := ra_cap cp (show c < 4096 by omega) (by omega)
  unfold f_Rgs_putInOrder b_Rgs_putInOrder_0
  rw [tab_len, e1]
  simp only [ob3]
  rw [tab_add, tab_len, nI_pred]
  have key := lp_inv (fun _ _ _ => none) (b_Rgs_putInOrder_18 F (tab R (fun r => nI (st r))) (tab (st R) RX) (tab (st R) RY) (nI c)) (fun i : Nat => i) (fun f i => ∀ g : Nat → Int32, i ≤ c → (∀ t, t < i → g t = nI (so t)) → (∀ t, i < t → t ≤ c → g t = nI (so (t - 1))) → (∀ t, i ≤ t → t < c → befP st RX RY c (so t)) → ∃ so', f (nI i) (tab (c + 1) g) k1 = some (0, 0, tab (c + 1) (fun i => nI (so' i)), k1) ∧ ordO (c + 1) st RX RY so') (fun i f hr g hi hg1 hg2 hb => by
    unfold b_Rgs_putInOrder_18 b_Rgs_putInOrder_64
    have fin : (i = 0 ∨ ¬ befP st RX RY c (so (i - 1))) → ∃ so', some (0, 0, rs (tab (c + 1) g) (nI i) (nI c), k1) = some (0, 0, tab (c + 1) (fun i => nI (so' i)), k1) ∧ ordO (c + 1) st RX RY so' := by
      intro h2
      refine ⟨insN so c i, ?_, ord_ins T hc O hi hb h2⟩
      rw [rs_tab _ (show i < c + 1 by omega) (by omega)]
      have : tab (c + 1) (upd g i (nI c)) = tab (c + 1) (fun t => nI (insN so c i t)) := by
        apply tab_ext
        intro t ht
        unfold insN
        rcases Nat.lt_trichotomy t i with z | z | z
        · rw [pk_un (by omega), if_pos z, hg1 t z]
        · rw [z, pk_us, if_neg (by omega), if_pos rfl]
        · rw [pk_un (by omega), if_neg (by omega), if_neg (by omega), hg2 t z (by omega)]
      rw [this]
    by_cases i0 : i = 0
    · rw [if_pos (by rw [i0]; decide)]
      exact fin (Or.inl i0)
    · rw [if_neg (fun z => by rw [i32le, nI_toInt (by omega)] at z; have e : (0 : Int32).toInt = 0 := rfl
                              omega), nI_s1 (by omega), rg_tab (show i - 1 < c + 1 by omega) (by omega), hg1 (i - 1) (by omega)]
      have l := O.1 (i - 1) (by omega)
      rw [rgs_before H hc (by omega)]
      simp only [ob1]
      by_cases b : befP st RX RY c (so (i - 1))
      · rw [if_neg (fun z => bI_dB.mp z b), rs_tab _ (show i < c + 1 by omega) (by omega)]
        have em : nI i + -1 = nI (i - 1) := by
          rw [← nI_s1 (show 0 < i by omega), Int32.sub_eq_add_neg]
        rw [em]
        refine hr (i - 1) (by omega) (upd g i (nI (so (i - 1)))) (by omega) (fun t ht => by rw [pk_un (by omega)]; exact hg1 t (by omega)) (fun t h1 h2 => ?_) (fun t h1 h2 => ?_)
        · by_cases e : t = i
          · rw [e, pk_us]
          · rw [pk_un e]; exact hg2 t (by omega) h2
        · by_cases e : t = i - 1
          · rw [e]; exact b
          · exact hb t (by omega) h2
      · rw [if_pos (bI_dB.mpr b)]
        exact fin (Or.inr b)) F c (by omega)
  obtain ⟨so', e, O'⟩ := key (upd (fun i => nI (so i)) c (nI c)) (Nat.le_refl _) (fun t ht => by rw [pk_un (by omega)]) (fun t h1 h2 => by omega) (fun t h1 h2 => by omega)
  refine ⟨so', k1, c1 + 0, s1 + 0, ?_, O', q3, by omega, by omega⟩
  rw [e]; rfl
