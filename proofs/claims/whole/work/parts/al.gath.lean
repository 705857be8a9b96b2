/-! half B: gather of the class, its second part -/
theorem own_p {A : Nat → Int64} {lie : Nat → Bool} {r : Nat} : ∀ s s', s ≤ 1000 → s' ≤ 1000 → ownN A lie r s = nI s' → (-(A r)).toInt < (A s').toInt := by
  intro s
  induction s with
  | zero => intro s' _ h h1; exact absurd h1.symm (nI_ne1 (by omega))
  | succ s ih =>
    intro s' hs hs' h
    by_cases c : (-(A r)).toInt < (A s).toInt ∧ (ownN A lie r s = -1 ∨ (A s).toInt < (A (ownN A lie r s).toNatClampNeg).toInt) ∧ lie s = true
    · rw [own_s c] at h
      have := (nIeq (by omega) (by omega)).mp h
      rw [← this]; exact c.1
    · rw [own_n c] at h
      exact ih s' (by omega) hs' h
theorem neg64 {a : Int64} (h : a.toInt ≤ 0) : ¬ (-a).toInt < a.toInt := by
  have l := a.le_toInt
  rw [Int64.toInt_neg]
  by_cases c : a.toInt = -9223372036854775808
  · rw [c]; decide
  · have e : (-a.toInt).bmod (2 ^ 64) = -a.toInt := Int.bmod_eq_of_le (by omega) (by omega)
    rw [e]; omega
noncomputable def OWc (A : Nat → Int64) (st : Nat → Nat) (RX RY : Nat → Int32) (R r : Nat) : Int32 := if 0 < (A r).toInt then nI r else ownN A (fun s => lieF st RX RY s (st (r + 1) - st r) (st r)) r R
theorem OWc_self {A : Nat → Int64} {st : Nat → Nat} {RX RY : Nat → Int32} {R r : Nat} (hr : r < R) (hR : R ≤ 1000) : OWc A st RX RY R r = nI r ↔ 0 < (A r).toInt := by
  unfold OWc
  by_cases c : 0 < (A r).toInt
  · rw [if_pos c]; exact ⟨fun _ => c, fun _ => rfl⟩
  · rw [if_neg c]
    exact ⟨fun z => absurd (own_p R r hR (by omega) z) (neg64 (by omega)), fun z => absurd z c⟩
theorem gath2 {n P R F : Nat} {O X Y : Nat → Int32} {lf lt ln : List Int32} {st : Nat → Nat} {RX RY : Nat → Int32} {A : Nat → Int64} {lq ll lg : List Int32} {kp kl kg kx ky ks : Nat} (H : RSt R st RX RY) (T : totR R st RX RY) (hF : 5000 ≤ F) (hA : ∀ s, s < R → arR st RX RY s = A s) : ∀ d c so ko kw Fc, R - c ≤ d → c ≤ R → d < Fc → ordO c st RX RY so → capO c ko 4096 → capO c kw 4096 → ∃ so' ko' kw' C D, lp (fun _ _ _ _ _ _ _ _ _ _ _ _ _ _ _ _ _ _ => none) (b_Rgs_gather_42 F (tab P O) (tab P X) (tab P Y) lf lt ln) Fc (nI c) (tab (st R) RX) kx (tab (st R) RY) ky (tab R (fun r => nI (st r))) ks (tab c (fun i => nI (so i))) ko (tab c (OWc A st RX RY R)) kw lq kp ll kl lg kg (nI (cntP (fun r => 0 < (A r).toInt) c)) = some (C, D, tab (st R) RX, kx, tab (st R) RY, ky, tab R (fun r => nI (st r)), ks, tab R (fun i => nI (so' i)), ko', tab R (OWc A st RX RY R), kw', lq, kp, ll, kl, lg, kg, nI (cntP (fun r => 0 < (A r).toInt) R)) ∧ ordO R st RX RY so' ∧ capO R ko' 4096 ∧ capO R kw' 4096 ∧ C + (ko + kw) ≤ ko' + kw' ∧ D + 2 * (ko + kw) = 2 * (ko' + kw') := by
  have m0 := RSt_m H (Nat.zero_le R)
  have h3 := H.2.2
  have u1 : ∀ (γ : Type) (zz : γ) (bd : γ → γ) (f : Nat), lp zz bd (f + 1) = bd (lp zz bd f) := fun _ _ _ _ => rfl
  intro d
  induction d with
  | zero =>
    intro c so ko kw Fc hd hc hFc O1 c1 c2
    have e : c = R := by omega
    subst e
    obtain ⟨Fc', rfl⟩ : ∃ f, Fc = f + 1 := ⟨Fc - 1, by omega⟩
    refine ⟨so, ko, kw, 0, 0, ?_, O1, c1, c2, by omega, by omega⟩
    rw [u1]
    unfold b_Rgs_gather_42
    rw [tab_len, if_pos ((nIle (by omega) (by omega)).mpr (Nat.le_refl _))]
  | succ d ih =>
    intro c so ko kw Fc hd hc hFc O1 c1 c2
    by_cases e : c = R
    · exact ih c so ko kw Fc (by omega) hc (by omega) O1 c1 c2
    · obtain ⟨Fc', rfl⟩ : ∃ f, Fc = f + 1 := ⟨Fc - 1, by omega⟩
      obtain ⟨so1, k1, c3, d3, e1, O2, q1, q2, q3⟩ := rgs_put H T hF (show c < R by omega) O1 c1
      obtain ⟨c4, d4, k4, e4, q4, q5, q6⟩ := ra_cap c2 (show c < 4096 by omega) (by omega)
      obtain ⟨so', ko', kw', C, D, e5, O3, q7, q8, q9, q10⟩ := ih (c + 1) so1 k1 k4 Fc' (by omega) (by omega) (by omega) O2 q1 q6
      have ow := rgs_owner H (show c < R by omega) hF hA
      refine ⟨so', ko', kw', c3 + (c4 + C), d3 + (d4 + D), ?_, O3, q7, q8, by omega, by omega⟩
      rw [u1]
      generalize lp (fun _ _ _ _ _ _ _ _ _ _ _ _ _ _ _ _ _ _ => none) (b_Rgs_gather_42 F (tab P O) (tab P X) (tab P Y) lf lt ln) Fc' = g at e5 ⊢
      unfold b_Rgs_gather_42 b_Rgs_gather_92
      rw [tab_len, if_neg (fun z => by have := (nIle (by omega) (by omega)).mp z; omega), e1]
      simp only [ob4]
      rw [ow]
      simp only [ob1]
      rw [tab_len, e4]
      simp only [ob3]
      have ta : tab c (OWc A st RX RY R) ++ [if 0 < (A c).toInt then nI c else ownN A (fun s => lieF st RX RY s (st (c + 1) - st c) (st c)) c R] = tab (c + 1) (OWc A st RX RY R) := by
        rw [tab_add]
        apply tab_ext
        intro i hi
        by_cases q : i = c
        · rw [q, pk_us]; rfl
        · rw [pk_un q]
      rw [ta, rg_tab (show c < c + 1 by omega) (by omega), nI_1]
      by_cases p : 0 < (A c).toInt
      · rw [if_pos ((OWc_self (by omega) (by omega)).mpr p)]
        rw [cnt_s (p := fun r => 0 < (A r).toInt) p] at e5
        rw [nI_1 (cntP (fun r => 0 < (A r).toInt) c), e5]; rfl
      · rw [if_neg (fun z => p ((OWc_self (by omega) (by omega)).mp z))]
        rw [cnt_z (p := fun r => 0 < (A r).toInt) p] at e5
        rw [Int32.add_zero, e5]; rfl
/-- prepare of the class -/
theorem rgs_prep {P m F kl kg : Nat} {O wf : Nat → Int32} {lx ly ls lo lw lq ll lg : List Int32} {sh : Int32} (hP : P ≤ 2000) (hm : m ≤ 2000) (hF : 5000 ≤ F) (c1 : capO ll.length kl 4096) (c2 : capO lg.length kg 4096) : ∃ C D kl' kg', f_Rgs_prepare F (tab P O) (tab m wf) lx ly ls lo lw lq ll kl lg kg sh = some (C, D, [], [], [], [], [], [], tab P (fun _ => -1), kl', tab m (fun _ => 0), kg', 0) ∧ capO P kl' 4096 ∧ capO m kg' 4096 ∧ C + (kl + kg) ≤ kl' + kg' ∧ D + 2 * (kl + kg) = 2 * (kl' + kg') := by
  have cst : ∀ (c : Nat) (v : Int32), tab c (fun _ => v) ++ [v] = tab (c + 1) (fun _ => v) := by
    intro c v
    rw [tab_add]
    apply tab_ext
    intro i hi
    by_cases q : i = c
    · rw [q]; exact if_pos rfl
    · exact if_neg q
  have L2 : ∀ c kl kg, c ≤ m → capO P kl 4096 → capO c kg 4096 → ∃ C D kl' kg', lp (fun _ _ _ _ _ _ _ _ _ _ _ _ => none) (b_Rgs_prepare_87 F (tab P O) (tab m wf)) F (nI c) [] [] [] [] [] [] (tab P (fun _ => -1)) kl (tab c (fun _ => 0)) kg 0 = some (C, D, [], [], [], [], [], [], tab P (fun _ => -1), kl', tab m (fun _ => 0), kg', 0) ∧ capO P kl' 4096 ∧ capO m kg' 4096 ∧ C + (kl + kg) ≤ kl' + kg' ∧ D + 2 * (kl + kg) = 2 * (kl' + kg') := by
    intro c kl kg hc k1 k2
    exact lp_inv (fun _ _ _ _ _ _ _ _ _ _ _ _ => none) (b_Rgs_prepare_87 F (tab P O) (tab m wf)) (fun c : Nat => m - c) (fun f c => ∀ kg, c ≤ m → capO c kg 4096 → ∃ C D kl' kg', f (nI c) [] [] [] [] [] [] (tab P (fun _ => -1)) kl (tab c (fun _ => 0)) kg 0 = some (C, D, [], [], [], [], [], [], tab P (fun _ => -1), kl', tab m (fun _ => 0), kg', 0) ∧ capO P kl' 4096 ∧ capO m kg' 4096 ∧ C + (kl + kg) ≤ kl' + kg' ∧ D + 2 * (kl + kg) = 2 * (kl' + kg')) (fun c f hr kg hc k2 => by
      unfold b_Rgs_prepare_87 f_Bnd_ways b_Bnd_ways_0
      rw [tab_len]
      simp only [ob1]
      by_cases hl : m ≤ c
      · have e : c = m := by omega
        subst e
        rw [if_pos ((nIle (by omega) (by omega)).mpr hl)]
        exact ⟨0, 0, kl, kg, rfl, k1, k2, by omega, by omega⟩
      · rw [if_neg (fun z => hl ((nIle (by omega) (by omega)).mp z))]
        obtain ⟨c1, s1, q1, e1, a1, b1, d1⟩ := ra_cap k2 (show c < 4096 by omega) (by omega)
        rw [tab_len, e1]
        simp only [ob3]
        rw [cst, nI_1]
        obtain ⟨C, D, kl', kg', e2, z1, z2, z3, z4⟩ := hr (c + 1) (by omega) q1 (by omega) d1
        refine ⟨c1 + C, s1 + D, kl', kg', ?_, z1, z2, by omega, by omega⟩
        rw [e2]; rfl) F c (by omega) kg hc k2
  unfold f_Rgs_prepare b_Rgs_prepare_0
  have key := lp_inv (fun _ _ _ _ _ _ _ _ _ _ _ _ => none) (b_Rgs_prepare_63 F (tab P O) (tab m wf)) (fun c : Nat => P - c) (fun f c => ∀ kl, c ≤ P → capO c kl 4096 → ∃ C D kl' kg', f (nI c) [] [] [] [] [] [] (tab c (fun _ => -1)) kl [] kg 0 = some (C, D, [], [], [], [], [], [], tab P (fun _ => -1), kl', tab m (fun _ => 0), kg', 0) ∧ capO P kl' 4096 ∧ capO m kg' 4096 ∧ C + (kl + kg) ≤ kl' + kg' ∧ D + 2 * (kl + kg) = 2 * (kl' + kg')) (fun c f hr kl hc k1 => by
    unfold b_Rgs_prepare_63 f_Net_places b_Net_places_0
    rw [tab_len]
    simp only [ob1]
    by_cases hl : P ≤ c
    · have e : c = P := by omega
      subst e
      rw [if_pos ((nIle (by omega) (by omega)).mpr hl)]
      exact L2 0 kl kg (Nat.zero_le _) k1 (capO_0 c2)
    · rw [if_neg (fun z => hl ((nIle (by omega) (by omega)).mp z))]
      obtain ⟨c1, s1, q1, e1, a1, b1, d1⟩ := ra_cap k1 (show c < 4096 by omega) (by omega)
      rw [tab_len, e1]
      simp only [ob3]
      rw [cst, nI_1]
      obtain ⟨C, D, kl', kg', e2, z1, z2, z3, z4⟩ := hr (c + 1) (by omega) q1 (by omega) d1
      refine ⟨c1 + C, s1 + D, kl', kg', ?_, z1, z2, by omega, by omega⟩
      rw [e2]; rfl) F 0 (by omega)
  exact key kl (Nat.zero_le _) (capO_0 c1)
