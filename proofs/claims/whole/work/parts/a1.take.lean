/-! half B: takeRing of the class -/
noncomputable def rgL (X Y : Nat → Int32) (q : Nat → Nat) (b T : Nat) : Nat := lstI (pX X q b) (pX Y q b) (T - b)
noncomputable def rgC (X Y : Nat → Int32) (q : Nat → Nat) (b T : Nat) : Nat → Prop := coI (T - b) (rgL X Y q b T) (pX X q b) (pX Y q b)
noncomputable def rgQ (X Y : Nat → Int32) (q : Nat → Nat) (b T : Nat) : Nat := cntP (rgC X Y q b T) (T - b)
noncomputable def rgF (V X Y : Nat → Int32) (q : Nat → Nat) (b T Q : Nat) (f : Nat → Int32) : Nat → Int32 := crnF (rgC X Y q b T) (fun t => pX V q b (idI (T - b) (rgL X Y q b T) t)) Q f (T - b)
/-- the places of the ring are no longer on the path -/
noncomputable def clrL (L : Nat → Int32) (q : Nat → Nat) (b t p : Nat) : Int32 := if dB (∃ i, b ≤ i ∧ i < b + t ∧ q i = p) = true then -1 else L p
theorem clrL_0 (L : Nat → Int32) (q : Nat → Nat) (b : Nat) : clrL L q b 0 = L := by
  funext p
  exact if_neg (fun z => by obtain ⟨i, h1, h2, _⟩ := dB_i.mp z; omega)
theorem clrL_s (L : Nat → Int32) (q : Nat → Nat) (b t : Nat) : upd (clrL L q b t) (q (b + t)) (-1) = clrL L q b (t + 1) := by
  funext p
  show (if p = q (b + t) then (-1 : Int32) else clrL L q b t p) = clrL L q b (t + 1) p
  unfold clrL
  by_cases c : p = q (b + t)
  · rw [if_pos c, if_pos (dB_t ⟨b + t, by omega, by omega, c.symm⟩)]
  · rw [if_neg c]
    by_cases d : ∃ i, b ≤ i ∧ i < b + t ∧ q i = p
    · obtain ⟨i, h1, h2, h3⟩ := d
      rw [if_pos (dB_t ⟨i, h1, h2, h3⟩), if_pos (dB_t ⟨i, h1, by omega, h3⟩)]
    · rw [if_neg (fun z => d (dB_i.mp z)), if_neg (fun z => d (by
        obtain ⟨i, h1, h2, h3⟩ := dB_i.mp z
        refine ⟨i, h1, ?_, h3⟩
        by_cases e : i = b + t
        · rw [e] at h3; exact absurd h3.symm c
        · omega))]
theorem rgs_take {P T b Q R F kx ky ks : Nat} {X Y RX RY ST L : Nat → Int32} {q : Nat → Nat} (hP : P ≤ 4096) (hT : T ≤ 2000) (hF : 5000 ≤ F) (hb : b < T) (hq : ∀ i, i < T → q i < P) (iB : ∀ i, i < P → inB (X i) ∧ inB (Y i)) (hQ : Q + (T - b) ≤ 2000) (hR : R < 2000) (cx : capO Q kx 4096) (cy : capO Q ky 4096) (cs : capO R ks 4096) : ∃ c d kx' ky' ks', f_Rgs_takeRing F (tab P X) (tab P Y) (nI b) (tab T (fun i => nI (q i))) (tab Q RX) kx (tab R ST) ks (tab Q RY) ky (tab P L) = some (c, d, tab b (fun i => nI (q i)), tab (Q + rgQ X Y q b T) (rgF X X Y q b T Q RX), kx', tab (R + 1) (upd ST R (nI Q)), ks', tab (Q + rgQ X Y q b T) (rgF Y X Y q b T Q RY), ky', tab P (clrL L q b (T - b))) ∧ (capO (Q + rgQ X Y q b T) kx' 4096 ∧ capO (Q + rgQ X Y q b T) ky' 4096 ∧ capO (R + 1) ks' 4096) ∧ c + (kx + ky + ks) ≤ kx' + ky' + ks' ∧ d + 2 * (kx + ky + ks) = 2 * (kx' + ky' + ks') := by
  unfold f_Rgs_takeRing b_Rgs_takeRing_0
  rw [tab_len]
  have key := lp_inv (fun _ _ _ _ _ _ _ _ _ _ _ => none) (b_Rgs_takeRing_14 F (tab P X) (tab P Y) (nI b)) (fun t : Nat => T - b - t) (fun f t => t ≤ T - b → ∃ c d kx' ky' ks', f (nI T) (nI (b + lstI (pX X q b) (pX Y q b) t)) (nI (b + t)) (tab T (fun i => nI (q i))) (tab Q RX) kx (tab R ST) ks (tab Q RY) ky (tab P (clrL L q b t)) = some (c, d, tab b (fun i => nI (q i)), tab (Q + rgQ X Y q b T) (rgF X X Y q b T Q RX), kx', tab (R + 1) (upd ST R (nI Q)), ks', tab (Q + rgQ X Y q b T) (rgF Y X Y q b T Q RY), ky', tab P (clrL L q b (T - b))) ∧ (capO (Q + rgQ X Y q b T) kx' 4096 ∧ capO (Q + rgQ X Y q b T) ky' 4096 ∧ capO (R + 1) ks' 4096) ∧ c + (kx + ky + ks) ≤ kx' + ky' + ks' ∧ d + 2 * (kx + ky + ks) = 2 * (kx' + ky' + ks')) (fun t f hr => by
    intro ht
    unfold b_Rgs_takeRing_14
    have hl0 := lstI_lt (px := pX X q b) (py := pX Y q b) (k := t) (N := T - b) (by omega) ht
    by_cases hl' : T - b ≤ t
    · have : t = T - b := by omega
      subst this
      rw [if_pos ((nIle (by omega) (by omega)).mpr (by omega))]
      obtain ⟨c1, s1, k1, e1, a1, b1, d1⟩ := ra_cap cs (by omega) (by omega)
      rw [tab_len, e1]
      simp only [ob3]
      obtain ⟨c2, s2, k2, k3, e2, ⟨d2, d3⟩, a2, b2⟩ := rgs_corners (RX := RX) (RY := RY) hP hT hF hb hl0 hq iB hQ cx cy
      rw [e2]
      simp only [ob6]
      rw [rsh_tab (by omega) (by omega), tab_add, tab_len]
      exact ⟨c1 + (c2 + 0), s1 + (s2 + 0), k2, k3, k1, rfl, ⟨d2, d3, d1⟩, by omega, by omega⟩
    · rw [if_neg (fun z => by have := (nIle (by omega) (by omega)).mp z; omega)]
      rw [rg_tab (show b + t < T by omega) (by omega), rg_tab (show b + lstI (pX X q b) (pX Y q b) t < T by omega) (by omega), net_isPlaceLess (by omega) (hq _ (by omega)) (hq _ (by omega))]
      simp only [ob1]
      unfold b_Rgs_takeRing_66
      rw [rs_tab _ (hq _ (show b + t < T by omega)) (by omega), clrL_s, nI_1]
      have h := hr (t + 1) (by omega) (by omega)
      by_cases c : lessP (X (q (b + t))) (Y (q (b + t))) (X (q (b + lstI (pX X q b) (pX Y q b) t))) (Y (q (b + lstI (pX X q b) (pX Y q b) t)))
      · rw [if_neg (fun z => bI_dB.mp z c)]
        have e : lstI (pX X q b) (pX Y q b) (t + 1) = t := if_pos (dB_t c)
        rw [e] at h
        exact h
      · rw [if_pos (bI_dB.mpr c)]
        have e : lstI (pX X q b) (pX Y q b) (t + 1) = lstI (pX X q b) (pX Y q b) t := if_neg (fun z => c (dB_i.mp z))
        rw [e] at h
        exact h) F 0 (by omega)
  have k0 := key (Nat.zero_le _)
  rw [clrL_0] at k0
  exact k0
