/-! half B: one ring is told -/
/-- a ring's corners and the first again, behind b -/
def tlF (V : Nat → Int32) (s M b : Nat) (f : Nat → Int32) (t j : Nat) : Int32 := if b ≤ j ∧ j < b + t then V (s + if j - b < M then j - b else j - b - M) else f j
theorem tl_0 (V : Nat → Int32) (s M b : Nat) (f : Nat → Int32) : tlF V s M b f 0 = f := by
  funext j; exact if_neg (by omega)
theorem tl_s (V : Nat → Int32) (s M b : Nat) (f : Nat → Int32) (t : Nat) : upd (tlF V s M b f t) (b + t) (V (s + if t < M then t else t - M)) = tlF V s M b f (t + 1) := by
  funext j
  show (if j = b + t then V (s + if t < M then t else t - M) else tlF V s M b f t j) = tlF V s M b f (t + 1) j
  unfold tlF
  by_cases c : j = b + t
  · rw [if_pos c, if_pos (show b ≤ j ∧ j < b + (t + 1) by omega), show j - b = t by omega]
  · rw [if_neg c]
    by_cases d : b ≤ j ∧ j < b + t
    · rw [if_pos d, if_pos (show b ≤ j ∧ j < b + (t + 1) by omega)]
    · rw [if_neg d, if_neg (show ¬ (b ≤ j ∧ j < b + (t + 1)) by omega)]
theorem tl_same {V f g : Nat → Int32} {s M b : Nat} {t j : Nat} (h : ∀ i, i < b → f i = g i) (hj : j < b + t) : tlF V s M b f t j = tlF V s M b g t j := by
  unfold tlF
  by_cases c : b ≤ j ∧ j < b + t
  · rw [if_pos c, if_pos c]
  · rw [if_neg c, if_neg c]; exact h j (by omega)
def cap3 (a b ka kx ky : Nat) : Prop := capO a ka 4096 ∧ capO b kx 4096 ∧ capO b ky 4096
theorem mul_ring {R r F a b ka kx ky : Nat} {st : Nat → Nat} {RX RY PL XS YS : Nat → Int32} {tw : Int64} (H : RSt R st RX RY) (hr : r < R) (hF : 5000 ≤ F) (ha : a < 4000) (hb : b + (st (r + 1) - st r + 1) < 4000) (cp : cap3 a b ka kx ky) : ∃ c d ka' kx' ky', f_Mul_tellRing F (tab R (fun r => nI (st r))) (tab (st R) RX) (tab (st R) RY) (nI r) (tab b XS) kx (tab b YS) ky (tab a PL) ka tw = some (c, d, tab (b + (st (r + 1) - st r + 1)) (tlF RX (st r) (st (r + 1) - st r) b XS (st (r + 1) - st r + 1)), kx', tab (b + (st (r + 1) - st r + 1)) (tlF RY (st r) (st (r + 1) - st r) b YS (st (r + 1) - st r + 1)), ky', tab (a + 1) (upd PL a (nI (st (r + 1) - st r + 1))), ka', tw + arR st RX RY r) ∧ cap3 (a + 1) (b + (st (r + 1) - st r + 1)) ka' kx' ky' ∧ c + (ka + kx + ky) ≤ ka' + kx' + ky' ∧ d + 2 * (ka + kx + ky) = 2 * (ka' + kx' + ky') := by
  have m0 := RSt_m H (Nat.zero_le R)
  have m1 := RSt_m H (show r + 1 ≤ R by omega)
  have h3 := H.2.2
  have h1 := H.1 r hr
  obtain ⟨cp1, cp2, cp3⟩ := cp
  unfold f_Mul_tellRing b_Mul_tellRing_0
  rw [rgs_start hr (by omega), rgs_end H hr]
  simp only [ob1]
  have key := lp_inv (fun _ _ _ _ _ _ _ _ _ _ => none) (b_Mul_tellRing_16 F (tab R (fun r => nI (st r))) (tab (st R) RX) (tab (st R) RY) (nI r)) (fun t : Nat => st (r + 1) - st r - t) (fun f t => ∀ kx ky, t ≤ st (r + 1) - st r → capO (b + t) kx 4096 → capO (b + t) ky 4096 → ∃ c d ka' kx' ky', f (nI (st r)) (nI (st (r + 1))) (nI (st r + t)) (tab (b + t) (tlF RX (st r) (st (r + 1) - st r) b XS t)) kx (tab (b + t) (tlF RY (st r) (st (r + 1) - st r) b YS t)) ky (tab a PL) ka tw = some (c, d, tab (b + (st (r + 1) - st r + 1)) (tlF RX (st r) (st (r + 1) - st r) b XS (st (r + 1) - st r + 1)), kx', tab (b + (st (r + 1) - st r + 1)) (tlF RY (st r) (st (r + 1) - st r) b YS (st (r + 1) - st r + 1)), ky', tab (a + 1) (upd PL a (nI (st (r + 1) - st r + 1))), ka', tw + arR st RX RY r) ∧ cap3 (a + 1) (b + (st (r + 1) - st r + 1)) ka' kx' ky' ∧ c + (ka + kx + ky) ≤ ka' + kx' + ky' ∧ d + 2 * (ka + kx + ky) = 2 * (ka' + kx' + ky')) (fun t f hr' kx ky ht cx cy => by
    obtain ⟨c1, s1, k1, e1, a1, b1, d1⟩ := ra_cap cx (show b + t < 4096 by omega) (by omega)
    obtain ⟨c2, s2, k2, e2, a2, b2, d2⟩ := ra_cap cy (show b + t < 4096 by omega) (by omega)
    unfold b_Mul_tellRing_16
    rw [tab_len, tab_len, tab_len, e1, e2]
    simp only [ob3]
    by_cases c : st (r + 1) - st r ≤ t
    · have e : t = st (r + 1) - st r := by omega
      obtain ⟨c3, s3, k3, e3, a3, b3, d3⟩ := ra_cap cp1 (show a < 4096 by omega) (by omega)
      rw [if_pos ((nIle (by omega) (by omega)).mpr (by omega)), e3, rgs_area H hr hF, rg_tab (show st r < st R by omega) (by omega), rg_tab (show st r < st R by omega) (by omega)]
      simp only [ob3, ob1]
      rw [tab_add, tab_add, tab_add, nI_sub' (by omega) (by omega), nI_1]
      have w1 := tl_s RX (st r) (st (r + 1) - st r) b XS t
      have w2 := tl_s RY (st r) (st (r + 1) - st r) b YS t
      rw [if_neg (by omega), show st r + (t - (st (r + 1) - st r)) = st r by omega] at w1 w2
      rw [w1, w2]
      subst e
      exact ⟨c1 + (c2 + (c3 + 0)), s1 + (s2 + (s3 + 0)), k3, k1, k2, rfl, ⟨d3, d1, d2⟩, by omega, by omega⟩
    · rw [if_neg (fun z => by have := (nIle (by omega) (by omega)).mp z; omega), rg_tab (show st r + t < st R by omega) (by omega), rg_tab (show st r + t < st R by omega) (by omega), tab_add, tab_add, nI_1]
      have w1 := tl_s RX (st r) (st (r + 1) - st r) b XS t
      have w2 := tl_s RY (st r) (st (r + 1) - st r) b YS t
      rw [if_pos (by omega)] at w1 w2
      rw [w1, w2]
      obtain ⟨cc, dd, q1, q2, q3, e4, cp', z1, z2⟩ := hr' (t + 1) (by omega) k1 k2 (by omega) d1 d2
      exact ⟨c1 + (c2 + cc), s1 + (s2 + dd), q1, q2, q3, (congrArg (fun z => ac c1 s1 (ac c2 s2 z)) e4).trans rfl, cp', by omega, by omega⟩) F 0 (by omega)
  have k0 := key kx ky (Nat.zero_le _) cp2 cp3
  rw [tl_0, tl_0] at k0
  exact k0
theorem mod_tell {R r F a b : Nat} {st : Nat → Nat} {RX RY FI SZ RXr RYr PL XS YS : Nat → Int32} {A : Nat → Int64} {tw : Int64} (H : RSt R st RX RY) (K : RRf R st RX RY FI SZ RXr RYr) (hr : r < R) (hF : 5000 ≤ F) (ha : a < 4000) (hb : b + (st (r + 1) - st r + 1) < 4000) : f_Mod_tell F 1024 SZ 4096 1024 A 1024 FI 2052 RXr 4096 2052 RYr 4096 (nI r) (nI a) (nI b) tw PL XS YS = some (nI (a + 1), nI (b + (st (r + 1) - st r + 1)), tw + A r, upd PL a (nI (st (r + 1) - st r + 1)), tlF RX (st r) (st (r + 1) - st r) b XS (st (r + 1) - st r + 1), tlF RY (st r) (st (r + 1) - st r) b YS (st (r + 1) - st r + 1)) := by
  have m0 := RSt_m H (Nat.zero_le R)
  have m1 := RSt_m H (show r + 1 ≤ R by omega)
  have h3 := H.2.2
  have h1 := H.1 r hr
  obtain ⟨k1, k2⟩ := K.1 r hr
  have hN0 : ¬ nI (st (r + 1) - st r) = 0 := fun z => by
    have := (nIeq (a := st (r + 1) - st r) (b := 0) (by omega) (by omega)).mp z
    omega
  unfold f_Mod_tell b_Mod_tell_0
  simp only [ixc (show r < 1024 by omega) (by omega), ixf (show r < 1024 by omega) (by omega), ixc (show a < 4096 by omega) (by omega), ixf (show a < 4096 by omega) (by omega), ↓reduceIte, k2, nI_1]
  have key := lp_inv (fun _ _ _ _ _ _ _ => none) (b_Mod_tell_29 F 1024 SZ 4096 1024 A 1024 FI 2052 RXr 4096 2052 RYr 4096 (nI r)) (fun t : Nat => st (r + 1) - st r + 1 - t) (fun f t => t ≤ st (r + 1) - st r + 1 → f (nI t) (nI (a + 1)) (nI (b + t)) tw (upd PL a (nI (st (r + 1) - st r + 1))) (tlF RX (st r) (st (r + 1) - st r) b XS t) (tlF RY (st r) (st (r + 1) - st r) b YS t) = some (nI (a + 1), nI (b + (st (r + 1) - st r + 1)), tw + A r, upd PL a (nI (st (r + 1) - st r + 1)), tlF RX (st r) (st (r + 1) - st r) b XS (st (r + 1) - st r + 1), tlF RY (st r) (st (r + 1) - st r) b YS (st (r + 1) - st r + 1))) (fun t f hr' ht => by
    unfold b_Mod_tell_29
    simp only [ixc (show r < 1024 by omega) (by omega), ixf (show r < 1024 by omega) (by omega), ↓reduceIte, k1, k2]
    by_cases c : st (r + 1) - st r < t
    · have e : t = st (r + 1) - st r + 1 := by omega
      rw [if_pos (by rw [i32lt, nI_toInt (by omega), nI_toInt (by omega)]; omega), e]
    · rw [if_neg (fun z => by rw [i32lt, nI_toInt (by omega), nI_toInt (by omega)] at z; omega), if_neg hN0, nI_mod (show t < 2 * (st (r + 1) - st r) by omega) (by omega), nI_ad]
      have hi : (if t < st (r + 1) - st r then t else t - (st (r + 1) - st r)) < st (r + 1) - st r := by split <;> omega
      simp only [ixc (show st r + (if t < st (r + 1) - st r then t else t - (st (r + 1) - st r)) < 2052 by omega) (by omega), ixf (show st r + (if t < st (r + 1) - st r then t else t - (st (r + 1) - st r)) < 2052 by omega) (by omega), ixc (show b + t < 4096 by omega) (by omega), ixf (show b + t < 4096 by omega) (by omega), ↓reduceIte]
      obtain ⟨a1, a2⟩ := K.2 (st r + (if t < st (r + 1) - st r then t else t - (st (r + 1) - st r))) (by omega)
      rw [if_neg hN0, a1, a2, tl_s, tl_s, nI_1, nI_1]
      exact hr' (t + 1) (by omega) (by omega)) F 0 (by omega)
  have k0 := key (Nat.zero_le _)
  rw [tl_0, tl_0] at k0
  exact k0
