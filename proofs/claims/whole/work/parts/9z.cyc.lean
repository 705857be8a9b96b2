/-! half B: places in a ring, one behind the other -/
def nxI (N i : Nat) : Nat := if i + 1 < N then i + 1 else 0
def pvI (N i : Nat) : Nat := if 0 < i then i - 1 else N - 1
def idI (N l t : Nat) : Nat := if l + t < N then l + t else l + t - N
theorem nI_mod {a N : Nat} (h : a < 2 * N) (hN : N ≤ 100000) : nI a - nI a / nI N * nI N = nI (if a < N then a else a - N) := by
  have ha : (nI a).toInt = (a : Int) := nI_toInt (by omega)
  have hn : (nI N).toInt = (N : Int) := nI_toInt (by omega)
  have hd : (nI a / nI N).toInt = if a < N then 0 else 1 := by
    rw [Int32.toInt_div, ha, hn]
    have e : (a : Int).tdiv N = if a < N then 0 else 1 := by
      rw [Int.tdiv_eq_ediv_of_nonneg (by omega)]
      split
      · exact Int.ediv_eq_zero_of_lt (by omega) (by omega)
      · rename_i c
        have : (a : Int) = (a - N : Int) + 1 * N := by omega
        rw [this, Int.add_mul_ediv_right _ _ (by omega), Int.ediv_eq_zero_of_lt (by omega) (by omega)]
        rfl
    rw [e]
    split <;> rfl
  have hm : (nI a / nI N * nI N).toInt = if a < N then 0 else (N : Int) := by
    rw [Int32.toInt_mul, hd, hn]
    split
    · rw [Int.zero_mul]; rfl
    · rw [Int.one_mul]; exact Int.bmod_eq_of_le (by omega) (by omega)
  rw [i32eq, Int32.toInt_sub, ha, hm]
  split
  · rw [nI_toInt (by omega)]; exact Int.bmod_eq_of_le (by omega) (by omega)
  · rw [nI_toInt (by omega)]
    rw [Int.bmod_eq_of_le (by omega) (by omega)]
    omega
theorem nI_s1 {a : Nat} (h : 0 < a) : nI a - 1 = nI (a - 1) := by
  have := nI_pred (a - 1)
  rw [show a - 1 + 1 = a by omega] at this
  exact this
theorem nI_sub' {a b : Nat} (h : b ≤ a) (ha : a ≤ 1000000) : nI a - nI b = nI (a - b) := by
  rw [i32eq, Int32.toInt_sub, nI_toInt (by omega), nI_toInt (by omega), nI_toInt (by omega), Int.bmod_eq_of_le (by omega) (by omega)]
  omega
theorem nI_ad (a b : Nat) : nI a + nI b = nI (a + b) := by
  unfold nI
  rw [Int32.ofNat_add]
theorem mod_nx {N i : Nat} (hi : i < N) (hN : N ≤ 100000) : (nI i + 1) - (nI i + 1) / nI N * nI N = nI (nxI N i) := by
  rw [nI_1, nI_mod (by omega) hN]
  unfold nxI
  split
  · rfl
  · rw [show i + 1 - N = 0 by omega]
theorem mod_pv {N i : Nat} (hi : i < N) (hN : N ≤ 100000) : (nI i + nI N - 1) - (nI i + nI N - 1) / nI N * nI N = nI (pvI N i) := by
  rw [nI_ad, nI_s1 (by omega), nI_mod (by omega) hN]
  unfold pvI
  split
  · rw [if_neg (by omega), show i + N - 1 = N - 1 by omega]
  · rw [if_pos (by omega), show i + N - 1 - N = i - 1 by omega]
theorem mod_id {N l t : Nat} (hl : l < N) (ht : t < N) (hN : N ≤ 100000) : (nI l + nI t) - (nI l + nI t) / nI N * nI N = nI (idI N l t) := by
  rw [nI_ad, nI_mod (by omega) hN]
  rfl
theorem nxI_lt {N i : Nat} (hi : i < N) : nxI N i < N := by unfold nxI; split <;> omega
theorem pvI_lt {N i : Nat} (hi : i < N) : pvI N i < N := by unfold pvI; split <;> omega
theorem idI_lt {N l t : Nat} (hl : l < N) (ht : t < N) : idI N l t < N := by unfold idI; split <;> omega
theorem idI_nx {N l t : Nat} (hl : l < N) (ht : t < N) : nxI N (idI N l t) = if t + 1 < N then idI N l (t + 1) else l := by
  unfold nxI idI; split <;> split <;> split <;> (try split) <;> omega
/-- the least place, the first of its like -/
noncomputable def lstI (px py : Nat → Int32) : Nat → Nat
  | 0 => 0
  | k + 1 => if dB (lessP (px k) (py k) (px (lstI px py k)) (py (lstI px py k))) = true then k else lstI px py k
theorem lstI_lt {px py : Nat → Int32} {k N : Nat} (h : 0 < N) (hk : k ≤ N) : lstI px py k < N := by
  induction k with
  | zero => exact h
  | succ k ih =>
    unfold lstI
    split
    · omega
    · exact ih (by omega)
/-- at step t of the round from l there is a corner -/
def coI (N l : Nat) (px py : Nat → Int32) (t : Nat) : Prop := crs (px (pvI N (idI N l t))).toInt (py (pvI N (idI N l t))).toInt (px (idI N l t)).toInt (py (idI N l t)).toInt (px (nxI N (idI N l t))).toInt (py (nxI N (idI N l t))).toInt ≠ 0
/-- corners written behind q -/
noncomputable def crnF (co : Nat → Prop) (v : Nat → Int32) (q : Nat) (f : Nat → Int32) : Nat → (Nat → Int32)
  | 0 => f
  | t + 1 => if dB (co t) = true then upd (crnF co v q f t) (q + cntP co t) (v t) else crnF co v q f t
theorem cnt_s {p : Nat → Prop} {t : Nat} (h : p t) : cntP p (t + 1) = cntP p t + 1 := by
  show cntP p t + _ = _
  rw [if_pos (dB_t h)]
theorem cnt_z {p : Nat → Prop} {t : Nat} (h : ¬ p t) : cntP p (t + 1) = cntP p t := by
  show cntP p t + _ = _
  rw [if_neg (fun z => h (dB_i.mp z))]; rfl
theorem crnF_same {co : Nat → Prop} {v : Nat → Int32} {q : Nat} {f g : Nat → Int32} (h : ∀ i, i < q → f i = g i) : ∀ t i, i < q + cntP co t → crnF co v q f t i = crnF co v q g t i := by
  intro t
  induction t with
  | zero => intro i hi; exact h i hi
  | succ t ih =>
    intro i hi
    unfold crnF
    by_cases c : co t
    · rw [if_pos (dB_t c), if_pos (dB_t c)]
      rw [cnt_s c] at hi
      by_cases d : i = q + cntP co t
      · rw [d, pk_us, pk_us]
      · rw [pk_un d, pk_un d]; exact ih i (by omega)
    · rw [if_neg (fun z => c (dB_i.mp z)), if_neg (fun z => c (dB_i.mp z))]
      rw [cnt_z c] at hi
      exact ih i hi
theorem crnF_old {co : Nat → Prop} {v : Nat → Int32} {q : Nat} {f : Nat → Int32} : ∀ t i, i < q → crnF co v q f t i = f i := by
  intro t
  induction t with
  | zero => intro i _; rfl
  | succ t ih =>
    intro i hi
    unfold crnF
    by_cases c : co t
    · rw [if_pos (dB_t c), pk_un (by omega)]; exact ih i hi
    · rw [if_neg (fun z => c (dB_i.mp z))]; exact ih i hi
/-- the corner of step t -/
theorem crnF_at {co : Nat → Prop} {v : Nat → Int32} {q : Nat} {f : Nat → Int32} : ∀ t s, s < t → co s → crnF co v q f t (q + cntP co s) = v s := by
  intro t
  induction t with
  | zero => intro s hs; omega
  | succ t ih =>
    intro s hs hc
    unfold crnF
    by_cases c : co t
    · rw [if_pos (dB_t c)]
      by_cases d : s = t
      · rw [d, pk_us]
      · have : cntP co s < cntP co t := by
          have h1 : cntP co (s + 1) ≤ cntP co t := by
            have mono : ∀ a b, a ≤ b → cntP co a ≤ cntP co b := by
              intro a b hab
              induction b with
              | zero => have : a = 0 := by omega
                        rw [this]; exact Nat.le_refl _
              | succ b ih2 =>
                by_cases e : a = b + 1
                · rw [e]; exact Nat.le_refl _
                · have := ih2 (by omega)
                  show _ ≤ cntP co b + _
                  omega
            exact mono _ _ (by omega)
          rw [cnt_s hc] at h1; omega
        rw [pk_un (by omega)]; exact ih s (by omega) hc
    · rw [if_neg (fun z => c (dB_i.mp z))]
      exact ih s (by
        by_cases d : s = t
        · rw [d] at hc; exact absurd hc c
        · omega) hc
