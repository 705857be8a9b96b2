/-! half B: plan, ordinate, count, area, clear -/
theorem nI_m1 {a : Nat} (h : a ≤ 1000000) : (nI a - 1).toInt = (a : Int) - 1 := by
  cases a with
  | zero => rw [nI_0]; decide
  | succ b => rw [nI_pred, nI_toInt (by omega)]; omega
theorem t0 : (0 : Int32).toInt = 0 := by decide
theorem t1 : (1 : Int32).toInt = 1 := by decide
theorem t3 : (3 : Int32).toInt = 3 := by decide
def readR (W : Option (Nat × Nat × Nat × Int32)) (M : Option (Int32 × Int32)) : Prop := ∃ (c s ex : Nat) (rv rv2 : Int32), W = some (c, s, ex, rv) ∧ M = some (rv2, exC ex) ∧ ((ex = 0 ∧ rv = rv2) ∨ ex = 4) ∧ c ≤ 1 ∧ s ≤ 6
theorem read_bad : readR (some (1, 6, 4, 0)) (some (0, 1)) := ⟨1, 6, 4, 0, 0, rfl, rfl, Or.inr rfl, by omega, by omega⟩
theorem step_plan {a : Nat} (ha : a ≤ 4096) (f : Nat → Int32) (i th : Int32) : readR (f_Wea_plan (tab a f) i) (f_Mod_plan (nI a) 4096 f i th) := by
  unfold f_Wea_plan b_Wea_plan_0 b_Wea_plan_18 f_Mod_plan b_Mod_plan_0
  rw [mod_within, nI_m1 (by omega), t0, tab_len]
  simp only [ob1, mod_fail, ob2]
  rcases pk_ix i (n := a) (by omega) with h | h | ⟨j, hj, rfl⟩
  · rw [if_pos h]
    rw [i32lt, t0] at h
    rw [if_pos (bI_dB.mpr (by omega))]
    exact read_bad
  · have h' := h
    rw [i32le, nI_toInt (by omega)] at h'
    rw [if_neg (fun z => by rw [i32lt, t0] at z; omega), if_neg (fun z => by rw [i32lt, nI_toInt (by omega)] at z; omega), if_pos (bI_dB.mpr (by omega))]
    exact read_bad
  · have e := nI_toInt (n := j) (by omega)
    rw [if_neg (nI_pos (by omega)), if_pos (nI_lt hj (by omega)), if_neg (fun z => bI_dB.mp z (by omega)), if_neg (ixn (by omega) (by omega)), ixc (n := 4096) (by omega) (by omega), rg_tab hj (by omega)]
    exact ⟨0, 0, 0, _, _, rfl, rfl, Or.inl ⟨rfl, rfl⟩, by omega, by omega⟩
theorem step_ordinate {a : Nat} (ha : a ≤ 4096) (f g : Nat → Int32) (i w th : Int32) : readR (f_Wea_ordinate (tab a f) (tab a g) i w) (f_Mod_ordinate (nI a) 4096 g 4096 f i w th) := by
  unfold f_Wea_ordinate b_Wea_ordinate_0 b_Wea_ordinate_18 b_Wea_ordinate_37 f_Mod_ordinate b_Mod_ordinate_0 b_Mod_ordinate_50
  rw [mod_within, mod_within, nI_m1 (by omega), t0, t1, tab_len]
  simp only [ob1, mod_fail, ob2]
  rcases pk_ix i (n := a) (by omega) with h | h | ⟨j, hj, rfl⟩
  · rw [if_pos h]
    rw [i32lt, t0] at h
    rw [if_pos (bI_dB.mpr (by omega))]
    exact read_bad
  · have h' := h
    rw [i32le, nI_toInt (by omega)] at h'
    rw [if_neg (fun z => by rw [i32lt, t0] at z; omega), if_neg (fun z => by rw [i32lt, nI_toInt (by omega)] at z; omega), if_pos (bI_dB.mpr (by omega))]
    exact read_bad
  · have e := nI_toInt (n := j) (by omega)
    rw [if_neg (nI_pos (by omega)), if_pos (nI_lt hj (by omega)), if_neg (fun z => bI_dB.mp z (by omega))]
    by_cases c1 : w < 0
    · rw [if_pos c1]
      rw [i32lt, t0] at c1
      rw [if_pos (bI_dB.mpr (by omega))]
      exact read_bad
    · rw [if_neg c1]
      rw [i32lt, t0] at c1
      by_cases c2 : w ≤ 1
      · rw [if_pos c2]
        rw [i32le, t1] at c2
        rw [if_neg (fun z => bI_dB.mp z (by omega))]
        rw [if_neg (ixn (by omega) (by omega)), if_neg (ixn (by omega) (by omega)), ixc (n := 4096) (by omega) (by omega), rg_tab hj (by omega), rg_tab hj (by omega)]
        by_cases c3 : w = 0
        · rw [if_pos c3, if_pos c3]
          exact ⟨0, 0, 0, _, _, rfl, rfl, Or.inl ⟨rfl, rfl⟩, by omega, by omega⟩
        · rw [if_neg c3, if_neg c3]
          exact ⟨0, 0, 0, _, _, rfl, rfl, Or.inl ⟨rfl, rfl⟩, by omega, by omega⟩
      · rw [if_neg c2]
        rw [i32le, t1] at c2
        rw [if_pos (bI_dB.mpr (by omega))]
        exact read_bad
theorem step_count (n a b : Nat) (mk f g : Nat → Int32) (po w th : Int32) : ∃ r, f_Wea_count (tab b g) (tab a f) (tab n mk) po w = some r ∧ f_Mod_count (nI n) (nI a) (nI b) po w th = some (r, 0) := by
  have e0 : w = 0 ↔ w.toInt = 0 := by rw [i32eq, t0]
  have e1 : w = 1 ↔ w.toInt = 1 := by rw [i32eq, t1]
  have e2 : w = 2 ↔ w.toInt = 2 := by rw [i32eq, show (2 : Int32).toInt = 2 by decide]
  have e3 : w = 3 ↔ w.toInt = 3 := by rw [i32eq, t3]
  unfold f_Wea_count b_Wea_count_0 f_Mod_count b_Mod_count_0
  rw [mod_within, t0, t3, net_pieces, tab_len, tab_len, tab_len]
  simp only [ob1]
  by_cases c0 : w = 0
  · rw [if_pos c0, if_neg (fun z => bI_dB.mp z (by have := e0.mp c0; omega)), if_pos c0]; exact ⟨_, rfl, rfl⟩
  · rw [if_neg c0]
    by_cases c1 : w = 1
    · rw [if_pos c1, if_neg (fun z => bI_dB.mp z (by have := e1.mp c1; omega)), if_neg c0, if_pos c1]; exact ⟨_, rfl, rfl⟩
    · rw [if_neg c1]
      by_cases c2 : w = 2
      · rw [if_pos c2, if_neg (fun z => bI_dB.mp z (by have := e2.mp c2; omega)), if_neg c0, if_neg c1, if_pos c2]; exact ⟨_, rfl, rfl⟩
      · rw [if_neg c2]
        by_cases c3 : w = 3
        · rw [if_pos c3, if_neg (fun z => bI_dB.mp z (by have := e3.mp c3; omega)), if_neg c0, if_neg c1, if_neg c2]; exact ⟨_, rfl, rfl⟩
        · rw [if_neg c3, if_pos (bI_dB.mpr (by rw [e0] at c0; rw [e1] at c1; rw [e2] at c2; rw [e3] at c3; omega))]; exact ⟨_, rfl, rfl⟩
