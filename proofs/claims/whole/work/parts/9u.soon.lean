/-! half B: isSooner of class and reference -/
def in9 (z : Int) : Prop := z.natAbs ≤ 1000000000
theorem L_m9 {a b : Int64} (ha : in9 a.toInt) (hb : in9 b.toInt) : (a * b).toInt = a.toInt * b.toInt ∧ -1000000000000000000 ≤ a.toInt * b.toInt ∧ a.toInt * b.toInt ≤ 1000000000000000000 := by
  unfold in9 at ha hb
  have h := mul_in ha hb
  exact ⟨L_mul (by omega) (by omega), by omega, by omega⟩
theorem mod_cross9 {x y u v : Int64} (hx : in9 x.toInt) (hy : in9 y.toInt) (hu : in9 u.toInt) (hv : in9 v.toInt) : ∃ z, f_Mod_cross x y u v = some z ∧ z.toInt = cr2 x.toInt y.toInt u.toInt v.toInt := by
  unfold f_Mod_cross b_Mod_cross_0
  refine ⟨_, rfl, ?_⟩
  obtain ⟨e1, b1, b2⟩ := L_m9 hx hv
  obtain ⟨e2, b3, b4⟩ := L_m9 hy hu
  rw [L_sub (by rw [e1, e2]; omega) (by rw [e1, e2]; omega), e1, e2]
  rfl
theorem sg_snr (P Q R : Int) : (if sg P = sg Q then dB (R < 0) else dB (¬ sg Q ≤ sg P)) = dB (snr P Q R) := by
  rcases Int.lt_trichotomy P 0 with h | h | h <;> rcases Int.lt_trichotomy Q 0 with g | g | g
  · rw [sg_neg h, sg_neg g, if_pos rfl]; exact dB_c (by unfold snr; omega)
  · rw [sg_neg h, sg_zero g, if_neg (by decide), dB_t (by decide), dB_t]; unfold snr; omega
  · rw [sg_neg h, sg_pos g, if_neg (by decide), dB_t (by decide), dB_t]; unfold snr; omega
  · rw [sg_zero h, sg_neg g, if_neg (by decide), dB_f (by decide), dB_f]; unfold snr; omega
  · rw [sg_zero h, sg_zero g, if_pos rfl]; exact dB_c (by unfold snr; omega)
  · rw [sg_zero h, sg_pos g, if_neg (by decide), dB_t (by decide), dB_t]; unfold snr; omega
  · rw [sg_pos h, sg_neg g, if_neg (by decide), dB_f (by decide), dB_f]; unfold snr; omega
  · rw [sg_pos h, sg_zero g, if_neg (by decide), dB_f (by decide), dB_f]; unfold snr; omega
  · rw [sg_pos h, sg_pos g, if_pos rfl]; exact dB_c (by unfold snr; omega)
theorem mod_isSooner {x y u v s t : Int64} (hx : in9 x.toInt) (hy : in9 y.toInt) (hu : in9 u.toInt) (hv : in9 v.toInt) (hs : in9 s.toInt) (ht : in9 t.toInt) : f_Mod_isSooner x y u v s t = some (dB (snr (cr2 x.toInt y.toInt u.toInt v.toInt) (cr2 x.toInt y.toInt s.toInt t.toInt) (cr2 u.toInt v.toInt s.toInt t.toInt))) := by
  unfold f_Mod_isSooner b_Mod_isSooner_0
  obtain ⟨z1, e1, f1⟩ := mod_cross9 hx hy hu hv
  obtain ⟨z2, e2, f2⟩ := mod_cross9 hx hy hs ht
  obtain ⟨z3, e3, f3⟩ := mod_cross9 hu hv hs ht
  rw [e1, e2, e3]
  simp only [ob1, mod_sign, f1, f2]
  rw [← sg_snr]
  have k := lcg z3 0
  rw [f3, show (0 : Int64).toInt = 0 from rfl] at k
  by_cases c : sg (cr2 x.toInt y.toInt u.toInt v.toInt) = sg (cr2 x.toInt y.toInt s.toInt t.toInt)
  · rw [if_pos c, if_pos c]
    by_cases d : 0 ≤ cr2 u.toInt v.toInt s.toInt t.toInt
    · rw [if_pos (k.mpr d), dB_f (by omega)]
    · rw [if_neg (fun z => d (k.mp z)), dB_t (by omega)]
  · rw [if_neg c, if_neg c]
    by_cases d : sg (cr2 x.toInt y.toInt s.toInt t.toInt) ≤ sg (cr2 x.toInt y.toInt u.toInt v.toInt)
    · rw [if_pos d, dB_f (fun z => z d)]
    · rw [if_neg d, dB_t d]
theorem pla_turn {x y u v : Int32} (hx : in9 x.toInt) (hy : in9 y.toInt) (hu : in9 u.toInt) (hv : in9 v.toInt) : f_Pla_turn x y u v = some (1 + sg (cr2 x.toInt y.toInt u.toInt v.toInt)) := by
  unfold f_Pla_turn b_Pla_turn_0 f_Long_compare b_Long_compare_0
  have t : ∀ z : Int32, in9 z.toInt → in9 z.toInt64.toInt := fun z h => by rw [Int32.toInt_toInt64]; exact h
  obtain ⟨e1, _, _⟩ := L_m9 (t x hx) (t v hv)
  obtain ⟨e2, _, _⟩ := L_m9 (t y hy) (t u hu)
  rw [Int32.toInt_toInt64, Int32.toInt_toInt64] at e1 e2
  have k1 := lcg (x.toInt64 * v.toInt64) (y.toInt64 * u.toInt64)
  have k2 := lce (x.toInt64 * v.toInt64) (y.toInt64 * u.toInt64)
  rw [e1, e2] at k1 k2
  have ec : cr2 x.toInt y.toInt u.toInt v.toInt = x.toInt * v.toInt - y.toInt * u.toInt := rfl
  rw [ec]
  generalize x.toInt * v.toInt = A at k1 k2 ⊢
  generalize y.toInt * u.toInt = B at k1 k2 ⊢
  by_cases c1 : B ≤ A
  · rw [if_pos (k1.mpr c1)]
    by_cases c2 : A = B
    · rw [if_pos (k2.mpr c2), sg_zero (by omega)]; rfl
    · rw [if_neg (fun z => c2 (k2.mp z)), sg_pos (by omega)]; rfl
  · rw [if_neg (fun z => c1 (k1.mp z)), sg_neg (by omega)]; rfl
theorem sg_1 (P Q : Int) : ((1 : Int32) + sg P = 1 + sg Q ↔ sg P = sg Q) ∧ ((1 : Int32) + sg Q ≤ 1 + sg P ↔ sg Q ≤ sg P) := by
  rcases Int.lt_trichotomy P 0 with h | h | h <;> rcases Int.lt_trichotomy Q 0 with g | g | g <;> simp only [sg_neg, sg_zero, sg_pos, h, g] <;> decide
theorem pla_isSooner {x y u v s t : Int32} (hx : in9 x.toInt) (hy : in9 y.toInt) (hu : in9 u.toInt) (hv : in9 v.toInt) (hs : in9 s.toInt) (ht : in9 t.toInt) : f_Pla_isSooner x y u v s t = some (dB (snr (cr2 x.toInt y.toInt u.toInt v.toInt) (cr2 x.toInt y.toInt s.toInt t.toInt) (cr2 u.toInt v.toInt s.toInt t.toInt))) := by
  unfold f_Pla_isSooner b_Pla_isSooner_0
  rw [pla_turn hx hy hu hv, pla_turn hx hy hs ht]
  simp only [ob1]
  rw [← sg_snr]
  have tt : ∀ z : Int32, in9 z.toInt → in9 z.toInt64.toInt := fun z h => by rw [Int32.toInt_toInt64]; exact h
  obtain ⟨e1, _, _⟩ := L_m9 (tt u hu) (tt t ht)
  obtain ⟨e2, _, _⟩ := L_m9 (tt v hv) (tt s hs)
  rw [Int32.toInt_toInt64, Int32.toInt_toInt64] at e1 e2
  have k := lcg (u.toInt64 * t.toInt64) (v.toInt64 * s.toInt64)
  rw [e1, e2] at k
  have ec : cr2 u.toInt v.toInt s.toInt t.toInt = u.toInt * t.toInt - v.toInt * s.toInt := rfl
  obtain ⟨s1, s2⟩ := sg_1 (cr2 x.toInt y.toInt u.toInt v.toInt) (cr2 x.toInt y.toInt s.toInt t.toInt)
  by_cases c : sg (cr2 x.toInt y.toInt u.toInt v.toInt) = sg (cr2 x.toInt y.toInt s.toInt t.toInt)
  · rw [if_pos (s1.mpr c), if_pos c]
    by_cases d : 0 ≤ cr2 u.toInt v.toInt s.toInt t.toInt
    · rw [if_pos (k.mpr (by omega)), dB_f (by omega)]
    · rw [if_neg (fun z => d (by have := k.mp z; omega)), dB_t (by omega)]
  · rw [if_neg (fun z => c (s1.mp z)), if_neg c]
    by_cases d : sg (cr2 x.toInt y.toInt s.toInt t.toInt) ≤ sg (cr2 x.toInt y.toInt u.toInt v.toInt)
    · rw [if_pos (s2.mpr d), dB_f (fun z => z d)]
    · rw [if_neg (fun z => d (s2.mp z)), dB_t d]
theorem I_sub {x y : Int32} (hx : inB x) (hy : inB y) : (x - y).toInt = x.toInt - y.toInt ∧ in9 (x.toInt - y.toInt) := by
  obtain ⟨a, b⟩ := hx
  obtain ⟨c, d⟩ := hy
  refine ⟨?_, by unfold in9; omega⟩
  rw [Int32.toInt_sub]
  exact Int.bmod_eq_of_le (by omega) (by omega)
theorem L_sub9 {x y : Int32} (hx : inB x) (hy : inB y) : (x.toInt64 - y.toInt64).toInt = x.toInt - y.toInt ∧ in9 (x.toInt64 - y.toInt64).toInt := by
  obtain ⟨e, b⟩ := L_dif hx hy
  exact ⟨e, by rw [e]; exact b⟩
