/-! half B: inside a piece, clash: class and reference -/
def inSeg (a b c d x y : Int32) : Prop := isBt a b c d x y ∧ crs a.toInt b.toInt c.toInt d.toInt x.toInt y.toInt = 0
def cr32 (a b c d x y : Int32) : Int := crs a.toInt b.toInt c.toInt d.toInt x.toInt y.toInt
/-- the piece a b - c d has more than an end in common with p q - r s (and is another one) -/
def clash (a b c d p q r s : Int32) : Prop :=
  inSeg a b c d p q ∨ inSeg a b c d r s ∨ inSeg p q r s a b ∨ inSeg p q r s c d ∨ (sg (cr32 a b c d p q) * sg (cr32 a b c d r s) < 0 ∧ sg (cr32 p q r s a b) * sg (cr32 p q r s c d) < 0)
theorem ixn {k n : Nat} (h : k < n) (hn : n ≤ 1000000) : ¬ (nI k < 0 ∨ n ≤ (nI k).toNatClampNeg) := nI_in h (by omega)
theorem ixc {k n : Nat} (h : k < n) (hn : n ≤ 1000000) : (nI k).toNatClampNeg = k := nI_clamp (by omega)
theorem ixf {k n : Nat} (h : k < n) (hn : n ≤ 1000000) : (nI k < 0 ∨ n ≤ k) = False := by
  have a := ixn h hn
  rw [ixc h hn] at a
  exact eq_false a
theorem mod_isEnd {k : Nat} (hk : k < 2049) (ax bx b_y ay : Nat → Int32) (x y : Int32) : f_Mod_isEnd 2049 ax 2049 bx 2049 b_y 2049 ay (nI k) x y = some (dB ((ax k = x ∧ ay k = y) ∨ (bx k = x ∧ b_y k = y))) := by
  have e := ixc hk (by omega)
  have h := ixn hk (by omega)
  unfold f_Mod_isEnd b_Mod_isEnd_0
  have k20 : b_Mod_isEnd_20 2049 ax 2049 bx 2049 b_y 2049 ay (nI k) x y = some (dB (bx k = x ∧ b_y k = y)) := by
    unfold b_Mod_isEnd_20
    rw [if_neg h, if_neg h, e]
    by_cases g1 : bx k = x
    · rw [if_pos g1]
      by_cases g2 : b_y k = y
      · rw [if_pos g2]; exact sT ⟨g1, g2⟩
      · rw [if_neg g2]; exact sF (fun z => g2 z.2)
    · rw [if_neg g1]; exact sF (fun z => g1 z.1)
  rw [if_neg h, if_neg h, e, k20]
  by_cases g1 : ax k = x
  · rw [if_pos g1]
    by_cases g2 : ay k = y
    · rw [if_pos g2]; exact sT (Or.inl ⟨g1, g2⟩)
    · rw [if_neg g2]; exact congrArg some (dB_c ⟨Or.inr, fun z => z.elim (fun w => absurd w.2 g2) id⟩)
  · rw [if_neg g1]; exact congrArg some (dB_c ⟨Or.inr, fun z => z.elim (fun w => absurd w.1 g1) id⟩)
theorem mod_isIn {k : Nat} (hk : k < 2049) (ax bx b_y ay : Nat → Int32) {x y : Int32} (h0 : inB (ax k)) (h1 : inB (ay k)) (h2 : inB (bx k)) (h3 : inB (b_y k)) (h4 : inB x) (h5 : inB y) : f_Mod_isIn 2049 ax 2049 bx 2049 b_y 2049 ay (nI k) x y = some (dB (inSeg (ax k) (ay k) (bx k) (b_y k) x y)) := by
  have e := ixc hk (by omega)
  have h := ixf hk (by omega)
  unfold f_Mod_isIn b_Mod_isIn_0
  rw [mod_isEnd hk]
  simp only [ob1, h, e, mod_side h0 h1 h2 h3 h4 h5, mod_between, ↓reduceIte]
  unfold inSeg isBt
  by_cases g1 : (ax k = x ∧ ay k = y) ∨ (bx k = x ∧ b_y k = y)
  · rw [if_neg (fun z => bI_dB.mp z g1)]
    exact sF (fun z => g1.elim (fun w => z.1.1 ⟨w.1.symm, w.2.symm⟩) (fun w => z.1.2.1 ⟨w.1.symm, w.2.symm⟩))
  · rw [if_pos (bI_dB.mpr g1)]
    by_cases g2 : crs (ax k).toInt (ay k).toInt (bx k).toInt (b_y k).toInt x.toInt y.toInt = 0
    · rw [if_pos ((sg_0 _).mpr g2)]
      by_cases g3 : bt (ax k) (bx k) x
      · rw [if_neg (fun z => bI_dB.mp z g3)]
        by_cases g4 : bt (ay k) (b_y k) y
        · rw [if_neg (fun z => bI_dB.mp z g4)]
          exact sT ⟨⟨fun z => g1 (Or.inl ⟨z.1.symm, z.2.symm⟩), fun z => g1 (Or.inr ⟨z.1.symm, z.2.symm⟩), g3, g4⟩, g2⟩
        · rw [if_pos (bI_dB.mpr g4)]; exact sF (fun z => g4 z.1.2.2.2)
      · rw [if_pos (bI_dB.mpr g3)]; exact sF (fun z => g3 z.1.2.2.1)
    · rw [if_neg (fun z => g2 ((sg_0 _).mp z))]; exact sF (fun z => g2 z.2)
theorem i32ge0 {x : Int32} : ¬ 0 ≤ x ↔ x < 0 := by rw [i32le, i32lt]; omega
theorem mod_keepsOff {k n : Nat} (hk : k < 2049) (hn : n < 2049) (ax ay bx b_y : Nat → Int32) (h0 : inB (ax k)) (h1 : inB (ay k)) (h2 : inB (bx k)) (h3 : inB (b_y k)) (g0 : inB (ax n)) (g1 : inB (ay n)) (g2 : inB (bx n)) (g3 : inB (b_y n)) : f_Mod_keepsOff 2049 ax 2049 ay 2049 bx 2049 b_y (nI k) (nI n) = some (dB (clash (ax k) (ay k) (bx k) (b_y k) (ax n) (ay n) (bx n) (b_y n))) := by
  have e := ixc hk (by omega)
  have h := ixf hk (by omega)
  have e' := ixc hn (by omega)
  have h' := ixf hn (by omega)
  unfold f_Mod_keepsOff b_Mod_keepsOff_0
  simp only [h, h', e, e', ↓reduceIte, mod_isIn hk ax bx b_y ay h0 h1 h2 h3 g0 g1, mod_isIn hk ax bx b_y ay h0 h1 h2 h3 g2 g3, mod_isIn hn ax bx b_y ay g0 g1 g2 g3 h0 h1, mod_isIn hn ax bx b_y ay g0 g1 g2 g3 h2 h3, mod_side h0 h1 h2 h3 g0 g1, mod_side h0 h1 h2 h3 g2 g3, mod_side g0 g1 g2 g3 h0 h1, mod_side g0 g1 g2 g3 h2 h3, ob1]
  by_cases c1 : inSeg (ax k) (ay k) (bx k) (b_y k) (ax n) (ay n)
  · rw [if_neg (fun z => bI_dB.mp z c1)]; exact sT (Or.inl c1)
  · rw [if_pos (bI_dB.mpr c1)]
    by_cases c2 : inSeg (ax k) (ay k) (bx k) (b_y k) (bx n) (b_y n)
    · rw [if_neg (fun z => bI_dB.mp z c2)]; exact sT (Or.inr (Or.inl c2))
    · rw [if_pos (bI_dB.mpr c2)]
      by_cases c3 : inSeg (ax n) (ay n) (bx n) (b_y n) (ax k) (ay k)
      · rw [if_neg (fun z => bI_dB.mp z c3)]; exact sT (Or.inr (Or.inr (Or.inl c3)))
      · rw [if_pos (bI_dB.mpr c3)]
        by_cases c4 : inSeg (ax n) (ay n) (bx n) (b_y n) (bx k) (b_y k)
        · rw [if_neg (fun z => bI_dB.mp z c4)]; exact sT (Or.inr (Or.inr (Or.inr (Or.inl c4))))
        · rw [if_pos (bI_dB.mpr c4)]
          have fin : ∀ P : Prop, (P ↔ (sg (cr32 (ax k) (ay k) (bx k) (b_y k) (ax n) (ay n)) * sg (cr32 (ax k) (ay k) (bx k) (b_y k) (bx n) (b_y n)) < 0 ∧ sg (cr32 (ax n) (ay n) (bx n) (b_y n) (ax k) (ay k)) * sg (cr32 (ax n) (ay n) (bx n) (b_y n) (bx k) (b_y k)) < 0)) → (clash (ax k) (ay k) (bx k) (b_y k) (ax n) (ay n) (bx n) (b_y n) ↔ P) := fun P hP => ⟨fun z => hP.mpr (by rcases z with z | z | z | z | z; exact absurd z c1; exact absurd z c2; exact absurd z c3; exact absurd z c4; exact z), fun z => Or.inr (Or.inr (Or.inr (Or.inr (hP.mp z))))⟩
          have fin := fin _ Iff.rfl
          unfold cr32 at fin
          by_cases c5 : 0 ≤ sg (crs (ax k).toInt (ay k).toInt (bx k).toInt (b_y k).toInt (ax n).toInt (ay n).toInt) * sg (crs (ax k).toInt (ay k).toInt (bx k).toInt (b_y k).toInt (bx n).toInt (b_y n).toInt)
          · rw [if_pos c5]; exact sF (fun z => absurd (fin.mp z).1 (fun w => i32ge0.mpr w c5))
          · rw [if_neg c5]
            by_cases c6 : 0 ≤ sg (crs (ax n).toInt (ay n).toInt (bx n).toInt (b_y n).toInt (ax k).toInt (ay k).toInt) * sg (crs (ax n).toInt (ay n).toInt (bx n).toInt (b_y n).toInt (bx k).toInt (b_y k).toInt)
            · rw [if_pos c6]; exact sF (fun z => absurd (fin.mp z).2 (fun w => i32ge0.mpr w c6))
            · rw [if_neg c6]; exact sT (fin.mpr ⟨i32ge0.mp c5, i32ge0.mp c6⟩)
theorem net_cl213 (lf lx ly lt : List Int32) (k p q r s x8 x9 s4 : Int32) : b_Net_clashes_213 lf lx ly lt k p q r s x8 x9 s4 = some (dB (s4 = 0 ∧ isBt p q r s x8 x9)) := by
  unfold b_Net_clashes_213
  simp only [pla_between, ob1]
  by_cases c1 : s4 = 0
  · rw [if_pos c1]
    by_cases c2 : isBt p q r s x8 x9
    · rw [if_neg (fun z => bI_dB.mp z c2)]; exact sT ⟨c1, c2⟩
    · rw [if_pos (bI_dB.mpr c2)]; exact sF (fun z => c2 z.2)
  · rw [if_neg c1]; exact sF (fun z => c1 z.1)
theorem net_clU {s : Int32} {B R : Prop} {a : Option Bool} (ha : a = some (dB R)) : (if s = 0 then (if bI (dB B) = 0 then a else some true) else a) = some (dB ((s = 0 ∧ B) ∨ R)) := by
  by_cases c1 : s = 0
  · rw [if_pos c1]
    by_cases c2 : B
    · rw [if_neg (fun z => bI_dB.mp z c2)]; exact sT (Or.inl ⟨c1, c2⟩)
    · rw [if_pos (bI_dB.mpr c2), ha]; exact congrArg some (dB_c ⟨Or.inr, fun z => z.elim (fun w => absurd w.2 c2) id⟩)
  · rw [if_neg c1, ha]; exact congrArg some (dB_c ⟨Or.inr, fun z => z.elim (fun w => absurd w.1 c1) id⟩)
theorem net_cl148 (lf lx ly lt : List Int32) (k p q r s x6 x7 x8 x9 s1 s2 s3 s4 : Int32) : b_Net_clashes_148 lf lx ly lt k p q r s x6 x7 x8 x9 s1 s2 s3 s4 = some (dB ((s1 = 0 ∧ isBt x6 x7 x8 x9 p q) ∨ (s2 = 0 ∧ isBt x6 x7 x8 x9 r s) ∨ (s3 = 0 ∧ isBt p q r s x6 x7) ∨ (s4 = 0 ∧ isBt p q r s x8 x9))) := by
  have e3 : b_Net_clashes_192 lf lx ly lt k p q r s x6 x7 x8 x9 s3 s4 = some (dB ((s3 = 0 ∧ isBt p q r s x6 x7) ∨ (s4 = 0 ∧ isBt p q r s x8 x9))) := by
    unfold b_Net_clashes_192
    simp only [pla_between, ob1]
    exact net_clU (net_cl213 lf lx ly lt k p q r s x8 x9 s4)
  have e2 : b_Net_clashes_169 lf lx ly lt k p q r s x6 x7 x8 x9 s2 s3 s4 = some (dB ((s2 = 0 ∧ isBt x6 x7 x8 x9 r s) ∨ (s3 = 0 ∧ isBt p q r s x6 x7) ∨ (s4 = 0 ∧ isBt p q r s x8 x9))) := by
    unfold b_Net_clashes_169
    simp only [pla_between, ob1]
    exact net_clU e3
  unfold b_Net_clashes_148
  simp only [pla_between, ob1]
  exact net_clU e2
theorem net_clashes {lf lx ly lt : List Int32} {k p q r s : Int32} (h0 : inB (rg lx (rg lf k))) (h1 : inB (rg ly (rg lf k))) (h2 : inB (rg lx (rg lt k))) (h3 : inB (rg ly (rg lt k))) (g0 : inB p) (g1 : inB q) (g2 : inB r) (g3 : inB s) : f_Net_clashes lf lx ly lt k p q r s = some (dB (clash (rg lx (rg lf k)) (rg ly (rg lf k)) (rg lx (rg lt k)) (rg ly (rg lt k)) p q r s)) := by
  unfold f_Net_clashes b_Net_clashes_0
  rw [pla_side h0 h1 h2 h3 g0 g1, pla_side h0 h1 h2 h3 g2 g3, pla_side g0 g1 g2 g3 h0 h1, pla_side g0 g1 g2 g3 h2 h3]
  simp only [ob1, net_cl148, sg_0]
  generalize rg lx (rg lf k) = a at *
  generalize rg ly (rg lf k) = b at *
  generalize rg lx (rg lt k) = c at *
  generalize rg ly (rg lt k) = d at *
  have key : clash a b c d p q r s ↔ ((crs a.toInt b.toInt c.toInt d.toInt p.toInt q.toInt = 0 ∧ isBt a b c d p q) ∨ (crs a.toInt b.toInt c.toInt d.toInt r.toInt s.toInt = 0 ∧ isBt a b c d r s) ∨ (crs p.toInt q.toInt r.toInt s.toInt a.toInt b.toInt = 0 ∧ isBt p q r s a b) ∨ (crs p.toInt q.toInt r.toInt s.toInt c.toInt d.toInt = 0 ∧ isBt p q r s c d)) ∨ (sg (cr32 a b c d p q) * sg (cr32 a b c d r s) < 0 ∧ sg (cr32 p q r s a b) * sg (cr32 p q r s c d) < 0) := by
    unfold clash inSeg
    constructor
    · intro z
      rcases z with z | z | z | z | z
      · exact Or.inl (Or.inl z.symm)
      · exact Or.inl (Or.inr (Or.inl z.symm))
      · exact Or.inl (Or.inr (Or.inr (Or.inl z.symm)))
      · exact Or.inl (Or.inr (Or.inr (Or.inr z.symm)))
      · exact Or.inr z
    · intro z
      rcases z with (z | z | z | z) | z
      · exact Or.inl z.symm
      · exact Or.inr (Or.inl z.symm)
      · exact Or.inr (Or.inr (Or.inl z.symm))
      · exact Or.inr (Or.inr (Or.inr (Or.inl z.symm)))
      · exact Or.inr (Or.inr (Or.inr (Or.inr z)))
  unfold cr32 at key
  by_cases c5 : 0 ≤ sg (crs a.toInt b.toInt c.toInt d.toInt p.toInt q.toInt) * sg (crs a.toInt b.toInt c.toInt d.toInt r.toInt s.toInt)
  · rw [if_pos c5]
    exact congrArg some (dB_c ⟨fun z => key.mpr (Or.inl z), fun z => (key.mp z).elim id (fun w => absurd w.1 (fun w => i32ge0.mpr w c5))⟩)
  · rw [if_neg c5]
    by_cases c6 : 0 ≤ sg (crs p.toInt q.toInt r.toInt s.toInt a.toInt b.toInt) * sg (crs p.toInt q.toInt r.toInt s.toInt c.toInt d.toInt)
    · rw [if_pos c6]
      exact congrArg some (dB_c ⟨fun z => key.mpr (Or.inl z), fun z => (key.mp z).elim id (fun w => absurd w.2 (fun w => i32ge0.mpr w c6))⟩)
    · rw [if_neg c6]; exact sT (key.mpr (Or.inr ⟨i32ge0.mp c5, i32ge0.mp c6⟩))
