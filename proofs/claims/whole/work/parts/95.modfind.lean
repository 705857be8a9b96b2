/-! half B: the reference's searches: find, isApart's loop, isEven, areClosed -/
def isE (a b c d x y : Int32) : Prop := (a = x ∧ b = y) ∨ (c = x ∧ d = y)
theorem isE_same {a b c d p q r s : Int32} (h : ¬ (p = r ∧ q = s)) : isE a b c d p q ∧ isE a b c d r s ↔ sameP a b c d p q r s := by
  unfold isE sameP
  constructor
  · intro ⟨z1, z2⟩
    rcases z1 with z1 | z1
    · rcases z2 with z2 | z2
      · exact absurd ⟨z1.1.symm.trans z2.1, z1.2.symm.trans z2.2⟩ h
      · exact Or.inl ⟨z1.1, z1.2, z2.1, z2.2⟩
    · rcases z2 with z2 | z2
      · exact Or.inr ⟨z2.1, z2.2, z1.1, z1.2⟩
      · exact absurd ⟨z1.1.symm.trans z2.1, z1.2.symm.trans z2.2⟩ h
  · intro z
    rcases z with ⟨z1, z2, z3, z4⟩ | ⟨z1, z2, z3, z4⟩
    · exact ⟨Or.inl ⟨z1, z2⟩, Or.inr ⟨z3, z4⟩⟩
    · exact ⟨Or.inr ⟨z3, z4⟩, Or.inl ⟨z1, z2⟩⟩
theorem mod_isE {k : Nat} (hk : k < 2049) (ax bx b_y ay : Nat → Int32) (x y : Int32) : f_Mod_isEnd 2049 ax 2049 bx 2049 b_y 2049 ay (nI k) x y = some (dB (isE (ax k) (ay k) (bx k) (b_y k) x y)) := mod_isEnd hk ax bx b_y ay x y
theorem mod_find {n F : Nat} (hn : n ≤ 2048) (hF : n < F) (ax bx b_y ay : Nat → Int32) (p q r s : Int32) : ∃ v, f_Mod_find F (nI n) 2049 ax 2049 bx 2049 b_y 2049 ay p q r s = some v ∧ ((∃ k, k < n ∧ (isE (ax k) (ay k) (bx k) (b_y k) p q ∧ isE (ax k) (ay k) (bx k) (b_y k) r s) ∧ v = nI k) ∨ ((∀ k, k < n → ¬ (isE (ax k) (ay k) (bx k) (b_y k) p q ∧ isE (ax k) (ay k) (bx k) (b_y k) r s)) ∧ v = -1)) := by
  have k := lp_inv (fun _ _ => none) (b_Mod_find_6 F (nI n) 2049 ax 2049 bx 2049 b_y 2049 ay p q r s) (fun t : Int32 × Nat => n - t.2) (fun f t => t.2 ≤ n → ∃ v, f t.1 (nI t.2) = some v ∧ ((∃ k, t.2 ≤ k ∧ k < n ∧ (isE (ax k) (ay k) (bx k) (b_y k) p q ∧ isE (ax k) (ay k) (bx k) (b_y k) r s) ∧ v = nI k) ∨ ((∀ k, t.2 ≤ k → k < n → ¬ (isE (ax k) (ay k) (bx k) (b_y k) p q ∧ isE (ax k) (ay k) (bx k) (b_y k) r s)) ∧ v = t.1))) (fun t f hr hc => by
    obtain ⟨w, c⟩ := t
    simp only at hr hc ⊢
    unfold b_Mod_find_6
    by_cases hl : n ≤ c
    · rw [if_pos ((nIle (by omega) (by omega)).mpr hl)]
      exact ⟨_, rfl, Or.inr ⟨fun k h1 h2 => by omega, rfl⟩⟩
    · rw [if_neg (fun z => hl ((nIle (by omega) (by omega)).mp z)), mod_isE (by omega), mod_isE (by omega)]
      simp only [ob1]
      unfold b_Mod_find_43 b_Mod_find_45
      have no : ¬ (isE (ax c) (ay c) (bx c) (b_y c) p q ∧ isE (ax c) (ay c) (bx c) (b_y c) r s) → ∃ v, f w (nI c + 1) = some v ∧ ((∃ k, c ≤ k ∧ k < n ∧ (isE (ax k) (ay k) (bx k) (b_y k) p q ∧ isE (ax k) (ay k) (bx k) (b_y k) r s) ∧ v = nI k) ∨ ((∀ k, c ≤ k → k < n → ¬ (isE (ax k) (ay k) (bx k) (b_y k) p q ∧ isE (ax k) (ay k) (bx k) (b_y k) r s)) ∧ v = w)) := by
        intro hne
        obtain ⟨v, e, hv⟩ := hr (w, c + 1) (by simp only; omega) (by simp only; omega)
        refine ⟨v, by rw [nI_1]; exact e, ?_⟩
        rcases hv with ⟨k, h1, h2, h3, h4⟩ | ⟨h1, h2⟩
        · exact Or.inl ⟨k, by simp only at h1; omega, h2, h3, h4⟩
        · refine Or.inr ⟨fun k g1 g2 => ?_, h2⟩
          by_cases hk : k = c
          · rw [hk]; exact hne
          · exact h1 k (by simp only; omega) g2
      by_cases c1 : isE (ax c) (ay c) (bx c) (b_y c) p q
      · rw [if_neg (fun z => bI_dB.mp z c1)]
        by_cases c2 : isE (ax c) (ay c) (bx c) (b_y c) r s
        · rw [if_neg (fun z => bI_dB.mp z c2)]
          obtain ⟨v, e, hv⟩ := hr (nI c, c + 1) (by simp only; omega) (by simp only; omega)
          refine ⟨v, by rw [nI_1]; exact e, Or.inl ?_⟩
          rcases hv with ⟨k, h1, h2, h3, h4⟩ | ⟨h1, h2⟩
          · exact ⟨k, by simp only at h1; omega, h2, h3, h4⟩
          · exact ⟨c, Nat.le_refl _, by omega, ⟨c1, c2⟩, h2⟩
        · rw [if_pos (bI_dB.mpr c2)]; exact no (fun z => c2 z.2)
      · rw [if_pos (bI_dB.mpr c1)]; exact no (fun z => c1 z.1)) F ((-1 : Int32), 0) (by simp only; omega)
  obtain ⟨v, e, hv⟩ := k (by simp only; omega)
  refine ⟨v, e, ?_⟩
  rcases hv with ⟨k, _, h⟩ | ⟨h1, h2⟩
  · exact Or.inl ⟨k, h⟩
  · exact Or.inr ⟨fun k hk => h1 k (Nat.zero_le _) hk, h2⟩
/-- swapping the ends of a piece changes no clash -/
theorem crs_sw (a b c d x y : Int) : crs c d a b x y = - crs a b c d x y := by unfold crs; grind
theorem bt_sw {a c x : Int32} : bt a c x ↔ bt c a x := by unfold bt; omega
theorem inSeg_sw {a b c d x y : Int32} : inSeg a b c d x y ↔ inSeg c d a b x y := by
  have h : ∀ {a b c d x y : Int32}, inSeg a b c d x y → inSeg c d a b x y := by
    intro a b c d x y ⟨⟨z1, z2, z3, z4⟩, z5⟩
    exact ⟨⟨z2, z1, bt_sw.mp z3, bt_sw.mp z4⟩, by rw [crs_sw, z5]; rfl⟩
  exact ⟨h, h⟩
theorem sg_mul (z w : Int) : sg z * sg w < 0 ↔ (0 < z ∧ w < 0) ∨ (z < 0 ∧ 0 < w) := by
  rcases Int.lt_trichotomy z 0 with h | h | h <;> rcases Int.lt_trichotomy w 0 with g | g | g
  · rw [sg_neg h, sg_neg g]; exact ⟨fun q => absurd q (by decide), fun q => by omega⟩
  · rw [sg_neg h, sg_zero g]; exact ⟨fun q => absurd q (by decide), fun q => by omega⟩
  · rw [sg_neg h, sg_pos g]; exact ⟨fun _ => by omega, fun _ => by decide⟩
  · rw [sg_zero h, sg_neg g]; exact ⟨fun q => absurd q (by decide), fun q => by omega⟩
  · rw [sg_zero h, sg_zero g]; exact ⟨fun q => absurd q (by decide), fun q => by omega⟩
  · rw [sg_zero h, sg_pos g]; exact ⟨fun q => absurd q (by decide), fun q => by omega⟩
  · rw [sg_pos h, sg_neg g]; exact ⟨fun _ => by omega, fun _ => by decide⟩
  · rw [sg_pos h, sg_zero g]; exact ⟨fun q => absurd q (by decide), fun q => by omega⟩
  · rw [sg_pos h, sg_pos g]; exact ⟨fun q => absurd q (by decide), fun q => by omega⟩
theorem clash_sw {a b c d p q r s : Int32} : clash a b c d p q r s ↔ clash a b c d r s p q := by
  have h : ∀ {a b c d p q r s : Int32}, clash a b c d p q r s → clash a b c d r s p q := by
    intro a b c d p q r s z
    unfold clash at z ⊢
    rcases z with z | z | z | z | z
    · exact Or.inr (Or.inl z)
    · exact Or.inl z
    · exact Or.inr (Or.inr (Or.inl (inSeg_sw.mp z)))
    · exact Or.inr (Or.inr (Or.inr (Or.inl (inSeg_sw.mp z))))
    · refine Or.inr (Or.inr (Or.inr (Or.inr ?_)))
      unfold cr32 at z ⊢
      rw [sg_mul, sg_mul] at z ⊢
      rw [crs_sw p.toInt, crs_sw p.toInt]
      omega
  exact ⟨h, h⟩
theorem clash_sy {a b c d p q r s : Int32} : clash a b c d p q r s ↔ clash p q r s a b c d := by
  have h : ∀ {a b c d p q r s : Int32}, clash a b c d p q r s → clash p q r s a b c d := by
    intro a b c d p q r s z
    unfold clash at z ⊢
    rcases z with z | z | z | z | z
    · exact Or.inr (Or.inr (Or.inl z))
    · exact Or.inr (Or.inr (Or.inr (Or.inl z)))
    · exact Or.inl z
    · exact Or.inr (Or.inl z)
    · exact Or.inr (Or.inr (Or.inr (Or.inr ⟨z.2, z.1⟩)))
  exact ⟨h, h⟩
