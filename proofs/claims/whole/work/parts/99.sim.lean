/-! half B: piece(..), class and reference side by side -/
theorem net_turn {n P k : Nat} (hn : n ≤ 1000000) (hP : P ≤ 1000000) (hk : k < n) {mk O : Nat → Int32} {fr to : Nat → Nat} (h1 : fr k < P) (h2 : to k < P) (m : Int32) : f_Net_turnMarks (tab n (fun k => nI (fr k))) (tab n (fun k => nI (to k))) (nI k) m (tab n mk) (tab P O) = some (tab n (upd mk k (mk k ^^^ m)), tab P (upd (upd O (fr k) (O (fr k) ^^^ m)) (to k) (upd O (fr k) (O (fr k) ^^^ m) (to k) ^^^ m))) := by
  have e1 : rg (tab n (fun k => nI (fr k))) (nI k) = nI (fr k) := rg_tab (f := fun k => nI (fr k)) hk hn
  have e2 : rg (tab n (fun k => nI (to k))) (nI k) = nI (to k) := rg_tab (f := fun k => nI (to k)) hk hn
  unfold f_Net_turnMarks b_Net_turnMarks_0
  rw [e1, e2, rg_tab hk hn, rs_tab _ hk hn, rg_tab h1 hP, rs_tab _ h1 hP, rg_tab h2 hP, rs_tab _ h2 hP]
theorem m13 {m : Int32} (h1 : 1 ≤ m.toInt) (h2 : m.toInt ≤ 3) : m = 1 ∨ m = 2 ∨ m = 3 := by
  have e1 : (1 : Int32).toInt = 1 := by decide
  have e2 : (2 : Int32).toInt = 2 := by decide
  have e3 : (3 : Int32).toInt = 3 := by decide
  rw [i32eq, i32eq, i32eq, e1, e2, e3]
  omega
theorem wea_isPlace (x y : Int32) : f_Wea_isPlace x y = some (dB (inB x ∧ inB y)) := by
  have e1 : (-500000000 : Int32).toInt = -500000000 := by decide
  have e2 : (500000000 : Int32).toInt = 500000000 := by decide
  unfold f_Wea_isPlace b_Wea_isPlace_0 inB
  by_cases c1 : x < -500000000
  · rw [if_pos c1]; rw [i32lt, e1] at c1; exact sF (by omega)
  · rw [if_neg c1]
    by_cases c2 : 500000000 < x
    · rw [if_pos c2]; rw [i32lt, e2] at c2; exact sF (by omega)
    · rw [if_neg c2]
      by_cases c3 : y < -500000000
      · rw [if_pos c3]; rw [i32lt, e1] at c3; exact sF (by omega)
      · rw [if_neg c3]
        by_cases c4 : 500000000 < y
        · rw [if_pos c4]; rw [i32lt, e2] at c4; exact sF (by omega)
        · rw [if_neg c4]; rw [i32lt, e1] at c1 c3; rw [i32lt, e2] at c2 c4; exact sT (by omega)
theorem mod_isFar (x : Int32) : f_Mod_isFar x = some (dB (¬ inB x)) := by
  have e1 : (-500000000 : Int32).toInt = -500000000 := by decide
  have e2 : (500000000 : Int32).toInt = 500000000 := by decide
  unfold f_Mod_isFar b_Mod_isFar_0
  rw [mod_within, e1, e2]
  simp only [ob1]
  have fold : (-500000000 ≤ x.toInt ∧ x.toInt ≤ 500000000) = inB x := rfl
  rw [fold]
  by_cases c : inB x
  · rw [if_neg (fun z => bI_dB.mp z c)]; exact sF (fun z => z c)
  · rw [if_pos (bI_dB.mpr c)]; exact sT c
theorem sameP_tr {a b c d a' b' c' d' p q r s : Int32} (h : sameP a b c d p q r s) (g : sameP a' b' c' d' p q r s) : sameP a b c d a' b' c' d' := by
  rcases h with ⟨z1, z2, z3, z4⟩ | ⟨z1, z2, z3, z4⟩ <;> rcases g with ⟨w1, w2, w3, w4⟩ | ⟨w1, w2, w3, w4⟩
  · exact Or.inl ⟨z1.trans w1.symm, z2.trans w2.symm, z3.trans w3.symm, z4.trans w4.symm⟩
  · exact Or.inr ⟨z1.trans w3.symm, z2.trans w4.symm, z3.trans w1.symm, z4.trans w2.symm⟩
  · exact Or.inr ⟨z1.trans w3.symm, z2.trans w4.symm, z3.trans w1.symm, z4.trans w2.symm⟩
  · exact Or.inl ⟨z1.trans w1.symm, z2.trans w2.symm, z3.trans w3.symm, z4.trans w4.symm⟩
theorem sameP_sw {a b c d p q r s : Int32} (h : sameP a b c d p q r s) : sameP a b c d r s p q := by
  rcases h with z | z
  · exact Or.inr z
  · exact Or.inl z
/-- class and reference find the same piece -/
theorem find_same {n P F : Nat} {ax ay bx b_y mk X Y O : Nat → Int32} {fr to : Nat → Nat} (I : netI n P ax ay bx b_y mk X Y O fr to) (hn : n ≤ 2000) (hP : P ≤ 2 * n) (hF : 5000 ≤ F) {x y u v : Int32} (hne : ¬ (x = u ∧ y = v)) : ∃ w, f_Net_pieceBetween F (tab P O) (tab P X) (tab P Y) (tab n mk) (tab n (fun k => nI (fr k))) (tab n (fun k => nI (to k))) x y u v = some w ∧ f_Mod_find F (nI n) 2049 ax 2049 bx 2049 b_y 2049 ay x y u v = some w ∧ ((∃ k, k < n ∧ w = nI k) ∨ ((∀ k, k < n → ¬ sameP (ax k) (ay k) (bx k) (b_y k) x y u v) ∧ w = -1)) := by
  obtain ⟨I1, I2, I3, I4, I5, I6, I7⟩ := I
  obtain ⟨w, ew, hw⟩ := net_pieceBetween (n := n) (P := P) (F := F) (by omega) (by omega) (by omega) (by omega) O X Y mk fr to (fun k hk => (I4 k hk).1.1) (fun k hk => (I4 k hk).1.2) I5 x y u v
  obtain ⟨w', ew', hw'⟩ := mod_find (n := n) (F := F) (by omega) (by omega) ax bx b_y ay x y u v
  have hs : ∀ k, k < n → (sameP (X (fr k)) (Y (fr k)) (X (to k)) (Y (to k)) x y u v ↔ sameP (ax k) (ay k) (bx k) (b_y k) x y u v) := by
    intro k hk
    obtain ⟨_, l3, l4, l5, l6⟩ := I4 k hk
    rw [l3, l4, l5, l6]
  rcases hw with ⟨k, hk, hsk, rfl⟩ | ⟨hno, rfl⟩
  · have hsk := (hs k hk).mp hsk
    rcases hw' with ⟨j, hj, hsj, rfl⟩ | ⟨hno, _⟩
    · have hsj := (isE_same hne).mp hsj
      have : j = k := Classical.byContradiction (fun z => (I2 j k hj hk z).2 (sameP_tr hsj hsk))
      subst this
      exact ⟨_, ew, ew', Or.inl ⟨j, hj, rfl⟩⟩
    · exact absurd ((isE_same hne).mpr hsk) (hno k hk)
  · rcases hw' with ⟨j, hj, hsj, rfl⟩ | ⟨hno', rfl⟩
    · exact absurd ((hs j hj).mpr ((isE_same hne).mp hsj)) (hno j hj)
    · exact ⟨_, ew, ew', Or.inr ⟨fun k hk z => hno k hk ((hs k hk).mpr z), rfl⟩⟩
