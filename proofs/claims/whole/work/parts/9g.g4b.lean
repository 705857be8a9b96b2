/-! half B, G4: the middle of a piece lies on no other piece -/
theorem in_up {p1 p2 q1 q2 w1 w2 : Int32} (h1 : p2.toInt < w2.toInt) (h2 : w2.toInt < q2.toInt) (e : crs p1.toInt p2.toInt q1.toInt q2.toInt w1.toInt w2.toInt = 0) : inSeg p1 p2 q1 q2 w1 w2 := by
  refine ⟨⟨?_, ?_, ?_, ?_⟩, e⟩
  · intro z; rw [z.2] at h1; omega
  · intro z; rw [z.2] at h2; omega
  · have k := bt_line (D := q2.toInt - p2.toInt) (E := q1.toInt - p1.toInt) (h := w2.toInt - p2.toInt) (w := w1.toInt - p1.toInt) (by omega) (by omega) (by omega) (by unfold crs at e; omega)
    unfold bt; omega
  · unfold bt; omega
theorem in_dn {p1 p2 q1 q2 w1 w2 : Int32} (h1 : q2.toInt < w2.toInt) (h2 : w2.toInt < p2.toInt) (e : crs p1.toInt p2.toInt q1.toInt q2.toInt w1.toInt w2.toInt = 0) : inSeg p1 p2 q1 q2 w1 w2 := inSeg_sw.mp (in_up h1 h2 (by rw [crs_sw, e]; rfl))
/-- the piece U V (u2 < v2), all on one line that is not level -/
theorem g4_line {a b c d u1 u2 v1 v2 : Int32} (hbd : b.toInt < d.toInt) (huv : u2.toInt < v2.toInt) (hb : b.toInt < v2.toInt) (hd : u2.toInt < d.toInt) (eA : crs u1.toInt u2.toInt v1.toInt v2.toInt a.toInt b.toInt = 0) (eC : crs u1.toInt u2.toInt v1.toInt v2.toInt c.toInt d.toInt = 0) (eU : crs a.toInt b.toInt c.toInt d.toInt u1.toInt u2.toInt = 0) (eV : crs a.toInt b.toInt c.toInt d.toInt v1.toInt v2.toInt = 0) : clash u1 u2 v1 v2 a b c d ∨ sameP u1 u2 v1 v2 a b c d := by
  rcases Int.lt_trichotomy b.toInt u2.toInt with h | h | h
  · exact Or.inl (Or.inr (Or.inr (Or.inl (in_up h hd eU))))
  · have eb : b = u2 := i32eq.mpr h
    have ea : a = u1 := by
      subst eb
      unfold crs at eA
      have : (v2.toInt - b.toInt) * (a.toInt - u1.toInt) = 0 := by
        have z : b.toInt - b.toInt = 0 := by omega
        rw [z, Int.mul_zero] at eA; omega
      rcases Int.mul_eq_zero.mp this with q | q
      · omega
      · exact i32eq.mpr (by omega)
    subst eb ea
    rcases Int.lt_trichotomy d.toInt v2.toInt with g | g | g
    · exact Or.inl (Or.inr (Or.inl (in_up hbd g eC)))
    · have ed : d = v2 := i32eq.mpr g
      subst ed
      have ec : c = v1 := by
        unfold crs at eC
        have : (d.toInt - b.toInt) * (c.toInt - v1.toInt) = 0 := by grind
        rcases Int.mul_eq_zero.mp this with q | q
        · omega
        · exact i32eq.mpr (by omega)
      exact Or.inr (Or.inl ⟨rfl, rfl, ec.symm, rfl⟩)
    · exact Or.inl (Or.inr (Or.inr (Or.inr (Or.inl (in_up huv g eV)))))
  · exact Or.inl (Or.inl (in_up h hb eA))
