/-! half B, G1: what the rays from a point of a piece and from its end see -/
def rho (x y a b c d : Int) : Prop := (b ≤ y ∧ y < d ∧ 0 < crs a b c d x y) ∨ (y < b ∧ d ≤ y ∧ crs a b c d x y < 0)
def swp (x y p q s t : Int) : Prop := (y < t ∧ t ≤ q ∧ crs x y p q s t < 0) ∨ (q < t ∧ t ≤ y ∧ 0 < crs x y p q s t)
def tkD (x y p q c d : Int) : Prop := (q ≤ y ∧ q < d ∧ crs p q x y c d < 0) ∨ (y < q ∧ d ≤ q ∧ 0 < crs p q x y c d)
theorem sgA {D z u s v t : Int} (e : D * z = u * s - v * t) (hD : 0 ≤ D) (hu : u ≤ 0) (hv : 0 ≤ v) (huv : u < 0 ∨ 0 < v) (hs : 0 < s) (ht : 0 < t) : z < 0 := by
  have h1 : u * s ≤ 0 := Int.mul_nonpos_of_nonpos_of_nonneg hu (by omega)
  have h2 : 0 ≤ v * t := Int.mul_nonneg hv (by omega)
  have h3 : D * z < 0 := by
    rcases huv with h | h
    · have : u * s < 0 := Int.mul_neg_of_neg_of_pos h hs
      omega
    · have : 0 < v * t := Int.mul_pos h ht
      omega
  rcases Int.lt_or_le z 0 with h | h
  · exact h
  · have := Int.mul_nonneg hD h; omega
theorem sgB {D z u s v t : Int} (e : D * z = u * s - v * t) (hD : 0 ≤ D) (hu : u ≤ 0) (hv : 0 ≤ v) (huv : u < 0 ∨ 0 < v) (hs : s < 0) (ht : t < 0) : 0 < z := by
  have h := sgA (D := D) (z := -z) (u := u) (s := -s) (v := v) (t := -t) (by rw [Int.mul_neg, e, Int.mul_neg, Int.mul_neg]; omega) hD hu hv huv (by omega) (by omega)
  omega
theorem ef_1 (x y p q a b c d : Int) : (q - y) * crs a b c d x y = (b - y) * crs x y p q c d - (d - y) * crs x y p q a b := by unfold crs; grind
theorem ef_2 (x y p q a b c d : Int) : (q - y) * crs a b c d p q = (b - q) * crs x y p q c d - (d - q) * crs x y p q a b := by unfold crs; grind
theorem ef_3 (x y p q a b c d : Int) : (d - b) * crs x y p q a b = (y - b) * crs a b c d p q - (q - b) * crs a b c d x y := by unfold crs; grind
theorem ef_4 (x y p q a b c d : Int) : (d - b) * crs x y p q c d = (y - d) * crs a b c d p q - (q - d) * crs a b c d x y := by unfold crs; grind
def offE (x y p q a b c d : Int) : Prop := (0 < crs x y p q a b ∧ 0 < crs x y p q c d) ∨ (crs x y p q a b < 0 ∧ crs x y p q c d < 0) ∨ (0 < crs a b c d x y ∧ 0 < crs a b c d p q) ∨ (crs a b c d x y < 0 ∧ crs a b c d p q < 0) ∨ (crs x y p q a b = 0 ∧ crs x y p q c d = 0 ∧ crs a b c d x y = 0 ∧ crs a b c d p q = 0)
theorem ef_lin {y q b d : Int} (hbd : b ≤ d) (hyq : y ≤ q) : ((b ≤ y ∧ y < d) ↔ (b ≤ q ∧ q < d)) ↔ ((y < b ∧ b ≤ q) ↔ (y < d ∧ d ≤ q)) := by omega
theorem ef_up {x y p q a b c d : Int} (hbd : b ≤ d) (hyq : y ≤ q) (h : offE x y p q a b c d) : (rho x y a b c d ↔ rho p q a b c d) ↔ (swp x y p q a b ↔ swp x y p q c d) := by
  have e1 := ef_1 x y p q a b c d
  have e2 := ef_2 x y p q a b c d
  have e3 := ef_3 x y p q a b c d
  have e4 := ef_4 x y p q a b c d
  have l := ef_lin hbd hyq
  unfold rho swp
  unfold offE at h
  generalize crs x y p q a b = cA at *
  generalize crs x y p q c d = cC at *
  generalize crs a b c d x y = cP at *
  generalize crs a b c d p q = cV at *
  rcases h with ⟨h1, h2⟩ | ⟨h1, h2⟩ | ⟨h1, h2⟩ | ⟨h1, h2⟩ | ⟨h1, h2, h3, h4⟩
  · have k1 : b ≤ y → y < d → cP < 0 := fun g1 g2 => sgA e1 (by omega) (by omega) (by omega) (by omega) h2 h1
    have k2 : b ≤ q → q < d → cV < 0 := fun g1 g2 => sgA e2 (by omega) (by omega) (by omega) (by omega) h2 h1
    omega
  · have k1 : b ≤ y → y < d → 0 < cP := fun g1 g2 => sgB e1 (by omega) (by omega) (by omega) (by omega) h2 h1
    have k2 : b ≤ q → q < d → 0 < cV := fun g1 g2 => sgB e2 (by omega) (by omega) (by omega) (by omega) h2 h1
    omega
  · have k1 : y < b → b ≤ q → cA < 0 := fun g1 g2 => sgA e3 (by omega) (by omega) (by omega) (by omega) h2 h1
    have k2 : y < d → d ≤ q → cC < 0 := fun g1 g2 => sgA e4 (by omega) (by omega) (by omega) (by omega) h2 h1
    omega
  · have k1 : y < b → b ≤ q → 0 < cA := fun g1 g2 => sgB e3 (by omega) (by omega) (by omega) (by omega) h2 h1
    have k2 : y < d → d ≤ q → 0 < cC := fun g1 g2 => sgB e4 (by omega) (by omega) (by omega) (by omega) h2 h1
    omega
  · omega
theorem rho_sw {x y a b c d : Int} : rho x y a b c d ↔ rho x y c d a b := by
  unfold rho
  rw [crs_sw a b c d x y]
  omega
theorem swp_sw {x y p q s t : Int} : swp x y p q s t ↔ swp p q x y s t := by
  unfold swp
  rw [crs_sw x y p q s t]
  omega
theorem offE_sw {x y p q a b c d : Int} (h : offE x y p q a b c d) : offE x y p q c d a b := by
  unfold offE at *
  rw [crs_sw a b c d x y, crs_sw a b c d p q]
  omega
theorem offE_sv {x y p q a b c d : Int} (h : offE x y p q a b c d) : offE p q x y a b c d := by
  unfold offE at *
  rw [crs_sw x y p q a b, crs_sw x y p q c d]
  omega
theorem edge_far {x y p q a b c d : Int} (h : offE x y p q a b c d) : (rho x y a b c d ↔ rho p q a b c d) ↔ (swp x y p q a b ↔ swp x y p q c d) := by
  have key : ∀ {x y p q a b c d : Int}, b ≤ d → offE x y p q a b c d → ((rho x y a b c d ↔ rho p q a b c d) ↔ (swp x y p q a b ↔ swp x y p q c d)) := by
    intro x y p q a b c d hb h
    rcases Int.le_total y q with hy | hy
    · exact ef_up hb hy h
    · have := ef_up hb hy (offE_sv h)
      rw [swp_sw (x := x), swp_sw (x := x)]
      exact ⟨fun z => this.mp z.symm, fun z => (this.mpr z).symm⟩
  rcases Int.le_total b d with hb | hb
  · exact key hb h
  · have := key hb (offE_sw h)
    rw [rho_sw (a := a), rho_sw (a := a)]
    exact ⟨fun z => (this.mp z).symm, fun z => this.mpr z.symm⟩
theorem edge_near (x y p q c d : Int) : tkD x y p q c d ↔ ¬ (rho x y p q c d ↔ swp x y p q c d) := by
  have e1 : crs p q c d x y = - crs p q x y c d := by unfold crs; grind
  have e2 : crs x y p q c d = - crs p q x y c d := crs_sw _ _ _ _ _ _
  unfold tkD rho swp
  rw [e1, e2]
  omega

theorem xo_x (g h : Nat → Int32) : ∀ n, xo (fun e => g e ^^^ h e) n = xo g n ^^^ xo h n := by
  intro n
  induction n with
  | zero => exact Int32.xor_self.symm
  | succ n ih =>
    show xo (fun e => g e ^^^ h e) n ^^^ (g n ^^^ h n) = (xo g n ^^^ g n) ^^^ (xo h n ^^^ h n)
    rw [ih, x32a, x32a, ← x32a (xo h n), x32c (xo h n) (g n), x32a]
theorem xself (a : Int32) : a ^^^ a = 0 := Int32.xor_self
/-- marks that cancel at every point cancel in every set of points -/
theorem cl_step {n : Nat} {A B : Nat → Int × Int} {m : Nat → Int32} (h : ∀ p, xo (fun e => mAt (A e = p) (m e) ^^^ mAt (B e = p) (m e)) n = 0) (g : Int × Int → Prop) (p : Int × Int) : xo (fun e => mAt (g (A e)) (m e) ^^^ mAt (g (B e)) (m e)) n = xo (fun e => mAt (g (A e) ∧ A e ≠ p) (m e) ^^^ mAt (g (B e) ∧ B e ≠ p) (m e)) n := by
  by_cases hp : g p
  · have k : ∀ e, e < n → mAt (g (A e)) (m e) ^^^ mAt (g (B e)) (m e) = (mAt (g (A e) ∧ A e ≠ p) (m e) ^^^ mAt (g (B e) ∧ B e ≠ p) (m e)) ^^^ (mAt (A e = p) (m e) ^^^ mAt (B e = p) (m e)) := by
      intro e _
      have one : ∀ q, mAt (g q) (m e) = mAt (g q ∧ q ≠ p) (m e) ^^^ mAt (q = p) (m e) := by
        intro q
        by_cases c : q = p
        · rw [mAt_t (p := g q) (by rw [c]; exact hp), mAt_f (p := g q ∧ q ≠ p) (fun z => z.2 c), mAt_t (p := q = p) c, Int32.zero_xor]
        · rw [mAt_f (p := q = p) c, Int32.xor_zero]
          by_cases c2 : g q
          · rw [mAt_t c2, mAt_t ⟨c2, c⟩]
          · rw [mAt_f c2, mAt_f (fun z => c2 z.1)]
      rw [one (A e), one (B e), x32a, x32a, ← x32a (mAt (A e = p) (m e)), x32c (mAt (A e = p) (m e)) (mAt (g (B e) ∧ B e ≠ p) (m e)), x32a]
    rw [xo_ext k, xo_x, h p, Int32.xor_zero]
  · have one : ∀ q, g q ↔ (g q ∧ q ≠ p) := fun q => ⟨fun z => ⟨z, fun c => hp (by rw [← c]; exact z)⟩, fun z => z.1⟩
    apply xo_ext
    intro e _
    rw [← propext (one (A e)), ← propext (one (B e))]
theorem cl_any {n : Nat} {A B : Nat → Int × Int} {m : Nat → Int32} (h : ∀ p, xo (fun e => mAt (A e = p) (m e) ^^^ mAt (B e = p) (m e)) n = 0) (g : Int × Int → Prop) : xo (fun e => mAt (g (A e)) (m e) ^^^ mAt (g (B e)) (m e)) n = 0 := by
  have key : ∀ j, xo (fun e => mAt (g (A e)) (m e) ^^^ mAt (g (B e)) (m e)) n = xo (fun e => mAt (g (A e) ∧ ∀ i, i < j → A e ≠ A i ∧ A e ≠ B i) (m e) ^^^ mAt (g (B e) ∧ ∀ i, i < j → B e ≠ A i ∧ B e ≠ B i) (m e)) n := by
    intro j
    induction j with
    | zero =>
      apply xo_ext
      intro e _
      have one : ∀ q, g q ↔ (g q ∧ ∀ i, i < 0 → q ≠ A i ∧ q ≠ B i) := fun q => ⟨fun z => ⟨z, fun i hi => absurd hi (Nat.not_lt_zero i)⟩, fun z => z.1⟩
      rw [← propext (one (A e)), ← propext (one (B e))]
    | succ j ih =>
      rw [ih, cl_step h (fun q => g q ∧ ∀ i, i < j → q ≠ A i ∧ q ≠ B i) (A j), cl_step h (fun q => (g q ∧ ∀ i, i < j → q ≠ A i ∧ q ≠ B i) ∧ q ≠ A j) (B j)]
      apply xo_ext
      intro e _
      have one : ∀ q, (((g q ∧ ∀ i, i < j → q ≠ A i ∧ q ≠ B i) ∧ q ≠ A j) ∧ q ≠ B j) ↔ (g q ∧ ∀ i, i < j + 1 → q ≠ A i ∧ q ≠ B i) := by
        intro q
        constructor
        · rintro ⟨⟨⟨z1, z2⟩, z3⟩, z4⟩
          refine ⟨z1, fun i hi => ?_⟩
          by_cases c : i = j
          · subst c; exact ⟨z3, z4⟩
          · exact z2 i (by omega)
        · rintro ⟨z1, z2⟩
          exact ⟨⟨⟨z1, fun i hi => z2 i (by omega)⟩, (z2 j (by omega)).1⟩, (z2 j (by omega)).2⟩
      rw [propext (one (A e)), propext (one (B e))]
  rw [key n]
  apply xo_zero
  intro e he
  rw [mAt_f (fun z => (z.2 e he).1 rfl), mAt_f (fun z => (z.2 e he).2 rfl), Int32.xor_zero]
theorem mAt_5 {p q r s t : Prop} {m : Int32} (h : (p ↔ q) ↔ ¬ (r ↔ (s ↔ t))) : mAt p m = (mAt q m ^^^ mAt r m) ^^^ (mAt s m ^^^ mAt t m) := by
  by_cases hp : p <;> by_cases hq : q <;> by_cases hr : r <;> by_cases hs : s <;> by_cases ht : t <;> simp only [hp, hq, hr, hs, ht, iff_true, true_iff, iff_false, false_iff, not_true_eq_false, not_false_eq_true] at h <;> simp only [mAt_t, mAt_f, hp, hq, hr, hs, ht, Int32.xor_zero, Int32.zero_xor, Int32.xor_self, not_false_eq_true]

/-- the far end of a piece seen from p q -/
noncomputable def farE (a b c d p q : Int) : Int × Int := if dB (a = p ∧ b = q) = true then (c, d) else (a, b)
def atE (a b c d p q : Int) : Prop := (a = p ∧ b = q) ∨ (c = p ∧ d = q)
/-- the rays of a point x y of piece k and of its end p q -/
theorem g1L {n k : Nat} {a b c d : Nat → Int} {m : Nat → Int32} {x y p q : Int} (hcl : ∀ s : Int × Int, xo (fun e => mAt ((a e, b e) = s) (m e) ^^^ mAt ((c e, d e) = s) (m e)) n = 0) (hk : atE (a k) (b k) (c k) (d k) p q) (hA : ¬ swp x y p q (a k) (b k)) (hC : ¬ swp x y p q (c k) (d k)) (ho : ∀ e, e < n → e ≠ k → atE (a e) (b e) (c e) (d e) p q ∨ offE x y p q (a e) (b e) (c e) (d e)) : xo (fun e => mAt (e ≠ k ∧ rho x y (a e) (b e) (c e) (d e)) (m e)) n = xo (fun e => mAt (¬ atE (a e) (b e) (c e) (d e) p q ∧ rho p q (a e) (b e) (c e) (d e)) (m e)) n ^^^ xo (fun e => mAt (e ≠ k ∧ atE (a e) (b e) (c e) (d e) p q ∧ tkD x y p q (farE (a e) (b e) (c e) (d e) p q).1 (farE (a e) (b e) (c e) (d e) p q).2) (m e)) n := by
  have z := cl_any (A := fun e => (a e, b e)) (B := fun e => (c e, d e)) hcl (fun s => swp x y p q s.1 s.2)
  have one : ∀ e, e < n → mAt (e ≠ k ∧ rho x y (a e) (b e) (c e) (d e)) (m e) = (mAt (¬ atE (a e) (b e) (c e) (d e) p q ∧ rho p q (a e) (b e) (c e) (d e)) (m e) ^^^ mAt (e ≠ k ∧ atE (a e) (b e) (c e) (d e) p q ∧ tkD x y p q (farE (a e) (b e) (c e) (d e) p q).1 (farE (a e) (b e) (c e) (d e) p q).2) (m e)) ^^^ (mAt (swp x y p q (a e) (b e)) (m e) ^^^ mAt (swp x y p q (c e) (d e)) (m e)) := by
    intro e he
    apply mAt_5
    by_cases ck : e = k
    · subst ck
      simp only [ne_eq, not_true_eq_false, false_and, hk, hA, hC, not_false_eq_true]
      exact ⟨fun _ z => z.mpr trivial, fun _ => trivial⟩
    · have sv : ¬ swp x y p q p q := by
        unfold swp
        have : crs x y p q p q = 0 := by unfold crs; grind
        rw [this]; omega
      by_cases ca : atE (a e) (b e) (c e) (d e) p q
      · by_cases c1 : a e = p ∧ b e = q
        · have ef : farE (a e) (b e) (c e) (d e) p q = (c e, d e) := if_pos (dB_t c1)
          rw [ef]
          have := edge_near x y p q (c e) (d e)
          rw [c1.1, c1.2] at ca ⊢
          simp only [ne_eq, ck, not_false_eq_true, true_and, ca, not_true_eq_false, false_and, sv, false_iff, iff_false]
          rw [this]
          generalize rho x y p q (c e) (d e) = r
          generalize swp x y p q (c e) (d e) = s
          by_cases r <;> by_cases s <;> simp_all
        · have ef : farE (a e) (b e) (c e) (d e) p q = (a e, b e) := if_neg (fun z => c1 (dB_i.mp z))
          rw [ef]
          have c2 : c e = p ∧ d e = q := by rcases ca with z | z; exact absurd z c1; exact z
          have := edge_near x y p q (a e) (b e)
          rw [rho_sw] at this
          rw [c2.1, c2.2] at ca ⊢
          simp only [ne_eq, ck, not_false_eq_true, true_and, ca, not_true_eq_false, false_and, sv, false_iff, iff_false]
          rw [this]
          generalize rho x y (a e) (b e) p q = r
          generalize swp x y p q (a e) (b e) = s
          by_cases r <;> by_cases s <;> simp_all
      · have := edge_far ((ho e he ck).resolve_left ca)
        simp only [ne_eq, ck, not_false_eq_true, true_and, ca, false_and, false_iff, and_true]
        rw [this, Classical.not_not]
  rw [xo_ext one, xo_x, xo_x, z, Int32.xor_zero]
