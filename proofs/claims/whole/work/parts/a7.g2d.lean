/-! half B, G2: no two edges cross a height at one place; the layers -/
theorem sameP_sx {a b c d p q r s : Int32} : sameP a b c d p q r s ↔ sameP c d a b p q r s := by
  unfold sameP
  constructor
  · rintro (⟨h1, h2, h3, h4⟩ | ⟨h1, h2, h3, h4⟩)
    · exact Or.inr ⟨h3, h4, h1, h2⟩
    · exact Or.inl ⟨h3, h4, h1, h2⟩
  · rintro (⟨h1, h2, h3, h4⟩ | ⟨h1, h2, h3, h4⟩)
    · exact Or.inr ⟨h3, h4, h1, h2⟩
    · exact Or.inl ⟨h3, h4, h1, h2⟩
/-- both cross the height h + 1/2 and lie on one line -/
theorem line_cl {a b c d u1 u2 v1 v2 : Int32} {h : Int} (he : (u2.toInt ≤ h ∧ h < v2.toInt) ∨ (v2.toInt ≤ h ∧ h < u2.toInt)) (hf : (b.toInt ≤ h ∧ h < d.toInt) ∨ (d.toInt ≤ h ∧ h < b.toInt)) (eA : crs u1.toInt u2.toInt v1.toInt v2.toInt a.toInt b.toInt = 0) (eC : crs u1.toInt u2.toInt v1.toInt v2.toInt c.toInt d.toInt = 0) (eU : crs a.toInt b.toInt c.toInt d.toInt u1.toInt u2.toInt = 0) (eV : crs a.toInt b.toInt c.toInt d.toInt v1.toInt v2.toInt = 0) : clash u1 u2 v1 v2 a b c d ∨ sameP u1 u2 v1 v2 a b c d := by
  rcases he with he | he <;> rcases hf with hf | hf
  · exact g4_line (by omega) (by omega) (by omega) (by omega) eA eC eU eV
  · have r := g4_line (a := c) (b := d) (c := a) (d := b) (u1 := u1) (u2 := u2) (v1 := v1) (v2 := v2) (by omega) (by omega) (by omega) (by omega) eC eA (by rw [crs_sw]; omega) (by rw [crs_sw]; omega)
    rcases r with r | r
    · exact Or.inl (clash_sw.mp r)
    · exact Or.inr (sameP_sw r)
  · have r := g4_line (a := a) (b := b) (c := c) (d := d) (u1 := v1) (u2 := v2) (v1 := u1) (v2 := u2) (by omega) (by omega) (by omega) (by omega) (by rw [crs_sw]; omega) (by rw [crs_sw]; omega) eV eU
    rcases r with r | r
    · exact Or.inl (clash_sx.mp r)
    · exact Or.inr (sameP_sx.mp r)
  · have r := g4_line (a := c) (b := d) (c := a) (d := b) (u1 := v1) (u2 := v2) (v1 := u1) (v2 := u2) (by omega) (by omega) (by omega) (by omega) (by rw [crs_sw]; omega) (by rw [crs_sw]; omega) (by rw [crs_sw]; omega) (by rw [crs_sw]; omega)
    rcases r with r | r
    · exact Or.inl (clash_sw.mp (clash_sx.mp r))
    · exact Or.inr (sameP_sw (sameP_sx.mp r))
theorem tie_op {a b c d u1 u2 w1 w2 s r : Int} (hr : 0 < r) (hs : r < s) (h : crs (s * a) (s * b) (s * c) (s * d) (s * u1 + r * (w1 - u1)) (s * u2 + r * (w2 - u2)) = 0) : (0 < crs a b c d u1 u2 ∧ crs a b c d w1 w2 < 0) ∨ (crs a b c d u1 u2 < 0 ∧ 0 < crs a b c d w1 w2) ∨ (crs a b c d u1 u2 = 0 ∧ crs a b c d w1 w2 = 0) := by
  have e3 : crs (s * a) (s * b) (s * c) (s * d) (s * u1 + r * (w1 - u1)) (s * u2 + r * (w2 - u2)) = (s * (s - r)) * crs a b c d u1 u2 + (s * r) * crs a b c d w1 w2 := by unfold crs; grind
  rw [e3] at h
  exact opp (Int.mul_pos (by omega) (by omega)) (Int.mul_pos (by omega) hr) h
theorem no_tie {N e f : Nat} {x y : Nat → Int32} {D h : Int} {c : Nat → Int} (H : ringP N x y) (hD : 0 < D) (hc : ∀ e, e < N → (y (nxI N e)).toInt - (y e).toInt ≠ 0 → c e * ((y (nxI N e)).toInt - (y e).toInt) = D) (he : e < N) (hf : f < N) (hef : e ≠ f) (se : spH N y h e) (sf : spH N y h f) : ZH N x y D c h e ≠ ZH N x y D c h f := by
  intro hz
  obtain ⟨r1, r2⟩ := sr_ok se
  obtain ⟨r3, r4⟩ := sr_ok sf
  have t1 := tie_op r1 r2 ((cmp_H hD hc he hf se).2 sf hz)
  have t2 := tie_op r3 r4 ((cmp_H hD hc hf he sf).2 se hz.symm)
  have gd := g4_dif (x f).toInt (y f).toInt (x (nxI N f)).toInt (y (nxI N f)).toInt (x e).toInt (y e).toInt (x (nxI N e)).toInt (y (nxI N e)).toInt
  obtain ⟨n1, n2⟩ := H.2.2.2 e f he hf hef
  by_cases z : crs (x f).toInt (y f).toInt (x (nxI N f)).toInt (y (nxI N f)).toInt (x e).toInt (y e).toInt = 0
  · rcases line_cl (h := h) (u1 := x e) (u2 := y e) (v1 := x (nxI N e)) (v2 := y (nxI N e)) (a := x f) (b := y f) (c := x (nxI N f)) (d := y (nxI N f)) se sf (by omega) (by omega) (by omega) (by omega) with q | q
    · exact n1 q
    · exact n2 q
  · apply n1
    right; right; right; right
    unfold cr32
    rw [sg_mul, sg_mul]
    omega
theorem xo_cnt (p : Nat → Prop) : ∀ N, xo (fun f => mAt (p f) 1) N = if cntP p N % 2 = 1 then 1 else 0 := by
  intro N
  induction N with
  | zero => rfl
  | succ N ih =>
    show xo (fun f => mAt (p f) 1) N ^^^ mAt (p N) 1 = _
    rw [ih]
    by_cases c : p N
    · rw [mAt_t c, cnt_s c]
      by_cases d : cntP p N % 2 = 1
      · rw [if_pos d, if_neg (by omega)]; rfl
      · rw [if_neg d, if_pos (by omega)]; rfl
    · rw [mAt_f c, cnt_z c, Int32.xor_zero]
/-- the parity right of edge e at the height h + 1/2 -/
theorem par_H {N e : Nat} {x y : Nat → Int32} {D h : Int} {c : Nat → Int} (H : ringP N x y) (hD : 0 < D) (hc : ∀ e, e < N → (y (nxI N e)).toInt - (y e).toInt ≠ 0 → c e * ((y (nxI N e)).toInt - (y e).toInt) = D) (he : e < N) (se : spH N y h e) : (if cntP (fun f => spH N y h f ∧ ZH N x y D c h e < ZH N x y D c h f) N % 2 = 1 then 1 else 0) ^^^ mAt (upH N y h e) 1 = ER N x y 0 := by
  obtain ⟨r1, r2⟩ := sr_ok se
  rw [← ER_all H e he, ← ER_P H he r1 r2, ← xo_cnt]
  congr 1
  · apply xo_ext
    intro f hf
    have k := (cmp_H (x := x) hD hc he hf se).1
    by_cases q : spH N y h f ∧ ZH N x y D c h e < ZH N x y D c h f
    · rw [mAt_t q, mAt_t ⟨fun z => by rw [z] at q; omega, k.mpr q⟩]
    · rw [mAt_f q, mAt_f (fun z => q (k.mp z.2))]
  · have : upH N y h e ↔ Uh ((x (nxI N e)).toInt - (x e).toInt) ((y (nxI N e)).toInt - (y e).toInt) := by
      unfold spH upH dnH at se; unfold upH Uh; omega
    rw [propext this]
theorem cnt_one {p q : Nat → Prop} {e : Nat} : ∀ {N : Nat}, e < N → (∀ f, f < N → f ≠ e → (p f ↔ q f)) → p e → ¬ q e → cntP p N = cntP q N + 1 := by
  intro N
  induction N with
  | zero => intro h; omega
  | succ N ih =>
    intro he h1 h2 h3
    by_cases c : e = N
    · subst c
      rw [cnt_s h2, cnt_z h3]
      have a := cnt_le (p := p) (q := q) (n := e) (fun f hf z => (h1 f (by omega) (by omega)).mp z)
      have b := cnt_le (p := q) (q := p) (n := e) (fun f hf z => (h1 f (by omega) (by omega)).mpr z)
      omega
    · have := ih (by omega) (fun f hf => h1 f (by omega)) h2 h3
      have k := h1 N (by omega) (fun z => c z.symm)
      by_cases d : p N
      · rw [cnt_s d, cnt_s (k.mp d), this]
      · rw [cnt_z d, cnt_z (fun z => d (k.mpr z)), this]
theorem cnt_eq {p q : Nat → Prop} {N : Nat} (h : ∀ f, f < N → (p f ↔ q f)) : cntP p N = cntP q N := by
  have a := cnt_le (p := p) (q := q) (n := N) (fun f hf z => (h f hf).mp z)
  have b := cnt_le (p := q) (q := p) (n := N) (fun f hf z => (h f hf).mpr z)
  omega
theorem sumZ_one {g h : Nat → Int} {e : Nat} {d : Int} : ∀ {N : Nat}, e < N → (∀ f, f < N → f ≠ e → g f = h f) → g e = h e + d → sumZ g N = sumZ h N + d := by
  intro N
  induction N with
  | zero => intro h; omega
  | succ N ih =>
    intro he h1 h2
    show sumZ g N + g N = sumZ h N + h N + d
    by_cases c : e = N
    · subst c
      rw [sumZ_ext (h := h) (fun f hf => h1 f (by omega) (by omega)), h2]; omega
    · rw [ih (by omega) (fun f hf => h1 f (by omega)) h2, h1 N (by omega) (fun z => c z.symm)]; omega
noncomputable def sgH (N : Nat) (y : Nat → Int32) (h : Int) (e : Nat) : Int := if dB (upH N y h e) = true then 1 else -1
noncomputable def wH (N : Nat) (x y : Nat → Int32) (D : Int) (c : Nat → Int) (h τ : Int) : Int := sumZ (fun e => if dB (spH N y h e ∧ τ ≤ ZH N x y D c h e) = true then sgH N y h e else 0) N
noncomputable def cH (N : Nat) (x y : Nat → Int32) (D : Int) (c : Nat → Int) (h τ : Int) : Nat := cntP (fun e => spH N y h e ∧ τ ≤ ZH N x y D c h e) N
noncomputable def kap (N : Nat) (x y : Nat → Int32) : Int := if ER N x y 0 = 1 then 1 else -1
/-- the layers: from a height and place on, the edges cancel but for one at most -/
theorem layer {N : Nat} {x y : Nat → Int32} {D h B : Int} {c : Nat → Int} (H : ringP N x y) (hD : 0 < D) (hc : ∀ e, e < N → (y (nxI N e)).toInt - (y e).toInt ≠ 0 → c e * ((y (nxI N e)).toInt - (y e).toInt) = D) (hB : ∀ e, e < N → spH N y h e → ZH N x y D c h e < B) : ∀ i : Nat, kap N x y * wH N x y D c h (B - i) = ((cH N x y D c h (B - i) % 2 : Nat) : Int) ∧ cH N x y D c h (B - i) ≤ cH N x y D c h (B - (i + 1 : Nat)) ∧ cH N x y D c h (B - (i + 1 : Nat)) ≤ cH N x y D c h (B - i) + 1 := by
  have step : ∀ i : Nat, (cH N x y D c h (B - (i + 1 : Nat)) = cH N x y D c h (B - i) ∧ wH N x y D c h (B - (i + 1 : Nat)) = wH N x y D c h (B - i)) ∨ (∃ e, e < N ∧ spH N y h e ∧ cH N x y D c h (B - (i + 1 : Nat)) = cH N x y D c h (B - i) + 1 ∧ wH N x y D c h (B - (i + 1 : Nat)) = wH N x y D c h (B - i) + sgH N y h e ∧ cH N x y D c h (B - i) = cntP (fun f => spH N y h f ∧ ZH N x y D c h e < ZH N x y D c h f) N) := by
    intro i
    by_cases q : ∃ e, e < N ∧ spH N y h e ∧ ZH N x y D c h e = B - (i + 1 : Nat)
    · obtain ⟨e, he, se, ze⟩ := q
      right
      have oth : ∀ f, f < N → f ≠ e → ((spH N y h f ∧ B - (i + 1 : Nat) ≤ ZH N x y D c h f) ↔ (spH N y h f ∧ B - i ≤ ZH N x y D c h f)) := by
        intro f hf hfe
        constructor
        · rintro ⟨z1, z2⟩
          have := no_tie H hD hc he hf (Ne.symm hfe) se z1
          exact ⟨z1, by omega⟩
        · rintro ⟨z1, z2⟩; exact ⟨z1, by omega⟩
      have ye : spH N y h e ∧ B - (i + 1 : Nat) ≤ ZH N x y D c h e := ⟨se, by omega⟩
      have no : ¬ (spH N y h e ∧ B - i ≤ ZH N x y D c h e) := fun z => by omega
      refine ⟨e, he, se, cnt_one he oth ye no, ?_, ?_⟩
      · apply sumZ_one he
        · intro f hf hfe
          rw [dB_c (oth f hf hfe)]
        · rw [if_pos (dB_t ye), if_neg (fun z => no (dB_i.mp z))]; omega
      · apply cnt_eq
        intro f hf
        constructor
        · rintro ⟨z1, z2⟩; exact ⟨z1, by omega⟩
        · rintro ⟨z1, z2⟩; exact ⟨z1, by omega⟩
    · left
      have oth : ∀ f, f < N → ((spH N y h f ∧ B - (i + 1 : Nat) ≤ ZH N x y D c h f) ↔ (spH N y h f ∧ B - i ≤ ZH N x y D c h f)) := by
        intro f hf
        constructor
        · rintro ⟨z1, z2⟩
          refine ⟨z1, ?_⟩
          apply Classical.byContradiction
          intro z
          exact q ⟨f, hf, z1, by omega⟩
        · rintro ⟨z1, z2⟩; exact ⟨z1, by omega⟩
      refine ⟨cnt_eq oth, sumZ_ext (fun f hf => ?_)⟩
      rw [dB_c (oth f hf)]
  intro i
  refine ⟨?_, ?_⟩
  · induction i with
    | zero =>
      have none : ∀ f, f < N → ¬ (spH N y h f ∧ B - (0 : Nat) ≤ ZH N x y D c h f) := fun f hf z => by
        have := hB f hf z.1
        omega
      have c0 : cH N x y D c h (B - (0 : Nat)) = 0 := by
        have := cnt_eq (p := fun e => spH N y h e ∧ B - (0 : Nat) ≤ ZH N x y D c h e) (q := fun _ => False) (N := N) (fun f hf => ⟨fun z => none f hf z, fun z => z.elim⟩)
        unfold cH
        rw [this]
        have z : ∀ M, cntP (fun _ => False) M = 0 := by
          intro M
          induction M with
          | zero => rfl
          | succ M ih => rw [cnt_z (fun z => z), ih]
        exact z N
      have w0 : wH N x y D c h (B - (0 : Nat)) = 0 := by
        unfold wH
        rw [sumZ_ext (h := fun _ => 0) (fun f hf => if_neg (fun z => none f hf (dB_i.mp z)))]
        have z : ∀ M, sumZ (fun _ => 0) M = 0 := by
          intro M
          induction M with
          | zero => rfl
          | succ M ih => show sumZ (fun _ => 0) M + 0 = 0; rw [ih]; rfl
        exact z N
      rw [c0, w0, Int.mul_zero]; rfl
    | succ i ih =>
      rcases step i with ⟨s1, s2⟩ | ⟨e, he, se, s1, s2, s3⟩
      · rw [s1, s2]; exact ih
      · rw [s1, s2, Int.mul_add, ih]
        have pr := par_H H hD hc he se
        rw [← s3] at pr
        unfold kap sgH
        by_cases u : upH N y h e
        · rw [mAt_t u] at pr
          rw [if_pos (dB_t u)]
          by_cases d : cH N x y D c h (B - i) % 2 = 1
          · rw [if_pos d] at pr
            rw [← pr, if_neg (by decide)]
            omega
          · rw [if_neg d] at pr
            rw [← pr, if_pos (by decide)]
            omega
        · rw [mAt_f u] at pr
          rw [if_neg (fun z => u (dB_i.mp z))]
          by_cases d : cH N x y D c h (B - i) % 2 = 1
          · rw [if_pos d] at pr
            rw [← pr, if_pos (by decide)]
            omega
          · rw [if_neg d] at pr
            rw [← pr, if_neg (by decide)]
            omega
  · rcases step i with ⟨s1, s2⟩ | ⟨e, he, se, s1, s2, s3⟩
    · rw [s1]; omega
    · rw [s1]; omega
