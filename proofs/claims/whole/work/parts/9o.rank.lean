/-! half B, G1: ranks of the pieces round a place, and the first boundary piece to the right -/
noncomputable def cntP (p : Nat → Prop) : Nat → Nat
  | 0 => 0
  | n + 1 => cntP p n + if dB (p n) = true then 1 else 0
theorem cnt_le {p q : Nat → Prop} : ∀ {n : Nat}, (∀ f, f < n → p f → q f) → cntP p n ≤ cntP q n := by
  intro n
  induction n with
  | zero => intro _; exact Nat.le_refl _
  | succ n ih =>
    intro h
    have h1 := ih (fun f hf => h f (by omega))
    show cntP p n + _ ≤ cntP q n + _
    by_cases c : p n
    · rw [if_pos (dB_t c), if_pos (dB_t (h n (by omega) c))]; omega
    · rw [if_neg (fun z => c (dB_i.mp z))]; omega
theorem cnt_lt {p q : Nat → Prop} {g : Nat} : ∀ {n : Nat}, (∀ f, f < n → p f → q f) → g < n → q g → ¬ p g → cntP p n < cntP q n := by
  intro n
  induction n with
  | zero => intro _ h; omega
  | succ n ih =>
    intro h hg h1 h2
    show cntP p n + _ < cntP q n + _
    by_cases c : g = n
    · subst c
      have h3 := cnt_le (p := p) (q := q) (n := g) (fun f hf => h f (by omega))
      rw [if_neg (fun z => h2 (dB_i.mp z)), if_pos (dB_t h1)]; omega
    · have h3 := ih (fun f hf => h f (by omega)) (by omega) h1 h2
      by_cases c : p n
      · rw [if_pos (dB_t c), if_pos (dB_t (h n (by omega) c))]; omega
      · rw [if_neg (fun z => c (dB_i.mp z))]; omega
theorem cnt_n {p : Nat → Prop} : ∀ {n : Nat}, cntP p n ≤ n := by
  intro n
  induction n with
  | zero => exact Nat.le_refl _
  | succ n ih =>
    show cntP p n + _ ≤ n + 1
    split <;> omega
noncomputable def rkD (n : Nat) (S : Nat → Prop) (lt : Nat → Nat → Prop) (e : Nat) : Nat := cntP (fun f => S f ∧ lt f e) n
theorem rk_lt {n : Nat} {S : Nat → Prop} {lt : Nat → Nat → Prop} (hir : ∀ e, e < n → S e → ¬ lt e e) (htr : ∀ d e f, d < n → e < n → f < n → S d → S e → S f → lt d e → lt e f → lt d f) {d e : Nat} (hd : d < n) (he : e < n) (sd : S d) (se : S e) (h : lt d e) : rkD n S lt d < rkD n S lt e :=
  cnt_lt (g := d) (fun f hf z => ⟨z.1, htr f d e hf hd he z.1 sd se z.2 h⟩) hd ⟨sd, h⟩ (fun z => hir d hd sd z.2)
theorem argmin {n : Nat} {C : Nat → Prop} {w : Nat → Nat} : ∀ N, (∃ e, e < n ∧ C e ∧ w e ≤ N) → ∃ j, j < n ∧ C j ∧ ∀ e, e < n → C e → w j ≤ w e := by
  intro N
  induction N with
  | zero =>
    rintro ⟨e, he, hc, hw⟩
    exact ⟨e, he, hc, fun f _ _ => by omega⟩
  | succ N ih =>
    rintro ⟨e, he, hc, hw⟩
    by_cases c : ∃ f, f < n ∧ C f ∧ w f ≤ N
    · exact ih c
    · exact ⟨e, he, hc, fun f hf hcf => by
        have : ¬ w f ≤ N := fun z => c ⟨f, hf, hcf, z⟩
        omega⟩
noncomputable def NNr (n : Nat) (S : Nat → Prop) (r : Nat → Nat) (m : Nat → Int32) (t : Nat) : Int32 := xo (fun f => mAt (S f ∧ r f < t) (m f)) n
theorem xo_one {g h : Nat → Int32} {k n : Nat} {d : Int32} (hk : k < n) (h1 : ∀ j, j < n → j ≠ k → h j = g j) (h2 : h k = g k ^^^ d) : xo h n = xo g n ^^^ d := xo_turn hk h1 h2
theorem NN_step {n k : Nat} {S : Nat → Prop} {r : Nat → Nat} {m : Nat → Int32} (inj : ∀ d e, d < n → e < n → S d → S e → r d = r e → d = e) (hk : k < n) (sk : S k) : NNr n S r m (r k + 1) = NNr n S r m (r k) ^^^ m k := by
  apply xo_one hk
  · intro j hj hjk
    by_cases c : S j ∧ r j < r k
    · rw [mAt_t (p := S j ∧ r j < r k + 1) ⟨c.1, by omega⟩, mAt_t c]
    · rw [mAt_f (p := S j ∧ r j < r k + 1) (fun z => by
        by_cases c2 : r j = r k
        · exact hjk (inj j k hj hk z.1 sk c2)
        · exact c ⟨z.1, by omega⟩), mAt_f c]
  · rw [mAt_t ⟨sk, by omega⟩, mAt_f (fun z => by omega), Int32.zero_xor]
theorem NN_no {n t : Nat} {S : Nat → Prop} {r : Nat → Nat} {m : Nat → Int32} (h : ∀ e, e < n → S e → r e ≠ t) : NNr n S r m (t + 1) = NNr n S r m t := by
  apply xo_ext
  intro j hj
  by_cases c : S j ∧ r j < t
  · rw [mAt_t (p := S j ∧ r j < t + 1) ⟨c.1, by omega⟩, mAt_t c]
  · rw [mAt_f (p := S j ∧ r j < t + 1) (fun z => by
      have := h j hj z.1
      exact c ⟨z.1, by omega⟩), mAt_f c]
theorem NN_const {n t : Nat} {S : Nat → Prop} {r : Nat → Nat} {m : Nat → Int32} {c0 : Int32} {res : Int32 → Bool} (s : Nat) (h : ∀ e, e < n → S e → t ≤ r e → r e < t + s → res (c0 ^^^ NNr n S r m (r e)) = res (c0 ^^^ NNr n S r m (r e + 1))) : res (c0 ^^^ NNr n S r m t) = res (c0 ^^^ NNr n S r m (t + s)) := by
  induction s with
  | zero => rfl
  | succ s ih =>
    rw [ih (fun e he se h1 h2 => h e he se h1 (by omega))]
    by_cases c : ∃ e, e < n ∧ S e ∧ r e = t + s
    · obtain ⟨e, he, se, hr⟩ := c
      have := h e he se (by omega) (by omega)
      rw [hr] at this
      exact this
    · have := NN_no (n := n) (t := t + s) (S := S) (r := r) (m := m) (fun e he se hr => c ⟨e, he, se, hr⟩)
      rw [← Nat.add_assoc, this]
theorem NN_0 {n : Nat} {S : Nat → Prop} {r : Nat → Nat} {m : Nat → Int32} : NNr n S r m 0 = 0 := xo_zero (fun j _ => mAt_f (fun z => by omega))
theorem NN_all {n N : Nat} {S : Nat → Prop} {r : Nat → Nat} {m : Nat → Int32} (hr : ∀ e, e < n → S e → r e < N) : NNr n S r m N = xo (fun f => mAt (S f) (m f)) n := by
  apply xo_ext
  intro j hj
  by_cases c : S j
  · rw [mAt_t c, mAt_t ⟨c, hr j hj c⟩]
  · rw [mAt_f c, mAt_f (fun z => c z.1)]
/-- clockwise from k -/
def cwR (rk rd re : Nat) : Prop := (rd < rk ∧ rk < re) ∨ ((rd < rk ↔ re < rk) ∧ re < rd)
def psi (rk N r : Nat) : Nat := if r < rk then rk - r else rk + N - r
theorem psi_cw {rk rd re N : Nat} (h1 : rd < N) (h2 : re < N) (h3 : rd ≠ rk) (h4 : re ≠ rk) : cwR rk rd re ↔ psi rk N rd < psi rk N re := by
  unfold cwR psi
  split <;> split <;> omega
theorem g1_abs {n k N : Nat} {S : Nat → Prop} {r : Nat → Nat} {m : Nat → Int32} {c0 : Int32} {res : Int32 → Bool} (hr : ∀ e, e < n → S e → r e < N) (hall : xo (fun f => mAt (S f) (m f)) n = 0) (inj : ∀ d e, d < n → e < n → S d → S e → r d = r e → d = e) (hk : k < n) (sk : S k) (k1 : res (c0 ^^^ NNr n S r m (r k)) = true) (k2 : res (c0 ^^^ NNr n S r m (r k + 1)) = false) : ∃ j, j < n ∧ S j ∧ j ≠ k ∧ (res (c0 ^^^ NNr n S r m (r j)) = false ∧ res (c0 ^^^ NNr n S r m (r j + 1)) = true) ∧ ∀ e, e < n → S e → e ≠ k → e ≠ j → res (c0 ^^^ NNr n S r m (r e)) ≠ res (c0 ^^^ NNr n S r m (r e + 1)) → psi (r k) N (r j) < psi (r k) N (r e) := by
  have hN : NNr n S r m N = NNr n S r m 0 := by rw [NN_all hr, hall, NN_0]
  have hkN := hr k hk sk
  have ex : ∃ e, e < n ∧ (S e ∧ e ≠ k ∧ res (c0 ^^^ NNr n S r m (r e)) ≠ res (c0 ^^^ NNr n S r m (r e + 1))) := by
    apply Classical.byContradiction
    intro hno
    have hno' : ∀ e, e < n → S e → e ≠ k → res (c0 ^^^ NNr n S r m (r e)) = res (c0 ^^^ NNr n S r m (r e + 1)) := by
      intro e he se ne
      apply Classical.byContradiction
      intro z
      exact hno ⟨e, he, se, ne, z⟩
    have a1 := NN_const (n := n) (t := 0) (S := S) (r := r) (m := m) (c0 := c0) (res := res) (r k) (fun e he se _ h2 => hno' e he se (fun z => by rw [z] at h2; omega))
    have a2 := NN_const (n := n) (t := r k + 1) (S := S) (r := r) (m := m) (c0 := c0) (res := res) (N - (r k + 1)) (fun e he se h1 _ => hno' e he se (fun z => by rw [z] at h1; omega))
    rw [Nat.zero_add] at a1
    rw [show r k + 1 + (N - (r k + 1)) = N by omega, hN, a1, k1, k2] at a2
    exact absurd a2 (by decide)
  obtain ⟨e0, he0, ce0⟩ := ex
  obtain ⟨j, hj, ⟨sj, njk, bj⟩, hmin⟩ := argmin (n := n) (C := fun e => S e ∧ e ≠ k ∧ res (c0 ^^^ NNr n S r m (r e)) ≠ res (c0 ^^^ NNr n S r m (r e + 1))) (w := fun e => psi (r k) N (r e)) (psi (r k) N (r e0)) ⟨e0, he0, ce0, Nat.le_refl _⟩
  have hjN := hr j hj sj
  have rjk : r j ≠ r k := fun z => njk (inj j k hj hk sj sk z)
  have hlt : ∀ e, e < n → S e → e ≠ k → e ≠ j → res (c0 ^^^ NNr n S r m (r e)) ≠ res (c0 ^^^ NNr n S r m (r e + 1)) → psi (r k) N (r j) < psi (r k) N (r e) := by
    intro e he se nek nej be
    have h1 := hmin e he ⟨se, nek, be⟩
    have h2 : r e ≠ r j := fun z => nej (inj e j he hj se sj z)
    have h3 : r e ≠ r k := fun z => nek (inj e k he hk se sk z)
    have h4 := hr e he se
    have h5 : psi (r k) N (r j) ≠ psi (r k) N (r e) := by
      unfold psi
      split <;> split <;> omega
    have h6 : psi (r k) N (r j) ≤ psi (r k) N (r e) := h1
    omega
  have jt : res (c0 ^^^ NNr n S r m (r j + 1)) = true := by
    by_cases c : r j < r k
    · have a := NN_const (n := n) (t := r j + 1) (S := S) (r := r) (m := m) (c0 := c0) (res := res) (r k - (r j + 1)) (fun e he se h1 h2 => by
        apply Classical.byContradiction
        intro z
        have ne1 : e ≠ k := fun w => by rw [w] at h2; omega
        have ne2 : e ≠ j := fun w => by rw [w] at h1; omega
        have l := hlt e he se ne1 ne2 z
        unfold psi at l
        rw [if_pos c, if_pos (by omega)] at l
        omega)
      rw [a, show r j + 1 + (r k - (r j + 1)) = r k by omega, k1]
    · have a1 := NN_const (n := n) (t := 0) (S := S) (r := r) (m := m) (c0 := c0) (res := res) (r k) (fun e he se _ h2 => by
        apply Classical.byContradiction
        intro z
        have ne1 : e ≠ k := fun w => by rw [w] at h2; omega
        have ne2 : e ≠ j := fun w => by rw [w] at h2; omega
        have l := hlt e he se ne1 ne2 z
        unfold psi at l
        rw [if_neg c, if_pos (by omega)] at l
        omega)
      have a2 := NN_const (n := n) (t := r j + 1) (S := S) (r := r) (m := m) (c0 := c0) (res := res) (N - (r j + 1)) (fun e he se h1 _ => by
        apply Classical.byContradiction
        intro z
        have ne1 : e ≠ k := fun w => by rw [w] at h1; omega
        have ne2 : e ≠ j := fun w => by rw [w] at h1; omega
        have l := hlt e he se ne1 ne2 z
        have := hr e he se
        unfold psi at l
        rw [if_neg c, if_neg (by omega)] at l
        omega)
      rw [Nat.zero_add] at a1
      rw [a2, show r j + 1 + (N - (r j + 1)) = N by omega, hN, a1, k1]
  refine ⟨j, hj, sj, njk, ⟨?_, jt⟩, hlt⟩
  cases hc : res (c0 ^^^ NNr n S r m (r j))
  · rfl
  · exact absurd (hc.trans jt.symm) bj
