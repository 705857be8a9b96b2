/-! half B, G2: a ring's area is not 0 -/
theorem sumZ_nx (g : Nat → Int) {N : Nat} (hN : 0 < N) : sumZ (fun e => g (nxI N e)) N = sumZ g N := by
  have e1 := sumZ_add (fun e => g (nxI N e)) (N - 1) 1
  have e2 := sumZ_add g 1 (N - 1)
  rw [show N - 1 + 1 = N by omega] at e1
  rw [show 1 + (N - 1) = N by omega] at e2
  have f1 : sumZ (fun e => g (nxI N e)) (N - 1) = sumZ (fun t => g (1 + t)) (N - 1) := sumZ_ext (fun t ht => by
    show g (nxI N t) = g (1 + t)
    unfold nxI; rw [if_pos (by omega), Nat.add_comm])
  have f2 : sumZ (fun t => g (nxI N (N - 1 + t))) 1 = sumZ g 1 := by
    show (0 : Int) + g (nxI N (N - 1 + 0)) = 0 + g 0
    unfold nxI; rw [if_neg (by omega)]
  rw [e1, e2, f1, f2]; omega
theorem sumZ_plus (g h : Nat → Int) : ∀ n, sumZ (fun e => g e + h e) n = sumZ g n + sumZ h n := by
  intro n
  induction n with
  | zero => rfl
  | succ n ih =>
    show sumZ (fun e => g e + h e) n + (g n + h n) = (sumZ g n + g n) + (sumZ h n + h n)
    rw [ih]; omega
theorem sumZ_mul (k : Int) (g : Nat → Int) : ∀ n, sumZ (fun e => k * g e) n = k * sumZ g n := by
  intro n
  induction n with
  | zero => show (0 : Int) = k * 0; rw [Int.mul_zero]
  | succ n ih =>
    show sumZ (fun e => k * g e) n + k * g n = k * (sumZ g n + g n)
    rw [ih, Int.mul_add]
theorem sumZ_swap (g : Nat → Nat → Int) (N : Nat) : ∀ M, sumZ (fun i => sumZ (fun e => g i e) N) M = sumZ (fun e => sumZ (fun i => g i e) M) N := by
  intro M
  induction M with
  | zero =>
    have z : ∀ n, sumZ (fun _ => 0) n = 0 := by
      intro n
      induction n with
      | zero => rfl
      | succ n ih => show sumZ (fun _ => 0) n + 0 = 0; rw [ih]; rfl
    exact (z N).symm
  | succ M ih =>
    show sumZ (fun i => sumZ (fun e => g i e) N) M + sumZ (fun e => g M e) N = _
    rw [ih, ← sumZ_plus]
    rfl
theorem sumZ_ge {k : Int} (hk : 0 ≤ k) : ∀ M : Nat, sumZ (fun i => if k ≤ (i : Int) then 1 else 0) M = if k ≤ (M : Int) then (M : Int) - k else 0 := by
  intro M
  induction M with
  | zero =>
    show (0 : Int) = _
    split <;> omega
  | succ M ih =>
    show sumZ (fun i => if k ≤ (i : Int) then 1 else 0) M + (if k ≤ (M : Int) then 1 else 0) = _
    rw [ih]
    split <;> split <;> omega
theorem sumZ_le {g : Nat → Int} {b : Int} : ∀ {M : Nat}, (∀ i, i < M → g i ≤ b) → sumZ g M ≤ M * b := by
  intro M
  induction M with
  | zero => intro _; show (0 : Int) ≤ _; simp
  | succ M ih =>
    intro h
    have h1 := ih (fun i hi => h i (by omega))
    have h2 := h M (by omega)
    show sumZ g M + g M ≤ _
    have : ((M + 1 : Nat) : Int) * b = M * b + b := by
      rw [show ((M + 1 : Nat) : Int) = (M : Int) + 1 by omega, Int.add_mul, Int.one_mul]
    omega
theorem sumZ_pos {g : Nat → Int} : ∀ {M : Nat}, (∀ i, i < M → 0 ≤ g i) → 0 ≤ sumZ g M := by
  intro M
  induction M with
  | zero => intro _; exact Int.le_refl _
  | succ M ih =>
    intro h
    have h1 := ih (fun i hi => h i (by omega))
    have h2 := h M (by omega)
    show 0 ≤ sumZ g M + g M
    omega
theorem sumZ_get {g : Nat → Int} {j : Nat} : ∀ {M : Nat}, (∀ i, i < M → 0 ≤ g i) → j < M → g j ≤ sumZ g M := by
  intro M
  induction M with
  | zero => intro _ h; omega
  | succ M ih =>
    intro h hj
    show g j ≤ sumZ g M + g M
    by_cases c : j = M
    · have := sumZ_pos (M := M) (fun i hi => h i (by omega))
      rw [c]; omega
    · have h1 := ih (fun i hi => h i (by omega)) (by omega)
      have h2 := h M (by omega)
      omega
/-- the sum of the signed places at a height -/
noncomputable def SH (N : Nat) (x y : Nat → Int32) (D : Int) (c : Nat → Int) (h : Int) : Int := sumZ (fun e => if dB (spH N y h e) = true then sgH N y h e * ZH N x y D c h e else 0) N
theorem sg_sum {N : Nat} {y : Nat → Int32} {h : Int} (hN : 0 < N) : sumZ (fun e => if dB (spH N y h e) = true then sgH N y h e else 0) N = 0 := by
  have e1 : sumZ (fun e => if dB (spH N y h e) = true then sgH N y h e else 0) N = sumZ (fun e => (if h < (y (nxI N e)).toInt then 1 else 0) + -1 * (if h < (y e).toInt then 1 else 0)) N := by
    apply sumZ_ext
    intro e _
    unfold sgH
    by_cases c : spH N y h e
    · rw [if_pos (dB_t c)]
      by_cases u : upH N y h e
      · rw [if_pos (dB_t u)]
        unfold upH at u
        rw [if_pos (by omega), if_neg (by omega)]; rfl
      · rw [if_neg (fun z => u (dB_i.mp z))]
        unfold spH upH dnH at c
        unfold upH at u
        rw [if_neg (by omega), if_pos (by omega)]; rfl
    · rw [if_neg (fun z => c (dB_i.mp z))]
      unfold spH upH dnH at c
      split <;> split <;> omega
  rw [e1, sumZ_plus, sumZ_mul, sumZ_nx (fun e => if h < (y e).toInt then 1 else 0) hN]
  omega
theorem SH_lay {N Bn : Nat} {x y : Nat → Int32} {D h : Int} {c : Nat → Int} (hN : 0 < N) (hB : ∀ e, e < N → spH N y h e → -(Bn : Int) < ZH N x y D c h e ∧ ZH N x y D c h e < Bn) : sumZ (fun i => wH N x y D c h ((Bn : Int) - (i : Nat))) (2 * Bn) = SH N x y D c h := by
  unfold wH
  rw [sumZ_swap]
  have e1 : sumZ (fun e => sumZ (fun i => if dB (spH N y h e ∧ (Bn : Int) - (i : Nat) ≤ ZH N x y D c h e) = true then sgH N y h e else 0) (2 * Bn)) N = sumZ (fun e => (if dB (spH N y h e) = true then sgH N y h e * ZH N x y D c h e else 0) + Bn * (if dB (spH N y h e) = true then sgH N y h e else 0)) N := by
    apply sumZ_ext
    intro e he
    by_cases s : spH N y h e
    · obtain ⟨b1, b2⟩ := hB e he s
      rw [if_pos (dB_t s), if_pos (dB_t s)]
      have e2 : sumZ (fun i => if dB (spH N y h e ∧ (Bn : Int) - (i : Nat) ≤ ZH N x y D c h e) = true then sgH N y h e else 0) (2 * Bn) = sumZ (fun i => sgH N y h e * if (Bn : Int) - ZH N x y D c h e ≤ (i : Int) then 1 else 0) (2 * Bn) := by
        apply sumZ_ext
        intro i _
        by_cases q : (Bn : Int) - ZH N x y D c h e ≤ (i : Int)
        · rw [if_pos (dB_t ⟨s, by omega⟩), if_pos q, Int.mul_one]
        · rw [if_neg (fun z => by have := (dB_i.mp z).2; omega), if_neg q, Int.mul_zero]
      rw [e2, sumZ_mul, sumZ_ge (by omega), if_pos (by omega)]
      have : ((2 * Bn : Nat) : Int) - ((Bn : Int) - ZH N x y D c h e) = ZH N x y D c h e + Bn := by omega
      rw [this, Int.mul_add, Int.mul_comm (sgH N y h e) Bn]
    · rw [if_neg (fun z => s (dB_i.mp z)), if_neg (fun z => s (dB_i.mp z)), Int.mul_zero]
      have e2 : sumZ (fun i => if dB (spH N y h e ∧ (Bn : Int) - (i : Nat) ≤ ZH N x y D c h e) = true then sgH N y h e else 0) (2 * Bn) = sumZ (fun _ => 0 * 0) (2 * Bn) := by
        apply sumZ_ext
        intro i _
        rw [if_neg (fun z => s (dB_i.mp z).1)]; rfl
      rw [e2, sumZ_mul, Int.zero_mul]; rfl
  rw [e1, sumZ_plus, sumZ_mul, sg_sum hN, Int.mul_zero, Int.add_zero]
  rfl
/-- kap times the sum at a height: not less than 0, not too large, more than 0 where an edge crosses -/
theorem SH_sgn {N Bn : Nat} {x y : Nat → Int32} {D h : Int} {c : Nat → Int} (H : ringP N x y) (hN : 0 < N) (hD : 0 < D) (hc : ∀ e, e < N → (y (nxI N e)).toInt - (y e).toInt ≠ 0 → c e * ((y (nxI N e)).toInt - (y e).toInt) = D) (hB : ∀ e, e < N → spH N y h e → -(Bn : Int) < ZH N x y D c h e ∧ ZH N x y D c h e < Bn) : 0 ≤ kap N x y * SH N x y D c h ∧ kap N x y * SH N x y D c h ≤ ((2 * Bn : Nat) : Int) ∧ ((∃ e, e < N ∧ spH N y h e) → 0 < kap N x y * SH N x y D c h) := by
  have L := layer (B := (Bn : Int)) H hD hc (fun e he s => (hB e he s).2)
  have e1 : kap N x y * SH N x y D c h = sumZ (fun i => ((cH N x y D c h ((Bn : Int) - (i : Nat)) % 2 : Nat) : Int)) (2 * Bn) := by
    rw [← SH_lay hN hB, ← sumZ_mul]
    apply sumZ_ext
    intro i _
    exact (L i).1
  rw [e1]
  refine ⟨sumZ_pos (fun i _ => by omega), ?_, ?_⟩
  · have := sumZ_le (g := fun i => ((cH N x y D c h ((Bn : Int) - (i : Nat)) % 2 : Nat) : Int)) (b := 1) (M := 2 * Bn) (fun i _ => by
      show ((cH N x y D c h ((Bn : Int) - (i : Nat)) % 2 : Nat) : Int) ≤ 1
      omega)
    omega
  · rintro ⟨e, he, se⟩
    obtain ⟨b1, b2⟩ := hB e he se
    -- a first layer that holds an edge
    have fl : ∀ i : Nat, 0 < cH N x y D c h ((Bn : Int) - (i : Nat)) → ∃ j : Nat, j ≤ i ∧ cH N x y D c h ((Bn : Int) - (j : Nat)) = 1 := by
      intro i
      induction i with
      | zero =>
        intro h0
        exfalso
        have : cH N x y D c h ((Bn : Int) - (0 : Nat)) = 0 := by
          have z : ∀ M, cntP (fun _ => False) M = 0 := by
            intro M
            induction M with
            | zero => rfl
            | succ M ih => rw [cnt_z (fun z => z), ih]
          unfold cH
          rw [cnt_eq (q := fun _ => False) (fun f hf => ⟨fun z => by have := (hB f hf z.1).2; omega, fun z => z.elim⟩), z]
        omega
      | succ i ih =>
        intro h0
        by_cases q : 0 < cH N x y D c h ((Bn : Int) - (i : Nat))
        · obtain ⟨j, hj, hj1⟩ := ih q
          exact ⟨j, by omega, hj1⟩
        · have := (L i).2
          exact ⟨i + 1, Nat.le_refl _, by omega⟩
    have hc1 : 0 < cH N x y D c h ((Bn : Int) - ((2 * Bn - 1 : Nat) : Nat)) := by
      have k := cnt_lt (p := fun _ => False) (q := fun e => spH N y h e ∧ (Bn : Int) - ((2 * Bn - 1 : Nat) : Nat) ≤ ZH N x y D c h e) (g := e) (n := N) (fun f _ z => z.elim) he ⟨se, by omega⟩ (fun z => z)
      unfold cH
      omega
    obtain ⟨j, hj, hj1⟩ := fl (2 * Bn - 1) hc1
    have := sumZ_get (g := fun i => ((cH N x y D c h ((Bn : Int) - (i : Nat)) % 2 : Nat) : Int)) (j := j) (M := 2 * Bn) (fun i _ => by
      show 0 ≤ ((cH N x y D c h ((Bn : Int) - (i : Nat)) % 2 : Nat) : Int)
      omega) (by omega)
    simp only [hj1] at this
    omega
