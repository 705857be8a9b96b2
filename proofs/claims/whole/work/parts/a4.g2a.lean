/-! half B, G2: one side of a ring is inside all along -/
/-- a ring of N points: its edges do not clash -/
def ringP (N : Nat) (x y : Nat → Int32) : Prop := (∀ i, i < N → inB (x i) ∧ inB (y i)) ∧ (∀ i j, i < N → j < N → x i = x j → y i = y j → i = j) ∧ (∀ i, i < N → nxI N i ≠ i) ∧ (∀ i j, i < N → j < N → i ≠ j → ¬ clash (x i) (y i) (x (nxI N i)) (y (nxI N i)) (x j) (y j) (x (nxI N j)) (y (nxI N j)) ∧ ¬ sameP (x i) (y i) (x (nxI N i)) (y (nxI N i)) (x j) (y j) (x (nxI N j)) (y (nxI N j)))
theorem xo_add (g : Nat → Int32) (a b : Nat) : xo g (a + b) = xo g a ^^^ xo (fun t => g (a + t)) b := by
  induction b with
  | zero => show _ = _ ^^^ 0; rw [Int32.xor_zero]; rfl
  | succ b ih =>
    show xo g (a + b) ^^^ g (a + b) = xo g a ^^^ (xo (fun t => g (a + t)) b ^^^ g (a + b))
    rw [ih, x32a]
theorem xo_nx (g : Nat → Int32) {N : Nat} (hN : 0 < N) : xo (fun e => g (nxI N e)) N = xo g N := by
  have e1 := xo_add (fun e => g (nxI N e)) (N - 1) 1
  have e2 := xo_add g 1 (N - 1)
  rw [show N - 1 + 1 = N by omega] at e1
  rw [show 1 + (N - 1) = N by omega] at e2
  have f1 : xo (fun e => g (nxI N e)) (N - 1) = xo (fun t => g (1 + t)) (N - 1) := xo_ext (fun t ht => by
    show g (nxI N t) = g (1 + t)
    unfold nxI; rw [if_pos (by omega), Nat.add_comm])
  have f2 : xo (fun t => g (nxI N (N - 1 + t))) 1 = xo g 1 := by
    show (0 : Int32) ^^^ g (nxI N (N - 1 + 0)) = 0 ^^^ g 0
    unfold nxI; rw [if_neg (by omega)]
  rw [e1, e2, f1, f2, x32c]
theorem xo_sg {f : Nat → Int32} {N k : Nat} (hk : k < N) (h : ∀ e, e < N → e ≠ k → f e = 0) : xo f N = f k := by
  have := xo_turn (g := fun _ => 0) (h := f) (k := k) (d := f k) hk (fun j hj hjk => h j hj hjk) (by rw [Int32.zero_xor])
  rw [this, xo_zero (fun _ _ => rfl), Int32.zero_xor]
theorem nx_pv {N i : Nat} (hi : i < N) : nxI N (pvI N i) = i ∧ pvI N (nxI N i) = i := by
  unfold nxI pvI
  constructor
  · split <;> split <;> omega
  · split <;> (try split) <;> omega
theorem nxI_inj {N i j : Nat} (hi : i < N) (hj : j < N) (h : nxI N i = nxI N j) : i = j := by
  rw [← (nx_pv hi).2, ← (nx_pv hj).2, h]
def tkv (x y s t : Int) : Prop := (0 ≤ y ∧ 0 < t ∧ cr2 x y s t < 0) ∨ (y < 0 ∧ t ≤ 0 ∧ 0 < cr2 x y s t)
theorem rho_sc {x y a b c d s : Int} (hs : 0 < s) : rho (s * x) (s * y) (s * a) (s * b) (s * c) (s * d) ↔ rho x y a b c d := by
  have e : crs (s * a) (s * b) (s * c) (s * d) (s * x) (s * y) = (s * s) * crs a b c d x y := by unfold crs; grind
  have p : 0 < s * s := Int.mul_pos hs hs
  have l : ∀ u v : Int, s * u ≤ s * v ↔ u ≤ v := fun u v => ⟨fun z => Int.le_of_mul_le_mul_left z hs, fun z => Int.mul_le_mul_of_nonneg_left z (by omega)⟩
  have k1 : 0 < (s * s) * crs a b c d x y ↔ 0 < crs a b c d x y := ⟨fun z => Int.pos_of_mul_pos_right z (by omega), fun z => Int.mul_pos p z⟩
  have k2 : (s * s) * crs a b c d x y < 0 ↔ crs a b c d x y < 0 := by
    constructor
    · intro z
      rcases Int.lt_or_le (crs a b c d x y) 0 with w | w
      · exact w
      · have := Int.mul_nonneg (show 0 ≤ s * s by omega) w; omega
    · intro z; exact Int.mul_neg_of_pos_of_neg p z
  have l1 := l b y; have l2 := l d y
  unfold rho
  rw [e, k1, k2, l1]
  constructor
  · rintro (⟨z1, z2, z3⟩ | ⟨z1, z2, z3⟩)
    · exact Or.inl ⟨z1, by omega, z3⟩
    · exact Or.inr ⟨by omega, by omega, z3⟩
  · rintro (⟨z1, z2, z3⟩ | ⟨z1, z2, z3⟩)
    · exact Or.inl ⟨z1, by omega, z3⟩
    · exact Or.inr ⟨by omega, by omega, z3⟩
theorem tkD_sc {u1 u2 w1 w2 f1 f2 s r : Int} (hr : 0 < r) (hs : 0 < s) : tkD (s * u1 + r * (w1 - u1)) (s * u2 + r * (w2 - u2)) (s * u1) (s * u2) (s * f1) (s * f2) ↔ tkv (w1 - u1) (w2 - u2) (f1 - u1) (f2 - u2) := by
  have e : crs (s * u1) (s * u2) (s * u1 + r * (w1 - u1)) (s * u2 + r * (w2 - u2)) (s * f1) (s * f2) = (s * r) * cr2 (w1 - u1) (w2 - u2) (f1 - u1) (f2 - u2) := by unfold crs cr2; grind
  have p : 0 < s * r := Int.mul_pos hs hr
  have k1 : 0 < (s * r) * cr2 (w1 - u1) (w2 - u2) (f1 - u1) (f2 - u2) ↔ 0 < cr2 (w1 - u1) (w2 - u2) (f1 - u1) (f2 - u2) := ⟨fun z => Int.pos_of_mul_pos_right z (by omega), fun z => Int.mul_pos p z⟩
  have k2 : (s * r) * cr2 (w1 - u1) (w2 - u2) (f1 - u1) (f2 - u2) < 0 ↔ cr2 (w1 - u1) (w2 - u2) (f1 - u1) (f2 - u2) < 0 := by
    constructor
    · intro z
      rcases Int.lt_or_le (cr2 (w1 - u1) (w2 - u2) (f1 - u1) (f2 - u2)) 0 with w | w
      · exact w
      · have := Int.mul_nonneg (show 0 ≤ s * r by omega) w; omega
    · intro z; exact Int.mul_neg_of_pos_of_neg p z
  have l1 : s * u2 ≤ s * f2 ↔ u2 ≤ f2 := ⟨fun z => Int.le_of_mul_le_mul_left z hs, fun z => Int.mul_le_mul_of_nonneg_left z (by omega)⟩
  have l2 : s * f2 ≤ s * u2 ↔ f2 ≤ u2 := ⟨fun z => Int.le_of_mul_le_mul_left z hs, fun z => Int.mul_le_mul_of_nonneg_left z (by omega)⟩
  have l3 : r * (w2 - u2) < 0 ↔ w2 - u2 < 0 := by
    constructor
    · intro z
      rcases Int.lt_or_le (w2 - u2) 0 with w | w
      · exact w
      · have := Int.mul_nonneg (show 0 ≤ r by omega) w; omega
    · intro z; exact Int.mul_neg_of_pos_of_neg hr z
  unfold tkD tkv
  rw [e, k1, k2]
  constructor
  · rintro (⟨z1, z2, z3⟩ | ⟨z1, z2, z3⟩)
    · exact Or.inl ⟨by omega, by omega, z3⟩
    · exact Or.inr ⟨by omega, by omega, z3⟩
  · rintro (⟨z1, z2, z3⟩ | ⟨z1, z2, z3⟩)
    · exact Or.inl ⟨by omega, by omega, z3⟩
    · exact Or.inr ⟨by omega, by omega, z3⟩
/-- what the ray from the end v of an edge sees of the edges that do not end there -/
noncomputable def c0R (N : Nat) (x y : Nat → Int32) (v : Nat) : Int32 := xo (fun e => mAt (¬ (e = v ∨ nxI N e = v) ∧ rho (x v).toInt (y v).toInt (x e).toInt (y e).toInt (x (nxI N e)).toInt (y (nxI N e)).toInt) 1) N
/-- the ray from a point of edge k, seen from its end v; w the other end, k' the other edge at v, f its far end -/
theorem ring_ray {N k v w k' f : Nat} {x y : Nat → Int32} {s r : Int} (H : ringP N x y) (hk : k < N) (hv : v < N) (hw : w < N) (hk' : k' < N) (hf : f < N) (hr : 0 < r) (hs : r < s) (hkk : k' ≠ k) (hvw : (v = k ∧ w = nxI N k ∧ nxI N k' = v ∧ f = k') ∨ (w = k ∧ v = nxI N k ∧ k' = v ∧ f = nxI N k')) : xo (fun e => mAt (e ≠ k ∧ rho (s * (x v).toInt + r * ((x w).toInt - (x v).toInt)) (s * (y v).toInt + r * ((y w).toInt - (y v).toInt)) (s * (x e).toInt) (s * (y e).toInt) (s * (x (nxI N e)).toInt) (s * (y (nxI N e)).toInt)) 1) N = c0R N x y v ^^^ mAt (tkv ((x w).toInt - (x v).toInt) ((y w).toInt - (y v).toInt) ((x f).toInt - (x v).toInt) ((y f).toInt - (y v).toInt)) 1 := by
  obtain ⟨H1, H2, H3, H4⟩ := H
  have hs0 : 0 < s := by omega
  have ptE : ∀ i, i < N → (((s * (x i).toInt = s * (x v).toInt) ∧ (s * (y i).toInt = s * (y v).toInt)) ↔ i = v) := by
    intro i hi
    constructor
    · intro z
      exact H2 i v hi hv (i32eq.mpr (Int.eq_of_mul_eq_mul_left (by omega) z.1)) (i32eq.mpr (Int.eq_of_mul_eq_mul_left (by omega) z.2))
    · intro z; rw [z]; exact ⟨rfl, rfl⟩
  have atI : ∀ e, e < N → (atE (s * (x e).toInt) (s * (y e).toInt) (s * (x (nxI N e)).toInt) (s * (y (nxI N e)).toInt) (s * (x v).toInt) (s * (y v).toInt) ↔ (e = v ∨ nxI N e = v)) := by
    intro e he
    unfold atE
    rw [ptE e he, ptE _ (nxI_lt he)]
  have z0 : ∀ {x y p q s t : Int}, crs x y p q s t = 0 → ¬ swp x y p q s t := by
    intro x y p q s t h
    unfold swp; rw [h]; omega
  have cz : crs (s * (x v).toInt + r * ((x w).toInt - (x v).toInt)) (s * (y v).toInt + r * ((y w).toInt - (y v).toInt)) (s * (x v).toInt) (s * (y v).toInt) (s * (x v).toInt) (s * (y v).toInt) = 0 ∧ crs (s * (x v).toInt + r * ((x w).toInt - (x v).toInt)) (s * (y v).toInt + r * ((y w).toInt - (y v).toInt)) (s * (x v).toInt) (s * (y v).toInt) (s * (x w).toInt) (s * (y w).toInt) = 0 := by
    unfold crs; constructor <;> grind
  have kv : k = v ∨ nxI N k = v := by rcases hvw with z | z; exact Or.inl z.1.symm; exact Or.inr z.2.1.symm
  have hcl : ∀ p : Int × Int, xo (fun e => mAt ((s * (x e).toInt, s * (y e).toInt) = p) 1 ^^^ mAt ((s * (x (nxI N e)).toInt, s * (y (nxI N e)).toInt) = p) 1) N = 0 := by
    intro p
    rw [xo_x, xo_nx (fun e => mAt ((s * (x e).toInt, s * (y e).toInt) = p) 1) (by omega), xself]
  have g := g1L (n := N) (k := k) (a := fun e => s * (x e).toInt) (b := fun e => s * (y e).toInt) (c := fun e => s * (x (nxI N e)).toInt) (d := fun e => s * (y (nxI N e)).toInt) (m := fun _ => 1) (x := s * (x v).toInt + r * ((x w).toInt - (x v).toInt)) (y := s * (y v).toInt + r * ((y w).toInt - (y v).toInt)) (p := s * (x v).toInt) (q := s * (y v).toInt) hcl ((atI k hk).mpr kv) (by
      rcases hvw with z | z
      · rw [← z.1]; exact z0 cz.1
      · rw [← z.1]; exact z0 cz.2) (by
      rcases hvw with z | z
      · rw [← z.2.1]; exact z0 cz.2
      · rw [← z.2.1]; exact z0 cz.1) (by
    intro e he hek
    by_cases ca : e = v ∨ nxI N e = v
    · exact Or.inl ((atI e he).mpr ca)
    · right
      refine off_sc (ncl_of ?_ (fun z => ca (Or.inl (H2 e v he hv z.1 z.2))) (fun z => ca (Or.inr (H2 _ v (nxI_lt he) hv z.1 z.2))) ?_) hr hs
      · intro z
        have e1 : v = w := H2 v w hv hw z.1 z.2
        rcases hvw with q | q
        · exact H3 k hk (by rw [← q.2.1, ← e1, q.1])
        · exact H3 k hk (by rw [← q.2.1, e1, q.1])
      · have nc := (H4 k e hk he (Ne.symm hek)).1
        rcases hvw with q | q
        · rw [q.1, q.2.1]; exact nc
        · rw [q.1, q.2.1]; exact fun z => nc (clash_sx.mp z))
  rw [g]
  congr 1
  · apply xo_ext
    intro e he
    rw [propext (atI e he), propext (rho_sc hs0)]
  · have hat' : k' = v ∨ nxI N k' = v := by rcases hvw with z | z; exact Or.inr z.2.2.1; exact Or.inl z.2.2.1
    rw [xo_sg hk']
    · have fe : farE (s * (x k').toInt) (s * (y k').toInt) (s * (x (nxI N k')).toInt) (s * (y (nxI N k')).toInt) (s * (x v).toInt) (s * (y v).toInt) = (s * (x f).toInt, s * (y f).toInt) := by
        unfold farE
        rcases hvw with z | z
        · rw [if_neg (fun q => hkk (by rw [(ptE k' hk').mp (dB_i.mp q), z.1])), z.2.2.2]
        · rw [if_pos (dB_t ((ptE k' hk').mpr z.2.2.1)), z.2.2.2]
      rw [fe]
      have t := tkD_sc (u1 := (x v).toInt) (u2 := (y v).toInt) (w1 := (x w).toInt) (w2 := (y w).toInt) (f1 := (x f).toInt) (f2 := (y f).toInt) hr hs0
      by_cases c : tkv ((x w).toInt - (x v).toInt) ((y w).toInt - (y v).toInt) ((x f).toInt - (x v).toInt) ((y f).toInt - (y v).toInt)
      · rw [mAt_t c, mAt_t ⟨hkk, (atI k' hk').mpr hat', t.mpr c⟩]
      · rw [mAt_f c, mAt_f (fun z => c (t.mp z.2.2))]
    · intro e he hek
      apply mAt_f
      rintro ⟨z1, z2, _⟩
      rw [atI e he] at z2
      rcases hvw with q | q
      · rcases z2 with z2 | z2
        · exact z1 (by rw [z2, q.1])
        · exact hek (nxI_inj he hk' (by rw [z2, q.2.2.1]))
      · rcases z2 with z2 | z2
        · exact hek (by rw [z2, q.2.2.1])
        · exact z1 (nxI_inj he hk (by rw [z2, q.2.1]))
