/-! half B: the invariant between the class's net and the reference's pieces -/
def pcs (n : Nat) (ax ay bx b_y : Nat → Int32) : Prop := ∀ k, k < n → (inB (ax k) ∧ inB (ay k) ∧ inB (bx k) ∧ inB (b_y k)) ∧ lessP (ax k) (ay k) (bx k) (b_y k)
def apt (n : Nat) (ax ay bx b_y : Nat → Int32) : Prop := ∀ j k, j < n → k < n → j ≠ k → ¬ clash (ax j) (ay j) (bx j) (b_y j) (ax k) (ay k) (bx k) (b_y k) ∧ ¬ sameP (ax j) (ay j) (bx j) (b_y j) (ax k) (ay k) (bx k) (b_y k)
def mks (n : Nat) (mk : Nat → Int32) : Prop := ∀ k, k < n → mk k = 0 ∨ mk k = 1 ∨ mk k = 2 ∨ mk k = 3
def lnk (n P : Nat) (ax ay bx b_y X Y : Nat → Int32) (fr to : Nat → Nat) : Prop := ∀ k, k < n → (fr k < P ∧ to k < P) ∧ X (fr k) = ax k ∧ Y (fr k) = ay k ∧ X (to k) = bx k ∧ Y (to k) = b_y k
def dst (P : Nat) (X Y : Nat → Int32) : Prop := ∀ i j, i < P → j < P → X i = X j → Y i = Y j → i = j
def ods (n P : Nat) (ax ay bx b_y mk X Y O : Nat → Int32) : Prop := ∀ i, i < P → O i = oddAt n ax ay bx b_y mk (X i) (Y i)
def ens (n P : Nat) (fr to : Nat → Nat) : Prop := ∀ i, i < P → ∃ k, k < n ∧ (fr k = i ∨ to k = i)
def netI (n P : Nat) (ax ay bx b_y mk X Y O : Nat → Int32) (fr to : Nat → Nat) : Prop := pcs n ax ay bx b_y ∧ apt n ax ay bx b_y ∧ mks n mk ∧ lnk n P ax ay bx b_y X Y fr to ∧ dst P X Y ∧ ods n P ax ay bx b_y mk X Y O ∧ ens n P fr to
theorem x32a (a b c : Int32) : a ^^^ b ^^^ c = a ^^^ (b ^^^ c) := Int32.xor_assoc a b c
theorem x32c (a b : Int32) : a ^^^ b = b ^^^ a := Int32.xor_comm a b
theorem xo_turn {g h : Nat → Int32} {k : Nat} {d : Int32} : ∀ {n : Nat}, k < n → (∀ j, j < n → j ≠ k → h j = g j) → h k = g k ^^^ d → xo h n = xo g n ^^^ d := by
  intro n
  induction n with
  | zero => intro hk; omega
  | succ n ih =>
    intro hk h1 h2
    unfold xo
    by_cases e : k = n
    · subst e
      rw [h2, xo_ext (g := h) (h := g) (fun j hj => h1 j (by omega) (by omega)), x32a]
    · rw [ih (by omega) (fun j hj => h1 j (by omega)) h2, h1 n (by omega) (fun z => e z.symm), x32a, x32a, x32c d]
theorem xo_zero {g : Nat → Int32} : ∀ {n : Nat}, (∀ j, j < n → g j = 0) → xo g n = 0 := by
  intro n
  induction n with
  | zero => intro _; rfl
  | succ n ih =>
    intro h
    unfold xo
    rw [ih (fun j hj => h j (by omega)), h n (by omega)]
    rfl
theorem mAt_x {p : Prop} {a b : Int32} : mAt p (a ^^^ b) = mAt p a ^^^ mAt p b := by
  by_cases h : p
  · rw [mAt_t h, mAt_t h, mAt_t h]
  · rw [mAt_f h, mAt_f h, mAt_f h]; rfl
theorem oddAt_turn {n k : Nat} {ax ay bx b_y mk : Nat → Int32} {m x y : Int32} (hk : k < n) : oddAt n ax ay bx b_y (upd mk k (mk k ^^^ m)) x y = oddAt n ax ay bx b_y mk x y ^^^ mAt (isE (ax k) (ay k) (bx k) (b_y k) x y) m := by
  unfold oddAt
  apply xo_turn (k := k) hk
  · intro j _ hj
    rw [pk_un hj]
  · rw [pk_us, mAt_x]
theorem oddAt_ext {n : Nat} {ax ay bx b_y mk ax' ay' bx' b_y' mk' : Nat → Int32} {x y : Int32} (h : ∀ k, k < n → ax' k = ax k ∧ ay' k = ay k ∧ bx' k = bx k ∧ b_y' k = b_y k ∧ mk' k = mk k) : oddAt n ax' ay' bx' b_y' mk' x y = oddAt n ax ay bx b_y mk x y := by
  unfold oddAt
  apply xo_ext
  intro k hk
  obtain ⟨h1, h2, h3, h4, h5⟩ := h k hk
  rw [h1, h2, h3, h4, h5]
theorem netI_ext {n P : Nat} {ax ay bx b_y mk ax' ay' bx' b_y' mk' X Y O : Nat → Int32} {fr to : Nat → Nat} (h : ∀ k, k < n → ax' k = ax k ∧ ay' k = ay k ∧ bx' k = bx k ∧ b_y' k = b_y k ∧ mk' k = mk k) (I : netI n P ax ay bx b_y mk X Y O fr to) : netI n P ax' ay' bx' b_y' mk' X Y O fr to := by
  obtain ⟨I1, I2, I3, I4, I5, I6, I7⟩ := I
  refine ⟨?_, ?_, ?_, ?_, I5, ?_, I7⟩
  · intro k hk
    obtain ⟨h1, h2, h3, h4, h5⟩ := h k hk
    rw [h1, h2, h3, h4]; exact I1 k hk
  · intro j k hj hk hne
    obtain ⟨h1, h2, h3, h4, h5⟩ := h k hk
    obtain ⟨g1, g2, g3, g4, g5⟩ := h j hj
    rw [h1, h2, h3, h4, g1, g2, g3, g4]; exact I2 j k hj hk hne
  · intro k hk
    rw [(h k hk).2.2.2.2]; exact I3 k hk
  · intro k hk
    obtain ⟨h1, h2, h3, h4, h5⟩ := h k hk
    rw [h1, h2, h3, h4]; exact I4 k hk
  · intro i hi
    rw [oddAt_ext h]; exact I6 i hi
theorem lessP_ne {a b c d : Int32} (h : lessP a b c d) : ¬ (a = c ∧ b = d) := by
  intro ⟨z1, z2⟩
  subst z1 z2
  unfold lessP at h
  omega
theorem m3 {a m : Int32} (ha : a = 0 ∨ a = 1 ∨ a = 2 ∨ a = 3) (hm : m = 1 ∨ m = 2 ∨ m = 3) : a ^^^ m = 0 ∨ a ^^^ m = 1 ∨ a ^^^ m = 2 ∨ a ^^^ m = 3 := by
  rcases ha with rfl | rfl | rfl | rfl <;> rcases hm with rfl | rfl | rfl <;> decide
/-- a mark is turned -/
theorem netI_turn {n P k : Nat} {ax ay bx b_y mk X Y O : Nat → Int32} {fr to : Nat → Nat} {m : Int32} (hm : m = 1 ∨ m = 2 ∨ m = 3) (hk : k < n) (I : netI n P ax ay bx b_y mk X Y O fr to) : netI n P ax ay bx b_y (upd mk k (mk k ^^^ m)) X Y (upd (upd O (fr k) (O (fr k) ^^^ m)) (to k) (upd O (fr k) (O (fr k) ^^^ m) (to k) ^^^ m)) fr to := by
  obtain ⟨I1, I2, I3, I4, I5, I6, I7⟩ := I
  obtain ⟨⟨l1, l2⟩, l3, l4, l5, l6⟩ := I4 k hk
  have hne : fr k ≠ to k := by
    intro z
    refine lessP_ne (I1 k hk).2 ⟨?_, ?_⟩
    · rw [← l3, ← l5, z]
    · rw [← l4, ← l6, z]
  refine ⟨I1, I2, ?_, I4, I5, ?_, I7⟩
  · intro j hj
    by_cases e : j = k
    · rw [e, pk_us]; exact m3 (I3 k hk) hm
    · rw [pk_un e]; exact I3 j hj
  · intro i hi
    rw [oddAt_turn hk, ← I6 i hi]
    by_cases e1 : i = to k
    · subst e1
      rw [pk_us, pk_un (fun z => hne z.symm), mAt_t (p := isE (ax k) (ay k) (bx k) (b_y k) (X (to k)) (Y (to k))) (Or.inr ⟨l5.symm, l6.symm⟩)]
    · rw [pk_un e1]
      by_cases e2 : i = fr k
      · subst e2
        rw [pk_us, mAt_t (p := isE (ax k) (ay k) (bx k) (b_y k) (X (fr k)) (Y (fr k))) (Or.inl ⟨l3.symm, l4.symm⟩)]
      · rw [pk_un e2, mAt_f, Int32.xor_zero]
        intro z
        rcases z with z | z
        · exact e2 (I5 i (fr k) hi l1 (by rw [l3, z.1]) (by rw [l4, z.2]))
        · exact e1 (I5 i (to k) hi l2 (by rw [l5, z.1]) (by rw [l6, z.2]))
theorem mAt_0 {p : Prop} : mAt p 0 = 0 := by
  by_cases h : p
  · exact mAt_t h
  · exact mAt_f h
theorem sameP_sy {a b c d p q r s : Int32} (h : sameP a b c d p q r s) : sameP p q r s a b c d := by
  rcases h with ⟨z1, z2, z3, z4⟩ | ⟨z1, z2, z3, z4⟩
  · exact Or.inl ⟨z1.symm, z2.symm, z3.symm, z4.symm⟩
  · exact Or.inr ⟨z3.symm, z4.symm, z1.symm, z2.symm⟩
/-- a piece is added -/
theorem netI_add {n P P' a b : Nat} {ax ay bx b_y mk X Y O O' X' Y' : Nat → Int32} {fr to : Nat → Nat} (I : netI n P ax ay bx b_y mk X Y O fr to) (g : grew P P' O X Y O' X' Y') (ha : a < P') (hb : b < P') (hd : dst P' X' Y') (hnew : ∀ j, P ≤ j → j < P' → j = a ∨ j = b) (hin : inB (X' a) ∧ inB (Y' a) ∧ inB (X' b) ∧ inB (Y' b)) (hl : lessP (X' a) (Y' a) (X' b) (Y' b)) (hc : ∀ k, k < n → ¬ clash (ax k) (ay k) (bx k) (b_y k) (X' a) (Y' a) (X' b) (Y' b) ∧ ¬ sameP (ax k) (ay k) (bx k) (b_y k) (X' a) (Y' a) (X' b) (Y' b)) : netI (n + 1) P' (upd ax n (X' a)) (upd ay n (Y' a)) (upd bx n (X' b)) (upd b_y n (Y' b)) (upd mk n 0) X' Y' O' (updN fr n a) (updN to n b) := by
  obtain ⟨I1, I2, I3, I4, I5, I6, I7⟩ := I
  obtain ⟨g1, g2, g3⟩ := g
  refine ⟨?_, ?_, ?_, ?_, hd, ?_, ?_⟩
  · intro k hk
    by_cases e : k = n
    · rw [e, pk_us, pk_us, pk_us, pk_us]; exact ⟨hin, hl⟩
    · rw [pk_un e, pk_un e, pk_un e, pk_un e]; exact I1 k (by omega)
  · intro j k hj hk hne
    by_cases e : k = n
    · have e' : j ≠ n := by omega
      rw [e, pk_us, pk_us, pk_us, pk_us, pk_un e', pk_un e', pk_un e', pk_un e']
      exact hc j (by omega)
    · rw [pk_un e, pk_un e, pk_un e, pk_un e]
      by_cases e' : j = n
      · rw [e', pk_us, pk_us, pk_us, pk_us]
        have q := hc k (by omega)
        exact ⟨fun z => q.1 (clash_sy.mp z), fun z => q.2 (sameP_sy z)⟩
      · rw [pk_un e', pk_un e', pk_un e', pk_un e']
        exact I2 j k (by omega) (by omega) hne
  · intro k hk
    by_cases e : k = n
    · rw [e, pk_us]; exact Or.inl rfl
    · rw [pk_un e]; exact I3 k (by omega)
  · intro k hk
    by_cases e : k = n
    · rw [e, pk_us, pk_us, pk_us, pk_us, updN_s, updN_s]; exact ⟨⟨ha, hb⟩, rfl, rfl, rfl, rfl⟩
    · rw [pk_un e, pk_un e, pk_un e, pk_un e, updN_n e, updN_n e]
      obtain ⟨⟨l1, l2⟩, l3, l4, l5, l6⟩ := I4 k (by omega)
      have q1 := g2 _ l1
      have q2 := g2 _ l2
      exact ⟨⟨by omega, by omega⟩, q1.1.trans l3, q1.2.1.trans l4, q2.1.trans l5, q2.2.1.trans l6⟩
  · intro i hi
    have e1 : ∀ x y, oddAt (n + 1) (upd ax n (X' a)) (upd ay n (Y' a)) (upd bx n (X' b)) (upd b_y n (Y' b)) (upd mk n 0) x y = oddAt n ax ay bx b_y mk x y := by
      intro x y
      have e2 : oddAt (n + 1) (upd ax n (X' a)) (upd ay n (Y' a)) (upd bx n (X' b)) (upd b_y n (Y' b)) (upd mk n 0) x y = oddAt n (upd ax n (X' a)) (upd ay n (Y' a)) (upd bx n (X' b)) (upd b_y n (Y' b)) (upd mk n 0) x y ^^^ mAt (isE (upd ax n (X' a) n) (upd ay n (Y' a) n) (upd bx n (X' b) n) (upd b_y n (Y' b) n) x y) (upd mk n 0 n) := rfl
      rw [e2, pk_us (f := mk), mAt_0, Int32.xor_zero]
      exact oddAt_ext (fun k hk => ⟨pk_un (by omega), pk_un (by omega), pk_un (by omega), pk_un (by omega), pk_un (by omega)⟩)
    rw [e1]
    by_cases r : i < P
    · obtain ⟨q1, q2, q3⟩ := g2 i r
      rw [q1, q2, q3]; exact I6 i r
    · rw [g3 i (by omega) hi]
      refine (xo_zero (fun k hk => mAt_f (fun z => ?_))).symm
      obtain ⟨⟨l1, l2⟩, l3, l4, l5, l6⟩ := I4 k hk
      have q1 := g2 _ l1
      have q2 := g2 _ l2
      rcases z with z | z
      · have := hd i (fr k) hi (by omega) (by rw [q1.1, l3, z.1]) (by rw [q1.2.1, l4, z.2])
        omega
      · have := hd i (to k) hi (by omega) (by rw [q2.1, l5, z.1]) (by rw [q2.2.1, l6, z.2])
        omega
  · intro i hi
    by_cases r : i < P
    · obtain ⟨k, hk, h⟩ := I7 i r
      exact ⟨k, by omega, by rw [updN_n (by omega), updN_n (by omega)]; exact h⟩
    · refine ⟨n, by omega, ?_⟩
      rw [updN_s, updN_s]
      rcases hnew i (by omega) hi with h | h
      · exact Or.inl h.symm
      · exact Or.inr h.symm
