/-! half B: the reference's isApart, isEven, areClosed -/
def lessP (x y u v : Int32) : Prop := x.toInt < u.toInt ∨ (x.toInt = u.toInt ∧ y.toInt < v.toInt)
theorem pla_isLess (x y u v : Int32) : f_Pla_isLess x y u v = some (dB (lessP x y u v)) := by
  unfold f_Pla_isLess b_Pla_isLess_0 lessP
  have e1 := i32lt (a := x) (b := u)
  have e2 := i32eq (a := x) (b := u)
  have e3 := i32lt (a := y) (b := v)
  have e4 := i32le (a := v) (b := y)
  by_cases c1 : x < u
  · rw [if_pos c1]
    have c1' := e1.mp c1
    exact sT (by omega)
  · rw [if_neg c1]
    have c1' : ¬ x.toInt < u.toInt := fun z => c1 (e1.mpr z)
    by_cases c2 : x = u
    · rw [if_pos c2]
      have c2' := e2.mp c2
      by_cases c3 : v ≤ y
      · rw [if_pos c3]
        have c3' := e4.mp c3
        exact sF (by omega)
      · rw [if_neg c3]
        have c3' : ¬ v.toInt ≤ y.toInt := fun z => c3 (e4.mpr z)
        exact sT (by omega)
    · rw [if_neg c2]
      have c2' : ¬ x.toInt = u.toInt := fun z => c2 (e2.mpr z)
      exact sF (by omega)
theorem mod_apartL {n F : Nat} (hn : n ≤ 2048) (hF : n < F) (ax ay bx b_y : Nat → Int32) (h : ∀ k, k ≤ n → inB (ax k) ∧ inB (ay k) ∧ inB (bx k) ∧ inB (b_y k)) (y1 y2 y3 y4 : Int32) : lp (fun _ _ _ _ _ _ => none) (b_Mod_isApart_107 F (nI n) 2049 2049 2049 2049 y1 y2 y3 y4) F (1 : Int32) (0 : Int32) ax ay bx b_y = some (dB (∀ k, k < n → ¬ clash (ax k) (ay k) (bx k) (b_y k) (ax n) (ay n) (bx n) (b_y n)), ax, ay, bx, b_y) := by
  have e01 : ¬ (1 : Int32) = 0 := by decide
  have k := lp_inv (fun _ _ _ _ _ _ => none) (b_Mod_isApart_107 F (nI n) 2049 2049 2049 2049 y1 y2 y3 y4) (fun t : Bool × Nat => n - t.2) (fun f t => t.2 ≤ n → f (if t.1 then 1 else 0) (nI t.2) ax ay bx b_y = some (dB (t.1 = true ∧ ∀ k, t.2 ≤ k → k < n → ¬ clash (ax k) (ay k) (bx k) (b_y k) (ax n) (ay n) (bx n) (b_y n)), ax, ay, bx, b_y)) (fun t f hr hc => by
    obtain ⟨b, c⟩ := t
    simp only at hr hc ⊢
    unfold b_Mod_isApart_107
    cases b with
    | false =>
      simp only [Bool.false_eq_true, ↓reduceIte, false_and, dB_f (fun z : False => z)]
      by_cases hl : nI n ≤ nI c
      · rw [if_pos hl]
      · rw [if_neg hl]
    | true =>
      simp only [↓reduceIte, true_and, e01]
      by_cases hl : n ≤ c
      · rw [if_pos ((nIle (by omega) (by omega)).mpr hl), dB_t (fun k h1 h2 => by omega)]
      · rw [if_neg (fun z => hl ((nIle (by omega) (by omega)).mp z))]
        obtain ⟨a1, a2, a3, a4⟩ := h c (by omega)
        obtain ⟨b1, b2, b3, b4⟩ := h n (by omega)
        rw [mod_keepsOff (by omega) (by omega) ax ay bx b_y a1 a2 a3 a4 b1 b2 b3 b4]
        simp only [ob1]
        unfold b_Mod_isApart_139
        by_cases c1 : clash (ax c) (ay c) (bx c) (b_y c) (ax n) (ay n) (bx n) (b_y n)
        · rw [if_neg (fun z => bI_dB.mp z c1)]
          have e := hr (false, c + 1) (by simp only; omega) (by simp only; omega)
          simp only [Bool.false_eq_true, ↓reduceIte, false_and] at e
          rw [nI_1, e, dB_f (fun z : False => z), dB_f (fun z => z c (Nat.le_refl _) (by omega) c1)]
        · rw [if_pos (bI_dB.mpr c1)]
          have e := hr (true, c + 1) (by simp only; omega) (by simp only; omega)
          simp only [↓reduceIte, true_and] at e
          rw [nI_1, e]
          refine congrArg (fun z => some (z, ax, ay, bx, b_y)) (dB_c ⟨fun z k h1 h2 => ?_, fun z k h1 h2 => z k (by omega) h2⟩)
          by_cases hk : k = c
          · rw [hk]; exact c1
          · exact z k (by omega) h2) F (true, 0) (by simp only; omega)
  have k := k (by simp only; omega)
  simp only [↓reduceIte, true_and] at k
  rw [nI_0] at k
  rw [k]
  exact congrArg (fun z => some (z, ax, ay, bx, b_y)) (dB_c ⟨fun z k h => z k (Nat.zero_le _) h, fun z k _ h => z k h⟩)
theorem upd_in {f : Nat → Int32} {n k : Nat} {x : Int32} (hx : inB x) (h : k < n → inB (f k)) (hk : k ≤ n) : inB (upd f n x k) := by
  by_cases e : k = n
  · rw [e, pk_us]; exact hx
  · rw [pk_un e]; exact h (by omega)
theorem mod_isApart {n F : Nat} (hn : n ≤ 2048) (hF : n < F) (ax ay bx b_y : Nat → Int32) (h : ∀ k, k < n → inB (ax k) ∧ inB (ay k) ∧ inB (bx k) ∧ inB (b_y k)) {x y u v : Int32} (hx : inB x) (hy : inB y) (hu : inB u) (hv : inB v) : ∃ A B C D, ((lessP x y u v ∧ A = x ∧ B = y ∧ C = u ∧ D = v) ∨ (¬ lessP x y u v ∧ A = u ∧ B = v ∧ C = x ∧ D = y)) ∧ f_Mod_isApart F (nI n) 2049 2049 2049 2049 x y u v ax ay bx b_y = some (dB (∀ k, k < n → ¬ clash (ax k) (ay k) (bx k) (b_y k) x y u v), upd ax n A, upd ay n B, upd bx n C, upd b_y n D) := by
  have core : ∀ A B C D : Int32, inB A → inB B → inB C → inB D → (∀ k, clash (ax k) (ay k) (bx k) (b_y k) A B C D ↔ clash (ax k) (ay k) (bx k) (b_y k) x y u v) → lp (fun _ _ _ _ _ _ => none) (b_Mod_isApart_107 F (nI n) 2049 2049 2049 2049 x y u v) F (1 : Int32) (0 : Int32) (upd ax n A) (upd ay n B) (upd bx n C) (upd b_y n D) = some (dB (∀ k, k < n → ¬ clash (ax k) (ay k) (bx k) (b_y k) x y u v), upd ax n A, upd ay n B, upd bx n C, upd b_y n D) := by
    intro A B C D hA hB hC hD hcl
    rw [mod_apartL hn hF (upd ax n A) (upd ay n B) (upd bx n C) (upd b_y n D) (fun k hk => ⟨upd_in hA (fun z => (h k z).1) hk, upd_in hB (fun z => (h k z).2.1) hk, upd_in hC (fun z => (h k z).2.2.1) hk, upd_in hD (fun z => (h k z).2.2.2) hk⟩)]
    rw [pk_us, pk_us, pk_us, pk_us]
    refine congrArg (fun z => some (z, upd ax n A, upd ay n B, upd bx n C, upd b_y n D)) (dB_c ?_)
    have e : ∀ k, k < n → (clash (upd ax n A k) (upd ay n B k) (upd bx n C k) (upd b_y n D k) A B C D ↔ clash (ax k) (ay k) (bx k) (b_y k) x y u v) := by
      intro k hk
      rw [pk_un (by omega), pk_un (by omega), pk_un (by omega), pk_un (by omega)]
      exact hcl k
    exact ⟨fun z k hk w => z k hk ((e k hk).mpr w), fun z k hk w => z k hk ((e k hk).mp w)⟩
  have h0 := ixn (k := n) (n := 2049) (by omega) (by omega)
  have e0 := ixc (k := n) (n := 2049) (by omega) (by omega)
  have e01 : ¬ (1 : Int32) = 0 := by decide
  have yes : b_Mod_isApart_16 F (nI n) 2049 2049 2049 2049 x y u v ax ay bx b_y = some (dB (∀ k, k < n → ¬ clash (ax k) (ay k) (bx k) (b_y k) x y u v), upd ax n x, upd ay n y, upd bx n u, upd b_y n v) := by
    unfold b_Mod_isApart_16 b_Mod_isApart_21
    rw [if_neg e01]
    unfold b_Mod_isApart_41
    rw [if_neg h0, if_neg e01, e0]
    unfold b_Mod_isApart_61
    rw [if_neg h0, if_neg e01, e0]
    unfold b_Mod_isApart_80
    rw [if_neg h0, if_neg e01, e0]
    unfold b_Mod_isApart_100
    rw [if_neg h0, e0]
    exact core x y u v hx hy hu hv (fun k => Iff.rfl)
  have no : b_Mod_isApart_20 F (nI n) 2049 2049 2049 2049 x y u v ax ay bx b_y = some (dB (∀ k, k < n → ¬ clash (ax k) (ay k) (bx k) (b_y k) x y u v), upd ax n u, upd ay n v, upd bx n x, upd b_y n y) := by
    unfold b_Mod_isApart_20 b_Mod_isApart_21
    rw [if_pos rfl]
    unfold b_Mod_isApart_41
    rw [if_neg h0, if_pos rfl, e0]
    unfold b_Mod_isApart_61
    rw [if_neg h0, if_pos rfl, e0]
    unfold b_Mod_isApart_80
    rw [if_neg h0, if_pos rfl, e0]
    unfold b_Mod_isApart_100
    rw [if_neg h0, e0]
    exact core u v x y hu hv hx hy (fun k => clash_sw)
  unfold f_Mod_isApart b_Mod_isApart_0
  have e1 := i32lt (a := x) (b := u)
  have e2 := i32eq (a := x) (b := u)
  have e4 := i32le (a := v) (b := y)
  have ly : lessP x y u v → ∃ A B C D, ((lessP x y u v ∧ A = x ∧ B = y ∧ C = u ∧ D = v) ∨ (¬ lessP x y u v ∧ A = u ∧ B = v ∧ C = x ∧ D = y)) ∧ b_Mod_isApart_16 F (nI n) 2049 2049 2049 2049 x y u v ax ay bx b_y = some (dB (∀ k, k < n → ¬ clash (ax k) (ay k) (bx k) (b_y k) x y u v), upd ax n A, upd ay n B, upd bx n C, upd b_y n D) := fun hl => ⟨x, y, u, v, Or.inl ⟨hl, rfl, rfl, rfl, rfl⟩, yes⟩
  have ln : ¬ lessP x y u v → ∃ A B C D, ((lessP x y u v ∧ A = x ∧ B = y ∧ C = u ∧ D = v) ∨ (¬ lessP x y u v ∧ A = u ∧ B = v ∧ C = x ∧ D = y)) ∧ b_Mod_isApart_20 F (nI n) 2049 2049 2049 2049 x y u v ax ay bx b_y = some (dB (∀ k, k < n → ¬ clash (ax k) (ay k) (bx k) (b_y k) x y u v), upd ax n A, upd ay n B, upd bx n C, upd b_y n D) := fun hl => ⟨u, v, x, y, Or.inr ⟨hl, rfl, rfl, rfl, rfl⟩, no⟩
  by_cases c1 : x < u
  · rw [if_pos c1]; exact ly (Or.inl (e1.mp c1))
  · rw [if_neg c1]
    have c1' : ¬ x.toInt < u.toInt := fun z => c1 (e1.mpr z)
    by_cases c2 : x = u
    · rw [if_pos c2]
      have c2' := e2.mp c2
      by_cases c3 : v ≤ y
      · rw [if_pos c3]
        have c3' := e4.mp c3
        exact ln (fun z => by unfold lessP at z; omega)
      · rw [if_neg c3]
        have c3' : ¬ v.toInt ≤ y.toInt := fun z => c3 (e4.mpr z)
        exact ly (Or.inr ⟨c2', by omega⟩)
    · rw [if_neg c2]
      have c2' : ¬ x.toInt = u.toInt := fun z => c2 (e2.mpr z)
      exact ln (fun z => by unfold lessP at z; omega)
/-- xor of g over k < n -/
def xo (g : Nat → Int32) : Nat → Int32
  | 0 => 0
  | n + 1 => xo g n ^^^ g n
noncomputable def mAt (p : Prop) (m : Int32) : Int32 := if dB p = true then m else 0
theorem mAt_t {p : Prop} {m : Int32} (h : p) : mAt p m = m := if_pos (dB_t h)
theorem mAt_f {p : Prop} {m : Int32} (h : ¬ p) : mAt p m = 0 := if_neg (fun z => h (dB_i.mp z))
theorem xo_ext {g h : Nat → Int32} {n : Nat} (e : ∀ k, k < n → g k = h k) : xo g n = xo h n := by
  induction n with
  | zero => rfl
  | succ n ih => unfold xo; rw [ih (fun k hk => e k (by omega)), e n (by omega)]
/-- the xor of the marks at a place -/
noncomputable def oddAt (n : Nat) (ax ay bx b_y mk : Nat → Int32) (x y : Int32) : Int32 := xo (fun k => mAt (isE (ax k) (ay k) (bx k) (b_y k) x y) (mk k)) n
theorem mod_isEven {n F : Nat} (hn : n ≤ 2048) (hF : n < F) (ax bx b_y ay mk : Nat → Int32) (x y : Int32) : f_Mod_isEven F (nI n) 2049 ax 2049 bx 2049 b_y 2049 ay 2048 mk x y = some (dB (oddAt n ax ay bx b_y mk x y = 0)) := by
  have k := lp_inv (fun _ _ => none) (b_Mod_isEven_5 F (nI n) 2049 ax 2049 bx 2049 b_y 2049 ay 2048 mk x y) (fun c : Nat => n - c) (fun f c => c ≤ n → f (oddAt c ax ay bx b_y mk x y) (nI c) = some (dB (oddAt n ax ay bx b_y mk x y = 0))) (fun c f hr hc => by
    unfold b_Mod_isEven_5
    by_cases hl : n ≤ c
    · have : c = n := by omega
      subst this
      rw [if_pos ((nIle (by omega) (by omega)).mpr hl)]
      by_cases c1 : oddAt c ax ay bx b_y mk x y = 0
      · rw [if_pos c1]; exact sT c1
      · rw [if_neg c1]; exact sF c1
    · rw [if_neg (fun z => hl ((nIle (by omega) (by omega)).mp z)), mod_isE (by omega)]
      simp only [ob1]
      unfold b_Mod_isEven_38
      have e := hr (c + 1) (by omega) (by omega)
      rw [← nI_1] at e
      have e2 : oddAt (c + 1) ax ay bx b_y mk x y = oddAt c ax ay bx b_y mk x y ^^^ mAt (isE (ax c) (ay c) (bx c) (b_y c) x y) (mk c) := rfl
      rw [e2] at e
      by_cases c1 : isE (ax c) (ay c) (bx c) (b_y c) x y
      · rw [if_neg (fun z => bI_dB.mp z c1), if_neg (ixn (by omega) (by omega)), ixc (n := 2048) (by omega) (by omega)]
        rw [mAt_t c1] at e
        exact e
      · rw [if_pos (bI_dB.mpr c1)]
        rw [mAt_f c1, Int32.xor_zero] at e
        exact e) F 0 (by omega)
  exact k (by omega)
theorem mod_areClosed {n F : Nat} (hn : n ≤ 2048) (hF : n < F) (ax bx b_y ay mk : Nat → Int32) : f_Mod_areClosed F (nI n) 2049 ax 2049 ay 2049 bx 2049 b_y 2048 mk = some (dB (∀ k, k < n → oddAt n ax ay bx b_y mk (ax k) (ay k) = 0 ∧ oddAt n ax ay bx b_y mk (bx k) (b_y k) = 0)) := by
  have e01 : ¬ (1 : Int32) = 0 := by decide
  have k := lp_inv (fun _ _ => none) (b_Mod_areClosed_4 F (nI n) 2049 ax 2049 ay 2049 bx 2049 b_y 2048 mk) (fun t : Bool × Nat => n - t.2) (fun f t => t.2 ≤ n → f (if t.1 then 1 else 0) (nI t.2) = some (dB (t.1 = true ∧ ∀ k, t.2 ≤ k → k < n → oddAt n ax ay bx b_y mk (ax k) (ay k) = 0 ∧ oddAt n ax ay bx b_y mk (bx k) (b_y k) = 0))) (fun t f hr hc => by
    obtain ⟨b, c⟩ := t
    simp only at hr hc ⊢
    unfold b_Mod_areClosed_4
    cases b with
    | false =>
      simp only [Bool.false_eq_true, ↓reduceIte, false_and, dB_f (fun z : False => z)]
      by_cases hl : nI n ≤ nI c
      · rw [if_pos hl]
      · rw [if_neg hl]
    | true =>
      simp only [↓reduceIte, true_and, e01]
      by_cases hl : n ≤ c
      · rw [if_pos ((nIle (by omega) (by omega)).mpr hl), dB_t (fun k h1 h2 => by omega)]
      · rw [if_neg (fun z => hl ((nIle (by omega) (by omega)).mp z))]
        rw [if_neg (ixn (by omega) (by omega)), if_neg (ixn (by omega) (by omega)), ixc (n := 2049) (by omega) (by omega), mod_isEven hn hF, mod_isEven hn hF]
        simp only [ob1]
        simp only [ixf (k := c) (n := 2049) (by omega) (by omega), ↓reduceIte]
        unfold b_Mod_areClosed_58 b_Mod_areClosed_59
        have ef := hr (false, c + 1) (by simp only; omega) (by simp only; omega)
        simp only [Bool.false_eq_true, ↓reduceIte, false_and] at ef
        rw [← nI_1, dB_f (fun z : False => z)] at ef
        have et := hr (true, c + 1) (by simp only; omega) (by simp only; omega)
        simp only [↓reduceIte, true_and] at et
        rw [← nI_1] at et
        by_cases c1 : oddAt n ax ay bx b_y mk (ax c) (ay c) = 0
        · rw [if_neg (fun z => bI_dB.mp z c1)]
          by_cases c2 : oddAt n ax ay bx b_y mk (bx c) (b_y c) = 0
          · rw [if_neg (fun z => bI_dB.mp z c2), et]
            refine congrArg some (dB_c ⟨fun z k h1 h2 => ?_, fun z k h1 h2 => z k (by omega) h2⟩)
            by_cases hk : k = c
            · rw [hk]; exact ⟨c1, c2⟩
            · exact z k (by omega) h2
          · rw [if_pos (bI_dB.mpr c2), ef]
            exact sF (fun z => c2 (z c (Nat.le_refl _) (by omega)).2)
        · rw [if_pos (bI_dB.mpr c1), ef]
          exact sF (fun z => c1 (z c (Nat.le_refl _) (by omega)).1)) F (true, 0) (by simp only; omega)
  have k := k (by simp only; omega)
  simp only [↓reduceIte, true_and] at k
  rw [nI_0] at k
  exact Eq.trans k (congrArg some (dB_c ⟨fun z k h => z k (Nat.zero_le _) h, fun z k _ h => z k h⟩))
