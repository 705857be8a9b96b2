/-! half B: findWays of the reference -/
def m03 (a : Int32) : Prop := a = 0 ∨ a = 1 ∨ a = 2 ∨ a = 3
theorem m03_x {a b : Int32} (ha : m03 a) (hb : m03 b) : m03 (a ^^^ b) := by
  unfold m03 at *
  rcases ha with rfl | rfl | rfl | rfl <;> rcases hb with rfl | rfl | rfl | rfl <;> decide
theorem m03_at {p : Prop} {a : Int32} (ha : m03 a) : m03 (mAt p a) := by
  by_cases h : p
  · rw [mAt_t h]; exact ha
  · rw [mAt_f h]; exact Or.inl rfl
theorem m03_xo {g : Nat → Int32} : ∀ {n : Nat}, (∀ k, k < n → m03 (g k)) → m03 (xo g n) := by
  intro n
  induction n with
  | zero => intro _; exact Or.inl rfl
  | succ n ih => intro h; exact m03_x (ih (fun k hk => h k (by omega))) (h n (by omega))
theorem m03_in {n : Nat} {ax ay bx b_y mk : Nat → Int32} {k : Nat} (h : mks n mk) : m03 (inM n ax ay bx b_y mk k) := m03_xo (fun q hq => m03_at (h q hq))
theorem xx0 {a m : Int32} (ha : m03 a) (hm : m03 m) : a ^^^ m ^^^ m = a := by
  unfold m03 at *
  rcases ha with rfl | rfl | rfl | rfl <;> rcases hm with rfl | rfl | rfl | rfl <;> decide
/-- the marks left of piece k (from its lesser end), and what they mean for what is asked -/
noncomputable def lfM (n : Nat) (ax ay bx b_y mk : Nat → Int32) (k : Nat) : Int32 := inM n ax ay bx b_y mk k ^^^ mAt ((ay k).toInt < (b_y k).toInt) (mk k)
def resB (w i : Int32) : Bool := (f_Mod_isResult w i).getD false
def wOf (l r : Bool) : Int32 := if l = r then 0 else if l then 1 else 2
noncomputable def wyM (w : Int32) (n : Nat) (ax ay bx b_y mk : Nat → Int32) (k : Nat) : Int32 := wOf (resB w (lfM n ax ay bx b_y mk k)) (resB w (lfM n ax ay bx b_y mk k ^^^ mk k))
def w04 (w : Int32) : Prop := w = 0 ∨ w = 1 ∨ w = 2 ∨ w = 3 ∨ w = 4
theorem res_B {w i : Int32} (hw : w04 w) (hi : m03 i) : f_Mod_isResult w i = some (resB w i) ∧ f_Bnd_isInResult w i = some (resB w i) := by
  obtain ⟨e, b, eb⟩ := res_same hw hi
  have : resB w i = b := by unfold resB; rw [eb]; rfl
  rw [this]
  exact ⟨eb, e.trans eb⟩
theorem m03_lf {n : Nat} {ax ay bx b_y mk : Nat → Int32} {k : Nat} (h : mks n mk) (hk : k < n) : m03 (lfM n ax ay bx b_y mk k) := m03_x (m03_in h) (m03_at (h k hk))
