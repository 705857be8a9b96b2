/-! half B: between, on, clash: class and reference say the same predicate -/
def bt (a c x : Int32) : Prop := (a.toInt ≤ x.toInt ∧ x.toInt ≤ c.toInt) ∨ (c.toInt ≤ x.toInt ∧ x.toInt ≤ a.toInt)
theorem i32lt {a b : Int32} : a < b ↔ a.toInt < b.toInt := Int32.lt_iff_toInt_lt
theorem i32le {a b : Int32} : a ≤ b ↔ a.toInt ≤ b.toInt := Int32.le_iff_toInt_le
theorem i32eq {a b : Int32} : a = b ↔ a.toInt = b.toInt := Int32.toInt_inj.symm
theorem btmin {a c x : Int32} : ¬ x < (if c < a then c else a) ∧ ¬ (if a < c then c else a) < x ↔ bt a c x := by
  unfold bt
  by_cases h1 : c < a
  · have h2 : ¬ a < c := fun z => by rw [i32lt] at z h1; omega
    rw [if_pos h1, if_neg h2]
    simp only [i32lt] at *
    omega
  · rw [if_neg h1]
    by_cases h2 : a < c
    · rw [if_pos h2]
      simp only [i32lt] at *
      omega
    · rw [if_neg h2]
      simp only [i32lt] at *
      omega
noncomputable def dB (p : Prop) : Bool := @decide p (Classical.propDecidable p)
theorem dB_t {p : Prop} (h : p) : dB p = true := @decide_eq_true p (Classical.propDecidable p) h
theorem dB_f {p : Prop} (h : ¬ p) : dB p = false := @decide_eq_false p (Classical.propDecidable p) h
theorem dB_i {p : Prop} : dB p = true ↔ p := ⟨fun h => @of_decide_eq_true p (Classical.propDecidable p) h, dB_t⟩
theorem dB_c {p q : Prop} (h : p ↔ q) : dB p = dB q := by rw [propext h]
theorem bI_dB {p : Prop} : bI (dB p) = 0 ↔ ¬ p := by
  by_cases h : p
  · rw [dB_t h]; exact ⟨fun z => absurd z (by decide), fun z => absurd h z⟩
  · rw [dB_f h]; exact ⟨fun _ => h, fun _ => rfl⟩
theorem sdec {p : Prop} {b : Bool} (h : b = true ↔ p) : some b = some (dB p) := by
  cases b with
  | true => rw [dB_t (h.mp rfl)]
  | false => rw [dB_f (fun z => by have := h.mpr z; cases this)]
theorem sT {p : Prop} (h : p) : some true = some (dB p) := by rw [dB_t h]
theorem sF {p : Prop} (h : ¬ p) : some false = some (dB p) := by rw [dB_f h]
/-- x, y lies between a, b and c, d (for a place on their line) and is neither -/
def isBt (a b c d x y : Int32) : Prop := ¬ (x = a ∧ y = b) ∧ ¬ (x = c ∧ y = d) ∧ bt a c x ∧ bt b d y
theorem pla_bt26 (a b c d x y : Int32) : b_Pla_isBetween_26 a b c d x y = some (dB (bt a c x ∧ bt b d y)) := by
  unfold b_Pla_isBetween_26
  have k1 := btmin (a := a) (c := c) (x := x)
  have k2 := btmin (a := b) (c := d) (x := y)
  by_cases h1 : x < (if c < a then c else a)
  · rw [if_pos h1]; exact sF (fun z => (k1.mpr z.1).1 h1)
  · rw [if_neg h1]
    by_cases h2 : (if a < c then c else a) < x
    · rw [if_pos h2]; exact sF (fun z => (k1.mpr z.1).2 h2)
    · rw [if_neg h2]
      by_cases h3 : y < (if d < b then d else b)
      · rw [if_pos h3]; exact sF (fun z => (k2.mpr z.2).1 h3)
      · rw [if_neg h3]
        by_cases h4 : (if b < d then d else b) < y
        · rw [if_pos h4]; exact sF (fun z => (k2.mpr z.2).2 h4)
        · rw [if_neg h4]; exact sT ⟨k1.mp ⟨h1, h2⟩, k2.mp ⟨h3, h4⟩⟩
theorem pla_bt12 (a b c d x y : Int32) : b_Pla_isBetween_12 a b c d x y = some (dB (¬ (x = c ∧ y = d) ∧ bt a c x ∧ bt b d y)) := by
  unfold b_Pla_isBetween_12
  rw [pla_bt26]
  by_cases h1 : x = c
  · rw [if_pos h1]
    by_cases h2 : y = d
    · rw [if_pos h2]; exact sF (fun z => z.1 ⟨h1, h2⟩)
    · rw [if_neg h2]; exact sdec ⟨fun z => ⟨fun q => h2 q.2, dB_i.mp z⟩, fun z => dB_t z.2⟩
  · rw [if_neg h1]; exact sdec ⟨fun z => ⟨fun q => h1 q.1, dB_i.mp z⟩, fun z => dB_t z.2⟩
theorem pla_between (a b c d x y : Int32) : f_Pla_isBetween a b c d x y = some (dB (isBt a b c d x y)) := by
  unfold f_Pla_isBetween b_Pla_isBetween_0
  rw [pla_bt12]
  by_cases h1 : x = a
  · rw [if_pos h1]
    by_cases h2 : y = b
    · rw [if_pos h2]; exact sF (fun z => z.1 ⟨h1, h2⟩)
    · rw [if_neg h2]; exact sdec ⟨fun z => ⟨fun q => h2 q.2, dB_i.mp z⟩, fun z => dB_t z.2⟩
  · rw [if_neg h1]; exact sdec ⟨fun z => ⟨fun q => h1 q.1, dB_i.mp z⟩, fun z => dB_t z.2⟩
theorem mod_within (v a b : Int32) : f_Mod_within v a b = some (dB (a.toInt ≤ v.toInt ∧ v.toInt ≤ b.toInt)) := by
  unfold f_Mod_within b_Mod_within_0
  by_cases h1 : v < a
  · rw [if_pos h1]; rw [i32lt] at h1; exact sF (by omega)
  · rw [if_neg h1]
    by_cases h2 : b < v
    · rw [if_pos h2]; rw [i32lt] at h2; exact sF (by omega)
    · rw [if_neg h2]; rw [i32lt] at h1 h2; exact sT (by omega)
theorem mod_between (v a b : Int32) : f_Mod_between v a b = some (dB (bt a b v)) := by
  unfold f_Mod_between b_Mod_between_0
  simp only [mod_within, ob1]
  unfold bt
  by_cases h1 : b ≤ a
  · rw [if_pos h1]
    rw [i32le] at h1
    exact sdec ⟨fun z => Or.inr (dB_i.mp z), fun z => dB_t (by omega)⟩
  · rw [if_neg h1]
    rw [i32le] at h1
    exact sdec ⟨fun z => Or.inl (dB_i.mp z), fun z => dB_t (by omega)⟩
/-- class: on the segment -/
def onSeg (a b c d x y : Int32) : Prop := crs a.toInt b.toInt c.toInt d.toInt x.toInt y.toInt = 0 ∧ bt a c x ∧ bt b d y
theorem pla_isOn {a b c d x y : Int32} (h0 : inB a) (h1 : inB b) (h2 : inB c) (h3 : inB d) (h4 : inB x) (h5 : inB y) : f_Pla_isOn a b c d x y = some (dB (onSeg a b c d x y)) := by
  have bta : ∀ {p q : Int32}, bt p q p := fun {p q} => by unfold bt; omega
  have btb : ∀ {p q : Int32}, bt p q q := fun {p q} => by unfold bt; omega
  have k40 : b_Pla_isOn_40 a b c d x y = some (dB (isBt a b c d x y)) := by
    unfold b_Pla_isOn_40
    rw [pla_between]
    simp only [ob1]
    by_cases h : isBt a b c d x y
    · rw [dB_t h]; rfl
    · rw [dB_f h]; rfl
  unfold f_Pla_isOn b_Pla_isOn_0
  rw [pla_side h0 h1 h2 h3 h4 h5]
  simp only [ob1]
  by_cases hs : crs a.toInt b.toInt c.toInt d.toInt x.toInt y.toInt = 0
  · rw [if_pos ((sg_0 _).mpr hs)]
    have k28 : ¬ (x = a ∧ y = b) → b_Pla_isOn_28 a b c d x y = some (dB (onSeg a b c d x y)) := by
      intro hne
      have k : ¬ (x = c ∧ y = d) → b_Pla_isOn_40 a b c d x y = some (dB (onSeg a b c d x y)) := by
        intro hne2
        rw [k40]
        exact sdec ⟨fun z => ⟨hs, (dB_i.mp z).2.2⟩, fun z => dB_t ⟨hne, hne2, z.2⟩⟩
      unfold b_Pla_isOn_28
      by_cases g1 : x = c
      · rw [if_pos g1]
        by_cases g2 : y = d
        · rw [if_pos g2]; exact sT ⟨hs, by rw [g1]; exact btb, by rw [g2]; exact btb⟩
        · rw [if_neg g2]; exact k (fun z => g2 z.2)
      · rw [if_neg g1]; exact k (fun z => g1 z.1)
    by_cases g1 : x = a
    · rw [if_pos g1]
      by_cases g2 : y = b
      · rw [if_pos g2]; exact sT ⟨hs, by rw [g1]; exact bta, by rw [g2]; exact bta⟩
      · rw [if_neg g2]; exact k28 (fun z => g2 z.2)
    · rw [if_neg g1]; exact k28 (fun z => g1 z.1)
  · rw [if_neg (fun z => hs ((sg_0 _).mp z))]; exact sF (fun z => hs z.1)
