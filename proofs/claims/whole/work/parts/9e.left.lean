/-! half B: the class's insideLeftOf and the reference's right as xor sums -/
def rayM (tx ty a b c d : Int) : Prop := (2 * b ≤ ty ∧ ty < 2 * d ∧ 0 < rayS tx ty a b c d) ∨ (ty < 2 * b ∧ 2 * d ≤ ty ∧ rayS tx ty a b c d ≤ 0)
/-- the middle's ray of piece k crosses piece q: class -/
def crC (ax ay bx b_y : Nat → Int32) (k q : Nat) : Prop := q ≠ k ∧ ray ((ax k).toInt + (bx k).toInt) ((ay k).toInt + (b_y k).toInt) (ax q).toInt (ay q).toInt (bx q).toInt (b_y q).toInt
def crM (ax ay bx b_y : Nat → Int32) (k q : Nat) : Prop := q ≠ k ∧ rayM ((ax k).toInt + (bx k).toInt) ((ay k).toInt + (b_y k).toInt) (ax q).toInt (ay q).toInt (bx q).toInt (b_y q).toInt
noncomputable def inC (n : Nat) (ax ay bx b_y mk : Nat → Int32) (k : Nat) : Int32 := xo (fun q => mAt (crC ax ay bx b_y k q) (mk q)) n
noncomputable def inM (n : Nat) (ax ay bx b_y mk : Nat → Int32) (k : Nat) : Int32 := xo (fun q => mAt (crM ax ay bx b_y k q) (mk q)) n
theorem L_sum {a b : Int32} (ha : inB a) (hb : inB b) : (a.toInt64 + b.toInt64).toInt = a.toInt + b.toInt ∧ inT (a.toInt64 + b.toInt64) := by
  obtain ⟨h1, h2⟩ := ha
  obtain ⟨h3, h4⟩ := hb
  have e : (a.toInt64 + b.toInt64).toInt = a.toInt + b.toInt := by
    rw [L_add (by rw [Int32.toInt_toInt64, Int32.toInt_toInt64]; omega) (by rw [Int32.toInt_toInt64, Int32.toInt_toInt64]; omega), Int32.toInt_toInt64, Int32.toInt_toInt64]
  exact ⟨e, by unfold inT; rw [e]; omega⟩
theorem net_left {n P F k : Nat} {ax ay bx b_y mk X Y O : Nat → Int32} {fr to : Nat → Nat} (I : netI n P ax ay bx b_y mk X Y O fr to) (hn : n ≤ 2000) (hP : P ≤ 2 * n) (hF : 5000 ≤ F) (hk : k < n) : f_Net_insideLeftOf F (tab n (fun k => nI (fr k))) (tab n (fun k => nI (to k))) (tab P X) (tab P Y) (tab n mk) (nI k) = some (inC n ax ay bx b_y mk k ^^^ mAt ((ay k).toInt < (b_y k).toInt) (mk k)) := by
  obtain ⟨I1, I2, I3, I4, I5, I6, I7⟩ := I
  have rf : ∀ q, q < n → rg (tab n (fun k => nI (fr k))) (nI q) = nI (fr q) := fun q hq => rg_tab (f := fun k => nI (fr k)) hq (by omega)
  have rt : ∀ q, q < n → rg (tab n (fun k => nI (to k))) (nI q) = nI (to q) := fun q hq => rg_tab (f := fun k => nI (to k)) hq (by omega)
  have pl : ∀ q, q < n → rg (tab P X) (nI (fr q)) = ax q ∧ rg (tab P Y) (nI (fr q)) = ay q ∧ rg (tab P X) (nI (to q)) = bx q ∧ rg (tab P Y) (nI (to q)) = b_y q := by
    intro q hq
    obtain ⟨⟨l1, l2⟩, l3, l4, l5, l6⟩ := I4 q hq
    rw [rg_tab l1 (by omega), rg_tab l1 (by omega), rg_tab l2 (by omega), rg_tab l2 (by omega)]
    exact ⟨l3, l4, l5, l6⟩
  obtain ⟨p1, p2, p3, p4⟩ := pl k hk
  obtain ⟨⟨b1, b2, b3, b4⟩, _⟩ := I1 k hk
  obtain ⟨s1, s2⟩ := L_sum b1 b3
  obtain ⟨s3, s4⟩ := L_sum b2 b4
  unfold f_Net_insideLeftOf b_Net_insideLeftOf_0
  rw [rf k hk, rt k hk, p1, p2, p3, p4]
  have key := lp_inv (fun _ _ _ _ _ _ => none) (b_Net_insideLeftOf_66 F (tab n (fun k => nI (fr k))) (tab n (fun k => nI (to k))) (tab P X) (tab P Y) (tab n mk) (nI k)) (fun c : Nat => n - c) (fun f c => c ≤ n → f (nI (fr k)) (nI (to k)) ((ax k).toInt64 + (bx k).toInt64) ((ay k).toInt64 + (b_y k).toInt64) (inC c ax ay bx b_y mk k) (nI c) = some (inC n ax ay bx b_y mk k ^^^ mAt ((ay k).toInt < (b_y k).toInt) (mk k))) (fun c f hr hc => by
    unfold b_Net_insideLeftOf_66
    rw [net_pieces, tab_len]
    simp only [ob1]
    by_cases hl : n ≤ c
    · have : c = n := by omega
      subst this
      rw [if_pos ((nIle (by omega) (by omega)).mpr hl), p2, p4]
      unfold b_Net_insideLeftOf_138
      rw [rg_tab hk (by omega)]
      by_cases c1 : b_y k ≤ ay k
      · rw [if_pos c1, if_pos rfl]
        rw [i32le] at c1
        rw [mAt_f (by omega), Int32.xor_zero]
      · rw [if_neg c1, if_neg (show ¬ (1 : Int32) = 0 by decide)]
        rw [i32le] at c1
        rw [mAt_t (by omega)]
    · rw [if_neg (fun z => hl ((nIle (by omega) (by omega)).mp z))]
      have e := hr (c + 1) (by omega) (by omega)
      have e2 : inC (c + 1) ax ay bx b_y mk k = inC c ax ay bx b_y mk k ^^^ mAt (crC ax ay bx b_y k c) (mk c) := rfl
      rw [← nI_1, e2] at e
      unfold b_Net_insideLeftOf_108
      by_cases c1 : c = k
      · rw [if_pos (by rw [c1])]
        rw [mAt_f (fun z => z.1 c1), Int32.xor_zero] at e
        exact e
      · rw [if_neg (fun z => c1 ((nIeq (by omega) (by omega)).mp z))]
        unfold f_Net_isCrossedFrom b_Net_isCrossedFrom_0
        obtain ⟨q1, q2, q3, q4⟩ := pl c (by omega)
        obtain ⟨⟨d1, d2, d3, d4⟩, _⟩ := I1 c (by omega)
        rw [rf c (by omega), rt c (by omega), q1, q2, q3, q4, pla_ray s2 s4 d1 d2 d3 d4, s1, s3]
        simp only [ob1]
        by_cases c2 : ray ((ax k).toInt + (bx k).toInt) ((ay k).toInt + (b_y k).toInt) (ax c).toInt (ay c).toInt (bx c).toInt (b_y c).toInt
        · rw [if_neg (fun z => bI_dB.mp z c2), rg_tab (by omega) (by omega)]
          rw [mAt_t (p := crC ax ay bx b_y k c) ⟨c1, c2⟩] at e
          exact e
        · rw [if_pos (bI_dB.mpr c2)]
          rw [mAt_f (p := crC ax ay bx b_y k c) (fun z => c2 z.2), Int32.xor_zero] at e
          exact e) F 0 (by omega)
  exact key (by omega)
theorem mod_right {n F k : Nat} {ax ay bx b_y mk : Nat → Int32} (I1 : pcs n ax ay bx b_y) (hn : n ≤ 2000) (hF : 5000 ≤ F) (hk : k < n) : f_Mod_right F (nI n) 2049 ax 2049 bx 2049 ay 2049 b_y 2048 mk (nI k) = some (inM n ax ay bx b_y mk k) := by
  obtain ⟨⟨b1, b2, b3, b4⟩, _⟩ := I1 k hk
  obtain ⟨s1, s2⟩ := L_sum b1 b3
  obtain ⟨s3, s4⟩ := L_sum b2 b4
  have e10 : ¬ (1 : Int32) = 0 := by decide
  have e01 : ¬ (0 : Int32) = 1 := by decide
  unfold f_Mod_right b_Mod_right_0
  rw [if_neg (ixn (by omega) (by omega)), if_neg (ixn (by omega) (by omega)), if_neg (ixn (by omega) (by omega)), if_neg (ixn (by omega) (by omega)), ixc (n := 2049) (by omega) (by omega)]
  have key := lp_inv (fun _ _ _ _ => none) (b_Mod_right_39 F (nI n) 2049 ax 2049 bx 2049 ay 2049 b_y 2048 mk (nI k)) (fun c : Nat => n - c) (fun f c => c ≤ n → f ((ax k).toInt64 + (bx k).toInt64) ((ay k).toInt64 + (b_y k).toInt64) (inM c ax ay bx b_y mk k) (nI c) = some (inM n ax ay bx b_y mk k)) (fun c f hr hc => by
    unfold b_Mod_right_39
    by_cases hl : n ≤ c
    · have : c = n := by omega
      subst this
      rw [if_pos ((nIle (by omega) (by omega)).mpr hl)]
    · rw [if_neg (fun z => hl ((nIle (by omega) (by omega)).mp z))]
      have e := hr (c + 1) (by omega) (by omega)
      have e2 : inM (c + 1) ax ay bx b_y mk k = inM c ax ay bx b_y mk k ^^^ mAt (crM ax ay bx b_y k c) (mk c) := rfl
      rw [← nI_1, e2] at e
      obtain ⟨⟨d1, d2, d3, d4⟩, _⟩ := I1 c (by omega)
      have i1 := ixn (k := c) (n := 2049) (by omega) (by omega)
      have i2 := ixn (k := c) (n := 2048) (by omega) (by omega)
      have i3 := ixc (k := c) (n := 2048) (by omega) (by omega)
      have k1 := lcl ((2 : Int64) * (ay c).toInt64) ((ay k).toInt64 + (b_y k).toInt64)
      have k2 := lcl ((2 : Int64) * (b_y c).toInt64) ((ay k).toInt64 + (b_y k).toInt64)
      rw [L_two d2, s3] at k1
      rw [L_two d4, s3] at k2
      have u1 := L_pr2 d3 d1 s4 d2
      have u2 := L_pr2 d4 d2 s2 d1
      have v1 := mul_in (L_dif d3 d1).2 (L_off s4 d2).2
      have v2 := mul_in (L_dif d4 d2).2 (L_off s2 d1).2
      have u3 := L_sub (a := (((bx c).toInt64 - (ax c).toInt64) * (((ay k).toInt64 + (b_y k).toInt64) - (2 : Int64) * (ay c).toInt64))) (b := (((b_y c).toInt64 - (ay c).toInt64) * (((ax k).toInt64 + (bx k).toInt64) - (2 : Int64) * (ax c).toInt64))) (by rw [u1, u2]; omega) (by rw [u1, u2]; omega)
      have k3 := lcl ((((bx c).toInt64 - (ax c).toInt64) * (((ay k).toInt64 + (b_y k).toInt64) - (2 : Int64) * (ay c).toInt64)) - (((b_y c).toInt64 - (ay c).toInt64) * (((ax k).toInt64 + (bx k).toInt64) - (2 : Int64) * (ax c).toInt64))) 0
      rw [u3, u1, u2, s1, s3, show (0 : Int64).toInt = 0 from rfl] at k3
      have fS : ((bx c).toInt - (ax c).toInt) * ((ay k).toInt + (b_y k).toInt - 2 * (ay c).toInt) - ((b_y c).toInt - (ay c).toInt) * ((ax k).toInt + (bx k).toInt - 2 * (ax c).toInt) = rayS ((ax k).toInt + (bx k).toInt) ((ay k).toInt + (b_y k).toInt) (ax c).toInt (ay c).toInt (bx c).toInt (b_y c).toInt := rfl
      rw [fS] at k3
      have yes : crM ax ay bx b_y k c → f ((ax k).toInt64 + (bx k).toInt64) ((ay k).toInt64 + (b_y k).toInt64) (inM c ax ay bx b_y mk k ^^^ mk c) (nI c + 1) = some (inM n ax ay bx b_y mk k) := fun z => by rw [mAt_t z] at e; exact e
      have no : ¬ crM ax ay bx b_y k c → f ((ax k).toInt64 + (bx k).toInt64) ((ay k).toInt64 + (b_y k).toInt64) (inM c ax ay bx b_y mk k) (nI c + 1) = some (inM n ax ay bx b_y mk k) := fun z => by rw [mAt_f z, Int32.xor_zero] at e; exact e
      rw [if_neg i1, i3]
      unfold b_Mod_right_71
      rw [if_neg i1, i3]
      unfold b_Mod_right_96 b_Mod_right_191 b_Mod_right_208 f_Mod_cross b_Mod_cross_0
      simp only [i3, ob1, ixf (k := c) (n := 2049) (by omega) (by omega), ixf (k := c) (n := 2048) (by omega) (by omega), ↓reduceIte, e10, e01]
      unfold crM rayM at yes no
      by_cases c0 : c = k
      · have c0' : nI c = nI k := by rw [c0]
        have r := no (fun z => z.1 c0)
        by_cases c1 : 2 * (ay c).toInt ≤ (ay k).toInt + (b_y k).toInt
        · rw [if_pos (k1.mpr c1)]
          by_cases c2 : 2 * (b_y c).toInt ≤ (ay k).toInt + (b_y k).toInt
          · rw [if_pos (k2.mpr c2), if_pos c0']; exact r
          · rw [if_neg (fun z => c2 (k2.mp z)), if_pos c0']; exact r
        · rw [if_neg (fun z => c1 (k1.mp z))]
          by_cases c2 : 2 * (b_y c).toInt ≤ (ay k).toInt + (b_y k).toInt
          · rw [if_pos (k2.mpr c2), if_pos c0']; exact r
          · rw [if_neg (fun z => c2 (k2.mp z)), if_pos c0']; exact r
      · have c0' : ¬ nI c = nI k := fun z => c0 ((nIeq (by omega) (by omega)).mp z)
        by_cases c1 : 2 * (ay c).toInt ≤ (ay k).toInt + (b_y k).toInt
        · rw [if_pos (k1.mpr c1)]
          by_cases c2 : 2 * (b_y c).toInt ≤ (ay k).toInt + (b_y k).toInt
          · rw [if_pos (k2.mpr c2), if_neg c0']; exact no (by omega)
          · rw [if_neg (fun z => c2 (k2.mp z)), if_neg c0']
            by_cases c3 : rayS ((ax k).toInt + (bx k).toInt) ((ay k).toInt + (b_y k).toInt) (ax c).toInt (ay c).toInt (bx c).toInt (b_y c).toInt ≤ 0
            · rw [if_pos (k3.mpr c3)]; exact no (by omega)
            · rw [if_neg (fun z => c3 (k3.mp z))]; exact yes ⟨c0, by omega⟩
        · rw [if_neg (fun z => c1 (k1.mp z))]
          by_cases c2 : 2 * (b_y c).toInt ≤ (ay k).toInt + (b_y k).toInt
          · rw [if_pos (k2.mpr c2), if_neg c0']
            by_cases c3 : rayS ((ax k).toInt + (bx k).toInt) ((ay k).toInt + (b_y k).toInt) (ax c).toInt (ay c).toInt (bx c).toInt (b_y c).toInt ≤ 0
            · rw [if_pos (k3.mpr c3)]; exact yes ⟨c0, by omega⟩
            · rw [if_neg (fun z => c3 (k3.mp z))]; exact no (by omega)
          · rw [if_neg (fun z => c2 (k2.mp z)), if_neg c0']; exact no (by omega)) F 0 (by omega)
  exact key (by omega)
