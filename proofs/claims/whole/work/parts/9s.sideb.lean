/-! half B, G1: the marks beside a piece at a place, by its rank -/
noncomputable def c0V (n : Nat) (ax ay bx b_y mk : Nat → Int32) (vx vy : Int32) : Int32 := xo (fun e => mAt (¬ atE (2 * (ax e).toInt) (2 * (ay e).toInt) (2 * (bx e).toInt) (2 * (b_y e).toInt) (2 * vx.toInt) (2 * vy.toInt) ∧ rho (2 * vx.toInt) (2 * vy.toInt) (2 * (ax e).toInt) (2 * (ay e).toInt) (2 * (bx e).toInt) (2 * (b_y e).toInt)) (mk e)) n
theorem atE_atV {ax ay bx b_y : Nat → Int32} {vx vy : Int32} {e : Nat} {t : Int} (ht : 0 < t) : atE (t * (ax e).toInt) (t * (ay e).toInt) (t * (bx e).toInt) (t * (b_y e).toInt) (t * vx.toInt) (t * vy.toInt) ↔ atV ax ay bx b_y vx vy e := by
  have q : ∀ {g h : Int32}, t * g.toInt = t * h.toInt ↔ g = h := fun {g h} => ⟨fun z => i32eq.mpr (Int.eq_of_mul_eq_mul_left (by omega) z), fun z => by rw [z]⟩
  unfold atE atV isE
  rw [q, q, q, q]
theorem clash_sx {a b c d p q r s : Int32} : clash a b c d p q r s ↔ clash c d a b p q r s := by
  rw [clash_sy, clash_sw, clash_sy]
theorem side_k {n k : Nat} {ax ay bx b_y mk : Nat → Int32} {vx vy : Int32} (I1 : pcs n ax ay bx b_y) (I2 : apt n ax ay bx b_y) (hc : closed n ax ay bx b_y mk) (hk : k < n) (sk : atV ax ay bx b_y vx vy k) : inM n ax ay bx b_y mk k = c0V n ax ay bx b_y mk vx vy ^^^ NNr n (atV ax ay bx b_y vx vy) (rkV n ax ay bx b_y vx vy) mk (rkV n ax ay bx b_y vx vy k + if dB (Uh (dX ax ay bx vx vy k) (dY ax ay b_y vx vy k)) = true then 0 else 1) := by
  rw [← in_same I1 I2 hk]
  -- the middle of k
  have mid : (ax k).toInt + (bx k).toInt = 2 * vx.toInt + 1 * ((farX ax ay bx vx vy k).toInt - vx.toInt) ∧ (ay k).toInt + (b_y k).toInt = 2 * vy.toInt + 1 * ((farY ax ay b_y vx vy k).toInt - vy.toInt) := by
    rcases at_form sk with ⟨⟨h1, h2⟩, h3, h4⟩ | ⟨_, ⟨h1, h2⟩, h3, h4⟩
    · rw [h3, h4, h1, h2]; omega
    · rw [h3, h4, h1, h2]; omega
  have e1 : inC n ax ay bx b_y mk k = xo (fun e => mAt (e ≠ k ∧ rho (2 * vx.toInt + 1 * ((farX ax ay bx vx vy k).toInt - vx.toInt)) (2 * vy.toInt + 1 * ((farY ax ay b_y vx vy k).toInt - vy.toInt)) (2 * (ax e).toInt) (2 * (ay e).toInt) (2 * (bx e).toInt) (2 * (b_y e).toInt)) (mk e)) n := by
    apply xo_ext
    intro e _
    unfold crC
    rw [mid.1, mid.2, propext (ray_rho _ _ _ _ _ _)]
  have z0 : ∀ {x y p q s t : Int}, crs x y p q s t = 0 → ¬ swp x y p q s t := by
    intro x y p q s t h
    unfold swp; rw [h]; omega
  have ends : crs (2 * vx.toInt + 1 * ((farX ax ay bx vx vy k).toInt - vx.toInt)) (2 * vy.toInt + 1 * ((farY ax ay b_y vx vy k).toInt - vy.toInt)) (2 * vx.toInt) (2 * vy.toInt) (2 * (ax k).toInt) (2 * (ay k).toInt) = 0 ∧ crs (2 * vx.toInt + 1 * ((farX ax ay bx vx vy k).toInt - vx.toInt)) (2 * vy.toInt + 1 * ((farY ax ay b_y vx vy k).toInt - vy.toInt)) (2 * vx.toInt) (2 * vy.toInt) (2 * (bx k).toInt) (2 * (b_y k).toInt) = 0 := by
    rcases at_form sk with ⟨⟨h1, h2⟩, h3, h4⟩ | ⟨_, ⟨h1, h2⟩, h3, h4⟩
    · rw [h3, h4, h1, h2]; unfold crs; constructor <;> grind
    · rw [h3, h4, h1, h2]; unfold crs; constructor <;> grind
  have g := g1L (n := n) (k := k) (a := fun e => 2 * (ax e).toInt) (b := fun e => 2 * (ay e).toInt) (c := fun e => 2 * (bx e).toInt) (d := fun e => 2 * (b_y e).toInt) (m := mk) (x := 2 * vx.toInt + 1 * ((farX ax ay bx vx vy k).toInt - vx.toInt)) (y := 2 * vy.toInt + 1 * ((farY ax ay b_y vx vy k).toInt - vy.toInt)) (p := 2 * vx.toInt) (q := 2 * vy.toInt) (cl_pts I1 hc (by omega)) ((atE_atV (by omega)).mpr sk) (z0 ends.1) (z0 ends.2) (by
    intro e he hek
    by_cases ca : atV ax ay bx b_y vx vy e
    · exact Or.inl ((atE_atV (by omega)).mpr ca)
    · right
      refine off_sc (ncl_of ?_ (fun z => ca (Or.inl z)) (fun z => ca (Or.inr z)) ?_) (by omega) (by omega)
      · intro z
        have := dir_ne I1 hk sk
        unfold dX dY at this
        rw [← z.1, ← z.2] at this
        omega
      · have nc := (I2 k e hk he (Ne.symm hek)).1
        rcases at_form sk with ⟨⟨h1, h2⟩, h3, h4⟩ | ⟨_, ⟨h1, h2⟩, h3, h4⟩
        · rw [h3, h4, ← h1, ← h2]; exact nc
        · rw [h3, h4, ← h1, ← h2]; exact fun z => nc (clash_sx.mp z))
  rw [e1, g]
  show c0V n ax ay bx b_y mk vx vy ^^^ _ = _
  congr 1
  have far2 : ∀ e, atV ax ay bx b_y vx vy e → farE (2 * (ax e).toInt) (2 * (ay e).toInt) (2 * (bx e).toInt) (2 * (b_y e).toInt) (2 * vx.toInt) (2 * vy.toInt) = (2 * (farX ax ay bx vx vy e).toInt, 2 * (farY ax ay b_y vx vy e).toInt) := by
    intro e se
    have q : ∀ {g h : Int32}, 2 * g.toInt = 2 * h.toInt ↔ g = h := fun {g h} => ⟨fun z => i32eq.mpr (by omega), fun z => by rw [z]⟩
    unfold farE
    rcases at_form se with ⟨h1, h3, h4⟩ | ⟨h1, _, h3, h4⟩
    · rw [h3, h4, if_pos (dB_t ⟨q.mpr h1.1, q.mpr h1.2⟩)]
    · rw [h3, h4, if_neg (fun z => h1 ⟨q.mp (dB_i.mp z).1, q.mp (dB_i.mp z).2⟩)]
  have tk : ∀ e, e < n → atV ax ay bx b_y vx vy e → (tkD (2 * vx.toInt + 1 * ((farX ax ay bx vx vy k).toInt - vx.toInt)) (2 * vy.toInt + 1 * ((farY ax ay b_y vx vy k).toInt - vy.toInt)) (2 * vx.toInt) (2 * vy.toInt) (2 * (farX ax ay bx vx vy e).toInt) (2 * (farY ax ay b_y vx vy e).toInt) ↔ ((Uh (dX ax ay bx vx vy k) (dY ax ay b_y vx vy k) ∧ aL (dX ax ay bx vx vy e) (dY ax ay b_y vx vy e) (dX ax ay bx vx vy k) (dY ax ay b_y vx vy k)) ∨ (¬ Uh (dX ax ay bx vx vy k) (dY ax ay b_y vx vy k) ∧ aL (dX ax ay bx vx vy k) (dY ax ay b_y vx vy k) (dX ax ay bx vx vy e) (dY ax ay b_y vx vy e)))) := by
    intro e he se
    rw [← tk_aL (dir_ne I1 hk sk) (dir_ne I1 he se)]
    have ec : crs (2 * vx.toInt) (2 * vy.toInt) (2 * vx.toInt + 1 * ((farX ax ay bx vx vy k).toInt - vx.toInt)) (2 * vy.toInt + 1 * ((farY ax ay b_y vx vy k).toInt - vy.toInt)) (2 * (farX ax ay bx vx vy e).toInt) (2 * (farY ax ay b_y vx vy e).toInt) = 2 * cr2 (dX ax ay bx vx vy k) (dY ax ay b_y vx vy k) (dX ax ay bx vx vy e) (dY ax ay b_y vx vy e) := by
      unfold crs cr2 dX dY; grind
    unfold tkD
    rw [ec]
    unfold dX dY
    omega
  by_cases cu : Uh (dX ax ay bx vx vy k) (dY ax ay b_y vx vy k)
  · rw [if_pos (dB_t cu), Nat.add_zero]
    apply xo_ext
    intro e he
    by_cases se : atV ax ay bx b_y vx vy e
    · rw [far2 e se, propext (tk e he se), propext (atE_atV (by omega))]
      have hr := rkV_lt I1 I2 he hk se sk
      by_cases c : rkV n ax ay bx b_y vx vy e < rkV n ax ay bx b_y vx vy k
      · rw [mAt_t (p := _ ∧ _ ∧ _) ⟨fun z => by rw [z] at c; omega, se, Or.inl ⟨cu, hr.mpr c⟩⟩, mAt_t ⟨se, c⟩]
      · rw [mAt_f (p := _ ∧ _ ∧ _) (fun z => by
          rcases z.2.2 with w | w
          · exact c (hr.mp w.2)
          · exact w.1 cu), mAt_f (fun z => c z.2)]
    · rw [mAt_f (fun z => se ((atE_atV (by omega)).mp z.2.1)), mAt_f (fun z => se z.1)]
  · rw [if_neg (fun z => cu (dB_i.mp z))]
    apply xeq
    have all := odd_any hc vx vy
    rw [show oddAt n ax ay bx b_y mk vx vy = xo (fun e => mAt (atV ax ay bx b_y vx vy e) (mk e)) n from rfl] at all
    rw [← all]
    unfold NNr
    rw [← xo_x]
    apply xo_ext
    intro e he
    by_cases se : atV ax ay bx b_y vx vy e
    · rw [far2 e se, propext (tk e he se), propext (atE_atV (by omega))]
      have hr := rkV_lt I1 I2 hk he sk se
      by_cases c : rkV n ax ay bx b_y vx vy k < rkV n ax ay bx b_y vx vy e
      · rw [mAt_t (p := _ ∧ _ ∧ _) ⟨fun z => by rw [z] at c; omega, se, Or.inr ⟨cu, hr.mpr c⟩⟩, mAt_f (p := _ ∧ _ < _ + 1) (fun z => by omega), mAt_t se, Int32.xor_zero]
      · rw [mAt_f (p := _ ∧ _ ∧ _) (fun z => by
          rcases z.2.2 with w | w
          · exact cu w.1
          · exact c (hr.mp w.2)), mAt_t (p := _ ∧ _ < _ + 1) ⟨se, by omega⟩, mAt_t se, Int32.zero_xor]
    · rw [mAt_f (fun z => se ((atE_atV (by omega)).mp z.2.1)), mAt_f (p := _ ∧ _ < _ + 1) (fun z => se z.1), mAt_f se, Int32.xor_zero]
