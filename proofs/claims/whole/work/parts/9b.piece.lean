/-! half B: piece(..) whole; clear, area, count, plan, ordinate -/
theorem step_piece {n P F kO kX kY kM kF kT : Nat} {ax ay bx b_y mk X Y O : Nat → Int32} {fr to : Nat → Nat} (I : netI n P ax ay bx b_y mk X Y O fr to) (hn : n ≤ 2000) (hP : P ≤ 2 * n) (hF : 5000 ≤ F) (cO : capO P kO 4096) (cX : capO P kX 4096) (cY : capO P kY 4096) (cM : capO n kM 4096) (cF : capO n kF 4096) (cT : capO n kT 4096) (x y u v m : Int32) (plan rx ry : List Int32) (pol : Int32) (tw : Int64) (th pl co po : Int32) (tw2 : Int64) : stepP n P kO kX kY kM kF kT plan rx ry pol tw pl co po tw2 (f_Wea_piece F x y u v m (tab P O) kO (tab P X) kX (tab P Y) kY (tab n mk) kM (tab n (fun k => nI (fr k))) kF (tab n (fun k => nI (to k))) kT plan rx ry pol tw) (f_Mod_piece F 2049 2049 2049 2049 2048 x y u v m th (nI n) pl co po tw2 ax bx b_y ay mk) := by
  have bad : stepP n P kO kX kY kM kF kT plan rx ry pol tw pl co po tw2 (b_Wea_piece_28 F x y u v m (tab P O) kO (tab P X) kX (tab P Y) kY (tab n mk) kM (tab n (fun k => nI (fr k))) kF (tab n (fun k => nI (to k))) kT plan rx ry pol tw) (b_Mod_piece_55 F 2049 2049 2049 2049 2048 x y u v m 0 (nI n) pl co po tw2 ax bx b_y ay mk) := by
    unfold b_Wea_piece_28 b_Mod_piece_55
    rw [mod_fail]
    simp only [ob2]
    exact ⟨1, 6, 1, n, P, kO, kX, kY, kM, kF, kT, 0, 0, O, X, Y, ax, ay, bx, b_y, mk, fr, to, plan, rx, ry, pol, tw, pl, co, po, tw2, rfl, rfl, I, by omega, hP, Or.inr ⟨Or.inl rfl, ⟨rfl, rfl, rfl, rfl, rfl⟩, rfl, rfl, rfl, rfl⟩, ⟨cO, cX, cY, cM, cF, cT⟩, by omega, by omega⟩
  unfold f_Wea_piece b_Wea_piece_0 f_Mod_piece b_Mod_piece_0
  simp only [wea_isPlace, mod_isFar, ob1]
  have nn : ∀ {p : Prop}, p → bI (dB (¬ p)) = 0 := fun h => bI_dB.mpr (fun z => z h)
  have nm : ∀ {p : Prop}, ¬ p → ¬ bI (dB (¬ p)) = 0 := fun h z => bI_dB.mp z h
  by_cases h1 : inB x
  · by_cases h2 : inB y
    · rw [if_neg (fun z => bI_dB.mp z ⟨h1, h2⟩), if_pos (nn h1), if_pos (nn h2)]
      by_cases h3 : inB u
      · by_cases h4 : inB v
        · rw [if_neg (fun z => bI_dB.mp z ⟨h3, h4⟩), if_pos (nn h3), if_pos (nn h4)]
          by_cases e1 : x = u
          · rw [if_pos e1, if_pos e1]
            by_cases e2 : y = v
            · rw [if_pos e2, if_pos e2]; exact bad
            · rw [if_neg e2, if_neg e2]; exact step_core I hn hP hF cO cX cY cM cF cT m h1 h2 h3 h4 (fun z => e2 z.2) plan rx ry pol tw pl co po tw2
          · rw [if_neg e1, if_neg e1]; exact step_core I hn hP hF cO cX cY cM cF cT m h1 h2 h3 h4 (fun z => e1 z.1) plan rx ry pol tw pl co po tw2
        · rw [if_pos (bI_dB.mpr (fun z => h4 z.2)), if_pos (nn h3), if_neg (nm h4)]; exact bad
      · rw [if_pos (bI_dB.mpr (fun z => h3 z.1)), if_neg (nm h3)]; exact bad
    · rw [if_pos (bI_dB.mpr (fun z => h2 z.2)), if_pos (nn h1), if_neg (nm h2)]; exact bad
  · rw [if_pos (bI_dB.mpr (fun z => h1 z.1)), if_neg (nm h1)]; exact bad
