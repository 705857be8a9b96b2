/-! half B: piece(..), class and reference side by side: the step -/
theorem ex0 : exC 0 = 0 := rfl
theorem mod_fail (a b : Int32) : f_Mod_fail a b = some (0, a) := rfl
theorem mod_noR (a b c : Int32) (d : Int64) : f_Mod_noResult a b c d = some (0, 0, 0, 0) := rfl
theorem mul_forget (a b c : List Int32) (d : Int32) (e : Int64) : f_Mul_forget a b c d e = some ([], [], [], 0, 0) := rfl
theorem net_pieces (l : List Int32) : f_Net_pieces l = some (nI l.length) := rfl
/-- what the step of piece(..) leaves: W is what the class gives, M what the reference gives -/
def stepP (n P : Nat) (kO kX kY kM kF kT : Nat) (plan rx ry : List Int32) (pol : Int32) (tw : Int64) (pl co po : Int32) (tw2 : Int64) (W : Option (Nat × Nat × Nat × Int32 × List Int32 × Nat × List Int32 × Nat × List Int32 × Nat × List Int32 × Nat × List Int32 × Nat × List Int32 × Nat × List Int32 × List Int32 × List Int32 × Int32 × Int64)) (M : Option (Int32 × Int32 × Int32 × Int32 × Int32 × Int32 × Int64 × (Nat → Int32) × (Nat → Int32) × (Nat → Int32) × (Nat → Int32) × (Nat → Int32))) : Prop :=
  ∃ (c s ex n' P' kO' kX' kY' kM' kF' kT' : Nat) (rv rv2 : Int32) (O' X' Y' ax' ay' bx' b_y' mk' : Nat → Int32) (fr' to' : Nat → Nat) (plan' rx' ry' : List Int32) (pol' : Int32) (tw' : Int64) (pl' co' po' : Int32) (tw2' : Int64),
    W = some (c, s, ex, rv, tab P' O', kO', tab P' X', kX', tab P' Y', kY', tab n' mk', kM', tab n' (fun k => nI (fr' k)), kF', tab n' (fun k => nI (to' k)), kT', plan', rx', ry', pol', tw') ∧
    M = some (rv2, exC ex, nI n', pl', co', po', tw2', ax', bx', b_y', ay', mk') ∧
    netI n' P' ax' ay' bx' b_y' mk' X' Y' O' fr' to' ∧ n' ≤ n + 1 ∧ P' ≤ 2 * n' ∧
    ((ex = 0 ∧ rv = rv2 ∧ (plan' = [] ∧ rx' = [] ∧ ry' = [] ∧ pol' = 0 ∧ tw' = 0) ∧ (pl' = 0 ∧ co' = 0 ∧ po' = 0 ∧ tw2' = 0)) ∨ ((ex = 1 ∨ ex = 2 ∨ ex = 3) ∧ (plan' = plan ∧ rx' = rx ∧ ry' = ry ∧ pol' = pol ∧ tw' = tw) ∧ (pl' = pl ∧ co' = co ∧ po' = po ∧ tw2' = tw2))) ∧
    (capO P' kO' 4096 ∧ capO P' kX' 4096 ∧ capO P' kY' 4096 ∧ capO n' kM' 4096 ∧ capO n' kF' 4096 ∧ capO n' kT' 4096) ∧
    c + (kO + kX + kY + kM + kF + kT) ≤ kO' + kX' + kY' + kM' + kF' + kT' + 1 ∧ s + 2 * (kO + kX + kY + kM + kF + kT) ≤ 2 * (kO' + kX' + kY' + kM' + kF' + kT') + 6
theorem step_core {n P F kO kX kY kM kF kT : Nat} {ax ay bx b_y mk X Y O : Nat → Int32} {fr to : Nat → Nat} (I : netI n P ax ay bx b_y mk X Y O fr to) (hn : n ≤ 2000) (hP : P ≤ 2 * n) (hF : 5000 ≤ F) (cO : capO P kO 4096) (cX : capO P kX 4096) (cY : capO P kY 4096) (cM : capO n kM 4096) (cF : capO n kF 4096) (cT : capO n kT 4096) {x y u v : Int32} (m : Int32) (hx : inB x) (hy : inB y) (hu : inB u) (hv : inB v) (hne : ¬ (x = u ∧ y = v)) (plan rx ry : List Int32) (pol : Int32) (tw : Int64) (pl co po : Int32) (tw2 : Int64) : stepP n P kO kX kY kM kF kT plan rx ry pol tw pl co po tw2 (b_Wea_piece_38 F x y u v m (tab P O) kO (tab P X) kX (tab P Y) kY (tab n mk) kM (tab n (fun k => nI (fr k))) kF (tab n (fun k => nI (to k))) kT plan rx ry pol tw) (b_Mod_piece_45 F 2049 2049 2049 2049 2048 x y u v m 0 (nI n) pl co po tw2 ax bx b_y ay mk) := by
  have e1 : (1 : Int32).toInt = 1 := by decide
  have e3 : (3 : Int32).toInt = 3 := by decide
  have caps : capO P kO 4096 ∧ capO P kX 4096 ∧ capO P kY 4096 ∧ capO n kM 4096 ∧ capO n kF 4096 ∧ capO n kT 4096 := ⟨cO, cX, cY, cM, cF, cT⟩
  unfold b_Wea_piece_38 b_Mod_piece_45
  rw [mod_within, e1, e3]
  simp only [ob1]
  by_cases hm : 1 ≤ m.toInt ∧ m.toInt ≤ 3
  · have h1 : ¬ m < 1 := fun z => by rw [i32lt, e1] at z; omega
    have h2 : m ≤ 3 := by rw [i32le, e3]; exact hm.2
    have hm' := m13 hm.1 hm.2
    rw [if_neg h1, if_pos h2, if_neg (fun z => bI_dB.mp z hm)]
    obtain ⟨w, ew, ew', hw⟩ := find_same (F := F) I hn hP hF hne
    rw [ew, ew']
    simp only [ob1]
    rcases hw with ⟨k, hk, rfl⟩ | ⟨hno, rfl⟩
    · rw [if_neg (nIm1 (by omega)), if_pos (nI_pos' (by omega))]
      have l := I.2.2.2.1 k hk
      unfold b_Wea_piece_142 b_Mod_piece_135
      rw [net_turn (by omega) (by omega) hk l.1.1 l.1.2, if_neg (ixn (by omega) (by omega)), if_neg (ixn (by omega) (by omega)), ixc (n := 2048) (by omega) (by omega), mod_noR]
      simp only [ob2, ob4, ob5, mul_forget, ob1, net_pieces, tab_len]
      exact ⟨0, 0, 0, n, P, kO, kX, kY, kM, kF, kT, nI n, nI n, _, X, Y, ax, ay, bx, b_y, _, fr, to, [], [], [], 0, 0, 0, 0, 0, 0, rfl, rfl, netI_turn hm' hk I, by omega, hP, Or.inl ⟨rfl, rfl, ⟨rfl, rfl, rfl, rfl, rfl⟩, rfl, rfl, rfl, rfl⟩, caps, by omega, by omega⟩
    · rw [if_pos rfl, if_neg (by decide)]
      have I1 := I.1
      have I4 := I.2.2.2.1
      have pX : ∀ i, i < P → inB (X i) ∧ inB (Y i) := by
        intro i hi
        obtain ⟨k, hk, h⟩ := I.2.2.2.2.2.2 i hi
        obtain ⟨_, l3, l4, l5, l6⟩ := I4 k hk
        obtain ⟨⟨q1, q2, q3, q4⟩, _⟩ := I1 k hk
        rcases h with h | h
        · rw [← h, l3, l4]; exact ⟨q1, q2⟩
        · rw [← h, l5, l6]; exact ⟨q3, q4⟩
      rw [net_inWay (P := P) (by omega) (by omega) (by omega) X Y mk fr to (fun k hk => (I4 k hk).1.1) (fun k hk => (I4 k hk).1.2) (fun i hi => (pX i hi).1) (fun i hi => (pX i hi).2) hx hy hu hv]
      obtain ⟨A, B, C, D, hABCD, eA⟩ := mod_isApart (n := n) (F := F) (by omega) (by omega) ax ay bx b_y (fun k hk => (I1 k hk).1) hx hy hu hv
      rw [eA]
      simp only [ob1, ob5]
      have hcl : (∃ k, k < n ∧ clash (X (fr k)) (Y (fr k)) (X (to k)) (Y (to k)) x y u v) ↔ ¬ (∀ k, k < n → ¬ clash (ax k) (ay k) (bx k) (b_y k) x y u v) := by
        constructor
        · intro ⟨k, hk, z⟩ q
          obtain ⟨_, l3, l4, l5, l6⟩ := I4 k hk
          rw [l3, l4, l5, l6] at z
          exact q k hk z
        · intro q
          exact Classical.byContradiction (fun z => q (fun k hk w => z ⟨k, hk, by
            obtain ⟨_, l3, l4, l5, l6⟩ := I4 k hk
            rw [l3, l4, l5, l6]; exact w⟩))
      have ext : ∀ k, k < n → upd ax n A k = ax k ∧ upd ay n B k = ay k ∧ upd bx n C k = bx k ∧ upd b_y n D k = b_y k ∧ mk k = mk k := fun k hk => ⟨pk_un (by omega), pk_un (by omega), pk_un (by omega), pk_un (by omega), rfl⟩
      by_cases hap : ∀ k, k < n → ¬ clash (ax k) (ay k) (bx k) (b_y k) x y u v
      · rw [if_pos (bI_dB.mpr (fun z => hcl.mp z hap)), if_neg (fun z => bI_dB.mp z hap), net_pieces, tab_len]
        simp only [ob1]
        have n1 : nI n < (2048 : Int32) := nI_lt (a := n) (b := 2048) (by omega) (by omega)
        have n2 : ¬ nI n = (2048 : Int32) := fun z => by
          have := (nI_eq (a := n) (b := 2048) (by omega) (by omega)).mp z
          omega
        rw [if_pos n1, if_neg n2, if_neg (ixn (by omega) (by omega)), ixc (n := 2048) (by omega) (by omega)]
        obtain ⟨c, s, P', a, b, kO', kX', kY', kF', kT', kM', O', X', Y', eadd, gr, hP', ⟨ha, hb⟩, hab, hd', hnew, ⟨cO', cX', cY', cF', cT', cM'⟩, hc, hs⟩ := net_addPiece (n := n) (P := P) (F := F) (B := 4096) (by omega) (by omega) (by omega) (by omega) O X Y mk fr to I.2.2.2.2.1 hne cO cX cY cF cT cM
        rw [eadd]
        simp only [ob15]
        have ends : A = X' a ∧ B = Y' a ∧ C = X' b ∧ D = Y' b := by
          rcases hABCD with ⟨l, r1, r2, r3, r4⟩ | ⟨l, r1, r2, r3, r4⟩ <;> rcases hab with ⟨l', s1, s2, s3, s4⟩ | ⟨l', s1, s2, s3, s4⟩
          · exact ⟨r1.trans s1.symm, r2.trans s2.symm, r3.trans s3.symm, r4.trans s4.symm⟩
          · exact absurd l l'
          · exact absurd l' l
          · exact ⟨r1.trans s1.symm, r2.trans s2.symm, r3.trans s3.symm, r4.trans s4.symm⟩
        obtain ⟨eA', eB', eC', eD'⟩ := ends
        subst eA' eB' eC' eD'
        have pl' : inB (X' a) ∧ inB (Y' a) ∧ inB (X' b) ∧ inB (Y' b) := by
          rcases hab with ⟨l', s1, s2, s3, s4⟩ | ⟨l', s1, s2, s3, s4⟩
          · rw [s1, s2, s3, s4]; exact ⟨hx, hy, hu, hv⟩
          · rw [s1, s2, s3, s4]; exact ⟨hu, hv, hx, hy⟩
        have less : lessP (X' a) (Y' a) (X' b) (Y' b) := by
          rcases hab with ⟨l', s1, s2, s3, s4⟩ | ⟨l', s1, s2, s3, s4⟩
          · rw [s1, s2, s3, s4]; exact l'
          · rw [s1, s2, s3, s4]
            unfold lessP at l' ⊢
            have : ¬ (x.toInt = u.toInt ∧ y.toInt = v.toInt) := fun z => hne ⟨i32eq.mpr z.1, i32eq.mpr z.2⟩
            omega
        have off : ∀ k, k < n → ¬ clash (ax k) (ay k) (bx k) (b_y k) (X' a) (Y' a) (X' b) (Y' b) ∧ ¬ sameP (ax k) (ay k) (bx k) (b_y k) (X' a) (Y' a) (X' b) (Y' b) := by
          intro k hk
          rcases hab with ⟨l', s1, s2, s3, s4⟩ | ⟨l', s1, s2, s3, s4⟩
          · rw [s1, s2, s3, s4]; exact ⟨hap k hk, hno k hk⟩
          · rw [s1, s2, s3, s4]; exact ⟨fun z => hap k hk (clash_sw.mp z), fun z => hno k hk (sameP_sw z)⟩
        have J := netI_turn hm' (Nat.lt_succ_self n) (netI_add I gr ha hb hd' hnew pl' less off)
        have l := J.2.2.2.1 n (Nat.lt_succ_self n)
        unfold b_Wea_piece_142 b_Mod_piece_135
        rw [net_turn (by omega) (by omega) (Nat.lt_succ_self n) l.1.1 l.1.2, if_neg (ixn (by omega) (by omega)), if_neg (ixn (by omega) (by omega)), ixc (n := 2048) (by omega) (by omega), mod_noR]
        simp only [ob2, ob4, ob5, mul_forget, ob1, net_pieces, tab_len, ac, nI_1]
        exact ⟨c + 0, s + 0, 0, n + 1, P', kO', kX', kY', kM', kF', kT', nI (n + 1), nI (n + 1), _, X', Y', _, _, _, _, _, _, _, [], [], [], 0, 0, 0, 0, 0, 0, rfl, rfl, J, by omega, by omega, Or.inl ⟨rfl, rfl, ⟨rfl, rfl, rfl, rfl, rfl⟩, rfl, rfl, rfl, rfl⟩, ⟨cO', cX', cY', cM', cF', cT'⟩, by omega, by omega⟩
      · rw [if_neg (fun z => bI_dB.mp z (hcl.mpr hap)), if_pos (bI_dB.mpr hap), mod_fail]
        simp only [ob2]
        exact ⟨1, 6, 2, n, P, kO, kX, kY, kM, kF, kT, 0, 0, O, X, Y, _, _, _, _, mk, fr, to, plan, rx, ry, pol, tw, pl, co, po, tw2, rfl, rfl, netI_ext ext I, by omega, hP, Or.inr ⟨Or.inr (Or.inl rfl), ⟨rfl, rfl, rfl, rfl, rfl⟩, rfl, rfl, rfl, rfl⟩, caps, by omega, by omega⟩
  · rw [if_pos (bI_dB.mpr hm)]
    have bad : stepP n P kO kX kY kM kF kT plan rx ry pol tw pl co po tw2 (b_Wea_piece_50 F x y u v m (tab P O) kO (tab P X) kX (tab P Y) kY (tab n mk) kM (tab n (fun k => nI (fr k))) kF (tab n (fun k => nI (to k))) kT plan rx ry pol tw) (b_Mod_piece_55 F 2049 2049 2049 2049 2048 x y u v m 0 (nI n) pl co po tw2 ax bx b_y ay mk) := by
      unfold b_Wea_piece_50 b_Mod_piece_55
      rw [mod_fail]
      simp only [ob2]
      exact ⟨1, 6, 1, n, P, kO, kX, kY, kM, kF, kT, 0, 0, O, X, Y, ax, ay, bx, b_y, mk, fr, to, plan, rx, ry, pol, tw, pl, co, po, tw2, rfl, rfl, I, by omega, hP, Or.inr ⟨Or.inl rfl, ⟨rfl, rfl, rfl, rfl, rfl⟩, rfl, rfl, rfl, rfl⟩, caps, by omega, by omega⟩
    by_cases h1 : m < 1
    · rw [if_pos h1]; exact bad
    · rw [if_neg h1, if_neg (fun z => hm (by rw [i32lt, e1] at h1; rw [i32le, e3] at z; omega))]; exact bad
