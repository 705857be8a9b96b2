/-! half B: overlay(..), class and reference side by side -/
theorem mod_much {R F : Nat} {st : Nat → Nat} {RX RY FI SZ RXr RYr : Nat → Int32} {A : Nat → Int64} (H : RSt R st RX RY) (K : RRf R st RX RY FI SZ RXr RYr) (hs0 : st 0 = 0) (hF : 5000 ≤ F) : f_Mod_isTooMuch F (nI R) 1024 A 1024 SZ = some false := by
  have m0 := RSt_m H (Nat.zero_le R)
  have h3 := H.2.2
  have t2048 : (2048 : Int32).toInt = 2048 := by decide
  unfold f_Mod_isTooMuch b_Mod_isTooMuch_0
  have key := lp_inv (fun _ _ _ => none) (b_Mod_isTooMuch_6 F (nI R) 1024 A 1024 SZ) (fun s : Nat => R - s) (fun f s => ∀ u : Nat, s ≤ R → u ≤ 2 + 3 * s → f (nI u) (nI (st s + s)) (nI s) = some false) (fun s f hr u hs hu => by
    have m1 := RSt_m H hs
    unfold b_Mod_isTooMuch_6
    by_cases c : R ≤ s
    · have e : s = R := by omega
      rw [if_pos ((nIle (by omega) (by omega)).mpr c), if_neg (fun z => by rw [i32lt, nI_toInt (by omega), t2048] at z; omega), if_pos (by rw [i32le, nI_toInt (by omega), t2048]; omega)]
    · have q := H.1 s (by omega)
      have k2 := (K.1 s (by omega)).2
      rw [if_neg (fun z => c ((nIle (by omega) (by omega)).mp z))]
      unfold b_Mod_isTooMuch_31
      simp only [ixc (show s < 1024 by omega) (by omega), ixf (show s < 1024 by omega) (by omega), ↓reduceIte, k2, nI_1, nI_ad]
      have e2 : st s + s + (st (s + 1) - st s + 1) = st (s + 1) + (s + 1) := by omega
      rw [e2]
      have p3 : nI u + 3 = nI (u + 3) := nI_ad u 3
      rw [p3]
      by_cases d : lg_cmp (A s) 0 ≤ 0
      · rw [if_pos d]; exact hr (s + 1) (by omega) (u + 1) (by omega) (by omega)
      · rw [if_neg d]; exact hr (s + 1) (by omega) (u + 3) (by omega) (by omega)) F 0 (by omega)
  have k0 := key 2 (Nat.zero_le _) (by omega)
  rw [hs0] at k0
  exact k0
theorem cap4_of {a b c d ka kb kc kd : Nat} (h1 : capO a ka 4096) (h2 : capO b kb 4096) (h3 : capO c kc 4096) (h4 : capO d kd 4096) : cap4 0 0 0 ka kb kc kd := ⟨capO_0 h1, capO_0 h2, capO_0 h3, capO_0 h4⟩
/-- gather of the class, and the reference from its walks on -/
theorem gath_all {n P F : Nat} {ax ay bx b_y mk O X Y W GR : Nat → Int32} {fr to nx pw : Nat → Nat} {what : Int32} {ow plan xs ys VX VY FI SZ RXr RYr : Nat → Int32} {AR : Nat → Int64} {len : Int32} {lx ly ls lo lw lq ll lg : List Int32} {kx ky ks ko kw kq kl kg : Nat} {sh : Int32} {kpl krx kry : Nat} (I : netI n P ax ay bx b_y mk X Y O fr to) (hn : n ≤ 1000) (hP : P ≤ 2 * n) (hF : 5000 ≤ F) (hW : w3 W n) (NX : NXs n ax ay bx b_y W nx) (hpw : isPw n W pw) (hGR : ∀ e, e < n → (W e ≠ 0 → GR e = 0) ∧ (W e = 0 → GR e ≠ 0)) (c1 : capO lx.length kx 4096) (c2 : capO ly.length ky 4096) (c3 : capO ls.length ks 4096) (c4 : capO lo.length ko 4096) (c5 : capO lw.length kw 4096) (c6 : capO lq.length kq 4096) (c7 : capO ll.length kl 4096) (c8 : capO lg.length kg 4096) (cpr : cap3 0 0 kpl krx kry) : ∃ (R : Nat) (st : Nat → Nat) (RX RY : Nat → Int32) (so : Nat → Nat) (A : Nat → Int64) (kx' ky' ks' ko' kw' kq' kl' kg' : Nat) (L' GC' : Nat → Int32) (C D a b : Nat) (PL XS YS : Nat → Int32) (tw : Int64) (kpl' krx' kry' C2 D2 : Nat) (q1 q2 : Int32) (q3 q4 q5 q6 q7 q8 q9 q10 : Nat → Int32) (q11 : Int32), f_Rgs_gather F (tab P O) (tab P X) (tab P Y) (tab (wn W n) (fun i => nI (stW W fr to (pw i)))) (tab (wn W n) (fun i => nI (enW W fr to (pw i)))) (tab (wn W n) (fun i => nI (wn W (nx (pw i))))) lx kx ly ky ls ks lo ko lw kw lq kq ll kl lg kg sh = some (C, D, tab (st R) RX, kx', tab (st R) RY, ky', tab R (fun r => nI (st r)), ks', tab R (fun i => nI (so i)), ko', tab R (OWc A st RX RY R), kw', [], kq', tab P L', kl', tab (wn W n) GC', kg', nI (cntP (fun r => 0 < (A r).toInt) R)) ∧ f_Mul_tell F (tab R (fun i => nI (so i))) (tab R (OWc A st RX RY R)) (tab R (fun r => nI (st r))) (tab (st R) RX) (tab (st R) RY) (nI (cntP (fun r => 0 < (A r).toInt) R)) [] kpl [] krx [] kry 0 0 = some (C2, D2, tab a PL, kpl', tab b XS, krx', tab b YS, kry', nI (cntP (fun r => 0 < (A r).toInt) R), tw) ∧ lp (fun _ _ _ _ _ _ _ _ _ _ _ _ _ _ _ _ _ _ _ _ _ _ => none) (b_Mod_overlay_54 F (nI n) 2049 ax 2049 ay 2049 bx 2049 b_y 2048 mk 2048 2048 1024 1024 1024 1024 2052 2052 4096 4096 4096 2052 2052 what) F 0 0 0 0 0 0 len 0 0 W GR AR SZ ow FI RXr RYr plan xs ys VX VY = some (nI (cntP (fun r => 0 < (A r).toInt) R), 0, nI a, nI b, nI (cntP (fun r => 0 < (A r).toInt) R), tw, q1, nI R, q2, W, q3, A, q4, q5, q6, q7, q8, PL, XS, YS, q9, q10) ∧ q11 = 0 ∧ ((R ≤ 340 ∧ R + st R ≤ 1400) ∧ cntP (fun r => 0 < (A r).toInt) R ≤ R) ∧ (a ≤ 1100 ∧ b ≤ 2000) ∧ (capO (st R) kx' 4096 ∧ capO (st R) ky' 4096 ∧ capO R ks' 4096 ∧ capO R ko' 4096 ∧ capO R kw' 4096 ∧ capO 0 kq' 4096 ∧ capO P kl' 4096 ∧ capO (wn W n) kg' 4096) ∧ cap3 a b kpl' krx' kry' ∧ (C + (kx + ky + ks + ko + kw + kq + kl + kg) ≤ kx' + ky' + ks' + ko' + kw' + kq' + kl' + kg' ∧ D + 2 * (kx + ky + ks + ko + kw + kq + kl + kg) = 2 * (kx' + ky' + ks' + ko' + kw' + kq' + kl' + kg')) ∧ C2 + (kpl + krx + kry) ≤ kpl' + krx' + kry' ∧ D2 + 2 * (kpl + krx + kry) = 2 * (kpl' + krx' + kry') := by
  have hm := wn_le (W := W) (k := n)
  have I' := I
  obtain ⟨I1, I2, I3, I4, I5, I6, I7⟩ := I'
  obtain ⟨Cp, Dp, kl', kg', ep, p1, p2, p3, p4⟩ := rgs_prep (P := P) (m := wn W n) (F := F) (O := O) (wf := fun i => nI (stW W fr to (pw i))) (lx := lx) (ly := ly) (ls := ls) (lo := lo) (lw := lw) (lq := lq) (sh := sh) (show P ≤ 2000 by omega) (show wn W n ≤ 2000 by omega) hF c7 c8
  obtain ⟨R, st, RX, RY, FI', SZ', RXr', RYr', A, fp, U, VX', VY', L', GC', GR', kq', kx', ks', ky', len', C1, D1, e1, e2, hRI, hQ, cp, a1, a2⟩ := outer (what := what) (thr := 0) (pla := 0) (co := 0) (po := 0) (tw := 0) (ow := ow) (plan := plan) (xs := xs) (ys := ys) (lo := []) (lw := []) (ko := ko) (kw := kw) (kl := kl') (kg := kg') (sh := 0) I hn hP hF hW NX hpw n 0 0 (fun _ => 0) (fun _ => 0) (fun _ => 0) FI SZ RXr RYr AR (fun _ => 0) (fun _ => False) VX VY (fun _ => -1) (fun _ => 0) GR kq kx ks ky F F len (by omega) (by omega) (by omega) (by omega) (fun _ _ => rfl) (fun e he we => ⟨fun _ => (hGR e he).1 we, fun _ => rfl⟩) ⟨rfl, fun r hr => absurd hr (Nat.not_lt_zero r), fun r s hr => absurd hr (Nat.not_lt_zero r), fun j hj => absurd hj (Nat.not_lt_zero j), fun r hr => absurd hr (Nat.not_lt_zero r)⟩ (fun e he => he.elim) (Nat.zero_le _) (fun e he we h => absurd ((hGR _ (NX e he we).1).1 (NX e he we).2.2.1) h) (fun e he we => (hGR e he).2 we) (cap4_of c6 c1 c3 c2)
  have HS : RSt R st RX RY := ⟨fun r hr => (hRI.2.1 r hr).1, fun j hj => (hRI.2.2.2.1 j hj).1, by omega⟩
  have HK : RRf R st RX RY FI' SZ' RXr' RYr' := ⟨fun r hr => hRI.2.2.2.2 r hr, fun j hj => (hRI.2.2.2.1 j hj).2⟩
  have HT : totR R st RX RY := g3 I1 I2 hRI
  have hA : ∀ s, s < R → arR st RX RY s = A s := fun s hs => (hRI.2.1 s hs).2.1.1.symm
  have hA0 : ∀ r, r < R → (A r).toInt ≠ 0 := fun r hr z => (hRI.2.1 r hr).2.1.2 (Int64.toInt_inj.mp z)
  have m0 := RSt_m HS (Nat.zero_le R)
  obtain ⟨so, ko', kw', C3, D3, e3, hO, b1, b2, b3, b4⟩ := gath2 (n := n) (P := P) (R := R) (F := F) (O := O) (X := X) (Y := Y) (lf := tab (wn W n) (fun i => nI (stW W fr to (pw i)))) (lt := tab (wn W n) (fun i => nI (enW W fr to (pw i)))) (ln := tab (wn W n) (fun i => nI (wn W (nx (pw i))))) (lq := []) (ll := tab P L') (lg := tab (wn W n) GC') (kp := kq') (kl := kl') (kg := kg') (kx := kx') (ky := ky') (ks := ks') HS HT hF hA R 0 (fun i => i) ko kw F (by omega) (Nat.zero_le _) (by omega) ⟨fun i hi => absurd hi (Nat.not_lt_zero i), fun i j _ hj => absurd hj (Nat.not_lt_zero j), fun r hr => absurd hr (Nat.not_lt_zero r), fun p => rfl⟩ (capO_0 c4) (capO_0 c5)
  obtain ⟨G, eG, hG⟩ := mod_owners (R := R) (F := F) (st := st) (RX := RX) (RY := RY) (OW := ow) (A := A) HS HK hF
  obtain ⟨a, b, PL, XS, YS, PL2, XS2, YS2, tw, kpl', krx', kry', C2, D2, t1, t2, t3, t4, t5, ⟨t6, t6'⟩, t7, t8, t9⟩ := tell_all (PL' := plan) (XS' := xs) (YS' := ys) (po := 0) (G := G) HS HK HT hO hF hA hA0 hG cpr
  have mm := mod_much (A := A) HS HK hRI.1 hF
  refine ⟨R, st, RX, RY, so, A, kx', ky', ks', ko', kw', kq', kl', kg', L', GC', Cp + (C1 + C3), Dp + (D1 + D3), a, b, PL2, XS2, YS2, tw, kpl', krx', kry', C2, D2, len', nI (st R), GR', SZ', G, FI', RXr', RYr', VX', VY', 0, ?_, ?_, ?_, rfl, ⟨by omega, cnt_n⟩, ⟨t6, t6'⟩, ⟨cp.2.1, cp.2.2.2, cp.2.2.1, b1, b2, cp.1, p1, p2⟩, t7, ⟨by omega, by omega⟩, t8, t9⟩
  · unfold f_Rgs_gather b_Rgs_gather_0
    rw [ep]
    simp only [ob13]
    have z0 : wn W 0 = 0 := rfl
    rw [z0, nI_0] at e1
    simp only [tab_nil] at e1
    rw [e1]
    have z1 : cntP (fun r => 0 < (A r).toInt) 0 = 0 := rfl
    rw [z1, nI_0] at e3
    simp only [tab_nil] at e3
    rw [e3]
    rfl
  · rw [t1, tab_ext (fun i hi => (t3 i hi).symm), tab_ext (fun i hi => (t4 i hi).symm), tab_ext (fun i hi => (t5 i hi).symm)]
  · rw [nI_0] at e2
    rw [e2]
    unfold b_Mod_overlay_54
    rw [if_pos ((nIle (by omega) (by omega)).mpr (Nat.le_refl n)), mm]
    simp only [ob1]
    rw [if_pos (by decide), eG]
    simp only [ob1]
    rw [t2]
    rfl
