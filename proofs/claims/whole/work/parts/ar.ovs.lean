/-! half B: overlay(..), class and reference side by side: whole -/
def ovR (S : Nat) (W : Option (Nat × Nat × Nat × Int32 × List Int32 × Nat × List Int32 × Nat × List Int32 × Nat × List Int32 × Nat × List Int32 × Nat × List Int32 × Nat × List Int32 × Nat × List Int32 × Nat × List Int32 × Nat × List Int32 × Nat × List Int32 × Nat × List Int32 × Nat × List Int32 × Nat × List Int32 × Nat × List Int32 × Nat × List Int32 × Nat × Int32 × Int64 × Int32)) (M : Option (Int32 × Int32 × Int32 × Int32 × Int32 × Int64 × Int32 × Int32 × Int32 × (Nat → Int32) × (Nat → Int32) × (Nat → Int64) × (Nat → Int32) × (Nat → Int32) × (Nat → Int32) × (Nat → Int32) × (Nat → Int32) × (Nat → Int32) × (Nat → Int32) × (Nat → Int32) × (Nat → Int32) × (Nat → Int32))) : Prop :=
  ∃ (c s ex : Nat) (rv rv2 : Int32) (a b : Nat) (PL XS YS : Nat → Int32) (kpl' krX' krY' : Nat) (mbf mbt mbn mbw mba mrx mry mrs mro mrw mrq mrl mrg : List Int32) (jbf jbt jbn jbw jba jrx jry jrs jro jrw jrq jrl jrg : Nat) (pol : Int32) (tw : Int64) (sh : Int32) (q1 q2 q3 : Int32) (q4 q5 : Nat → Int32) (q6 : Nat → Int64) (q7 q8 q9 q10 q11 q12 q13 : Nat → Int32),
    W = some (c, s, ex, rv, tab a PL, kpl', tab b XS, krX', tab b YS, krY', mbf, jbf, mbt, jbt, mbn, jbn, mbw, jbw, mba, jba, mrx, jrx, mry, jry, mrs, jrs, mro, jro, mrw, jrw, mrq, jrq, mrl, jrl, mrg, jrg, pol, tw, sh) ∧
    M = some (rv2, exC ex, nI a, nI b, pol, tw, q1, q2, q3, q4, q5, q6, q7, q8, q9, q10, q11, PL, XS, YS, q12, q13) ∧
    ((ex = 0 ∧ rv = rv2) ∨ ex = 1 ∨ ex = 2) ∧ (a ≤ 4096 ∧ b ≤ 4096) ∧ (capO a kpl' 4096 ∧ capO b krX' 4096 ∧ capO b krY' 4096) ∧ (capO mbf.length jbf 4096 ∧ capO mbt.length jbt 4096 ∧ capO mbn.length jbn 4096 ∧ capO mbw.length jbw 4096 ∧ capO mba.length jba 4096 ∧ capO mrx.length jrx 4096 ∧ capO mry.length jry 4096 ∧ capO mrs.length jrs 4096 ∧ capO mro.length jro 4096 ∧ capO mrw.length jrw 4096 ∧ capO mrq.length jrq 4096 ∧ capO mrl.length jrl 4096 ∧ capO mrg.length jrg 4096) ∧
    c + S ≤ kpl' + krX' + krY' + jbf + jbt + jbn + jbw + jba + jrx + jry + jrs + jro + jrw + jrq + jrl + jrg + 1 ∧ s + 2 * S ≤ 2 * (kpl' + krX' + krY' + jbf + jbt + jbn + jbw + jba + jrx + jry + jrs + jro + jrw + jrq + jrl + jrg) + 6
theorem ac_some' {α : Type} (c d x y : Nat) (z : α) : ac c d (some (x, y, z)) = some (c + x, d + y, z) := rfl
theorem step_overlay {n P F : Nat} {ax ay bx b_y mk X Y O : Nat → Int32} {fr to : Nat → Nat} (I : netI n P ax ay bx b_y mk X Y O fr to) (hn : n ≤ 1000) (hP : P ≤ 2 * n) (hF : 5000 ≤ F) (w : Int32) {lpl lrX lrY lbf lbt lbn lbw lba lrx lry lrs lro lrw lrq lrl lrg : List Int32} {kpl krX krY kbf kbt kbn kbw kba krx kry krs kro krw krq krl krg : Nat} (cpl : capO lpl.length kpl 4096) (crX : capO lrX.length krX 4096) (crY : capO lrY.length krY 4096) (cbf : capO lbf.length kbf 4096) (cbt : capO lbt.length kbt 4096) (cbn : capO lbn.length kbn 4096) (cbw : capO lbw.length kbw 4096) (cba : capO lba.length kba 4096) (crx : capO lrx.length krx 4096) (cry : capO lry.length kry 4096) (crs : capO lrs.length krs 4096) (cro : capO lro.length kro 4096) (crw : capO lrw.length krw 4096) (crq : capO lrq.length krq 4096) (crl : capO lrl.length krl 4096) (crg : capO lrg.length krg 4096) (pol : Int32) (tw : Int64) (sh thr pl co po : Int32) (tw2 : Int64) (len rgs plc : Int32) (w0 g0 : Nat → Int32) (ar0 : Nat → Int64) (sz0 ow0 fi0 rx0 ry0 pn0 xs0 ys0 wx0 wy0 : Nat → Int32) : ovR (kpl + krX + krY + kbf + kbt + kbn + kbw + kba + krx + kry + krs + kro + krw + krq + krl + krg) (f_Wea_overlay F (tab P O) (tab n mk) (tab P X) (tab P Y) (tab n (fun k => nI (fr k))) (tab n (fun k => nI (to k))) w lpl kpl lrX krX lrY krY lbf kbf lbt kbt lbn kbn lbw kbw lba kba lrx krx lry kry lrs krs lro kro lrw krw lrq krq lrl krl lrg krg pol tw sh) (f_Mod_overlay F (nI n) 2049 ax 2049 ay 2049 bx 2049 b_y 2048 mk 2048 2048 1024 1024 1024 1024 2052 2052 4096 4096 4096 2052 2052 w thr pl co po tw2 len rgs plc w0 g0 ar0 sz0 ow0 fi0 rx0 ry0 pn0 xs0 ys0 wx0 wy0) := by
  have I' := I
  obtain ⟨I1, I2, I3, I4, I5, I6, I7⟩ := I'
  have t4 : (4 : Int32).toInt = 4 := by decide
  have t2048 : (2048 : Int32).toInt = 2048 := by decide
  unfold f_Wea_overlay b_Wea_overlay_0 f_Mod_overlay b_Mod_overlay_0
  rw [mod_noR, mul_forget, mod_within, t0, t4]
  simp only [ob5, ob4, ob1]
  have bad1 : ovR (kpl + krX + krY + kbf + kbt + kbn + kbw + kba + krx + kry + krs + kro + krw + krq + krl + krg) (some (1, 6, 1, 0, [], kpl, [], krX, [], krY, lbf, kbf, lbt, kbt, lbn, kbn, lbw, kbw, lba, kba, lrx, krx, lry, kry, lrs, krs, lro, kro, lrw, krw, lrq, krq, lrl, krl, lrg, krg, 0, 0, sh)) (some (0, 1, 0, 0, 0, 0, len, rgs, plc, w0, g0, ar0, sz0, ow0, fi0, rx0, ry0, pn0, xs0, ys0, wx0, wy0)) := ⟨1, 6, 1, 0, 0, 0, 0, pn0, xs0, ys0, kpl, krX, krY, lbf, lbt, lbn, lbw, lba, lrx, lry, lrs, lro, lrw, lrq, lrl, lrg, kbf, kbt, kbn, kbw, kba, krx, kry, krs, kro, krw, krq, krl, krg, 0, 0, sh, len, rgs, plc, w0, g0, ar0, sz0, ow0, fi0, rx0, ry0, wx0, wy0, rfl, rfl, Or.inr (Or.inl rfl), ⟨by omega, by omega⟩, ⟨capO_0 cpl, capO_0 crX, capO_0 crY⟩, ⟨cbf, cbt, cbn, cbw, cba, crx, cry, crs, cro, crw, crq, crl, crg⟩, by omega, by omega⟩
  have bad2 : ovR (kpl + krX + krY + kbf + kbt + kbn + kbw + kba + krx + kry + krs + kro + krw + krq + krl + krg) (some (1, 6, 2, 0, [], kpl, [], krX, [], krY, lbf, kbf, lbt, kbt, lbn, kbn, lbw, kbw, lba, kba, lrx, krx, lry, kry, lrs, krs, lro, kro, lrw, krw, lrq, krq, lrl, krl, lrg, krg, 0, 0, sh)) (some (0, 2, 0, 0, 0, 0, len, rgs, plc, w0, g0, ar0, sz0, ow0, fi0, rx0, ry0, pn0, xs0, ys0, wx0, wy0)) := ⟨1, 6, 2, 0, 0, 0, 0, pn0, xs0, ys0, kpl, krX, krY, lbf, lbt, lbn, lbw, lba, lrx, lry, lrs, lro, lrw, lrq, lrl, lrg, kbf, kbt, kbn, kbw, kba, krx, kry, krs, kro, krw, krq, krl, krg, 0, 0, sh, len, rgs, plc, w0, g0, ar0, sz0, ow0, fi0, rx0, ry0, wx0, wy0, rfl, rfl, Or.inr (Or.inr rfl), ⟨by omega, by omega⟩, ⟨capO_0 cpl, capO_0 crX, capO_0 crY⟩, ⟨cbf, cbt, cbn, cbw, cba, crx, cry, crs, cro, crw, crq, crl, crg⟩, by omega, by omega⟩
  by_cases hw1 : 0 ≤ w.toInt ∧ w.toInt ≤ 4
  · rw [if_neg (fun z => by rw [i32lt, t0] at z; omega), if_pos (by rw [i32le, t4]; exact hw1.2), if_neg (fun z => bI_dB.mp z hw1), net_isClosed (show P ≤ 1000000 by omega) (show P < F by omega), mod_areClosed (show n ≤ 2048 by omega) (show n < F by omega), dB_c (closed_same I)]
    simp only [ob1]
    by_cases hc : closed n ax ay bx b_y mk
    · have hc' : ∀ k, k < n → oddAt n ax ay bx b_y mk (ax k) (ay k) = 0 ∧ oddAt n ax ay bx b_y mk (bx k) (b_y k) = 0 := hc
      rw [if_neg (fun z => bI_dB.mp z hc'), if_neg (fun z => bI_dB.mp z hc')]
      have hw : w04 w := by
        unfold w04
        rw [i32eq, i32eq, i32eq, i32eq, i32eq, t0, show (1 : Int32).toInt = 1 by decide, show (2 : Int32).toInt = 2 by decide, show (3 : Int32).toInt = 3 by decide, t4]
        omega
      obtain ⟨W, G, eW, hWG⟩ := mod_findWays (F := F) (w := w) I1 I3 (by omega) hF hw w0 g0
      have hW : ∀ k, k < n → W k = wyM w n ax ay bx b_y mk k := fun k hk => (hWG k hk).1
      have hW3 : w3 W n := fun k hk => by
        rw [hW k hk]
        rcases wy_cases (w := w) (n := n) (k := k) (ax := ax) (ay := ay) (bx := bx) (b_y := b_y) (mk := mk) with z | z | z
        · exact Or.inl z.1
        · exact Or.inr (Or.inl z.1)
        · exact Or.inr (Or.inr z.1)
      obtain ⟨nx, NX⟩ := nx_ex (w := w) I1 I2 I3 hc hW
      obtain ⟨pw, hpw⟩ := pw_ex n W
      obtain ⟨ct, dt, jbf, jbt, jbn, jbw, jba, et, ⟨u1, u2, u3, u4, u5⟩, ut1, ut2⟩ := bnd_trace (lf := lbf) (lt := lbt) (ln := lbn) (lw := lbw) (la := lba) I (by omega) hP hF hw hW NX hpw ⟨cbf, cbt, cbn, cbw, cba⟩
      have hGR : ∀ e, e < n → (W e ≠ 0 → G e = 0) ∧ (W e = 0 → G e ≠ 0) := by
        intro e he
        obtain ⟨z1, z2⟩ := hWG e he
        rw [z2, z1]
        unfold gnM
        exact ⟨fun z => mAt_f z, fun z => by rw [mAt_t z]; decide⟩
      obtain ⟨R, st, RX, RY, so, A, jrx, jry, jrs, jro, jrw, jrq, jrl, jrg, L', GC', C, D, a, b, PL, XS, YS, twN, kpl', krX', krY', C2, D2, q1, q2, q3, q4, q5, q6, q7, q8, q9, q10, q11, e1, e2, e3, _, ⟨⟨v0, v1⟩, v2⟩, ⟨v3, v4⟩, ⟨s1, s2, s3, s4, s5, s6, s7, s8⟩, ⟨s9, s10, s11⟩, ⟨x1, x2⟩, x3, x4⟩ := gath_all (what := w) (ow := ow0) (plan := pn0) (xs := xs0) (ys := ys0) (VX := wx0) (VY := wy0) (FI := fi0) (SZ := sz0) (RXr := rx0) (RYr := ry0) (AR := ar0) (len := len) (lx := lrx) (ly := lry) (ls := lrs) (lo := lro) (lw := lrw) (lq := lrq) (ll := lrl) (lg := lrg) (sh := sh) (kpl := kpl) (krx := krX) (kry := krY) I hn hP hF hW3 NX hpw hGR crx cry crs cro crw crq crl crg ⟨capO_0 cpl, capO_0 crX, capO_0 crY⟩
      rw [et, eW]
      simp only [ob12, ob2]
      rw [e1]
      simp only [ob19]
      unfold f_Rgs_toldCorners b_Rgs_toldCorners_0 f_Rgs_toldNumbers b_Rgs_toldNumbers_0
      simp only [ob1, tab_len, nI_ad]
      have p2 : (2 : Int32) + 2 * nI (cntP (fun r => 0 < (A r).toInt) R) + nI R = nI (2 + 2 * cntP (fun r => 0 < (A r).toInt) R + R) := by
        have two : (2 : Int32) = nI 2 := rfl
        have tm : nI 2 * nI (cntP (fun r => 0 < (A r).toInt) R) = nI (2 * cntP (fun r => 0 < (A r).toInt) R) := by
          unfold nI; rw [Int32.ofNat_mul]
        rw [two, tm, nI_ad, nI_ad]
      rw [p2, if_neg (fun z => by rw [i32lt, nI_toInt (by omega), t2048] at z; omega), if_pos (by rw [i32le, nI_toInt (by omega), t2048]; omega), e2]
      simp only [ob10, ac_some']
      rw [e3]
      exact ⟨_, _, 0, _, _, a, b, PL, XS, YS, kpl', krX', krY', _, _, _, _, _, _, _, _, _, _, _, _, _, jbf, jbt, jbn, jbw, jba, jrx, jry, jrs, jro, jrw, jrq, jrl, jrg, _, twN, _, q1, nI R, q2, W, q3, A, q4, q5, q6, q7, q8, q9, q10, rfl, rfl, Or.inl ⟨rfl, rfl⟩, ⟨by omega, by omega⟩, ⟨s9, s10, s11⟩, ⟨by rw [tab_len]; exact u1, by rw [tab_len]; exact u2, by rw [tab_len]; exact u3, by rw [tab_len]; exact u4, by rw [tab_len]; exact u5, by rw [tab_len]; exact s1, by rw [tab_len]; exact s2, by rw [tab_len]; exact s3, by rw [tab_len]; exact s4, by rw [tab_len]; exact s5, s6, by rw [tab_len]; exact s7, by rw [tab_len]; exact s8⟩, by omega, by omega⟩
    · have hc' : ¬ ∀ k, k < n → oddAt n ax ay bx b_y mk (ax k) (ay k) = 0 ∧ oddAt n ax ay bx b_y mk (bx k) (b_y k) = 0 := hc
      rw [if_pos (bI_dB.mpr hc'), if_pos (bI_dB.mpr hc'), mod_fail]
      exact bad2
  · rw [if_pos (bI_dB.mpr hw1), mod_fail]
    unfold b_Wea_overlay_16
    by_cases c1 : w < 0
    · rw [if_pos c1]; exact bad1
    · rw [if_neg c1, if_neg (fun z => hw1 (by rw [i32lt, t0] at c1; rw [i32le, t4] at z; omega))]; exact bad1
