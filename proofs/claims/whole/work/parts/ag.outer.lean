/-! half B: all walks, class and reference side by side -/
theorem outer {n P F : Nat} {ax ay bx b_y mk O X Y W : Nat → Int32} {fr to nx pw : Nat → Nat} {what thr pla co po : Int32} {tw : Int64} {ow plan xs ys : Nat → Int32} {lo lw : List Int32} {ko kw kl kg : Nat} {sh : Int32} (I : netI n P ax ay bx b_y mk X Y O fr to) (hn : n ≤ 1000) (hP : P ≤ 2 * n) (hF : 5000 ≤ F) (hW : w3 W n) (NX : NXs n ax ay bx b_y W nx) (hpw : isPw n W pw) : ∀ d k R st RX RY FI SZ RXr RYr AR fp U VX VY L GC GR kp kx ks ky Fc Fr (len : Int32), n - k ≤ d → k ≤ n → d < Fc → d < Fr → (∀ p, p < P → L p = -1) → gnR n W GC GR → RIs n ax ay bx b_y W R st RX RY FI SZ RXr RYr AR fp U → uOk n W GR U → st R ≤ cgn n W GR → (∀ e, e < n → W e ≠ 0 → GR (nx e) ≠ 0 → GR e ≠ 0) → (∀ e, e < n → W e = 0 → GR e ≠ 0) → cap4 0 (st R) R kp kx ks ky → ∃ R' st' RX' RY' FI' SZ' RXr' RYr' AR' fp' U' VX' VY' L' GC' GR' kp' kx' ks' ky' len' c d', lp (fun _ _ _ _ _ _ _ _ _ _ _ _ _ _ _ _ _ _ => none) (b_Rgs_gather_8 F (tab P O) (tab P X) (tab P Y) (tab (wn W n) (fun i => nI (stW W fr to (pw i)))) (tab (wn W n) (fun i => nI (enW W fr to (pw i)))) (tab (wn W n) (fun i => nI (wn W (nx (pw i)))))) Fc (nI (wn W k)) (tab (st R) RX) kx (tab (st R) RY) ky (tab R (fun r => nI (st r))) ks lo ko lw kw [] kp (tab P L) kl (tab (wn W n) GC) kg sh = ac c d' (lp (fun _ _ _ _ _ _ _ _ _ _ _ _ _ _ _ _ _ _ => none) (b_Rgs_gather_42 F (tab P O) (tab P X) (tab P Y) (tab (wn W n) (fun i => nI (stW W fr to (pw i)))) (tab (wn W n) (fun i => nI (enW W fr to (pw i)))) (tab (wn W n) (fun i => nI (wn W (nx (pw i)))))) F 0 (tab (st' R') RX') kx' (tab (st' R') RY') ky' (tab R' (fun r => nI (st' r))) ks' lo ko lw kw [] kp' (tab P L') kl (tab (wn W n) GC') kg sh) ∧ lp (fun _ _ _ _ _ _ _ _ _ _ _ _ _ _ _ _ _ _ _ _ _ _ => none) (b_Mod_overlay_54 F (nI n) 2049 ax 2049 ay 2049 bx 2049 b_y 2048 mk 2048 2048 1024 1024 1024 1024 2052 2052 4096 4096 4096 2052 2052 what) Fr (nI k) thr pla co po tw len (nI R) (nI (st R)) W GR AR SZ ow FI RXr RYr plan xs ys VX VY = b_Mod_overlay_54 F (nI n) 2049 ax 2049 ay 2049 bx 2049 b_y 2048 mk 2048 2048 1024 1024 1024 1024 2052 2052 4096 4096 4096 2052 2052 what (fun _ _ _ _ _ _ _ _ _ _ _ _ _ _ _ _ _ _ _ _ _ _ => none) (nI n) thr pla co po tw len' (nI R') (nI (st' R')) W GR' AR' SZ' ow FI' RXr' RYr' plan xs ys VX' VY' ∧ RIs n ax ay bx b_y W R' st' RX' RY' FI' SZ' RXr' RYr' AR' fp' U' ∧ st' R' ≤ n ∧ cap4 0 (st' R') R' kp' kx' ks' ky' ∧ c + (kp + kx + ks + ky) ≤ kp' + kx' + ks' + ky' ∧ d' + 2 * (kp + kx + ks + ky) = 2 * (kp' + kx' + ks' + ky') := by
  have hm := wn_le (W := W) (k := n)
  have u1 : ∀ (γ : Type) (zz : γ) (bd : γ → γ) (f : Nat), lp zz bd (f + 1) = bd (lp zz bd f) := fun _ _ _ _ => rfl
  have ac0' : ∀ (α : Type) (x : Option (Nat × Nat × α)), x = ac 0 0 x := by
    intro α x
    match x with
    | none => rfl
    | some (p, q, r) => show some (p, q, r) = some (0 + p, 0 + q, r); rw [Nat.zero_add, Nat.zero_add]
  intro d
  induction d with
  | zero =>
    intro k R st RX RY FI SZ RXr RYr AR fp U VX VY L GC GR kp kx ks ky Fc Fr len hd hk hFc hFr hL hgn hRI hU hQ gc gz cp
    have e : k = n := by omega
    subst e
    have hcg : cgn k W GR ≤ k := cnt_n
    obtain ⟨Fc', rfl⟩ : ∃ f, Fc = f + 1 := ⟨Fc - 1, by omega⟩
    obtain ⟨Fr', rfl⟩ : ∃ f, Fr = f + 1 := ⟨Fr - 1, by omega⟩
    refine ⟨R, st, RX, RY, FI, SZ, RXr, RYr, AR, fp, U, VX, VY, L, GC, GR, kp, kx, ks, ky, len, 0, 0, ?_, ?_, hRI, by omega, cp, by omega, by omega⟩
    · rw [u1, ← ac0']
      unfold b_Rgs_gather_8 f_Bnd_ways b_Bnd_ways_0
      simp only [tab_len, ob1]
      rw [if_pos ((nIle (by omega) (by omega)).mpr (Nat.le_refl _))]
    · rw [u1]
      unfold b_Mod_overlay_54
      have c : nI k ≤ nI k := (nIle (by omega) (by omega)).mpr (Nat.le_refl _)
      rw [if_pos c, if_pos c]
  | succ d ih =>
    intro k R st RX RY FI SZ RXr RYr AR fp U VX VY L GC GR kp kx ks ky Fc Fr len hd hk hFc hFr hL hgn hRI hU hQ gc gz cp
    by_cases e : k = n
    · exact ih k R st RX RY FI SZ RXr RYr AR fp U VX VY L GC GR kp kx ks ky Fc Fr len (by omega) hk (by omega) (by omega) hL hgn hRI hU hQ gc gz cp
    · have hkn : k < n := by omega
      obtain ⟨Fr', rfl⟩ : ∃ f, Fr = f + 1 := ⟨Fr - 1, by omega⟩
      have refS : lp (fun _ _ _ _ _ _ _ _ _ _ _ _ _ _ _ _ _ _ _ _ _ _ => none) (b_Mod_overlay_54 F (nI n) 2049 ax 2049 ay 2049 bx 2049 b_y 2048 mk 2048 2048 1024 1024 1024 1024 2052 2052 4096 4096 4096 2052 2052 what) (Fr' + 1) (nI k) thr pla co po tw len (nI R) (nI (st R)) W GR AR SZ ow FI RXr RYr plan xs ys VX VY = if GR k = 0 then ob11 (f_Mod_go F (nI n) 2048 W 2049 bx 2049 ax 2052 2049 b_y 2049 ay 2052 2048 1024 1024 1024 2052 2052 (nI k) len (nI R) (nI (st R)) VX VY GR FI AR SZ RXr RYr) (fun V0_length_9 V0_rings_9 V0_places_9 G0_wayX_9 G0_wayY_9 G0_gone_9 G0_first_9 G0_areas_9 G0_size_9 G0_rx_9 G0_ry_9 => lp (fun _ _ _ _ _ _ _ _ _ _ _ _ _ _ _ _ _ _ _ _ _ _ => none) (b_Mod_overlay_54 F (nI n) 2049 ax 2049 ay 2049 bx 2049 b_y 2048 mk 2048 2048 1024 1024 1024 1024 2052 2052 4096 4096 4096 2052 2052 what) Fr' (nI (k + 1)) thr pla co po tw V0_length_9 V0_rings_9 V0_places_9 W G0_gone_9 G0_areas_9 G0_size_9 ow G0_first_9 G0_rx_9 G0_ry_9 plan xs ys G0_wayX_9 G0_wayY_9) else lp (fun _ _ _ _ _ _ _ _ _ _ _ _ _ _ _ _ _ _ _ _ _ _ => none) (b_Mod_overlay_54 F (nI n) 2049 ax 2049 ay 2049 bx 2049 b_y 2048 mk 2048 2048 1024 1024 1024 1024 2052 2052 4096 4096 4096 2052 2052 what) Fr' (nI (k + 1)) thr pla co po tw len (nI R) (nI (st R)) W GR AR SZ ow FI RXr RYr plan xs ys VX VY := by
        rw [u1]
        generalize lp (fun _ _ _ _ _ _ _ _ _ _ _ _ _ _ _ _ _ _ _ _ _ _ => none) (b_Mod_overlay_54 F (nI n) 2049 ax 2049 ay 2049 bx 2049 b_y 2048 mk 2048 2048 1024 1024 1024 1024 2052 2052 4096 4096 4096 2052 2052 what) Fr' = g
        unfold b_Mod_overlay_54 b_Mod_overlay_76
        rw [if_neg (fun z => by have := (nIle (by omega) (by omega)).mp z; omega)]
        simp only [ixc (show k < 2048 by omega) (by omega), ixf (show k < 2048 by omega) (by omega), ↓reduceIte, nI_1]
      rw [refS]
      by_cases wk : W k = 0
      · rw [if_neg (gz k hkn wk)]
        have := ih (k + 1) R st RX RY FI SZ RXr RYr AR fp U VX VY L GC GR kp kx ks ky Fc Fr' len (by omega) (by omega) (by omega) (by omega) hL hgn hRI hU hQ gc gz cp
        rw [wn_s0 wk] at this
        exact this
      · obtain ⟨Fc', rfl⟩ : ∃ f, Fc = f + 1 := ⟨Fc - 1, by omega⟩
        have hwk := wn_lt (W := W) hkn wk
        have clsS : lp (fun _ _ _ _ _ _ _ _ _ _ _ _ _ _ _ _ _ _ => none) (b_Rgs_gather_8 F (tab P O) (tab P X) (tab P Y) (tab (wn W n) (fun i => nI (stW W fr to (pw i)))) (tab (wn W n) (fun i => nI (enW W fr to (pw i)))) (tab (wn W n) (fun i => nI (wn W (nx (pw i)))))) (Fc' + 1) (nI (wn W k)) (tab (st R) RX) kx (tab (st R) RY) ky (tab R (fun r => nI (st r))) ks lo ko lw kw [] kp (tab P L) kl (tab (wn W n) GC) kg sh = if GC (wn W k) = 0 then ob12 (f_Rgs_walk F (tab P X) (tab P Y) (tab (wn W n) (fun i => nI (stW W fr to (pw i)))) (tab (wn W n) (fun i => nI (enW W fr to (pw i)))) (tab (wn W n) (fun i => nI (wn W (nx (pw i))))) (nI (wn W k)) (tab (wn W n) GC) [] kp (tab P L) (tab (st R) RX) kx (tab R (fun r => nI (st r))) ks (tab (st R) RY) ky) (fun c_11 d_11 L0_gone_11 L0_path_11 K0_path_11 L0_leftAt_11 L0_x_11 K0_x_11 L0_start_11 K0_start_11 L0_y_11 K0_y_11 => ac c_11 d_11 (lp (fun _ _ _ _ _ _ _ _ _ _ _ _ _ _ _ _ _ _ => none) (b_Rgs_gather_8 F (tab P O) (tab P X) (tab P Y) (tab (wn W n) (fun i => nI (stW W fr to (pw i)))) (tab (wn W n) (fun i => nI (enW W fr to (pw i)))) (tab (wn W n) (fun i => nI (wn W (nx (pw i)))))) Fc' (nI (wn W (k + 1))) L0_x_11 K0_x_11 L0_y_11 K0_y_11 L0_start_11 K0_start_11 lo ko lw kw L0_path_11 K0_path_11 L0_leftAt_11 kl L0_gone_11 kg sh)) else lp (fun _ _ _ _ _ _ _ _ _ _ _ _ _ _ _ _ _ _ => none) (b_Rgs_gather_8 F (tab P O) (tab P X) (tab P Y) (tab (wn W n) (fun i => nI (stW W fr to (pw i)))) (tab (wn W n) (fun i => nI (enW W fr to (pw i)))) (tab (wn W n) (fun i => nI (wn W (nx (pw i)))))) Fc' (nI (wn W (k + 1))) (tab (st R) RX) kx (tab (st R) RY) ky (tab R (fun r => nI (st r))) ks lo ko lw kw [] kp (tab P L) kl (tab (wn W n) GC) kg sh := by
          rw [u1]
          generalize lp (fun _ _ _ _ _ _ _ _ _ _ _ _ _ _ _ _ _ _ => none) (b_Rgs_gather_8 F (tab P O) (tab P X) (tab P Y) (tab (wn W n) (fun i => nI (stW W fr to (pw i)))) (tab (wn W n) (fun i => nI (enW W fr to (pw i)))) (tab (wn W n) (fun i => nI (wn W (nx (pw i)))))) Fc' = g
          unfold b_Rgs_gather_8 f_Bnd_ways b_Bnd_ways_0 b_Rgs_gather_34
          simp only [tab_len, ob1]
          rw [if_neg (fun z => by have := (nIle (by omega) (by omega)).mp z; omega), rg_tab hwk (by omega), nI_1, wn_s1 wk]
        rw [clsS]
        by_cases gk : GR k = 0
        · rw [if_pos gk, if_pos ((hgn k hkn wk).mpr gk)]
          obtain ⟨GC1, GR1, L1, R1, st1, RX1, RY1, FI1, SZ1, RXr1, RYr1, AR1, fp1, U1, VX1, VY1, len1, kp1, kx1, ks1, ky1, c1, d1, h1, h2, h3, h4, h5, h6, h7, h8, h9, h10, h11, h12, h13⟩ := walk_go (len := len) (VX := VX) (VY := VY) I hn hP hF hW NX hpw hkn wk gk gc hL hgn hRI hU hQ cp
          rw [h1, h2]
          simp only [ob12, ob11]
          obtain ⟨R2, st2, RX2, RY2, FI2, SZ2, RXr2, RYr2, AR2, fp2, U2, VX2, VY2, L2, GC2, GR2, kp2, kx2, ks2, ky2, len2, c2, d2, e1, e2, e3, e4, e5, e6, e7⟩ := ih (k + 1) R1 st1 RX1 RY1 FI1 SZ1 RXr1 RYr1 AR1 fp1 U1 VX1 VY1 L1 GC1 GR1 kp1 kx1 ks1 ky1 Fc' Fr' len1 (by omega) (by omega) (by omega) (by omega) h3 h4 h5 h6 h7 h8 (fun e he we => h10 e (gz e he we)) h11
          refine ⟨R2, st2, RX2, RY2, FI2, SZ2, RXr2, RYr2, AR2, fp2, U2, VX2, VY2, L2, GC2, GR2, kp2, kx2, ks2, ky2, len2, c1 + c2, d1 + d2, ?_, e2, e3, e4, e5, by omega, by omega⟩
          rw [e1, ac_ac]
        · rw [if_neg gk, if_neg (fun z => gk ((hgn k hkn wk).mp z))]
          exact ih (k + 1) R st RX RY FI SZ RXr RYr AR fp U VX VY L GC GR kp kx ks ky Fc' Fr' len (by omega) (by omega) (by omega) (by omega) hL hgn hRI hU hQ gc gz cp
