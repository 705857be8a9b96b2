/-! half B: walk of the class and go of the reference -/
def wkR (n P : Nat) (ax ay bx b_y W : Nat → Int32) (nx : Nat → Nat) (s0 : Nat) (GR : Nat → Int32) (kp kx ks ky : Nat) (rc : Option (Nat × Nat × List Int32 × List Int32 × Nat × List Int32 × List Int32 × Nat × List Int32 × Nat × List Int32 × Nat)) (rr : Option (Int32 × Int32 × Int32 × (Nat → Int32) × (Nat → Int32) × (Nat → Int32) × (Nat → Int32) × (Nat → Int64) × (Nat → Int32) × (Nat → Int32) × (Nat → Int32))) : Prop :=
  ∃ GC' GR' L' R' st' RX' RY' FI' SZ' RXr' RYr' AR' fp' U' VX' VY' len' kp' kx' ks' ky' c d, rc = some (c, d, tab (wn W n) GC', [], kp', tab P L', tab (st' R') RX', kx', tab R' (fun r => nI (st' r)), ks', tab (st' R') RY', ky') ∧ rr = some (len', nI R', nI (st' R'), VX', VY', GR', FI', AR', SZ', RXr', RYr') ∧ (∀ p, p < P → L' p = -1) ∧ gnR n W GC' GR' ∧ RIs n ax ay bx b_y W R' st' RX' RY' FI' SZ' RXr' RYr' AR' fp' U' ∧ uOk n W GR' U' ∧ st' R' ≤ cgn n W GR' ∧ (∀ e, e < n → W e ≠ 0 → GR' (nx e) ≠ 0 → GR' e ≠ 0) ∧ GR' s0 ≠ 0 ∧ (∀ e, GR e ≠ 0 → GR' e ≠ 0) ∧ cap4 0 (st' R') R' kp' kx' ks' ky' ∧ c + (kp + kx + ks + ky) ≤ kp' + kx' + ks' + ky' ∧ d + 2 * (kp + kx + ks + ky) = 2 * (kp' + kx' + ks' + ky')
/-- the walk is back at its first way -/
theorem walk_end {n P F s0 j k T R kp kx ks ky Fc Fr d : Nat} {ax ay bx b_y mk O X Y W VX VY L GC GR RX RY FI SZ RXr RYr : Nat → Int32} {fr to nx pw q κ st fp : Nat → Nat} {AR : Nat → Int64} {G0 U : Nat → Prop} (I : netI n P ax ay bx b_y mk X Y O fr to) (hn : n ≤ 1000) (hP : P ≤ 2 * n) (NX : NXs n ax ay bx b_y W nx) (hs0 : s0 < n) (ws0 : W s0 ≠ 0) (g0 : ¬ G0 s0) (gc : ∀ e, e < n → W e ≠ 0 → G0 (nx e) → G0 e) (hFc : d < Fc) (hFr : d < Fr) (H : WSt n P ax ay bx b_y X Y W fr to nx s0 G0 j k T q κ VX VY L GC GR R st RX RY FI SZ RXr RYr AR fp U) (cp : cap4 T (st R) R kp kx ks ky) (hz : 0 < j ∧ k = s0) : wkR n P ax ay bx b_y W nx s0 GR kp kx ks ky (lp (fun _ _ _ _ _ _ _ _ _ _ _ _ => none) (b_Rgs_walk_6 F (tab P X) (tab P Y) (tab (wn W n) (fun i => nI (stW W fr to (pw i)))) (tab (wn W n) (fun i => nI (enW W fr to (pw i)))) (tab (wn W n) (fun i => nI (wn W (nx (pw i))))) (nI (wn W s0))) Fc (nI (wn W k)) (nI j) (tab (wn W n) GC) (tab T (fun i => nI (q i))) kp (tab P L) (tab (st R) RX) kx (tab R (fun r => nI (st r))) ks (tab (st R) RY) ky) (lp (fun _ _ _ _ _ _ _ _ _ _ _ _ _ => none) (b_Mod_go_31 F (nI n) 2048 W 2049 bx 2049 ax 2052 2049 b_y 2049 ay 2052 2048 1024 1024 1024 2052 2052 (nI s0)) Fr (nI k) (if 0 < j ∧ k = s0 then 0 else 1) (nI (T + 1)) (nI R) (nI (st R)) VX VY GR FI AR SZ RXr RYr) := by
  obtain ⟨I1, I2, I3, I4, I5, I6, I7⟩ := I
  obtain ⟨⟨hk, wk, ko⟩, hpath, hgn, hRI, hU, hκ, hQT, hj, hg, hd⟩ := H
  obtain ⟨p1, p2, p3, p4, p5, p6, p7, p8, p9⟩ := hpath
  have hm := wn_le (W := W) (k := n)
  have hcg : cgn n W GR ≤ n := cnt_n
  have ok := orb_ok NX hs0 ws0
  have T0 : T = 0 := by
    rcases p5 with ⟨z, _⟩ | ⟨z, z2⟩
    · exact z
    · exact absurd (by rw [z2, hz.2]) (p4 0 z)
  subst T0
  have gk : GR k ≠ 0 := (hg k hk wk).mpr (Or.inr ⟨0, hz.1, hz.2.symm⟩)
  obtain ⟨Fc', rfl⟩ : ∃ f, Fc = f + 1 := ⟨Fc - 1, by omega⟩
  obtain ⟨Fr', rfl⟩ : ∃ f, Fr = f + 1 := ⟨Fr - 1, by omega⟩
  have u1 : ∀ (γ : Type) (zz : γ) (bd : γ → γ) (f : Nat), lp zz bd (f + 1) = bd (lp zz bd f) := fun _ _ _ _ => rfl
  rw [u1, u1, if_pos hz]
  refine ⟨GC, GR, L, R, st, RX, RY, FI, SZ, RXr, RYr, AR, fp, U, VX, VY, nI (0 + 1), kp, kx, ks, ky, 0, 0, ?_, ?_, ?_, hgn, hRI, hU, by omega, ?_, ?_, fun e he => he, cp, by omega, by omega⟩
  · unfold b_Rgs_walk_6 f_Bnd_ways b_Bnd_ways_0
    simp only [tab_len, ob1]
    rw [tab_nil]
    by_cases c : wn W n ≤ j
    · rw [if_pos ((nIle (by omega) (by omega)).mpr c)]
    · rw [if_neg (fun z => c ((nIle (by omega) (by omega)).mp z)), rg_tab (wn_lt hk wk) (by omega), if_neg (fun z => gk ((hgn k hk wk).mp z))]
  · unfold b_Mod_go_31
    rw [if_pos rfl]
  · intro p hp
    rcases p6 p hp with ⟨z, _⟩ | ⟨i, hi, _⟩
    · exact z
    · omega
  · intro e he we hge
    obtain ⟨a1, _, a3, _⟩ := NX e he we
    rw [hg e he we]
    rcases (hg _ a1 a3).mp hge with z | ⟨i, hi, z⟩
    · exact Or.inl (gc e he we z)
    · right
      by_cases c : i = 0
      · have e2 : orbN nx s0 j = nx (orbN nx s0 (j - 1)) := by
          have : orbN nx s0 (j - 1 + 1) = nx (orbN nx s0 (j - 1)) := rfl
          rw [show j - 1 + 1 = j by omega] at this; exact this
        have e3 : nx (orbN nx s0 (j - 1)) = nx e := by
          rw [← e2, ← ko, hz.2, ← z, c]; rfl
        exact ⟨j - 1, by omega, nx_inj I1 I2 NX (ok _).1 he (ok _).2 we e3⟩
      · have e1 : orbN nx s0 i = nx (orbN nx s0 (i - 1)) := by
          have : orbN nx s0 (i - 1 + 1) = nx (orbN nx s0 (i - 1)) := rfl
          rw [show i - 1 + 1 = i by omega] at this; exact this
        exact ⟨i - 1, by omega, nx_inj I1 I2 NX (ok _).1 he (ok _).2 we (by rw [← e1, z])⟩
  · rw [← hz.2]; exact gk
theorem walk_lock {n P F s0 : Nat} {ax ay bx b_y mk O X Y W : Nat → Int32} {fr to nx pw : Nat → Nat} {G0 : Nat → Prop} (I : netI n P ax ay bx b_y mk X Y O fr to) (hn : n ≤ 1000) (hP : P ≤ 2 * n) (hF : 5000 ≤ F) (hW : w3 W n) (NX : NXs n ax ay bx b_y W nx) (hpw : isPw n W pw) (hs0 : s0 < n) (ws0 : W s0 ≠ 0) (g0 : ¬ G0 s0) (gc : ∀ e, e < n → W e ≠ 0 → G0 (nx e) → G0 e) : ∀ d j k T q κ VX VY L GC GR R st RX RY FI SZ RXr RYr AR fp U kp kx ks ky Fc Fr, n - cgn n W GR ≤ d → d < Fc → d < Fr → WSt n P ax ay bx b_y X Y W fr to nx s0 G0 j k T q κ VX VY L GC GR R st RX RY FI SZ RXr RYr AR fp U → cap4 T (st R) R kp kx ks ky → wkR n P ax ay bx b_y W nx s0 GR kp kx ks ky (lp (fun _ _ _ _ _ _ _ _ _ _ _ _ => none) (b_Rgs_walk_6 F (tab P X) (tab P Y) (tab (wn W n) (fun i => nI (stW W fr to (pw i)))) (tab (wn W n) (fun i => nI (enW W fr to (pw i)))) (tab (wn W n) (fun i => nI (wn W (nx (pw i))))) (nI (wn W s0))) Fc (nI (wn W k)) (nI j) (tab (wn W n) GC) (tab T (fun i => nI (q i))) kp (tab P L) (tab (st R) RX) kx (tab R (fun r => nI (st r))) ks (tab (st R) RY) ky) (lp (fun _ _ _ _ _ _ _ _ _ _ _ _ _ => none) (b_Mod_go_31 F (nI n) 2048 W 2049 bx 2049 ax 2052 2049 b_y 2049 ay 2052 2048 1024 1024 1024 2052 2052 (nI s0)) Fr (nI k) (if 0 < j ∧ k = s0 then 0 else 1) (nI (T + 1)) (nI R) (nI (st R)) VX VY GR FI AR SZ RXr RYr) := by
  have I' := I
  obtain ⟨I1, I2, I3, I4, I5, I6, I7⟩ := I'
  have hm := wn_le (W := W) (k := n)
  intro d
  induction d with
  | zero =>
    intro j k T q κ VX VY L GC GR R st RX RY FI SZ RXr RYr AR fp U kp kx ks ky Fc Fr hd hFc hFr H cp
    exact walk_end I hn hP NX hs0 ws0 g0 gc hFc hFr H cp (by
      apply Classical.byContradiction
      intro z
      have hk0 : GR k = 0 := by
        apply Classical.byContradiction
        intro w
        obtain ⟨⟨_, _, ko⟩, _, _, _, _, _, _, _, hg, hdd⟩ := H
        rw [ko] at w
        have := orb_gone I1 I2 NX hs0 ws0 g0 gc hg hdd w
        exact z ⟨this.1, by rw [ko]; exact this.2⟩
      have := cgn_lt H.1.1 H.1.2.1 hk0
      omega)
  | succ d ih =>
    intro j k T q κ VX VY L GC GR R st RX RY FI SZ RXr RYr AR fp U kp kx ks ky Fc Fr hd hFc hFr H cp
    by_cases z : 0 < j ∧ k = s0
    · exact walk_end I hn hP NX hs0 ws0 g0 gc (by omega) (by omega) H cp z
    · have hk0 : GR k = 0 := by
        apply Classical.byContradiction
        intro w
        obtain ⟨⟨_, _, ko⟩, _, _, _, _, _, _, _, hg, hdd⟩ := H
        rw [ko] at w
        have := orb_gone I1 I2 NX hs0 ws0 g0 gc hg hdd w
        exact z ⟨this.1, by rw [ko]; exact this.2⟩
      obtain ⟨T', q', κ', VX', VY', L', R', st', RX', RY', FI', SZ', RXr', RYr', AR', fp', U', kp', kx', ks', ky', c, d', e1, e2, H', cp', a1, a2⟩ := walk_step I hn hP hF hW NX hpw H hs0 hk0 cp
      have cg := cgn_s (W := W) (GR := GR) H.1.1 H.1.2.1 hk0
      have step := ih (j + 1) (nx k) T' q' κ' VX' VY' L' (upd GC (wn W k) 1) (upd GR k 1) R' st' RX' RY' FI' SZ' RXr' RYr' AR' fp' U' kp' kx' ks' ky' (Fc - 1) (Fr - 1) (by omega) (by omega) (by omega) H' cp'
      obtain ⟨Fc', rfl⟩ : ∃ f, Fc = f + 1 := ⟨Fc - 1, by omega⟩
      obtain ⟨Fr', rfl⟩ : ∃ f, Fr = f + 1 := ⟨Fr - 1, by omega⟩
      rw [show Fc' + 1 - 1 = Fc' by omega, show Fr' + 1 - 1 = Fr' by omega] at step
      have u1 : ∀ (γ : Type) (zz : γ) (bd : γ → γ) (f : Nat), lp zz bd (f + 1) = bd (lp zz bd f) := fun _ _ _ _ => rfl
      rw [u1, u1, if_neg z, e1, e2]
      have s1 : (if nx k = s0 then (0 : Int32) else 1) = if 0 < j + 1 ∧ nx k = s0 then 0 else 1 := by
        by_cases w : nx k = s0
        · rw [if_pos w, if_pos ⟨by omega, w⟩]
        · rw [if_neg w, if_neg (fun v => w v.2)]
      rw [s1]
      obtain ⟨GC2, GR2, L2, R2, st2, RX2, RY2, FI2, SZ2, RXr2, RYr2, AR2, fp2, U2, VX2, VY2, len2, kp2, kx2, ks2, ky2, c2, d2, h1, h2, h3, h4, h5, h6, h7, h8, h9, h10, h11, h12, h13⟩ := step
      refine ⟨GC2, GR2, L2, R2, st2, RX2, RY2, FI2, SZ2, RXr2, RYr2, AR2, fp2, U2, VX2, VY2, len2, kp2, kx2, ks2, ky2, c + c2, d' + d2, ?_, h2, h3, h4, h5, h6, h7, h8, h9, ?_, h11, by omega, by omega⟩
      · rw [h1]; rfl
      · intro e he
        apply h10
        by_cases w : e = k
        · rw [w, pk_us]; decide
        · rw [pk_un w]; exact he
/-- from a way that is not gone -/
theorem walk_go {n P F s0 R kp kx ks ky : Nat} {ax ay bx b_y mk O X Y W VX VY L GC GR RX RY FI SZ RXr RYr : Nat → Int32} {fr to nx pw st fp : Nat → Nat} {AR : Nat → Int64} {U : Nat → Prop} {len : Int32} (I : netI n P ax ay bx b_y mk X Y O fr to) (hn : n ≤ 1000) (hP : P ≤ 2 * n) (hF : 5000 ≤ F) (hW : w3 W n) (NX : NXs n ax ay bx b_y W nx) (hpw : isPw n W pw) (hs0 : s0 < n) (ws0 : W s0 ≠ 0) (g0 : GR s0 = 0) (gc : ∀ e, e < n → W e ≠ 0 → GR (nx e) ≠ 0 → GR e ≠ 0) (hL : ∀ p, p < P → L p = -1) (hgn : gnR n W GC GR) (hRI : RIs n ax ay bx b_y W R st RX RY FI SZ RXr RYr AR fp U) (hU : uOk n W GR U) (hQ : st R ≤ cgn n W GR) (cp : cap4 0 (st R) R kp kx ks ky) : wkR n P ax ay bx b_y W nx s0 GR kp kx ks ky (f_Rgs_walk F (tab P X) (tab P Y) (tab (wn W n) (fun i => nI (stW W fr to (pw i)))) (tab (wn W n) (fun i => nI (enW W fr to (pw i)))) (tab (wn W n) (fun i => nI (wn W (nx (pw i))))) (nI (wn W s0)) (tab (wn W n) GC) [] kp (tab P L) (tab (st R) RX) kx (tab R (fun r => nI (st r))) ks (tab (st R) RY) ky) (f_Mod_go F (nI n) 2048 W 2049 bx 2049 ax 2052 2049 b_y 2049 ay 2052 2048 1024 1024 1024 2052 2052 (nI s0) len (nI R) (nI (st R)) VX VY GR FI AR SZ RXr RYr) := by
  have I' := I
  obtain ⟨I1, I2, I3, I4, I5, I6, I7⟩ := I'
  obtain ⟨⟨sP, eP⟩, ⟨xs, ys⟩, xe, ye⟩ := X_st (W := W) I4 hs0
  unfold f_Rgs_walk b_Rgs_walk_0 f_Mod_go b_Mod_go_0
  have i0 : ¬ ((0 : Int32) < 0 ∨ 2052 ≤ (0 : Int32).toNatClampNeg) := by decide
  rw [mod_startX (by omega), mod_startY (by omega)]
  simp only [ob1]
  rw [if_neg i0, if_neg i0, show (0 : Int32).toNatClampNeg = 0 by decide]
  have k := walk_lock (F := F) (G0 := fun e => GR e ≠ 0) I hn hP hF hW NX hpw hs0 ws0 (fun z => z g0) gc n 0 s0 0 (fun _ => 0) (fun _ => 0) (upd VX 0 (sPX W ax bx s0)) (upd VY 0 (sPX W ay b_y s0)) L GC GR R st RX RY FI SZ RXr RYr AR fp U kp kx ks ky F F (by omega) (by omega) (by omega) ⟨⟨hs0, ws0, rfl⟩, ⟨fun i hi => absurd hi (Nat.not_lt_zero i), fun i hi => absurd hi (Nat.not_lt_zero i), fun i j hi => absurd hi (Nat.not_lt_zero i), fun i hi => absurd hi (Nat.not_lt_zero i), Or.inl ⟨rfl, rfl⟩, fun p hp => Or.inl ⟨hL p hp, fun i hi => absurd hi (Nat.not_lt_zero i)⟩, fun i hi => absurd hi (Nat.not_lt_zero i), by rw [pk_us, xs], by rw [pk_us, ys]⟩, hgn, hRI, hU, fun i hi => absurd hi (Nat.not_lt_zero i), by omega, Nat.zero_le _, fun e he we => ⟨fun z => Or.inl z, fun z => by
      rcases z with z | ⟨i, hi, _⟩
      · exact z
      · omega⟩, fun i i' hi => absurd hi (Nat.not_lt_zero i)⟩ cp
  rw [if_neg (fun z => by omega), tab_nil] at k
  exact k
