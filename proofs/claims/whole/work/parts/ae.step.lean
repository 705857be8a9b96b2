/-! half B: one step of the walk, class and reference -/
theorem ac_ac {α : Type} (a b c d : Nat) (x : Option (Nat × Nat × α)) : ac a b (ac c d x) = ac (a + c) (b + d) x := by
  match x with
  | none => rfl
  | some (p, q, r) => show some (a + (c + p), b + (d + q), r) = some (a + c + p, b + d + q, r); rw [Nat.add_assoc, Nat.add_assoc]
def cap4 (T Q R kp kx ks ky : Nat) : Prop := capO T kp 4096 ∧ capO Q kx 4096 ∧ capO R ks 4096 ∧ capO Q ky 4096
theorem walk_step {n P F s0 j k T R kp kx ks ky : Nat} {ax ay bx b_y mk O X Y W VX VY L GC GR RX RY FI SZ RXr RYr : Nat → Int32} {fr to nx pw q κ st fp : Nat → Nat} {AR : Nat → Int64} {G0 U : Nat → Prop} (I : netI n P ax ay bx b_y mk X Y O fr to) (hn : n ≤ 1000) (hP : P ≤ 2 * n) (hF : 5000 ≤ F) (hW : w3 W n) (NX : NXs n ax ay bx b_y W nx) (hpw : isPw n W pw) (H : WSt n P ax ay bx b_y X Y W fr to nx s0 G0 j k T q κ VX VY L GC GR R st RX RY FI SZ RXr RYr AR fp U) (hs0 : s0 < n) (hk0 : GR k = 0) (cp : cap4 T (st R) R kp kx ks ky) : ∃ T' q' κ' VX' VY' L' R' st' RX' RY' FI' SZ' RXr' RYr' AR' fp' U' kp' kx' ks' ky' c d, (∀ f, b_Rgs_walk_6 F (tab P X) (tab P Y) (tab (wn W n) (fun i => nI (stW W fr to (pw i)))) (tab (wn W n) (fun i => nI (enW W fr to (pw i)))) (tab (wn W n) (fun i => nI (wn W (nx (pw i))))) (nI (wn W s0)) f (nI (wn W k)) (nI j) (tab (wn W n) GC) (tab T (fun i => nI (q i))) kp (tab P L) (tab (st R) RX) kx (tab R (fun r => nI (st r))) ks (tab (st R) RY) ky = ac c d (f (nI (wn W (nx k))) (nI (j + 1)) (tab (wn W n) (upd GC (wn W k) 1)) (tab T' (fun i => nI (q' i))) kp' (tab P L') (tab (st' R') RX') kx' (tab R' (fun r => nI (st' r))) ks' (tab (st' R') RY') ky')) ∧ (∀ g, b_Mod_go_31 F (nI n) 2048 W 2049 bx 2049 ax 2052 2049 b_y 2049 ay 2052 2048 1024 1024 1024 2052 2052 (nI s0) g (nI k) 1 (nI (T + 1)) (nI R) (nI (st R)) VX VY GR FI AR SZ RXr RYr = g (nI (nx k)) (if nx k = s0 then 0 else 1) (nI (T' + 1)) (nI R') (nI (st' R')) VX' VY' (upd GR k 1) FI' AR' SZ' RXr' RYr') ∧ WSt n P ax ay bx b_y X Y W fr to nx s0 G0 (j + 1) (nx k) T' q' κ' VX' VY' L' (upd GC (wn W k) 1) (upd GR k 1) R' st' RX' RY' FI' SZ' RXr' RYr' AR' fp' U' ∧ cap4 T' (st' R') R' kp' kx' ks' ky' ∧ c + (kp + kx + ks + ky) ≤ kp' + kx' + ks' + ky' ∧ d + 2 * (kp + kx + ks + ky) = 2 * (kp' + kx' + ks' + ky') := by
  have iB := inB_P I
  have I' := I
  obtain ⟨I1, I2, I3, I4, I5, I6, I7⟩ := I'
  obtain ⟨⟨hk, wk, ko⟩, hpath, hgn, hRI, hU, hκ, hQT, hj, hg, hd⟩ := H
  obtain ⟨cp1, cp2, cp3, cp4⟩ := cp
  have hm := wn_le (W := W) (k := n)
  have hcl := cgn_lt hk wk hk0
  have hwk := wn_lt (W := W) hk wk
  have pwk := pw_wn hpw hk wk
  obtain ⟨⟨sP, eP⟩, ⟨xs, ys⟩, xe, ye⟩ := X_st (W := W) I4 hk
  obtain ⟨nx1, nx2, nx3, nx4, nx5, ps, nx6, nx7, nx8⟩ := NX k hk wk
  have est : stW W fr to (nx k) = enW W fr to k := by
    obtain ⟨⟨a1, _⟩, ⟨a3, a4⟩, _⟩ := X_st (W := W) I4 nx1
    exact I5 _ _ a1 eP (by rw [a3, xe]; exact nx4) (by rw [a4, ye]; exact nx5)
  obtain ⟨⟨o1, o2, o3⟩, o4, o5⟩ := WS_gone NX hk wk ko hg hd hk0
  have gnx : f_Mod_next F (nI n) 2048 W 2049 ax 2049 bx 2049 ay 2049 b_y (nI k) = some (nI (nx k)) := mod_next I1 hW (by omega) hF hk nx6 nx7 nx1 ⟨nx2, nx3, by rw [← nx4, ← nx5]; exact at_start⟩ nx8
  obtain ⟨g1, g2, g3, g4, g5, g6⟩ := path_push hk hpath
  have qP : ∀ i, i < T + 1 → updN q T (stW W fr to k) i < P := by
    intro i hi
    obtain ⟨a1, a2⟩ := g1 i hi
    rw [← a2]
    exact (X_st (W := W) I4 a1).1.1
  have hR3 := st_mono hRI.2.1 0 (Nat.zero_le _)
  have cg1 := cgn_s hk wk hk0
  -- gone of the pieces of the path
  have gk' : ∀ i, i < T + 1 → ¬ U (updN κ T k i) ∧ W (updN κ T k i) ≠ 0 ∧ upd GR k 1 (updN κ T k i) ≠ 0 := by
    intro i hi
    by_cases c : i = T
    · rw [c, updN_s, pk_us]
      exact ⟨fun z => (hU k z).2.2 hk0, wk, by decide⟩
    · rw [updN_n c]
      obtain ⟨a1, a2, a3⟩ := hκ i (by omega)
      refine ⟨a1, a2, ?_⟩
      by_cases e : κ i = k
      · rw [e, pk_us]; decide
      · rw [pk_un e]; exact a3
  have gU : ∀ e, U e → e < n ∧ W e ≠ 0 ∧ upd GR k 1 e ≠ 0 := by
    intro e he
    obtain ⟨a1, a2, a3⟩ := hU e he
    refine ⟨a1, a2, ?_⟩
    by_cases c : e = k
    · rw [c, pk_us]; decide
    · rw [pk_un c]; exact a3
  -- the class up to the question for the end
  obtain ⟨ca, da, ka, ea, la, ma, na⟩ := ra_cap cp1 (show T < 4096 by omega) (by omega)
  have cls : ∀ f, b_Rgs_walk_6 F (tab P X) (tab P Y) (tab (wn W n) (fun i => nI (stW W fr to (pw i)))) (tab (wn W n) (fun i => nI (enW W fr to (pw i)))) (tab (wn W n) (fun i => nI (wn W (nx (pw i))))) (nI (wn W s0)) f (nI (wn W k)) (nI j) (tab (wn W n) GC) (tab T (fun i => nI (q i))) kp (tab P L) (tab (st R) RX) kx (tab R (fun r => nI (st r))) ks (tab (st R) RY) ky = ac ca da (if upd L (stW W fr to k) (nI T) (enW W fr to k) = -1 then f (nI (wn W (nx k))) (nI (j + 1)) (tab (wn W n) (upd GC (wn W k) 1)) (tab (T + 1) (fun i => nI (updN q T (stW W fr to k) i))) ka (tab P (upd L (stW W fr to k) (nI T))) (tab (st R) RX) kx (tab R (fun r => nI (st r))) ks (tab (st R) RY) ky else ob10 (f_Rgs_takeRing F (tab P X) (tab P Y) (upd L (stW W fr to k) (nI T) (enW W fr to k)) (tab (T + 1) (fun i => nI (updN q T (stW W fr to k) i))) (tab (st R) RX) kx (tab R (fun r => nI (st r))) ks (tab (st R) RY) ky (tab P (upd L (stW W fr to k) (nI T)))) fun c_15 d_15 L0_path_15 L0_x_15 K0_x_15 L0_start_15 K0_start_15 L0_y_15 K0_y_15 L0_leftAt_15 => ac c_15 d_15 (f (nI (wn W (nx k))) (nI (j + 1)) (tab (wn W n) (upd GC (wn W k) 1)) L0_path_15 ka L0_leftAt_15 L0_x_15 K0_x_15 L0_start_15 K0_start_15 L0_y_15 K0_y_15)) := by
    intro f
    unfold b_Rgs_walk_6 f_Bnd_ways b_Bnd_ways_0 b_Rgs_walk_114
    simp only [tab_len, ob1]
    rw [if_neg (fun z => by have := (nIle (by omega) (by omega)).mp z; omega), rg_tab hwk (by omega), if_pos ((hgn k hk wk).mpr hk0), ea]
    simp only [ob3]
    rw [rg_tab hwk (by omega), rg_tab hwk (by omega), rg_tab hwk (by omega), pwk, rs_tab _ sP (by omega), rs_tab _ hwk (by omega), rg_tab eP (by omega), tab_addN, nI_1]
  -- the reference up to the question for the end
  have pl := mod_placeOf (len := T + 1) (F := F) (VX := VX) (VY := VY) (x := ePX W ax bx k) (y := ePX W ay b_y k) (by omega) hF
  obtain ⟨v, ev, hv⟩ := pl
  have more : ∀ (g : Int32 → Int32 → Int32 → Int32 → Int32 → (Nat → Int32) → (Nat → Int32) → (Nat → Int32) → (Nat → Int32) → (Nat → Int64) → (Nat → Int32) → (Nat → Int32) → (Nat → Int32) → Option (Int32 × Int32 × Int32 × (Nat → Int32) × (Nat → Int32) × (Nat → Int32) × (Nat → Int32) × (Nat → Int64) × (Nat → Int32) × (Nat → Int32) × (Nat → Int32))) (le r p : Int32) (vx vy gr fi sz rx ry : Nat → Int32) (ar : Nat → Int64), b_Mod_go_118 F (nI n) 2048 W 2049 bx 2049 ax 2052 2049 b_y 2049 ay 2052 2048 1024 1024 1024 2052 2052 (nI s0) g (nI k) le r p vx vy gr fi ar sz rx ry = g (nI (nx k)) (if nx k = s0 then 0 else 1) le r p vx vy gr fi ar sz rx ry := by
    intro g le r p vx vy gr fi sz rx ry ar
    unfold b_Mod_go_118 b_Mod_go_134
    rw [gnx]
    simp only [ob1]
    by_cases c : nx k = s0
    · rw [if_pos (by rw [c]), if_pos c]
    · rw [if_neg (fun z => c ((nIeq (by omega) (by omega)).mp z)), if_neg c]
  have i01 : ¬ (1 : Int32) = 0 := by decide
  rcases g5 _ eP with ⟨l1, l2⟩ | ⟨b, hb, l2, l3⟩
  · -- no ring
    have v1 : v = -1 := by
      rcases hv with ⟨h, _⟩ | ⟨i, hi, _, h2, h3⟩
      · exact h
      · exfalso
        rw [(g6 i hi).1] at h2
        rw [(g6 i hi).2] at h3
        exact l2 i hi (I5 _ _ (qP i hi) eP (by rw [h2, xe]) (by rw [h3, ye]))
    refine ⟨T + 1, updN q T (stW W fr to k), updN κ T k, upd VX (T + 1) (X (enW W fr to k)), upd VY (T + 1) (Y (enW W fr to k)), upd L (stW W fr to k) (nI T), R, st, RX, RY, FI, SZ, RXr, RYr, AR, fp, U, ka, kx, ks, ky, ca, da, ?_, ?_, ?_, ⟨na, cp2, cp3, cp4⟩, by omega, by omega⟩
    · intro f; rw [cls f, if_pos l1]
    · intro g
      unfold b_Mod_go_31
      rw [if_neg i01]
      simp only [ixc (show k < 2048 by omega) (by omega), ixf (show k < 2048 by omega) (by omega), ixc (show T + 1 < 2052 by omega) (by omega), ixf (show T + 1 < 2052 by omega) (by omega), ↓reduceIte, mod_endX (show k < 2048 by omega), mod_endY (show k < 2048 by omega), ob1]
      rw [ev]
      simp only [ob1]
      rw [v1, if_pos (by decide), more, nar1, nI_1, xe, ye]
    · exact ⟨⟨o1, o2, o3⟩, path_no hk hpath est l2, gnR_s wk hgn, hRI, gU, gk', by omega, by omega, o4, o5⟩
  · -- a ring from b on
    have hvb : v = nI b := by
      rcases hv with ⟨_, h⟩ | ⟨i, hi, h1, h2, h3⟩
      · exfalso
        apply h b hb
        rw [(g6 b hb).1, (g6 b hb).2, l2, xe, ye]; exact ⟨rfl, rfl⟩
      · rw [(g6 i hi).1] at h2
        rw [(g6 i hi).2] at h3
        have : updN q T (stW W fr to k) i = enW W fr to k := I5 _ _ (qP i hi) eP (by rw [h2, xe]) (by rw [h3, ye])
        rw [h1, g3 i b hi hb (by rw [this, l2])]
    have cyc := path_cyc I hk hpath hb l2
    have rf := ring_facts (Q := st R) (f := RX) (g := RY) cyc (by omega)
    obtain ⟨M3, ⟨f1, f2⟩, ⟨f3, f4⟩, f5, f6⟩ := rf
    obtain ⟨s1, s2, s3, s4⟩ := rg_same (X := X) (Y := Y) (q := updN q T (stW W fr to k)) hb (fun i hi => g6 i hi)
    have hM : rgQ X Y (updN q T (stW W fr to k)) b (T + 1) ≤ T + 1 - b := cnt_n
    obtain ⟨ct, dt, kx', ky', ks', et, ⟨m1, m2, m3⟩, m4, m5⟩ := rgs_take (RX := RX) (RY := RY) (ST := fun r => nI (st r)) (L := upd L (stW W fr to k) (nI T)) (q := updN q T (stW W fr to k)) (T := T + 1) (b := b) (Q := st R) (R := R) (F := F) (by omega) (by omega) hF hb qP iB (by omega) (by omega) cp2 cp4 cp3
    have er := mod_ring (T := T + 1) (b := b) (Q := st R) (R := R) (F := F) (VX := VX) (VY := VY) (RX := RXr) (RY := RYr) (FI := FI) (SZ := SZ) (AR := AR) (by omega) hF hb (fun i hi => by rw [(g6 i hi).1, (g6 i hi).2]; exact iB _ (qP i hi)) (by omega) (by omega)
    rw [s1, s2, s3, s4] at er
    have hl : rgL X Y (updN q T (stW W fr to k)) b (T + 1) < T + 1 - b := lstI_lt (by omega) (Nat.le_refl _)
    obtain ⟨c1, c2⟩ := g1 (b + rgL X Y (updN q T (stW W fr to k)) b (T + 1)) (by omega)
    have c3 := g2 (b + rgL X Y (updN q T (stW W fr to k)) b (T + 1)) (by omega)
    have c3' : enW W fr to (updN κ T k (b + rgL X Y (updN q T (stW W fr to k)) b (T + 1))) = updN q T (stW W fr to k) (b + nxI (T + 1 - b) (rgL X Y (updN q T (stW W fr to k)) b (T + 1))) := by
      rw [c3]
      unfold nxI
      by_cases z : b + rgL X Y (updN q T (stW W fr to k)) b (T + 1) + 1 < T + 1
      · rw [if_pos z, if_pos (by omega), Nat.add_assoc]
      · rw [if_neg z, if_neg (by omega), Nat.add_zero, l2]
    obtain ⟨_, ⟨x1, x2⟩, x3, x4⟩ := X_st (W := W) I4 c1
    have ring := RI_add (Q := st R) (M := rgQ X Y (updN q T (stW W fr to k)) b (T + 1)) (c := updN κ T k (b + rgL X Y (updN q T (stW W fr to k)) b (T + 1))) (RX' := rgF X X Y (updN q T (stW W fr to k)) b (T + 1) (st R) RX) (RY' := rgF Y X Y (updN q T (stW W fr to k)) b (T + 1) (st R) RY) (RXr' := rgF X X Y (updN q T (stW W fr to k)) b (T + 1) (st R) RXr) (RYr' := rgF Y X Y (updN q T (stW W fr to k)) b (T + 1) (st R) RYr) (U' := fun e => U e ∨ ∃ i, b ≤ i ∧ i < T + 1 ∧ updN κ T k i = e) (A := shoe64 (pX X (updN q T (stW W fr to k)) b) (pX Y (updN q T (stW W fr to k)) b) (T + 1 - b) (T + 1 - b)) hRI rfl (fun e z => Or.inl z) (fun i hi => ⟨crnF_old _ _ hi, crnF_old _ _ hi⟩) (fun i hi => ⟨crnF_same (fun i hi => (hRI.2.2.2.1 i hi).2.1) _ _ hi, crnF_same (fun i hi => (hRI.2.2.2.1 i hi).2.2) _ _ hi⟩) f6 M3 f1.symm f2 (Or.inr ⟨_, by omega, by omega, rfl⟩) (gk' _ (by omega)).1 c1 (by
        constructor
        · rw [← x1, c2]; exact f3.symm
        · rw [← x2, c2]; exact f4.symm) (by
        have q1 : rgF X X Y (updN q T (stW W fr to k)) b (T + 1) (st R) RX (st R) = pX X (updN q T (stW W fr to k)) b (rgL X Y (updN q T (stW W fr to k)) b (T + 1)) := f3
        have q2 : rgF Y X Y (updN q T (stW W fr to k)) b (T + 1) (st R) RY (st R) = pX Y (updN q T (stW W fr to k)) b (rgL X Y (updN q T (stW W fr to k)) b (T + 1)) := f4
        rw [q1, q2, ← x3, ← x4, c3']
        exact f5)
    refine ⟨b, updN q T (stW W fr to k), updN κ T k, VX, VY, clrL (upd L (stW W fr to k) (nI T)) (updN q T (stW W fr to k)) b (T + 1 - b), R + 1, updN st (R + 1) (st R + rgQ X Y (updN q T (stW W fr to k)) b (T + 1)), rgF X X Y (updN q T (stW W fr to k)) b (T + 1) (st R) RX, rgF Y X Y (updN q T (stW W fr to k)) b (T + 1) (st R) RY, upd FI R (nI (st R)), upd SZ R (nI (rgQ X Y (updN q T (stW W fr to k)) b (T + 1))), rgF X X Y (updN q T (stW W fr to k)) b (T + 1) (st R) RXr, rgF Y X Y (updN q T (stW W fr to k)) b (T + 1) (st R) RYr, vp_updL AR R (shoe64 (pX X (updN q T (stW W fr to k)) b) (pX Y (updN q T (stW W fr to k)) b) (T + 1 - b) (T + 1 - b)), updN fp R (updN κ T k (b + rgL X Y (updN q T (stW W fr to k)) b (T + 1))), fun e => U e ∨ ∃ i, b ≤ i ∧ i < T + 1 ∧ updN κ T k i = e, ka, kx', ks', ky', ca + ct, da + dt, ?_, ?_, ?_, ?_, by omega, by omega⟩
    · intro f
      rw [cls f, l3, if_neg (nI_ne1 (by omega)), et]
      simp only [ob10]
      rw [ac_ac, updN_s]
      have ts : tab (R + 1) (upd (fun r => nI (st r)) R (nI (st R))) = tab (R + 1) (fun r => nI (updN st (R + 1) (st R + rgQ X Y (updN q T (stW W fr to k)) b (T + 1)) r)) := by
        apply tab_ext
        intro i hi
        rw [updN_n (by omega)]
        by_cases z : i = R
        · rw [z, pk_us]
        · rw [pk_un z]
      rw [ts]
    · intro g
      unfold b_Mod_go_31
      rw [if_neg i01]
      simp only [ixc (show k < 2048 by omega) (by omega), ixf (show k < 2048 by omega) (by omega), ↓reduceIte, mod_endX (show k < 2048 by omega), mod_endY (show k < 2048 by omega), ob1]
      rw [ev]
      simp only [ob1]
      rw [hvb, if_neg (nI_pos (by omega)), er]
      simp only [ob7]
      rw [more, nar1, nI_1, updN_s]
    · refine ⟨⟨o1, o2, o3⟩, path_ring hk hpath est hb l2, gnR_s wk hgn, ring, ?_, ?_, ?_, by omega, o4, o5⟩
      · intro e he
        rcases he with z | ⟨i, h1, h2, h3⟩
        · exact gU e z
        · rw [← h3]; exact ⟨(g1 i h2).1, (gk' i h2).2⟩
      · intro i hi
        obtain ⟨a1, a2, a3⟩ := gk' i (by omega)
        refine ⟨?_, a2, a3⟩
        rintro (z | ⟨i', h1, h2, h3⟩)
        · exact a1 z
        · have := g3 i i' (by omega) h2 (by rw [← (g1 i (by omega)).2, ← (g1 i' h2).2, h3])
          omega
      · rw [updN_s]; omega
    · rw [cap4, updN_s]
      exact ⟨⟨by have := na.1; omega, na.2⟩, m1, m3, m2⟩
