/-! half B: the whole result is told, class and reference -/
theorem hd_sh {A : Nat → Int64} {G : Nat → Int32} {r : Nat} : canB A G (-1) r ↔ 0 < (A r).toInt := by
  unfold canB
  constructor
  · rintro (z | z)
    · exact z.2
    · exact absurd z.1 (by decide)
  · intro z; exact Or.inl ⟨by decide, z⟩
theorem shell_lock {R F : Nat} {st so : Nat → Nat} {RX RY FI SZ RXr RYr G : Nat → Int32} {A : Nat → Int64} {sh : Int32} (H : RSt R st RX RY) (K : RRf R st RX RY FI SZ RXr RYr) (T : totR R st RX RY) (O : ordO R st RX RY so) (hF : 5000 ≤ F) (hA : ∀ s, s < R → arR st RX RY s = A s) (hA0 : ∀ r, r < R → (A r).toInt ≠ 0) (hG : ownR A st RX RY R G) : ∀ d i a b PL XS YS PL' XS' YS' tw ka kx ky Fc Fr (Tl : Nat → Prop), R - i ≤ d → i ≤ R → d < Fc → d < Fr → agP a PL PL' → agX b XS XS' → agX b YS YS' → b = cT st R Tl → a ≤ 2 + 3 * cntP Tl R → 2 ≤ a → (∀ r, Tl r → r < R ∧ tolO A G so i r) → cap3 a b ka kx ky → ∃ a' b' PL2 XS2 YS2 PL2' XS2' YS2' tw' ka' kx' ky' C D, lp (fun _ _ _ _ _ _ _ _ _ => none) (b_Mul_tell_30 F (tab R (fun i => nI (so i))) (tab R (OWc A st RX RY R)) (tab R (fun r => nI (st r))) (tab (st R) RX) (tab (st R) RY) sh) Fc (nI i) (tab a PL) ka (tab b XS) kx (tab b YS) ky sh tw = some (C, D, tab a' PL2, ka', tab b' XS2, kx', tab b' YS2, ky', sh, tw') ∧ lp (fun _ _ _ _ _ _ _ _ => none) (b_Mod_tellAll_20 F (nI R) 4096 1024 A 1024 FI 2052 RXr 2052 RYr 1024 G 1024 SZ 4096 4096) Fr (hdN (canB A G (-1)) so R (R - i)) (nI a) (nI b) (nI (cntP (fun p => 0 < (A (so p)).toInt) i)) tw PL' XS' YS' = some (nI a', nI b', nI (cntP (fun p => 0 < (A (so p)).toInt) R), tw', upd PL2' 1 (nI (cntP (fun p => 0 < (A (so p)).toInt) R)), XS2', YS2') ∧ agP a' PL2 PL2' ∧ agX b' XS2 XS2' ∧ agX b' YS2 YS2' ∧ PL2 1 = PL 1 ∧ (2 ≤ a' ∧ a' ≤ 1100 ∧ b' ≤ 2000) ∧ cap3 a' b' ka' kx' ky' ∧ C + (ka + kx + ky) ≤ ka' + kx' + ky' ∧ D + 2 * (ka + kx + ky) = 2 * (ka' + kx' + ky') := by
  have m0 := RSt_m H (Nat.zero_le R)
  have h3 := H.2.2
  have O1 := O.1
  have u1 : ∀ (γ : Type) (zz : γ) (bd : γ → γ) (f : Nat), lp zz bd (f + 1) = bd (lp zz bd f) := fun _ _ _ _ => rfl
  intro d
  induction d with
  | zero =>
    intro i a b PL XS YS PL' XS' YS' tw ka kx ky Fc Fr Tl hd hi hFc hFr g1 g2 g3 hb ha ha2 hT cp
    have e : i = R := by omega
    subst e
    have cn := cnt_n (p := Tl) (n := i)
    have bl := cT_le (T := Tl) H
    obtain ⟨Fc', rfl⟩ : ∃ f, Fc = f + 1 := ⟨Fc - 1, by omega⟩
    obtain ⟨Fr', rfl⟩ : ∃ f, Fr = f + 1 := ⟨Fr - 1, by omega⟩
    refine ⟨a, b, PL, XS, YS, PL', XS', YS', tw, ka, kx, ky, 0, 0, ?_, ?_, g1, g2, g3, rfl, ⟨ha2, by omega, by omega⟩, cp, by omega, by omega⟩
    · rw [u1]
      unfold b_Mul_tell_30
      rw [tab_len, if_pos ((nIle (by omega) (by omega)).mpr (Nat.le_refl _))]
    · rw [u1, Nat.sub_self]
      unfold b_Mod_tellAll_20
      have e1 : hdN (canB A G (-1)) so i 0 = -1 := rfl
      rw [e1, if_pos (by decide), if_neg (by decide), show (1 : Int32).toNatClampNeg = 1 by decide]
  | succ d ih =>
    intro i a b PL XS YS PL' XS' YS' tw ka kx ky Fc Fr Tl hd hi hFc hFr g1 g2 g3 hb ha ha2 hT cp
    by_cases e : i = R
    · exact ih i a b PL XS YS PL' XS' YS' tw ka kx ky Fc Fr Tl (by omega) hi (by omega) (by omega) g1 g2 g3 hb ha ha2 hT cp
    · have hiR : i < R := by omega
      have ri := O1 i hiR
      have eD : R - i = (R - (i + 1)) + 1 := by omega
      have eR : R - (R - (i + 1) + 1) = i := by omega
      have os := OWc_self (A := A) (st := st) (RX := RX) (RY := RY) ri (show R ≤ 1000 by omega)
      obtain ⟨Fc', rfl⟩ : ∃ f, Fc = f + 1 := ⟨Fc - 1, by omega⟩
      have clsS : ∀ f, b_Mul_tell_30 F (tab R (fun i => nI (so i))) (tab R (OWc A st RX RY R)) (tab R (fun r => nI (st r))) (tab (st R) RX) (tab (st R) RY) sh f (nI i) (tab a PL) ka (tab b XS) kx (tab b YS) ky sh tw = if OWc A st RX RY R (so i) = nI (so i) then ob9 (f_Mul_tellPolygon F (tab R (fun r => nI (st r))) (tab (st R) RX) (tab (st R) RY) (tab R (fun i => nI (so i))) (tab R (OWc A st RX RY R)) (nI (so i)) (tab a PL) ka (tab b XS) kx (tab b YS) ky tw) (fun c_5 d_5 L0_plan_5 K0_plan_5 L0_x_5 K0_x_5 L0_y_5 K0_y_5 V0_twiceArea_5 => ac c_5 d_5 (f (nI (i + 1)) L0_plan_5 K0_plan_5 L0_x_5 K0_x_5 L0_y_5 K0_y_5 sh V0_twiceArea_5)) else f (nI (i + 1)) (tab a PL) ka (tab b XS) kx (tab b YS) ky sh tw := by
        intro f
        unfold b_Mul_tell_30 b_Mul_tell_68
        rw [tab_len, if_neg (fun z => by have := (nIle (by omega) (by omega)).mp z; omega), rg_tab hiR (by omega), rg_tab ri (by omega), nI_1]
      by_cases c : 0 < (A (so i)).toInt
      · have hd1 : hdN (canB A G (-1)) so R (R - i) = nI (so i) := by
          rw [eD]
          unfold hdN
          rw [eR, if_pos (dB_t (hd_sh.mpr c))]
        obtain ⟨Fr', rfl⟩ : ∃ f, Fr = f + 1 := ⟨Fr - 1, by omega⟩
        have nT : ¬ Tl (so i) := by
          intro z
          obtain ⟨_, z2⟩ := hT _ z
          rcases z2 with ⟨v1, p, v2, v3⟩ | ⟨v1, _⟩
          · have := so_inj O (show p < R by omega) hiR v3
            omega
          · omega
        have bT := cT_add (st := st) ri nT
        have nTT := nT_add ri nT
        have bl := cT_le (T := fun x => Tl x ∨ x = so i) H
        have cn := cnt_n (p := fun x => Tl x ∨ x = so i) (n := R)
        obtain ⟨cp1, cp2, cp3⟩ := cp
        obtain ⟨x1, s1, k1, e1, a1, b1, d1⟩ := ra_cap cp1 (show a < 4096 by omega) (by omega)
        obtain ⟨x2, s2, k2, e2, a2, b2, d2⟩ := ra_cap d1 (show a + 1 < 4096 by omega) (by omega)
        obtain ⟨c3, d3, ka3, kx3, ky3, e3, cp3', q1, q2⟩ := mul_ring (PL := upd (upd PL a 3) (a + 1) 1) (XS := XS) (YS := YS) (tw := tw) (a := a + 2) H ri hF (show a + 2 < 4000 by omega) (show b + (st (so i + 1) - st (so i) + 1) < 4000 by omega) ⟨d2, cp2, cp3⟩
        have e4 := mod_tell (a := a + 2) (PL := upd (upd PL' a 3) (a + 1) 1) (XS := XS') (YS := YS') (tw := tw) (A := A) H K ri hF (show a + 2 < 4000 by omega) (show b + (st (so i + 1) - st (so i) + 1) < 4000 by omega)
        have ag : agP (a + 2) (upd (upd PL a 3) (a + 1) 1) (upd (upd PL' a 3) (a + 1) 1) := agP_add (agP_add g1)
        obtain ⟨a', b', PL2, XS2, YS2, PL2', XS2', YS2', tw', ka', kx', ky', C, D, T', f1, f2, f3, f4, f5, f6, f7, f8, f9, f10⟩ := hole_lock (S := so i) (i0 := i) (many := a + 1) (po := nI (cntP (fun p => 0 < (A (so p)).toInt) i)) (r20 := lp (fun _ _ _ _ _ _ _ _ => none) (b_Mod_tellAll_20 F (nI R) 4096 1024 A 1024 FI 2052 RXr 2052 RYr 1024 G 1024 SZ 4096 4096) Fr') H K T O hF hA hA0 hG hiR rfl c (by omega) R 0 (a + 2 + 1) (b + (st (so i + 1) - st (so i) + 1)) _ _ _ _ _ _ (tw + A (so i)) ka3 kx3 ky3 F F (fun x => Tl x ∨ x = so i) (by omega) (by omega) (by omega) (by omega) (by omega) (agP_add ag) (agX_tl g2) (agX_tl g3) (by omega) (by omega) (by omega) (fun r hr => by
          rcases hr with hr | hr
          · obtain ⟨z1, z2⟩ := hT r hr
            exact ⟨z1, Or.inl z2⟩
          · rw [hr]; exact ⟨ri, Or.inr (Or.inl ⟨c, rfl⟩)⟩) cp3'
        obtain ⟨t1, t2, t3, t4⟩ := f7
        obtain ⟨a5, b5, PL5, XS5, YS5, PL5', XS5', YS5', tw5, ka5, kx5, ky5, C5, D5, h1, h2, h4, h5, h6, h7, h8, h9, h10, h11⟩ := ih (i + 1) a' b' PL2 XS2 YS2 PL2' XS2' YS2' tw' ka' kx' ky' Fc' Fr' T' (by omega) (by omega) (by omega) (by omega) f3 f4 f5 t1 t2 t3 t4 f8
        refine ⟨a5, b5, PL5, XS5, YS5, PL5', XS5', YS5', tw5, ka5, kx5, ky5, x1 + (x2 + (c3 + C)) + C5, s1 + (s2 + (d3 + D)) + D5, ?_, ?_, h4, h5, h6, ?_, h8, h9, by omega, by omega⟩
        · rw [u1, clsS, if_pos (os.mpr c)]
          have ep : f_Mul_tellPolygon F (tab R (fun r => nI (st r))) (tab (st R) RX) (tab (st R) RY) (tab R (fun i => nI (so i))) (tab R (OWc A st RX RY R)) (nI (so i)) (tab a PL) ka (tab b XS) kx (tab b YS) ky tw = some (x1 + (x2 + (c3 + C)), s1 + (s2 + (d3 + D)), tab a' PL2, ka', tab b' XS2, kx', tab b' YS2, ky', tw') := by
            unfold f_Mul_tellPolygon b_Mul_tellPolygon_0
            rw [tab_add, tab_add, tab_len, tab_len, e1]
            simp only [ob3]
            rw [e2]
            simp only [ob3]
            rw [e3]
            simp only [ob9]
            rw [hA _ ri]
            rw [nI_0] at f1
            rw [f1]
            rfl
          rw [ep]
          simp only [ob9]
          rw [h1]; rfl
        · rw [u1, hd1]
          rw [cnt_s (p := fun p => 0 < (A (so p)).toInt) c, ← nI_1] at h2
          generalize lp (fun _ _ _ _ _ _ _ _ => none) (b_Mod_tellAll_20 F (nI R) 4096 1024 A 1024 FI 2052 RXr 2052 RYr 1024 G 1024 SZ 4096 4096) Fr' = g at f2 h2 ⊢
          unfold b_Mod_tellAll_20
          have p2 : nI a + 2 = nI (a + 2) := nI_ad a 2
          rw [if_neg (nI_pos (by omega)), nI_1, p2]
          simp only [ixc (show a < 4096 by omega) (by omega), ixf (show a < 4096 by omega) (by omega), ixc (show a + 1 < 4096 by omega) (by omega), ixf (show a + 1 < 4096 by omega) (by omega), ↓reduceIte]
          rw [e4, mod_behind (d := R) H K T O hF (Nat.le_refl _) (Or.inl ⟨rfl, rfl⟩)]
          simp only [ob6, ob1]
          rw [Nat.sub_zero] at f2
          rw [f2]
          exact h2
        · rw [h7, f6, pk_un (by omega), pk_un (by omega), pk_un (by omega)]
      · have hd1 : hdN (canB A G (-1)) so R (R - i) = hdN (canB A G (-1)) so R (R - (i + 1)) := by
          rw [eD]
          show (if dB (canB A G (-1) (so (R - (R - (i + 1) + 1)))) = true then _ else _) = _
          rw [eR, if_neg (fun z => c (hd_sh.mp (dB_i.mp z)))]
        have stp := ih (i + 1) a b PL XS YS PL' XS' YS' tw ka kx ky Fc' Fr Tl (by omega) (by omega) (by omega) (by omega) g1 g2 g3 hb ha ha2 (fun r hr => by
          obtain ⟨z1, z2⟩ := hT r hr
          refine ⟨z1, ?_⟩
          rcases z2 with ⟨v1, p, v2, v3⟩ | ⟨v1, p, v2, v3⟩
          · exact Or.inl ⟨v1, p, by omega, v3⟩
          · exact Or.inr ⟨v1, p, by omega, v3⟩) cp
        rw [cnt_z (p := fun p => 0 < (A (so p)).toInt) c] at stp
        rw [u1, clsS, hd1, if_neg (fun z => c (os.mp z))]
        exact stp
theorem tell_all {R F ka kx ky : Nat} {st so : Nat → Nat} {RX RY FI SZ RXr RYr G PL' XS' YS' : Nat → Int32} {A : Nat → Int64} {po : Int32} (H : RSt R st RX RY) (K : RRf R st RX RY FI SZ RXr RYr) (T : totR R st RX RY) (O : ordO R st RX RY so) (hF : 5000 ≤ F) (hA : ∀ s, s < R → arR st RX RY s = A s) (hA0 : ∀ r, r < R → (A r).toInt ≠ 0) (hG : ownR A st RX RY R G) (cp : cap3 0 0 ka kx ky) : ∃ a b PL XS YS PL2 XS2 YS2 tw ka' kx' ky' C D, f_Mul_tell F (tab R (fun i => nI (so i))) (tab R (OWc A st RX RY R)) (tab R (fun r => nI (st r))) (tab (st R) RX) (tab (st R) RY) (nI (cntP (fun r => 0 < (A r).toInt) R)) [] ka [] kx [] ky po 0 = some (C, D, tab a PL, ka', tab b XS, kx', tab b YS, ky', nI (cntP (fun r => 0 < (A r).toInt) R), tw) ∧ f_Mod_tellAll F (nI R) 4096 1024 A 1024 FI 2052 RXr 2052 RYr 1024 G 1024 SZ 4096 4096 0 0 0 0 PL' XS' YS' = some (nI a, nI b, nI (cntP (fun r => 0 < (A r).toInt) R), tw, PL2, XS2, YS2) ∧ (∀ i, i < a → PL2 i = PL i) ∧ agX b XS XS2 ∧ agX b YS YS2 ∧ (a ≤ 1100 ∧ b ≤ 2000) ∧ cap3 a b ka' kx' ky' ∧ C + (ka + kx + ky) ≤ ka' + kx' + ky' ∧ D + 2 * (ka + kx + ky) = 2 * (ka' + kx' + ky') := by
  have m0 := RSt_m H (Nat.zero_le R)
  have h3 := H.2.2
  obtain ⟨cp1, cp2, cp3⟩ := cp
  obtain ⟨x1, s1, k1, e1, a1, b1, d1⟩ := ra_cap cp1 (show 0 < 4096 by omega) (by omega)
  obtain ⟨x2, s2, k2, e2, a2, b2, d2⟩ := ra_cap d1 (show 0 + 1 < 4096 by omega) (by omega)
  have z0 : ∀ n, sN (fun r => if dB ((fun _ : Nat => False) r) = true then st (r + 1) - st r + 1 else 0) n = 0 := by
    intro n
    induction n with
    | zero => rfl
    | succ n ih =>
      show sN _ n + (if dB False = true then _ else 0) = 0
      rw [ih, if_neg (fun z => dB_i.mp z)]
  have cz : cntP (fun _ => False) R = 0 := by
    have z : ∀ M, cntP (fun _ => False) M = 0 := by
      intro M
      induction M with
      | zero => rfl
      | succ M ih => rw [cnt_z (fun z => z), ih]
    exact z R
  obtain ⟨a', b', PL2, XS2, YS2, PL2', XS2', YS2', tw', ka', kx', ky', C, D, f1, f2, f3, f4, f5, f6, ⟨f7, f8, f9⟩, f10, f11, f12⟩ := shell_lock (sh := nI (cntP (fun r => 0 < (A r).toInt) R)) H K T O hF hA hA0 hG R 0 2 0 (upd (upd (fun _ => 0) 0 6) 1 (nI (cntP (fun r => 0 < (A r).toInt) R))) (fun _ => 0) (fun _ => 0) (upd PL' 0 6) XS' YS' 0 k2 kx ky F F (fun _ => False) (by omega) (by omega) (by omega) (by omega) (fun i h1 h2 => by
      have : i = 0 := by omega
      rw [this, pk_us, pk_un (by omega), pk_us]) (fun i h => absurd h (Nat.not_lt_zero i)) (fun i h => absurd h (Nat.not_lt_zero i)) (z0 R).symm (by omega) (by omega) (fun r hr => hr.elim) ⟨d2, cp2, cp3⟩
  have ecnt : cntP (fun p => 0 < (A (so p)).toInt) R = cntP (fun r => 0 < (A r).toInt) R := O.2.2.2 (fun r => 0 < (A r).toInt)
  rw [ecnt] at f2
  refine ⟨a', b', PL2, XS2, YS2, upd PL2' 1 (nI (cntP (fun r => 0 < (A r).toInt) R)), XS2', YS2', tw', ka', kx', ky', x1 + (x2 + C), s1 + (s2 + D), ?_, ?_, ?_, f4, f5, ⟨f8, f9⟩, f10, by omega, by omega⟩
  · unfold f_Mul_tell b_Mul_tell_0
    have t2 : tab 2 (upd (upd (fun _ => 0) 0 6) 1 (nI (cntP (fun r => 0 < (A r).toInt) R))) = [6, nI (cntP (fun r => 0 < (A r).toInt) R)] := by
      rw [← tab_add, ← tab_add]; rfl
    rw [t2, nI_0, tab_nil] at f1
    rw [show ([] : List Int32).length = 0 from rfl, e1]
    simp only [ob3]
    rw [show (([] : List Int32) ++ [(6 : Int32)]).length = 0 + 1 from rfl, e2]
    simp only [ob3]
    exact (congrArg (fun z => ac x1 s1 (ac x2 s2 z)) f1).trans rfl
  · unfold f_Mod_tellAll b_Mod_tellAll_0
    rw [if_neg (by decide), mod_behind (d := R) H K T O hF (Nat.le_refl _) (Or.inl ⟨rfl, rfl⟩), show (0 : Int32).toNatClampNeg = 0 by decide]
    simp only [ob1]
    exact f2
  · intro i hi
    by_cases c : i = 1
    · rw [c, pk_us, f6, pk_us]
    · rw [pk_un c]; exact f3 i hi c
