/-! half B: a polygon is told, class and reference -/
def sN (g : Nat → Nat) : Nat → Nat
  | 0 => 0
  | n + 1 => sN g n + g n
theorem sN_le {g h : Nat → Nat} : ∀ {n : Nat}, (∀ k, k < n → g k ≤ h k) → sN g n ≤ sN h n := by
  intro n
  induction n with
  | zero => intro _; exact Nat.le_refl _
  | succ n ih =>
    intro e
    have := ih (fun k hk => e k (by omega))
    have := e n (by omega)
    show sN g n + g n ≤ sN h n + h n
    omega
theorem sN_one {g h : Nat → Nat} {e d : Nat} : ∀ {n : Nat}, e < n → (∀ f, f < n → f ≠ e → g f = h f) → g e = h e + d → sN g n = sN h n + d := by
  intro n
  induction n with
  | zero => intro h; omega
  | succ n ih =>
    intro he h1 h2
    show sN g n + g n = sN h n + h n + d
    by_cases c : e = n
    · subst c
      have : sN g e = sN h e := by
        have a := sN_le (g := g) (h := h) (n := e) (fun k hk => by rw [h1 k (by omega) (by omega)]; exact Nat.le_refl _)
        have b := sN_le (g := h) (h := g) (n := e) (fun k hk => by rw [h1 k (by omega) (by omega)]; exact Nat.le_refl _)
        omega
      rw [this, h2]; omega
    · rw [ih (by omega) (fun f hf => h1 f (by omega)) h2, h1 n (by omega) (fun z => c z.symm)]; omega
/-- the corners of the rings in T -/
noncomputable def cT (st : Nat → Nat) (R : Nat) (T : Nat → Prop) : Nat := sN (fun r => if dB (T r) = true then st (r + 1) - st r + 1 else 0) R
theorem cT_le {R : Nat} {st : Nat → Nat} {RX RY : Nat → Int32} {T : Nat → Prop} (H : RSt R st RX RY) : cT st R T ≤ st R + R := by
  have e : ∀ k, k ≤ R → sN (fun r => st (r + 1) - st r + 1) k + st 0 = st k + k := by
    intro k
    induction k with
    | zero => intro _; show 0 + st 0 = st 0 + 0; omega
    | succ k ih =>
      intro hk
      have := ih (by omega)
      have := H.1 k (by omega)
      show sN (fun r => st (r + 1) - st r + 1) k + (st (k + 1) - st k + 1) + st 0 = st (k + 1) + (k + 1)
      omega
  have h1 := e R (Nat.le_refl _)
  have h2 := sN_le (g := fun r => if dB (T r) = true then st (r + 1) - st r + 1 else 0) (h := fun r => st (r + 1) - st r + 1) (n := R) (fun k _ => by
    show (if dB (T k) = true then st (k + 1) - st k + 1 else 0) ≤ st (k + 1) - st k + 1
    split <;> omega)
  unfold cT
  omega
theorem cT_add {R r : Nat} {st : Nat → Nat} {T : Nat → Prop} (hr : r < R) (h : ¬ T r) : cT st R (fun x => T x ∨ x = r) = cT st R T + (st (r + 1) - st r + 1) := by
  apply sN_one hr
  · intro f _ hf
    rw [dB_c (show (T f ∨ f = r) ↔ T f from ⟨fun z => z.resolve_right hf, Or.inl⟩)]
  · rw [if_pos (dB_t (Or.inr rfl)), if_neg (fun z => h (dB_i.mp z)), Nat.zero_add]
theorem nT_add {R r : Nat} {T : Nat → Prop} (hr : r < R) (h : ¬ T r) : cntP (fun x => T x ∨ x = r) R = cntP T R + 1 :=
  cnt_one hr (fun f _ hf => ⟨fun z => z.resolve_right hf, Or.inl⟩) (Or.inr rfl) h
def agP (a : Nat) (PL PL' : Nat → Int32) : Prop := ∀ i, i < a → i ≠ 1 → PL' i = PL i
def agX (b : Nat) (XS XS' : Nat → Int32) : Prop := ∀ i, i < b → XS' i = XS i
theorem agP_add {a : Nat} {PL PL' : Nat → Int32} {v : Int32} (h : agP a PL PL') : agP (a + 1) (upd PL a v) (upd PL' a v) := by
  intro i hi h1
  by_cases c : i = a
  · rw [c, pk_us, pk_us]
  · rw [pk_un c, pk_un c]; exact h i (by omega) h1
theorem agP_up {a m : Nat} {PL PL' : Nat → Int32} {v : Int32} (h : agP a PL PL') : agP a (upd PL m v) (upd PL' m v) := by
  intro i hi h1
  by_cases c : i = m
  · rw [c, pk_us, pk_us]
  · rw [pk_un c, pk_un c]; exact h i hi h1
theorem agX_tl {V XS XS' : Nat → Int32} {s M b t : Nat} (h : agX b XS XS') : agX (b + t) (tlF V s M b XS t) (tlF V s M b XS' t) := fun _ hi => tl_same h hi
def tolO (A : Nat → Int64) (G : Nat → Int32) (so : Nat → Nat) (i r : Nat) : Prop := (0 < (A r).toInt ∧ ∃ p, p < i ∧ so p = r) ∨ ((A r).toInt < 0 ∧ ∃ p, p < i ∧ G r = nI (so p))
def tolI (A : Nat → Int64) (G : Nat → Int32) (so : Nat → Nat) (i0 i r : Nat) : Prop := tolO A G so i0 r ∨ (0 < (A r).toInt ∧ so i0 = r) ∨ ((A r).toInt < 0 ∧ G r = nI (so i0) ∧ ∃ p, p < i ∧ so p = r)
theorem so_inj {R : Nat} {st so : Nat → Nat} {RX RY : Nat → Int32} (O : ordO R st RX RY so) {i j : Nat} (hi : i < R) (hj : j < R) (h : so i = so j) : i = j := by
  rcases Nat.lt_trichotomy i j with z | z | z
  · have := O.2.1 i j z hj; rw [h] at this; exact absurd this bef_ir
  · exact z
  · have := O.2.1 j i z hi; rw [h] at this; exact absurd this bef_ir
/-- the reference's owners -/
def ownR (A : Nat → Int64) (st : Nat → Nat) (RX RY : Nat → Int32) (R : Nat) (G : Nat → Int32) : Prop := ∀ r, r < R → G r = if (A r).toInt < 0 then ownN A (fun s => lieF st RX RY s (st (r + 1) - st r) (st r)) r R else -1
theorem can_cls {R r S : Nat} {st : Nat → Nat} {RX RY G : Nat → Int32} {A : Nat → Int64} (hG : ownR A st RX RY R G) (hA0 : ∀ r, r < R → (A r).toInt ≠ 0) (hr : r < R) (hS : S < R) (hR : R ≤ 1000) (pS : 0 < (A S).toInt) : (r ≠ S ∧ OWc A st RX RY R r = nI S) ↔ canB A G (nI S) r := by
  have n0 : ¬ nI S < 0 := nI_pos (by omega)
  have p0 : 0 ≤ nI S := nI_pos' (by omega)
  have h0 := hA0 r hr
  unfold canB OWc
  rw [hG r hr]
  by_cases c : 0 < (A r).toInt
  · rw [if_pos c]
    constructor
    · rintro ⟨z1, z2⟩; exact absurd ((nIeq (by omega) (by omega)).mp z2) z1
    · rintro (z | z)
      · exact absurd z.1 n0
      · omega
  · rw [if_neg c, if_pos (by omega)]
    constructor
    · rintro ⟨_, z2⟩; exact Or.inr ⟨p0, by omega, z2⟩
    · rintro (z | z)
      · exact absurd z.1 n0
      · exact ⟨fun e => by rw [e] at c; exact c pS, z.2.2⟩
def polR (R : Nat) (st : Nat → Nat) (A : Nat → Int64) (G : Nat → Int32) (so : Nat → Nat) (i0 : Nat) (a' b' : Nat) (T' : Nat → Prop) : Prop := b' = cT st R T' ∧ a' ≤ 2 + 3 * cntP T' R ∧ 2 ≤ a' ∧ (∀ r, T' r → r < R ∧ tolO A G so (i0 + 1) r)
theorem hole_lock {R F S i0 many : Nat} {st so : Nat → Nat} {RX RY FI SZ RXr RYr G : Nat → Int32} {A : Nat → Int64} {po : Int32} {r20 : Int32 → Int32 → Int32 → Int32 → Int64 → (Nat → Int32) → (Nat → Int32) → (Nat → Int32) → Option (Int32 × Int32 × Int32 × Int64 × (Nat → Int32) × (Nat → Int32) × (Nat → Int32))} (H : RSt R st RX RY) (K : RRf R st RX RY FI SZ RXr RYr) (T : totR R st RX RY) (O : ordO R st RX RY so) (hF : 5000 ≤ F) (hA : ∀ s, s < R → arR st RX RY s = A s) (hA0 : ∀ r, r < R → (A r).toInt ≠ 0) (hG : ownR A st RX RY R G) (hi0 : i0 < R) (eS : S = so i0) (pS : 0 < (A S).toInt) (hm1 : many ≠ 1) : ∀ d i a b PL XS YS PL' XS' YS' tw ka kx ky Fc Fr (Tl : Nat → Prop), R - i ≤ d → i ≤ R → d < Fc → d < Fr → many < a → agP a PL PL' → agX b XS XS' → agX b YS YS' → b = cT st R Tl → a ≤ 2 + 3 * cntP Tl R → 2 ≤ a → (∀ r, Tl r → r < R ∧ tolI A G so i0 i r) → cap3 a b ka kx ky → ∃ a' b' PL2 XS2 YS2 PL2' XS2' YS2' tw' ka' kx' ky' C D T', lp (fun _ _ _ _ _ _ _ _ _ => none) (b_Mul_tellPolygon_33 F (tab R (fun r => nI (st r))) (tab (st R) RX) (tab (st R) RY) (tab R (fun i => nI (so i))) (tab R (OWc A st RX RY R)) (nI S)) Fc (nI many) (nI i) (tab a PL) ka (tab b XS) kx (tab b YS) ky tw = some (C, D, tab a' PL2, ka', tab b' XS2, kx', tab b' YS2, ky', tw') ∧ lp (fun _ _ _ _ _ _ _ _ _ _ => none) (b_Mod_tellAll_70 F (nI R) 4096 1024 A 1024 FI 2052 RXr 2052 RYr 1024 G 1024 SZ 4096 4096 r20) Fr (nI S) (nI many) (hdN (canB A G (nI S)) so R (R - i)) (nI a) (nI b) po tw PL' XS' YS' = r20 (hdN (canB A G (-1)) so R (R - (i0 + 1))) (nI a') (nI b') (po + 1) tw' PL2' XS2' YS2' ∧ agP a' PL2 PL2' ∧ agX b' XS2 XS2' ∧ agX b' YS2 YS2' ∧ PL2 1 = PL 1 ∧ polR R st A G so i0 a' b' T' ∧ cap3 a' b' ka' kx' ky' ∧ C + (ka + kx + ky) ≤ ka' + kx' + ky' ∧ D + 2 * (ka + kx + ky) = 2 * (ka' + kx' + ky') := by
  have m0 := RSt_m H (Nat.zero_le R)
  have h3 := H.2.2
  have O1 := O.1
  have u1 : ∀ (γ : Type) (zz : γ) (bd : γ → γ) (f : Nat), lp zz bd (f + 1) = bd (lp zz bd f) := fun _ _ _ _ => rfl
  have hS : S < R := by rw [eS]; exact O1 i0 hi0
  intro d
  induction d with
  | zero =>
    intro i a b PL XS YS PL' XS' YS' tw ka kx ky Fc Fr Tl hd hi hFc hFr hma g1 g2 g3 hb ha ha2 hT cp
    have e : i = R := by omega
    subst e
    obtain ⟨Fc', rfl⟩ : ∃ f, Fc = f + 1 := ⟨Fc - 1, by omega⟩
    obtain ⟨Fr', rfl⟩ : ∃ f, Fr = f + 1 := ⟨Fr - 1, by omega⟩
    refine ⟨a, b, PL, XS, YS, PL', XS', YS', tw, ka, kx, ky, 0, 0, Tl, ?_, ?_, g1, g2, g3, rfl, ⟨hb, ha, ha2, fun r hr => ?_⟩, cp, by omega, by omega⟩
    · rw [u1]
      unfold b_Mul_tellPolygon_33
      rw [tab_len, if_pos ((nIle (by omega) (by omega)).mpr (Nat.le_refl _))]
    · rw [u1, Nat.sub_self]
      unfold b_Mod_tellAll_70
      have e1 : hdN (canB A G (nI S)) so i 0 = -1 := rfl
      rw [e1, if_pos (by decide), mod_behind (d := i - (i0 + 1)) H K T O hF (by omega) (Or.inr ⟨i0, hi0, by rw [eS], rfl⟩)]
      rfl
    · obtain ⟨z1, z2⟩ := hT r hr
      refine ⟨z1, ?_⟩
      rcases z2 with (⟨w1, p, w2, w3⟩ | ⟨w1, p, w2, w3⟩) | ⟨w1, w2⟩ | ⟨w1, w2, _⟩
      · exact Or.inl ⟨w1, p, by omega, w3⟩
      · exact Or.inr ⟨w1, p, by omega, w3⟩
      · exact Or.inl ⟨w1, i0, by omega, w2⟩
      · exact Or.inr ⟨w1, i0, by omega, w2⟩
  | succ d ih =>
    intro i a b PL XS YS PL' XS' YS' tw ka kx ky Fc Fr Tl hd hi hFc hFr hma g1 g2 g3 hb ha ha2 hT cp
    by_cases e : i = R
    · exact ih i a b PL XS YS PL' XS' YS' tw ka kx ky Fc Fr Tl (by omega) hi (by omega) (by omega) hma g1 g2 g3 hb ha ha2 hT cp
    · have hiR : i < R := by omega
      have ri := O1 i hiR
      have cc := can_cls (r := so i) hG hA0 ri hS (by omega) pS
      obtain ⟨Fc', rfl⟩ : ∃ f, Fc = f + 1 := ⟨Fc - 1, by omega⟩
      have eD : R - i = (R - (i + 1)) + 1 := by omega
      have eR : R - (R - (i + 1) + 1) = i := by omega
      have clsS : ∀ f, b_Mul_tellPolygon_33 F (tab R (fun r => nI (st r))) (tab (st R) RX) (tab (st R) RY) (tab R (fun i => nI (so i))) (tab R (OWc A st RX RY R)) (nI S) f (nI many) (nI i) (tab a PL) ka (tab b XS) kx (tab b YS) ky tw = if nI (so i) = nI S then f (nI many) (nI (i + 1)) (tab a PL) ka (tab b XS) kx (tab b YS) ky tw else if OWc A st RX RY R (so i) = nI S then ob9 (f_Mul_tellRing F (tab R (fun r => nI (st r))) (tab (st R) RX) (tab (st R) RY) (nI (so i)) (tab b XS) kx (tab b YS) ky (tab a (upd PL many (PL many + 1))) ka tw) (fun c_8 d_8 L0_x_8 K0_x_8 L0_y_8 K0_y_8 L0_plan_8 K0_plan_8 V0_twiceArea_8 => ac c_8 d_8 (f (nI many) (nI (i + 1)) L0_plan_8 K0_plan_8 L0_x_8 K0_x_8 L0_y_8 K0_y_8 V0_twiceArea_8)) else f (nI many) (nI (i + 1)) (tab a PL) ka (tab b XS) kx (tab b YS) ky tw := by
        intro f
        unfold b_Mul_tellPolygon_33 b_Mul_tellPolygon_100
        rw [tab_len, if_neg (fun z => by have := (nIle (by omega) (by omega)).mp z; omega), rg_tab hiR (by omega), rg_tab ri (by omega), rg_tab hma (by have := cnt_n (p := Tl) (n := R); omega), rs_tab _ hma (by have := cnt_n (p := Tl) (n := R); omega), nI_1]
      by_cases c : canB A G (nI S) (so i)
      · -- a hole of S
        obtain ⟨w1, w2⟩ := cc.mpr c
        have hd1 : hdN (canB A G (nI S)) so R (R - i) = nI (so i) := by
          rw [eD]
          unfold hdN
          rw [eR, if_pos (dB_t c)]
        obtain ⟨Fr', rfl⟩ : ∃ f, Fr = f + 1 := ⟨Fr - 1, by omega⟩
        have cneg : (A (so i)).toInt < 0 ∧ G (so i) = nI S := by
          rcases c with z | z
          · exact absurd z.1 (nI_pos (by omega))
          · exact z.2
        have nT : ¬ Tl (so i) := by
          intro z
          obtain ⟨_, z2⟩ := hT _ z
          rcases z2 with (⟨v1, _⟩ | ⟨v1, p, v2, v3⟩) | ⟨v1, v2⟩ | ⟨v1, v2, p, v3, v4⟩
          · omega
          · rw [cneg.2, eS] at v3
            have l2 := O1 p (by omega)
            have l3 := O1 i0 hi0
            have := so_inj O hi0 (show p < R by omega) ((nIeq (by omega) (by omega)).mp v3)
            omega
          · omega
          · have := so_inj O (show p < R by omega) hiR v4
            omega
        have bT := cT_add (st := st) ri nT
        have nTT := nT_add ri nT
        have bl := cT_le (T := fun x => Tl x ∨ x = so i) H
        have cn := cnt_n (p := fun x => Tl x ∨ x = so i) (n := R)
        obtain ⟨c1, d1, ka1, kx1, ky1, e1, cp1, q1, q2⟩ := mul_ring (PL := upd PL many (PL many + 1)) (XS := XS) (YS := YS) (tw := tw) H ri hF (show a < 4000 by omega) (show b + (st (so i + 1) - st (so i) + 1) < 4000 by omega) cp
        have e2 := mod_tell (PL := upd PL' many (PL' many + 1)) (XS := XS') (YS := YS') (tw := tw) (A := A) H K ri hF (show a < 4000 by omega) (show b + (st (so i + 1) - st (so i) + 1) < 4000 by omega)
        have ma : agP a (upd PL many (PL many + 1)) (upd PL' many (PL' many + 1)) := by
          rw [g1 many hma hm1]; exact agP_up g1
        obtain ⟨a', b', PL2, XS2, YS2, PL2', XS2', YS2', tw', ka', kx', ky', C, D, T', f1, f2, f3, f4, f5, f6, f7, f8, f9, f10⟩ := ih (i + 1) (a + 1) (b + (st (so i + 1) - st (so i) + 1)) _ _ _ _ _ _ (tw + A (so i)) ka1 kx1 ky1 Fc' Fr' (fun x => Tl x ∨ x = so i) (by omega) (by omega) (by omega) (by omega) (by omega) (agP_add ma) (agX_tl g2) (agX_tl g3) (by omega) (by omega) (by omega) (fun r hr => by
          rcases hr with hr | hr
          · obtain ⟨z1, z2⟩ := hT r hr
            refine ⟨z1, ?_⟩
            rcases z2 with z2 | z2 | ⟨v1, v2, p, v3, v4⟩
            · exact Or.inl z2
            · exact Or.inr (Or.inl z2)
            · exact Or.inr (Or.inr ⟨v1, v2, p, by omega, v4⟩)
          · rw [hr]
            exact ⟨ri, Or.inr (Or.inr ⟨cneg.1, by rw [cneg.2, eS], i, by omega, rfl⟩)⟩) cp1
        refine ⟨a', b', PL2, XS2, YS2, PL2', XS2', YS2', tw', ka', kx', ky', c1 + C, d1 + D, T', ?_, ?_, f3, f4, f5, ?_, f7, f8, by omega, by omega⟩
        · rw [u1, clsS, if_neg (fun z => w1 ((nIeq (by omega) (by omega)).mp z)), if_pos w2, e1]
          simp only [ob9]
          rw [hA _ ri, f1]; rfl
        · rw [u1, hd1]
          generalize lp (fun _ _ _ _ _ _ _ _ _ _ => none) (b_Mod_tellAll_70 F (nI R) 4096 1024 A 1024 FI 2052 RXr 2052 RYr 1024 G 1024 SZ 4096 4096 r20) Fr' = g at f2 ⊢
          unfold b_Mod_tellAll_70
          rw [if_neg (nI_pos (by omega))]
          simp only [ixc (show many < 4096 by omega) (by omega), ixf (show many < 4096 by omega) (by omega), ↓reduceIte]
          rw [e2, mod_behind (d := R - (i + 1)) H K T O hF (by omega) (Or.inr ⟨i, hiR, rfl, rfl⟩)]
          simp only [ob6, ob1]
          exact f2
        · rw [f6, pk_un (by omega), pk_un (fun z => hm1 z.symm)]
      · have hd1 : hdN (canB A G (nI S)) so R (R - i) = hdN (canB A G (nI S)) so R (R - (i + 1)) := by
          rw [eD]
          show (if dB (canB A G (nI S) (so (R - (R - (i + 1) + 1)))) = true then _ else _) = _
          rw [eR, if_neg (fun z => c (dB_i.mp z))]
        have stp := ih (i + 1) a b PL XS YS PL' XS' YS' tw ka kx ky Fc' Fr Tl (by omega) (by omega) (by omega) (by omega) hma g1 g2 g3 hb ha ha2 (fun r hr => by
          obtain ⟨z1, z2⟩ := hT r hr
          refine ⟨z1, ?_⟩
          rcases z2 with z2 | z2 | ⟨v1, v2, p, v3, v4⟩
          · exact Or.inl z2
          · exact Or.inr (Or.inl z2)
          · exact Or.inr (Or.inr ⟨v1, v2, p, by omega, v4⟩)) cp
        rw [u1, clsS, hd1]
        by_cases w : so i = S
        · rw [if_pos (by rw [w])]; exact stp
        · rw [if_neg (fun z => w ((nIeq (by omega) (by omega)).mp z)), if_neg (fun z => c (cc.mp ⟨w, z⟩))]; exact stp
