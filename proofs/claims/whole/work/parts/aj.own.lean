/-! half B: whom a ring belongs to -/
noncomputable def ownN (A : Nat → Int64) (lie : Nat → Bool) (r : Nat) : Nat → Int32
  | 0 => -1
  | s + 1 => if dB ((-(A r)).toInt < (A s).toInt ∧ (ownN A lie r s = -1 ∨ (A s).toInt < (A (ownN A lie r s).toNatClampNeg).toInt) ∧ lie s = true) = true then nI s else ownN A lie r s
theorem own_c (A : Nat → Int64) (lie : Nat → Bool) (r : Nat) : ∀ s, ownN A lie r s = -1 ∨ ∃ s', s' < s ∧ ownN A lie r s = nI s' := by
  intro s
  induction s with
  | zero => exact Or.inl rfl
  | succ s ih =>
    unfold ownN
    split
    · exact Or.inr ⟨s, by omega, rfl⟩
    · rcases ih with z | ⟨s', h1, h2⟩
      · exact Or.inl z
      · exact Or.inr ⟨s', by omega, h2⟩
theorem bI_0 {b : Bool} : bI b = 0 ↔ b = false := by cases b <;> decide
theorem own_s {A : Nat → Int64} {lie : Nat → Bool} {r s : Nat} (h : (-(A r)).toInt < (A s).toInt ∧ (ownN A lie r s = -1 ∨ (A s).toInt < (A (ownN A lie r s).toNatClampNeg).toInt) ∧ lie s = true) : ownN A lie r (s + 1) = nI s := if_pos (dB_t h)
theorem own_n {A : Nat → Int64} {lie : Nat → Bool} {r s : Nat} (h : ¬ ((-(A r)).toInt < (A s).toInt ∧ (ownN A lie r s = -1 ∨ (A s).toInt < (A (ownN A lie r s).toNatClampNeg).toInt) ∧ lie s = true)) : ownN A lie r (s + 1) = ownN A lie r s := if_neg (fun z => h (dB_i.mp z))
theorem rgs_owner {R r F : Nat} {st : Nat → Nat} {RX RY : Nat → Int32} {A : Nat → Int64} (H : RSt R st RX RY) (hr : r < R) (hF : 5000 ≤ F) (hA : ∀ s, s < R → arR st RX RY s = A s) : f_Rgs_ownerOf F (tab R (fun r => nI (st r))) (tab (st R) RX) (tab (st R) RY) (nI r) = some (if 0 < (A r).toInt then nI r else ownN A (fun s => lieF st RX RY s (st (r + 1) - st r) (st r)) r R) := by
  have m0 := RSt_m H (Nat.zero_le R)
  have h3 := H.2.2
  have i10 : ¬ (1 : Int32) = 0 := by decide
  unfold f_Rgs_ownerOf b_Rgs_ownerOf_0
  rw [rgs_area H hr hF, hA r hr]
  simp only [ob1]
  have k0 := lcl (A r) 0
  rw [show (0 : Int64).toInt = 0 from rfl] at k0
  by_cases c : 0 < (A r).toInt
  · rw [if_neg (fun z => by have := k0.mp z; omega), if_pos c]
  · rw [if_pos (k0.mpr (by omega)), if_neg c]
    have key := lp_inv (fun _ _ _ _ => none) (b_Rgs_ownerOf_23 F (tab R (fun r => nI (st r))) (tab (st R) RX) (tab (st R) RY) (nI r)) (fun s : Nat => R - s) (fun f s => ∀ z, s ≤ R → (ownN A (fun s => lieF st RX RY s (st (r + 1) - st r) (st r)) r s = -1 ∨ z = A (ownN A (fun s => lieF st RX RY s (st (r + 1) - st r) (st r)) r s).toNatClampNeg) → f (A r) (ownN A (fun s => lieF st RX RY s (st (r + 1) - st r) (st r)) r s) z (nI s) = some (ownN A (fun s => lieF st RX RY s (st (r + 1) - st r) (st r)) r R)) (fun s f hr' z hs hz => by
      unfold b_Rgs_ownerOf_23
      rw [tab_len]
      by_cases c1 : R ≤ s
      · have e : s = R := by omega
        rw [if_pos ((nIle (by omega) (by omega)).mpr c1), e]
      · rw [if_neg (fun z => c1 ((nIle (by omega) (by omega)).mp z)), rgs_area H (show s < R by omega) hF, hA s (by omega)]
        simp only [ob1]
        have k1 := lcl (A s) (-(A r))
        have k2 := lcg (A s) z
        unfold b_Rgs_ownerOf_69 b_Rgs_ownerOf_65 b_Rgs_ownerOf_70 b_Rgs_ownerOf_95
        rw [rgs_lies H hr (show s < R by omega) hF]
        simp only [ob1, i10, ↓reduceIte]
        rw [nI_1]
        have no : ¬ ((-(A r)).toInt < (A s).toInt ∧ (ownN A (fun s => lieF st RX RY s (st (r + 1) - st r) (st r)) r s = -1 ∨ (A s).toInt < (A (ownN A (fun s => lieF st RX RY s (st (r + 1) - st r) (st r)) r s).toNatClampNeg).toInt) ∧ (fun s => lieF st RX RY s (st (r + 1) - st r) (st r)) s = true) → f (A r) (ownN A (fun s => lieF st RX RY s (st (r + 1) - st r) (st r)) r s) z (nI (s + 1)) = some (ownN A (fun s => lieF st RX RY s (st (r + 1) - st r) (st r)) r R) := by
          intro w
          have := hr' (s + 1) (by omega) z (by omega)
          rw [own_n w] at this
          exact this hz
        have yes : ((-(A r)).toInt < (A s).toInt ∧ (ownN A (fun s => lieF st RX RY s (st (r + 1) - st r) (st r)) r s = -1 ∨ (A s).toInt < (A (ownN A (fun s => lieF st RX RY s (st (r + 1) - st r) (st r)) r s).toNatClampNeg).toInt) ∧ (fun s => lieF st RX RY s (st (r + 1) - st r) (st r)) s = true) → f (A r) (nI s) (A s) (nI (s + 1)) = some (ownN A (fun s => lieF st RX RY s (st (r + 1) - st r) (st r)) r R) := by
          intro w
          have := hr' (s + 1) (by omega) (A s) (by omega)
          rw [own_s w] at this
          exact this (Or.inr (by rw [nI_clamp (by omega)]))
        have lie : ∀ (fit : (-(A r)).toInt < (A s).toInt ∧ (ownN A (fun s => lieF st RX RY s (st (r + 1) - st r) (st r)) r s = -1 ∨ (A s).toInt < (A (ownN A (fun s => lieF st RX RY s (st (r + 1) - st r) (st r)) r s).toNatClampNeg).toInt)), (if bI (lieF st RX RY s (st (r + 1) - st r) (st r)) = 0 then f (A r) (ownN A (fun s => lieF st RX RY s (st (r + 1) - st r) (st r)) r s) z (nI (s + 1)) else f (A r) (nI s) (A s) (nI (s + 1))) = some (ownN A (fun s => lieF st RX RY s (st (r + 1) - st r) (st r)) r R) := by
          intro fit
          by_cases c5 : lieF st RX RY s (st (r + 1) - st r) (st r) = true
          · rw [if_neg (fun w => by rw [bI_0] at w; rw [w] at c5; exact absurd c5 (by decide))]
            exact yes ⟨fit.1, fit.2, c5⟩
          · rw [if_pos (bI_0.mpr (by simpa using c5))]
            exact no (fun w => c5 w.2.2)
        by_cases c2 : (A s).toInt ≤ (-(A r)).toInt
        · rw [if_pos (k1.mpr c2)]
          exact no (fun w => by omega)
        · rw [if_neg (fun w => c2 (k1.mp w))]
          by_cases c3 : ownN A (fun s => lieF st RX RY s (st (r + 1) - st r) (st r)) r s = -1
          · rw [if_pos c3]
            exact lie ⟨by omega, Or.inl c3⟩
          · rw [if_neg c3]
            have hz' := hz.resolve_left c3
            by_cases c4 : z.toInt ≤ (A s).toInt
            · rw [if_pos (k2.mpr c4)]
              refine no (fun w => ?_)
              rcases w.2.1 with w1 | w1
              · exact c3 w1
              · rw [← hz'] at w1; omega
            · rw [if_neg (fun w => c4 (k2.mp w))]
              exact lie ⟨by omega, Or.inr (by rw [← hz']; omega)⟩) F 0 (by omega)
    exact key 0 (Nat.zero_le _) (Or.inl rfl)
theorem mod_owners {R F : Nat} {st : Nat → Nat} {RX RY FI SZ RXr RYr OW : Nat → Int32} {A : Nat → Int64} (H : RSt R st RX RY) (K : RRf R st RX RY FI SZ RXr RYr) (hF : 5000 ≤ F) : ∃ G, f_Mod_findOwners F (nI R) 1024 1024 A 1024 FI 1024 SZ 2052 RXr 2052 RYr OW = some G ∧ ∀ r, r < R → G r = if (A r).toInt < 0 then ownN A (fun s => lieF st RX RY s (st (r + 1) - st r) (st r)) r R else -1 := by
  have m0 := RSt_m H (Nat.zero_le R)
  have h3 := H.2.2
  have i10 : ¬ (1 : Int32) = 0 := by decide
  unfold f_Mod_findOwners b_Mod_findOwners_0
  have key := lp_inv (fun _ _ => none) (b_Mod_findOwners_2 F (nI R) 1024 1024 A 1024 FI 1024 SZ 2052 RXr 2052 RYr) (fun r : Nat => R - r) (fun f r => ∀ OW : Nat → Int32, r ≤ R → (∀ p, p < r → OW p = if (A p).toInt < 0 then ownN A (fun s => lieF st RX RY s (st (p + 1) - st p) (st p)) p R else -1) → ∃ G, f (nI r) OW = some G ∧ ∀ r, r < R → G r = if (A r).toInt < 0 then ownN A (fun s => lieF st RX RY s (st (r + 1) - st r) (st r)) r R else -1) (fun r f hr' OW hr hO => by
    unfold b_Mod_findOwners_2
    by_cases c1 : R ≤ r
    · have e : r = R := by omega
      rw [if_pos ((nIle (by omega) (by omega)).mpr c1)]
      exact ⟨OW, rfl, fun p hp => hO p (by omega)⟩
    · have hrR : r < R := by omega
      rw [if_neg (fun z => c1 ((nIle (by omega) (by omega)).mp z))]
      simp only [ixc (show r < 1024 by omega) (by omega), ixf (show r < 1024 by omega) (by omega), ↓reduceIte]
      have inner := lp_inv (fun _ _ _ => none) (b_Mod_findOwners_19 F (nI R) 1024 1024 A 1024 FI 1024 SZ 2052 RXr 2052 RYr f) (fun s : Nat => R - s) (fun g s => ∀ O2 : Nat → Int32, s ≤ R → (∀ p, p < r → O2 p = OW p) → O2 r = (if (A r).toInt < 0 then ownN A (fun s => lieF st RX RY s (st (r + 1) - st r) (st r)) r s else -1) → ∃ G, g (nI r) (nI s) O2 = some G ∧ ∀ r, r < R → G r = if (A r).toInt < 0 then ownN A (fun s => lieF st RX RY s (st (r + 1) - st r) (st r)) r R else -1) (fun s g hs' O2 hs ho hor => by
        unfold b_Mod_findOwners_19
        have done : (if (A r).toInt < 0 then ownN A (fun s => lieF st RX RY s (st (r + 1) - st r) (st r)) r s else -1) = (if (A r).toInt < 0 then ownN A (fun s => lieF st RX RY s (st (r + 1) - st r) (st r)) r R else -1) → ∃ G, b_Mod_findOwners_117 F (nI R) 1024 1024 A 1024 FI 1024 SZ 2052 RXr 2052 RYr f (nI r) O2 = some G ∧ ∀ r, r < R → G r = if (A r).toInt < 0 then ownN A (fun s => lieF st RX RY s (st (r + 1) - st r) (st r)) r R else -1 := by
          intro w
          unfold b_Mod_findOwners_117
          rw [nI_1]
          refine hr' (r + 1) (by omega) O2 (by omega) (fun p hp => ?_)
          by_cases q : p = r
          · rw [q, hor, w]
          · rw [ho p (by omega)]; exact hO p (by omega)
        by_cases c2 : R ≤ s
        · have e : s = R := by omega
          rw [if_pos ((nIle (by omega) (by omega)).mpr c2)]
          exact done (by rw [e])
        · rw [if_neg (fun z => c2 ((nIle (by omega) (by omega)).mp z))]
          simp only [ixc (show r < 1024 by omega) (by omega), ixf (show r < 1024 by omega) (by omega), ixc (show s < 1024 by omega) (by omega), ixf (show s < 1024 by omega) (by omega), ↓reduceIte]
          have k0 := lcg (A r) 0
          rw [show (0 : Int64).toInt = 0 from rfl] at k0
          by_cases c3 : 0 ≤ (A r).toInt
          · rw [if_pos (k0.mpr c3)]
            exact done (by rw [if_neg (by omega), if_neg (by omega)])
          · rw [if_neg (fun z => c3 (k0.mp z))]
            rw [if_pos (show (A r).toInt < 0 by omega)] at hor
            have k1 := lcl (A s) (-(A r))
            unfold b_Mod_findOwners_68 b_Mod_findOwners_73 b_Mod_findOwners_111
            simp only [ixc (show r < 1024 by omega) (by omega), ixf (show r < 1024 by omega) (by omega), ixc (show s < 1024 by omega) (by omega), ixf (show s < 1024 by omega) (by omega), ↓reduceIte, i10]
            rw [mod_lies H K hrR (show s < R by omega) hF]
            simp only [ob1]
            rw [nI_1, hor]
            have no : ¬ ((-(A r)).toInt < (A s).toInt ∧ (ownN A (fun s => lieF st RX RY s (st (r + 1) - st r) (st r)) r s = -1 ∨ (A s).toInt < (A (ownN A (fun s => lieF st RX RY s (st (r + 1) - st r) (st r)) r s).toNatClampNeg).toInt) ∧ (fun s => lieF st RX RY s (st (r + 1) - st r) (st r)) s = true) → ∃ G, g (nI r) (nI (s + 1)) O2 = some G ∧ ∀ r, r < R → G r = if (A r).toInt < 0 then ownN A (fun s => lieF st RX RY s (st (r + 1) - st r) (st r)) r R else -1 := by
              intro w
              refine hs' (s + 1) (by omega) O2 (by omega) ho ?_
              rw [if_pos (by omega), own_n w, hor]
            have yes : ((-(A r)).toInt < (A s).toInt ∧ (ownN A (fun s => lieF st RX RY s (st (r + 1) - st r) (st r)) r s = -1 ∨ (A s).toInt < (A (ownN A (fun s => lieF st RX RY s (st (r + 1) - st r) (st r)) r s).toNatClampNeg).toInt) ∧ (fun s => lieF st RX RY s (st (r + 1) - st r) (st r)) s = true) → ∃ G, g (nI r) (nI (s + 1)) (upd O2 r (nI s)) = some G ∧ ∀ r, r < R → G r = if (A r).toInt < 0 then ownN A (fun s => lieF st RX RY s (st (r + 1) - st r) (st r)) r R else -1 := by
              intro w
              refine hs' (s + 1) (by omega) (upd O2 r (nI s)) (by omega) (fun p hp => by rw [pk_un (by omega)]; exact ho p hp) ?_
              rw [if_pos (by omega), own_s w, pk_us]
            have lie : ∀ (fit : (ownN A (fun s => lieF st RX RY s (st (r + 1) - st r) (st r)) r s = -1 ∨ (A s).toInt < (A (ownN A (fun s => lieF st RX RY s (st (r + 1) - st r) (st r)) r s).toNatClampNeg).toInt)), ∃ G, (if lg_cmp (A s) (-(A r)) ≤ 0 then g (nI r) (nI (s + 1)) O2 else if bI (lieF st RX RY s (st (r + 1) - st r) (st r)) = 0 then g (nI r) (nI (s + 1)) O2 else g (nI r) (nI (s + 1)) (upd O2 r (nI s))) = some G ∧ ∀ r, r < R → G r = if (A r).toInt < 0 then ownN A (fun s => lieF st RX RY s (st (r + 1) - st r) (st r)) r R else -1 := by
              intro fit
              by_cases c4 : (A s).toInt ≤ (-(A r)).toInt
              · rw [if_pos (k1.mpr c4)]
                exact no (fun w => by omega)
              · rw [if_neg (fun w => c4 (k1.mp w))]
                by_cases c5 : lieF st RX RY s (st (r + 1) - st r) (st r) = true
                · rw [if_neg (fun w => by rw [bI_0] at w; rw [w] at c5; exact absurd c5 (by decide))]
                  exact yes ⟨by omega, fit, c5⟩
                · rw [if_pos (bI_0.mpr (by simpa using c5))]
                  exact no (fun w => c5 w.2.2)
            rcases own_c A (fun s => lieF st RX RY s (st (r + 1) - st r) (st r)) r s with w | ⟨s', w1, w2⟩
            · have : ownN A (fun s => lieF st RX RY s (st (r + 1) - st r) (st r)) r s < 0 := by rw [w]; decide
              rw [if_pos this]
              exact lie (Or.inl w)
            · have nn : ¬ ownN A (fun s => lieF st RX RY s (st (r + 1) - st r) (st r)) r s < 0 := by rw [w2]; exact nI_pos (by omega)
              have ix : ¬ (ownN A (fun s => lieF st RX RY s (st (r + 1) - st r) (st r)) r s < 0 ∨ 1024 ≤ (ownN A (fun s => lieF st RX RY s (st (r + 1) - st r) (st r)) r s).toNatClampNeg) := by rw [w2]; exact ixn (by omega) (by omega)
              rw [if_neg nn, if_neg ix]
              have k2 := lcg (A s) (A (ownN A (fun s => lieF st RX RY s (st (r + 1) - st r) (st r)) r s).toNatClampNeg)
              by_cases c6 : (A (ownN A (fun s => lieF st RX RY s (st (r + 1) - st r) (st r)) r s).toNatClampNeg).toInt ≤ (A s).toInt
              · rw [if_pos (k2.mpr c6)]
                have nf : ¬ ((-(A r)).toInt < (A s).toInt ∧ (ownN A (fun s => lieF st RX RY s (st (r + 1) - st r) (st r)) r s = -1 ∨ (A s).toInt < (A (ownN A (fun s => lieF st RX RY s (st (r + 1) - st r) (st r)) r s).toNatClampNeg).toInt) ∧ (fun s => lieF st RX RY s (st (r + 1) - st r) (st r)) s = true) := by
                  rintro ⟨_, v | v, _⟩
                  · rw [w2] at v; exact nI_ne1 (by omega) v
                  · omega
                by_cases c4 : lg_cmp (A s) (-(A r)) ≤ 0
                · rw [if_pos c4]; exact no nf
                · rw [if_neg c4]; exact no nf
              · rw [if_neg (fun z => c6 (k2.mp z))]
                exact lie (Or.inr (by omega))) F 0 (by omega)
      exact inner (upd OW r (-1)) (Nat.zero_le _) (fun p hp => by rw [pk_un (by omega)]) (by
        rw [pk_us]
        split
        · rfl
        · rfl)) F 0 (by omega)
  exact key OW (Nat.zero_le _) (fun p hp => absurd hp (Nat.not_lt_zero p))
