/-! half B: behind of the reference: the next ring in order -/
/-- the first ring of C at the places i.. of the order, d = R - i -/
noncomputable def hdN (C : Nat → Prop) (so : Nat → Nat) (R : Nat) : Nat → Int32
  | 0 => -1
  | d + 1 => if dB (C (so (R - (d + 1)))) = true then nI (so (R - (d + 1))) else hdN C so R d
theorem hd_c {C : Nat → Prop} {so : Nat → Nat} {R : Nat} : ∀ d, d ≤ R → (hdN C so R d = -1 ∧ ∀ i, R - d ≤ i → i < R → ¬ C (so i)) ∨ (∃ i, R - d ≤ i ∧ i < R ∧ C (so i) ∧ hdN C so R d = nI (so i) ∧ ∀ j, R - d ≤ j → j < i → ¬ C (so j)) := by
  intro d
  induction d with
  | zero => intro _; exact Or.inl ⟨rfl, fun i h1 h2 => by omega⟩
  | succ d ih =>
    intro hd
    unfold hdN
    by_cases c : C (so (R - (d + 1)))
    · rw [if_pos (dB_t c)]
      exact Or.inr ⟨R - (d + 1), Nat.le_refl _, by omega, c, rfl, fun j h1 h2 => by omega⟩
    · rw [if_neg (fun z => c (dB_i.mp z))]
      rcases ih (by omega) with ⟨h1, h2⟩ | ⟨i, h1, h2, h3, h4, h5⟩
      · refine Or.inl ⟨h1, fun i g1 g2 => ?_⟩
        by_cases e : i = R - (d + 1)
        · rw [e]; exact c
        · exact h2 i (by omega) g2
      · refine Or.inr ⟨i, by omega, h2, h3, h4, fun j g1 g2 => ?_⟩
        by_cases e : j = R - (d + 1)
        · rw [e]; exact c
        · exact h5 j (by omega) g2
/-- candidates of behind -/
def canB (A : Nat → Int64) (OW : Nat → Int32) (own : Int32) (r : Nat) : Prop := (own < 0 ∧ 0 < (A r).toInt) ∨ (0 ≤ own ∧ (A r).toInt < 0 ∧ OW r = own)
theorem mod_behind {R F d : Nat} {st so : Nat → Nat} {RX RY FI SZ RXr RYr OW : Nat → Int32} {A : Nat → Int64} {own last : Int32} (H : RSt R st RX RY) (K : RRf R st RX RY FI SZ RXr RYr) (T : totR R st RX RY) (O : ordO R st RX RY so) (hF : 5000 ≤ F) (hd : d ≤ R) (hl : (last = -1 ∧ d = R) ∨ (∃ i, i < R ∧ last = nI (so i) ∧ d = R - (i + 1))) : f_Mod_behind F (nI R) 1024 A 1024 FI 2052 RXr 2052 RYr 1024 OW own last = some (hdN (canB A OW own) so R d) := by
  have m0 := RSt_m H (Nat.zero_le R)
  have h3 := H.2.2
  obtain ⟨O1, O2, O3, _⟩ := O
  have i10 : ¬ (1 : Int32) = 0 := by decide
  -- after last: at the places from R - d on
  have aft : ∀ i, i < R → ((last < 0 ∨ ∃ l, l < R ∧ last = nI l ∧ befP st RX RY l (so i)) ↔ R - d ≤ i) := by
    intro i hi
    rcases hl with ⟨h1, h2⟩ | ⟨j, h1, h2, h4⟩
    · exact ⟨fun _ => by omega, fun _ => Or.inl (by rw [h1]; decide)⟩
    · have lj := O1 j h1
      constructor
      · rintro (z | ⟨l, z1, z2, z3⟩)
        · rw [h2] at z; exact absurd z (nI_pos (by omega))
        · rw [h2] at z2
          have e := (nIeq (by omega) (by omega)).mp z2
          rw [← e] at z3
          rcases Nat.lt_trichotomy i j with w | w | w
          · exact absurd (bef_tr z3 (O2 i j w h1)) bef_ir
          · rw [w] at z3; exact absurd z3 bef_ir
          · omega
      · intro z
        exact Or.inr ⟨so j, lj, h2, O2 j i (by omega) hi⟩
  unfold f_Mod_behind b_Mod_behind_0
  have key := lp_inv (fun _ _ => none) (b_Mod_behind_5 F (nI R) 1024 A 1024 FI 2052 RXr 2052 RYr 1024 OW own last) (fun s : Nat × Int32 => R - s.1) (fun f s => s.1 ≤ R → ((s.2 = -1 ∧ ∀ i, R - d ≤ i → i < R → so i < s.1 → ¬ canB A OW own (so i)) ∨ (∃ b, R - d ≤ b ∧ b < R ∧ so b < s.1 ∧ s.2 = nI (so b) ∧ canB A OW own (so b) ∧ ∀ i, R - d ≤ i → i < b → so i < s.1 → ¬ canB A OW own (so i))) → f s.2 (nI s.1) = some (hdN (canB A OW own) so R d)) (fun s f hr => by
    obtain ⟨r, best⟩ := s
    simp only at hr ⊢
    intro hrR hb
    unfold b_Mod_behind_5
    by_cases c1 : R ≤ r
    · rw [if_pos ((nIle (by omega) (by omega)).mpr c1)]
      rcases hd_c (C := canB A OW own) (so := so) (R := R) d hd with ⟨g1, g2⟩ | ⟨i, g1, g2, g3, g4, g5⟩
      · rcases hb with ⟨h1, h2⟩ | ⟨b, h1, h2, h4, h5, h6, h7⟩
        · rw [h1, g1]
        · exact absurd h6 (g2 b h1 h2)
      · rcases hb with ⟨h1, h2⟩ | ⟨b, h1, h2, h4, h5, h6, h7⟩
        · exact absurd g3 (h2 i g1 g2 (by have := O1 i g2; omega))
        · rcases Nat.lt_trichotomy i b with w | w | w
          · exact absurd g3 (h7 i g1 w (by have := O1 i g2; omega))
          · rw [h5, g4, w]
          · exact absurd h6 (g5 b h1 w)
    · have hr1 : r < R := by omega
      obtain ⟨p, hp, ep⟩ := O3 r hr1
      rw [if_neg (fun z => c1 ((nIle (by omega) (by omega)).mp z))]
      have nxt := fun best' hb' => hr (r + 1, best') (by simp only; omega) (by simp only; omega) hb'
      simp only at nxt
      -- r is passed over
      have pass : (¬ canB A OW own r ∨ ¬ R - d ≤ p ∨ ∃ b, R - d ≤ b ∧ b < R ∧ so b < r ∧ best = nI (so b) ∧ b < p) → b_Mod_behind_104 F (nI R) 1024 A 1024 FI 2052 RXr 2052 RYr 1024 OW own last f best (nI r) = some (hdN (canB A OW own) so R d) := by
        intro hno
        unfold b_Mod_behind_104
        rw [nI_1]
        apply nxt
        have new : ∀ i, R - d ≤ i → i < R → so i < r + 1 → ¬ so i < r → i = p := by
          intro i g1 g2 g3 g4
          rcases Nat.lt_trichotomy i p with w | w | w
          · have := O2 i p w hp; rw [show so i = so p by omega] at this; exact absurd this bef_ir
          · exact w
          · have := O2 p i w g2; rw [show so i = so p by omega] at this; exact absurd this bef_ir
        rcases hb with ⟨h1, h2⟩ | ⟨b, h1, h2, h4, h5, h6, h7⟩
        · left
          refine ⟨h1, fun i g1 g2 g3 => ?_⟩
          by_cases w : so i < r
          · exact h2 i g1 g2 w
          · have e := new i g1 g2 g3 w
            rcases hno with z | z | ⟨b, _, hbR, _, z, _⟩
            · rw [e, ep]; exact z
            · rw [e] at g1; exact absurd g1 z
            · rw [h1] at z
              have := O1 b hbR
              exact absurd z.symm (nI_ne1 (by omega))
        · right
          refine ⟨b, h1, h2, by omega, h5, h6, fun i g1 g2 g3 => ?_⟩
          by_cases w : so i < r
          · exact h7 i g1 g2 w
          · have e := new i g1 (by omega) g3 w
            rcases hno with z | z | ⟨b', z1, z2, z3, z4, z5⟩
            · rw [e, ep]; exact z
            · rw [e] at g1; exact absurd g1 z
            · exfalso
              rw [h5] at z4
              have l1 := O1 b h2
              have l2 := O1 b' z2
              have e2 := (nIeq (by omega) (by omega)).mp z4
              rcases Nat.lt_trichotomy b b' with v | v | v
              · have := O2 b b' v z2; rw [e2] at this; exact absurd this bef_ir
              · omega
              · have := O2 b' b v h2; rw [e2] at this; exact absurd this bef_ir
      -- r becomes the best
      have take : canB A OW own r → R - d ≤ p → (best = -1 ∨ ∃ b, b < R ∧ best = nI (so b) ∧ p < b) → b_Mod_behind_101 F (nI R) 1024 A 1024 FI 2052 RXr 2052 RYr 1024 OW own last f (nI r) = some (hdN (canB A OW own) so R d) := by
        intro hcn hpd hbb
        unfold b_Mod_behind_101 b_Mod_behind_104
        rw [nI_1]
        apply nxt
        right
        refine ⟨p, hpd, hp, by omega, by rw [ep], by rw [ep]; exact hcn, fun i g1 g2 g3 => ?_⟩
        have lt' : so i < r := by
          apply Classical.byContradiction
          intro w
          have := O2 i p g2 hp
          rw [show so i = so p by omega] at this
          exact absurd this bef_ir
        rcases hb with ⟨h1, h2⟩ | ⟨b, h1, h2, h4, h5, h6, h7⟩
        · exact h2 i g1 (by omega) lt'
        · rcases hbb with z | ⟨b', z1, z2, z3⟩
          · rw [h5] at z
            have := O1 b h2
            exact absurd z (nI_ne1 (by omega))
          · rw [h5] at z2
            have l1 := O1 b h2
            have l2 := O1 b' z1
            have e2 := (nIeq (by omega) (by omega)).mp z2
            have eb : b = b' := by
              rcases Nat.lt_trichotomy b b' with v | v | v
              · have := O2 b b' v z1; rw [e2] at this; exact absurd this bef_ir
              · exact v
              · have := O2 b' b v h2; rw [e2] at this; exact absurd this bef_ir
            exact h7 i g1 (by omega) lt'
      -- the question of the order
      have ask : canB A OW own r → b_Mod_behind_66 F (nI R) 1024 A 1024 FI 2052 RXr 2052 RYr 1024 OW own last f best (nI r) 1 = some (hdN (canB A OW own) so R d) := by
        intro hcn
        unfold b_Mod_behind_66
        rw [if_neg i10]
        have cmp : R - d ≤ p → b_Mod_behind_87 F (nI R) 1024 A 1024 FI 2052 RXr 2052 RYr 1024 OW own last f best (nI r) = some (hdN (canB A OW own) so R d) := by
          intro hpd
          unfold b_Mod_behind_87
          rcases hb with ⟨h1, h2⟩ | ⟨b, h1, h2, h4, h5, h6, h7⟩
          · rw [if_pos (by rw [h1]; decide)]
            exact take hcn hpd (Or.inl h1)
          · have l1 := O1 b h2
            rw [if_neg (by rw [h5]; exact nI_pos (by omega)), h5, mod_before H K hr1 l1]
            simp only [ob1]
            rw [← h5]
            by_cases w : befP st RX RY r (so b)
            · rw [if_neg (fun z => bI_dB.mp z w)]
              refine take hcn hpd (Or.inr ⟨b, h2, h5, ?_⟩)
              rcases Nat.lt_trichotomy p b with v | v | v
              · exact v
              · rw [← v, ep] at w; exact absurd w bef_ir
              · have := O2 b p v hp; rw [ep] at this; exact absurd (bef_tr w this) bef_ir
            · rw [if_pos (bI_dB.mpr w)]
              refine pass (Or.inr (Or.inr ⟨b, h1, h2, h4, h5, ?_⟩))
              rcases Nat.lt_trichotomy p b with v | v | v
              · have := O2 p b v h2; rw [ep] at this; exact absurd this w
              · rw [← v] at h4; omega
              · exact v
        rcases hl with ⟨z1, z2⟩ | ⟨j, z1, z2, z4⟩
        · rw [if_pos (by rw [z1]; decide)]
          exact cmp (by omega)
        · have lj := O1 j z1
          rw [if_neg (by rw [z2]; exact nI_pos (by omega)), z2, mod_before H K lj hr1]
          simp only [ob1]
          have a := aft p hp
          rw [ep] at a
          by_cases w : befP st RX RY (so j) r
          · rw [if_neg (fun z => bI_dB.mp z w)]
            have hh := cmp (a.mp (Or.inr ⟨so j, lj, z2, w⟩))
            rw [z2] at hh
            exact hh
          · rw [if_pos (bI_dB.mpr w)]
            have hh := pass (Or.inr (Or.inl (fun z => by
              rcases a.mpr z with v | ⟨l, v1, v2, v3⟩
              · rw [z2] at v; exact absurd v (nI_pos (by omega))
              · rw [z2] at v2
                have e := (nIeq (by omega) (by omega)).mp v2
                rw [← e] at v3
                exact w v3)))
            rw [z2] at hh
            exact hh
      have skip : ¬ canB A OW own r → b_Mod_behind_66 F (nI R) 1024 A 1024 FI 2052 RXr 2052 RYr 1024 OW own last f best (nI r) 0 = some (hdN (canB A OW own) so R d) := by
        intro z
        unfold b_Mod_behind_66
        rw [if_pos rfl]
        exact pass (Or.inl z)
      simp only [ixc (show r < 1024 by omega) (by omega), ixf (show r < 1024 by omega) (by omega), ↓reduceIte]
      have k1 := lcg (A r) 0
      have k2 := lcl (A r) 0
      rw [show (0 : Int64).toInt = 0 from rfl] at k1 k2
      have neg : ¬ 0 ≤ own ↔ own < 0 := i32ge0
      unfold b_Mod_behind_65
      by_cases c2 : 0 ≤ own
      · rw [if_pos c2]
        by_cases c3 : 0 ≤ (A r).toInt
        · rw [if_pos (k1.mpr c3)]
          refine skip (fun z => ?_)
          rcases z with z | z
          · exact neg.mpr z.1 c2
          · omega
        · rw [if_neg (fun z => c3 (k1.mp z))]
          by_cases c4 : OW r = own
          · rw [if_pos c4]
            exact ask (Or.inr ⟨c2, by omega, c4⟩)
          · rw [if_neg c4]
            refine skip (fun z => ?_)
            rcases z with z | z
            · exact neg.mpr z.1 c2
            · exact c4 z.2.2
      · rw [if_neg c2]
        by_cases c3 : (A r).toInt ≤ 0
        · rw [if_pos (k2.mpr c3)]
          refine skip (fun z => ?_)
          rcases z with z | z
          · omega
          · exact c2 z.1
        · rw [if_neg (fun z => c3 (k2.mp z))]
          exact ask (Or.inl ⟨neg.mp c2, by omega⟩)) F (0, -1) (by simp only; omega)
  exact key (Nat.zero_le _) (Or.inl ⟨rfl, fun i _ _ h => absurd h (Nat.not_lt_zero _)⟩)
