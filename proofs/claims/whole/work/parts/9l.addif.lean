/-! half B: addIfBoundary of the class -/
/-- where way number m starts and ends, if piece k becomes it -/
noncomputable def wS (w : Int32) (n : Nat) (ax ay bx b_y mk : Nat → Int32) (fr to : Nat → Nat) (k : Nat) : Nat := if dB (wyM w n ax ay bx b_y mk k = 1) = true then fr k else to k
noncomputable def wE (w : Int32) (n : Nat) (ax ay bx b_y mk : Nat → Int32) (fr to : Nat → Nat) (k : Nat) : Nat := if dB (wyM w n ax ay bx b_y mk k = 1) = true then to k else fr k
theorem bnd_addIf {n P F k m kf kt ka : Nat} {ax ay bx b_y mk X Y O : Nat → Int32} {fr to : Nat → Nat} {w : Int32} (I : netI n P ax ay bx b_y mk X Y O fr to) (hn : n ≤ 2000) (hP : P ≤ 2 * n) (hF : 5000 ≤ F) (hw : w04 w) (hk : k < n) (hm : m < 4096) (wf wt : Nat → Nat) (H A : Nat → Int32) (cf : capO m kf 4096) (ct : capO m kt 4096) (ca : capO m ka 4096) : ∃ c d m' kf' kt' ka' wf' wt' H' A', f_Bnd_addIfBoundary F (tab n (fun k => nI (fr k))) (tab n (fun k => nI (to k))) (tab P X) (tab P Y) (tab n mk) (nI k) w (tab m (fun k => nI (wf k))) kf (tab m (fun k => nI (wt k))) kt (tab P H) (tab m A) ka = some (c, d, tab m' (fun k => nI (wf' k)), kf', tab m' (fun k => nI (wt' k)), kt', tab P H', tab m' A', ka') ∧ ((wyM w n ax ay bx b_y mk k = 0 ∧ m' = m ∧ wf' = wf ∧ wt' = wt ∧ H' = H ∧ A' = A) ∨ (¬ wyM w n ax ay bx b_y mk k = 0 ∧ m' = m + 1 ∧ wf' = updN wf m (wS w n ax ay bx b_y mk fr to k) ∧ wt' = updN wt m (wE w n ax ay bx b_y mk fr to k) ∧ H' = upd H (wS w n ax ay bx b_y mk fr to k) (nI m) ∧ A' = upd A m (H (wS w n ax ay bx b_y mk fr to k)))) ∧ (capO m' kf' 4096 ∧ capO m' kt' 4096 ∧ capO m' ka' 4096) ∧ c + (kf + kt + ka) ≤ kf' + kt' + ka' ∧ d + 2 * (kf + kt + ka) = 2 * (kf' + kt' + ka') := by
  have I1 := I.1
  have I2 := I.2.1
  have I3 := I.2.2.1
  obtain ⟨⟨l1, l2⟩, _⟩ := I.2.2.2.1 k hk
  have rf : rg (tab n (fun k => nI (fr k))) (nI k) = nI (fr k) := rg_tab (f := fun k => nI (fr k)) hk (by omega)
  have rt : rg (tab n (fun k => nI (to k))) (nI k) = nI (to k) := rg_tab (f := fun k => nI (to k)) hk (by omega)
  have hlf := m03_lf (ax := ax) (ay := ay) (bx := bx) (b_y := b_y) I3 hk
  unfold f_Bnd_addIfBoundary b_Bnd_addIfBoundary_0
  rw [net_left I hn hP hF hk, in_same I1 I2 hk]
  have fold : inM n ax ay bx b_y mk k ^^^ mAt ((ay k).toInt < (b_y k).toInt) (mk k) = lfM n ax ay bx b_y mk k := rfl
  rw [fold]
  simp only [ob1]
  rw [rg_tab hk (by omega), (res_B hw hlf).2, (res_B hw (m03_x hlf (I3 k hk))).2]
  simp only [ob1]
  have hwy : wyM w n ax ay bx b_y mk k = wOf (resB w (lfM n ax ay bx b_y mk k)) (resB w (lfM n ax ay bx b_y mk k ^^^ mk k)) := rfl
  unfold b_Bnd_addIfBoundary_69
  rw [rf, rt]
  generalize resB w (lfM n ax ay bx b_y mk k) = L at *
  generalize resB w (lfM n ax ay bx b_y mk k ^^^ mk k) = R at *
  have same : wyM w n ax ay bx b_y mk k = 0 → ∃ c d m' kf' kt' ka' wf' wt' H' A', (some (0, 0, tab m (fun k => nI (wf k)), kf, tab m (fun k => nI (wt k)), kt, tab P H, tab m A, ka) : Option (Nat × Nat × List Int32 × Nat × List Int32 × Nat × List Int32 × List Int32 × Nat)) = some (c, d, tab m' (fun k => nI (wf' k)), kf', tab m' (fun k => nI (wt' k)), kt', tab P H', tab m' A', ka') ∧ ((wyM w n ax ay bx b_y mk k = 0 ∧ m' = m ∧ wf' = wf ∧ wt' = wt ∧ H' = H ∧ A' = A) ∨ (¬ wyM w n ax ay bx b_y mk k = 0 ∧ m' = m + 1 ∧ wf' = updN wf m (wS w n ax ay bx b_y mk fr to k) ∧ wt' = updN wt m (wE w n ax ay bx b_y mk fr to k) ∧ H' = upd H (wS w n ax ay bx b_y mk fr to k) (nI m) ∧ A' = upd A m (H (wS w n ax ay bx b_y mk fr to k)))) ∧ (capO m' kf' 4096 ∧ capO m' kt' 4096 ∧ capO m' ka' 4096) ∧ c + (kf + kt + ka) ≤ kf' + kt' + ka' ∧ d + 2 * (kf + kt + ka) = 2 * (kf' + kt' + ka') := fun z => ⟨0, 0, m, kf, kt, ka, wf, wt, H, A, rfl, Or.inl ⟨z, rfl, rfl, rfl, rfl, rfl⟩, ⟨cf, ct, ca⟩, by omega, by omega⟩
  cases L <;> cases R
  · exact same hwy
  · have e1 : wS w n ax ay bx b_y mk fr to k = to k := if_neg (fun z => by have := dB_i.mp z; rw [hwy] at this; exact absurd this (by decide))
    have e2 : wE w n ax ay bx b_y mk fr to k = fr k := if_neg (fun z => by have := dB_i.mp z; rw [hwy] at this; exact absurd this (by decide))
    obtain ⟨c, d, kf', kt', ka', e, cc, h1, h2⟩ := bnd_addWay (e := fr k) (P := P) (by omega) hm (by omega) l2 wf wt H A cf ct ca
    rw [e, e1, e2]
    exact ⟨c + 0, d + 0, m + 1, kf', kt', ka', _, _, _, _, rfl, Or.inr ⟨by rw [hwy]; decide, rfl, rfl, rfl, rfl, rfl⟩, cc, by omega, by omega⟩
  · have e1 : wS w n ax ay bx b_y mk fr to k = fr k := if_pos (dB_t (by rw [hwy]; decide))
    have e2 : wE w n ax ay bx b_y mk fr to k = to k := if_pos (dB_t (by rw [hwy]; decide))
    obtain ⟨c, d, kf', kt', ka', e, cc, h1, h2⟩ := bnd_addWay (e := to k) (P := P) (by omega) hm (by omega) l1 wf wt H A cf ct ca
    rw [e, e1, e2]
    exact ⟨c + 0, d + 0, m + 1, kf', kt', ka', _, _, _, _, rfl, Or.inr ⟨by rw [hwy]; decide, rfl, rfl, rfl, rfl, rfl⟩, cc, by omega, by omega⟩
  · exact same hwy
