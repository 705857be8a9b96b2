/-! half B: addWay and addIfBoundary of the class -/
theorem bnd_addWay {m P s e kf kt ka B : Nat} (hB : B ≤ 4096) (hm : m < B) (hP : P ≤ 1000000) (hs : s < P) (wf wt : Nat → Nat) (H A : Nat → Int32) (cf : capO m kf B) (ct : capO m kt B) (ca : capO m ka B) : ∃ c d kf' kt' ka', f_Bnd_addWay (nI s) (nI e) (tab m (fun k => nI (wf k))) kf (tab m (fun k => nI (wt k))) kt (tab P H) (tab m A) ka = some (c, d, tab (m + 1) (fun k => nI (updN wf m s k)), kf', tab (m + 1) (fun k => nI (updN wt m e k)), kt', tab P (upd H s (nI m)), tab (m + 1) (upd A m (H s)), ka') ∧ (capO (m + 1) kf' B ∧ capO (m + 1) kt' B ∧ capO (m + 1) ka' B) ∧ c + (kf + kt + ka) ≤ kf' + kt' + ka' ∧ d + 2 * (kf + kt + ka) = 2 * (kf' + kt' + ka') := by
  obtain ⟨c1, s1, k1, e1, a1, b1, d1⟩ := ra_cap cf hm hB
  obtain ⟨c2, s2, k2, e2, a2, b2, d2⟩ := ra_cap ct hm hB
  obtain ⟨c3, s3, k3, e3, a3, b3, d3⟩ := ra_cap ca hm hB
  unfold f_Bnd_addWay b_Bnd_addWay_0
  rw [tab_len, tab_len, tab_len, e1, e2, e3]
  simp only [ob3, ac, tab_add, upd_updN, tab_len, nI_pred]
  rw [rs_tab _ hs hP, rg_tab hs hP]
  exact ⟨c1 + (c2 + (c3 + 0)), s1 + (s2 + (s3 + 0)), k1, k2, k3, rfl, ⟨d1, d2, d3⟩, by omega, by omega⟩
