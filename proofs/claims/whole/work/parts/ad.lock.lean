/-! half B: the walk of the class and the reference's go, step by step -/
def orbN (nx : Nat → Nat) (s : Nat) : Nat → Nat
  | 0 => s
  | i + 1 => nx (orbN nx s i)
theorem nar1 : vp_nar .boolean (1 : Int32) = 1 := by decide
noncomputable def cgn (n : Nat) (W GR : Nat → Int32) : Nat := cntP (fun e => W e ≠ 0 ∧ GR e ≠ 0) n
/-- gone: by ways in the class, by pieces in the reference -/
def gnR (n : Nat) (W GC GR : Nat → Int32) : Prop := ∀ e, e < n → W e ≠ 0 → (GC (wn W e) = 0 ↔ GR e = 0)
def uOk (n : Nat) (W GR : Nat → Int32) (U : Nat → Prop) : Prop := ∀ e, U e → e < n ∧ W e ≠ 0 ∧ GR e ≠ 0
theorem gnR_s {n k : Nat} {W GC GR : Nat → Int32} (wk : W k ≠ 0) (h : gnR n W GC GR) : gnR n W (upd GC (wn W k) 1) (upd GR k 1) := by
  intro e he we
  by_cases c : e = k
  · subst c; rw [pk_us, pk_us]
  · rw [pk_un c, pk_un (fun z => c (wn_inj we wk z))]; exact h e he we
theorem cgn_s {n k : Nat} {W GR : Nat → Int32} (hk : k < n) (wk : W k ≠ 0) (h0 : GR k = 0) : cgn n W (upd GR k 1) = cgn n W GR + 1 := by
  refine cnt_one hk (fun f hf hfk => ?_) ⟨wk, by rw [pk_us]; decide⟩ (fun z => z.2 h0)
  rw [pk_un hfk]
theorem cgn_lt {n k : Nat} {W GR : Nat → Int32} (hk : k < n) (wk : W k ≠ 0) (h0 : GR k = 0) : cgn n W GR < wn W n :=
  cnt_lt (g := k) (fun f _ z => z.1) hk wk (fun z => z.2 h0)
/-- the state of a walk from s0, after j steps, at way k -/
def WSt (n P : Nat) (ax ay bx b_y X Y W : Nat → Int32) (fr to nx : Nat → Nat) (s0 : Nat) (G0 : Nat → Prop) (j k T : Nat) (q κ : Nat → Nat) (VX VY L GC GR : Nat → Int32) (R : Nat) (st : Nat → Nat) (RX RY FI SZ RXr RYr : Nat → Int32) (AR : Nat → Int64) (fp : Nat → Nat) (U : Nat → Prop) : Prop :=
  (k < n ∧ W k ≠ 0 ∧ k = orbN nx s0 j) ∧ pathI n P T X Y W fr to q κ k s0 VX VY L ∧ gnR n W GC GR ∧ RIs n ax ay bx b_y W R st RX RY FI SZ RXr RYr AR fp U ∧ uOk n W GR U ∧ (∀ i, i < T → ¬ U (κ i) ∧ W (κ i) ≠ 0 ∧ GR (κ i) ≠ 0) ∧ st R + T ≤ cgn n W GR ∧ j ≤ cgn n W GR ∧ (∀ e, e < n → W e ≠ 0 → (GR e ≠ 0 ↔ (G0 e ∨ ∃ i, i < j ∧ orbN nx s0 i = e))) ∧ (∀ i i', i < j → i' < j → orbN nx s0 i = orbN nx s0 i' → i = i')
theorem orb_ok {n s0 : Nat} {ax ay bx b_y W : Nat → Int32} {nx : Nat → Nat} (NX : NXs n ax ay bx b_y W nx) (h0 : s0 < n) (w0 : W s0 ≠ 0) : ∀ i, orbN nx s0 i < n ∧ W (orbN nx s0 i) ≠ 0 := by
  intro i
  induction i with
  | zero => exact ⟨h0, w0⟩
  | succ i ih =>
    obtain ⟨a1, _, a3, _⟩ := NX _ ih.1 ih.2
    exact ⟨a1, a3⟩
/-- the only gone way that a walk comes to is its first -/
theorem orb_gone {n s0 j : Nat} {ax ay bx b_y W GR : Nat → Int32} {nx : Nat → Nat} {G0 : Nat → Prop} (I1 : pcs n ax ay bx b_y) (I2 : apt n ax ay bx b_y) (NX : NXs n ax ay bx b_y W nx) (h0 : s0 < n) (w0 : W s0 ≠ 0) (g0 : ¬ G0 s0) (gc : ∀ e, e < n → W e ≠ 0 → G0 (nx e) → G0 e) (hg : ∀ e, e < n → W e ≠ 0 → (GR e ≠ 0 ↔ (G0 e ∨ ∃ i, i < j ∧ orbN nx s0 i = e))) (hd : ∀ i i', i < j → i' < j → orbN nx s0 i = orbN nx s0 i' → i = i') (h : GR (orbN nx s0 j) ≠ 0) : 0 < j ∧ orbN nx s0 j = s0 := by
  have ok := orb_ok NX h0 w0
  rcases (hg _ (ok j).1 (ok j).2).mp h with z | ⟨i, hi, z⟩
  · exfalso
    have back : ∀ i, G0 (orbN nx s0 i) → G0 s0 := by
      intro i
      induction i with
      | zero => intro z; exact z
      | succ i ih => intro z; exact ih (gc _ (ok i).1 (ok i).2 z)
    exact g0 (back j z)
  · refine ⟨by omega, ?_⟩
    by_cases c : i = 0
    · rw [c] at z; exact z.symm
    · exfalso
      have e1 : orbN nx s0 i = nx (orbN nx s0 (i - 1)) := by
        have : orbN nx s0 (i - 1 + 1) = nx (orbN nx s0 (i - 1)) := rfl
        rw [show i - 1 + 1 = i by omega] at this; exact this
      have e2 : orbN nx s0 j = nx (orbN nx s0 (j - 1)) := by
        have : orbN nx s0 (j - 1 + 1) = nx (orbN nx s0 (j - 1)) := rfl
        rw [show j - 1 + 1 = j by omega] at this; exact this
      rw [e1, e2] at z
      have := nx_inj I1 I2 NX (ok _).1 (ok _).1 (ok _).2 (ok _).2 z
      have := hd (i - 1) (j - 1) (by omega) (by omega) this
      omega
/-- way k is gone, the next one is at hand: what stays of the state -/
theorem WS_gone {n s0 j k : Nat} {ax ay bx b_y W GR : Nat → Int32} {nx : Nat → Nat} {G0 : Nat → Prop} (NX : NXs n ax ay bx b_y W nx) (hk : k < n) (wk : W k ≠ 0) (ko : k = orbN nx s0 j) (hg : ∀ e, e < n → W e ≠ 0 → (GR e ≠ 0 ↔ (G0 e ∨ ∃ i, i < j ∧ orbN nx s0 i = e))) (hd : ∀ i i', i < j → i' < j → orbN nx s0 i = orbN nx s0 i' → i = i') (h0 : GR k = 0) : (nx k < n ∧ W (nx k) ≠ 0 ∧ nx k = orbN nx s0 (j + 1)) ∧ (∀ e, e < n → W e ≠ 0 → (upd GR k 1 e ≠ 0 ↔ (G0 e ∨ ∃ i, i < j + 1 ∧ orbN nx s0 i = e))) ∧ (∀ i i', i < j + 1 → i' < j + 1 → orbN nx s0 i = orbN nx s0 i' → i = i') := by
  obtain ⟨a1, _, a3, _⟩ := NX k hk wk
  refine ⟨⟨a1, a3, by rw [ko]; rfl⟩, ?_, ?_⟩
  · intro e he we
    by_cases c : e = k
    · rw [c, pk_us]
      exact ⟨fun _ => Or.inr ⟨j, by omega, ko.symm⟩, fun _ => by decide⟩
    · rw [pk_un c, hg e he we]
      constructor
      · rintro (z | ⟨i, hi, z⟩)
        · exact Or.inl z
        · exact Or.inr ⟨i, by omega, z⟩
      · rintro (z | ⟨i, hi, z⟩)
        · exact Or.inl z
        · refine Or.inr ⟨i, ?_, z⟩
          by_cases d : i = j
          · rw [d, ← ko] at z; exact absurd z.symm c
          · omega
  · have nk : ∀ i, i < j → orbN nx s0 i ≠ orbN nx s0 j := by
      intro i hi z
      rw [← ko] at z
      exact absurd h0 ((hg k hk wk).mpr (Or.inr ⟨i, hi, z⟩))
    intro i i' hi hi' z
    by_cases c : i = j
    · by_cases d : i' = j
      · omega
      · rw [c] at z; exact absurd z.symm (nk i' (by omega))
    · by_cases d : i' = j
      · rw [d] at z; exact absurd z (nk i (by omega))
      · exact hd i i' (by omega) (by omega) z
