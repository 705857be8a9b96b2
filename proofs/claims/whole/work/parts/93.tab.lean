/-! half B: a Row as a table (length, function); a rule for loops; what an add costs -/
def tab (n : Nat) (f : Nat → Int32) : List Int32 := (List.range n).map f
theorem tab_len (n : Nat) (f : Nat → Int32) : (tab n f).length = n := by unfold tab; rw [List.length_map, List.length_range]
theorem tab_getD {n i : Nat} {f : Nat → Int32} (h : i < n) : (tab n f).getD i 0 = f i := by
  unfold tab
  rw [List.getD_eq_getElem?_getD, List.getElem?_map, List.getElem?_range h]
  rfl
theorem tab_q {n i : Nat} {f : Nat → Int32} (h : i < n) : (tab n f)[i]? = some (f i) := by
  unfold tab
  rw [List.getElem?_map, List.getElem?_range h]
  rfl
theorem tab_ext {n : Nat} {f g : Nat → Int32} (h : ∀ i, i < n → f i = g i) : tab n f = tab n g := by
  unfold tab
  exact List.map_congr_left (fun i hi => h i (List.mem_range.mp hi))
theorem tab_add (n : Nat) (f : Nat → Int32) (x : Int32) : tab n f ++ [x] = tab (n + 1) (upd f n x) := by
  unfold tab
  rw [List.range_succ, List.map_append]
  congr 1
  · exact List.map_congr_left (fun i hi => (pk_un (by have := List.mem_range.mp hi; omega)).symm)
  · rw [List.map_singleton, pk_us]
theorem tab_nil (f : Nat → Int32) : tab 0 f = [] := rfl
theorem rg_tab {n i : Nat} {f : Nat → Int32} (h : i < n) (hn : n ≤ 1000000) : rg (tab n f) (nI i) = f i := by
  unfold rg
  rw [tab_len, if_neg (nI_pos (by omega)), if_neg (nI_ge h (by omega)), nI_clamp (by omega), tab_getD h]
theorem rg_neg (l : List Int32) : rg l (-1) = -1 := by
  unfold rg
  rw [if_pos (by decide)]
theorem rg_out {n i : Nat} {f : Nat → Int32} (h : n ≤ i) (hn : i ≤ 1000000) : rg (tab n f) (nI i) = -1 := by
  unfold rg
  rw [tab_len, if_neg (nI_pos (by omega)), if_pos (nI_le h (by omega))]
theorem rs_tab {n i : Nat} {f : Nat → Int32} (x : Int32) (h : i < n) (hn : n ≤ 1000000) : rs (tab n f) (nI i) x = tab n (upd f i x) := by
  unfold rs
  rw [tab_len, if_neg (nI_pos (by omega)), if_neg (nI_ge h (by omega)), nI_clamp (by omega)]
  apply List.ext_getElem?
  intro j
  rw [List.getElem?_set, tab_len]
  by_cases hj : i = j
  · subst hj
    rw [if_pos rfl, if_pos h, tab_q h, pk_us]
  · rw [if_neg hj]
    by_cases hjn : j < n
    · rw [tab_q hjn, tab_q hjn, pk_un (fun z => hj z.symm)]
    · rw [List.getElem?_eq_none (by rw [tab_len]; omega), List.getElem?_eq_none (by rw [tab_len]; omega)]
theorem rsh_tab {n m : Nat} {f : Nat → Int32} (h : m ≤ n) (hn : n ≤ 1000000) : rsh (tab n f) (nI m) = tab m f := by
  unfold rsh
  rw [tab_len, if_neg (nI_pos (by omega))]
  by_cases hm : m = n
  · rw [if_pos (nI_le (by omega) (by omega)), hm]
  · rw [if_neg (nI_ge (by omega) (by omega)), nI_clamp (by omega)]
    unfold tab
    rw [← List.map_take, List.take_range, Nat.min_eq_left h]
/-- the rule for loops: what the loop's function does at a state out of what it does at states of a lesser measure -/
theorem lp_inv {γ ι : Type} (z : γ) (body : γ → γ) (m : ι → Nat) (Q : γ → ι → Prop) (h : ∀ i r, (∀ j, m j < m i → Q r j) → Q (body r) i) : ∀ F i, m i < F → Q (lp z body F) i := by
  intro F
  induction F with
  | zero => intro i hi; exact absurd hi (Nat.not_lt_zero _)
  | succ F ih =>
    intro i hi
    exact h i (lp z body F) (fun j hj => ih j (by omega))
/-- a loop that counts from i up to n -/
theorem lp_up {β : Type} (z : Int32 → β) (body : (Int32 → β) → Int32 → β) (n : Nat) (Q : Nat → β → Prop) (h : ∀ i r, i ≤ n → (i < n → Q (i + 1) (r (nI (i + 1)))) → Q i (body r (nI i))) {F i : Nat} (hi : i ≤ n) (hF : n < F) : Q i (lp z body F (nI i)) := by
  have k := lp_inv z body (fun i : Nat => n - i) (fun r i => i ≤ n → Q i (r (nI i))) (fun i r hr hi => h i r hi (fun hl => hr (i + 1) (by omega) (by omega))) F i (by omega)
  exact k hi
/-- an add: its costs against the capacity -/
theorem ra_ok {n k B : Nat} (h1 : n ≤ k) (h2 : 16 ≤ k) (h3 : n < B) (h4 : k ≤ 2 * B) (hB : B ≤ 4096) : ∃ c s k', ra n k = some (c, s, k') ∧ c + k ≤ k' ∧ s + 2 * k = 2 * k' ∧ k' ≤ 2 * B ∧ n + 1 ≤ k' := by
  unfold ra
  by_cases h : n < k
  · exact ⟨0, 0, k, by rw [if_pos h], by omega, by omega, h4, by omega⟩
  · exact ⟨1, 2 * k, 2 * k, by rw [if_neg h, if_pos (by omega)], by omega, by omega, by omega, by omega⟩
