/-! Row by lists; Arrays.copyOf; Row.add (by hand) -/
theorem dc_mono {l : Launch} {y : MethodName} {ws : List Cond} {rm : Room} {Pc : Array Value → State → Prop} {Qc Qc' : Array Value → State → Outcome → State → Prop} {mc ms : Nat} {free : Addr → Prop} (h : Met l y ws rm Pc Qc mc ms free) (hq : ∀ a s o t, Qc a s o t → Qc' a s o t) : Met l y ws rm Pc Qc' mc ms free := by
  intro p e ha hc hk s m args below h1 h2 h3 h4
  obtain ⟨n, o, a1, a2, a3, a4, a5⟩ := h p e ha hc hk s m args below h1 h2 h3 h4
  exact ⟨n, o, a1, a2, a3, hq _ _ _ _ a4, a5⟩
theorem rowOk.lt {l : List Int32} {k : Nat} {f : Nat → Int32} (h : rowOk l k f) : l.length < 2 ^ 31 := by
  have h1 := h.1
  have h2 := h.2.2.1
  omega
theorem rg_of {l : List Int32} {k : Nat} {f : Nat → Int32} (h : rowOk l k f) (i : Int32) : f_RowR_get (nI l.length) k f i = some (rg l i) := by
  have hlt := h.lt
  have hk := h.1
  unfold f_RowR_get b_RowR_get_0 rg
  rcases pk_ix i hlt with h1 | h1 | ⟨j, hj, rfl⟩
  · rw [if_pos h1, if_pos h1]
  · by_cases h0 : i < 0
    · rw [if_pos h0, if_pos h0]
    · rw [if_neg h0, if_pos h1, if_neg h0, if_pos h1]
  · have h0 : ¬ nI j < 0 := nI_pos (by omega)
    have h1 : ¬ nI l.length ≤ nI j := nI_ge hj hlt
    have hc : (nI j).toNatClampNeg = j := nI_clamp (by omega)
    rw [if_neg h0, if_neg h1, if_neg h0, if_neg h1, hc, if_neg (by intro z; rcases z with z | z; exact h0 z; omega), h.2.2.2 j hj]
theorem rs_len (l : List Int32) (i x : Int32) : (rs l i x).length = l.length := by
  unfold rs
  split
  · rfl
  · split
    · rfl
    · simp
theorem rs_of {l : List Int32} {k : Nat} {f : Nat → Int32} (h : rowOk l k f) (i x : Int32) : ∃ g, f_RowR_set (nI l.length) k i x f = some g ∧ rowOk (rs l i x) k g := by
  have hlt := h.lt
  have hk := h.1
  unfold f_RowR_set b_RowR_set_0 rs
  rcases pk_ix i hlt with h1 | h1 | ⟨j, hj, rfl⟩
  · exact ⟨f, by rw [if_pos h1], by rw [if_pos h1]; exact h⟩
  · by_cases h0 : i < 0
    · exact ⟨f, by rw [if_pos h0], by rw [if_pos h0]; exact h⟩
    · exact ⟨f, by rw [if_neg h0, if_pos h1], by rw [if_neg h0, if_pos h1]; exact h⟩
  · have h0 : ¬ nI j < 0 := nI_pos (by omega)
    have h1 : ¬ nI l.length ≤ nI j := nI_ge hj hlt
    have hc : (nI j).toNatClampNeg = j := nI_clamp (by omega)
    refine ⟨upd f j x, by rw [if_neg h0, if_neg h1, hc, if_neg (by intro z; rcases z with z | z; exact h0 z; omega)], ?_⟩
    rw [if_neg h0, if_neg h1, hc]
    refine ⟨by simpa using h.1, h.2.1, h.2.2.1, fun i hi => ?_⟩
    rw [List.length_set] at hi
    by_cases e : i = j
    · subst e
      rw [pk_us]
      simp [List.getD, hj]
    · rw [pk_un e, h.2.2.2 i hi]
      simp [List.getD, List.getElem?_set, Ne.symm e]
theorem rsh_of {l : List Int32} {k : Nat} {f : Nat → Int32} (h : rowOk l k f) (n : Int32) : f_RowR_shorten k f n (nI l.length) = some (nI (rsh l n).length) ∧ rowOk (rsh l n) k f := by
  have hlt := h.lt
  unfold f_RowR_shorten b_RowR_shorten_0 rsh
  rcases pk_ix n hlt with h1 | h1 | ⟨j, hj, rfl⟩
  · exact ⟨by rw [if_pos h1, if_pos h1], by rw [if_pos h1]; exact h⟩
  · by_cases h0 : n < 0
    · exact ⟨by rw [if_pos h0, if_pos h0], by rw [if_pos h0]; exact h⟩
    · exact ⟨by rw [if_neg h0, if_pos h1, if_neg h0, if_pos h1], by rw [if_neg h0, if_pos h1]; exact h⟩
  · have h0 : ¬ nI j < 0 := nI_pos (by omega)
    have h1 : ¬ nI l.length ≤ nI j := nI_ge hj hlt
    have hc : (nI j).toNatClampNeg = j := nI_clamp (by omega)
    have hm : (l.take j).length = j := by rw [List.length_take]; omega
    refine ⟨by rw [if_neg h0, if_neg h1, if_neg h0, if_neg h1, hc, hm], ?_⟩
    rw [if_neg h0, if_neg h1, hc]
    refine ⟨by rw [hm]; have := h.1; omega, h.2.1, h.2.2.1, fun i hi => ?_⟩
    rw [hm] at hi
    rw [h.2.2.2 i (by omega)]
    simp [List.getD, List.getElem?_take, hi]
abbrev rowC (cI : dcG) (a q : Nat) (lst : List Int32) (k : Nat) (f : Nat → Int32) : va_W := [(a, .inr (0, [.ref q, .int (nI lst.length)])), (q, .inl (cI.1, k, .inl f))]
theorem c_Row_get (l : Launch) (dC : Nat → ClassId) (dI : Nat → Nat → Nat) (cI : dcG) (a : Nat) (lst : List Int32) (k q : Nat) (f : Nat → Int32) (h : rowOk lst k f) (i : Int32) (sz : Nat) : Met l y_Row_get w_Row_get { frames := 0, cells := 0, slots := 0, locals := 0 } (dc_Pre (dC, dI) (dcT cI) [(a, .inr (0, [.ref q, .int (nI lst.length)])), (q, .inl (cI.1, k, .inl f))] sz [.ref a, .int i]) (dc_Q (dC, dI) (some (.int (rg lst i))) (fun _ : Unit => True) (fun _ => [(a, .inr (0, [.ref q, .int (nI lst.length)])), (q, .inl (cI.1, k, .inl f))]) (va_A [(a, .inr (0, [.ref q, .int (nI lst.length)])), (q, .inl (cI.1, k, .inl f))] sz)) 0 0 (va_A [(a, .inr (0, [.ref q, .int (nI lst.length)])), (q, .inl (cI.1, k, .inl f))] sz) :=
  c_RowR_get l dC dI cI a (nI lst.length) q k f i (rg lst i) sz (rg_of h i)
theorem c_Row_set (l : Launch) (dC : Nat → ClassId) (dI : Nat → Nat → Nat) (cI : dcG) (a : Nat) (lst : List Int32) (k q : Nat) (f : Nat → Int32) (h : rowOk lst k f) (i v : Int32) (sz : Nat) : Met l y_Row_set w_Row_set { frames := 0, cells := 0, slots := 0, locals := 0 } (dc_Pre (dC, dI) (dcT cI) [(a, .inr (0, [.ref q, .int (nI lst.length)])), (q, .inl (cI.1, k, .inl f))] sz [.ref a, .int i, .int v]) (dc_Q (dC, dI) none (fun x : (Nat × (Nat → Int32)) × Unit => rowOk (rs lst i v) k x.1.2 ∧ True) (fun x => [(a, .inr (0, [.ref x.1.1, .int (nI (rs lst i v).length)])), (x.1.1, .inl (cI.1, k, .inl x.1.2))]) (va_A [(a, .inr (0, [.ref q, .int (nI lst.length)])), (q, .inl (cI.1, k, .inl f))] sz)) 0 0 (va_A [(a, .inr (0, [.ref q, .int (nI lst.length)])), (q, .inl (cI.1, k, .inl f))] sz) := by
  obtain ⟨g, hg, hok⟩ := rs_of h i v
  refine dc_mono (c_RowR_set l dC dI cI a (nI lst.length) q k f i v g sz hg) (fun _ s o t hq => ?_)
  obtain ⟨⟨h1, _, _, h2, h3⟩, h4⟩ := hq
  exact ⟨⟨h1, ((q, g), ()), ⟨hok, trivial⟩, by rw [rs_len]; exact h2, by rw [rs_len]; exact h3⟩, h4⟩
theorem c_Row_empty (l : Launch) (dC : Nat → ClassId) (dI : Nat → Nat → Nat) (cI : dcG) (a : Nat) (lst : List Int32) (k q : Nat) (f : Nat → Int32) (h : rowOk lst k f) (sz : Nat) : Met l y_Row_empty w_Row_empty { frames := 0, cells := 0, slots := 0, locals := 0 } (dc_Pre (dC, dI) (dcT cI) [(a, .inr (0, [.ref q, .int (nI lst.length)])), (q, .inl (cI.1, k, .inl f))] sz [.ref a]) (dc_Q (dC, dI) none (fun x : (Nat × (Nat → Int32)) × Unit => rowOk ([] : List Int32) k x.1.2 ∧ True) (fun x => [(a, .inr (0, [.ref x.1.1, .int (nI ([] : List Int32).length)])), (x.1.1, .inl (cI.1, k, .inl x.1.2))]) (va_A [(a, .inr (0, [.ref q, .int (nI lst.length)])), (q, .inl (cI.1, k, .inl f))] sz)) 0 0 (va_A [(a, .inr (0, [.ref q, .int (nI lst.length)])), (q, .inl (cI.1, k, .inl f))] sz) := by
  refine dc_mono (c_RowR_empty l dC dI cI a (nI lst.length) q k f 0 sz rfl) (fun _ s o t hq => ?_)
  obtain ⟨⟨h1, _, _, h2, h3⟩, h4⟩ := hq
  exact ⟨⟨h1, ((q, f), ()), ⟨⟨Nat.zero_le _, h.2.1, h.2.2.1, fun i hi => absurd hi (Nat.not_lt_zero i)⟩, trivial⟩, h2, h3⟩, h4⟩
theorem c_Row_shorten (l : Launch) (dC : Nat → ClassId) (dI : Nat → Nat → Nat) (cI : dcG) (a : Nat) (lst : List Int32) (k q : Nat) (f : Nat → Int32) (h : rowOk lst k f) (n : Int32) (sz : Nat) : Met l y_Row_shorten w_Row_shorten { frames := 0, cells := 0, slots := 0, locals := 0 } (dc_Pre (dC, dI) (dcT cI) [(a, .inr (0, [.ref q, .int (nI lst.length)])), (q, .inl (cI.1, k, .inl f))] sz [.ref a, .int n]) (dc_Q (dC, dI) none (fun x : (Nat × (Nat → Int32)) × Unit => rowOk (rsh lst n) k x.1.2 ∧ True) (fun x => [(a, .inr (0, [.ref x.1.1, .int (nI (rsh lst n).length)])), (x.1.1, .inl (cI.1, k, .inl x.1.2))]) (va_A [(a, .inr (0, [.ref q, .int (nI lst.length)])), (q, .inl (cI.1, k, .inl f))] sz)) 0 0 (va_A [(a, .inr (0, [.ref q, .int (nI lst.length)])), (q, .inl (cI.1, k, .inl f))] sz) := by
  obtain ⟨hg, hok⟩ := rsh_of h n
  refine dc_mono (c_RowR_shorten l dC dI cI a (nI lst.length) q k f n (nI (rsh lst n).length) sz hg) (fun _ s o t hq => ?_)
  obtain ⟨⟨h1, _, _, h2, h3⟩, h4⟩ := hq
  exact ⟨⟨h1, ((q, f), ()), ⟨hok, trivial⟩, h2, h3⟩, h4⟩
set_option maxHeartbeats 4000000 in
set_option maxRecDepth 100000 in
/-- Arrays.copyOf of an int array, to a longer one -/
theorem c_copyOf (l : Launch) (dC : Nat → ClassId) (dI : Nat → Nat → Nat) (cI : dcG) (q k : Nat) (f : Nat → Int32) (n2 : Nat) (hlt : k < n2) (hn2 : n2 ≤ 1048576) (sz : Nat) : Met l y_Arrays_copyOf w_Arrays_copyOf { frames := 1, cells := 1, slots := n2, locals := 40 } (dc_Pre (dC, dI) (dcT cI) [(q, .inl (cI.1, k, .inl f))] sz [.ref q, .int (nI n2)]) (va_Qr (fun g : Nat → Int32 => ∀ i, i < k → g i = f i) (fun g a t => va_P (dC, dI) vwCl [(q, .inl (cI.1, k, .inl f)), (a, .inl (cI.1, n2, .inl g))] t.heap ∧ va_D (va_A [(q, .inl (cI.1, k, .inl f))] sz) [(q, .inl (cI.1, k, .inl f)), (a, .inl (cI.1, n2, .inl g))]) (va_A [(q, .inl (cI.1, k, .inl f))] sz)) 1 n2 (va_A [(q, .inl (cI.1, k, .inl f))] sz) := by
  refine Met.ofW (cc := prog_22_method_123_code) (maxL := 3) (ret := (some (.array .int))) (by decide) rfl ?_
  intro p e s m args below meth c s₁ B hml hv
  obtain ⟨rfl, hsz, hP, hK, hD0, hN⟩ := hv
  have hx := B.exec
  have hb := B.bytes
  have hr := B.returns
  have hlocks := B.notSynchronized
  have hown : s.vm.findClass R_Arrays = some m.cls := findClass_of_methodNamed B.named
  have hts : ∀ w ∈ dcW, w.before [.ref q, .int (nI n2)].toArray s = true := fun w h => atoms_spec (ws := w_Arrays_copyOf) B.pre w (List.mem_cons_of_mem _ h)
  subst hsz
  have hD := hD0.self (sz := s.heap.size)
  generalize hAe : va_A [(q, .inl (cI.1, k, .inl f))] s.heap.size = A at hD ⊢
  have hA : ∀ q : Nat, s.heap.size ≤ q → A q := fun q h => by rw [← hAe]; exact Or.inr h
  have hS : va_S A s.heap s.heap [] := va_S.rf
  have hl := lv_entry ([.ref q, .int (nI n2)]) (n := 3) (Nat.le_of_ble_eq_true rfl)
  rw [lg_entry_eq]
  generalize (lg_sl ([.ref q, .int (nI n2)]) ++ List.replicate (3 - (lg_sl ([.ref q, .int (nI n2)])).length) Slot.unset).toArray = ls at hl ⊢
  have hl : lv_has ls 3 [(0, .ref q), (1, .int (nI n2))] := hl
  refine lv_iload_n hx hb d_Arrays_copyOf_0 rfl (lv_at hl 1 rfl) ?_
  refine lv_aload_n hx hb d_Arrays_copyOf_1 rfl (lv_at hl 0 rfl) ?_
  refine va_alen hx hb hK hP 0 0 rfl rfl (v := nI k) rfl d_Arrays_copyOf_2 ?_
  refine lv_icmp_ne (tgt := 14) hx hb d_Arrays_copyOf_3 (by decide) (fun c1 => ?_) (fun c1 => ?_)
  · refine lv_iload_n hx hb d_Arrays_copyOf_14 rfl (lv_at hl 1 rfl) ?_
    refine va_newa (atype := .int) hx hb (hts _ wm_52) rfl hK hP hD hS hA (a0 := (n2, .inl (fun _ => 0))) (N' := n2) (fun _ => rfl) (nI_pos (by omega)) (nI_clamp (by omega)) (by show n2 * 4 ≤ 536870912; omega) (by show 0 + 1 ≤ 1; omega) (by show 0 + n2 ≤ n2; omega) d_Arrays_copyOf_15 (fun q2 cA H hK2 hP hD hS => ?_)
    have e1 : s.vm.findClass ("[" ++ FieldType.int.toString) = some cI.1 := (hK.2 0 _ rfl).2
    have e2 : s.vm.findClass ("[" ++ FieldType.int.toString) = some cA := (hK2.2 3 _ rfl).2
    have e3 : cA = cI.1 := Option.some.inj (e2.symm.trans e1)
    subst e3
    have hP : va_P (dC, dI) vwCl [(q, .inl (cI.1, k, .inl f)), (q2, .inl (cI.1, n2, .inl (fun _ => 0)))] H := hP
    have hD : va_D A [(q, .inl (cI.1, k, .inl f)), (q2, .inl (cI.1, n2, .inl (fun _ => 0)))] := hD
    refine lv_astore_n (lv' := [(2, .ref q2), (0, .ref q), (1, .int (nI n2))]) hx hb d_Arrays_copyOf_17 rfl hl (by decide) rfl (fun ls hl => ?_)
    refine lv_aload_n hx hb d_Arrays_copyOf_18 rfl (lv_at hl 1 rfl) ?_
    refine lv_iconst (v := 0) hx hb d_Arrays_copyOf_19 (by decide) ?_
    refine lv_aload_n hx hb d_Arrays_copyOf_20 rfl (lv_at hl 0 rfl) ?_
    refine lv_iconst (v := 0) hx hb d_Arrays_copyOf_21 (by decide) ?_
    refine lv_aload_n hx hb d_Arrays_copyOf_22 rfl (lv_at hl 1 rfl) ?_
    refine va_alen hx hb hK hP 0 0 rfl rfl (v := nI k) rfl d_Arrays_copyOf_23 ?_
    refine lv_iload_n hx hb d_Arrays_copyOf_24 rfl (lv_at hl 2 rfl) ?_
    refine va_mmin hx hb (by rw [hml]; exact hl.1.symm) hown (hts _ wm_392) (hts _ wm_333) (hts _ wm_13) (hts _ wm_334) (Nat.le_of_ble_eq_true rfl) (Nat.le_of_ble_eq_true rfl) (by show 0 + 1 ≤ 1; omega) (by show 0 + n2 ≤ n2; omega) d_Arrays_copyOf_25 ?_
    refine lv_topi (fun y1 ey => ?_)
    rw [if_neg (nI_nlt (by omega) (by omega))] at ey
    subst ey
    have hkc : (nI k).toNatClampNeg = k := nI_clamp (by omega)
    have h00 : (0 : Int32).toNatClampNeg = 0 := by decide
    refine va_copyi hx hb (by rw [hml]; exact hl.1.symm) hown (hts _ wm_393) (hts _ wm_395) (hts _ wm_394) (hts _ wm_17) hK hP hD hS 0 1 0 0 (ty := .int) rfl rfl rfl rfl rfl (by decide) (by decide) (nI_pos (by omega)) (by rw [hkc, h00]; omega) (by rw [hkc, h00]; omega) (fun _ _ => rfl) (Nat.le_of_ble_eq_true rfl) (Nat.le_of_ble_eq_true rfl) d_Arrays_copyOf_28 (fun H locs hP hD hS => ?_)
    rw [hkc, h00] at hP hD
    have hP : va_P (dC, dI) vwCl [(q, .inl (cI.1, k, .inl f)), (q2, .inl (cI.1, n2, .inl (va_cpy f (fun _ => 0) 0 0 k)))] H := hP
    have hD : va_D A [(q, .inl (cI.1, k, .inl f)), (q2, .inl (cI.1, n2, .inl (va_cpy f (fun _ => 0) 0 0 k)))] := hD
    refine lv_aload_n hx hb d_Arrays_copyOf_31 rfl (lv_at hl 0 rfl) ?_
    refine W.widen (k := 1) (n := n2) (by omega) (by omega) ?_
    exact W.aret (v := .ref q2) hx hb hr (Or.inr ⟨_, rfl⟩) (Or.inr ⟨_, rfl⟩) (fun t ht hW => ⟨⟨va_cpy f (fun _ => 0) 0 0 k, q2, rfl, fun i hi => by simp [va_cpy, hi], by rw [ht]; exact hP, hD⟩, hS.F ht⟩) hS.2.2 d_Arrays_copyOf_32
  · exact absurd ((nI_eq (by omega) (by omega)).mp c1) (by omega)
set_option maxHeartbeats 4000000 in
set_option maxRecDepth 100000 in
/-- Row.add -/
theorem c_Row_add (l : Launch) (dC : Nat → ClassId) (dI : Nat → Nat → Nat) (cI : dcG) (a : Nat) (lst : List Int32) (k q : Nat) (f : Nat → Int32) (h : rowOk lst k f) (v : Int32) (kn cn sn : Nat) (sz : Nat) (hc : ra lst.length k = some (cn, sn, kn)) : Met l y_Row_add w_Row_add { frames := 2, cells := cn, slots := sn, locals := 62 } (dc_Pre (dC, dI) (dcT cI) [(a, .inr (0, [.ref q, .int (nI lst.length)])), (q, .inl (cI.1, k, .inl f))] sz [.ref a, .int v]) (dc_Q (dC, dI) none (fun x : (Nat × (Nat → Int32)) × Unit => rowOk (lst ++ [v]) kn x.1.2 ∧ True) (fun x => [(a, .inr (0, [.ref x.1.1, .int (nI (lst ++ [v]).length)])), (x.1.1, .inl (cI.1, kn, .inl x.1.2))]) (va_A [(a, .inr (0, [.ref q, .int (nI lst.length)])), (q, .inl (cI.1, k, .inl f))] sz)) cn sn (va_A [(a, .inr (0, [.ref q, .int (nI lst.length)])), (q, .inl (cI.1, k, .inl f))] sz) := by
  refine Met.ofW (cc := prog_7_method_4_code) (maxL := 2) (ret := none) (by decide) rfl ?_
  intro p e s m args below meth c s₁ B hml hv
  obtain ⟨rfl, hsz, hP, hK, hD0, hN⟩ := hv
  have hx := B.exec
  have hb := B.bytes
  have hr := B.returns
  have hlocks := B.notSynchronized
  have hown : s.vm.findClass R_Row = some m.cls := findClass_of_methodNamed B.named
  have hts : ∀ w ∈ dcW, w.before [.ref a, .int v].toArray s = true := fun w h => atoms_spec (ws := w_Row_add) B.pre w (List.mem_cons_of_mem _ h)
  subst hsz
  have hD := hD0.self (sz := s.heap.size)
  generalize hAe : va_A [(a, .inr (0, [.ref q, .int (nI lst.length)])), (q, .inl (cI.1, k, .inl f))] s.heap.size = A at hD ⊢
  have hA : ∀ q : Nat, s.heap.size ≤ q → A q := fun q h => by rw [← hAe]; exact Or.inr h
  have hS : va_S A s.heap s.heap [] := va_S.rf
  have hl := lv_entry ([.ref a, .int v]) (n := 2) (Nat.le_of_ble_eq_true rfl)
  rw [lg_entry_eq]
  generalize (lg_sl ([.ref a, .int v]) ++ List.replicate (2 - (lg_sl ([.ref a, .int v])).length) Slot.unset).toArray = ls at hl ⊢
  have hl : lv_has ls 2 [(0, .ref a), (1, .int v)] := hl
  have hlt := h.lt
  obtain ⟨n, hn⟩ : ∃ n, lst.length = n := ⟨_, rfl⟩
  have hap : (lst ++ [v]).length = n + 1 := by simp [hn]
  have hn1 : n ≤ k := hn ▸ h.1
  have hn2 := h.2.2.1
  rw [hn] at hc hP hD hlt
  -- the way from 39 on
  have tail : ∀ (q2 : Nat) (f2 : Nat → Int32) (H : Heap) (locs : List Loc) (kc ks : Nat), n < kn → kn ≤ 1048576 → 16 ≤ kn → (∀ i, i < n → f2 i = f i) → kc ≤ cn → ks ≤ sn → va_P (dC, dI) vwCl [(a, .inr (0, [.ref q2, .int (nI n)])), (q2, .inl (cI.1, kn, .inl f2))] H → va_D A [(a, .inr (0, [.ref q2, .int (nI n)])), (q2, .inl (cI.1, kn, .inl f2))] → va_S A s.heap H locs → W p l e { frames := 2, cells := cn, slots := sn, locals := 62 } s m [.ref a, .int v].toArray below meth c H locs kc ks (MQ below (dc_Q (dC, dI) none (fun x : (Nat × (Nat → Int32)) × Unit => rowOk (lst ++ [v]) kn x.1.2 ∧ True) (fun x => [(a, .inr (0, [.ref x.1.1, .int (nI (lst ++ [v]).length)])), (x.1.1, .inl (cI.1, kn, .inl x.1.2))]) A) [.ref a, .int v].toArray s cn sn A) (F0 m 39 ls []) := by
    intro q2 f2 H locs kc ks g1 g2 g3 g4 g5 g6 hP hD hS
    refine lv_aload_n hx hb d_Row_add_39 rfl (lv_at hl 0 rfl) ?_
    refine va_get (D := (dC, dI)) (ci := 0) (v := .int (nI n)) (C := R_Row) (T := F_Row) (N := 2) hx hb hts i_Row hown hK hP 0 rfl rfl 1 (by decide) (hts _ wm_41) (fun _ h9 => h9) rfl d_Row_add_40 ?_
    refine lv_aload_n hx hb d_Row_add_43 rfl (lv_at hl 0 rfl) ?_
    refine va_get (D := (dC, dI)) (ci := 0) (v := .ref q2) (C := R_Row) (T := F_Row) (N := 2) hx hb hts i_Row hown hK hP 0 rfl rfl 0 (by decide) (hts _ wm_40) (fun _ h9 => h9) rfl d_Row_add_44 ?_
    refine va_alen hx hb hK hP 1 0 rfl rfl (v := nI kn) rfl d_Row_add_47 ?_
    refine lv_icmp_ge (tgt := 71) hx hb d_Row_add_48 (by decide) (fun c0 => absurd c0 (nI_ge g1 (by omega))) (fun _ => ?_)
    refine lv_aload_n hx hb d_Row_add_51 rfl (lv_at hl 0 rfl) ?_
    refine va_get (D := (dC, dI)) (ci := 0) (v := .ref q2) (C := R_Row) (T := F_Row) (N := 2) hx hb hts i_Row hown hK hP 0 rfl rfl 0 (by decide) (hts _ wm_40) (fun _ h9 => h9) rfl d_Row_add_52 ?_
    refine lv_aload_n hx hb d_Row_add_55 rfl (lv_at hl 0 rfl) ?_
    refine va_get (D := (dC, dI)) (ci := 0) (v := .int (nI n)) (C := R_Row) (T := F_Row) (N := 2) hx hb hts i_Row hown hK hP 0 rfl rfl 1 (by decide) (hts _ wm_41) (fun _ h9 => h9) rfl d_Row_add_56 ?_
    refine lv_iload_n hx hb d_Row_add_59 rfl (lv_at hl 1 rfl) ?_
    refine va_iast hx hb hK hP hD hS 1 0 rfl rfl (vp_in_nI g1 (by omega)) d_Row_add_60 (fun H locs hP hD hS => ?_)
    have hcl : (nI n).toNatClampNeg = n := nI_clamp (by omega)
    rw [hcl] at hP hD
    have hP : va_P (dC, dI) vwCl [(a, .inr (0, [.ref q2, .int (nI n)])), (q2, .inl (cI.1, kn, .inl (upd f2 n v)))] H := hP
    have hD : va_D A [(a, .inr (0, [.ref q2, .int (nI n)])), (q2, .inl (cI.1, kn, .inl (upd f2 n v)))] := hD
    refine lv_aload_n hx hb d_Row_add_61 rfl (lv_at hl 0 rfl) ?_
    refine lv_dup hx hb d_Row_add_62 rfl ?_
    refine va_get (D := (dC, dI)) (ci := 0) (v := .int (nI n)) (C := R_Row) (T := F_Row) (N := 2) hx hb hts i_Row hown hK hP 0 rfl rfl 1 (by decide) (hts _ wm_41) (fun _ h9 => h9) rfl d_Row_add_63 ?_
    refine lv_iconst (v := 1) hx hb d_Row_add_66 (by decide) ?_
    refine lv_iadd hx hb d_Row_add_67 ?_
    refine lv_topi (fun y1 ey => ?_)
    rw [nI_1] at ey
    subst ey
    refine va_put (D := (dC, dI)) (ci := 0) (v := .int (nI (n + 1))) (ty := .int) (C := R_Row) (T := F_Row) (N := 2) hx hb hts i_Row t_Row tk_Row nk_Row hown hK hP hD hS 0 rfl rfl 1 (by decide) (hts _ wm_41) (fun _ h9 => h9) rfl (by decide +kernel) rfl rfl (Nat.le_of_ble_eq_true rfl) d_Row_add_68 (fun H locs hP hD hS => ?_)
    have hP : va_P (dC, dI) vwCl [(a, .inr (0, [.ref q2, .int (nI (n + 1))])), (q2, .inl (cI.1, kn, .inl (upd f2 n v)))] H := hP
    have hD : va_D A [(a, .inr (0, [.ref q2, .int (nI (n + 1))])), (q2, .inl (cI.1, kn, .inl (upd f2 n v)))] := hD
    refine W.widen (k := cn) (n := sn) g5 g6 ?_
    refine W.vret hx hb hr (fun t ht hW => ⟨⟨rfl, ((q2, upd f2 n v), ()), ⟨⟨by rw [hap]; omega, g3, g2, fun i hi => ?_⟩, trivial⟩, by rw [hap, ht]; exact hP, by rw [hap]; exact hD⟩, hS.F ht⟩) hS.2.2 d_Row_add_71
    rw [hap] at hi
    by_cases e1 : i = n
    · subst e1
      show upd f2 i v i = _
      rw [pk_us]
      simp [List.getD, List.getElem?_append, hn]
    · show upd f2 n v i = _
      rw [pk_un e1, g4 i (by omega), h.2.2.2 i (by omega)]
      simp [List.getD, List.getElem?_append, show i < lst.length by omega]
  refine lv_aload_n hx hb d_Row_add_0 rfl (lv_at hl 0 rfl) ?_
  refine va_get (D := (dC, dI)) (ci := 0) (v := .int (nI n)) (C := R_Row) (T := F_Row) (N := 2) hx hb hts i_Row hown hK hP 0 rfl rfl 1 (by decide) (hts _ wm_41) (fun _ h9 => h9) rfl d_Row_add_1 ?_
  refine lv_aload_n hx hb d_Row_add_4 rfl (lv_at hl 0 rfl) ?_
  refine va_get (D := (dC, dI)) (ci := 0) (v := .ref q) (C := R_Row) (T := F_Row) (N := 2) hx hb hts i_Row hown hK hP 0 rfl rfl 0 (by decide) (hts _ wm_40) (fun _ h9 => h9) rfl d_Row_add_5 ?_
  refine va_alen hx hb hK hP 1 0 rfl rfl (v := nI k) rfl d_Row_add_8 ?_
  refine lv_icmp_lt (tgt := 39) hx hb d_Row_add_9 (by decide) (fun c1 => ?_) (fun c1 => ?_)
  · have c2 : n < k := (nI_ltI (by omega) (by omega)).mp c1
    unfold ra at hc
    rw [if_pos c2] at hc
    have hc := Option.some.inj hc
    obtain ⟨e1, hc⟩ := Prod.mk.inj hc
    obtain ⟨e2, e3⟩ := Prod.mk.inj hc
    subst e1; subst e2; subst e3
    exact tail q f s.heap [] 0 0 c2 (by omega) h.2.1 (fun _ _ => rfl) (Nat.le_refl _) (Nat.le_refl _) hP hD hS
  · have c2 : n = k := by
      have hnl : ¬ n < k := fun z => c1 ((nI_ltI (a := n) (b := k) (by omega) (by omega)).mpr z)
      omega
    unfold ra at hc
    rw [if_neg (by omega)] at hc
    by_cases c3 : k < 4096
    · rw [if_pos c3] at hc
      have hc := Option.some.inj hc
      obtain ⟨e1, hc⟩ := Prod.mk.inj hc
      obtain ⟨e2, e3⟩ := Prod.mk.inj hc
      refine lv_aload_n hx hb d_Row_add_12 rfl (lv_at hl 0 rfl) ?_
      refine va_get (D := (dC, dI)) (ci := 0) (v := .int (nI n)) (C := R_Row) (T := F_Row) (N := 2) hx hb hts i_Row hown hK hP 0 rfl rfl 1 (by decide) (hts _ wm_41) (fun _ h9 => h9) rfl d_Row_add_13 ?_
      refine lv_sipush (v := 4096) hx hb d_Row_add_16 (by decide) ?_
      refine lv_icmp_ge (tgt := 39) hx hb d_Row_add_19 (by decide) (fun c4 => absurd (show nI 4096 ≤ nI n from c4) (nI_ge (by omega) (by omega))) (fun _ => ?_)
      refine lv_aload_n hx hb d_Row_add_22 rfl (lv_at hl 0 rfl) ?_
      refine lv_aload_n hx hb d_Row_add_23 rfl (lv_at hl 0 rfl) ?_
      refine va_get (D := (dC, dI)) (ci := 0) (v := .ref q) (C := R_Row) (T := F_Row) (N := 2) hx hb hts i_Row hown hK hP 0 rfl rfl 0 (by decide) (hts _ wm_40) (fun _ h9 => h9) rfl d_Row_add_24 ?_
      refine lv_iconst (v := 2) hx hb d_Row_add_27 (by decide) ?_
      refine lv_aload_n hx hb d_Row_add_28 rfl (lv_at hl 0 rfl) ?_
      refine va_get (D := (dC, dI)) (ci := 0) (v := .int (nI n)) (C := R_Row) (T := F_Row) (N := 2) hx hb hts i_Row hown hK hP 0 rfl rfl 1 (by decide) (hts _ wm_41) (fun _ h9 => h9) rfl d_Row_add_29 ?_
      refine lv_imul hx hb d_Row_add_32 ?_
      refine lv_topi (fun y1 ey => ?_)
      rw [show (2 : Int32) = nI 2 from rfl, pk_mul, c2] at ey
      subst ey
      have h16 := h.2.1
      have hPc := hP.sub (ws' := [(q, .inl (cI.1, k, .inl f))]) [1] rfl
      have hDc := hD.sub (ws' := [(q, .inl (cI.1, k, .inl f))]) [1] (by decide) rfl
      have hFc := va_free (wc := [(q, .inl (cI.1, k, .inl f))]) hD hS hA [1] rfl
      refine va_callr (va_runS (As := [.ref q, .int (nI (2 * k))]) (rest := [.ref a]) ⟨hx, hb, hml, hown, hts⟩ (c_copyOf l dC dI cI q k f (2 * k) (by omega) (by omega) s.heap.size) (va_cwS 2 hts (gS wm_382 wm_383 wm_16 wm_384) rfl rfl rfl (by decide +kernel) ⟨Nat.le_of_ble_eq_true rfl, Nat.le_of_ble_eq_true rfl⟩) (dc_preS hK hN hPc hDc) rfl rfl hl.1 rfl (lv_room (Nat.le_of_ble_eq_true rfl)) d_Row_add_33 ⟨by show 0 + 1 ≤ cn; omega, by show 0 + 2 * k ≤ sn; omega⟩) hS (fun q _ h => hFc q h) hFc (fun g2 q2 t H1 locs ht hvm hw hB hz1 hk1 hS => ?_)
      obtain ⟨hP1, hD1⟩ := hB
      rw [ht] at hP1
      obtain ⟨hP, hD⟩ := va_join (wr := [(a, .inr (0, [.ref q, .int (nI n)]))]) (w1 := [(q, .inl (cI.1, k, .inl f)), (q2, .inl (cI.1, 2 * k, .inl g2))]) hP hD [1] [0] rfl rfl (by decide) (by decide) hk1 hFc hP1 hD1
      generalize H1 = H at hP hS ⊢
      have hP : va_P (dC, dI) vwCl [(a, .inr (0, [.ref q, .int (nI n)])), (q, .inl (cI.1, k, .inl f)), (q2, .inl (cI.1, 2 * k, .inl g2))] H := hP
      have hD : va_D A [(a, .inr (0, [.ref q, .int (nI n)])), (q, .inl (cI.1, k, .inl f)), (q2, .inl (cI.1, 2 * k, .inl g2))] := hD
      refine va_put (D := (dC, dI)) (ci := 0) (v := .ref q2) (ty := .array .int) (C := R_Row) (T := F_Row) (N := 2) hx hb hts i_Row t_Row tk_Row nk_Row hown hK hP hD hS 0 rfl rfl 0 (by decide) (hts _ wm_40) (fun _ h9 => h9) rfl (by decide +kernel) rfl rfl (Nat.le_of_ble_eq_true rfl) d_Row_add_36 (fun H locs hP hD hS => ?_)
      have hP : va_P (dC, dI) vwCl [(a, .inr (0, [.ref q2, .int (nI n)])), (q, .inl (cI.1, k, .inl f)), (q2, .inl (cI.1, 2 * k, .inl g2))] H := hP
      have hD : va_D A [(a, .inr (0, [.ref q2, .int (nI n)])), (q, .inl (cI.1, k, .inl f)), (q2, .inl (cI.1, 2 * k, .inl g2))] := hD
      subst e3
      exact tail q2 g2 H locs (0 + 1) (0 + 2 * k) (by omega) (by omega) (by omega) (fun i hi => hw i (by omega)) (by omega) (by omega) (hP.sub [0, 2] rfl) (hD.sub [0, 2] (by decide) rfl) hS
    · rw [if_neg c3] at hc
      cases hc
