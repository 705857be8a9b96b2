def T_Long_compare_0 (p : Program) (l : Launch) (e : Env) (s : State) (m : MethodId) (args : Array Value) (below : List Frame) (meth : Method) (c : Code) (dC : Nat → ClassId) (dI : Nat → Nat → Nat) (cI : dcG) (A : Nat → Prop) (y0 : Int64) (y2 : Int64) (rv : Int32) (g : Option (Int32)) : Prop :=
  g  = some rv → 
  ∀ (H : Heap) (locs : List Loc), va_P (dC, dI) vwCl [] H → va_D A [] → va_S A s.heap H locs → ∀ (ls : Array Slot), lv_has ls 4 [(0, .long y0), (2, .long y2)] →
  W p l e { frames := 0, cells := 0, slots := 0, locals := 0 } s m args below meth c H locs 0 0 (MQ below (dc_Q (dC, dI) (some (.int rv)) (fun x : Unit => True) (fun x => []) A) args s 0 0 A) (F0 m 0 ls [])
def b_Long_compare_0 (y0 : Int64) (y2 : Int64)  : Option (Int32) :=
  if 0 ≤ (lg_cmp y0 y2) then (if (lg_cmp y0 y2) = 0 then (some (0 : Int32)) else (some (1 : Int32))) else (some (-1 : Int32))
set_option maxHeartbeats 4000000 in
set_option maxRecDepth 100000 in
theorem s_Long_compare_0 (p : Program) (l : Launch) (e : Env) (s : State) (m : MethodId) (args : Array Value) (below : List Frame) (meth : Method) (c : Code) (dC : Nat → ClassId) (dI : Nat → Nat → Nat) (cI : dcG) (A : Nat → Prop) (y0 : Int64) (y2 : Int64) (rv : Int32) (C0 : dc_At p s m args meth c prog_15_method_42_code 4 R_Long (some .int)) (hK : va_K (dC, dI) vwCl (dcT cI) s) (hA : ∀ q, s.heap.size ≤ q → A q) : T_Long_compare_0 p l e s m args below meth c dC dI cI A y0 y2 rv (b_Long_compare_0 y0 y2) := by
  obtain ⟨hx, hb, hml, hown, hts, hr, hlocks, hN⟩ := id C0
  intro hf H locs hP hD hS ls hl
  unfold b_Long_compare_0 at hf
  refine lv_lload_n hx hb d_Long_compare_0 rfl (lv_at hl 0 rfl) ?_
  refine lv_lload_n hx hb d_Long_compare_1 rfl (lv_at hl 1 rfl) ?_
  refine W.lcmp hx hb d_Long_compare_2 ?_
  refine lv_if_ge (tgt := 10) hx hb d_Long_compare_3 (by decide) (fun c_1 => ?_) (fun c_1 => ?_)
  · have hf := (if_pos c_1).symm.trans hf
    refine lv_lload_n hx hb d_Long_compare_10 rfl (lv_at hl 0 rfl) ?_
    refine lv_lload_n hx hb d_Long_compare_11 rfl (lv_at hl 1 rfl) ?_
    refine W.lcmp hx hb d_Long_compare_12 ?_
    refine lv_if_ne (tgt := 20) hx hb d_Long_compare_13 (by decide) (fun c_2 => ?_) (fun c_2 => ?_)
    · have hf := (if_neg c_2).symm.trans hf
      refine lv_iconst (v := 1) hx hb d_Long_compare_20 (by decide) ?_
      have hg0 := Option.some.inj hf
      subst hg0
      have hP9 : va_P (dC, dI) vwCl [] H := hP.sub [] rfl
      have hD9 : va_D A [] := hD.sub [] rfl rfl
      exact W.iret (v := (1 : Int32)) hx hb hr (fun t ht hW => ⟨⟨rfl, (), trivial, by rw [ht]; exact hP9, hD9⟩, hS.F ht⟩) hS.2.2 d_Long_compare_21
    · have hf := (if_pos c_2).symm.trans hf
      refine lv_iconst (v := 0) hx hb d_Long_compare_16 (by decide) ?_
      refine lv_goto (tgt := 21) hx hb d_Long_compare_17 (by decide) ?_
      have hg0 := Option.some.inj hf
      subst hg0
      have hP9 : va_P (dC, dI) vwCl [] H := hP.sub [] rfl
      have hD9 : va_D A [] := hD.sub [] rfl rfl
      exact W.iret (v := (0 : Int32)) hx hb hr (fun t ht hW => ⟨⟨rfl, (), trivial, by rw [ht]; exact hP9, hD9⟩, hS.F ht⟩) hS.2.2 d_Long_compare_21
  · have hf := (if_neg c_1).symm.trans hf
    refine lv_iconst (v := (-1)) hx hb d_Long_compare_6 (by decide) ?_
    refine lv_goto (tgt := 21) hx hb d_Long_compare_7 (by decide) ?_
    have hg0 := Option.some.inj hf
    subst hg0
    have hP9 : va_P (dC, dI) vwCl [] H := hP.sub [] rfl
    have hD9 : va_D A [] := hD.sub [] rfl rfl
    exact W.iret (v := (-1 : Int32)) hx hb hr (fun t ht hW => ⟨⟨rfl, (), trivial, by rw [ht]; exact hP9, hD9⟩, hS.F ht⟩) hS.2.2 d_Long_compare_21
def f_Long_compare (y0 : Int64) (y2 : Int64) : Option (Int32) :=
  b_Long_compare_0 y0 y2 
set_option maxHeartbeats 4000000 in
set_option maxRecDepth 100000 in
theorem c_Long_compare (l : Launch) (dC : Nat → ClassId) (dI : Nat → Nat → Nat) (cI : dcG) (y0 : Int64) (y2 : Int64) (rv : Int32) (sz : Nat) (hf : f_Long_compare y0 y2 = some rv) : Met l y_Long_compare w_Long_compare { frames := 0, cells := 0, slots := 0, locals := 0 } (dc_Pre (dC, dI) (dcT cI) [] sz [.long y0, .long y2]) (dc_Q (dC, dI) (some (.int rv)) (fun x : Unit => True) (fun x => []) (va_A [] sz)) 0 0 (va_A [] sz) := by
  refine Met.ofW (cc := prog_15_method_42_code) (maxL := 4) (ret := (some .int)) (by decide) rfl ?_
  intro p e s m args below meth c s₁ B hml hv
  obtain ⟨rfl, hsz, hP, hK, hD0, hN⟩ := hv
  have C0 : dc_At p s m [.long y0, .long y2].toArray meth c prog_15_method_42_code 4 R_Long (some .int) := ⟨B.exec, B.bytes, hml, findClass_of_methodNamed B.named, fun w h => atoms_spec (ws := w_Long_compare) B.pre w (List.mem_cons_of_mem _ h), B.returns, B.notSynchronized, hN⟩
  subst hsz
  have hD := hD0.self (sz := s.heap.size)
  generalize hAe : va_A [] s.heap.size = A at hD ⊢
  have hA : ∀ q : Nat, s.heap.size ≤ q → A q := fun q h => by rw [← hAe]; exact Or.inr h
  have hl := lv_entry ([.long y0, .long y2]) (n := 4) (Nat.le_of_ble_eq_true rfl)
  rw [lg_entry_eq]
  generalize (lg_sl ([.long y0, .long y2]) ++ List.replicate (4 - (lg_sl ([.long y0, .long y2])).length) Slot.unset).toArray = ls at hl ⊢
  exact s_Long_compare_0 p l e s m _ below meth c dC dI cI A y0 y2 rv C0 hK hA  hf s.heap [] hP hD va_S.rf ls (lv_sub hl [0, 1] rfl)
def T_Pla_turn_0 (p : Program) (l : Launch) (e : Env) (s : State) (m : MethodId) (args : Array Value) (below : List Frame) (meth : Method) (c : Code) (dC : Nat → ClassId) (dI : Nat → Nat → Nat) (cI : dcG) (A : Nat → Prop) (y0 : Int32) (y1 : Int32) (y2 : Int32) (y3 : Int32) (rv : Int32) (g : Option (Int32)) : Prop :=
  g  = some rv → 
  ∀ (H : Heap) (locs : List Loc), va_P (dC, dI) vwCl [] H → va_D A [] → va_S A s.heap H locs → ∀ (ls : Array Slot), lv_has ls 4 [(0, .int y0), (1, .int y1), (2, .int y2), (3, .int y3)] →
  W p l e { frames := 1, cells := 0, slots := 0, locals := 23 } s m args below meth c H locs 0 0 (MQ below (dc_Q (dC, dI) (some (.int rv)) (fun x : Unit => True) (fun x => []) A) args s 0 0 A) (F0 m 0 ls [])
def b_Pla_turn_0 (y0 : Int32) (y1 : Int32) (y2 : Int32) (y3 : Int32)  : Option (Int32) :=
  ob1 (f_Long_compare (y0.toInt64 * y3.toInt64) (y1.toInt64 * y2.toInt64)) fun r_1 => some ((1 : Int32) + r_1)
set_option maxHeartbeats 4000000 in
set_option maxRecDepth 100000 in
theorem s_Pla_turn_0 (p : Program) (l : Launch) (e : Env) (s : State) (m : MethodId) (args : Array Value) (below : List Frame) (meth : Method) (c : Code) (dC : Nat → ClassId) (dI : Nat → Nat → Nat) (cI : dcG) (A : Nat → Prop) (y0 : Int32) (y1 : Int32) (y2 : Int32) (y3 : Int32) (rv : Int32) (C0 : dc_At p s m args meth c prog_5_method_8_code 4 R_Pla (some .int)) (hK : va_K (dC, dI) vwCl (dcT cI) s) (hA : ∀ q, s.heap.size ≤ q → A q) : T_Pla_turn_0 p l e s m args below meth c dC dI cI A y0 y1 y2 y3 rv (b_Pla_turn_0 y0 y1 y2 y3) := by
  obtain ⟨hx, hb, hml, hown, hts, hr, hlocks, hN⟩ := id C0
  intro hf H locs hP hD hS ls hl
  unfold b_Pla_turn_0 at hf
  refine lv_iconst (v := 1) hx hb d_Pla_turn_0 (by decide) ?_
  refine lv_iload_n hx hb d_Pla_turn_1 rfl (lv_at hl 0 rfl) ?_
  refine lv_i2l hx hb d_Pla_turn_2 rfl ?_
  refine lv_iload_n hx hb d_Pla_turn_3 rfl (lv_at hl 3 rfl) ?_
  refine lv_i2l hx hb d_Pla_turn_4 rfl ?_
  refine lv_lmul hx hb d_Pla_turn_5 ?_
  refine lv_iload_n hx hb d_Pla_turn_6 rfl (lv_at hl 1 rfl) ?_
  refine lv_i2l hx hb d_Pla_turn_7 rfl ?_
  refine lv_iload_n hx hb d_Pla_turn_8 rfl (lv_at hl 2 rfl) ?_
  refine lv_i2l hx hb d_Pla_turn_9 rfl ?_
  refine lv_lmul hx hb d_Pla_turn_10 ?_
  obtain ⟨r_1, e_1, hf⟩ := ob1_some hf
  refine dc_call (wc := []) (wr := []) [] [] hP hD hS hA rfl rfl rfl rfl rfl (fun hPc hDc => va_runS (As := [.long (y0.toInt64 * y3.toInt64), .long (y1.toInt64 * y2.toInt64)]) (rest := [.int (1 : Int32)]) ⟨hx, hb, hml, hown, hts⟩ (c_Long_compare l dC dI cI (y0.toInt64 * y3.toInt64) (y1.toInt64 * y2.toInt64) r_1 H.size e_1) (va_cwS 2 hts (gS wm_471 wm_472 wm_18 wm_473) rfl rfl rfl (by decide +kernel) ⟨Nat.le_of_ble_eq_true rfl, Nat.le_of_ble_eq_true rfl⟩) (dc_preS hK hN hPc hDc) rfl rfl hl.1 rfl (lv_room (Nat.le_of_ble_eq_true rfl)) d_Pla_turn_11 ⟨Nat.le_refl _, Nat.le_refl _⟩) (fun x_1 H locs hp_1 hP hD hS => ?_)
  have hP : va_P (dC, dI) vwCl [] H := hP
  have hD : va_D A [] := hD
  refine lv_iadd hx hb d_Pla_turn_14 ?_
  have hg0 := Option.some.inj hf
  subst hg0
  have hP9 : va_P (dC, dI) vwCl [] H := hP.sub [] rfl
  have hD9 : va_D A [] := hD.sub [] rfl rfl
  exact W.iret (v := ((1 : Int32) + r_1)) hx hb hr (fun t ht hW => ⟨⟨rfl, (), trivial, by rw [ht]; exact hP9, hD9⟩, hS.F ht⟩) hS.2.2 d_Pla_turn_15
def f_Pla_turn (y0 : Int32) (y1 : Int32) (y2 : Int32) (y3 : Int32) : Option (Int32) :=
  b_Pla_turn_0 y0 y1 y2 y3 
set_option maxHeartbeats 4000000 in
set_option maxRecDepth 100000 in
theorem c_Pla_turn (l : Launch) (dC : Nat → ClassId) (dI : Nat → Nat → Nat) (cI : dcG) (y0 : Int32) (y1 : Int32) (y2 : Int32) (y3 : Int32) (rv : Int32) (sz : Nat) (hf : f_Pla_turn y0 y1 y2 y3 = some rv) : Met l y_Pla_turn w_Pla_turn { frames := 1, cells := 0, slots := 0, locals := 23 } (dc_Pre (dC, dI) (dcT cI) [] sz [.int y0, .int y1, .int y2, .int y3]) (dc_Q (dC, dI) (some (.int rv)) (fun x : Unit => True) (fun x => []) (va_A [] sz)) 0 0 (va_A [] sz) := by
  refine Met.ofW (cc := prog_5_method_8_code) (maxL := 4) (ret := (some .int)) (by decide) rfl ?_
  intro p e s m args below meth c s₁ B hml hv
  obtain ⟨rfl, hsz, hP, hK, hD0, hN⟩ := hv
  have C0 : dc_At p s m [.int y0, .int y1, .int y2, .int y3].toArray meth c prog_5_method_8_code 4 R_Pla (some .int) := ⟨B.exec, B.bytes, hml, findClass_of_methodNamed B.named, fun w h => atoms_spec (ws := w_Pla_turn) B.pre w (List.mem_cons_of_mem _ h), B.returns, B.notSynchronized, hN⟩
  subst hsz
  have hD := hD0.self (sz := s.heap.size)
  generalize hAe : va_A [] s.heap.size = A at hD ⊢
  have hA : ∀ q : Nat, s.heap.size ≤ q → A q := fun q h => by rw [← hAe]; exact Or.inr h
  have hl := lv_entry ([.int y0, .int y1, .int y2, .int y3]) (n := 4) (Nat.le_of_ble_eq_true rfl)
  rw [lg_entry_eq]
  generalize (lg_sl ([.int y0, .int y1, .int y2, .int y3]) ++ List.replicate (4 - (lg_sl ([.int y0, .int y1, .int y2, .int y3])).length) Slot.unset).toArray = ls at hl ⊢
  exact s_Pla_turn_0 p l e s m _ below meth c dC dI cI A y0 y1 y2 y3 rv C0 hK hA  hf s.heap [] hP hD va_S.rf ls (lv_sub hl [0, 1, 2, 3] rfl)
def T_Pla_isSooner_0 (p : Program) (l : Launch) (e : Env) (s : State) (m : MethodId) (args : Array Value) (below : List Frame) (meth : Method) (c : Code) (dC : Nat → ClassId) (dI : Nat → Nat → Nat) (cI : dcG) (A : Nat → Prop) (y0 : Int32) (y1 : Int32) (y2 : Int32) (y3 : Int32) (y4 : Int32) (y5 : Int32) (rv : Bool) (g : Option (Bool)) : Prop :=
  g  = some rv → 
  ∀ (H : Heap) (locs : List Loc), va_P (dC, dI) vwCl [] H → va_D A [] → va_S A s.heap H locs → ∀ (ls : Array Slot), lv_has ls 8 [(0, .int y0), (1, .int y1), (2, .int y2), (3, .int y3), (4, .int y4), (5, .int y5)] →
  W p l e { frames := 2, cells := 0, slots := 0, locals := 46 } s m args below meth c H locs 0 0 (MQ below (dc_Q (dC, dI) (some (.int (bI rv))) (fun x : Unit => True) (fun x => []) A) args s 0 0 A) (F0 m 0 ls [])
def b_Pla_isSooner_0 (y0 : Int32) (y1 : Int32) (y2 : Int32) (y3 : Int32) (y4 : Int32) (y5 : Int32)  : Option (Bool) :=
  ob1 (f_Pla_turn y0 y1 y2 y3) fun r_1 => ob1 (f_Pla_turn y0 y1 y4 y5) fun r_2 => if r_1 = r_2 then (if 0 ≤ (lg_cmp (y2.toInt64 * y5.toInt64) (y3.toInt64 * y4.toInt64)) then (some false) else (some true)) else (if r_2 ≤ r_1 then (some false) else (some true))
set_option maxHeartbeats 4000000 in
set_option maxRecDepth 100000 in
theorem s_Pla_isSooner_0 (p : Program) (l : Launch) (e : Env) (s : State) (m : MethodId) (args : Array Value) (below : List Frame) (meth : Method) (c : Code) (dC : Nat → ClassId) (dI : Nat → Nat → Nat) (cI : dcG) (A : Nat → Prop) (y0 : Int32) (y1 : Int32) (y2 : Int32) (y3 : Int32) (y4 : Int32) (y5 : Int32) (rv : Bool) (C0 : dc_At p s m args meth c prog_5_method_7_code 8 R_Pla (some .boolean)) (hK : va_K (dC, dI) vwCl (dcT cI) s) (hA : ∀ q, s.heap.size ≤ q → A q) : T_Pla_isSooner_0 p l e s m args below meth c dC dI cI A y0 y1 y2 y3 y4 y5 rv (b_Pla_isSooner_0 y0 y1 y2 y3 y4 y5) := by
  obtain ⟨hx, hb, hml, hown, hts, hr, hlocks, hN⟩ := id C0
  intro hf H locs hP hD hS ls hl
  unfold b_Pla_isSooner_0 at hf
  refine lv_iload_n hx hb d_Pla_isSooner_0 rfl (lv_at hl 0 rfl) ?_
  refine lv_iload_n hx hb d_Pla_isSooner_1 rfl (lv_at hl 1 rfl) ?_
  refine lv_iload_n hx hb d_Pla_isSooner_2 rfl (lv_at hl 2 rfl) ?_
  refine lv_iload_n hx hb d_Pla_isSooner_3 rfl (lv_at hl 3 rfl) ?_
  obtain ⟨r_1, e_1, hf⟩ := ob1_some hf
  refine dc_call (wc := []) (wr := []) [] [] hP hD hS hA rfl rfl rfl rfl rfl (fun hPc hDc => va_runS (As := [.int y0, .int y1, .int y2, .int y3]) (rest := []) ⟨hx, hb, hml, hown, hts⟩ (c_Pla_turn l dC dI cI y0 y1 y2 y3 r_1 H.size e_1) (va_cwS 4 hts (gS wm_468 wm_469 wm_12 wm_470) rfl rfl rfl (by decide +kernel) ⟨Nat.le_of_ble_eq_true rfl, Nat.le_of_ble_eq_true rfl⟩) (dc_preS hK hN hPc hDc) rfl rfl hl.1 rfl (lv_room (Nat.le_of_ble_eq_true rfl)) d_Pla_isSooner_4 ⟨Nat.le_refl _, Nat.le_refl _⟩) (fun x_1 H locs hp_1 hP hD hS => ?_)
  have hP : va_P (dC, dI) vwCl [] H := hP
  have hD : va_D A [] := hD
  refine lv_istore (lv' := [(6, .int r_1), (0, .int y0), (1, .int y1), (2, .int y2), (3, .int y3), (4, .int y4), (5, .int y5)]) hx hb d_Pla_isSooner_7 hl (by decide) rfl (fun ls hl => ?_)
  refine lv_iload_n hx hb d_Pla_isSooner_9 rfl (lv_at hl 1 rfl) ?_
  refine lv_iload_n hx hb d_Pla_isSooner_10 rfl (lv_at hl 2 rfl) ?_
  refine lv_iload hx hb d_Pla_isSooner_11 (lv_at hl 5 rfl) ?_
  refine lv_iload hx hb d_Pla_isSooner_13 (lv_at hl 6 rfl) ?_
  obtain ⟨r_2, e_2, hf⟩ := ob1_some hf
  refine dc_call (wc := []) (wr := []) [] [] hP hD hS hA rfl rfl rfl rfl rfl (fun hPc hDc => va_runS (As := [.int y0, .int y1, .int y4, .int y5]) (rest := []) ⟨hx, hb, hml, hown, hts⟩ (c_Pla_turn l dC dI cI y0 y1 y4 y5 r_2 H.size e_2) (va_cwS 4 hts (gS wm_468 wm_469 wm_12 wm_470) rfl rfl rfl (by decide +kernel) ⟨Nat.le_of_ble_eq_true rfl, Nat.le_of_ble_eq_true rfl⟩) (dc_preS hK hN hPc hDc) rfl rfl hl.1 rfl (lv_room (Nat.le_of_ble_eq_true rfl)) d_Pla_isSooner_15 ⟨Nat.le_refl _, Nat.le_refl _⟩) (fun x_2 H locs hp_2 hP hD hS => ?_)
  have hP : va_P (dC, dI) vwCl [] H := hP
  have hD : va_D A [] := hD
  refine lv_istore (lv' := [(7, .int r_2), (6, .int r_1), (0, .int y0), (1, .int y1), (2, .int y2), (3, .int y3), (4, .int y4), (5, .int y5)]) hx hb d_Pla_isSooner_18 hl (by decide) rfl (fun ls hl => ?_)
  refine lv_iload hx hb d_Pla_isSooner_20 (lv_at hl 1 rfl) ?_
  refine lv_iload hx hb d_Pla_isSooner_22 (lv_at hl 0 rfl) ?_
  refine lv_icmp_eq (tgt := 40) hx hb d_Pla_isSooner_24 (by decide) (fun c_3 => ?_) (fun c_3 => ?_)
  · have hf := (if_pos c_3).symm.trans hf
    refine lv_iload_n hx hb d_Pla_isSooner_40 rfl (lv_at hl 4 rfl) ?_
    refine lv_i2l hx hb d_Pla_isSooner_41 rfl ?_
    refine lv_iload hx hb d_Pla_isSooner_42 (lv_at hl 7 rfl) ?_
    refine lv_i2l hx hb d_Pla_isSooner_44 rfl ?_
    refine lv_lmul hx hb d_Pla_isSooner_45 ?_
    refine lv_iload_n hx hb d_Pla_isSooner_46 rfl (lv_at hl 5 rfl) ?_
    refine lv_i2l hx hb d_Pla_isSooner_47 rfl ?_
    refine lv_iload hx hb d_Pla_isSooner_48 (lv_at hl 6 rfl) ?_
    refine lv_i2l hx hb d_Pla_isSooner_50 rfl ?_
    refine lv_lmul hx hb d_Pla_isSooner_51 ?_
    refine W.lcmp hx hb d_Pla_isSooner_52 ?_
    refine lv_if_ge (tgt := 60) hx hb d_Pla_isSooner_53 (by decide) (fun c_4 => ?_) (fun c_4 => ?_)
    · have hf := (if_pos c_4).symm.trans hf
      refine lv_iconst (v := 0) hx hb d_Pla_isSooner_60 (by decide) ?_
      have hg0 := Option.some.inj hf
      subst hg0
      have hP9 : va_P (dC, dI) vwCl [] H := hP.sub [] rfl
      have hD9 : va_D A [] := hD.sub [] rfl rfl
      exact W.zret (v := (0 : Int32)) hx hb hr (nw_b false) (fun t ht hW => ⟨⟨rfl, (), trivial, by rw [ht]; exact hP9, hD9⟩, hS.F ht⟩) hS.2.2 d_Pla_isSooner_61
    · have hf := (if_neg c_4).symm.trans hf
      refine lv_iconst (v := 1) hx hb d_Pla_isSooner_56 (by decide) ?_
      refine lv_goto (tgt := 61) hx hb d_Pla_isSooner_57 (by decide) ?_
      have hg0 := Option.some.inj hf
      subst hg0
      have hP9 : va_P (dC, dI) vwCl [] H := hP.sub [] rfl
      have hD9 : va_D A [] := hD.sub [] rfl rfl
      exact W.zret (v := (1 : Int32)) hx hb hr (nw_b true) (fun t ht hW => ⟨⟨rfl, (), trivial, by rw [ht]; exact hP9, hD9⟩, hS.F ht⟩) hS.2.2 d_Pla_isSooner_61
  · have hf := (if_neg c_3).symm.trans hf
    refine lv_iload hx hb d_Pla_isSooner_27 (lv_at hl 1 rfl) ?_
    refine lv_iload hx hb d_Pla_isSooner_29 (lv_at hl 0 rfl) ?_
    refine lv_icmp_ge (tgt := 38) hx hb d_Pla_isSooner_31 (by decide) (fun c_5 => ?_) (fun c_5 => ?_)
    · have hf := (if_pos c_5).symm.trans hf
      refine lv_iconst (v := 0) hx hb d_Pla_isSooner_38 (by decide) ?_
      have hg0 := Option.some.inj hf
      subst hg0
      have hP9 : va_P (dC, dI) vwCl [] H := hP.sub [] rfl
      have hD9 : va_D A [] := hD.sub [] rfl rfl
      exact W.zret (v := (0 : Int32)) hx hb hr (nw_b false) (fun t ht hW => ⟨⟨rfl, (), trivial, by rw [ht]; exact hP9, hD9⟩, hS.F ht⟩) hS.2.2 d_Pla_isSooner_39
    · have hf := (if_neg c_5).symm.trans hf
      refine lv_iconst (v := 1) hx hb d_Pla_isSooner_34 (by decide) ?_
      refine lv_goto (tgt := 39) hx hb d_Pla_isSooner_35 (by decide) ?_
      have hg0 := Option.some.inj hf
      subst hg0
      have hP9 : va_P (dC, dI) vwCl [] H := hP.sub [] rfl
      have hD9 : va_D A [] := hD.sub [] rfl rfl
      exact W.zret (v := (1 : Int32)) hx hb hr (nw_b true) (fun t ht hW => ⟨⟨rfl, (), trivial, by rw [ht]; exact hP9, hD9⟩, hS.F ht⟩) hS.2.2 d_Pla_isSooner_39
def f_Pla_isSooner (y0 : Int32) (y1 : Int32) (y2 : Int32) (y3 : Int32) (y4 : Int32) (y5 : Int32) : Option (Bool) :=
  b_Pla_isSooner_0 y0 y1 y2 y3 y4 y5 
set_option maxHeartbeats 4000000 in
set_option maxRecDepth 100000 in
theorem c_Pla_isSooner (l : Launch) (dC : Nat → ClassId) (dI : Nat → Nat → Nat) (cI : dcG) (y0 : Int32) (y1 : Int32) (y2 : Int32) (y3 : Int32) (y4 : Int32) (y5 : Int32) (rv : Bool) (sz : Nat) (hf : f_Pla_isSooner y0 y1 y2 y3 y4 y5 = some rv) : Met l y_Pla_isSooner w_Pla_isSooner { frames := 2, cells := 0, slots := 0, locals := 46 } (dc_Pre (dC, dI) (dcT cI) [] sz [.int y0, .int y1, .int y2, .int y3, .int y4, .int y5]) (dc_Q (dC, dI) (some (.int (bI rv))) (fun x : Unit => True) (fun x => []) (va_A [] sz)) 0 0 (va_A [] sz) := by
  refine Met.ofW (cc := prog_5_method_7_code) (maxL := 8) (ret := (some .boolean)) (by decide) rfl ?_
  intro p e s m args below meth c s₁ B hml hv
  obtain ⟨rfl, hsz, hP, hK, hD0, hN⟩ := hv
  have C0 : dc_At p s m [.int y0, .int y1, .int y2, .int y3, .int y4, .int y5].toArray meth c prog_5_method_7_code 8 R_Pla (some .boolean) := ⟨B.exec, B.bytes, hml, findClass_of_methodNamed B.named, fun w h => atoms_spec (ws := w_Pla_isSooner) B.pre w (List.mem_cons_of_mem _ h), B.returns, B.notSynchronized, hN⟩
  subst hsz
  have hD := hD0.self (sz := s.heap.size)
  generalize hAe : va_A [] s.heap.size = A at hD ⊢
  have hA : ∀ q : Nat, s.heap.size ≤ q → A q := fun q h => by rw [← hAe]; exact Or.inr h
  have hl := lv_entry ([.int y0, .int y1, .int y2, .int y3, .int y4, .int y5]) (n := 8) (Nat.le_of_ble_eq_true rfl)
  rw [lg_entry_eq]
  generalize (lg_sl ([.int y0, .int y1, .int y2, .int y3, .int y4, .int y5]) ++ List.replicate (8 - (lg_sl ([.int y0, .int y1, .int y2, .int y3, .int y4, .int y5])).length) Slot.unset).toArray = ls at hl ⊢
  exact s_Pla_isSooner_0 p l e s m _ below meth c dC dI cI A y0 y1 y2 y3 y4 y5 rv C0 hK hA  hf s.heap [] hP hD va_S.rf ls (lv_sub hl [0, 1, 2, 3, 4, 5] rfl)
def T_Pla_isCrossedFrom_36 (p : Program) (l : Launch) (e : Env) (s : State) (m : MethodId) (args : Array Value) (below : List Frame) (meth : Method) (c : Code) (dC : Nat → ClassId) (dI : Nat → Nat → Nat) (cI : dcG) (A : Nat → Prop) (y0 : Int64) (y2 : Int64) (y4 : Int32) (y5 : Int32) (y6 : Int32) (y7 : Int32) (rv : Bool) (g : Int32 → Int32 → Option (Bool)) : Prop :=
  ∀ (x8 : Int32) (s0 : Int32), g x8 s0 = some rv → 
  ∀ (H : Heap) (locs : List Loc), va_P (dC, dI) vwCl [] H → va_D A [] → va_S A s.heap H locs → ∀ (ls : Array Slot), lv_has ls 14 [(0, .long y0), (2, .long y2), (4, .int y4), (5, .int y5), (6, .int y6), (7, .int y7), (8, .int x8)] →
  W p l e { frames := 0, cells := 0, slots := 0, locals := 0 } s m args below meth c H locs 0 0 (MQ below (dc_Q (dC, dI) (some (.int (bI rv))) (fun x : Unit => True) (fun x => []) A) args s 0 0 A) (F0 m 36 ls [.int s0])
def T_Pla_isCrossedFrom_17 (p : Program) (l : Launch) (e : Env) (s : State) (m : MethodId) (args : Array Value) (below : List Frame) (meth : Method) (c : Code) (dC : Nat → ClassId) (dI : Nat → Nat → Nat) (cI : dcG) (A : Nat → Prop) (y0 : Int64) (y2 : Int64) (y4 : Int32) (y5 : Int32) (y6 : Int32) (y7 : Int32) (rv : Bool) (g : Int32 → Option (Bool)) : Prop :=
  ∀ (s0 : Int32), g s0 = some rv → 
  ∀ (H : Heap) (locs : List Loc), va_P (dC, dI) vwCl [] H → va_D A [] → va_S A s.heap H locs → ∀ (ls : Array Slot), lv_has ls 14 [(0, .long y0), (2, .long y2), (4, .int y4), (5, .int y5), (6, .int y6), (7, .int y7)] →
  W p l e { frames := 0, cells := 0, slots := 0, locals := 0 } s m args below meth c H locs 0 0 (MQ below (dc_Q (dC, dI) (some (.int (bI rv))) (fun x : Unit => True) (fun x => []) A) args s 0 0 A) (F0 m 17 ls [.int s0])
def T_Pla_isCrossedFrom_0 (p : Program) (l : Launch) (e : Env) (s : State) (m : MethodId) (args : Array Value) (below : List Frame) (meth : Method) (c : Code) (dC : Nat → ClassId) (dI : Nat → Nat → Nat) (cI : dcG) (A : Nat → Prop) (y0 : Int64) (y2 : Int64) (y4 : Int32) (y5 : Int32) (y6 : Int32) (y7 : Int32) (rv : Bool) (g : Option (Bool)) : Prop :=
  g  = some rv → 
  ∀ (H : Heap) (locs : List Loc), va_P (dC, dI) vwCl [] H → va_D A [] → va_S A s.heap H locs → ∀ (ls : Array Slot), lv_has ls 14 [(0, .long y0), (2, .long y2), (4, .int y4), (5, .int y5), (6, .int y6), (7, .int y7)] →
  W p l e { frames := 0, cells := 0, slots := 0, locals := 0 } s m args below meth c H locs 0 0 (MQ below (dc_Q (dC, dI) (some (.int (bI rv))) (fun x : Unit => True) (fun x => []) A) args s 0 0 A) (F0 m 0 ls [])
def b_Pla_isCrossedFrom_36 (y0 : Int64) (y2 : Int64) (y4 : Int32) (y5 : Int32) (y6 : Int32) (y7 : Int32) (x8 : Int32) (s0 : Int32) : Option (Bool) :=
  if x8 = s0 then (some false) else (if s0 = 0 then (if 0 ≤ (lg_cmp ((y6.toInt64 - y4.toInt64) * (y2 - ((2 : Int64) * y5.toInt64))) ((y7.toInt64 - y5.toInt64) * (y0 - ((2 : Int64) * y4.toInt64)))) then (some false) else (some true)) else (if (lg_cmp ((y6.toInt64 - y4.toInt64) * (y2 - ((2 : Int64) * y5.toInt64))) ((y7.toInt64 - y5.toInt64) * (y0 - ((2 : Int64) * y4.toInt64)))) ≤ 0 then (some false) else (some true)))
set_option maxHeartbeats 4000000 in
set_option maxRecDepth 100000 in
theorem s_Pla_isCrossedFrom_36 (p : Program) (l : Launch) (e : Env) (s : State) (m : MethodId) (args : Array Value) (below : List Frame) (meth : Method) (c : Code) (dC : Nat → ClassId) (dI : Nat → Nat → Nat) (cI : dcG) (A : Nat → Prop) (y0 : Int64) (y2 : Int64) (y4 : Int32) (y5 : Int32) (y6 : Int32) (y7 : Int32) (rv : Bool) (C0 : dc_At p s m args meth c prog_5_method_6_code 14 R_Pla (some .boolean)) (hK : va_K (dC, dI) vwCl (dcT cI) s) (hA : ∀ q, s.heap.size ≤ q → A q) : T_Pla_isCrossedFrom_36 p l e s m args below meth c dC dI cI A y0 y2 y4 y5 y6 y7 rv (b_Pla_isCrossedFrom_36 y0 y2 y4 y5 y6 y7) := by
  obtain ⟨hx, hb, hml, hown, hts, hr, hlocks, hN⟩ := id C0
  intro x8 s0 hf H locs hP hD hS ls hl
  unfold b_Pla_isCrossedFrom_36 at hf
  refine lv_istore (lv' := [(9, .int s0), (0, .long y0), (2, .long y2), (4, .int y4), (5, .int y5), (6, .int y6), (7, .int y7), (8, .int x8)]) hx hb d_Pla_isCrossedFrom_36 hl (by decide) rfl (fun ls hl => ?_)
  refine lv_iload hx hb d_Pla_isCrossedFrom_38 (lv_at hl 7 rfl) ?_
  refine lv_iload hx hb d_Pla_isCrossedFrom_40 (lv_at hl 0 rfl) ?_
  refine lv_icmp_ne (tgt := 47) hx hb d_Pla_isCrossedFrom_42 (by decide) (fun c_1 => ?_) (fun c_1 => ?_)
  · have hf := (if_neg c_1).symm.trans hf
    refine lv_iload hx hb d_Pla_isCrossedFrom_47 (lv_at hl 5 rfl) ?_
    refine lv_i2l hx hb d_Pla_isCrossedFrom_49 rfl ?_
    refine lv_iload hx hb d_Pla_isCrossedFrom_50 (lv_at hl 3 rfl) ?_
    refine lv_i2l hx hb d_Pla_isCrossedFrom_52 rfl ?_
    refine lv_lsub hx hb d_Pla_isCrossedFrom_53 ?_
    refine lv_lload_n hx hb d_Pla_isCrossedFrom_54 rfl (lv_at hl 2 rfl) ?_
    refine lv_ldc2 (v := 2) hx hb hown (hts _ wm_444) d_Pla_isCrossedFrom_55 ?_
    refine lv_iload hx hb d_Pla_isCrossedFrom_58 (lv_at hl 4 rfl) ?_
    refine lv_i2l hx hb d_Pla_isCrossedFrom_60 rfl ?_
    refine lv_lmul hx hb d_Pla_isCrossedFrom_61 ?_
    refine lv_lsub hx hb d_Pla_isCrossedFrom_62 ?_
    refine lv_lmul hx hb d_Pla_isCrossedFrom_63 ?_
    refine lv_lstore (lv' := [(10, .long ((y6.toInt64 - y4.toInt64) * (y2 - ((2 : Int64) * y5.toInt64)))), (9, .int s0), (0, .long y0), (2, .long y2), (4, .int y4), (5, .int y5), (6, .int y6), (7, .int y7), (8, .int x8)]) hx hb d_Pla_isCrossedFrom_64 hl (by decide) rfl (fun ls hl => ?_)
    refine lv_iload hx hb d_Pla_isCrossedFrom_66 (lv_at hl 7 rfl) ?_
    refine lv_i2l hx hb d_Pla_isCrossedFrom_68 rfl ?_
    refine lv_iload hx hb d_Pla_isCrossedFrom_69 (lv_at hl 5 rfl) ?_
    refine lv_i2l hx hb d_Pla_isCrossedFrom_71 rfl ?_
    refine lv_lsub hx hb d_Pla_isCrossedFrom_72 ?_
    refine lv_lload_n hx hb d_Pla_isCrossedFrom_73 rfl (lv_at hl 2 rfl) ?_
    refine lv_ldc2 (v := 2) hx hb hown (hts _ wm_444) d_Pla_isCrossedFrom_74 ?_
    refine lv_iload hx hb d_Pla_isCrossedFrom_77 (lv_at hl 4 rfl) ?_
    refine lv_i2l hx hb d_Pla_isCrossedFrom_79 rfl ?_
    refine lv_lmul hx hb d_Pla_isCrossedFrom_80 ?_
    refine lv_lsub hx hb d_Pla_isCrossedFrom_81 ?_
    refine lv_lmul hx hb d_Pla_isCrossedFrom_82 ?_
    refine lv_lstore (lv' := [(12, .long ((y7.toInt64 - y5.toInt64) * (y0 - ((2 : Int64) * y4.toInt64)))), (10, .long ((y6.toInt64 - y4.toInt64) * (y2 - ((2 : Int64) * y5.toInt64)))), (9, .int s0), (0, .long y0), (2, .long y2), (4, .int y4), (5, .int y5), (6, .int y6), (7, .int y7), (8, .int x8)]) hx hb d_Pla_isCrossedFrom_83 hl (by decide) rfl (fun ls hl => ?_)
    refine lv_iload hx hb d_Pla_isCrossedFrom_85 (lv_at hl 2 rfl) ?_
    refine lv_if_eq (tgt := 106) hx hb d_Pla_isCrossedFrom_87 (by decide) (fun c_2 => ?_) (fun c_2 => ?_)
    · have hf := (if_pos c_2).symm.trans hf
      refine lv_lload hx hb d_Pla_isCrossedFrom_106 (lv_at hl 1 rfl) ?_
      refine lv_lload hx hb d_Pla_isCrossedFrom_108 (lv_at hl 0 rfl) ?_
      refine W.lcmp hx hb d_Pla_isCrossedFrom_110 ?_
      refine lv_if_ge (tgt := 118) hx hb d_Pla_isCrossedFrom_111 (by decide) (fun c_3 => ?_) (fun c_3 => ?_)
      · have hf := (if_pos c_3).symm.trans hf
        refine lv_iconst (v := 0) hx hb d_Pla_isCrossedFrom_118 (by decide) ?_
        have hg0 := Option.some.inj hf
        subst hg0
        have hP9 : va_P (dC, dI) vwCl [] H := hP.sub [] rfl
        have hD9 : va_D A [] := hD.sub [] rfl rfl
        exact W.zret (v := (0 : Int32)) hx hb hr (nw_b false) (fun t ht hW => ⟨⟨rfl, (), trivial, by rw [ht]; exact hP9, hD9⟩, hS.F ht⟩) hS.2.2 d_Pla_isCrossedFrom_119
      · have hf := (if_neg c_3).symm.trans hf
        refine lv_iconst (v := 1) hx hb d_Pla_isCrossedFrom_114 (by decide) ?_
        refine lv_goto (tgt := 119) hx hb d_Pla_isCrossedFrom_115 (by decide) ?_
        have hg0 := Option.some.inj hf
        subst hg0
        have hP9 : va_P (dC, dI) vwCl [] H := hP.sub [] rfl
        have hD9 : va_D A [] := hD.sub [] rfl rfl
        exact W.zret (v := (1 : Int32)) hx hb hr (nw_b true) (fun t ht hW => ⟨⟨rfl, (), trivial, by rw [ht]; exact hP9, hD9⟩, hS.F ht⟩) hS.2.2 d_Pla_isCrossedFrom_119
    · have hf := (if_neg c_2).symm.trans hf
      refine lv_lload hx hb d_Pla_isCrossedFrom_90 (lv_at hl 1 rfl) ?_
      refine lv_lload hx hb d_Pla_isCrossedFrom_92 (lv_at hl 0 rfl) ?_
      refine W.lcmp hx hb d_Pla_isCrossedFrom_94 ?_
      refine lv_if_le (tgt := 102) hx hb d_Pla_isCrossedFrom_95 (by decide) (fun c_4 => ?_) (fun c_4 => ?_)
      · have hf := (if_pos c_4).symm.trans hf
        refine lv_iconst (v := 0) hx hb d_Pla_isCrossedFrom_102 (by decide) ?_
        refine lv_goto (tgt := 119) hx hb d_Pla_isCrossedFrom_103 (by decide) ?_
        have hg0 := Option.some.inj hf
        subst hg0
        have hP9 : va_P (dC, dI) vwCl [] H := hP.sub [] rfl
        have hD9 : va_D A [] := hD.sub [] rfl rfl
        exact W.zret (v := (0 : Int32)) hx hb hr (nw_b false) (fun t ht hW => ⟨⟨rfl, (), trivial, by rw [ht]; exact hP9, hD9⟩, hS.F ht⟩) hS.2.2 d_Pla_isCrossedFrom_119
      · have hf := (if_neg c_4).symm.trans hf
        refine lv_iconst (v := 1) hx hb d_Pla_isCrossedFrom_98 (by decide) ?_
        refine lv_goto (tgt := 119) hx hb d_Pla_isCrossedFrom_99 (by decide) ?_
        have hg0 := Option.some.inj hf
        subst hg0
        have hP9 : va_P (dC, dI) vwCl [] H := hP.sub [] rfl
        have hD9 : va_D A [] := hD.sub [] rfl rfl
        exact W.zret (v := (1 : Int32)) hx hb hr (nw_b true) (fun t ht hW => ⟨⟨rfl, (), trivial, by rw [ht]; exact hP9, hD9⟩, hS.F ht⟩) hS.2.2 d_Pla_isCrossedFrom_119
  · have hf := (if_pos c_1).symm.trans hf
    refine lv_iconst (v := 0) hx hb d_Pla_isCrossedFrom_45 (by decide) ?_
    have hg0 := Option.some.inj hf
    subst hg0
    have hP9 : va_P (dC, dI) vwCl [] H := hP.sub [] rfl
    have hD9 : va_D A [] := hD.sub [] rfl rfl
    exact W.zret (v := (0 : Int32)) hx hb hr (nw_b false) (fun t ht hW => ⟨⟨rfl, (), trivial, by rw [ht]; exact hP9, hD9⟩, hS.F ht⟩) hS.2.2 d_Pla_isCrossedFrom_46
def b_Pla_isCrossedFrom_17 (y0 : Int64) (y2 : Int64) (y4 : Int32) (y5 : Int32) (y6 : Int32) (y7 : Int32) (s0 : Int32) : Option (Bool) :=
  if (lg_cmp ((2 : Int64) * y7.toInt64) y2) ≤ 0 then (b_Pla_isCrossedFrom_36 y0 y2 y4 y5 y6 y7 s0 (0 : Int32)) else (b_Pla_isCrossedFrom_36 y0 y2 y4 y5 y6 y7 s0 (1 : Int32))
set_option maxHeartbeats 4000000 in
set_option maxRecDepth 100000 in
theorem s_Pla_isCrossedFrom_17 (p : Program) (l : Launch) (e : Env) (s : State) (m : MethodId) (args : Array Value) (below : List Frame) (meth : Method) (c : Code) (dC : Nat → ClassId) (dI : Nat → Nat → Nat) (cI : dcG) (A : Nat → Prop) (y0 : Int64) (y2 : Int64) (y4 : Int32) (y5 : Int32) (y6 : Int32) (y7 : Int32) (rv : Bool) (C0 : dc_At p s m args meth c prog_5_method_6_code 14 R_Pla (some .boolean)) (hK : va_K (dC, dI) vwCl (dcT cI) s) (hA : ∀ q, s.heap.size ≤ q → A q) : T_Pla_isCrossedFrom_17 p l e s m args below meth c dC dI cI A y0 y2 y4 y5 y6 y7 rv (b_Pla_isCrossedFrom_17 y0 y2 y4 y5 y6 y7) := by
  obtain ⟨hx, hb, hml, hown, hts, hr, hlocks, hN⟩ := id C0
  intro s0 hf H locs hP hD hS ls hl
  unfold b_Pla_isCrossedFrom_17 at hf
  refine lv_istore (lv' := [(8, .int s0), (0, .long y0), (2, .long y2), (4, .int y4), (5, .int y5), (6, .int y6), (7, .int y7)]) hx hb d_Pla_isCrossedFrom_17 hl (by decide) rfl (fun ls hl => ?_)
  refine lv_ldc2 (v := 2) hx hb hown (hts _ wm_444) d_Pla_isCrossedFrom_19 ?_
  refine lv_iload hx hb d_Pla_isCrossedFrom_22 (lv_at hl 6 rfl) ?_
  refine lv_i2l hx hb d_Pla_isCrossedFrom_24 rfl ?_
  refine lv_lmul hx hb d_Pla_isCrossedFrom_25 ?_
  refine lv_lload_n hx hb d_Pla_isCrossedFrom_26 rfl (lv_at hl 2 rfl) ?_
  refine W.lcmp hx hb d_Pla_isCrossedFrom_27 ?_
  refine lv_if_le (tgt := 35) hx hb d_Pla_isCrossedFrom_28 (by decide) (fun c_5 => ?_) (fun c_5 => ?_)
  · have hf := (if_pos c_5).symm.trans hf
    refine lv_iconst (v := 0) hx hb d_Pla_isCrossedFrom_35 (by decide) ?_
    exact (s_Pla_isCrossedFrom_36 p l e s m args below meth c dC dI cI A y0 y2 y4 y5 y6 y7 rv C0 hK hA  ) s0 (0 : Int32) hf H locs hP hD hS ls (lv_sub hl [1, 2, 3, 4, 5, 6, 0] rfl)
  · have hf := (if_neg c_5).symm.trans hf
    refine lv_iconst (v := 1) hx hb d_Pla_isCrossedFrom_31 (by decide) ?_
    refine lv_goto (tgt := 36) hx hb d_Pla_isCrossedFrom_32 (by decide) ?_
    exact (s_Pla_isCrossedFrom_36 p l e s m args below meth c dC dI cI A y0 y2 y4 y5 y6 y7 rv C0 hK hA  ) s0 (1 : Int32) hf H locs hP hD hS ls (lv_sub hl [1, 2, 3, 4, 5, 6, 0] rfl)
def b_Pla_isCrossedFrom_0 (y0 : Int64) (y2 : Int64) (y4 : Int32) (y5 : Int32) (y6 : Int32) (y7 : Int32)  : Option (Bool) :=
  if (lg_cmp ((2 : Int64) * y5.toInt64) y2) ≤ 0 then (b_Pla_isCrossedFrom_17 y0 y2 y4 y5 y6 y7 (0 : Int32)) else (b_Pla_isCrossedFrom_17 y0 y2 y4 y5 y6 y7 (1 : Int32))
set_option maxHeartbeats 4000000 in
set_option maxRecDepth 100000 in
theorem s_Pla_isCrossedFrom_0 (p : Program) (l : Launch) (e : Env) (s : State) (m : MethodId) (args : Array Value) (below : List Frame) (meth : Method) (c : Code) (dC : Nat → ClassId) (dI : Nat → Nat → Nat) (cI : dcG) (A : Nat → Prop) (y0 : Int64) (y2 : Int64) (y4 : Int32) (y5 : Int32) (y6 : Int32) (y7 : Int32) (rv : Bool) (C0 : dc_At p s m args meth c prog_5_method_6_code 14 R_Pla (some .boolean)) (hK : va_K (dC, dI) vwCl (dcT cI) s) (hA : ∀ q, s.heap.size ≤ q → A q) : T_Pla_isCrossedFrom_0 p l e s m args below meth c dC dI cI A y0 y2 y4 y5 y6 y7 rv (b_Pla_isCrossedFrom_0 y0 y2 y4 y5 y6 y7) := by
  obtain ⟨hx, hb, hml, hown, hts, hr, hlocks, hN⟩ := id C0
  intro hf H locs hP hD hS ls hl
  unfold b_Pla_isCrossedFrom_0 at hf
  refine lv_ldc2 (v := 2) hx hb hown (hts _ wm_444) d_Pla_isCrossedFrom_0 ?_
  refine lv_iload hx hb d_Pla_isCrossedFrom_3 (lv_at hl 3 rfl) ?_
  refine lv_i2l hx hb d_Pla_isCrossedFrom_5 rfl ?_
  refine lv_lmul hx hb d_Pla_isCrossedFrom_6 ?_
  refine lv_lload_n hx hb d_Pla_isCrossedFrom_7 rfl (lv_at hl 1 rfl) ?_
  refine W.lcmp hx hb d_Pla_isCrossedFrom_8 ?_
  refine lv_if_le (tgt := 16) hx hb d_Pla_isCrossedFrom_9 (by decide) (fun c_6 => ?_) (fun c_6 => ?_)
  · have hf := (if_pos c_6).symm.trans hf
    refine lv_iconst (v := 0) hx hb d_Pla_isCrossedFrom_16 (by decide) ?_
    exact (s_Pla_isCrossedFrom_17 p l e s m args below meth c dC dI cI A y0 y2 y4 y5 y6 y7 rv C0 hK hA  ) (0 : Int32) hf H locs hP hD hS ls (lv_sub hl [0, 1, 2, 3, 4, 5] rfl)
  · have hf := (if_neg c_6).symm.trans hf
    refine lv_iconst (v := 1) hx hb d_Pla_isCrossedFrom_12 (by decide) ?_
    refine lv_goto (tgt := 17) hx hb d_Pla_isCrossedFrom_13 (by decide) ?_
    exact (s_Pla_isCrossedFrom_17 p l e s m args below meth c dC dI cI A y0 y2 y4 y5 y6 y7 rv C0 hK hA  ) (1 : Int32) hf H locs hP hD hS ls (lv_sub hl [0, 1, 2, 3, 4, 5] rfl)
def f_Pla_isCrossedFrom (y0 : Int64) (y2 : Int64) (y4 : Int32) (y5 : Int32) (y6 : Int32) (y7 : Int32) : Option (Bool) :=
  b_Pla_isCrossedFrom_0 y0 y2 y4 y5 y6 y7 
set_option maxHeartbeats 4000000 in
set_option maxRecDepth 100000 in
theorem c_Pla_isCrossedFrom (l : Launch) (dC : Nat → ClassId) (dI : Nat → Nat → Nat) (cI : dcG) (y0 : Int64) (y2 : Int64) (y4 : Int32) (y5 : Int32) (y6 : Int32) (y7 : Int32) (rv : Bool) (sz : Nat) (hf : f_Pla_isCrossedFrom y0 y2 y4 y5 y6 y7 = some rv) : Met l y_Pla_isCrossedFrom w_Pla_isCrossedFrom { frames := 0, cells := 0, slots := 0, locals := 0 } (dc_Pre (dC, dI) (dcT cI) [] sz [.long y0, .long y2, .int y4, .int y5, .int y6, .int y7]) (dc_Q (dC, dI) (some (.int (bI rv))) (fun x : Unit => True) (fun x => []) (va_A [] sz)) 0 0 (va_A [] sz) := by
  refine Met.ofW (cc := prog_5_method_6_code) (maxL := 14) (ret := (some .boolean)) (by decide) rfl ?_
  intro p e s m args below meth c s₁ B hml hv
  obtain ⟨rfl, hsz, hP, hK, hD0, hN⟩ := hv
  have C0 : dc_At p s m [.long y0, .long y2, .int y4, .int y5, .int y6, .int y7].toArray meth c prog_5_method_6_code 14 R_Pla (some .boolean) := ⟨B.exec, B.bytes, hml, findClass_of_methodNamed B.named, fun w h => atoms_spec (ws := w_Pla_isCrossedFrom) B.pre w (List.mem_cons_of_mem _ h), B.returns, B.notSynchronized, hN⟩
  subst hsz
  have hD := hD0.self (sz := s.heap.size)
  generalize hAe : va_A [] s.heap.size = A at hD ⊢
  have hA : ∀ q : Nat, s.heap.size ≤ q → A q := fun q h => by rw [← hAe]; exact Or.inr h
  have hl := lv_entry ([.long y0, .long y2, .int y4, .int y5, .int y6, .int y7]) (n := 14) (Nat.le_of_ble_eq_true rfl)
  rw [lg_entry_eq]
  generalize (lg_sl ([.long y0, .long y2, .int y4, .int y5, .int y6, .int y7]) ++ List.replicate (14 - (lg_sl ([.long y0, .long y2, .int y4, .int y5, .int y6, .int y7])).length) Slot.unset).toArray = ls at hl ⊢
  exact s_Pla_isCrossedFrom_0 p l e s m _ below meth c dC dI cI A y0 y2 y4 y5 y6 y7 rv C0 hK hA  hf s.heap [] hP hD va_S.rf ls (lv_sub hl [0, 1, 2, 3, 4, 5] rfl)
def T_Pla_isLess_0 (p : Program) (l : Launch) (e : Env) (s : State) (m : MethodId) (args : Array Value) (below : List Frame) (meth : Method) (c : Code) (dC : Nat → ClassId) (dI : Nat → Nat → Nat) (cI : dcG) (A : Nat → Prop) (y0 : Int32) (y1 : Int32) (y2 : Int32) (y3 : Int32) (rv : Bool) (g : Option (Bool)) : Prop :=
  g  = some rv → 
  ∀ (H : Heap) (locs : List Loc), va_P (dC, dI) vwCl [] H → va_D A [] → va_S A s.heap H locs → ∀ (ls : Array Slot), lv_has ls 4 [(0, .int y0), (1, .int y1), (2, .int y2), (3, .int y3)] →
  W p l e { frames := 0, cells := 0, slots := 0, locals := 0 } s m args below meth c H locs 0 0 (MQ below (dc_Q (dC, dI) (some (.int (bI rv))) (fun x : Unit => True) (fun x => []) A) args s 0 0 A) (F0 m 0 ls [])
def b_Pla_isLess_0 (y0 : Int32) (y1 : Int32) (y2 : Int32) (y3 : Int32)  : Option (Bool) :=
  if y0 < y2 then (some true) else (if y0 = y2 then (if y3 ≤ y1 then (some false) else (some true)) else (some false))
set_option maxHeartbeats 4000000 in
set_option maxRecDepth 100000 in
theorem s_Pla_isLess_0 (p : Program) (l : Launch) (e : Env) (s : State) (m : MethodId) (args : Array Value) (below : List Frame) (meth : Method) (c : Code) (dC : Nat → ClassId) (dI : Nat → Nat → Nat) (cI : dcG) (A : Nat → Prop) (y0 : Int32) (y1 : Int32) (y2 : Int32) (y3 : Int32) (rv : Bool) (C0 : dc_At p s m args meth c prog_5_method_2_code 4 R_Pla (some .boolean)) (hK : va_K (dC, dI) vwCl (dcT cI) s) (hA : ∀ q, s.heap.size ≤ q → A q) : T_Pla_isLess_0 p l e s m args below meth c dC dI cI A y0 y1 y2 y3 rv (b_Pla_isLess_0 y0 y1 y2 y3) := by
  obtain ⟨hx, hb, hml, hown, hts, hr, hlocks, hN⟩ := id C0
  intro hf H locs hP hD hS ls hl
  unfold b_Pla_isLess_0 at hf
  refine lv_iload_n hx hb d_Pla_isLess_0 rfl (lv_at hl 0 rfl) ?_
  refine lv_iload_n hx hb d_Pla_isLess_1 rfl (lv_at hl 2 rfl) ?_
  refine lv_icmp_lt (tgt := 15) hx hb d_Pla_isLess_2 (by decide) (fun c_1 => ?_) (fun c_1 => ?_)
  · have hf := (if_pos c_1).symm.trans hf
    refine lv_iconst (v := 1) hx hb d_Pla_isLess_15 (by decide) ?_
    refine lv_goto (tgt := 20) hx hb d_Pla_isLess_16 (by decide) ?_
    have hg0 := Option.some.inj hf
    subst hg0
    have hP9 : va_P (dC, dI) vwCl [] H := hP.sub [] rfl
    have hD9 : va_D A [] := hD.sub [] rfl rfl
    exact W.zret (v := (1 : Int32)) hx hb hr (nw_b true) (fun t ht hW => ⟨⟨rfl, (), trivial, by rw [ht]; exact hP9, hD9⟩, hS.F ht⟩) hS.2.2 d_Pla_isLess_20
  · have hf := (if_neg c_1).symm.trans hf
    refine lv_iload_n hx hb d_Pla_isLess_5 rfl (lv_at hl 0 rfl) ?_
    refine lv_iload_n hx hb d_Pla_isLess_6 rfl (lv_at hl 2 rfl) ?_
    refine lv_icmp_ne (tgt := 19) hx hb d_Pla_isLess_7 (by decide) (fun c_2 => ?_) (fun c_2 => ?_)
    · have hf := (if_neg c_2).symm.trans hf
      refine lv_iconst (v := 0) hx hb d_Pla_isLess_19 (by decide) ?_
      have hg0 := Option.some.inj hf
      subst hg0
      have hP9 : va_P (dC, dI) vwCl [] H := hP.sub [] rfl
      have hD9 : va_D A [] := hD.sub [] rfl rfl
      exact W.zret (v := (0 : Int32)) hx hb hr (nw_b false) (fun t ht hW => ⟨⟨rfl, (), trivial, by rw [ht]; exact hP9, hD9⟩, hS.F ht⟩) hS.2.2 d_Pla_isLess_20
    · have hf := (if_pos c_2).symm.trans hf
      refine lv_iload_n hx hb d_Pla_isLess_10 rfl (lv_at hl 1 rfl) ?_
      refine lv_iload_n hx hb d_Pla_isLess_11 rfl (lv_at hl 3 rfl) ?_
      refine lv_icmp_ge (tgt := 19) hx hb d_Pla_isLess_12 (by decide) (fun c_3 => ?_) (fun c_3 => ?_)
      · have hf := (if_pos c_3).symm.trans hf
        refine lv_iconst (v := 0) hx hb d_Pla_isLess_19 (by decide) ?_
        have hg0 := Option.some.inj hf
        subst hg0
        have hP9 : va_P (dC, dI) vwCl [] H := hP.sub [] rfl
        have hD9 : va_D A [] := hD.sub [] rfl rfl
        exact W.zret (v := (0 : Int32)) hx hb hr (nw_b false) (fun t ht hW => ⟨⟨rfl, (), trivial, by rw [ht]; exact hP9, hD9⟩, hS.F ht⟩) hS.2.2 d_Pla_isLess_20
      · have hf := (if_neg c_3).symm.trans hf
        refine lv_iconst (v := 1) hx hb d_Pla_isLess_15 (by decide) ?_
        refine lv_goto (tgt := 20) hx hb d_Pla_isLess_16 (by decide) ?_
        have hg0 := Option.some.inj hf
        subst hg0
        have hP9 : va_P (dC, dI) vwCl [] H := hP.sub [] rfl
        have hD9 : va_D A [] := hD.sub [] rfl rfl
        exact W.zret (v := (1 : Int32)) hx hb hr (nw_b true) (fun t ht hW => ⟨⟨rfl, (), trivial, by rw [ht]; exact hP9, hD9⟩, hS.F ht⟩) hS.2.2 d_Pla_isLess_20
def f_Pla_isLess (y0 : Int32) (y1 : Int32) (y2 : Int32) (y3 : Int32) : Option (Bool) :=
  b_Pla_isLess_0 y0 y1 y2 y3 
set_option maxHeartbeats 4000000 in
set_option maxRecDepth 100000 in
theorem c_Pla_isLess (l : Launch) (dC : Nat → ClassId) (dI : Nat → Nat → Nat) (cI : dcG) (y0 : Int32) (y1 : Int32) (y2 : Int32) (y3 : Int32) (rv : Bool) (sz : Nat) (hf : f_Pla_isLess y0 y1 y2 y3 = some rv) : Met l y_Pla_isLess w_Pla_isLess { frames := 0, cells := 0, slots := 0, locals := 0 } (dc_Pre (dC, dI) (dcT cI) [] sz [.int y0, .int y1, .int y2, .int y3]) (dc_Q (dC, dI) (some (.int (bI rv))) (fun x : Unit => True) (fun x => []) (va_A [] sz)) 0 0 (va_A [] sz) := by
  refine Met.ofW (cc := prog_5_method_2_code) (maxL := 4) (ret := (some .boolean)) (by decide) rfl ?_
  intro p e s m args below meth c s₁ B hml hv
  obtain ⟨rfl, hsz, hP, hK, hD0, hN⟩ := hv
  have C0 : dc_At p s m [.int y0, .int y1, .int y2, .int y3].toArray meth c prog_5_method_2_code 4 R_Pla (some .boolean) := ⟨B.exec, B.bytes, hml, findClass_of_methodNamed B.named, fun w h => atoms_spec (ws := w_Pla_isLess) B.pre w (List.mem_cons_of_mem _ h), B.returns, B.notSynchronized, hN⟩
  subst hsz
  have hD := hD0.self (sz := s.heap.size)
  generalize hAe : va_A [] s.heap.size = A at hD ⊢
  have hA : ∀ q : Nat, s.heap.size ≤ q → A q := fun q h => by rw [← hAe]; exact Or.inr h
  have hl := lv_entry ([.int y0, .int y1, .int y2, .int y3]) (n := 4) (Nat.le_of_ble_eq_true rfl)
  rw [lg_entry_eq]
  generalize (lg_sl ([.int y0, .int y1, .int y2, .int y3]) ++ List.replicate (4 - (lg_sl ([.int y0, .int y1, .int y2, .int y3])).length) Slot.unset).toArray = ls at hl ⊢
  exact s_Pla_isLess_0 p l e s m _ below meth c dC dI cI A y0 y1 y2 y3 rv C0 hK hA  hf s.heap [] hP hD va_S.rf ls (lv_sub hl [0, 1, 2, 3] rfl)
def T_Pla_side_0 (p : Program) (l : Launch) (e : Env) (s : State) (m : MethodId) (args : Array Value) (below : List Frame) (meth : Method) (c : Code) (dC : Nat → ClassId) (dI : Nat → Nat → Nat) (cI : dcG) (A : Nat → Prop) (y0 : Int32) (y1 : Int32) (y2 : Int32) (y3 : Int32) (y4 : Int32) (y5 : Int32) (rv : Int32) (g : Option (Int32)) : Prop :=
  g  = some rv → 
  ∀ (H : Heap) (locs : List Loc), va_P (dC, dI) vwCl [] H → va_D A [] → va_S A s.heap H locs → ∀ (ls : Array Slot), lv_has ls 10 [(0, .int y0), (1, .int y1), (2, .int y2), (3, .int y3), (4, .int y4), (5, .int y5)] →
  W p l e { frames := 0, cells := 0, slots := 0, locals := 0 } s m args below meth c H locs 0 0 (MQ below (dc_Q (dC, dI) (some (.int rv)) (fun x : Unit => True) (fun x => []) A) args s 0 0 A) (F0 m 0 ls [])
def b_Pla_side_0 (y0 : Int32) (y1 : Int32) (y2 : Int32) (y3 : Int32) (y4 : Int32) (y5 : Int32)  : Option (Int32) :=
  if (lg_cmp ((y2.toInt64 - y0.toInt64) * (y5.toInt64 - y1.toInt64)) ((y3.toInt64 - y1.toInt64) * (y4.toInt64 - y0.toInt64))) ≤ 0 then (if 0 ≤ (lg_cmp ((y2.toInt64 - y0.toInt64) * (y5.toInt64 - y1.toInt64)) ((y3.toInt64 - y1.toInt64) * (y4.toInt64 - y0.toInt64))) then (some (0 : Int32)) else (some (-1 : Int32))) else (some (1 : Int32))
set_option maxHeartbeats 4000000 in
set_option maxRecDepth 100000 in
theorem s_Pla_side_0 (p : Program) (l : Launch) (e : Env) (s : State) (m : MethodId) (args : Array Value) (below : List Frame) (meth : Method) (c : Code) (dC : Nat → ClassId) (dI : Nat → Nat → Nat) (cI : dcG) (A : Nat → Prop) (y0 : Int32) (y1 : Int32) (y2 : Int32) (y3 : Int32) (y4 : Int32) (y5 : Int32) (rv : Int32) (C0 : dc_At p s m args meth c prog_5_method_3_code 10 R_Pla (some .int)) (hK : va_K (dC, dI) vwCl (dcT cI) s) (hA : ∀ q, s.heap.size ≤ q → A q) : T_Pla_side_0 p l e s m args below meth c dC dI cI A y0 y1 y2 y3 y4 y5 rv (b_Pla_side_0 y0 y1 y2 y3 y4 y5) := by
  obtain ⟨hx, hb, hml, hown, hts, hr, hlocks, hN⟩ := id C0
  intro hf H locs hP hD hS ls hl
  unfold b_Pla_side_0 at hf
  refine lv_iload_n hx hb d_Pla_side_0 rfl (lv_at hl 2 rfl) ?_
  refine lv_i2l hx hb d_Pla_side_1 rfl ?_
  refine lv_iload_n hx hb d_Pla_side_2 rfl (lv_at hl 0 rfl) ?_
  refine lv_i2l hx hb d_Pla_side_3 rfl ?_
  refine lv_lsub hx hb d_Pla_side_4 ?_
  refine lv_iload hx hb d_Pla_side_5 (lv_at hl 5 rfl) ?_
  refine lv_i2l hx hb d_Pla_side_7 rfl ?_
  refine lv_iload_n hx hb d_Pla_side_8 rfl (lv_at hl 1 rfl) ?_
  refine lv_i2l hx hb d_Pla_side_9 rfl ?_
  refine lv_lsub hx hb d_Pla_side_10 ?_
  refine lv_lmul hx hb d_Pla_side_11 ?_
  refine lv_lstore (lv' := [(6, .long ((y2.toInt64 - y0.toInt64) * (y5.toInt64 - y1.toInt64))), (0, .int y0), (1, .int y1), (2, .int y2), (3, .int y3), (4, .int y4), (5, .int y5)]) hx hb d_Pla_side_12 hl (by decide) rfl (fun ls hl => ?_)
  refine lv_iload_n hx hb d_Pla_side_14 rfl (lv_at hl 4 rfl) ?_
  refine lv_i2l hx hb d_Pla_side_15 rfl ?_
  refine lv_iload_n hx hb d_Pla_side_16 rfl (lv_at hl 2 rfl) ?_
  refine lv_i2l hx hb d_Pla_side_17 rfl ?_
  refine lv_lsub hx hb d_Pla_side_18 ?_
  refine lv_iload hx hb d_Pla_side_19 (lv_at hl 5 rfl) ?_
  refine lv_i2l hx hb d_Pla_side_21 rfl ?_
  refine lv_iload_n hx hb d_Pla_side_22 rfl (lv_at hl 1 rfl) ?_
  refine lv_i2l hx hb d_Pla_side_23 rfl ?_
  refine lv_lsub hx hb d_Pla_side_24 ?_
  refine lv_lmul hx hb d_Pla_side_25 ?_
  refine lv_lstore (lv' := [(8, .long ((y3.toInt64 - y1.toInt64) * (y4.toInt64 - y0.toInt64))), (6, .long ((y2.toInt64 - y0.toInt64) * (y5.toInt64 - y1.toInt64))), (0, .int y0), (1, .int y1), (2, .int y2), (3, .int y3), (4, .int y4), (5, .int y5)]) hx hb d_Pla_side_26 hl (by decide) rfl (fun ls hl => ?_)
  refine lv_lload hx hb d_Pla_side_28 (lv_at hl 1 rfl) ?_
  refine lv_lload hx hb d_Pla_side_30 (lv_at hl 0 rfl) ?_
  refine W.lcmp hx hb d_Pla_side_32 ?_
  refine lv_if_le (tgt := 40) hx hb d_Pla_side_33 (by decide) (fun c_1 => ?_) (fun c_1 => ?_)
  · have hf := (if_pos c_1).symm.trans hf
    refine lv_lload hx hb d_Pla_side_40 (lv_at hl 1 rfl) ?_
    refine lv_lload hx hb d_Pla_side_42 (lv_at hl 0 rfl) ?_
    refine W.lcmp hx hb d_Pla_side_44 ?_
    refine lv_if_ge (tgt := 52) hx hb d_Pla_side_45 (by decide) (fun c_2 => ?_) (fun c_2 => ?_)
    · have hf := (if_pos c_2).symm.trans hf
      refine lv_iconst (v := 0) hx hb d_Pla_side_52 (by decide) ?_
      have hg0 := Option.some.inj hf
      subst hg0
      have hP9 : va_P (dC, dI) vwCl [] H := hP.sub [] rfl
      have hD9 : va_D A [] := hD.sub [] rfl rfl
      exact W.iret (v := (0 : Int32)) hx hb hr (fun t ht hW => ⟨⟨rfl, (), trivial, by rw [ht]; exact hP9, hD9⟩, hS.F ht⟩) hS.2.2 d_Pla_side_53
    · have hf := (if_neg c_2).symm.trans hf
      refine lv_iconst (v := (-1)) hx hb d_Pla_side_48 (by decide) ?_
      refine lv_goto (tgt := 53) hx hb d_Pla_side_49 (by decide) ?_
      have hg0 := Option.some.inj hf
      subst hg0
      have hP9 : va_P (dC, dI) vwCl [] H := hP.sub [] rfl
      have hD9 : va_D A [] := hD.sub [] rfl rfl
      exact W.iret (v := (-1 : Int32)) hx hb hr (fun t ht hW => ⟨⟨rfl, (), trivial, by rw [ht]; exact hP9, hD9⟩, hS.F ht⟩) hS.2.2 d_Pla_side_53
  · have hf := (if_neg c_1).symm.trans hf
    refine lv_iconst (v := 1) hx hb d_Pla_side_36 (by decide) ?_
    refine lv_goto (tgt := 53) hx hb d_Pla_side_37 (by decide) ?_
    have hg0 := Option.some.inj hf
    subst hg0
    have hP9 : va_P (dC, dI) vwCl [] H := hP.sub [] rfl
    have hD9 : va_D A [] := hD.sub [] rfl rfl
    exact W.iret (v := (1 : Int32)) hx hb hr (fun t ht hW => ⟨⟨rfl, (), trivial, by rw [ht]; exact hP9, hD9⟩, hS.F ht⟩) hS.2.2 d_Pla_side_53
def f_Pla_side (y0 : Int32) (y1 : Int32) (y2 : Int32) (y3 : Int32) (y4 : Int32) (y5 : Int32) : Option (Int32) :=
  b_Pla_side_0 y0 y1 y2 y3 y4 y5 
set_option maxHeartbeats 4000000 in
set_option maxRecDepth 100000 in
theorem c_Pla_side (l : Launch) (dC : Nat → ClassId) (dI : Nat → Nat → Nat) (cI : dcG) (y0 : Int32) (y1 : Int32) (y2 : Int32) (y3 : Int32) (y4 : Int32) (y5 : Int32) (rv : Int32) (sz : Nat) (hf : f_Pla_side y0 y1 y2 y3 y4 y5 = some rv) : Met l y_Pla_side w_Pla_side { frames := 0, cells := 0, slots := 0, locals := 0 } (dc_Pre (dC, dI) (dcT cI) [] sz [.int y0, .int y1, .int y2, .int y3, .int y4, .int y5]) (dc_Q (dC, dI) (some (.int rv)) (fun x : Unit => True) (fun x => []) (va_A [] sz)) 0 0 (va_A [] sz) := by
  refine Met.ofW (cc := prog_5_method_3_code) (maxL := 10) (ret := (some .int)) (by decide) rfl ?_
  intro p e s m args below meth c s₁ B hml hv
  obtain ⟨rfl, hsz, hP, hK, hD0, hN⟩ := hv
  have C0 : dc_At p s m [.int y0, .int y1, .int y2, .int y3, .int y4, .int y5].toArray meth c prog_5_method_3_code 10 R_Pla (some .int) := ⟨B.exec, B.bytes, hml, findClass_of_methodNamed B.named, fun w h => atoms_spec (ws := w_Pla_side) B.pre w (List.mem_cons_of_mem _ h), B.returns, B.notSynchronized, hN⟩
  subst hsz
  have hD := hD0.self (sz := s.heap.size)
  generalize hAe : va_A [] s.heap.size = A at hD ⊢
  have hA : ∀ q : Nat, s.heap.size ≤ q → A q := fun q h => by rw [← hAe]; exact Or.inr h
  have hl := lv_entry ([.int y0, .int y1, .int y2, .int y3, .int y4, .int y5]) (n := 10) (Nat.le_of_ble_eq_true rfl)
  rw [lg_entry_eq]
  generalize (lg_sl ([.int y0, .int y1, .int y2, .int y3, .int y4, .int y5]) ++ List.replicate (10 - (lg_sl ([.int y0, .int y1, .int y2, .int y3, .int y4, .int y5])).length) Slot.unset).toArray = ls at hl ⊢
  exact s_Pla_side_0 p l e s m _ below meth c dC dI cI A y0 y1 y2 y3 y4 y5 rv C0 hK hA  hf s.heap [] hP hD va_S.rf ls (lv_sub hl [0, 1, 2, 3, 4, 5] rfl)
def T_Pla_isBetween_26 (p : Program) (l : Launch) (e : Env) (s : State) (m : MethodId) (args : Array Value) (below : List Frame) (meth : Method) (c : Code) (dC : Nat → ClassId) (dI : Nat → Nat → Nat) (cI : dcG) (A : Nat → Prop) (y0 : Int32) (y1 : Int32) (y2 : Int32) (y3 : Int32) (y4 : Int32) (y5 : Int32) (rv : Bool) (g : Option (Bool)) : Prop :=
  g  = some rv → 
  ∀ (H : Heap) (locs : List Loc), va_P (dC, dI) vwCl [] H → va_D A [] → va_S A s.heap H locs → ∀ (ls : Array Slot), lv_has ls 6 [(0, .int y0), (1, .int y1), (2, .int y2), (3, .int y3), (4, .int y4), (5, .int y5)] →
  W p l e { frames := 1, cells := 0, slots := 0, locals := 21 } s m args below meth c H locs 0 0 (MQ below (dc_Q (dC, dI) (some (.int (bI rv))) (fun x : Unit => True) (fun x => []) A) args s 0 0 A) (F0 m 26 ls [])
def T_Pla_isBetween_12 (p : Program) (l : Launch) (e : Env) (s : State) (m : MethodId) (args : Array Value) (below : List Frame) (meth : Method) (c : Code) (dC : Nat → ClassId) (dI : Nat → Nat → Nat) (cI : dcG) (A : Nat → Prop) (y0 : Int32) (y1 : Int32) (y2 : Int32) (y3 : Int32) (y4 : Int32) (y5 : Int32) (rv : Bool) (g : Option (Bool)) : Prop :=
  g  = some rv → 
  ∀ (H : Heap) (locs : List Loc), va_P (dC, dI) vwCl [] H → va_D A [] → va_S A s.heap H locs → ∀ (ls : Array Slot), lv_has ls 6 [(0, .int y0), (1, .int y1), (2, .int y2), (3, .int y3), (4, .int y4), (5, .int y5)] →
  W p l e { frames := 1, cells := 0, slots := 0, locals := 21 } s m args below meth c H locs 0 0 (MQ below (dc_Q (dC, dI) (some (.int (bI rv))) (fun x : Unit => True) (fun x => []) A) args s 0 0 A) (F0 m 12 ls [])
def T_Pla_isBetween_0 (p : Program) (l : Launch) (e : Env) (s : State) (m : MethodId) (args : Array Value) (below : List Frame) (meth : Method) (c : Code) (dC : Nat → ClassId) (dI : Nat → Nat → Nat) (cI : dcG) (A : Nat → Prop) (y0 : Int32) (y1 : Int32) (y2 : Int32) (y3 : Int32) (y4 : Int32) (y5 : Int32) (rv : Bool) (g : Option (Bool)) : Prop :=
  g  = some rv → 
  ∀ (H : Heap) (locs : List Loc), va_P (dC, dI) vwCl [] H → va_D A [] → va_S A s.heap H locs → ∀ (ls : Array Slot), lv_has ls 6 [(0, .int y0), (1, .int y1), (2, .int y2), (3, .int y3), (4, .int y4), (5, .int y5)] →
  W p l e { frames := 1, cells := 0, slots := 0, locals := 21 } s m args below meth c H locs 0 0 (MQ below (dc_Q (dC, dI) (some (.int (bI rv))) (fun x : Unit => True) (fun x => []) A) args s 0 0 A) (F0 m 0 ls [])
def b_Pla_isBetween_26 (y0 : Int32) (y1 : Int32) (y2 : Int32) (y3 : Int32) (y4 : Int32) (y5 : Int32)  : Option (Bool) :=
  if y4 < (if y2 < y0 then y2 else y0) then (some false) else (if (if y0 < y2 then y2 else y0) < y4 then (some false) else (if y5 < (if y3 < y1 then y3 else y1) then (some false) else (if (if y1 < y3 then y3 else y1) < y5 then (some false) else (some true))))
set_option maxHeartbeats 4000000 in
set_option maxRecDepth 100000 in
theorem s_Pla_isBetween_26 (p : Program) (l : Launch) (e : Env) (s : State) (m : MethodId) (args : Array Value) (below : List Frame) (meth : Method) (c : Code) (dC : Nat → ClassId) (dI : Nat → Nat → Nat) (cI : dcG) (A : Nat → Prop) (y0 : Int32) (y1 : Int32) (y2 : Int32) (y3 : Int32) (y4 : Int32) (y5 : Int32) (rv : Bool) (C0 : dc_At p s m args meth c prog_5_method_4_code 6 R_Pla (some .boolean)) (hK : va_K (dC, dI) vwCl (dcT cI) s) (hA : ∀ q, s.heap.size ≤ q → A q) : T_Pla_isBetween_26 p l e s m args below meth c dC dI cI A y0 y1 y2 y3 y4 y5 rv (b_Pla_isBetween_26 y0 y1 y2 y3 y4 y5) := by
  obtain ⟨hx, hb, hml, hown, hts, hr, hlocks, hN⟩ := id C0
  intro hf H locs hP hD hS ls hl
  unfold b_Pla_isBetween_26 at hf
  refine lv_iload hx hb d_Pla_isBetween_26 (lv_at hl 4 rfl) ?_
  refine lv_iload_n hx hb d_Pla_isBetween_28 rfl (lv_at hl 0 rfl) ?_
  refine lv_iload_n hx hb d_Pla_isBetween_29 rfl (lv_at hl 2 rfl) ?_
  refine va_mmin hx hb (by rw [hml]; exact hl.1.symm) hown (hts _ wm_332) (hts _ wm_333) (hts _ wm_13) (hts _ wm_334) (Nat.le_of_ble_eq_true rfl) (Nat.le_of_ble_eq_true rfl) (Nat.zero_le _) (Nat.zero_le _) d_Pla_isBetween_30 ?_
  refine lv_icmp_lt (tgt := 70) hx hb d_Pla_isBetween_33 (by decide) (fun c_1 => ?_) (fun c_1 => ?_)
  · have hf := (if_pos c_1).symm.trans hf
    refine lv_iconst (v := 0) hx hb d_Pla_isBetween_70 (by decide) ?_
    have hg0 := Option.some.inj hf
    subst hg0
    have hP9 : va_P (dC, dI) vwCl [] H := hP.sub [] rfl
    have hD9 : va_D A [] := hD.sub [] rfl rfl
    exact W.zret (v := (0 : Int32)) hx hb hr (nw_b false) (fun t ht hW => ⟨⟨rfl, (), trivial, by rw [ht]; exact hP9, hD9⟩, hS.F ht⟩) hS.2.2 d_Pla_isBetween_71
  · have hf := (if_neg c_1).symm.trans hf
    refine lv_iload hx hb d_Pla_isBetween_36 (lv_at hl 4 rfl) ?_
    refine lv_iload_n hx hb d_Pla_isBetween_38 rfl (lv_at hl 0 rfl) ?_
    refine lv_iload_n hx hb d_Pla_isBetween_39 rfl (lv_at hl 2 rfl) ?_
    refine va_mmax hx hb (by rw [hml]; exact hl.1.symm) hown (hts _ wm_335) (hts _ wm_336) (hts _ wm_13) (hts _ wm_337) (Nat.le_of_ble_eq_true rfl) (Nat.le_of_ble_eq_true rfl) (Nat.zero_le _) (Nat.zero_le _) d_Pla_isBetween_40 ?_
    refine lv_icmp_gt (tgt := 70) hx hb d_Pla_isBetween_43 (by decide) (fun c_2 => ?_) (fun c_2 => ?_)
    · have hf := (if_pos c_2).symm.trans hf
      refine lv_iconst (v := 0) hx hb d_Pla_isBetween_70 (by decide) ?_
      have hg0 := Option.some.inj hf
      subst hg0
      have hP9 : va_P (dC, dI) vwCl [] H := hP.sub [] rfl
      have hD9 : va_D A [] := hD.sub [] rfl rfl
      exact W.zret (v := (0 : Int32)) hx hb hr (nw_b false) (fun t ht hW => ⟨⟨rfl, (), trivial, by rw [ht]; exact hP9, hD9⟩, hS.F ht⟩) hS.2.2 d_Pla_isBetween_71
    · have hf := (if_neg c_2).symm.trans hf
      refine lv_iload hx hb d_Pla_isBetween_46 (lv_at hl 5 rfl) ?_
      refine lv_iload_n hx hb d_Pla_isBetween_48 rfl (lv_at hl 1 rfl) ?_
      refine lv_iload_n hx hb d_Pla_isBetween_49 rfl (lv_at hl 3 rfl) ?_
      refine va_mmin hx hb (by rw [hml]; exact hl.1.symm) hown (hts _ wm_332) (hts _ wm_333) (hts _ wm_13) (hts _ wm_334) (Nat.le_of_ble_eq_true rfl) (Nat.le_of_ble_eq_true rfl) (Nat.zero_le _) (Nat.zero_le _) d_Pla_isBetween_50 ?_
      refine lv_icmp_lt (tgt := 70) hx hb d_Pla_isBetween_53 (by decide) (fun c_3 => ?_) (fun c_3 => ?_)
      · have hf := (if_pos c_3).symm.trans hf
        refine lv_iconst (v := 0) hx hb d_Pla_isBetween_70 (by decide) ?_
        have hg0 := Option.some.inj hf
        subst hg0
        have hP9 : va_P (dC, dI) vwCl [] H := hP.sub [] rfl
        have hD9 : va_D A [] := hD.sub [] rfl rfl
        exact W.zret (v := (0 : Int32)) hx hb hr (nw_b false) (fun t ht hW => ⟨⟨rfl, (), trivial, by rw [ht]; exact hP9, hD9⟩, hS.F ht⟩) hS.2.2 d_Pla_isBetween_71
      · have hf := (if_neg c_3).symm.trans hf
        refine lv_iload hx hb d_Pla_isBetween_56 (lv_at hl 5 rfl) ?_
        refine lv_iload_n hx hb d_Pla_isBetween_58 rfl (lv_at hl 1 rfl) ?_
        refine lv_iload_n hx hb d_Pla_isBetween_59 rfl (lv_at hl 3 rfl) ?_
        refine va_mmax hx hb (by rw [hml]; exact hl.1.symm) hown (hts _ wm_335) (hts _ wm_336) (hts _ wm_13) (hts _ wm_337) (Nat.le_of_ble_eq_true rfl) (Nat.le_of_ble_eq_true rfl) (Nat.zero_le _) (Nat.zero_le _) d_Pla_isBetween_60 ?_
        refine lv_icmp_gt (tgt := 70) hx hb d_Pla_isBetween_63 (by decide) (fun c_4 => ?_) (fun c_4 => ?_)
        · have hf := (if_pos c_4).symm.trans hf
          refine lv_iconst (v := 0) hx hb d_Pla_isBetween_70 (by decide) ?_
          have hg0 := Option.some.inj hf
          subst hg0
          have hP9 : va_P (dC, dI) vwCl [] H := hP.sub [] rfl
          have hD9 : va_D A [] := hD.sub [] rfl rfl
          exact W.zret (v := (0 : Int32)) hx hb hr (nw_b false) (fun t ht hW => ⟨⟨rfl, (), trivial, by rw [ht]; exact hP9, hD9⟩, hS.F ht⟩) hS.2.2 d_Pla_isBetween_71
        · have hf := (if_neg c_4).symm.trans hf
          refine lv_iconst (v := 1) hx hb d_Pla_isBetween_66 (by decide) ?_
          refine lv_goto (tgt := 71) hx hb d_Pla_isBetween_67 (by decide) ?_
          have hg0 := Option.some.inj hf
          subst hg0
          have hP9 : va_P (dC, dI) vwCl [] H := hP.sub [] rfl
          have hD9 : va_D A [] := hD.sub [] rfl rfl
          exact W.zret (v := (1 : Int32)) hx hb hr (nw_b true) (fun t ht hW => ⟨⟨rfl, (), trivial, by rw [ht]; exact hP9, hD9⟩, hS.F ht⟩) hS.2.2 d_Pla_isBetween_71
def b_Pla_isBetween_12 (y0 : Int32) (y1 : Int32) (y2 : Int32) (y3 : Int32) (y4 : Int32) (y5 : Int32)  : Option (Bool) :=
  if y4 = y2 then (if y5 = y3 then (some false) else (b_Pla_isBetween_26 y0 y1 y2 y3 y4 y5 )) else (b_Pla_isBetween_26 y0 y1 y2 y3 y4 y5 )
set_option maxHeartbeats 4000000 in
set_option maxRecDepth 100000 in
theorem s_Pla_isBetween_12 (p : Program) (l : Launch) (e : Env) (s : State) (m : MethodId) (args : Array Value) (below : List Frame) (meth : Method) (c : Code) (dC : Nat → ClassId) (dI : Nat → Nat → Nat) (cI : dcG) (A : Nat → Prop) (y0 : Int32) (y1 : Int32) (y2 : Int32) (y3 : Int32) (y4 : Int32) (y5 : Int32) (rv : Bool) (C0 : dc_At p s m args meth c prog_5_method_4_code 6 R_Pla (some .boolean)) (hK : va_K (dC, dI) vwCl (dcT cI) s) (hA : ∀ q, s.heap.size ≤ q → A q) : T_Pla_isBetween_12 p l e s m args below meth c dC dI cI A y0 y1 y2 y3 y4 y5 rv (b_Pla_isBetween_12 y0 y1 y2 y3 y4 y5) := by
  obtain ⟨hx, hb, hml, hown, hts, hr, hlocks, hN⟩ := id C0
  intro hf H locs hP hD hS ls hl
  unfold b_Pla_isBetween_12 at hf
  refine lv_iload hx hb d_Pla_isBetween_12 (lv_at hl 4 rfl) ?_
  refine lv_iload_n hx hb d_Pla_isBetween_14 rfl (lv_at hl 2 rfl) ?_
  refine lv_icmp_ne (tgt := 26) hx hb d_Pla_isBetween_15 (by decide) (fun c_5 => ?_) (fun c_5 => ?_)
  · have hf := (if_neg c_5).symm.trans hf
    exact (s_Pla_isBetween_26 p l e s m args below meth c dC dI cI A y0 y1 y2 y3 y4 y5 rv C0 hK hA  ) hf H locs hP hD hS ls (lv_sub hl [0, 1, 2, 3, 4, 5] rfl)
  · have hf := (if_pos c_5).symm.trans hf
    refine lv_iload hx hb d_Pla_isBetween_18 (lv_at hl 5 rfl) ?_
    refine lv_iload_n hx hb d_Pla_isBetween_20 rfl (lv_at hl 3 rfl) ?_
    refine lv_icmp_ne (tgt := 26) hx hb d_Pla_isBetween_21 (by decide) (fun c_6 => ?_) (fun c_6 => ?_)
    · have hf := (if_neg c_6).symm.trans hf
      exact (s_Pla_isBetween_26 p l e s m args below meth c dC dI cI A y0 y1 y2 y3 y4 y5 rv C0 hK hA  ) hf H locs hP hD hS ls (lv_sub hl [0, 1, 2, 3, 4, 5] rfl)
    · have hf := (if_pos c_6).symm.trans hf
      refine lv_iconst (v := 0) hx hb d_Pla_isBetween_24 (by decide) ?_
      have hg0 := Option.some.inj hf
      subst hg0
      have hP9 : va_P (dC, dI) vwCl [] H := hP.sub [] rfl
      have hD9 : va_D A [] := hD.sub [] rfl rfl
      exact W.zret (v := (0 : Int32)) hx hb hr (nw_b false) (fun t ht hW => ⟨⟨rfl, (), trivial, by rw [ht]; exact hP9, hD9⟩, hS.F ht⟩) hS.2.2 d_Pla_isBetween_25
def b_Pla_isBetween_0 (y0 : Int32) (y1 : Int32) (y2 : Int32) (y3 : Int32) (y4 : Int32) (y5 : Int32)  : Option (Bool) :=
  if y4 = y0 then (if y5 = y1 then (some false) else (b_Pla_isBetween_12 y0 y1 y2 y3 y4 y5 )) else (b_Pla_isBetween_12 y0 y1 y2 y3 y4 y5 )
set_option maxHeartbeats 4000000 in
set_option maxRecDepth 100000 in
theorem s_Pla_isBetween_0 (p : Program) (l : Launch) (e : Env) (s : State) (m : MethodId) (args : Array Value) (below : List Frame) (meth : Method) (c : Code) (dC : Nat → ClassId) (dI : Nat → Nat → Nat) (cI : dcG) (A : Nat → Prop) (y0 : Int32) (y1 : Int32) (y2 : Int32) (y3 : Int32) (y4 : Int32) (y5 : Int32) (rv : Bool) (C0 : dc_At p s m args meth c prog_5_method_4_code 6 R_Pla (some .boolean)) (hK : va_K (dC, dI) vwCl (dcT cI) s) (hA : ∀ q, s.heap.size ≤ q → A q) : T_Pla_isBetween_0 p l e s m args below meth c dC dI cI A y0 y1 y2 y3 y4 y5 rv (b_Pla_isBetween_0 y0 y1 y2 y3 y4 y5) := by
  obtain ⟨hx, hb, hml, hown, hts, hr, hlocks, hN⟩ := id C0
  intro hf H locs hP hD hS ls hl
  unfold b_Pla_isBetween_0 at hf
  refine lv_iload hx hb d_Pla_isBetween_0 (lv_at hl 4 rfl) ?_
  refine lv_iload_n hx hb d_Pla_isBetween_2 rfl (lv_at hl 0 rfl) ?_
  refine lv_icmp_ne (tgt := 12) hx hb d_Pla_isBetween_3 (by decide) (fun c_7 => ?_) (fun c_7 => ?_)
  · have hf := (if_neg c_7).symm.trans hf
    exact (s_Pla_isBetween_12 p l e s m args below meth c dC dI cI A y0 y1 y2 y3 y4 y5 rv C0 hK hA  ) hf H locs hP hD hS ls (lv_sub hl [0, 1, 2, 3, 4, 5] rfl)
  · have hf := (if_pos c_7).symm.trans hf
    refine lv_iload hx hb d_Pla_isBetween_6 (lv_at hl 5 rfl) ?_
    refine lv_iload_n hx hb d_Pla_isBetween_8 rfl (lv_at hl 1 rfl) ?_
    refine lv_icmp_eq (tgt := 24) hx hb d_Pla_isBetween_9 (by decide) (fun c_8 => ?_) (fun c_8 => ?_)
    · have hf := (if_pos c_8).symm.trans hf
      refine lv_iconst (v := 0) hx hb d_Pla_isBetween_24 (by decide) ?_
      have hg0 := Option.some.inj hf
      subst hg0
      have hP9 : va_P (dC, dI) vwCl [] H := hP.sub [] rfl
      have hD9 : va_D A [] := hD.sub [] rfl rfl
      exact W.zret (v := (0 : Int32)) hx hb hr (nw_b false) (fun t ht hW => ⟨⟨rfl, (), trivial, by rw [ht]; exact hP9, hD9⟩, hS.F ht⟩) hS.2.2 d_Pla_isBetween_25
    · have hf := (if_neg c_8).symm.trans hf
      exact (s_Pla_isBetween_12 p l e s m args below meth c dC dI cI A y0 y1 y2 y3 y4 y5 rv C0 hK hA  ) hf H locs hP hD hS ls (lv_sub hl [0, 1, 2, 3, 4, 5] rfl)
def f_Pla_isBetween (y0 : Int32) (y1 : Int32) (y2 : Int32) (y3 : Int32) (y4 : Int32) (y5 : Int32) : Option (Bool) :=
  b_Pla_isBetween_0 y0 y1 y2 y3 y4 y5 
set_option maxHeartbeats 4000000 in
set_option maxRecDepth 100000 in
theorem c_Pla_isBetween (l : Launch) (dC : Nat → ClassId) (dI : Nat → Nat → Nat) (cI : dcG) (y0 : Int32) (y1 : Int32) (y2 : Int32) (y3 : Int32) (y4 : Int32) (y5 : Int32) (rv : Bool) (sz : Nat) (hf : f_Pla_isBetween y0 y1 y2 y3 y4 y5 = some rv) : Met l y_Pla_isBetween w_Pla_isBetween { frames := 1, cells := 0, slots := 0, locals := 21 } (dc_Pre (dC, dI) (dcT cI) [] sz [.int y0, .int y1, .int y2, .int y3, .int y4, .int y5]) (dc_Q (dC, dI) (some (.int (bI rv))) (fun x : Unit => True) (fun x => []) (va_A [] sz)) 0 0 (va_A [] sz) := by
  refine Met.ofW (cc := prog_5_method_4_code) (maxL := 6) (ret := (some .boolean)) (by decide) rfl ?_
  intro p e s m args below meth c s₁ B hml hv
  obtain ⟨rfl, hsz, hP, hK, hD0, hN⟩ := hv
  have C0 : dc_At p s m [.int y0, .int y1, .int y2, .int y3, .int y4, .int y5].toArray meth c prog_5_method_4_code 6 R_Pla (some .boolean) := ⟨B.exec, B.bytes, hml, findClass_of_methodNamed B.named, fun w h => atoms_spec (ws := w_Pla_isBetween) B.pre w (List.mem_cons_of_mem _ h), B.returns, B.notSynchronized, hN⟩
  subst hsz
  have hD := hD0.self (sz := s.heap.size)
  generalize hAe : va_A [] s.heap.size = A at hD ⊢
  have hA : ∀ q : Nat, s.heap.size ≤ q → A q := fun q h => by rw [← hAe]; exact Or.inr h
  have hl := lv_entry ([.int y0, .int y1, .int y2, .int y3, .int y4, .int y5]) (n := 6) (Nat.le_of_ble_eq_true rfl)
  rw [lg_entry_eq]
  generalize (lg_sl ([.int y0, .int y1, .int y2, .int y3, .int y4, .int y5]) ++ List.replicate (6 - (lg_sl ([.int y0, .int y1, .int y2, .int y3, .int y4, .int y5])).length) Slot.unset).toArray = ls at hl ⊢
  exact s_Pla_isBetween_0 p l e s m _ below meth c dC dI cI A y0 y1 y2 y3 y4 y5 rv C0 hK hA  hf s.heap [] hP hD va_S.rf ls (lv_sub hl [0, 1, 2, 3, 4, 5] rfl)
def T_Pla_isOn_40 (p : Program) (l : Launch) (e : Env) (s : State) (m : MethodId) (args : Array Value) (below : List Frame) (meth : Method) (c : Code) (dC : Nat → ClassId) (dI : Nat → Nat → Nat) (cI : dcG) (A : Nat → Prop) (y0 : Int32) (y1 : Int32) (y2 : Int32) (y3 : Int32) (y4 : Int32) (y5 : Int32) (rv : Bool) (g : Option (Bool)) : Prop :=
  g  = some rv → 
  ∀ (H : Heap) (locs : List Loc), va_P (dC, dI) vwCl [] H → va_D A [] → va_S A s.heap H locs → ∀ (ls : Array Slot), lv_has ls 6 [(0, .int y0), (1, .int y1), (2, .int y2), (3, .int y3), (4, .int y4), (5, .int y5)] →
  W p l e { frames := 2, cells := 0, slots := 0, locals := 46 } s m args below meth c H locs 0 0 (MQ below (dc_Q (dC, dI) (some (.int (bI rv))) (fun x : Unit => True) (fun x => []) A) args s 0 0 A) (F0 m 40 ls [])
def T_Pla_isOn_28 (p : Program) (l : Launch) (e : Env) (s : State) (m : MethodId) (args : Array Value) (below : List Frame) (meth : Method) (c : Code) (dC : Nat → ClassId) (dI : Nat → Nat → Nat) (cI : dcG) (A : Nat → Prop) (y0 : Int32) (y1 : Int32) (y2 : Int32) (y3 : Int32) (y4 : Int32) (y5 : Int32) (rv : Bool) (g : Option (Bool)) : Prop :=
  g  = some rv → 
  ∀ (H : Heap) (locs : List Loc), va_P (dC, dI) vwCl [] H → va_D A [] → va_S A s.heap H locs → ∀ (ls : Array Slot), lv_has ls 6 [(0, .int y0), (1, .int y1), (2, .int y2), (3, .int y3), (4, .int y4), (5, .int y5)] →
  W p l e { frames := 2, cells := 0, slots := 0, locals := 46 } s m args below meth c H locs 0 0 (MQ below (dc_Q (dC, dI) (some (.int (bI rv))) (fun x : Unit => True) (fun x => []) A) args s 0 0 A) (F0 m 28 ls [])
def T_Pla_isOn_0 (p : Program) (l : Launch) (e : Env) (s : State) (m : MethodId) (args : Array Value) (below : List Frame) (meth : Method) (c : Code) (dC : Nat → ClassId) (dI : Nat → Nat → Nat) (cI : dcG) (A : Nat → Prop) (y0 : Int32) (y1 : Int32) (y2 : Int32) (y3 : Int32) (y4 : Int32) (y5 : Int32) (rv : Bool) (g : Option (Bool)) : Prop :=
  g  = some rv → 
  ∀ (H : Heap) (locs : List Loc), va_P (dC, dI) vwCl [] H → va_D A [] → va_S A s.heap H locs → ∀ (ls : Array Slot), lv_has ls 6 [(0, .int y0), (1, .int y1), (2, .int y2), (3, .int y3), (4, .int y4), (5, .int y5)] →
  W p l e { frames := 2, cells := 0, slots := 0, locals := 46 } s m args below meth c H locs 0 0 (MQ below (dc_Q (dC, dI) (some (.int (bI rv))) (fun x : Unit => True) (fun x => []) A) args s 0 0 A) (F0 m 0 ls [])
def b_Pla_isOn_40 (y0 : Int32) (y1 : Int32) (y2 : Int32) (y3 : Int32) (y4 : Int32) (y5 : Int32)  : Option (Bool) :=
  ob1 (f_Pla_isBetween y0 y1 y2 y3 y4 y5) fun r_1 => if (bI r_1) = 0 then (some false) else (some true)
set_option maxHeartbeats 4000000 in
set_option maxRecDepth 100000 in
theorem s_Pla_isOn_40 (p : Program) (l : Launch) (e : Env) (s : State) (m : MethodId) (args : Array Value) (below : List Frame) (meth : Method) (c : Code) (dC : Nat → ClassId) (dI : Nat → Nat → Nat) (cI : dcG) (A : Nat → Prop) (y0 : Int32) (y1 : Int32) (y2 : Int32) (y3 : Int32) (y4 : Int32) (y5 : Int32) (rv : Bool) (C0 : dc_At p s m args meth c prog_5_method_5_code 6 R_Pla (some .boolean)) (hK : va_K (dC, dI) vwCl (dcT cI) s) (hA : ∀ q, s.heap.size ≤ q → A q) : T_Pla_isOn_40 p l e s m args below meth c dC dI cI A y0 y1 y2 y3 y4 y5 rv (b_Pla_isOn_40 y0 y1 y2 y3 y4 y5) := by
  obtain ⟨hx, hb, hml, hown, hts, hr, hlocks, hN⟩ := id C0
  intro hf H locs hP hD hS ls hl
  unfold b_Pla_isOn_40 at hf
  refine lv_iload_n hx hb d_Pla_isOn_40 rfl (lv_at hl 0 rfl) ?_
  refine lv_iload_n hx hb d_Pla_isOn_41 rfl (lv_at hl 1 rfl) ?_
  refine lv_iload_n hx hb d_Pla_isOn_42 rfl (lv_at hl 2 rfl) ?_
  refine lv_iload_n hx hb d_Pla_isOn_43 rfl (lv_at hl 3 rfl) ?_
  refine lv_iload hx hb d_Pla_isOn_44 (lv_at hl 4 rfl) ?_
  refine lv_iload hx hb d_Pla_isOn_46 (lv_at hl 5 rfl) ?_
  obtain ⟨r_1, e_1, hf⟩ := ob1_some hf
  refine dc_call (wc := []) (wr := []) [] [] hP hD hS hA rfl rfl rfl rfl rfl (fun hPc hDc => va_runS (As := [.int y0, .int y1, .int y2, .int y3, .int y4, .int y5]) (rest := []) ⟨hx, hb, hml, hown, hts⟩ (c_Pla_isBetween l dC dI cI y0 y1 y2 y3 y4 y5 r_1 H.size e_1) (va_cwS 6 hts (gS wm_549 wm_330 wm_12 wm_331) rfl rfl rfl (by decide +kernel) ⟨Nat.le_of_ble_eq_true rfl, Nat.le_of_ble_eq_true rfl⟩) (dc_preS hK hN hPc hDc) rfl rfl hl.1 rfl (lv_room (Nat.le_of_ble_eq_true rfl)) d_Pla_isOn_48 ⟨Nat.le_refl _, Nat.le_refl _⟩) (fun x_1 H locs hp_1 hP hD hS => ?_)
  have hP : va_P (dC, dI) vwCl [] H := hP
  have hD : va_D A [] := hD
  refine lv_if_eq (tgt := 58) hx hb d_Pla_isOn_51 (by decide) (fun c_2 => ?_) (fun c_2 => ?_)
  · have hf := (if_pos c_2).symm.trans hf
    refine lv_iconst (v := 0) hx hb d_Pla_isOn_58 (by decide) ?_
    have hg0 := Option.some.inj hf
    subst hg0
    have hP9 : va_P (dC, dI) vwCl [] H := hP.sub [] rfl
    have hD9 : va_D A [] := hD.sub [] rfl rfl
    exact W.zret (v := (0 : Int32)) hx hb hr (nw_b false) (fun t ht hW => ⟨⟨rfl, (), trivial, by rw [ht]; exact hP9, hD9⟩, hS.F ht⟩) hS.2.2 d_Pla_isOn_59
  · have hf := (if_neg c_2).symm.trans hf
    refine lv_iconst (v := 1) hx hb d_Pla_isOn_54 (by decide) ?_
    refine lv_goto (tgt := 59) hx hb d_Pla_isOn_55 (by decide) ?_
    have hg0 := Option.some.inj hf
    subst hg0
    have hP9 : va_P (dC, dI) vwCl [] H := hP.sub [] rfl
    have hD9 : va_D A [] := hD.sub [] rfl rfl
    exact W.zret (v := (1 : Int32)) hx hb hr (nw_b true) (fun t ht hW => ⟨⟨rfl, (), trivial, by rw [ht]; exact hP9, hD9⟩, hS.F ht⟩) hS.2.2 d_Pla_isOn_59
def b_Pla_isOn_28 (y0 : Int32) (y1 : Int32) (y2 : Int32) (y3 : Int32) (y4 : Int32) (y5 : Int32)  : Option (Bool) :=
  if y4 = y2 then (if y5 = y3 then (some true) else (b_Pla_isOn_40 y0 y1 y2 y3 y4 y5 )) else (b_Pla_isOn_40 y0 y1 y2 y3 y4 y5 )
set_option maxHeartbeats 4000000 in
set_option maxRecDepth 100000 in
theorem s_Pla_isOn_28 (p : Program) (l : Launch) (e : Env) (s : State) (m : MethodId) (args : Array Value) (below : List Frame) (meth : Method) (c : Code) (dC : Nat → ClassId) (dI : Nat → Nat → Nat) (cI : dcG) (A : Nat → Prop) (y0 : Int32) (y1 : Int32) (y2 : Int32) (y3 : Int32) (y4 : Int32) (y5 : Int32) (rv : Bool) (C0 : dc_At p s m args meth c prog_5_method_5_code 6 R_Pla (some .boolean)) (hK : va_K (dC, dI) vwCl (dcT cI) s) (hA : ∀ q, s.heap.size ≤ q → A q) : T_Pla_isOn_28 p l e s m args below meth c dC dI cI A y0 y1 y2 y3 y4 y5 rv (b_Pla_isOn_28 y0 y1 y2 y3 y4 y5) := by
  obtain ⟨hx, hb, hml, hown, hts, hr, hlocks, hN⟩ := id C0
  intro hf H locs hP hD hS ls hl
  unfold b_Pla_isOn_28 at hf
  refine lv_iload hx hb d_Pla_isOn_28 (lv_at hl 4 rfl) ?_
  refine lv_iload_n hx hb d_Pla_isOn_30 rfl (lv_at hl 2 rfl) ?_
  refine lv_icmp_ne (tgt := 40) hx hb d_Pla_isOn_31 (by decide) (fun c_3 => ?_) (fun c_3 => ?_)
  · have hf := (if_neg c_3).symm.trans hf
    exact (s_Pla_isOn_40 p l e s m args below meth c dC dI cI A y0 y1 y2 y3 y4 y5 rv C0 hK hA  ) hf H locs hP hD hS ls (lv_sub hl [0, 1, 2, 3, 4, 5] rfl)
  · have hf := (if_pos c_3).symm.trans hf
    refine lv_iload hx hb d_Pla_isOn_34 (lv_at hl 5 rfl) ?_
    refine lv_iload_n hx hb d_Pla_isOn_36 rfl (lv_at hl 3 rfl) ?_
    refine lv_icmp_eq (tgt := 54) hx hb d_Pla_isOn_37 (by decide) (fun c_4 => ?_) (fun c_4 => ?_)
    · have hf := (if_pos c_4).symm.trans hf
      refine lv_iconst (v := 1) hx hb d_Pla_isOn_54 (by decide) ?_
      refine lv_goto (tgt := 59) hx hb d_Pla_isOn_55 (by decide) ?_
      have hg0 := Option.some.inj hf
      subst hg0
      have hP9 : va_P (dC, dI) vwCl [] H := hP.sub [] rfl
      have hD9 : va_D A [] := hD.sub [] rfl rfl
      exact W.zret (v := (1 : Int32)) hx hb hr (nw_b true) (fun t ht hW => ⟨⟨rfl, (), trivial, by rw [ht]; exact hP9, hD9⟩, hS.F ht⟩) hS.2.2 d_Pla_isOn_59
    · have hf := (if_neg c_4).symm.trans hf
      exact (s_Pla_isOn_40 p l e s m args below meth c dC dI cI A y0 y1 y2 y3 y4 y5 rv C0 hK hA  ) hf H locs hP hD hS ls (lv_sub hl [0, 1, 2, 3, 4, 5] rfl)
def b_Pla_isOn_0 (y0 : Int32) (y1 : Int32) (y2 : Int32) (y3 : Int32) (y4 : Int32) (y5 : Int32)  : Option (Bool) :=
  ob1 (f_Pla_side y0 y1 y2 y3 y4 y5) fun r_5 => if r_5 = 0 then (if y4 = y0 then (if y5 = y1 then (some true) else (b_Pla_isOn_28 y0 y1 y2 y3 y4 y5 )) else (b_Pla_isOn_28 y0 y1 y2 y3 y4 y5 )) else (some false)
set_option maxHeartbeats 4000000 in
set_option maxRecDepth 100000 in
theorem s_Pla_isOn_0 (p : Program) (l : Launch) (e : Env) (s : State) (m : MethodId) (args : Array Value) (below : List Frame) (meth : Method) (c : Code) (dC : Nat → ClassId) (dI : Nat → Nat → Nat) (cI : dcG) (A : Nat → Prop) (y0 : Int32) (y1 : Int32) (y2 : Int32) (y3 : Int32) (y4 : Int32) (y5 : Int32) (rv : Bool) (C0 : dc_At p s m args meth c prog_5_method_5_code 6 R_Pla (some .boolean)) (hK : va_K (dC, dI) vwCl (dcT cI) s) (hA : ∀ q, s.heap.size ≤ q → A q) : T_Pla_isOn_0 p l e s m args below meth c dC dI cI A y0 y1 y2 y3 y4 y5 rv (b_Pla_isOn_0 y0 y1 y2 y3 y4 y5) := by
  obtain ⟨hx, hb, hml, hown, hts, hr, hlocks, hN⟩ := id C0
  intro hf H locs hP hD hS ls hl
  unfold b_Pla_isOn_0 at hf
  refine lv_iload_n hx hb d_Pla_isOn_0 rfl (lv_at hl 0 rfl) ?_
  refine lv_iload_n hx hb d_Pla_isOn_1 rfl (lv_at hl 1 rfl) ?_
  refine lv_iload_n hx hb d_Pla_isOn_2 rfl (lv_at hl 2 rfl) ?_
  refine lv_iload_n hx hb d_Pla_isOn_3 rfl (lv_at hl 3 rfl) ?_
  refine lv_iload hx hb d_Pla_isOn_4 (lv_at hl 4 rfl) ?_
  refine lv_iload hx hb d_Pla_isOn_6 (lv_at hl 5 rfl) ?_
  obtain ⟨r_5, e_5, hf⟩ := ob1_some hf
  refine dc_call (wc := []) (wr := []) [] [] hP hD hS hA rfl rfl rfl rfl rfl (fun hPc hDc => va_runS (As := [.int y0, .int y1, .int y2, .int y3, .int y4, .int y5]) (rest := []) ⟨hx, hb, hml, hown, hts⟩ (c_Pla_side l dC dI cI y0 y1 y2 y3 y4 y5 r_5 H.size e_5) (va_cwS 6 hts (gS wm_548 wm_327 wm_12 wm_328) rfl rfl rfl (by decide +kernel) ⟨Nat.le_of_ble_eq_true rfl, Nat.le_of_ble_eq_true rfl⟩) (dc_preS hK hN hPc hDc) rfl rfl hl.1 rfl (lv_room (Nat.le_of_ble_eq_true rfl)) d_Pla_isOn_8 ⟨Nat.le_refl _, Nat.le_refl _⟩) (fun x_5 H locs hp_5 hP hD hS => ?_)
  have hP : va_P (dC, dI) vwCl [] H := hP
  have hD : va_D A [] := hD
  refine lv_if_eq (tgt := 16) hx hb d_Pla_isOn_11 (by decide) (fun c_6 => ?_) (fun c_6 => ?_)
  · have hf := (if_pos c_6).symm.trans hf
    refine lv_iload hx hb d_Pla_isOn_16 (lv_at hl 4 rfl) ?_
    refine lv_iload_n hx hb d_Pla_isOn_18 rfl (lv_at hl 0 rfl) ?_
    refine lv_icmp_ne (tgt := 28) hx hb d_Pla_isOn_19 (by decide) (fun c_7 => ?_) (fun c_7 => ?_)
    · have hf := (if_neg c_7).symm.trans hf
      exact (s_Pla_isOn_28 p l e s m args below meth c dC dI cI A y0 y1 y2 y3 y4 y5 rv C0 hK hA  ) hf H locs hP hD hS ls (lv_sub hl [0, 1, 2, 3, 4, 5] rfl)
    · have hf := (if_pos c_7).symm.trans hf
      refine lv_iload hx hb d_Pla_isOn_22 (lv_at hl 5 rfl) ?_
      refine lv_iload_n hx hb d_Pla_isOn_24 rfl (lv_at hl 1 rfl) ?_
      refine lv_icmp_eq (tgt := 54) hx hb d_Pla_isOn_25 (by decide) (fun c_8 => ?_) (fun c_8 => ?_)
      · have hf := (if_pos c_8).symm.trans hf
        refine lv_iconst (v := 1) hx hb d_Pla_isOn_54 (by decide) ?_
        refine lv_goto (tgt := 59) hx hb d_Pla_isOn_55 (by decide) ?_
        have hg0 := Option.some.inj hf
        subst hg0
        have hP9 : va_P (dC, dI) vwCl [] H := hP.sub [] rfl
        have hD9 : va_D A [] := hD.sub [] rfl rfl
        exact W.zret (v := (1 : Int32)) hx hb hr (nw_b true) (fun t ht hW => ⟨⟨rfl, (), trivial, by rw [ht]; exact hP9, hD9⟩, hS.F ht⟩) hS.2.2 d_Pla_isOn_59
      · have hf := (if_neg c_8).symm.trans hf
        exact (s_Pla_isOn_28 p l e s m args below meth c dC dI cI A y0 y1 y2 y3 y4 y5 rv C0 hK hA  ) hf H locs hP hD hS ls (lv_sub hl [0, 1, 2, 3, 4, 5] rfl)
  · have hf := (if_neg c_6).symm.trans hf
    refine lv_iconst (v := 0) hx hb d_Pla_isOn_14 (by decide) ?_
    have hg0 := Option.some.inj hf
    subst hg0
    have hP9 : va_P (dC, dI) vwCl [] H := hP.sub [] rfl
    have hD9 : va_D A [] := hD.sub [] rfl rfl
    exact W.zret (v := (0 : Int32)) hx hb hr (nw_b false) (fun t ht hW => ⟨⟨rfl, (), trivial, by rw [ht]; exact hP9, hD9⟩, hS.F ht⟩) hS.2.2 d_Pla_isOn_15
def f_Pla_isOn (y0 : Int32) (y1 : Int32) (y2 : Int32) (y3 : Int32) (y4 : Int32) (y5 : Int32) : Option (Bool) :=
  b_Pla_isOn_0 y0 y1 y2 y3 y4 y5 
set_option maxHeartbeats 4000000 in
set_option maxRecDepth 100000 in
theorem c_Pla_isOn (l : Launch) (dC : Nat → ClassId) (dI : Nat → Nat → Nat) (cI : dcG) (y0 : Int32) (y1 : Int32) (y2 : Int32) (y3 : Int32) (y4 : Int32) (y5 : Int32) (rv : Bool) (sz : Nat) (hf : f_Pla_isOn y0 y1 y2 y3 y4 y5 = some rv) : Met l y_Pla_isOn w_Pla_isOn { frames := 2, cells := 0, slots := 0, locals := 46 } (dc_Pre (dC, dI) (dcT cI) [] sz [.int y0, .int y1, .int y2, .int y3, .int y4, .int y5]) (dc_Q (dC, dI) (some (.int (bI rv))) (fun x : Unit => True) (fun x => []) (va_A [] sz)) 0 0 (va_A [] sz) := by
  refine Met.ofW (cc := prog_5_method_5_code) (maxL := 6) (ret := (some .boolean)) (by decide) rfl ?_
  intro p e s m args below meth c s₁ B hml hv
  obtain ⟨rfl, hsz, hP, hK, hD0, hN⟩ := hv
  have C0 : dc_At p s m [.int y0, .int y1, .int y2, .int y3, .int y4, .int y5].toArray meth c prog_5_method_5_code 6 R_Pla (some .boolean) := ⟨B.exec, B.bytes, hml, findClass_of_methodNamed B.named, fun w h => atoms_spec (ws := w_Pla_isOn) B.pre w (List.mem_cons_of_mem _ h), B.returns, B.notSynchronized, hN⟩
  subst hsz
  have hD := hD0.self (sz := s.heap.size)
  generalize hAe : va_A [] s.heap.size = A at hD ⊢
  have hA : ∀ q : Nat, s.heap.size ≤ q → A q := fun q h => by rw [← hAe]; exact Or.inr h
  have hl := lv_entry ([.int y0, .int y1, .int y2, .int y3, .int y4, .int y5]) (n := 6) (Nat.le_of_ble_eq_true rfl)
  rw [lg_entry_eq]
  generalize (lg_sl ([.int y0, .int y1, .int y2, .int y3, .int y4, .int y5]) ++ List.replicate (6 - (lg_sl ([.int y0, .int y1, .int y2, .int y3, .int y4, .int y5])).length) Slot.unset).toArray = ls at hl ⊢
  exact s_Pla_isOn_0 p l e s m _ below meth c dC dI cI A y0 y1 y2 y3 y4 y5 rv C0 hK hA  hf s.heap [] hP hD va_S.rf ls (lv_sub hl [0, 1, 2, 3, 4, 5] rfl)
