def T_RowR_empty_0 (p : Program) (l : Launch) (e : Env) (s : State) (m : MethodId) (args : Array Value) (below : List Frame) (meth : Method) (c : Code) (dC : Nat → ClassId) (dI : Nat → Nat → Nat) (cI : dcG) (A : Nat → Prop) (a0 : Nat) (q0_held : Nat) (n0_held : Nat) (f0_held : Nat → Int32) (V0_size : Int32) (g : Int32 → Option (Int32)) : Prop :=
  ∀ (v0_size : Int32), g v0_size = some V0_size → 
  ∀ (H : Heap) (locs : List Loc), va_P (dC, dI) vwCl [(a0, .inr (0, [.ref q0_held, .int v0_size])), (q0_held, .inl (cI.1, n0_held, .inl f0_held))] H → va_D A [(a0, .inr (0, [.ref q0_held, .int v0_size])), (q0_held, .inl (cI.1, n0_held, .inl f0_held))] → va_S A s.heap H locs → ∀ (ls : Array Slot), lv_has ls 1 [(0, .ref a0)] →
  W p l e { frames := 0, cells := 0, slots := 0, locals := 0 } s m args below meth c H locs 0 0 (MQ below (dc_Q (dC, dI) none (fun x : Unit => True) (fun x => [(a0, .inr (0, [.ref q0_held, .int V0_size])), (q0_held, .inl (cI.1, n0_held, .inl f0_held))]) A) args s 0 0 A) (F0 m 0 ls [])
def b_RowR_empty_0 (n0_held : Nat) (f0_held : Nat → Int32) (v0_size : Int32) : Option (Int32) :=
  some (0 : Int32)
set_option maxHeartbeats 4000000 in
set_option maxRecDepth 100000 in
theorem s_RowR_empty_0 (p : Program) (l : Launch) (e : Env) (s : State) (m : MethodId) (args : Array Value) (below : List Frame) (meth : Method) (c : Code) (dC : Nat → ClassId) (dI : Nat → Nat → Nat) (cI : dcG) (A : Nat → Prop) (a0 : Nat) (q0_held : Nat) (n0_held : Nat) (f0_held : Nat → Int32) (V0_size : Int32) (C0 : dc_At p s m args meth c prog_7_method_2_code 1 R_Row none) (hK : va_K (dC, dI) vwCl (dcT cI) s) (hA : ∀ q, s.heap.size ≤ q → A q) : T_RowR_empty_0 p l e s m args below meth c dC dI cI A a0 q0_held n0_held f0_held V0_size (b_RowR_empty_0 n0_held f0_held) := by
  obtain ⟨hx, hb, hml, hown, hts, hr, hlocks, hN⟩ := id C0
  intro v0_size hf H locs hP hD hS ls hl
  unfold b_RowR_empty_0 at hf
  refine lv_aload_n hx hb d_Row_empty_0 rfl (lv_at hl 0 rfl) ?_
  refine lv_iconst (v := 0) hx hb d_Row_empty_1 (by decide) ?_
  refine va_put (D := (dC, dI)) (ci := 0) (v := .int (0 : Int32)) (ty := .int) (C := R_Row) (T := F_Row) (N := 2) hx hb hts i_Row t_Row tk_Row nk_Row hown hK hP hD hS 0 rfl rfl 1 (by decide) (hts _ wm_41) (fun _ h9 => h9) rfl (by decide +kernel) rfl rfl (Nat.le_of_ble_eq_true rfl) d_Row_empty_2 (fun H locs hP hD hS => ?_)
  have hP : va_P (dC, dI) vwCl [(a0, .inr (0, [.ref q0_held, .int (0 : Int32)])), (q0_held, .inl (cI.1, n0_held, .inl f0_held))] H := hP
  have hD : va_D A [(a0, .inr (0, [.ref q0_held, .int (0 : Int32)])), (q0_held, .inl (cI.1, n0_held, .inl f0_held))] := hD
  have hg0 := Option.some.inj hf
  subst hg0
  have hP9 : va_P (dC, dI) vwCl [(a0, .inr (0, [.ref q0_held, .int (0 : Int32)])), (q0_held, .inl (cI.1, n0_held, .inl f0_held))] H := hP.sub [0, 1] rfl
  have hD9 : va_D A [(a0, .inr (0, [.ref q0_held, .int (0 : Int32)])), (q0_held, .inl (cI.1, n0_held, .inl f0_held))] := hD.sub [0, 1] rfl rfl
  exact W.vret hx hb hr (fun t ht hW => ⟨⟨rfl, (), trivial, by rw [ht]; exact hP9, hD9⟩, hS.F ht⟩) hS.2.2 d_Row_empty_5
def f_RowR_empty (n0_held : Nat) (f0_held : Nat → Int32) (v0_size : Int32) : Option (Int32) :=
  b_RowR_empty_0 n0_held f0_held v0_size
set_option maxHeartbeats 4000000 in
set_option maxRecDepth 100000 in
theorem c_RowR_empty (l : Launch) (dC : Nat → ClassId) (dI : Nat → Nat → Nat) (cI : dcG) (a0 : Nat) (v0_size : Int32) (q0_held : Nat) (n0_held : Nat) (f0_held : Nat → Int32) (V0_size : Int32) (sz : Nat) (hf : f_RowR_empty n0_held f0_held v0_size = some V0_size) : Met l y_Row_empty w_Row_empty { frames := 0, cells := 0, slots := 0, locals := 0 } (dc_Pre (dC, dI) (dcT cI) [(a0, .inr (0, [.ref q0_held, .int v0_size])), (q0_held, .inl (cI.1, n0_held, .inl f0_held))] sz [.ref a0]) (dc_Q (dC, dI) none (fun x : Unit => True) (fun x => [(a0, .inr (0, [.ref q0_held, .int V0_size])), (q0_held, .inl (cI.1, n0_held, .inl f0_held))]) (va_A [(a0, .inr (0, [.ref q0_held, .int v0_size])), (q0_held, .inl (cI.1, n0_held, .inl f0_held))] sz)) 0 0 (va_A [(a0, .inr (0, [.ref q0_held, .int v0_size])), (q0_held, .inl (cI.1, n0_held, .inl f0_held))] sz) := by
  refine Met.ofW (cc := prog_7_method_2_code) (maxL := 1) (ret := none) (by decide) rfl ?_
  intro p e s m args below meth c s₁ B hml hv
  obtain ⟨rfl, hsz, hP, hK, hD0, hN⟩ := hv
  have C0 : dc_At p s m [.ref a0].toArray meth c prog_7_method_2_code 1 R_Row none := ⟨B.exec, B.bytes, hml, findClass_of_methodNamed B.named, fun w h => atoms_spec (ws := w_Row_empty) B.pre w (List.mem_cons_of_mem _ h), B.returns, B.notSynchronized, hN⟩
  subst hsz
  have hD := hD0.self (sz := s.heap.size)
  generalize hAe : va_A [(a0, .inr (0, [.ref q0_held, .int v0_size])), (q0_held, .inl (cI.1, n0_held, .inl f0_held))] s.heap.size = A at hD ⊢
  have hA : ∀ q : Nat, s.heap.size ≤ q → A q := fun q h => by rw [← hAe]; exact Or.inr h
  have hl := lv_entry ([.ref a0]) (n := 1) (Nat.le_of_ble_eq_true rfl)
  rw [lg_entry_eq]
  generalize (lg_sl ([.ref a0]) ++ List.replicate (1 - (lg_sl ([.ref a0])).length) Slot.unset).toArray = ls at hl ⊢
  exact s_RowR_empty_0 p l e s m _ below meth c dC dI cI A a0 q0_held n0_held f0_held V0_size C0 hK hA  v0_size hf s.heap [] hP hD va_S.rf ls (lv_sub hl [0] rfl)
def T_RowR_get_0 (p : Program) (l : Launch) (e : Env) (s : State) (m : MethodId) (args : Array Value) (below : List Frame) (meth : Method) (c : Code) (dC : Nat → ClassId) (dI : Nat → Nat → Nat) (cI : dcG) (A : Nat → Prop) (a0 : Nat) (v0_size : Int32) (q0_held : Nat) (n0_held : Nat) (f0_held : Nat → Int32) (y1 : Int32) (rv : Int32) (g : Option (Int32)) : Prop :=
  g  = some rv → 
  ∀ (H : Heap) (locs : List Loc), va_P (dC, dI) vwCl [(a0, .inr (0, [.ref q0_held, .int v0_size])), (q0_held, .inl (cI.1, n0_held, .inl f0_held))] H → va_D A [(a0, .inr (0, [.ref q0_held, .int v0_size])), (q0_held, .inl (cI.1, n0_held, .inl f0_held))] → va_S A s.heap H locs → ∀ (ls : Array Slot), lv_has ls 2 [(0, .ref a0), (1, .int y1)] →
  W p l e { frames := 0, cells := 0, slots := 0, locals := 0 } s m args below meth c H locs 0 0 (MQ below (dc_Q (dC, dI) (some (.int rv)) (fun x : Unit => True) (fun x => [(a0, .inr (0, [.ref q0_held, .int v0_size])), (q0_held, .inl (cI.1, n0_held, .inl f0_held))]) A) args s 0 0 A) (F0 m 0 ls [])
def b_RowR_get_0 (v0_size : Int32) (n0_held : Nat) (f0_held : Nat → Int32) (y1 : Int32)  : Option (Int32) :=
  if y1 < 0 then (some (-1 : Int32)) else (if v0_size ≤ y1 then (some (-1 : Int32)) else (if y1 < 0 ∨ n0_held ≤ y1.toNatClampNeg then none else (some (f0_held y1.toNatClampNeg))))
set_option maxHeartbeats 4000000 in
set_option maxRecDepth 100000 in
theorem s_RowR_get_0 (p : Program) (l : Launch) (e : Env) (s : State) (m : MethodId) (args : Array Value) (below : List Frame) (meth : Method) (c : Code) (dC : Nat → ClassId) (dI : Nat → Nat → Nat) (cI : dcG) (A : Nat → Prop) (a0 : Nat) (v0_size : Int32) (q0_held : Nat) (n0_held : Nat) (f0_held : Nat → Int32) (y1 : Int32) (rv : Int32) (C0 : dc_At p s m args meth c prog_7_method_5_code 2 R_Row (some .int)) (hK : va_K (dC, dI) vwCl (dcT cI) s) (hA : ∀ q, s.heap.size ≤ q → A q) : T_RowR_get_0 p l e s m args below meth c dC dI cI A a0 v0_size q0_held n0_held f0_held y1 rv (b_RowR_get_0 v0_size n0_held f0_held y1) := by
  obtain ⟨hx, hb, hml, hown, hts, hr, hlocks, hN⟩ := id C0
  intro hf H locs hP hD hS ls hl
  unfold b_RowR_get_0 at hf
  refine lv_iload_n hx hb d_Row_get_0 rfl (lv_at hl 1 rfl) ?_
  refine lv_if_lt (tgt := 21) hx hb d_Row_get_1 (by decide) (fun c_1 => ?_) (fun c_1 => ?_)
  · have hf := (if_pos c_1).symm.trans hf
    refine lv_iconst (v := (-1)) hx hb d_Row_get_21 (by decide) ?_
    have hg0 := Option.some.inj hf
    subst hg0
    have hP9 : va_P (dC, dI) vwCl [(a0, .inr (0, [.ref q0_held, .int v0_size])), (q0_held, .inl (cI.1, n0_held, .inl f0_held))] H := hP.sub [0, 1] rfl
    have hD9 : va_D A [(a0, .inr (0, [.ref q0_held, .int v0_size])), (q0_held, .inl (cI.1, n0_held, .inl f0_held))] := hD.sub [0, 1] rfl rfl
    exact W.iret (v := (-1 : Int32)) hx hb hr (fun t ht hW => ⟨⟨rfl, (), trivial, by rw [ht]; exact hP9, hD9⟩, hS.F ht⟩) hS.2.2 d_Row_get_22
  · have hf := (if_neg c_1).symm.trans hf
    refine lv_iload_n hx hb d_Row_get_4 rfl (lv_at hl 1 rfl) ?_
    refine lv_aload_n hx hb d_Row_get_5 rfl (lv_at hl 0 rfl) ?_
    refine va_get (D := (dC, dI)) (ci := 0) (v := .int v0_size) (C := R_Row) (T := F_Row) (N := 2) hx hb hts i_Row hown hK hP 0 rfl rfl 1 (by decide) (hts _ wm_41) (fun _ h9 => h9) rfl d_Row_get_6 ?_
    refine lv_icmp_ge (tgt := 21) hx hb d_Row_get_9 (by decide) (fun c_2 => ?_) (fun c_2 => ?_)
    · have hf := (if_pos c_2).symm.trans hf
      refine lv_iconst (v := (-1)) hx hb d_Row_get_21 (by decide) ?_
      have hg0 := Option.some.inj hf
      subst hg0
      have hP9 : va_P (dC, dI) vwCl [(a0, .inr (0, [.ref q0_held, .int v0_size])), (q0_held, .inl (cI.1, n0_held, .inl f0_held))] H := hP.sub [0, 1] rfl
      have hD9 : va_D A [(a0, .inr (0, [.ref q0_held, .int v0_size])), (q0_held, .inl (cI.1, n0_held, .inl f0_held))] := hD.sub [0, 1] rfl rfl
      exact W.iret (v := (-1 : Int32)) hx hb hr (fun t ht hW => ⟨⟨rfl, (), trivial, by rw [ht]; exact hP9, hD9⟩, hS.F ht⟩) hS.2.2 d_Row_get_22
    · have hf := (if_neg c_2).symm.trans hf
      refine lv_aload_n hx hb d_Row_get_12 rfl (lv_at hl 0 rfl) ?_
      refine va_get (D := (dC, dI)) (ci := 0) (v := .ref q0_held) (C := R_Row) (T := F_Row) (N := 2) hx hb hts i_Row hown hK hP 0 rfl rfl 0 (by decide) (hts _ wm_40) (fun _ h9 => h9) rfl d_Row_get_13 ?_
      refine lv_iload_n hx hb d_Row_get_16 rfl (lv_at hl 1 rfl) ?_
      have b_3 : vp_in y1 n0_held := fun z => by rw [if_pos z] at hf; cases hf
      have hf := (if_neg b_3).symm.trans hf
      refine va_iald hx hb hK hP 1 0 rfl rfl b_3 d_Row_get_17 ?_
      refine lv_goto (tgt := 22) hx hb d_Row_get_18 (by decide) ?_
      have hg0 := Option.some.inj hf
      subst hg0
      have hP9 : va_P (dC, dI) vwCl [(a0, .inr (0, [.ref q0_held, .int v0_size])), (q0_held, .inl (cI.1, n0_held, .inl f0_held))] H := hP.sub [0, 1] rfl
      have hD9 : va_D A [(a0, .inr (0, [.ref q0_held, .int v0_size])), (q0_held, .inl (cI.1, n0_held, .inl f0_held))] := hD.sub [0, 1] rfl rfl
      exact W.iret (v := (f0_held y1.toNatClampNeg)) hx hb hr (fun t ht hW => ⟨⟨rfl, (), trivial, by rw [ht]; exact hP9, hD9⟩, hS.F ht⟩) hS.2.2 d_Row_get_22
def f_RowR_get (v0_size : Int32) (n0_held : Nat) (f0_held : Nat → Int32) (y1 : Int32) : Option (Int32) :=
  b_RowR_get_0 v0_size n0_held f0_held y1 
set_option maxHeartbeats 4000000 in
set_option maxRecDepth 100000 in
theorem c_RowR_get (l : Launch) (dC : Nat → ClassId) (dI : Nat → Nat → Nat) (cI : dcG) (a0 : Nat) (v0_size : Int32) (q0_held : Nat) (n0_held : Nat) (f0_held : Nat → Int32) (y1 : Int32) (rv : Int32) (sz : Nat) (hf : f_RowR_get v0_size n0_held f0_held y1 = some rv) : Met l y_Row_get w_Row_get { frames := 0, cells := 0, slots := 0, locals := 0 } (dc_Pre (dC, dI) (dcT cI) [(a0, .inr (0, [.ref q0_held, .int v0_size])), (q0_held, .inl (cI.1, n0_held, .inl f0_held))] sz [.ref a0, .int y1]) (dc_Q (dC, dI) (some (.int rv)) (fun x : Unit => True) (fun x => [(a0, .inr (0, [.ref q0_held, .int v0_size])), (q0_held, .inl (cI.1, n0_held, .inl f0_held))]) (va_A [(a0, .inr (0, [.ref q0_held, .int v0_size])), (q0_held, .inl (cI.1, n0_held, .inl f0_held))] sz)) 0 0 (va_A [(a0, .inr (0, [.ref q0_held, .int v0_size])), (q0_held, .inl (cI.1, n0_held, .inl f0_held))] sz) := by
  refine Met.ofW (cc := prog_7_method_5_code) (maxL := 2) (ret := (some .int)) (by decide) rfl ?_
  intro p e s m args below meth c s₁ B hml hv
  obtain ⟨rfl, hsz, hP, hK, hD0, hN⟩ := hv
  have C0 : dc_At p s m [.ref a0, .int y1].toArray meth c prog_7_method_5_code 2 R_Row (some .int) := ⟨B.exec, B.bytes, hml, findClass_of_methodNamed B.named, fun w h => atoms_spec (ws := w_Row_get) B.pre w (List.mem_cons_of_mem _ h), B.returns, B.notSynchronized, hN⟩
  subst hsz
  have hD := hD0.self (sz := s.heap.size)
  generalize hAe : va_A [(a0, .inr (0, [.ref q0_held, .int v0_size])), (q0_held, .inl (cI.1, n0_held, .inl f0_held))] s.heap.size = A at hD ⊢
  have hA : ∀ q : Nat, s.heap.size ≤ q → A q := fun q h => by rw [← hAe]; exact Or.inr h
  have hl := lv_entry ([.ref a0, .int y1]) (n := 2) (Nat.le_of_ble_eq_true rfl)
  rw [lg_entry_eq]
  generalize (lg_sl ([.ref a0, .int y1]) ++ List.replicate (2 - (lg_sl ([.ref a0, .int y1])).length) Slot.unset).toArray = ls at hl ⊢
  exact s_RowR_get_0 p l e s m _ below meth c dC dI cI A a0 v0_size q0_held n0_held f0_held y1 rv C0 hK hA  hf s.heap [] hP hD va_S.rf ls (lv_sub hl [0, 1] rfl)
def T_RowR_set_0 (p : Program) (l : Launch) (e : Env) (s : State) (m : MethodId) (args : Array Value) (below : List Frame) (meth : Method) (c : Code) (dC : Nat → ClassId) (dI : Nat → Nat → Nat) (cI : dcG) (A : Nat → Prop) (a0 : Nat) (v0_size : Int32) (q0_held : Nat) (n0_held : Nat) (y1 : Int32) (y2 : Int32) (G0_held : Nat → Int32) (g : (Nat → Int32) → Option ((Nat → Int32))) : Prop :=
  ∀ (f0_held : Nat → Int32), g f0_held = some G0_held → 
  ∀ (H : Heap) (locs : List Loc), va_P (dC, dI) vwCl [(a0, .inr (0, [.ref q0_held, .int v0_size])), (q0_held, .inl (cI.1, n0_held, .inl f0_held))] H → va_D A [(a0, .inr (0, [.ref q0_held, .int v0_size])), (q0_held, .inl (cI.1, n0_held, .inl f0_held))] → va_S A s.heap H locs → ∀ (ls : Array Slot), lv_has ls 3 [(0, .ref a0), (1, .int y1), (2, .int y2)] →
  W p l e { frames := 0, cells := 0, slots := 0, locals := 0 } s m args below meth c H locs 0 0 (MQ below (dc_Q (dC, dI) none (fun x : Unit => True) (fun x => [(a0, .inr (0, [.ref q0_held, .int v0_size])), (q0_held, .inl (cI.1, n0_held, .inl G0_held))]) A) args s 0 0 A) (F0 m 0 ls [])
def b_RowR_set_0 (v0_size : Int32) (n0_held : Nat) (y1 : Int32) (y2 : Int32) (f0_held : Nat → Int32) : Option ((Nat → Int32)) :=
  if y1 < 0 then (some f0_held) else (if v0_size ≤ y1 then (some f0_held) else (if y1 < 0 ∨ n0_held ≤ y1.toNatClampNeg then none else (some (upd f0_held y1.toNatClampNeg y2))))
set_option maxHeartbeats 4000000 in
set_option maxRecDepth 100000 in
theorem s_RowR_set_0 (p : Program) (l : Launch) (e : Env) (s : State) (m : MethodId) (args : Array Value) (below : List Frame) (meth : Method) (c : Code) (dC : Nat → ClassId) (dI : Nat → Nat → Nat) (cI : dcG) (A : Nat → Prop) (a0 : Nat) (v0_size : Int32) (q0_held : Nat) (n0_held : Nat) (y1 : Int32) (y2 : Int32) (G0_held : Nat → Int32) (C0 : dc_At p s m args meth c prog_7_method_6_code 3 R_Row none) (hK : va_K (dC, dI) vwCl (dcT cI) s) (hA : ∀ q, s.heap.size ≤ q → A q) : T_RowR_set_0 p l e s m args below meth c dC dI cI A a0 v0_size q0_held n0_held y1 y2 G0_held (b_RowR_set_0 v0_size n0_held y1 y2) := by
  obtain ⟨hx, hb, hml, hown, hts, hr, hlocks, hN⟩ := id C0
  intro f0_held hf H locs hP hD hS ls hl
  unfold b_RowR_set_0 at hf
  refine lv_iload_n hx hb d_Row_set_0 rfl (lv_at hl 1 rfl) ?_
  refine lv_if_lt (tgt := 19) hx hb d_Row_set_1 (by decide) (fun c_1 => ?_) (fun c_1 => ?_)
  · have hf := (if_pos c_1).symm.trans hf
    have hg0 := Option.some.inj hf
    subst hg0
    have hP9 : va_P (dC, dI) vwCl [(a0, .inr (0, [.ref q0_held, .int v0_size])), (q0_held, .inl (cI.1, n0_held, .inl f0_held))] H := hP.sub [0, 1] rfl
    have hD9 : va_D A [(a0, .inr (0, [.ref q0_held, .int v0_size])), (q0_held, .inl (cI.1, n0_held, .inl f0_held))] := hD.sub [0, 1] rfl rfl
    exact W.vret hx hb hr (fun t ht hW => ⟨⟨rfl, (), trivial, by rw [ht]; exact hP9, hD9⟩, hS.F ht⟩) hS.2.2 d_Row_set_19
  · have hf := (if_neg c_1).symm.trans hf
    refine lv_iload_n hx hb d_Row_set_4 rfl (lv_at hl 1 rfl) ?_
    refine lv_aload_n hx hb d_Row_set_5 rfl (lv_at hl 0 rfl) ?_
    refine va_get (D := (dC, dI)) (ci := 0) (v := .int v0_size) (C := R_Row) (T := F_Row) (N := 2) hx hb hts i_Row hown hK hP 0 rfl rfl 1 (by decide) (hts _ wm_41) (fun _ h9 => h9) rfl d_Row_set_6 ?_
    refine lv_icmp_ge (tgt := 19) hx hb d_Row_set_9 (by decide) (fun c_2 => ?_) (fun c_2 => ?_)
    · have hf := (if_pos c_2).symm.trans hf
      have hg0 := Option.some.inj hf
      subst hg0
      have hP9 : va_P (dC, dI) vwCl [(a0, .inr (0, [.ref q0_held, .int v0_size])), (q0_held, .inl (cI.1, n0_held, .inl f0_held))] H := hP.sub [0, 1] rfl
      have hD9 : va_D A [(a0, .inr (0, [.ref q0_held, .int v0_size])), (q0_held, .inl (cI.1, n0_held, .inl f0_held))] := hD.sub [0, 1] rfl rfl
      exact W.vret hx hb hr (fun t ht hW => ⟨⟨rfl, (), trivial, by rw [ht]; exact hP9, hD9⟩, hS.F ht⟩) hS.2.2 d_Row_set_19
    · have hf := (if_neg c_2).symm.trans hf
      refine lv_aload_n hx hb d_Row_set_12 rfl (lv_at hl 0 rfl) ?_
      refine va_get (D := (dC, dI)) (ci := 0) (v := .ref q0_held) (C := R_Row) (T := F_Row) (N := 2) hx hb hts i_Row hown hK hP 0 rfl rfl 0 (by decide) (hts _ wm_40) (fun _ h9 => h9) rfl d_Row_set_13 ?_
      refine lv_iload_n hx hb d_Row_set_16 rfl (lv_at hl 1 rfl) ?_
      refine lv_iload_n hx hb d_Row_set_17 rfl (lv_at hl 2 rfl) ?_
      have b_3 : vp_in y1 n0_held := fun z => by rw [if_pos z] at hf; cases hf
      have hf := (if_neg b_3).symm.trans hf
      refine va_iast hx hb hK hP hD hS 1 0 rfl rfl b_3 d_Row_set_18 (fun H locs hP hD hS => ?_)
      have hP : va_P (dC, dI) vwCl [(a0, .inr (0, [.ref q0_held, .int v0_size])), (q0_held, .inl (cI.1, n0_held, .inl (upd f0_held y1.toNatClampNeg y2)))] H := hP
      have hD : va_D A [(a0, .inr (0, [.ref q0_held, .int v0_size])), (q0_held, .inl (cI.1, n0_held, .inl (upd f0_held y1.toNatClampNeg y2)))] := hD
      have hg0 := Option.some.inj hf
      subst hg0
      have hP9 : va_P (dC, dI) vwCl [(a0, .inr (0, [.ref q0_held, .int v0_size])), (q0_held, .inl (cI.1, n0_held, .inl (upd f0_held y1.toNatClampNeg y2)))] H := hP.sub [0, 1] rfl
      have hD9 : va_D A [(a0, .inr (0, [.ref q0_held, .int v0_size])), (q0_held, .inl (cI.1, n0_held, .inl (upd f0_held y1.toNatClampNeg y2)))] := hD.sub [0, 1] rfl rfl
      exact W.vret hx hb hr (fun t ht hW => ⟨⟨rfl, (), trivial, by rw [ht]; exact hP9, hD9⟩, hS.F ht⟩) hS.2.2 d_Row_set_19
def f_RowR_set (v0_size : Int32) (n0_held : Nat) (y1 : Int32) (y2 : Int32) (f0_held : Nat → Int32) : Option ((Nat → Int32)) :=
  b_RowR_set_0 v0_size n0_held y1 y2 f0_held
set_option maxHeartbeats 4000000 in
set_option maxRecDepth 100000 in
theorem c_RowR_set (l : Launch) (dC : Nat → ClassId) (dI : Nat → Nat → Nat) (cI : dcG) (a0 : Nat) (v0_size : Int32) (q0_held : Nat) (n0_held : Nat) (f0_held : Nat → Int32) (y1 : Int32) (y2 : Int32) (G0_held : Nat → Int32) (sz : Nat) (hf : f_RowR_set v0_size n0_held y1 y2 f0_held = some G0_held) : Met l y_Row_set w_Row_set { frames := 0, cells := 0, slots := 0, locals := 0 } (dc_Pre (dC, dI) (dcT cI) [(a0, .inr (0, [.ref q0_held, .int v0_size])), (q0_held, .inl (cI.1, n0_held, .inl f0_held))] sz [.ref a0, .int y1, .int y2]) (dc_Q (dC, dI) none (fun x : Unit => True) (fun x => [(a0, .inr (0, [.ref q0_held, .int v0_size])), (q0_held, .inl (cI.1, n0_held, .inl G0_held))]) (va_A [(a0, .inr (0, [.ref q0_held, .int v0_size])), (q0_held, .inl (cI.1, n0_held, .inl f0_held))] sz)) 0 0 (va_A [(a0, .inr (0, [.ref q0_held, .int v0_size])), (q0_held, .inl (cI.1, n0_held, .inl f0_held))] sz) := by
  refine Met.ofW (cc := prog_7_method_6_code) (maxL := 3) (ret := none) (by decide) rfl ?_
  intro p e s m args below meth c s₁ B hml hv
  obtain ⟨rfl, hsz, hP, hK, hD0, hN⟩ := hv
  have C0 : dc_At p s m [.ref a0, .int y1, .int y2].toArray meth c prog_7_method_6_code 3 R_Row none := ⟨B.exec, B.bytes, hml, findClass_of_methodNamed B.named, fun w h => atoms_spec (ws := w_Row_set) B.pre w (List.mem_cons_of_mem _ h), B.returns, B.notSynchronized, hN⟩
  subst hsz
  have hD := hD0.self (sz := s.heap.size)
  generalize hAe : va_A [(a0, .inr (0, [.ref q0_held, .int v0_size])), (q0_held, .inl (cI.1, n0_held, .inl f0_held))] s.heap.size = A at hD ⊢
  have hA : ∀ q : Nat, s.heap.size ≤ q → A q := fun q h => by rw [← hAe]; exact Or.inr h
  have hl := lv_entry ([.ref a0, .int y1, .int y2]) (n := 3) (Nat.le_of_ble_eq_true rfl)
  rw [lg_entry_eq]
  generalize (lg_sl ([.ref a0, .int y1, .int y2]) ++ List.replicate (3 - (lg_sl ([.ref a0, .int y1, .int y2])).length) Slot.unset).toArray = ls at hl ⊢
  exact s_RowR_set_0 p l e s m _ below meth c dC dI cI A a0 v0_size q0_held n0_held y1 y2 G0_held C0 hK hA  f0_held hf s.heap [] hP hD va_S.rf ls (lv_sub hl [0, 1, 2] rfl)
def T_RowR_shorten_0 (p : Program) (l : Launch) (e : Env) (s : State) (m : MethodId) (args : Array Value) (below : List Frame) (meth : Method) (c : Code) (dC : Nat → ClassId) (dI : Nat → Nat → Nat) (cI : dcG) (A : Nat → Prop) (a0 : Nat) (q0_held : Nat) (n0_held : Nat) (f0_held : Nat → Int32) (y1 : Int32) (V0_size : Int32) (g : Int32 → Option (Int32)) : Prop :=
  ∀ (v0_size : Int32), g v0_size = some V0_size → 
  ∀ (H : Heap) (locs : List Loc), va_P (dC, dI) vwCl [(a0, .inr (0, [.ref q0_held, .int v0_size])), (q0_held, .inl (cI.1, n0_held, .inl f0_held))] H → va_D A [(a0, .inr (0, [.ref q0_held, .int v0_size])), (q0_held, .inl (cI.1, n0_held, .inl f0_held))] → va_S A s.heap H locs → ∀ (ls : Array Slot), lv_has ls 2 [(0, .ref a0), (1, .int y1)] →
  W p l e { frames := 0, cells := 0, slots := 0, locals := 0 } s m args below meth c H locs 0 0 (MQ below (dc_Q (dC, dI) none (fun x : Unit => True) (fun x => [(a0, .inr (0, [.ref q0_held, .int V0_size])), (q0_held, .inl (cI.1, n0_held, .inl f0_held))]) A) args s 0 0 A) (F0 m 0 ls [])
def b_RowR_shorten_0 (n0_held : Nat) (f0_held : Nat → Int32) (y1 : Int32) (v0_size : Int32) : Option (Int32) :=
  if y1 < 0 then (some v0_size) else (if v0_size ≤ y1 then (some v0_size) else (some y1))
set_option maxHeartbeats 4000000 in
set_option maxRecDepth 100000 in
theorem s_RowR_shorten_0 (p : Program) (l : Launch) (e : Env) (s : State) (m : MethodId) (args : Array Value) (below : List Frame) (meth : Method) (c : Code) (dC : Nat → ClassId) (dI : Nat → Nat → Nat) (cI : dcG) (A : Nat → Prop) (a0 : Nat) (q0_held : Nat) (n0_held : Nat) (f0_held : Nat → Int32) (y1 : Int32) (V0_size : Int32) (C0 : dc_At p s m args meth c prog_7_method_3_code 2 R_Row none) (hK : va_K (dC, dI) vwCl (dcT cI) s) (hA : ∀ q, s.heap.size ≤ q → A q) : T_RowR_shorten_0 p l e s m args below meth c dC dI cI A a0 q0_held n0_held f0_held y1 V0_size (b_RowR_shorten_0 n0_held f0_held y1) := by
  obtain ⟨hx, hb, hml, hown, hts, hr, hlocks, hN⟩ := id C0
  intro v0_size hf H locs hP hD hS ls hl
  unfold b_RowR_shorten_0 at hf
  refine lv_iload_n hx hb d_Row_shorten_0 rfl (lv_at hl 1 rfl) ?_
  refine lv_if_lt (tgt := 17) hx hb d_Row_shorten_1 (by decide) (fun c_1 => ?_) (fun c_1 => ?_)
  · have hf := (if_pos c_1).symm.trans hf
    have hg0 := Option.some.inj hf
    subst hg0
    have hP9 : va_P (dC, dI) vwCl [(a0, .inr (0, [.ref q0_held, .int v0_size])), (q0_held, .inl (cI.1, n0_held, .inl f0_held))] H := hP.sub [0, 1] rfl
    have hD9 : va_D A [(a0, .inr (0, [.ref q0_held, .int v0_size])), (q0_held, .inl (cI.1, n0_held, .inl f0_held))] := hD.sub [0, 1] rfl rfl
    exact W.vret hx hb hr (fun t ht hW => ⟨⟨rfl, (), trivial, by rw [ht]; exact hP9, hD9⟩, hS.F ht⟩) hS.2.2 d_Row_shorten_17
  · have hf := (if_neg c_1).symm.trans hf
    refine lv_iload_n hx hb d_Row_shorten_4 rfl (lv_at hl 1 rfl) ?_
    refine lv_aload_n hx hb d_Row_shorten_5 rfl (lv_at hl 0 rfl) ?_
    refine va_get (D := (dC, dI)) (ci := 0) (v := .int v0_size) (C := R_Row) (T := F_Row) (N := 2) hx hb hts i_Row hown hK hP 0 rfl rfl 1 (by decide) (hts _ wm_41) (fun _ h9 => h9) rfl d_Row_shorten_6 ?_
    refine lv_icmp_ge (tgt := 17) hx hb d_Row_shorten_9 (by decide) (fun c_2 => ?_) (fun c_2 => ?_)
    · have hf := (if_pos c_2).symm.trans hf
      have hg0 := Option.some.inj hf
      subst hg0
      have hP9 : va_P (dC, dI) vwCl [(a0, .inr (0, [.ref q0_held, .int v0_size])), (q0_held, .inl (cI.1, n0_held, .inl f0_held))] H := hP.sub [0, 1] rfl
      have hD9 : va_D A [(a0, .inr (0, [.ref q0_held, .int v0_size])), (q0_held, .inl (cI.1, n0_held, .inl f0_held))] := hD.sub [0, 1] rfl rfl
      exact W.vret hx hb hr (fun t ht hW => ⟨⟨rfl, (), trivial, by rw [ht]; exact hP9, hD9⟩, hS.F ht⟩) hS.2.2 d_Row_shorten_17
    · have hf := (if_neg c_2).symm.trans hf
      refine lv_aload_n hx hb d_Row_shorten_12 rfl (lv_at hl 0 rfl) ?_
      refine lv_iload_n hx hb d_Row_shorten_13 rfl (lv_at hl 1 rfl) ?_
      refine va_put (D := (dC, dI)) (ci := 0) (v := .int y1) (ty := .int) (C := R_Row) (T := F_Row) (N := 2) hx hb hts i_Row t_Row tk_Row nk_Row hown hK hP hD hS 0 rfl rfl 1 (by decide) (hts _ wm_41) (fun _ h9 => h9) rfl (by decide +kernel) rfl rfl (Nat.le_of_ble_eq_true rfl) d_Row_shorten_14 (fun H locs hP hD hS => ?_)
      have hP : va_P (dC, dI) vwCl [(a0, .inr (0, [.ref q0_held, .int y1])), (q0_held, .inl (cI.1, n0_held, .inl f0_held))] H := hP
      have hD : va_D A [(a0, .inr (0, [.ref q0_held, .int y1])), (q0_held, .inl (cI.1, n0_held, .inl f0_held))] := hD
      have hg0 := Option.some.inj hf
      subst hg0
      have hP9 : va_P (dC, dI) vwCl [(a0, .inr (0, [.ref q0_held, .int y1])), (q0_held, .inl (cI.1, n0_held, .inl f0_held))] H := hP.sub [0, 1] rfl
      have hD9 : va_D A [(a0, .inr (0, [.ref q0_held, .int y1])), (q0_held, .inl (cI.1, n0_held, .inl f0_held))] := hD.sub [0, 1] rfl rfl
      exact W.vret hx hb hr (fun t ht hW => ⟨⟨rfl, (), trivial, by rw [ht]; exact hP9, hD9⟩, hS.F ht⟩) hS.2.2 d_Row_shorten_17
def f_RowR_shorten (n0_held : Nat) (f0_held : Nat → Int32) (y1 : Int32) (v0_size : Int32) : Option (Int32) :=
  b_RowR_shorten_0 n0_held f0_held y1 v0_size
set_option maxHeartbeats 4000000 in
set_option maxRecDepth 100000 in
theorem c_RowR_shorten (l : Launch) (dC : Nat → ClassId) (dI : Nat → Nat → Nat) (cI : dcG) (a0 : Nat) (v0_size : Int32) (q0_held : Nat) (n0_held : Nat) (f0_held : Nat → Int32) (y1 : Int32) (V0_size : Int32) (sz : Nat) (hf : f_RowR_shorten n0_held f0_held y1 v0_size = some V0_size) : Met l y_Row_shorten w_Row_shorten { frames := 0, cells := 0, slots := 0, locals := 0 } (dc_Pre (dC, dI) (dcT cI) [(a0, .inr (0, [.ref q0_held, .int v0_size])), (q0_held, .inl (cI.1, n0_held, .inl f0_held))] sz [.ref a0, .int y1]) (dc_Q (dC, dI) none (fun x : Unit => True) (fun x => [(a0, .inr (0, [.ref q0_held, .int V0_size])), (q0_held, .inl (cI.1, n0_held, .inl f0_held))]) (va_A [(a0, .inr (0, [.ref q0_held, .int v0_size])), (q0_held, .inl (cI.1, n0_held, .inl f0_held))] sz)) 0 0 (va_A [(a0, .inr (0, [.ref q0_held, .int v0_size])), (q0_held, .inl (cI.1, n0_held, .inl f0_held))] sz) := by
  refine Met.ofW (cc := prog_7_method_3_code) (maxL := 2) (ret := none) (by decide) rfl ?_
  intro p e s m args below meth c s₁ B hml hv
  obtain ⟨rfl, hsz, hP, hK, hD0, hN⟩ := hv
  have C0 : dc_At p s m [.ref a0, .int y1].toArray meth c prog_7_method_3_code 2 R_Row none := ⟨B.exec, B.bytes, hml, findClass_of_methodNamed B.named, fun w h => atoms_spec (ws := w_Row_shorten) B.pre w (List.mem_cons_of_mem _ h), B.returns, B.notSynchronized, hN⟩
  subst hsz
  have hD := hD0.self (sz := s.heap.size)
  generalize hAe : va_A [(a0, .inr (0, [.ref q0_held, .int v0_size])), (q0_held, .inl (cI.1, n0_held, .inl f0_held))] s.heap.size = A at hD ⊢
  have hA : ∀ q : Nat, s.heap.size ≤ q → A q := fun q h => by rw [← hAe]; exact Or.inr h
  have hl := lv_entry ([.ref a0, .int y1]) (n := 2) (Nat.le_of_ble_eq_true rfl)
  rw [lg_entry_eq]
  generalize (lg_sl ([.ref a0, .int y1]) ++ List.replicate (2 - (lg_sl ([.ref a0, .int y1])).length) Slot.unset).toArray = ls at hl ⊢
  exact s_RowR_shorten_0 p l e s m _ below meth c dC dI cI A a0 q0_held n0_held f0_held y1 V0_size C0 hK hA  v0_size hf s.heap [] hP hD va_S.rf ls (lv_sub hl [0, 1] rfl)
