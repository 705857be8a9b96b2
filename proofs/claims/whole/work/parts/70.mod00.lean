def T_Mod_thrown_0 (p : Program) (l : Launch) (e : Env) (s : State) (m : MethodId) (args : Array Value) (below : List Frame) (meth : Method) (c : Code) (dC : Nat → ClassId) (dI : Nat → Nat → Nat) (cI : dcG) (A : Nat → Prop) (a0 : Nat) (a0_ax : Nat) (a0_ay : Nat) (a0_bx : Nat) (a0_by : Nat) (a0_marks : Nat) (a0_ways : Nat) (a0_gone : Nat) (a0_plan : Nat) (a0_xs : Nat) (a0_ys : Nat) (a0_wayX : Nat) (a0_wayY : Nat) (a0_first : Nat) (a0_size : Nat) (a0_areas : Nat) (a0_owner : Nat) (a0_rx : Nat) (a0_ry : Nat) (v0_thrown : Int32) (v0_pieces : Int32) (v0_planned : Int32) (v0_corners : Int32) (v0_polygons : Int32) (v0_twice : Int64) (v0_length : Int32) (v0_rings : Int32) (v0_places : Int32) (rv : Int32) (g : Option (Int32)) : Prop :=
  g  = some rv → 
  ∀ (H : Heap) (locs : List Loc), va_P (dC, dI) vwCl [(a0, .inr (6, [.int v0_thrown, .int v0_pieces, .ref a0_ax, .ref a0_ay, .ref a0_bx, .ref a0_by, .ref a0_marks, .ref a0_ways, .ref a0_gone, .int v0_planned, .int v0_corners, .int v0_polygons, .ref a0_plan, .ref a0_xs, .ref a0_ys, .long v0_twice, .int v0_length, .ref a0_wayX, .ref a0_wayY, .int v0_rings, .ref a0_first, .ref a0_size, .ref a0_areas, .ref a0_owner, .int v0_places, .ref a0_rx, .ref a0_ry]))] H → va_D A [(a0, .inr (6, [.int v0_thrown, .int v0_pieces, .ref a0_ax, .ref a0_ay, .ref a0_bx, .ref a0_by, .ref a0_marks, .ref a0_ways, .ref a0_gone, .int v0_planned, .int v0_corners, .int v0_polygons, .ref a0_plan, .ref a0_xs, .ref a0_ys, .long v0_twice, .int v0_length, .ref a0_wayX, .ref a0_wayY, .int v0_rings, .ref a0_first, .ref a0_size, .ref a0_areas, .ref a0_owner, .int v0_places, .ref a0_rx, .ref a0_ry]))] → va_S A s.heap H locs → ∀ (ls : Array Slot), lv_has ls 1 [(0, .ref a0)] →
  W p l e { frames := 0, cells := 0, slots := 0, locals := 0 } s m args below meth c H locs 0 0 (MQ below (dc_Q (dC, dI) (some (.int rv)) (fun x : Unit => True) (fun x => [(a0, .inr (6, [.int v0_thrown, .int v0_pieces, .ref a0_ax, .ref a0_ay, .ref a0_bx, .ref a0_by, .ref a0_marks, .ref a0_ways, .ref a0_gone, .int v0_planned, .int v0_corners, .int v0_polygons, .ref a0_plan, .ref a0_xs, .ref a0_ys, .long v0_twice, .int v0_length, .ref a0_wayX, .ref a0_wayY, .int v0_rings, .ref a0_first, .ref a0_size, .ref a0_areas, .ref a0_owner, .int v0_places, .ref a0_rx, .ref a0_ry]))]) A) args s 0 0 A) (F0 m 0 ls [])
def b_Mod_thrown_0 (v0_thrown : Int32)  : Option (Int32) :=
  some v0_thrown
set_option maxHeartbeats 4000000 in
set_option maxRecDepth 100000 in
theorem s_Mod_thrown_0 (p : Program) (l : Launch) (e : Env) (s : State) (m : MethodId) (args : Array Value) (below : List Frame) (meth : Method) (c : Code) (dC : Nat → ClassId) (dI : Nat → Nat → Nat) (cI : dcG) (A : Nat → Prop) (a0 : Nat) (a0_ax : Nat) (a0_ay : Nat) (a0_bx : Nat) (a0_by : Nat) (a0_marks : Nat) (a0_ways : Nat) (a0_gone : Nat) (a0_plan : Nat) (a0_xs : Nat) (a0_ys : Nat) (a0_wayX : Nat) (a0_wayY : Nat) (a0_first : Nat) (a0_size : Nat) (a0_areas : Nat) (a0_owner : Nat) (a0_rx : Nat) (a0_ry : Nat) (v0_thrown : Int32) (v0_pieces : Int32) (v0_planned : Int32) (v0_corners : Int32) (v0_polygons : Int32) (v0_twice : Int64) (v0_length : Int32) (v0_rings : Int32) (v0_places : Int32) (rv : Int32) (C0 : dc_At p s m args meth c prog_9_method_2_code 1 R_Mod (some .int)) (hK : va_K (dC, dI) vwCl (dcT cI) s) (hA : ∀ q, s.heap.size ≤ q → A q) : T_Mod_thrown_0 p l e s m args below meth c dC dI cI A a0 a0_ax a0_ay a0_bx a0_by a0_marks a0_ways a0_gone a0_plan a0_xs a0_ys a0_wayX a0_wayY a0_first a0_size a0_areas a0_owner a0_rx a0_ry v0_thrown v0_pieces v0_planned v0_corners v0_polygons v0_twice v0_length v0_rings v0_places rv (b_Mod_thrown_0 v0_thrown) := by
  obtain ⟨hx, hb, hml, hown, hts, hr, hlocks, hN⟩ := id C0
  intro hf H locs hP hD hS ls hl
  unfold b_Mod_thrown_0 at hf
  refine lv_aload_n hx hb d_Mod_thrown_0 rfl (lv_at hl 0 rfl) ?_
  refine va_get (D := (dC, dI)) (ci := 6) (v := .int v0_thrown) (C := R_Mod) (T := F_Mod) (N := 27) hx hb hts i_Mod hown hK hP 0 rfl rfl 0 (by decide) (hts _ wm_623) (fun _ h9 => h9) rfl d_Mod_thrown_1 ?_
  have hg0 := Option.some.inj hf
  subst hg0
  have hP9 : va_P (dC, dI) vwCl [(a0, .inr (6, [.int v0_thrown, .int v0_pieces, .ref a0_ax, .ref a0_ay, .ref a0_bx, .ref a0_by, .ref a0_marks, .ref a0_ways, .ref a0_gone, .int v0_planned, .int v0_corners, .int v0_polygons, .ref a0_plan, .ref a0_xs, .ref a0_ys, .long v0_twice, .int v0_length, .ref a0_wayX, .ref a0_wayY, .int v0_rings, .ref a0_first, .ref a0_size, .ref a0_areas, .ref a0_owner, .int v0_places, .ref a0_rx, .ref a0_ry]))] H := hP.sub [0] rfl
  have hD9 : va_D A [(a0, .inr (6, [.int v0_thrown, .int v0_pieces, .ref a0_ax, .ref a0_ay, .ref a0_bx, .ref a0_by, .ref a0_marks, .ref a0_ways, .ref a0_gone, .int v0_planned, .int v0_corners, .int v0_polygons, .ref a0_plan, .ref a0_xs, .ref a0_ys, .long v0_twice, .int v0_length, .ref a0_wayX, .ref a0_wayY, .int v0_rings, .ref a0_first, .ref a0_size, .ref a0_areas, .ref a0_owner, .int v0_places, .ref a0_rx, .ref a0_ry]))] := hD.sub [0] rfl rfl
  exact W.iret (v := v0_thrown) hx hb hr (fun t ht hW => ⟨⟨rfl, (), trivial, by rw [ht]; exact hP9, hD9⟩, hS.F ht⟩) hS.2.2 d_Mod_thrown_4
def f_Mod_thrown (v0_thrown : Int32) : Option (Int32) :=
  b_Mod_thrown_0 v0_thrown 
set_option maxHeartbeats 4000000 in
set_option maxRecDepth 100000 in
theorem c_Mod_thrown (l : Launch) (dC : Nat → ClassId) (dI : Nat → Nat → Nat) (cI : dcG) (a0 : Nat) (a0_ax : Nat) (a0_ay : Nat) (a0_bx : Nat) (a0_by : Nat) (a0_marks : Nat) (a0_ways : Nat) (a0_gone : Nat) (a0_plan : Nat) (a0_xs : Nat) (a0_ys : Nat) (a0_wayX : Nat) (a0_wayY : Nat) (a0_first : Nat) (a0_size : Nat) (a0_areas : Nat) (a0_owner : Nat) (a0_rx : Nat) (a0_ry : Nat) (v0_thrown : Int32) (v0_pieces : Int32) (v0_planned : Int32) (v0_corners : Int32) (v0_polygons : Int32) (v0_twice : Int64) (v0_length : Int32) (v0_rings : Int32) (v0_places : Int32) (rv : Int32) (sz : Nat) (hf : f_Mod_thrown v0_thrown = some rv) : Met l y_Mod_thrown w_Mod_thrown { frames := 0, cells := 0, slots := 0, locals := 0 } (dc_Pre (dC, dI) (dcT cI) [(a0, .inr (6, [.int v0_thrown, .int v0_pieces, .ref a0_ax, .ref a0_ay, .ref a0_bx, .ref a0_by, .ref a0_marks, .ref a0_ways, .ref a0_gone, .int v0_planned, .int v0_corners, .int v0_polygons, .ref a0_plan, .ref a0_xs, .ref a0_ys, .long v0_twice, .int v0_length, .ref a0_wayX, .ref a0_wayY, .int v0_rings, .ref a0_first, .ref a0_size, .ref a0_areas, .ref a0_owner, .int v0_places, .ref a0_rx, .ref a0_ry]))] sz [.ref a0]) (dc_Q (dC, dI) (some (.int rv)) (fun x : Unit => True) (fun x => [(a0, .inr (6, [.int v0_thrown, .int v0_pieces, .ref a0_ax, .ref a0_ay, .ref a0_bx, .ref a0_by, .ref a0_marks, .ref a0_ways, .ref a0_gone, .int v0_planned, .int v0_corners, .int v0_polygons, .ref a0_plan, .ref a0_xs, .ref a0_ys, .long v0_twice, .int v0_length, .ref a0_wayX, .ref a0_wayY, .int v0_rings, .ref a0_first, .ref a0_size, .ref a0_areas, .ref a0_owner, .int v0_places, .ref a0_rx, .ref a0_ry]))]) (va_A [(a0, .inr (6, [.int v0_thrown, .int v0_pieces, .ref a0_ax, .ref a0_ay, .ref a0_bx, .ref a0_by, .ref a0_marks, .ref a0_ways, .ref a0_gone, .int v0_planned, .int v0_corners, .int v0_polygons, .ref a0_plan, .ref a0_xs, .ref a0_ys, .long v0_twice, .int v0_length, .ref a0_wayX, .ref a0_wayY, .int v0_rings, .ref a0_first, .ref a0_size, .ref a0_areas, .ref a0_owner, .int v0_places, .ref a0_rx, .ref a0_ry]))] sz)) 0 0 (va_A [(a0, .inr (6, [.int v0_thrown, .int v0_pieces, .ref a0_ax, .ref a0_ay, .ref a0_bx, .ref a0_by, .ref a0_marks, .ref a0_ways, .ref a0_gone, .int v0_planned, .int v0_corners, .int v0_polygons, .ref a0_plan, .ref a0_xs, .ref a0_ys, .long v0_twice, .int v0_length, .ref a0_wayX, .ref a0_wayY, .int v0_rings, .ref a0_first, .ref a0_size, .ref a0_areas, .ref a0_owner, .int v0_places, .ref a0_rx, .ref a0_ry]))] sz) := by
  refine Met.ofW (cc := prog_9_method_2_code) (maxL := 1) (ret := (some .int)) (by decide) rfl ?_
  intro p e s m args below meth c s₁ B hml hv
  obtain ⟨rfl, hsz, hP, hK, hD0, hN⟩ := hv
  have C0 : dc_At p s m [.ref a0].toArray meth c prog_9_method_2_code 1 R_Mod (some .int) := ⟨B.exec, B.bytes, hml, findClass_of_methodNamed B.named, fun w h => atoms_spec (ws := w_Mod_thrown) B.pre w (List.mem_cons_of_mem _ h), B.returns, B.notSynchronized, hN⟩
  subst hsz
  have hD := hD0.self (sz := s.heap.size)
  generalize hAe : va_A [(a0, .inr (6, [.int v0_thrown, .int v0_pieces, .ref a0_ax, .ref a0_ay, .ref a0_bx, .ref a0_by, .ref a0_marks, .ref a0_ways, .ref a0_gone, .int v0_planned, .int v0_corners, .int v0_polygons, .ref a0_plan, .ref a0_xs, .ref a0_ys, .long v0_twice, .int v0_length, .ref a0_wayX, .ref a0_wayY, .int v0_rings, .ref a0_first, .ref a0_size, .ref a0_areas, .ref a0_owner, .int v0_places, .ref a0_rx, .ref a0_ry]))] s.heap.size = A at hD ⊢
  have hA : ∀ q : Nat, s.heap.size ≤ q → A q := fun q h => by rw [← hAe]; exact Or.inr h
  have hl := lv_entry ([.ref a0]) (n := 1) (Nat.le_of_ble_eq_true rfl)
  rw [lg_entry_eq]
  generalize (lg_sl ([.ref a0]) ++ List.replicate (1 - (lg_sl ([.ref a0])).length) Slot.unset).toArray = ls at hl ⊢
  exact s_Mod_thrown_0 p l e s m _ below meth c dC dI cI A a0 a0_ax a0_ay a0_bx a0_by a0_marks a0_ways a0_gone a0_plan a0_xs a0_ys a0_wayX a0_wayY a0_first a0_size a0_areas a0_owner a0_rx a0_ry v0_thrown v0_pieces v0_planned v0_corners v0_polygons v0_twice v0_length v0_rings v0_places rv C0 hK hA  hf s.heap [] hP hD va_S.rf ls (lv_sub hl [0] rfl)
def T_Mod_fail_0 (p : Program) (l : Launch) (e : Env) (s : State) (m : MethodId) (args : Array Value) (below : List Frame) (meth : Method) (c : Code) (dC : Nat → ClassId) (dI : Nat → Nat → Nat) (cI : dcG) (A : Nat → Prop) (a0 : Nat) (a0_ax : Nat) (a0_ay : Nat) (a0_bx : Nat) (a0_by : Nat) (a0_marks : Nat) (a0_ways : Nat) (a0_gone : Nat) (a0_plan : Nat) (a0_xs : Nat) (a0_ys : Nat) (a0_wayX : Nat) (a0_wayY : Nat) (a0_first : Nat) (a0_size : Nat) (a0_areas : Nat) (a0_owner : Nat) (a0_rx : Nat) (a0_ry : Nat) (v0_pieces : Int32) (v0_planned : Int32) (v0_corners : Int32) (v0_polygons : Int32) (v0_twice : Int64) (v0_length : Int32) (v0_rings : Int32) (v0_places : Int32) (y1 : Int32) (rv : Int32) (V0_thrown : Int32) (g : Int32 → Option (Int32 × Int32)) : Prop :=
  ∀ (v0_thrown : Int32), g v0_thrown = some (rv, V0_thrown) → 
  ∀ (H : Heap) (locs : List Loc), va_P (dC, dI) vwCl [(a0, .inr (6, [.int v0_thrown, .int v0_pieces, .ref a0_ax, .ref a0_ay, .ref a0_bx, .ref a0_by, .ref a0_marks, .ref a0_ways, .ref a0_gone, .int v0_planned, .int v0_corners, .int v0_polygons, .ref a0_plan, .ref a0_xs, .ref a0_ys, .long v0_twice, .int v0_length, .ref a0_wayX, .ref a0_wayY, .int v0_rings, .ref a0_first, .ref a0_size, .ref a0_areas, .ref a0_owner, .int v0_places, .ref a0_rx, .ref a0_ry]))] H → va_D A [(a0, .inr (6, [.int v0_thrown, .int v0_pieces, .ref a0_ax, .ref a0_ay, .ref a0_bx, .ref a0_by, .ref a0_marks, .ref a0_ways, .ref a0_gone, .int v0_planned, .int v0_corners, .int v0_polygons, .ref a0_plan, .ref a0_xs, .ref a0_ys, .long v0_twice, .int v0_length, .ref a0_wayX, .ref a0_wayY, .int v0_rings, .ref a0_first, .ref a0_size, .ref a0_areas, .ref a0_owner, .int v0_places, .ref a0_rx, .ref a0_ry]))] → va_S A s.heap H locs → ∀ (ls : Array Slot), lv_has ls 2 [(0, .ref a0), (1, .int y1)] →
  W p l e { frames := 0, cells := 0, slots := 0, locals := 0 } s m args below meth c H locs 0 0 (MQ below (dc_Q (dC, dI) (some (.int rv)) (fun x : Unit => True) (fun x => [(a0, .inr (6, [.int V0_thrown, .int v0_pieces, .ref a0_ax, .ref a0_ay, .ref a0_bx, .ref a0_by, .ref a0_marks, .ref a0_ways, .ref a0_gone, .int v0_planned, .int v0_corners, .int v0_polygons, .ref a0_plan, .ref a0_xs, .ref a0_ys, .long v0_twice, .int v0_length, .ref a0_wayX, .ref a0_wayY, .int v0_rings, .ref a0_first, .ref a0_size, .ref a0_areas, .ref a0_owner, .int v0_places, .ref a0_rx, .ref a0_ry]))]) A) args s 0 0 A) (F0 m 0 ls [])
def b_Mod_fail_0 (y1 : Int32) (v0_thrown : Int32) : Option (Int32 × Int32) :=
  some ((0 : Int32), y1)
set_option maxHeartbeats 4000000 in
set_option maxRecDepth 100000 in
theorem s_Mod_fail_0 (p : Program) (l : Launch) (e : Env) (s : State) (m : MethodId) (args : Array Value) (below : List Frame) (meth : Method) (c : Code) (dC : Nat → ClassId) (dI : Nat → Nat → Nat) (cI : dcG) (A : Nat → Prop) (a0 : Nat) (a0_ax : Nat) (a0_ay : Nat) (a0_bx : Nat) (a0_by : Nat) (a0_marks : Nat) (a0_ways : Nat) (a0_gone : Nat) (a0_plan : Nat) (a0_xs : Nat) (a0_ys : Nat) (a0_wayX : Nat) (a0_wayY : Nat) (a0_first : Nat) (a0_size : Nat) (a0_areas : Nat) (a0_owner : Nat) (a0_rx : Nat) (a0_ry : Nat) (v0_pieces : Int32) (v0_planned : Int32) (v0_corners : Int32) (v0_polygons : Int32) (v0_twice : Int64) (v0_length : Int32) (v0_rings : Int32) (v0_places : Int32) (y1 : Int32) (rv : Int32) (V0_thrown : Int32) (C0 : dc_At p s m args meth c prog_9_method_3_code 2 R_Mod (some .int)) (hK : va_K (dC, dI) vwCl (dcT cI) s) (hA : ∀ q, s.heap.size ≤ q → A q) : T_Mod_fail_0 p l e s m args below meth c dC dI cI A a0 a0_ax a0_ay a0_bx a0_by a0_marks a0_ways a0_gone a0_plan a0_xs a0_ys a0_wayX a0_wayY a0_first a0_size a0_areas a0_owner a0_rx a0_ry v0_pieces v0_planned v0_corners v0_polygons v0_twice v0_length v0_rings v0_places y1 rv V0_thrown (b_Mod_fail_0 y1) := by
  obtain ⟨hx, hb, hml, hown, hts, hr, hlocks, hN⟩ := id C0
  intro v0_thrown hf H locs hP hD hS ls hl
  unfold b_Mod_fail_0 at hf
  refine lv_aload_n hx hb d_Mod_fail_0 rfl (lv_at hl 0 rfl) ?_
  refine lv_iload_n hx hb d_Mod_fail_1 rfl (lv_at hl 1 rfl) ?_
  refine va_put (D := (dC, dI)) (ci := 6) (v := .int y1) (ty := .int) (C := R_Mod) (T := F_Mod) (N := 27) hx hb hts i_Mod t_Mod tk_Mod nk_Mod hown hK hP hD hS 0 rfl rfl 0 (by decide) (hts _ wm_623) (fun _ h9 => h9) rfl (by decide +kernel) rfl rfl (Nat.le_of_ble_eq_true rfl) d_Mod_fail_2 (fun H locs hP hD hS => ?_)
  have hP : va_P (dC, dI) vwCl [(a0, .inr (6, [.int y1, .int v0_pieces, .ref a0_ax, .ref a0_ay, .ref a0_bx, .ref a0_by, .ref a0_marks, .ref a0_ways, .ref a0_gone, .int v0_planned, .int v0_corners, .int v0_polygons, .ref a0_plan, .ref a0_xs, .ref a0_ys, .long v0_twice, .int v0_length, .ref a0_wayX, .ref a0_wayY, .int v0_rings, .ref a0_first, .ref a0_size, .ref a0_areas, .ref a0_owner, .int v0_places, .ref a0_rx, .ref a0_ry]))] H := hP
  have hD : va_D A [(a0, .inr (6, [.int y1, .int v0_pieces, .ref a0_ax, .ref a0_ay, .ref a0_bx, .ref a0_by, .ref a0_marks, .ref a0_ways, .ref a0_gone, .int v0_planned, .int v0_corners, .int v0_polygons, .ref a0_plan, .ref a0_xs, .ref a0_ys, .long v0_twice, .int v0_length, .ref a0_wayX, .ref a0_wayY, .int v0_rings, .ref a0_first, .ref a0_size, .ref a0_areas, .ref a0_owner, .int v0_places, .ref a0_rx, .ref a0_ry]))] := hD
  refine lv_iconst (v := 0) hx hb d_Mod_fail_5 (by decide) ?_
  have hg0 := Option.some.inj hf
  obtain ⟨eo0, hg1⟩ := Prod.mk.inj hg0
  subst eo0
  subst hg1
  have hP9 : va_P (dC, dI) vwCl [(a0, .inr (6, [.int y1, .int v0_pieces, .ref a0_ax, .ref a0_ay, .ref a0_bx, .ref a0_by, .ref a0_marks, .ref a0_ways, .ref a0_gone, .int v0_planned, .int v0_corners, .int v0_polygons, .ref a0_plan, .ref a0_xs, .ref a0_ys, .long v0_twice, .int v0_length, .ref a0_wayX, .ref a0_wayY, .int v0_rings, .ref a0_first, .ref a0_size, .ref a0_areas, .ref a0_owner, .int v0_places, .ref a0_rx, .ref a0_ry]))] H := hP.sub [0] rfl
  have hD9 : va_D A [(a0, .inr (6, [.int y1, .int v0_pieces, .ref a0_ax, .ref a0_ay, .ref a0_bx, .ref a0_by, .ref a0_marks, .ref a0_ways, .ref a0_gone, .int v0_planned, .int v0_corners, .int v0_polygons, .ref a0_plan, .ref a0_xs, .ref a0_ys, .long v0_twice, .int v0_length, .ref a0_wayX, .ref a0_wayY, .int v0_rings, .ref a0_first, .ref a0_size, .ref a0_areas, .ref a0_owner, .int v0_places, .ref a0_rx, .ref a0_ry]))] := hD.sub [0] rfl rfl
  exact W.iret (v := (0 : Int32)) hx hb hr (fun t ht hW => ⟨⟨rfl, (), trivial, by rw [ht]; exact hP9, hD9⟩, hS.F ht⟩) hS.2.2 d_Mod_fail_6
def f_Mod_fail (y1 : Int32) (v0_thrown : Int32) : Option (Int32 × Int32) :=
  b_Mod_fail_0 y1 v0_thrown
set_option maxHeartbeats 4000000 in
set_option maxRecDepth 100000 in
theorem c_Mod_fail (l : Launch) (dC : Nat → ClassId) (dI : Nat → Nat → Nat) (cI : dcG) (a0 : Nat) (a0_ax : Nat) (a0_ay : Nat) (a0_bx : Nat) (a0_by : Nat) (a0_marks : Nat) (a0_ways : Nat) (a0_gone : Nat) (a0_plan : Nat) (a0_xs : Nat) (a0_ys : Nat) (a0_wayX : Nat) (a0_wayY : Nat) (a0_first : Nat) (a0_size : Nat) (a0_areas : Nat) (a0_owner : Nat) (a0_rx : Nat) (a0_ry : Nat) (v0_thrown : Int32) (v0_pieces : Int32) (v0_planned : Int32) (v0_corners : Int32) (v0_polygons : Int32) (v0_twice : Int64) (v0_length : Int32) (v0_rings : Int32) (v0_places : Int32) (y1 : Int32) (rv : Int32) (V0_thrown : Int32) (sz : Nat) (hf : f_Mod_fail y1 v0_thrown = some (rv, V0_thrown)) : Met l y_Mod_fail w_Mod_fail { frames := 0, cells := 0, slots := 0, locals := 0 } (dc_Pre (dC, dI) (dcT cI) [(a0, .inr (6, [.int v0_thrown, .int v0_pieces, .ref a0_ax, .ref a0_ay, .ref a0_bx, .ref a0_by, .ref a0_marks, .ref a0_ways, .ref a0_gone, .int v0_planned, .int v0_corners, .int v0_polygons, .ref a0_plan, .ref a0_xs, .ref a0_ys, .long v0_twice, .int v0_length, .ref a0_wayX, .ref a0_wayY, .int v0_rings, .ref a0_first, .ref a0_size, .ref a0_areas, .ref a0_owner, .int v0_places, .ref a0_rx, .ref a0_ry]))] sz [.ref a0, .int y1]) (dc_Q (dC, dI) (some (.int rv)) (fun x : Unit => True) (fun x => [(a0, .inr (6, [.int V0_thrown, .int v0_pieces, .ref a0_ax, .ref a0_ay, .ref a0_bx, .ref a0_by, .ref a0_marks, .ref a0_ways, .ref a0_gone, .int v0_planned, .int v0_corners, .int v0_polygons, .ref a0_plan, .ref a0_xs, .ref a0_ys, .long v0_twice, .int v0_length, .ref a0_wayX, .ref a0_wayY, .int v0_rings, .ref a0_first, .ref a0_size, .ref a0_areas, .ref a0_owner, .int v0_places, .ref a0_rx, .ref a0_ry]))]) (va_A [(a0, .inr (6, [.int v0_thrown, .int v0_pieces, .ref a0_ax, .ref a0_ay, .ref a0_bx, .ref a0_by, .ref a0_marks, .ref a0_ways, .ref a0_gone, .int v0_planned, .int v0_corners, .int v0_polygons, .ref a0_plan, .ref a0_xs, .ref a0_ys, .long v0_twice, .int v0_length, .ref a0_wayX, .ref a0_wayY, .int v0_rings, .ref a0_first, .ref a0_size, .ref a0_areas, .ref a0_owner, .int v0_places, .ref a0_rx, .ref a0_ry]))] sz)) 0 0 (va_A [(a0, .inr (6, [.int v0_thrown, .int v0_pieces, .ref a0_ax, .ref a0_ay, .ref a0_bx, .ref a0_by, .ref a0_marks, .ref a0_ways, .ref a0_gone, .int v0_planned, .int v0_corners, .int v0_polygons, .ref a0_plan, .ref a0_xs, .ref a0_ys, .long v0_twice, .int v0_length, .ref a0_wayX, .ref a0_wayY, .int v0_rings, .ref a0_first, .ref a0_size, .ref a0_areas, .ref a0_owner, .int v0_places, .ref a0_rx, .ref a0_ry]))] sz) := by
  refine Met.ofW (cc := prog_9_method_3_code) (maxL := 2) (ret := (some .int)) (by decide) rfl ?_
  intro p e s m args below meth c s₁ B hml hv
  obtain ⟨rfl, hsz, hP, hK, hD0, hN⟩ := hv
  have C0 : dc_At p s m [.ref a0, .int y1].toArray meth c prog_9_method_3_code 2 R_Mod (some .int) := ⟨B.exec, B.bytes, hml, findClass_of_methodNamed B.named, fun w h => atoms_spec (ws := w_Mod_fail) B.pre w (List.mem_cons_of_mem _ h), B.returns, B.notSynchronized, hN⟩
  subst hsz
  have hD := hD0.self (sz := s.heap.size)
  generalize hAe : va_A [(a0, .inr (6, [.int v0_thrown, .int v0_pieces, .ref a0_ax, .ref a0_ay, .ref a0_bx, .ref a0_by, .ref a0_marks, .ref a0_ways, .ref a0_gone, .int v0_planned, .int v0_corners, .int v0_polygons, .ref a0_plan, .ref a0_xs, .ref a0_ys, .long v0_twice, .int v0_length, .ref a0_wayX, .ref a0_wayY, .int v0_rings, .ref a0_first, .ref a0_size, .ref a0_areas, .ref a0_owner, .int v0_places, .ref a0_rx, .ref a0_ry]))] s.heap.size = A at hD ⊢
  have hA : ∀ q : Nat, s.heap.size ≤ q → A q := fun q h => by rw [← hAe]; exact Or.inr h
  have hl := lv_entry ([.ref a0, .int y1]) (n := 2) (Nat.le_of_ble_eq_true rfl)
  rw [lg_entry_eq]
  generalize (lg_sl ([.ref a0, .int y1]) ++ List.replicate (2 - (lg_sl ([.ref a0, .int y1])).length) Slot.unset).toArray = ls at hl ⊢
  exact s_Mod_fail_0 p l e s m _ below meth c dC dI cI A a0 a0_ax a0_ay a0_bx a0_by a0_marks a0_ways a0_gone a0_plan a0_xs a0_ys a0_wayX a0_wayY a0_first a0_size a0_areas a0_owner a0_rx a0_ry v0_pieces v0_planned v0_corners v0_polygons v0_twice v0_length v0_rings v0_places y1 rv V0_thrown C0 hK hA  v0_thrown hf s.heap [] hP hD va_S.rf ls (lv_sub hl [0, 1] rfl)
def T_Mod_within_0 (p : Program) (l : Launch) (e : Env) (s : State) (m : MethodId) (args : Array Value) (below : List Frame) (meth : Method) (c : Code) (dC : Nat → ClassId) (dI : Nat → Nat → Nat) (cI : dcG) (A : Nat → Prop) (y0 : Int32) (y1 : Int32) (y2 : Int32) (rv : Bool) (g : Option (Bool)) : Prop :=
  g  = some rv → 
  ∀ (H : Heap) (locs : List Loc), va_P (dC, dI) vwCl [] H → va_D A [] → va_S A s.heap H locs → ∀ (ls : Array Slot), lv_has ls 3 [(0, .int y0), (1, .int y1), (2, .int y2)] →
  W p l e { frames := 0, cells := 0, slots := 0, locals := 0 } s m args below meth c H locs 0 0 (MQ below (dc_Q (dC, dI) (some (.int (bI rv))) (fun x : Unit => True) (fun x => []) A) args s 0 0 A) (F0 m 0 ls [])
def b_Mod_within_0 (y0 : Int32) (y1 : Int32) (y2 : Int32)  : Option (Bool) :=
  if y0 < y1 then (some false) else (if y2 < y0 then (some false) else (some true))
set_option maxHeartbeats 4000000 in
set_option maxRecDepth 100000 in
theorem s_Mod_within_0 (p : Program) (l : Launch) (e : Env) (s : State) (m : MethodId) (args : Array Value) (below : List Frame) (meth : Method) (c : Code) (dC : Nat → ClassId) (dI : Nat → Nat → Nat) (cI : dcG) (A : Nat → Prop) (y0 : Int32) (y1 : Int32) (y2 : Int32) (rv : Bool) (C0 : dc_At p s m args meth c prog_9_method_4_code 3 R_Mod (some .boolean)) (hK : va_K (dC, dI) vwCl (dcT cI) s) (hA : ∀ q, s.heap.size ≤ q → A q) : T_Mod_within_0 p l e s m args below meth c dC dI cI A y0 y1 y2 rv (b_Mod_within_0 y0 y1 y2) := by
  obtain ⟨hx, hb, hml, hown, hts, hr, hlocks, hN⟩ := id C0
  intro hf H locs hP hD hS ls hl
  unfold b_Mod_within_0 at hf
  refine lv_iload_n hx hb d_Mod_within_0 rfl (lv_at hl 0 rfl) ?_
  refine lv_iload_n hx hb d_Mod_within_1 rfl (lv_at hl 1 rfl) ?_
  refine lv_icmp_lt (tgt := 14) hx hb d_Mod_within_2 (by decide) (fun c_1 => ?_) (fun c_1 => ?_)
  · have hf := (if_pos c_1).symm.trans hf
    refine lv_iconst (v := 0) hx hb d_Mod_within_14 (by decide) ?_
    have hg0 := Option.some.inj hf
    subst hg0
    have hP9 : va_P (dC, dI) vwCl [] H := hP.sub [] rfl
    have hD9 : va_D A [] := hD.sub [] rfl rfl
    exact W.zret (v := (0 : Int32)) hx hb hr (nw_b false) (fun t ht hW => ⟨⟨rfl, (), trivial, by rw [ht]; exact hP9, hD9⟩, hS.F ht⟩) hS.2.2 d_Mod_within_15
  · have hf := (if_neg c_1).symm.trans hf
    refine lv_iload_n hx hb d_Mod_within_5 rfl (lv_at hl 0 rfl) ?_
    refine lv_iload_n hx hb d_Mod_within_6 rfl (lv_at hl 2 rfl) ?_
    refine lv_icmp_gt (tgt := 14) hx hb d_Mod_within_7 (by decide) (fun c_2 => ?_) (fun c_2 => ?_)
    · have hf := (if_pos c_2).symm.trans hf
      refine lv_iconst (v := 0) hx hb d_Mod_within_14 (by decide) ?_
      have hg0 := Option.some.inj hf
      subst hg0
      have hP9 : va_P (dC, dI) vwCl [] H := hP.sub [] rfl
      have hD9 : va_D A [] := hD.sub [] rfl rfl
      exact W.zret (v := (0 : Int32)) hx hb hr (nw_b false) (fun t ht hW => ⟨⟨rfl, (), trivial, by rw [ht]; exact hP9, hD9⟩, hS.F ht⟩) hS.2.2 d_Mod_within_15
    · have hf := (if_neg c_2).symm.trans hf
      refine lv_iconst (v := 1) hx hb d_Mod_within_10 (by decide) ?_
      refine lv_goto (tgt := 15) hx hb d_Mod_within_11 (by decide) ?_
      have hg0 := Option.some.inj hf
      subst hg0
      have hP9 : va_P (dC, dI) vwCl [] H := hP.sub [] rfl
      have hD9 : va_D A [] := hD.sub [] rfl rfl
      exact W.zret (v := (1 : Int32)) hx hb hr (nw_b true) (fun t ht hW => ⟨⟨rfl, (), trivial, by rw [ht]; exact hP9, hD9⟩, hS.F ht⟩) hS.2.2 d_Mod_within_15
def f_Mod_within (y0 : Int32) (y1 : Int32) (y2 : Int32) : Option (Bool) :=
  b_Mod_within_0 y0 y1 y2 
set_option maxHeartbeats 4000000 in
set_option maxRecDepth 100000 in
theorem c_Mod_within (l : Launch) (dC : Nat → ClassId) (dI : Nat → Nat → Nat) (cI : dcG) (y0 : Int32) (y1 : Int32) (y2 : Int32) (rv : Bool) (sz : Nat) (hf : f_Mod_within y0 y1 y2 = some rv) : Met l y_Mod_within w_Mod_within { frames := 0, cells := 0, slots := 0, locals := 0 } (dc_Pre (dC, dI) (dcT cI) [] sz [.int y0, .int y1, .int y2]) (dc_Q (dC, dI) (some (.int (bI rv))) (fun x : Unit => True) (fun x => []) (va_A [] sz)) 0 0 (va_A [] sz) := by
  refine Met.ofW (cc := prog_9_method_4_code) (maxL := 3) (ret := (some .boolean)) (by decide) rfl ?_
  intro p e s m args below meth c s₁ B hml hv
  obtain ⟨rfl, hsz, hP, hK, hD0, hN⟩ := hv
  have C0 : dc_At p s m [.int y0, .int y1, .int y2].toArray meth c prog_9_method_4_code 3 R_Mod (some .boolean) := ⟨B.exec, B.bytes, hml, findClass_of_methodNamed B.named, fun w h => atoms_spec (ws := w_Mod_within) B.pre w (List.mem_cons_of_mem _ h), B.returns, B.notSynchronized, hN⟩
  subst hsz
  have hD := hD0.self (sz := s.heap.size)
  generalize hAe : va_A [] s.heap.size = A at hD ⊢
  have hA : ∀ q : Nat, s.heap.size ≤ q → A q := fun q h => by rw [← hAe]; exact Or.inr h
  have hl := lv_entry ([.int y0, .int y1, .int y2]) (n := 3) (Nat.le_of_ble_eq_true rfl)
  rw [lg_entry_eq]
  generalize (lg_sl ([.int y0, .int y1, .int y2]) ++ List.replicate (3 - (lg_sl ([.int y0, .int y1, .int y2])).length) Slot.unset).toArray = ls at hl ⊢
  exact s_Mod_within_0 p l e s m _ below meth c dC dI cI A y0 y1 y2 rv C0 hK hA  hf s.heap [] hP hD va_S.rf ls (lv_sub hl [0, 1, 2] rfl)
def T_Mod_isFar_0 (p : Program) (l : Launch) (e : Env) (s : State) (m : MethodId) (args : Array Value) (below : List Frame) (meth : Method) (c : Code) (dC : Nat → ClassId) (dI : Nat → Nat → Nat) (cI : dcG) (A : Nat → Prop) (y0 : Int32) (rv : Bool) (g : Option (Bool)) : Prop :=
  g  = some rv → 
  ∀ (H : Heap) (locs : List Loc), va_P (dC, dI) vwCl [] H → va_D A [] → va_S A s.heap H locs → ∀ (ls : Array Slot), lv_has ls 1 [(0, .int y0)] →
  W p l e { frames := 1, cells := 0, slots := 0, locals := 22 } s m args below meth c H locs 0 0 (MQ below (dc_Q (dC, dI) (some (.int (bI rv))) (fun x : Unit => True) (fun x => []) A) args s 0 0 A) (F0 m 0 ls [])
def b_Mod_isFar_0 (y0 : Int32)  : Option (Bool) :=
  ob1 (f_Mod_within y0 (-500000000 : Int32) (500000000 : Int32)) fun r_1 => if (bI r_1) = 0 then (some true) else (some false)
set_option maxHeartbeats 4000000 in
set_option maxRecDepth 100000 in
theorem s_Mod_isFar_0 (p : Program) (l : Launch) (e : Env) (s : State) (m : MethodId) (args : Array Value) (below : List Frame) (meth : Method) (c : Code) (dC : Nat → ClassId) (dI : Nat → Nat → Nat) (cI : dcG) (A : Nat → Prop) (y0 : Int32) (rv : Bool) (C0 : dc_At p s m args meth c prog_9_method_5_code 1 R_Mod (some .boolean)) (hK : va_K (dC, dI) vwCl (dcT cI) s) (hA : ∀ q, s.heap.size ≤ q → A q) : T_Mod_isFar_0 p l e s m args below meth c dC dI cI A y0 rv (b_Mod_isFar_0 y0) := by
  obtain ⟨hx, hb, hml, hown, hts, hr, hlocks, hN⟩ := id C0
  intro hf H locs hP hD hS ls hl
  unfold b_Mod_isFar_0 at hf
  refine lv_iload_n hx hb d_Mod_isFar_0 rfl (lv_at hl 0 rfl) ?_
  refine lv_ldc (v := (-500000000)) hx hb hown (hts _ wm_718) d_Mod_isFar_1 ?_
  refine lv_ldc (v := 500000000) hx hb hown (hts _ wm_719) d_Mod_isFar_3 ?_
  obtain ⟨r_1, e_1, hf⟩ := ob1_some hf
  refine dc_call (wc := []) (wr := []) [] [] hP hD hS hA rfl rfl rfl rfl rfl (fun hPc hDc => va_runS (As := [.int y0, .int (-500000000 : Int32), .int (500000000 : Int32)]) (rest := []) ⟨hx, hb, hml, hown, hts⟩ (c_Mod_within l dC dI cI y0 (-500000000 : Int32) (500000000 : Int32) r_1 H.size e_1) (va_cwS 3 hts (gS wm_720 wm_721 wm_7 wm_722) rfl rfl rfl (by decide +kernel) ⟨Nat.le_of_ble_eq_true rfl, Nat.le_of_ble_eq_true rfl⟩) (dc_preS hK hN hPc hDc) rfl rfl hl.1 rfl (lv_room (Nat.le_of_ble_eq_true rfl)) d_Mod_isFar_5 ⟨Nat.le_refl _, Nat.le_refl _⟩) (fun x_1 H locs hp_1 hP hD hS => ?_)
  have hP : va_P (dC, dI) vwCl [] H := hP
  have hD : va_D A [] := hD
  refine lv_if_ne (tgt := 15) hx hb d_Mod_isFar_8 (by decide) (fun c_2 => ?_) (fun c_2 => ?_)
  · have hf := (if_neg c_2).symm.trans hf
    refine lv_iconst (v := 0) hx hb d_Mod_isFar_15 (by decide) ?_
    have hg0 := Option.some.inj hf
    subst hg0
    have hP9 : va_P (dC, dI) vwCl [] H := hP.sub [] rfl
    have hD9 : va_D A [] := hD.sub [] rfl rfl
    exact W.zret (v := (0 : Int32)) hx hb hr (nw_b false) (fun t ht hW => ⟨⟨rfl, (), trivial, by rw [ht]; exact hP9, hD9⟩, hS.F ht⟩) hS.2.2 d_Mod_isFar_16
  · have hf := (if_pos c_2).symm.trans hf
    refine lv_iconst (v := 1) hx hb d_Mod_isFar_11 (by decide) ?_
    refine lv_goto (tgt := 16) hx hb d_Mod_isFar_12 (by decide) ?_
    have hg0 := Option.some.inj hf
    subst hg0
    have hP9 : va_P (dC, dI) vwCl [] H := hP.sub [] rfl
    have hD9 : va_D A [] := hD.sub [] rfl rfl
    exact W.zret (v := (1 : Int32)) hx hb hr (nw_b true) (fun t ht hW => ⟨⟨rfl, (), trivial, by rw [ht]; exact hP9, hD9⟩, hS.F ht⟩) hS.2.2 d_Mod_isFar_16
def f_Mod_isFar (y0 : Int32) : Option (Bool) :=
  b_Mod_isFar_0 y0 
set_option maxHeartbeats 4000000 in
set_option maxRecDepth 100000 in
theorem c_Mod_isFar (l : Launch) (dC : Nat → ClassId) (dI : Nat → Nat → Nat) (cI : dcG) (y0 : Int32) (rv : Bool) (sz : Nat) (hf : f_Mod_isFar y0 = some rv) : Met l y_Mod_isFar w_Mod_isFar { frames := 1, cells := 0, slots := 0, locals := 22 } (dc_Pre (dC, dI) (dcT cI) [] sz [.int y0]) (dc_Q (dC, dI) (some (.int (bI rv))) (fun x : Unit => True) (fun x => []) (va_A [] sz)) 0 0 (va_A [] sz) := by
  refine Met.ofW (cc := prog_9_method_5_code) (maxL := 1) (ret := (some .boolean)) (by decide) rfl ?_
  intro p e s m args below meth c s₁ B hml hv
  obtain ⟨rfl, hsz, hP, hK, hD0, hN⟩ := hv
  have C0 : dc_At p s m [.int y0].toArray meth c prog_9_method_5_code 1 R_Mod (some .boolean) := ⟨B.exec, B.bytes, hml, findClass_of_methodNamed B.named, fun w h => atoms_spec (ws := w_Mod_isFar) B.pre w (List.mem_cons_of_mem _ h), B.returns, B.notSynchronized, hN⟩
  subst hsz
  have hD := hD0.self (sz := s.heap.size)
  generalize hAe : va_A [] s.heap.size = A at hD ⊢
  have hA : ∀ q : Nat, s.heap.size ≤ q → A q := fun q h => by rw [← hAe]; exact Or.inr h
  have hl := lv_entry ([.int y0]) (n := 1) (Nat.le_of_ble_eq_true rfl)
  rw [lg_entry_eq]
  generalize (lg_sl ([.int y0]) ++ List.replicate (1 - (lg_sl ([.int y0])).length) Slot.unset).toArray = ls at hl ⊢
  exact s_Mod_isFar_0 p l e s m _ below meth c dC dI cI A y0 rv C0 hK hA  hf s.heap [] hP hD va_S.rf ls (lv_sub hl [0] rfl)
def T_Mod_noResult_0 (p : Program) (l : Launch) (e : Env) (s : State) (m : MethodId) (args : Array Value) (below : List Frame) (meth : Method) (c : Code) (dC : Nat → ClassId) (dI : Nat → Nat → Nat) (cI : dcG) (A : Nat → Prop) (a0 : Nat) (a0_ax : Nat) (a0_ay : Nat) (a0_bx : Nat) (a0_by : Nat) (a0_marks : Nat) (a0_ways : Nat) (a0_gone : Nat) (a0_plan : Nat) (a0_xs : Nat) (a0_ys : Nat) (a0_wayX : Nat) (a0_wayY : Nat) (a0_first : Nat) (a0_size : Nat) (a0_areas : Nat) (a0_owner : Nat) (a0_rx : Nat) (a0_ry : Nat) (v0_thrown : Int32) (v0_pieces : Int32) (v0_length : Int32) (v0_rings : Int32) (v0_places : Int32) (V0_planned : Int32) (V0_corners : Int32) (V0_polygons : Int32) (V0_twice : Int64) (g : Int32 → Int32 → Int32 → Int64 → Option (Int32 × Int32 × Int32 × Int64)) : Prop :=
  ∀ (v0_planned : Int32) (v0_corners : Int32) (v0_polygons : Int32) (v0_twice : Int64), g v0_planned v0_corners v0_polygons v0_twice = some (V0_planned, V0_corners, V0_polygons, V0_twice) → 
  ∀ (H : Heap) (locs : List Loc), va_P (dC, dI) vwCl [(a0, .inr (6, [.int v0_thrown, .int v0_pieces, .ref a0_ax, .ref a0_ay, .ref a0_bx, .ref a0_by, .ref a0_marks, .ref a0_ways, .ref a0_gone, .int v0_planned, .int v0_corners, .int v0_polygons, .ref a0_plan, .ref a0_xs, .ref a0_ys, .long v0_twice, .int v0_length, .ref a0_wayX, .ref a0_wayY, .int v0_rings, .ref a0_first, .ref a0_size, .ref a0_areas, .ref a0_owner, .int v0_places, .ref a0_rx, .ref a0_ry]))] H → va_D A [(a0, .inr (6, [.int v0_thrown, .int v0_pieces, .ref a0_ax, .ref a0_ay, .ref a0_bx, .ref a0_by, .ref a0_marks, .ref a0_ways, .ref a0_gone, .int v0_planned, .int v0_corners, .int v0_polygons, .ref a0_plan, .ref a0_xs, .ref a0_ys, .long v0_twice, .int v0_length, .ref a0_wayX, .ref a0_wayY, .int v0_rings, .ref a0_first, .ref a0_size, .ref a0_areas, .ref a0_owner, .int v0_places, .ref a0_rx, .ref a0_ry]))] → va_S A s.heap H locs → ∀ (ls : Array Slot), lv_has ls 1 [(0, .ref a0)] →
  W p l e { frames := 0, cells := 0, slots := 0, locals := 0 } s m args below meth c H locs 0 0 (MQ below (dc_Q (dC, dI) none (fun x : Unit => True) (fun x => [(a0, .inr (6, [.int v0_thrown, .int v0_pieces, .ref a0_ax, .ref a0_ay, .ref a0_bx, .ref a0_by, .ref a0_marks, .ref a0_ways, .ref a0_gone, .int V0_planned, .int V0_corners, .int V0_polygons, .ref a0_plan, .ref a0_xs, .ref a0_ys, .long V0_twice, .int v0_length, .ref a0_wayX, .ref a0_wayY, .int v0_rings, .ref a0_first, .ref a0_size, .ref a0_areas, .ref a0_owner, .int v0_places, .ref a0_rx, .ref a0_ry]))]) A) args s 0 0 A) (F0 m 0 ls [])
def b_Mod_noResult_0  (v0_planned : Int32) (v0_corners : Int32) (v0_polygons : Int32) (v0_twice : Int64) : Option (Int32 × Int32 × Int32 × Int64) :=
  some ((0 : Int32), (0 : Int32), (0 : Int32), (0 : Int64))
set_option maxHeartbeats 4000000 in
set_option maxRecDepth 100000 in
theorem s_Mod_noResult_0 (p : Program) (l : Launch) (e : Env) (s : State) (m : MethodId) (args : Array Value) (below : List Frame) (meth : Method) (c : Code) (dC : Nat → ClassId) (dI : Nat → Nat → Nat) (cI : dcG) (A : Nat → Prop) (a0 : Nat) (a0_ax : Nat) (a0_ay : Nat) (a0_bx : Nat) (a0_by : Nat) (a0_marks : Nat) (a0_ways : Nat) (a0_gone : Nat) (a0_plan : Nat) (a0_xs : Nat) (a0_ys : Nat) (a0_wayX : Nat) (a0_wayY : Nat) (a0_first : Nat) (a0_size : Nat) (a0_areas : Nat) (a0_owner : Nat) (a0_rx : Nat) (a0_ry : Nat) (v0_thrown : Int32) (v0_pieces : Int32) (v0_length : Int32) (v0_rings : Int32) (v0_places : Int32) (V0_planned : Int32) (V0_corners : Int32) (V0_polygons : Int32) (V0_twice : Int64) (C0 : dc_At p s m args meth c prog_9_method_6_code 1 R_Mod none) (hK : va_K (dC, dI) vwCl (dcT cI) s) (hA : ∀ q, s.heap.size ≤ q → A q) : T_Mod_noResult_0 p l e s m args below meth c dC dI cI A a0 a0_ax a0_ay a0_bx a0_by a0_marks a0_ways a0_gone a0_plan a0_xs a0_ys a0_wayX a0_wayY a0_first a0_size a0_areas a0_owner a0_rx a0_ry v0_thrown v0_pieces v0_length v0_rings v0_places V0_planned V0_corners V0_polygons V0_twice (b_Mod_noResult_0 ) := by
  obtain ⟨hx, hb, hml, hown, hts, hr, hlocks, hN⟩ := id C0
  intro v0_planned v0_corners v0_polygons v0_twice hf H locs hP hD hS ls hl
  unfold b_Mod_noResult_0 at hf
  refine lv_aload_n hx hb d_Mod_noResult_0 rfl (lv_at hl 0 rfl) ?_
  refine lv_iconst (v := 0) hx hb d_Mod_noResult_1 (by decide) ?_
  refine va_put (D := (dC, dI)) (ci := 6) (v := .int (0 : Int32)) (ty := .int) (C := R_Mod) (T := F_Mod) (N := 27) hx hb hts i_Mod t_Mod tk_Mod nk_Mod hown hK hP hD hS 0 rfl rfl 9 (by decide) (hts _ wm_632) (fun _ h9 => h9) rfl (by decide +kernel) rfl rfl (Nat.le_of_ble_eq_true rfl) d_Mod_noResult_2 (fun H locs hP hD hS => ?_)
  have hP : va_P (dC, dI) vwCl [(a0, .inr (6, [.int v0_thrown, .int v0_pieces, .ref a0_ax, .ref a0_ay, .ref a0_bx, .ref a0_by, .ref a0_marks, .ref a0_ways, .ref a0_gone, .int (0 : Int32), .int v0_corners, .int v0_polygons, .ref a0_plan, .ref a0_xs, .ref a0_ys, .long v0_twice, .int v0_length, .ref a0_wayX, .ref a0_wayY, .int v0_rings, .ref a0_first, .ref a0_size, .ref a0_areas, .ref a0_owner, .int v0_places, .ref a0_rx, .ref a0_ry]))] H := hP
  have hD : va_D A [(a0, .inr (6, [.int v0_thrown, .int v0_pieces, .ref a0_ax, .ref a0_ay, .ref a0_bx, .ref a0_by, .ref a0_marks, .ref a0_ways, .ref a0_gone, .int (0 : Int32), .int v0_corners, .int v0_polygons, .ref a0_plan, .ref a0_xs, .ref a0_ys, .long v0_twice, .int v0_length, .ref a0_wayX, .ref a0_wayY, .int v0_rings, .ref a0_first, .ref a0_size, .ref a0_areas, .ref a0_owner, .int v0_places, .ref a0_rx, .ref a0_ry]))] := hD
  refine lv_aload_n hx hb d_Mod_noResult_5 rfl (lv_at hl 0 rfl) ?_
  refine lv_iconst (v := 0) hx hb d_Mod_noResult_6 (by decide) ?_
  refine va_put (D := (dC, dI)) (ci := 6) (v := .int (0 : Int32)) (ty := .int) (C := R_Mod) (T := F_Mod) (N := 27) hx hb hts i_Mod t_Mod tk_Mod nk_Mod hown hK hP hD hS 0 rfl rfl 10 (by decide) (hts _ wm_633) (fun _ h9 => h9) rfl (by decide +kernel) rfl rfl (Nat.le_of_ble_eq_true rfl) d_Mod_noResult_7 (fun H locs hP hD hS => ?_)
  have hP : va_P (dC, dI) vwCl [(a0, .inr (6, [.int v0_thrown, .int v0_pieces, .ref a0_ax, .ref a0_ay, .ref a0_bx, .ref a0_by, .ref a0_marks, .ref a0_ways, .ref a0_gone, .int (0 : Int32), .int (0 : Int32), .int v0_polygons, .ref a0_plan, .ref a0_xs, .ref a0_ys, .long v0_twice, .int v0_length, .ref a0_wayX, .ref a0_wayY, .int v0_rings, .ref a0_first, .ref a0_size, .ref a0_areas, .ref a0_owner, .int v0_places, .ref a0_rx, .ref a0_ry]))] H := hP
  have hD : va_D A [(a0, .inr (6, [.int v0_thrown, .int v0_pieces, .ref a0_ax, .ref a0_ay, .ref a0_bx, .ref a0_by, .ref a0_marks, .ref a0_ways, .ref a0_gone, .int (0 : Int32), .int (0 : Int32), .int v0_polygons, .ref a0_plan, .ref a0_xs, .ref a0_ys, .long v0_twice, .int v0_length, .ref a0_wayX, .ref a0_wayY, .int v0_rings, .ref a0_first, .ref a0_size, .ref a0_areas, .ref a0_owner, .int v0_places, .ref a0_rx, .ref a0_ry]))] := hD
  refine lv_aload_n hx hb d_Mod_noResult_10 rfl (lv_at hl 0 rfl) ?_
  refine lv_iconst (v := 0) hx hb d_Mod_noResult_11 (by decide) ?_
  refine va_put (D := (dC, dI)) (ci := 6) (v := .int (0 : Int32)) (ty := .int) (C := R_Mod) (T := F_Mod) (N := 27) hx hb hts i_Mod t_Mod tk_Mod nk_Mod hown hK hP hD hS 0 rfl rfl 11 (by decide) (hts _ wm_634) (fun _ h9 => h9) rfl (by decide +kernel) rfl rfl (Nat.le_of_ble_eq_true rfl) d_Mod_noResult_12 (fun H locs hP hD hS => ?_)
  have hP : va_P (dC, dI) vwCl [(a0, .inr (6, [.int v0_thrown, .int v0_pieces, .ref a0_ax, .ref a0_ay, .ref a0_bx, .ref a0_by, .ref a0_marks, .ref a0_ways, .ref a0_gone, .int (0 : Int32), .int (0 : Int32), .int (0 : Int32), .ref a0_plan, .ref a0_xs, .ref a0_ys, .long v0_twice, .int v0_length, .ref a0_wayX, .ref a0_wayY, .int v0_rings, .ref a0_first, .ref a0_size, .ref a0_areas, .ref a0_owner, .int v0_places, .ref a0_rx, .ref a0_ry]))] H := hP
  have hD : va_D A [(a0, .inr (6, [.int v0_thrown, .int v0_pieces, .ref a0_ax, .ref a0_ay, .ref a0_bx, .ref a0_by, .ref a0_marks, .ref a0_ways, .ref a0_gone, .int (0 : Int32), .int (0 : Int32), .int (0 : Int32), .ref a0_plan, .ref a0_xs, .ref a0_ys, .long v0_twice, .int v0_length, .ref a0_wayX, .ref a0_wayY, .int v0_rings, .ref a0_first, .ref a0_size, .ref a0_areas, .ref a0_owner, .int v0_places, .ref a0_rx, .ref a0_ry]))] := hD
  refine lv_aload_n hx hb d_Mod_noResult_15 rfl (lv_at hl 0 rfl) ?_
  refine lv_lconst (v := 0) hx hb d_Mod_noResult_16 (by decide) ?_
  refine va_put (D := (dC, dI)) (ci := 6) (v := .long (0 : Int64)) (ty := .long) (C := R_Mod) (T := F_Mod) (N := 27) hx hb hts i_Mod t_Mod tk_Mod nk_Mod hown hK hP hD hS 0 rfl rfl 15 (by decide) (hts _ wm_638) (fun _ h9 => h9) rfl (by decide +kernel) rfl rfl (Nat.le_of_ble_eq_true rfl) d_Mod_noResult_17 (fun H locs hP hD hS => ?_)
  have hP : va_P (dC, dI) vwCl [(a0, .inr (6, [.int v0_thrown, .int v0_pieces, .ref a0_ax, .ref a0_ay, .ref a0_bx, .ref a0_by, .ref a0_marks, .ref a0_ways, .ref a0_gone, .int (0 : Int32), .int (0 : Int32), .int (0 : Int32), .ref a0_plan, .ref a0_xs, .ref a0_ys, .long (0 : Int64), .int v0_length, .ref a0_wayX, .ref a0_wayY, .int v0_rings, .ref a0_first, .ref a0_size, .ref a0_areas, .ref a0_owner, .int v0_places, .ref a0_rx, .ref a0_ry]))] H := hP
  have hD : va_D A [(a0, .inr (6, [.int v0_thrown, .int v0_pieces, .ref a0_ax, .ref a0_ay, .ref a0_bx, .ref a0_by, .ref a0_marks, .ref a0_ways, .ref a0_gone, .int (0 : Int32), .int (0 : Int32), .int (0 : Int32), .ref a0_plan, .ref a0_xs, .ref a0_ys, .long (0 : Int64), .int v0_length, .ref a0_wayX, .ref a0_wayY, .int v0_rings, .ref a0_first, .ref a0_size, .ref a0_areas, .ref a0_owner, .int v0_places, .ref a0_rx, .ref a0_ry]))] := hD
  have hg0 := Option.some.inj hf
  obtain ⟨eo0, hg1⟩ := Prod.mk.inj hg0
  obtain ⟨eo1, hg2⟩ := Prod.mk.inj hg1
  obtain ⟨eo2, hg3⟩ := Prod.mk.inj hg2
  subst eo0
  subst eo1
  subst eo2
  subst hg3
  have hP9 : va_P (dC, dI) vwCl [(a0, .inr (6, [.int v0_thrown, .int v0_pieces, .ref a0_ax, .ref a0_ay, .ref a0_bx, .ref a0_by, .ref a0_marks, .ref a0_ways, .ref a0_gone, .int (0 : Int32), .int (0 : Int32), .int (0 : Int32), .ref a0_plan, .ref a0_xs, .ref a0_ys, .long (0 : Int64), .int v0_length, .ref a0_wayX, .ref a0_wayY, .int v0_rings, .ref a0_first, .ref a0_size, .ref a0_areas, .ref a0_owner, .int v0_places, .ref a0_rx, .ref a0_ry]))] H := hP.sub [0] rfl
  have hD9 : va_D A [(a0, .inr (6, [.int v0_thrown, .int v0_pieces, .ref a0_ax, .ref a0_ay, .ref a0_bx, .ref a0_by, .ref a0_marks, .ref a0_ways, .ref a0_gone, .int (0 : Int32), .int (0 : Int32), .int (0 : Int32), .ref a0_plan, .ref a0_xs, .ref a0_ys, .long (0 : Int64), .int v0_length, .ref a0_wayX, .ref a0_wayY, .int v0_rings, .ref a0_first, .ref a0_size, .ref a0_areas, .ref a0_owner, .int v0_places, .ref a0_rx, .ref a0_ry]))] := hD.sub [0] rfl rfl
  exact W.vret hx hb hr (fun t ht hW => ⟨⟨rfl, (), trivial, by rw [ht]; exact hP9, hD9⟩, hS.F ht⟩) hS.2.2 d_Mod_noResult_20
def f_Mod_noResult (v0_planned : Int32) (v0_corners : Int32) (v0_polygons : Int32) (v0_twice : Int64) : Option (Int32 × Int32 × Int32 × Int64) :=
  b_Mod_noResult_0  v0_planned v0_corners v0_polygons v0_twice
set_option maxHeartbeats 4000000 in
set_option maxRecDepth 100000 in
theorem c_Mod_noResult (l : Launch) (dC : Nat → ClassId) (dI : Nat → Nat → Nat) (cI : dcG) (a0 : Nat) (a0_ax : Nat) (a0_ay : Nat) (a0_bx : Nat) (a0_by : Nat) (a0_marks : Nat) (a0_ways : Nat) (a0_gone : Nat) (a0_plan : Nat) (a0_xs : Nat) (a0_ys : Nat) (a0_wayX : Nat) (a0_wayY : Nat) (a0_first : Nat) (a0_size : Nat) (a0_areas : Nat) (a0_owner : Nat) (a0_rx : Nat) (a0_ry : Nat) (v0_thrown : Int32) (v0_pieces : Int32) (v0_planned : Int32) (v0_corners : Int32) (v0_polygons : Int32) (v0_twice : Int64) (v0_length : Int32) (v0_rings : Int32) (v0_places : Int32) (V0_planned : Int32) (V0_corners : Int32) (V0_polygons : Int32) (V0_twice : Int64) (sz : Nat) (hf : f_Mod_noResult v0_planned v0_corners v0_polygons v0_twice = some (V0_planned, V0_corners, V0_polygons, V0_twice)) : Met l y_Mod_noResult w_Mod_noResult { frames := 0, cells := 0, slots := 0, locals := 0 } (dc_Pre (dC, dI) (dcT cI) [(a0, .inr (6, [.int v0_thrown, .int v0_pieces, .ref a0_ax, .ref a0_ay, .ref a0_bx, .ref a0_by, .ref a0_marks, .ref a0_ways, .ref a0_gone, .int v0_planned, .int v0_corners, .int v0_polygons, .ref a0_plan, .ref a0_xs, .ref a0_ys, .long v0_twice, .int v0_length, .ref a0_wayX, .ref a0_wayY, .int v0_rings, .ref a0_first, .ref a0_size, .ref a0_areas, .ref a0_owner, .int v0_places, .ref a0_rx, .ref a0_ry]))] sz [.ref a0]) (dc_Q (dC, dI) none (fun x : Unit => True) (fun x => [(a0, .inr (6, [.int v0_thrown, .int v0_pieces, .ref a0_ax, .ref a0_ay, .ref a0_bx, .ref a0_by, .ref a0_marks, .ref a0_ways, .ref a0_gone, .int V0_planned, .int V0_corners, .int V0_polygons, .ref a0_plan, .ref a0_xs, .ref a0_ys, .long V0_twice, .int v0_length, .ref a0_wayX, .ref a0_wayY, .int v0_rings, .ref a0_first, .ref a0_size, .ref a0_areas, .ref a0_owner, .int v0_places, .ref a0_rx, .ref a0_ry]))]) (va_A [(a0, .inr (6, [.int v0_thrown, .int v0_pieces, .ref a0_ax, .ref a0_ay, .ref a0_bx, .ref a0_by, .ref a0_marks, .ref a0_ways, .ref a0_gone, .int v0_planned, .int v0_corners, .int v0_polygons, .ref a0_plan, .ref a0_xs, .ref a0_ys, .long v0_twice, .int v0_length, .ref a0_wayX, .ref a0_wayY, .int v0_rings, .ref a0_first, .ref a0_size, .ref a0_areas, .ref a0_owner, .int v0_places, .ref a0_rx, .ref a0_ry]))] sz)) 0 0 (va_A [(a0, .inr (6, [.int v0_thrown, .int v0_pieces, .ref a0_ax, .ref a0_ay, .ref a0_bx, .ref a0_by, .ref a0_marks, .ref a0_ways, .ref a0_gone, .int v0_planned, .int v0_corners, .int v0_polygons, .ref a0_plan, .ref a0_xs, .ref a0_ys, .long v0_twice, .int v0_length, .ref a0_wayX, .ref a0_wayY, .int v0_rings, .ref a0_first, .ref a0_size, .ref a0_areas, .ref a0_owner, .int v0_places, .ref a0_rx, .ref a0_ry]))] sz) := by
  refine Met.ofW (cc := prog_9_method_6_code) (maxL := 1) (ret := none) (by decide) rfl ?_
  intro p e s m args below meth c s₁ B hml hv
  obtain ⟨rfl, hsz, hP, hK, hD0, hN⟩ := hv
  have C0 : dc_At p s m [.ref a0].toArray meth c prog_9_method_6_code 1 R_Mod none := ⟨B.exec, B.bytes, hml, findClass_of_methodNamed B.named, fun w h => atoms_spec (ws := w_Mod_noResult) B.pre w (List.mem_cons_of_mem _ h), B.returns, B.notSynchronized, hN⟩
  subst hsz
  have hD := hD0.self (sz := s.heap.size)
  generalize hAe : va_A [(a0, .inr (6, [.int v0_thrown, .int v0_pieces, .ref a0_ax, .ref a0_ay, .ref a0_bx, .ref a0_by, .ref a0_marks, .ref a0_ways, .ref a0_gone, .int v0_planned, .int v0_corners, .int v0_polygons, .ref a0_plan, .ref a0_xs, .ref a0_ys, .long v0_twice, .int v0_length, .ref a0_wayX, .ref a0_wayY, .int v0_rings, .ref a0_first, .ref a0_size, .ref a0_areas, .ref a0_owner, .int v0_places, .ref a0_rx, .ref a0_ry]))] s.heap.size = A at hD ⊢
  have hA : ∀ q : Nat, s.heap.size ≤ q → A q := fun q h => by rw [← hAe]; exact Or.inr h
  have hl := lv_entry ([.ref a0]) (n := 1) (Nat.le_of_ble_eq_true rfl)
  rw [lg_entry_eq]
  generalize (lg_sl ([.ref a0]) ++ List.replicate (1 - (lg_sl ([.ref a0])).length) Slot.unset).toArray = ls at hl ⊢
  exact s_Mod_noResult_0 p l e s m _ below meth c dC dI cI A a0 a0_ax a0_ay a0_bx a0_by a0_marks a0_ways a0_gone a0_plan a0_xs a0_ys a0_wayX a0_wayY a0_first a0_size a0_areas a0_owner a0_rx a0_ry v0_thrown v0_pieces v0_length v0_rings v0_places V0_planned V0_corners V0_polygons V0_twice C0 hK hA  v0_planned v0_corners v0_polygons v0_twice hf s.heap [] hP hD va_S.rf ls (lv_sub hl [0] rfl)
def T_Mod_sign_0 (p : Program) (l : Launch) (e : Env) (s : State) (m : MethodId) (args : Array Value) (below : List Frame) (meth : Method) (c : Code) (dC : Nat → ClassId) (dI : Nat → Nat → Nat) (cI : dcG) (A : Nat → Prop) (y0 : Int64) (rv : Int32) (g : Option (Int32)) : Prop :=
  g  = some rv → 
  ∀ (H : Heap) (locs : List Loc), va_P (dC, dI) vwCl [] H → va_D A [] → va_S A s.heap H locs → ∀ (ls : Array Slot), lv_has ls 2 [(0, .long y0)] →
  W p l e { frames := 0, cells := 0, slots := 0, locals := 0 } s m args below meth c H locs 0 0 (MQ below (dc_Q (dC, dI) (some (.int rv)) (fun x : Unit => True) (fun x => []) A) args s 0 0 A) (F0 m 0 ls [])
def b_Mod_sign_0 (y0 : Int64)  : Option (Int32) :=
  if (lg_cmp y0 (0 : Int64)) ≤ 0 then (if 0 ≤ (lg_cmp y0 (0 : Int64)) then (some (0 : Int32)) else (some (-1 : Int32))) else (some (1 : Int32))
set_option maxHeartbeats 4000000 in
set_option maxRecDepth 100000 in
theorem s_Mod_sign_0 (p : Program) (l : Launch) (e : Env) (s : State) (m : MethodId) (args : Array Value) (below : List Frame) (meth : Method) (c : Code) (dC : Nat → ClassId) (dI : Nat → Nat → Nat) (cI : dcG) (A : Nat → Prop) (y0 : Int64) (rv : Int32) (C0 : dc_At p s m args meth c prog_9_method_7_code 2 R_Mod (some .int)) (hK : va_K (dC, dI) vwCl (dcT cI) s) (hA : ∀ q, s.heap.size ≤ q → A q) : T_Mod_sign_0 p l e s m args below meth c dC dI cI A y0 rv (b_Mod_sign_0 y0) := by
  obtain ⟨hx, hb, hml, hown, hts, hr, hlocks, hN⟩ := id C0
  intro hf H locs hP hD hS ls hl
  unfold b_Mod_sign_0 at hf
  refine lv_lload_n hx hb d_Mod_sign_0 rfl (lv_at hl 0 rfl) ?_
  refine lv_lconst (v := 0) hx hb d_Mod_sign_1 (by decide) ?_
  refine W.lcmp hx hb d_Mod_sign_2 ?_
  refine lv_if_le (tgt := 10) hx hb d_Mod_sign_3 (by decide) (fun c_1 => ?_) (fun c_1 => ?_)
  · have hf := (if_pos c_1).symm.trans hf
    refine lv_lload_n hx hb d_Mod_sign_10 rfl (lv_at hl 0 rfl) ?_
    refine lv_lconst (v := 0) hx hb d_Mod_sign_11 (by decide) ?_
    refine W.lcmp hx hb d_Mod_sign_12 ?_
    refine lv_if_ge (tgt := 20) hx hb d_Mod_sign_13 (by decide) (fun c_2 => ?_) (fun c_2 => ?_)
    · have hf := (if_pos c_2).symm.trans hf
      refine lv_iconst (v := 0) hx hb d_Mod_sign_20 (by decide) ?_
      have hg0 := Option.some.inj hf
      subst hg0
      have hP9 : va_P (dC, dI) vwCl [] H := hP.sub [] rfl
      have hD9 : va_D A [] := hD.sub [] rfl rfl
      exact W.iret (v := (0 : Int32)) hx hb hr (fun t ht hW => ⟨⟨rfl, (), trivial, by rw [ht]; exact hP9, hD9⟩, hS.F ht⟩) hS.2.2 d_Mod_sign_21
    · have hf := (if_neg c_2).symm.trans hf
      refine lv_iconst (v := (-1)) hx hb d_Mod_sign_16 (by decide) ?_
      refine lv_goto (tgt := 21) hx hb d_Mod_sign_17 (by decide) ?_
      have hg0 := Option.some.inj hf
      subst hg0
      have hP9 : va_P (dC, dI) vwCl [] H := hP.sub [] rfl
      have hD9 : va_D A [] := hD.sub [] rfl rfl
      exact W.iret (v := (-1 : Int32)) hx hb hr (fun t ht hW => ⟨⟨rfl, (), trivial, by rw [ht]; exact hP9, hD9⟩, hS.F ht⟩) hS.2.2 d_Mod_sign_21
  · have hf := (if_neg c_1).symm.trans hf
    refine lv_iconst (v := 1) hx hb d_Mod_sign_6 (by decide) ?_
    refine lv_goto (tgt := 21) hx hb d_Mod_sign_7 (by decide) ?_
    have hg0 := Option.some.inj hf
    subst hg0
    have hP9 : va_P (dC, dI) vwCl [] H := hP.sub [] rfl
    have hD9 : va_D A [] := hD.sub [] rfl rfl
    exact W.iret (v := (1 : Int32)) hx hb hr (fun t ht hW => ⟨⟨rfl, (), trivial, by rw [ht]; exact hP9, hD9⟩, hS.F ht⟩) hS.2.2 d_Mod_sign_21
def f_Mod_sign (y0 : Int64) : Option (Int32) :=
  b_Mod_sign_0 y0 
set_option maxHeartbeats 4000000 in
set_option maxRecDepth 100000 in
theorem c_Mod_sign (l : Launch) (dC : Nat → ClassId) (dI : Nat → Nat → Nat) (cI : dcG) (y0 : Int64) (rv : Int32) (sz : Nat) (hf : f_Mod_sign y0 = some rv) : Met l y_Mod_sign w_Mod_sign { frames := 0, cells := 0, slots := 0, locals := 0 } (dc_Pre (dC, dI) (dcT cI) [] sz [.long y0]) (dc_Q (dC, dI) (some (.int rv)) (fun x : Unit => True) (fun x => []) (va_A [] sz)) 0 0 (va_A [] sz) := by
  refine Met.ofW (cc := prog_9_method_7_code) (maxL := 2) (ret := (some .int)) (by decide) rfl ?_
  intro p e s m args below meth c s₁ B hml hv
  obtain ⟨rfl, hsz, hP, hK, hD0, hN⟩ := hv
  have C0 : dc_At p s m [.long y0].toArray meth c prog_9_method_7_code 2 R_Mod (some .int) := ⟨B.exec, B.bytes, hml, findClass_of_methodNamed B.named, fun w h => atoms_spec (ws := w_Mod_sign) B.pre w (List.mem_cons_of_mem _ h), B.returns, B.notSynchronized, hN⟩
  subst hsz
  have hD := hD0.self (sz := s.heap.size)
  generalize hAe : va_A [] s.heap.size = A at hD ⊢
  have hA : ∀ q : Nat, s.heap.size ≤ q → A q := fun q h => by rw [← hAe]; exact Or.inr h
  have hl := lv_entry ([.long y0]) (n := 2) (Nat.le_of_ble_eq_true rfl)
  rw [lg_entry_eq]
  generalize (lg_sl ([.long y0]) ++ List.replicate (2 - (lg_sl ([.long y0])).length) Slot.unset).toArray = ls at hl ⊢
  exact s_Mod_sign_0 p l e s m _ below meth c dC dI cI A y0 rv C0 hK hA  hf s.heap [] hP hD va_S.rf ls (lv_sub hl [0] rfl)
def T_Mod_cross_0 (p : Program) (l : Launch) (e : Env) (s : State) (m : MethodId) (args : Array Value) (below : List Frame) (meth : Method) (c : Code) (dC : Nat → ClassId) (dI : Nat → Nat → Nat) (cI : dcG) (A : Nat → Prop) (y0 : Int64) (y2 : Int64) (y4 : Int64) (y6 : Int64) (rv : Int64) (g : Option (Int64)) : Prop :=
  g  = some rv → 
  ∀ (H : Heap) (locs : List Loc), va_P (dC, dI) vwCl [] H → va_D A [] → va_S A s.heap H locs → ∀ (ls : Array Slot), lv_has ls 8 [(0, .long y0), (2, .long y2), (4, .long y4), (6, .long y6)] →
  W p l e { frames := 0, cells := 0, slots := 0, locals := 0 } s m args below meth c H locs 0 0 (MQ below (dc_Q (dC, dI) (some (.long rv)) (fun x : Unit => True) (fun x => []) A) args s 0 0 A) (F0 m 0 ls [])
def b_Mod_cross_0 (y0 : Int64) (y2 : Int64) (y4 : Int64) (y6 : Int64)  : Option (Int64) :=
  some ((y0 * y6) - (y2 * y4))
set_option maxHeartbeats 4000000 in
set_option maxRecDepth 100000 in
theorem s_Mod_cross_0 (p : Program) (l : Launch) (e : Env) (s : State) (m : MethodId) (args : Array Value) (below : List Frame) (meth : Method) (c : Code) (dC : Nat → ClassId) (dI : Nat → Nat → Nat) (cI : dcG) (A : Nat → Prop) (y0 : Int64) (y2 : Int64) (y4 : Int64) (y6 : Int64) (rv : Int64) (C0 : dc_At p s m args meth c prog_9_method_8_code 8 R_Mod (some .long)) (hK : va_K (dC, dI) vwCl (dcT cI) s) (hA : ∀ q, s.heap.size ≤ q → A q) : T_Mod_cross_0 p l e s m args below meth c dC dI cI A y0 y2 y4 y6 rv (b_Mod_cross_0 y0 y2 y4 y6) := by
  obtain ⟨hx, hb, hml, hown, hts, hr, hlocks, hN⟩ := id C0
  intro hf H locs hP hD hS ls hl
  unfold b_Mod_cross_0 at hf
  refine lv_lload_n hx hb d_Mod_cross_0 rfl (lv_at hl 0 rfl) ?_
  refine lv_lload hx hb d_Mod_cross_1 (lv_at hl 3 rfl) ?_
  refine lv_lmul hx hb d_Mod_cross_3 ?_
  refine lv_lload_n hx hb d_Mod_cross_4 rfl (lv_at hl 1 rfl) ?_
  refine lv_lload hx hb d_Mod_cross_5 (lv_at hl 2 rfl) ?_
  refine lv_lmul hx hb d_Mod_cross_7 ?_
  refine lv_lsub hx hb d_Mod_cross_8 ?_
  have hg0 := Option.some.inj hf
  subst hg0
  have hP9 : va_P (dC, dI) vwCl [] H := hP.sub [] rfl
  have hD9 : va_D A [] := hD.sub [] rfl rfl
  exact W.lret (v := ((y0 * y6) - (y2 * y4))) hx hb hr (fun t ht hW => ⟨⟨rfl, (), trivial, by rw [ht]; exact hP9, hD9⟩, hS.F ht⟩) hS.2.2 d_Mod_cross_9
def f_Mod_cross (y0 : Int64) (y2 : Int64) (y4 : Int64) (y6 : Int64) : Option (Int64) :=
  b_Mod_cross_0 y0 y2 y4 y6 
set_option maxHeartbeats 4000000 in
set_option maxRecDepth 100000 in
theorem c_Mod_cross (l : Launch) (dC : Nat → ClassId) (dI : Nat → Nat → Nat) (cI : dcG) (y0 : Int64) (y2 : Int64) (y4 : Int64) (y6 : Int64) (rv : Int64) (sz : Nat) (hf : f_Mod_cross y0 y2 y4 y6 = some rv) : Met l y_Mod_cross w_Mod_cross { frames := 0, cells := 0, slots := 0, locals := 0 } (dc_Pre (dC, dI) (dcT cI) [] sz [.long y0, .long y2, .long y4, .long y6]) (dc_Q (dC, dI) (some (.long rv)) (fun x : Unit => True) (fun x => []) (va_A [] sz)) 0 0 (va_A [] sz) := by
  refine Met.ofW (cc := prog_9_method_8_code) (maxL := 8) (ret := (some .long)) (by decide) rfl ?_
  intro p e s m args below meth c s₁ B hml hv
  obtain ⟨rfl, hsz, hP, hK, hD0, hN⟩ := hv
  have C0 : dc_At p s m [.long y0, .long y2, .long y4, .long y6].toArray meth c prog_9_method_8_code 8 R_Mod (some .long) := ⟨B.exec, B.bytes, hml, findClass_of_methodNamed B.named, fun w h => atoms_spec (ws := w_Mod_cross) B.pre w (List.mem_cons_of_mem _ h), B.returns, B.notSynchronized, hN⟩
  subst hsz
  have hD := hD0.self (sz := s.heap.size)
  generalize hAe : va_A [] s.heap.size = A at hD ⊢
  have hA : ∀ q : Nat, s.heap.size ≤ q → A q := fun q h => by rw [← hAe]; exact Or.inr h
  have hl := lv_entry ([.long y0, .long y2, .long y4, .long y6]) (n := 8) (Nat.le_of_ble_eq_true rfl)
  rw [lg_entry_eq]
  generalize (lg_sl ([.long y0, .long y2, .long y4, .long y6]) ++ List.replicate (8 - (lg_sl ([.long y0, .long y2, .long y4, .long y6])).length) Slot.unset).toArray = ls at hl ⊢
  exact s_Mod_cross_0 p l e s m _ below meth c dC dI cI A y0 y2 y4 y6 rv C0 hK hA  hf s.heap [] hP hD va_S.rf ls (lv_sub hl [0, 1, 2, 3] rfl)
def T_Mod_side_0 (p : Program) (l : Launch) (e : Env) (s : State) (m : MethodId) (args : Array Value) (below : List Frame) (meth : Method) (c : Code) (dC : Nat → ClassId) (dI : Nat → Nat → Nat) (cI : dcG) (A : Nat → Prop) (y0 : Int32) (y1 : Int32) (y2 : Int32) (y3 : Int32) (y4 : Int32) (y5 : Int32) (rv : Int32) (g : Option (Int32)) : Prop :=
  g  = some rv → 
  ∀ (H : Heap) (locs : List Loc), va_P (dC, dI) vwCl [] H → va_D A [] → va_S A s.heap H locs → ∀ (ls : Array Slot), lv_has ls 6 [(0, .int y0), (1, .int y1), (2, .int y2), (3, .int y3), (4, .int y4), (5, .int y5)] →
  W p l e { frames := 1, cells := 0, slots := 0, locals := 27 } s m args below meth c H locs 0 0 (MQ below (dc_Q (dC, dI) (some (.int rv)) (fun x : Unit => True) (fun x => []) A) args s 0 0 A) (F0 m 0 ls [])
def b_Mod_side_0 (y0 : Int32) (y1 : Int32) (y2 : Int32) (y3 : Int32) (y4 : Int32) (y5 : Int32)  : Option (Int32) :=
  ob1 (f_Mod_cross (y2.toInt64 - y0.toInt64) (y3.toInt64 - y1.toInt64) (y4.toInt64 - y0.toInt64) (y5.toInt64 - y1.toInt64)) fun r_1 => ob1 (f_Mod_sign r_1) fun r_2 => some r_2
set_option maxHeartbeats 4000000 in
set_option maxRecDepth 100000 in
theorem s_Mod_side_0 (p : Program) (l : Launch) (e : Env) (s : State) (m : MethodId) (args : Array Value) (below : List Frame) (meth : Method) (c : Code) (dC : Nat → ClassId) (dI : Nat → Nat → Nat) (cI : dcG) (A : Nat → Prop) (y0 : Int32) (y1 : Int32) (y2 : Int32) (y3 : Int32) (y4 : Int32) (y5 : Int32) (rv : Int32) (C0 : dc_At p s m args meth c prog_9_method_9_code 6 R_Mod (some .int)) (hK : va_K (dC, dI) vwCl (dcT cI) s) (hA : ∀ q, s.heap.size ≤ q → A q) : T_Mod_side_0 p l e s m args below meth c dC dI cI A y0 y1 y2 y3 y4 y5 rv (b_Mod_side_0 y0 y1 y2 y3 y4 y5) := by
  obtain ⟨hx, hb, hml, hown, hts, hr, hlocks, hN⟩ := id C0
  intro hf H locs hP hD hS ls hl
  unfold b_Mod_side_0 at hf
  refine lv_iload_n hx hb d_Mod_side_0 rfl (lv_at hl 2 rfl) ?_
  refine lv_i2l hx hb d_Mod_side_1 rfl ?_
  refine lv_iload_n hx hb d_Mod_side_2 rfl (lv_at hl 0 rfl) ?_
  refine lv_i2l hx hb d_Mod_side_3 rfl ?_
  refine lv_lsub hx hb d_Mod_side_4 ?_
  refine lv_iload_n hx hb d_Mod_side_5 rfl (lv_at hl 3 rfl) ?_
  refine lv_i2l hx hb d_Mod_side_6 rfl ?_
  refine lv_iload_n hx hb d_Mod_side_7 rfl (lv_at hl 1 rfl) ?_
  refine lv_i2l hx hb d_Mod_side_8 rfl ?_
  refine lv_lsub hx hb d_Mod_side_9 ?_
  refine lv_iload hx hb d_Mod_side_10 (lv_at hl 4 rfl) ?_
  refine lv_i2l hx hb d_Mod_side_12 rfl ?_
  refine lv_iload_n hx hb d_Mod_side_13 rfl (lv_at hl 0 rfl) ?_
  refine lv_i2l hx hb d_Mod_side_14 rfl ?_
  refine lv_lsub hx hb d_Mod_side_15 ?_
  refine lv_iload hx hb d_Mod_side_16 (lv_at hl 5 rfl) ?_
  refine lv_i2l hx hb d_Mod_side_18 rfl ?_
  refine lv_iload_n hx hb d_Mod_side_19 rfl (lv_at hl 1 rfl) ?_
  refine lv_i2l hx hb d_Mod_side_20 rfl ?_
  refine lv_lsub hx hb d_Mod_side_21 ?_
  obtain ⟨r_1, e_1, hf⟩ := ob1_some hf
  refine dc_call (wc := []) (wr := []) [] [] hP hD hS hA rfl rfl rfl rfl rfl (fun hPc hDc => va_runS (As := [.long (y2.toInt64 - y0.toInt64), .long (y3.toInt64 - y1.toInt64), .long (y4.toInt64 - y0.toInt64), .long (y5.toInt64 - y1.toInt64)]) (rest := []) ⟨hx, hb, hml, hown, hts⟩ (c_Mod_cross l dC dI cI (y2.toInt64 - y0.toInt64) (y3.toInt64 - y1.toInt64) (y4.toInt64 - y0.toInt64) (y5.toInt64 - y1.toInt64) r_1 H.size e_1) (va_cwS 4 hts (gS wm_750 wm_751 wm_7 wm_752) rfl rfl rfl (by decide +kernel) ⟨Nat.le_of_ble_eq_true rfl, Nat.le_of_ble_eq_true rfl⟩) (dc_preS hK hN hPc hDc) rfl rfl hl.1 rfl (lv_room (Nat.le_of_ble_eq_true rfl)) d_Mod_side_22 ⟨Nat.le_refl _, Nat.le_refl _⟩) (fun x_1 H locs hp_1 hP hD hS => ?_)
  have hP : va_P (dC, dI) vwCl [] H := hP
  have hD : va_D A [] := hD
  obtain ⟨r_2, e_2, hf⟩ := ob1_some hf
  refine dc_call (wc := []) (wr := []) [] [] hP hD hS hA rfl rfl rfl rfl rfl (fun hPc hDc => va_runS (As := [.long r_1]) (rest := []) ⟨hx, hb, hml, hown, hts⟩ (c_Mod_sign l dC dI cI r_1 r_2 H.size e_2) (va_cwS 1 hts (gS wm_753 wm_754 wm_7 wm_755) rfl rfl rfl (by decide +kernel) ⟨Nat.le_of_ble_eq_true rfl, Nat.le_of_ble_eq_true rfl⟩) (dc_preS hK hN hPc hDc) rfl rfl hl.1 rfl (lv_room (Nat.le_of_ble_eq_true rfl)) d_Mod_side_25 ⟨Nat.le_refl _, Nat.le_refl _⟩) (fun x_2 H locs hp_2 hP hD hS => ?_)
  have hP : va_P (dC, dI) vwCl [] H := hP
  have hD : va_D A [] := hD
  have hg0 := Option.some.inj hf
  subst hg0
  have hP9 : va_P (dC, dI) vwCl [] H := hP.sub [] rfl
  have hD9 : va_D A [] := hD.sub [] rfl rfl
  exact W.iret (v := r_2) hx hb hr (fun t ht hW => ⟨⟨rfl, (), trivial, by rw [ht]; exact hP9, hD9⟩, hS.F ht⟩) hS.2.2 d_Mod_side_28
def f_Mod_side (y0 : Int32) (y1 : Int32) (y2 : Int32) (y3 : Int32) (y4 : Int32) (y5 : Int32) : Option (Int32) :=
  b_Mod_side_0 y0 y1 y2 y3 y4 y5 
set_option maxHeartbeats 4000000 in
set_option maxRecDepth 100000 in
theorem c_Mod_side (l : Launch) (dC : Nat → ClassId) (dI : Nat → Nat → Nat) (cI : dcG) (y0 : Int32) (y1 : Int32) (y2 : Int32) (y3 : Int32) (y4 : Int32) (y5 : Int32) (rv : Int32) (sz : Nat) (hf : f_Mod_side y0 y1 y2 y3 y4 y5 = some rv) : Met l y_Mod_side w_Mod_side { frames := 1, cells := 0, slots := 0, locals := 27 } (dc_Pre (dC, dI) (dcT cI) [] sz [.int y0, .int y1, .int y2, .int y3, .int y4, .int y5]) (dc_Q (dC, dI) (some (.int rv)) (fun x : Unit => True) (fun x => []) (va_A [] sz)) 0 0 (va_A [] sz) := by
  refine Met.ofW (cc := prog_9_method_9_code) (maxL := 6) (ret := (some .int)) (by decide) rfl ?_
  intro p e s m args below meth c s₁ B hml hv
  obtain ⟨rfl, hsz, hP, hK, hD0, hN⟩ := hv
  have C0 : dc_At p s m [.int y0, .int y1, .int y2, .int y3, .int y4, .int y5].toArray meth c prog_9_method_9_code 6 R_Mod (some .int) := ⟨B.exec, B.bytes, hml, findClass_of_methodNamed B.named, fun w h => atoms_spec (ws := w_Mod_side) B.pre w (List.mem_cons_of_mem _ h), B.returns, B.notSynchronized, hN⟩
  subst hsz
  have hD := hD0.self (sz := s.heap.size)
  generalize hAe : va_A [] s.heap.size = A at hD ⊢
  have hA : ∀ q : Nat, s.heap.size ≤ q → A q := fun q h => by rw [← hAe]; exact Or.inr h
  have hl := lv_entry ([.int y0, .int y1, .int y2, .int y3, .int y4, .int y5]) (n := 6) (Nat.le_of_ble_eq_true rfl)
  rw [lg_entry_eq]
  generalize (lg_sl ([.int y0, .int y1, .int y2, .int y3, .int y4, .int y5]) ++ List.replicate (6 - (lg_sl ([.int y0, .int y1, .int y2, .int y3, .int y4, .int y5])).length) Slot.unset).toArray = ls at hl ⊢
  exact s_Mod_side_0 p l e s m _ below meth c dC dI cI A y0 y1 y2 y3 y4 y5 rv C0 hK hA  hf s.heap [] hP hD va_S.rf ls (lv_sub hl [0, 1, 2, 3, 4, 5] rfl)
def T_Mod_between_0 (p : Program) (l : Launch) (e : Env) (s : State) (m : MethodId) (args : Array Value) (below : List Frame) (meth : Method) (c : Code) (dC : Nat → ClassId) (dI : Nat → Nat → Nat) (cI : dcG) (A : Nat → Prop) (y0 : Int32) (y1 : Int32) (y2 : Int32) (rv : Bool) (g : Option (Bool)) : Prop :=
  g  = some rv → 
  ∀ (H : Heap) (locs : List Loc), va_P (dC, dI) vwCl [] H → va_D A [] → va_S A s.heap H locs → ∀ (ls : Array Slot), lv_has ls 3 [(0, .int y0), (1, .int y1), (2, .int y2)] →
  W p l e { frames := 1, cells := 0, slots := 0, locals := 22 } s m args below meth c H locs 0 0 (MQ below (dc_Q (dC, dI) (some (.int (bI rv))) (fun x : Unit => True) (fun x => []) A) args s 0 0 A) (F0 m 0 ls [])
def b_Mod_between_0 (y0 : Int32) (y1 : Int32) (y2 : Int32)  : Option (Bool) :=
  if y2 ≤ y1 then (ob1 (f_Mod_within y0 y2 y1) fun r_2 => some r_2) else (ob1 (f_Mod_within y0 y1 y2) fun r_3 => some r_3)
set_option maxHeartbeats 4000000 in
set_option maxRecDepth 100000 in
theorem s_Mod_between_0 (p : Program) (l : Launch) (e : Env) (s : State) (m : MethodId) (args : Array Value) (below : List Frame) (meth : Method) (c : Code) (dC : Nat → ClassId) (dI : Nat → Nat → Nat) (cI : dcG) (A : Nat → Prop) (y0 : Int32) (y1 : Int32) (y2 : Int32) (rv : Bool) (C0 : dc_At p s m args meth c prog_9_method_10_code 3 R_Mod (some .boolean)) (hK : va_K (dC, dI) vwCl (dcT cI) s) (hA : ∀ q, s.heap.size ≤ q → A q) : T_Mod_between_0 p l e s m args below meth c dC dI cI A y0 y1 y2 rv (b_Mod_between_0 y0 y1 y2) := by
  obtain ⟨hx, hb, hml, hown, hts, hr, hlocks, hN⟩ := id C0
  intro hf H locs hP hD hS ls hl
  unfold b_Mod_between_0 at hf
  refine lv_iload_n hx hb d_Mod_between_0 rfl (lv_at hl 1 rfl) ?_
  refine lv_iload_n hx hb d_Mod_between_1 rfl (lv_at hl 2 rfl) ?_
  refine lv_icmp_ge (tgt := 14) hx hb d_Mod_between_2 (by decide) (fun c_1 => ?_) (fun c_1 => ?_)
  · have hf := (if_pos c_1).symm.trans hf
    refine lv_iload_n hx hb d_Mod_between_14 rfl (lv_at hl 0 rfl) ?_
    refine lv_iload_n hx hb d_Mod_between_15 rfl (lv_at hl 2 rfl) ?_
    refine lv_iload_n hx hb d_Mod_between_16 rfl (lv_at hl 1 rfl) ?_
    obtain ⟨r_2, e_2, hf⟩ := ob1_some hf
    refine dc_call (wc := []) (wr := []) [] [] hP hD hS hA rfl rfl rfl rfl rfl (fun hPc hDc => va_runS (As := [.int y0, .int y2, .int y1]) (rest := []) ⟨hx, hb, hml, hown, hts⟩ (c_Mod_within l dC dI cI y0 y2 y1 r_2 H.size e_2) (va_cwS 3 hts (gS wm_720 wm_721 wm_7 wm_722) rfl rfl rfl (by decide +kernel) ⟨Nat.le_of_ble_eq_true rfl, Nat.le_of_ble_eq_true rfl⟩) (dc_preS hK hN hPc hDc) rfl rfl hl.1 rfl (lv_room (Nat.le_of_ble_eq_true rfl)) d_Mod_between_17 ⟨Nat.le_refl _, Nat.le_refl _⟩) (fun x_2 H locs hp_2 hP hD hS => ?_)
    have hP : va_P (dC, dI) vwCl [] H := hP
    have hD : va_D A [] := hD
    have hg0 := Option.some.inj hf
    subst hg0
    have hP9 : va_P (dC, dI) vwCl [] H := hP.sub [] rfl
    have hD9 : va_D A [] := hD.sub [] rfl rfl
    exact W.zret (v := bI r_2) hx hb hr (nw_b r_2) (fun t ht hW => ⟨⟨rfl, (), trivial, by rw [ht]; exact hP9, hD9⟩, hS.F ht⟩) hS.2.2 d_Mod_between_20
  · have hf := (if_neg c_1).symm.trans hf
    refine lv_iload_n hx hb d_Mod_between_5 rfl (lv_at hl 0 rfl) ?_
    refine lv_iload_n hx hb d_Mod_between_6 rfl (lv_at hl 1 rfl) ?_
    refine lv_iload_n hx hb d_Mod_between_7 rfl (lv_at hl 2 rfl) ?_
    obtain ⟨r_3, e_3, hf⟩ := ob1_some hf
    refine dc_call (wc := []) (wr := []) [] [] hP hD hS hA rfl rfl rfl rfl rfl (fun hPc hDc => va_runS (As := [.int y0, .int y1, .int y2]) (rest := []) ⟨hx, hb, hml, hown, hts⟩ (c_Mod_within l dC dI cI y0 y1 y2 r_3 H.size e_3) (va_cwS 3 hts (gS wm_720 wm_721 wm_7 wm_722) rfl rfl rfl (by decide +kernel) ⟨Nat.le_of_ble_eq_true rfl, Nat.le_of_ble_eq_true rfl⟩) (dc_preS hK hN hPc hDc) rfl rfl hl.1 rfl (lv_room (Nat.le_of_ble_eq_true rfl)) d_Mod_between_8 ⟨Nat.le_refl _, Nat.le_refl _⟩) (fun x_3 H locs hp_3 hP hD hS => ?_)
    have hP : va_P (dC, dI) vwCl [] H := hP
    have hD : va_D A [] := hD
    refine lv_goto (tgt := 20) hx hb d_Mod_between_11 (by decide) ?_
    have hg0 := Option.some.inj hf
    subst hg0
    have hP9 : va_P (dC, dI) vwCl [] H := hP.sub [] rfl
    have hD9 : va_D A [] := hD.sub [] rfl rfl
    exact W.zret (v := bI r_3) hx hb hr (nw_b r_3) (fun t ht hW => ⟨⟨rfl, (), trivial, by rw [ht]; exact hP9, hD9⟩, hS.F ht⟩) hS.2.2 d_Mod_between_20
def f_Mod_between (y0 : Int32) (y1 : Int32) (y2 : Int32) : Option (Bool) :=
  b_Mod_between_0 y0 y1 y2 
set_option maxHeartbeats 4000000 in
set_option maxRecDepth 100000 in
theorem c_Mod_between (l : Launch) (dC : Nat → ClassId) (dI : Nat → Nat → Nat) (cI : dcG) (y0 : Int32) (y1 : Int32) (y2 : Int32) (rv : Bool) (sz : Nat) (hf : f_Mod_between y0 y1 y2 = some rv) : Met l y_Mod_between w_Mod_between { frames := 1, cells := 0, slots := 0, locals := 22 } (dc_Pre (dC, dI) (dcT cI) [] sz [.int y0, .int y1, .int y2]) (dc_Q (dC, dI) (some (.int (bI rv))) (fun x : Unit => True) (fun x => []) (va_A [] sz)) 0 0 (va_A [] sz) := by
  refine Met.ofW (cc := prog_9_method_10_code) (maxL := 3) (ret := (some .boolean)) (by decide) rfl ?_
  intro p e s m args below meth c s₁ B hml hv
  obtain ⟨rfl, hsz, hP, hK, hD0, hN⟩ := hv
  have C0 : dc_At p s m [.int y0, .int y1, .int y2].toArray meth c prog_9_method_10_code 3 R_Mod (some .boolean) := ⟨B.exec, B.bytes, hml, findClass_of_methodNamed B.named, fun w h => atoms_spec (ws := w_Mod_between) B.pre w (List.mem_cons_of_mem _ h), B.returns, B.notSynchronized, hN⟩
  subst hsz
  have hD := hD0.self (sz := s.heap.size)
  generalize hAe : va_A [] s.heap.size = A at hD ⊢
  have hA : ∀ q : Nat, s.heap.size ≤ q → A q := fun q h => by rw [← hAe]; exact Or.inr h
  have hl := lv_entry ([.int y0, .int y1, .int y2]) (n := 3) (Nat.le_of_ble_eq_true rfl)
  rw [lg_entry_eq]
  generalize (lg_sl ([.int y0, .int y1, .int y2]) ++ List.replicate (3 - (lg_sl ([.int y0, .int y1, .int y2])).length) Slot.unset).toArray = ls at hl ⊢
  exact s_Mod_between_0 p l e s m _ below meth c dC dI cI A y0 y1 y2 rv C0 hK hA  hf s.heap [] hP hD va_S.rf ls (lv_sub hl [0, 1, 2] rfl)
def T_Mod_isEnd_20 (p : Program) (l : Launch) (e : Env) (s : State) (m : MethodId) (args : Array Value) (below : List Frame) (meth : Method) (c : Code) (dC : Nat → ClassId) (dI : Nat → Nat → Nat) (cI : dcG) (A : Nat → Prop) (a0 : Nat) (a0_marks : Nat) (a0_ways : Nat) (a0_gone : Nat) (a0_plan : Nat) (a0_xs : Nat) (a0_ys : Nat) (a0_wayX : Nat) (a0_wayY : Nat) (a0_first : Nat) (a0_size : Nat) (a0_areas : Nat) (a0_owner : Nat) (a0_rx : Nat) (a0_ry : Nat) (v0_thrown : Int32) (v0_pieces : Int32) (v0_planned : Int32) (v0_corners : Int32) (v0_polygons : Int32) (v0_twice : Int64) (v0_length : Int32) (v0_rings : Int32) (v0_places : Int32) (q0_ax : Nat) (n0_ax : Nat) (f0_ax : Nat → Int32) (q0_bx : Nat) (n0_bx : Nat) (f0_bx : Nat → Int32) (q0_by : Nat) (n0_by : Nat) (f0_by : Nat → Int32) (q0_ay : Nat) (n0_ay : Nat) (f0_ay : Nat → Int32) (y1 : Int32) (y2 : Int32) (y3 : Int32) (rv : Bool) (g : Option (Bool)) : Prop :=
  g  = some rv → 
  ∀ (H : Heap) (locs : List Loc), va_P (dC, dI) vwCl [(a0, .inr (6, [.int v0_thrown, .int v0_pieces, .ref q0_ax, .ref q0_ay, .ref q0_bx, .ref q0_by, .ref a0_marks, .ref a0_ways, .ref a0_gone, .int v0_planned, .int v0_corners, .int v0_polygons, .ref a0_plan, .ref a0_xs, .ref a0_ys, .long v0_twice, .int v0_length, .ref a0_wayX, .ref a0_wayY, .int v0_rings, .ref a0_first, .ref a0_size, .ref a0_areas, .ref a0_owner, .int v0_places, .ref a0_rx, .ref a0_ry])), (q0_ax, .inl (cI.1, n0_ax, .inl f0_ax)), (q0_bx, .inl (cI.1, n0_bx, .inl f0_bx)), (q0_by, .inl (cI.1, n0_by, .inl f0_by)), (q0_ay, .inl (cI.1, n0_ay, .inl f0_ay))] H → va_D A [(a0, .inr (6, [.int v0_thrown, .int v0_pieces, .ref q0_ax, .ref q0_ay, .ref q0_bx, .ref q0_by, .ref a0_marks, .ref a0_ways, .ref a0_gone, .int v0_planned, .int v0_corners, .int v0_polygons, .ref a0_plan, .ref a0_xs, .ref a0_ys, .long v0_twice, .int v0_length, .ref a0_wayX, .ref a0_wayY, .int v0_rings, .ref a0_first, .ref a0_size, .ref a0_areas, .ref a0_owner, .int v0_places, .ref a0_rx, .ref a0_ry])), (q0_ax, .inl (cI.1, n0_ax, .inl f0_ax)), (q0_bx, .inl (cI.1, n0_bx, .inl f0_bx)), (q0_by, .inl (cI.1, n0_by, .inl f0_by)), (q0_ay, .inl (cI.1, n0_ay, .inl f0_ay))] → va_S A s.heap H locs → ∀ (ls : Array Slot), lv_has ls 4 [(0, .ref a0), (1, .int y1), (2, .int y2), (3, .int y3)] →
  W p l e { frames := 0, cells := 0, slots := 0, locals := 0 } s m args below meth c H locs 0 0 (MQ below (dc_Q (dC, dI) (some (.int (bI rv))) (fun x : Unit => True) (fun x => [(a0, .inr (6, [.int v0_thrown, .int v0_pieces, .ref q0_ax, .ref q0_ay, .ref q0_bx, .ref q0_by, .ref a0_marks, .ref a0_ways, .ref a0_gone, .int v0_planned, .int v0_corners, .int v0_polygons, .ref a0_plan, .ref a0_xs, .ref a0_ys, .long v0_twice, .int v0_length, .ref a0_wayX, .ref a0_wayY, .int v0_rings, .ref a0_first, .ref a0_size, .ref a0_areas, .ref a0_owner, .int v0_places, .ref a0_rx, .ref a0_ry])), (q0_ax, .inl (cI.1, n0_ax, .inl f0_ax)), (q0_bx, .inl (cI.1, n0_bx, .inl f0_bx)), (q0_by, .inl (cI.1, n0_by, .inl f0_by)), (q0_ay, .inl (cI.1, n0_ay, .inl f0_ay))]) A) args s 0 0 A) (F0 m 20 ls [])
def T_Mod_isEnd_0 (p : Program) (l : Launch) (e : Env) (s : State) (m : MethodId) (args : Array Value) (below : List Frame) (meth : Method) (c : Code) (dC : Nat → ClassId) (dI : Nat → Nat → Nat) (cI : dcG) (A : Nat → Prop) (a0 : Nat) (a0_marks : Nat) (a0_ways : Nat) (a0_gone : Nat) (a0_plan : Nat) (a0_xs : Nat) (a0_ys : Nat) (a0_wayX : Nat) (a0_wayY : Nat) (a0_first : Nat) (a0_size : Nat) (a0_areas : Nat) (a0_owner : Nat) (a0_rx : Nat) (a0_ry : Nat) (v0_thrown : Int32) (v0_pieces : Int32) (v0_planned : Int32) (v0_corners : Int32) (v0_polygons : Int32) (v0_twice : Int64) (v0_length : Int32) (v0_rings : Int32) (v0_places : Int32) (q0_ax : Nat) (n0_ax : Nat) (f0_ax : Nat → Int32) (q0_bx : Nat) (n0_bx : Nat) (f0_bx : Nat → Int32) (q0_by : Nat) (n0_by : Nat) (f0_by : Nat → Int32) (q0_ay : Nat) (n0_ay : Nat) (f0_ay : Nat → Int32) (y1 : Int32) (y2 : Int32) (y3 : Int32) (rv : Bool) (g : Option (Bool)) : Prop :=
  g  = some rv → 
  ∀ (H : Heap) (locs : List Loc), va_P (dC, dI) vwCl [(a0, .inr (6, [.int v0_thrown, .int v0_pieces, .ref q0_ax, .ref q0_ay, .ref q0_bx, .ref q0_by, .ref a0_marks, .ref a0_ways, .ref a0_gone, .int v0_planned, .int v0_corners, .int v0_polygons, .ref a0_plan, .ref a0_xs, .ref a0_ys, .long v0_twice, .int v0_length, .ref a0_wayX, .ref a0_wayY, .int v0_rings, .ref a0_first, .ref a0_size, .ref a0_areas, .ref a0_owner, .int v0_places, .ref a0_rx, .ref a0_ry])), (q0_ax, .inl (cI.1, n0_ax, .inl f0_ax)), (q0_bx, .inl (cI.1, n0_bx, .inl f0_bx)), (q0_by, .inl (cI.1, n0_by, .inl f0_by)), (q0_ay, .inl (cI.1, n0_ay, .inl f0_ay))] H → va_D A [(a0, .inr (6, [.int v0_thrown, .int v0_pieces, .ref q0_ax, .ref q0_ay, .ref q0_bx, .ref q0_by, .ref a0_marks, .ref a0_ways, .ref a0_gone, .int v0_planned, .int v0_corners, .int v0_polygons, .ref a0_plan, .ref a0_xs, .ref a0_ys, .long v0_twice, .int v0_length, .ref a0_wayX, .ref a0_wayY, .int v0_rings, .ref a0_first, .ref a0_size, .ref a0_areas, .ref a0_owner, .int v0_places, .ref a0_rx, .ref a0_ry])), (q0_ax, .inl (cI.1, n0_ax, .inl f0_ax)), (q0_bx, .inl (cI.1, n0_bx, .inl f0_bx)), (q0_by, .inl (cI.1, n0_by, .inl f0_by)), (q0_ay, .inl (cI.1, n0_ay, .inl f0_ay))] → va_S A s.heap H locs → ∀ (ls : Array Slot), lv_has ls 4 [(0, .ref a0), (1, .int y1), (2, .int y2), (3, .int y3)] →
  W p l e { frames := 0, cells := 0, slots := 0, locals := 0 } s m args below meth c H locs 0 0 (MQ below (dc_Q (dC, dI) (some (.int (bI rv))) (fun x : Unit => True) (fun x => [(a0, .inr (6, [.int v0_thrown, .int v0_pieces, .ref q0_ax, .ref q0_ay, .ref q0_bx, .ref q0_by, .ref a0_marks, .ref a0_ways, .ref a0_gone, .int v0_planned, .int v0_corners, .int v0_polygons, .ref a0_plan, .ref a0_xs, .ref a0_ys, .long v0_twice, .int v0_length, .ref a0_wayX, .ref a0_wayY, .int v0_rings, .ref a0_first, .ref a0_size, .ref a0_areas, .ref a0_owner, .int v0_places, .ref a0_rx, .ref a0_ry])), (q0_ax, .inl (cI.1, n0_ax, .inl f0_ax)), (q0_bx, .inl (cI.1, n0_bx, .inl f0_bx)), (q0_by, .inl (cI.1, n0_by, .inl f0_by)), (q0_ay, .inl (cI.1, n0_ay, .inl f0_ay))]) A) args s 0 0 A) (F0 m 0 ls [])
def b_Mod_isEnd_20 (n0_ax : Nat) (f0_ax : Nat → Int32) (n0_bx : Nat) (f0_bx : Nat → Int32) (n0_by : Nat) (f0_by : Nat → Int32) (n0_ay : Nat) (f0_ay : Nat → Int32) (y1 : Int32) (y2 : Int32) (y3 : Int32)  : Option (Bool) :=
  if y1 < 0 ∨ n0_bx ≤ y1.toNatClampNeg then none else (if (f0_bx y1.toNatClampNeg) = y2 then (if y1 < 0 ∨ n0_by ≤ y1.toNatClampNeg then none else (if (f0_by y1.toNatClampNeg) = y3 then (some true) else (some false))) else (some false))
set_option maxHeartbeats 4000000 in
set_option maxRecDepth 100000 in
theorem s_Mod_isEnd_20 (p : Program) (l : Launch) (e : Env) (s : State) (m : MethodId) (args : Array Value) (below : List Frame) (meth : Method) (c : Code) (dC : Nat → ClassId) (dI : Nat → Nat → Nat) (cI : dcG) (A : Nat → Prop) (a0 : Nat) (a0_marks : Nat) (a0_ways : Nat) (a0_gone : Nat) (a0_plan : Nat) (a0_xs : Nat) (a0_ys : Nat) (a0_wayX : Nat) (a0_wayY : Nat) (a0_first : Nat) (a0_size : Nat) (a0_areas : Nat) (a0_owner : Nat) (a0_rx : Nat) (a0_ry : Nat) (v0_thrown : Int32) (v0_pieces : Int32) (v0_planned : Int32) (v0_corners : Int32) (v0_polygons : Int32) (v0_twice : Int64) (v0_length : Int32) (v0_rings : Int32) (v0_places : Int32) (q0_ax : Nat) (n0_ax : Nat) (f0_ax : Nat → Int32) (q0_bx : Nat) (n0_bx : Nat) (f0_bx : Nat → Int32) (q0_by : Nat) (n0_by : Nat) (f0_by : Nat → Int32) (q0_ay : Nat) (n0_ay : Nat) (f0_ay : Nat → Int32) (y1 : Int32) (y2 : Int32) (y3 : Int32) (rv : Bool) (C0 : dc_At p s m args meth c prog_9_method_11_code 4 R_Mod (some .boolean)) (hK : va_K (dC, dI) vwCl (dcT cI) s) (hA : ∀ q, s.heap.size ≤ q → A q) : T_Mod_isEnd_20 p l e s m args below meth c dC dI cI A a0 a0_marks a0_ways a0_gone a0_plan a0_xs a0_ys a0_wayX a0_wayY a0_first a0_size a0_areas a0_owner a0_rx a0_ry v0_thrown v0_pieces v0_planned v0_corners v0_polygons v0_twice v0_length v0_rings v0_places q0_ax n0_ax f0_ax q0_bx n0_bx f0_bx q0_by n0_by f0_by q0_ay n0_ay f0_ay y1 y2 y3 rv (b_Mod_isEnd_20 n0_ax f0_ax n0_bx f0_bx n0_by f0_by n0_ay f0_ay y1 y2 y3) := by
  obtain ⟨hx, hb, hml, hown, hts, hr, hlocks, hN⟩ := id C0
  intro hf H locs hP hD hS ls hl
  unfold b_Mod_isEnd_20 at hf
  refine lv_aload_n hx hb d_Mod_isEnd_20 rfl (lv_at hl 0 rfl) ?_
  refine va_get (D := (dC, dI)) (ci := 6) (v := .ref q0_bx) (C := R_Mod) (T := F_Mod) (N := 27) hx hb hts i_Mod hown hK hP 0 rfl rfl 4 (by decide) (hts _ wm_627) (fun _ h9 => h9) rfl d_Mod_isEnd_21 ?_
  refine lv_iload_n hx hb d_Mod_isEnd_24 rfl (lv_at hl 1 rfl) ?_
  have b_1 : vp_in y1 n0_bx := fun z => by rw [if_pos z] at hf; cases hf
  have hf := (if_neg b_1).symm.trans hf
  refine va_iald hx hb hK hP 2 0 rfl rfl b_1 d_Mod_isEnd_25 ?_
  refine lv_iload_n hx hb d_Mod_isEnd_26 rfl (lv_at hl 2 rfl) ?_
  refine lv_icmp_ne (tgt := 44) hx hb d_Mod_isEnd_27 (by decide) (fun c_2 => ?_) (fun c_2 => ?_)
  · have hf := (if_neg c_2).symm.trans hf
    refine lv_iconst (v := 0) hx hb d_Mod_isEnd_44 (by decide) ?_
    have hg0 := Option.some.inj hf
    subst hg0
    have hP9 : va_P (dC, dI) vwCl [(a0, .inr (6, [.int v0_thrown, .int v0_pieces, .ref q0_ax, .ref q0_ay, .ref q0_bx, .ref q0_by, .ref a0_marks, .ref a0_ways, .ref a0_gone, .int v0_planned, .int v0_corners, .int v0_polygons, .ref a0_plan, .ref a0_xs, .ref a0_ys, .long v0_twice, .int v0_length, .ref a0_wayX, .ref a0_wayY, .int v0_rings, .ref a0_first, .ref a0_size, .ref a0_areas, .ref a0_owner, .int v0_places, .ref a0_rx, .ref a0_ry])), (q0_ax, .inl (cI.1, n0_ax, .inl f0_ax)), (q0_bx, .inl (cI.1, n0_bx, .inl f0_bx)), (q0_by, .inl (cI.1, n0_by, .inl f0_by)), (q0_ay, .inl (cI.1, n0_ay, .inl f0_ay))] H := hP.sub [0, 1, 2, 3, 4] rfl
    have hD9 : va_D A [(a0, .inr (6, [.int v0_thrown, .int v0_pieces, .ref q0_ax, .ref q0_ay, .ref q0_bx, .ref q0_by, .ref a0_marks, .ref a0_ways, .ref a0_gone, .int v0_planned, .int v0_corners, .int v0_polygons, .ref a0_plan, .ref a0_xs, .ref a0_ys, .long v0_twice, .int v0_length, .ref a0_wayX, .ref a0_wayY, .int v0_rings, .ref a0_first, .ref a0_size, .ref a0_areas, .ref a0_owner, .int v0_places, .ref a0_rx, .ref a0_ry])), (q0_ax, .inl (cI.1, n0_ax, .inl f0_ax)), (q0_bx, .inl (cI.1, n0_bx, .inl f0_bx)), (q0_by, .inl (cI.1, n0_by, .inl f0_by)), (q0_ay, .inl (cI.1, n0_ay, .inl f0_ay))] := hD.sub [0, 1, 2, 3, 4] rfl rfl
    exact W.zret (v := (0 : Int32)) hx hb hr (nw_b false) (fun t ht hW => ⟨⟨rfl, (), trivial, by rw [ht]; exact hP9, hD9⟩, hS.F ht⟩) hS.2.2 d_Mod_isEnd_45
  · have hf := (if_pos c_2).symm.trans hf
    refine lv_aload_n hx hb d_Mod_isEnd_30 rfl (lv_at hl 0 rfl) ?_
    refine va_get (D := (dC, dI)) (ci := 6) (v := .ref q0_by) (C := R_Mod) (T := F_Mod) (N := 27) hx hb hts i_Mod hown hK hP 0 rfl rfl 5 (by decide) (hts _ wm_628) (fun _ h9 => h9) rfl d_Mod_isEnd_31 ?_
    refine lv_iload_n hx hb d_Mod_isEnd_34 rfl (lv_at hl 1 rfl) ?_
    have b_3 : vp_in y1 n0_by := fun z => by rw [if_pos z] at hf; cases hf
    have hf := (if_neg b_3).symm.trans hf
    refine va_iald hx hb hK hP 3 0 rfl rfl b_3 d_Mod_isEnd_35 ?_
    refine lv_iload_n hx hb d_Mod_isEnd_36 rfl (lv_at hl 3 rfl) ?_
    refine lv_icmp_ne (tgt := 44) hx hb d_Mod_isEnd_37 (by decide) (fun c_4 => ?_) (fun c_4 => ?_)
    · have hf := (if_neg c_4).symm.trans hf
      refine lv_iconst (v := 0) hx hb d_Mod_isEnd_44 (by decide) ?_
      have hg0 := Option.some.inj hf
      subst hg0
      have hP9 : va_P (dC, dI) vwCl [(a0, .inr (6, [.int v0_thrown, .int v0_pieces, .ref q0_ax, .ref q0_ay, .ref q0_bx, .ref q0_by, .ref a0_marks, .ref a0_ways, .ref a0_gone, .int v0_planned, .int v0_corners, .int v0_polygons, .ref a0_plan, .ref a0_xs, .ref a0_ys, .long v0_twice, .int v0_length, .ref a0_wayX, .ref a0_wayY, .int v0_rings, .ref a0_first, .ref a0_size, .ref a0_areas, .ref a0_owner, .int v0_places, .ref a0_rx, .ref a0_ry])), (q0_ax, .inl (cI.1, n0_ax, .inl f0_ax)), (q0_bx, .inl (cI.1, n0_bx, .inl f0_bx)), (q0_by, .inl (cI.1, n0_by, .inl f0_by)), (q0_ay, .inl (cI.1, n0_ay, .inl f0_ay))] H := hP.sub [0, 1, 2, 3, 4] rfl
      have hD9 : va_D A [(a0, .inr (6, [.int v0_thrown, .int v0_pieces, .ref q0_ax, .ref q0_ay, .ref q0_bx, .ref q0_by, .ref a0_marks, .ref a0_ways, .ref a0_gone, .int v0_planned, .int v0_corners, .int v0_polygons, .ref a0_plan, .ref a0_xs, .ref a0_ys, .long v0_twice, .int v0_length, .ref a0_wayX, .ref a0_wayY, .int v0_rings, .ref a0_first, .ref a0_size, .ref a0_areas, .ref a0_owner, .int v0_places, .ref a0_rx, .ref a0_ry])), (q0_ax, .inl (cI.1, n0_ax, .inl f0_ax)), (q0_bx, .inl (cI.1, n0_bx, .inl f0_bx)), (q0_by, .inl (cI.1, n0_by, .inl f0_by)), (q0_ay, .inl (cI.1, n0_ay, .inl f0_ay))] := hD.sub [0, 1, 2, 3, 4] rfl rfl
      exact W.zret (v := (0 : Int32)) hx hb hr (nw_b false) (fun t ht hW => ⟨⟨rfl, (), trivial, by rw [ht]; exact hP9, hD9⟩, hS.F ht⟩) hS.2.2 d_Mod_isEnd_45
    · have hf := (if_pos c_4).symm.trans hf
      refine lv_iconst (v := 1) hx hb d_Mod_isEnd_40 (by decide) ?_
      refine lv_goto (tgt := 45) hx hb d_Mod_isEnd_41 (by decide) ?_
      have hg0 := Option.some.inj hf
      subst hg0
      have hP9 : va_P (dC, dI) vwCl [(a0, .inr (6, [.int v0_thrown, .int v0_pieces, .ref q0_ax, .ref q0_ay, .ref q0_bx, .ref q0_by, .ref a0_marks, .ref a0_ways, .ref a0_gone, .int v0_planned, .int v0_corners, .int v0_polygons, .ref a0_plan, .ref a0_xs, .ref a0_ys, .long v0_twice, .int v0_length, .ref a0_wayX, .ref a0_wayY, .int v0_rings, .ref a0_first, .ref a0_size, .ref a0_areas, .ref a0_owner, .int v0_places, .ref a0_rx, .ref a0_ry])), (q0_ax, .inl (cI.1, n0_ax, .inl f0_ax)), (q0_bx, .inl (cI.1, n0_bx, .inl f0_bx)), (q0_by, .inl (cI.1, n0_by, .inl f0_by)), (q0_ay, .inl (cI.1, n0_ay, .inl f0_ay))] H := hP.sub [0, 1, 2, 3, 4] rfl
      have hD9 : va_D A [(a0, .inr (6, [.int v0_thrown, .int v0_pieces, .ref q0_ax, .ref q0_ay, .ref q0_bx, .ref q0_by, .ref a0_marks, .ref a0_ways, .ref a0_gone, .int v0_planned, .int v0_corners, .int v0_polygons, .ref a0_plan, .ref a0_xs, .ref a0_ys, .long v0_twice, .int v0_length, .ref a0_wayX, .ref a0_wayY, .int v0_rings, .ref a0_first, .ref a0_size, .ref a0_areas, .ref a0_owner, .int v0_places, .ref a0_rx, .ref a0_ry])), (q0_ax, .inl (cI.1, n0_ax, .inl f0_ax)), (q0_bx, .inl (cI.1, n0_bx, .inl f0_bx)), (q0_by, .inl (cI.1, n0_by, .inl f0_by)), (q0_ay, .inl (cI.1, n0_ay, .inl f0_ay))] := hD.sub [0, 1, 2, 3, 4] rfl rfl
      exact W.zret (v := (1 : Int32)) hx hb hr (nw_b true) (fun t ht hW => ⟨⟨rfl, (), trivial, by rw [ht]; exact hP9, hD9⟩, hS.F ht⟩) hS.2.2 d_Mod_isEnd_45
def b_Mod_isEnd_0 (n0_ax : Nat) (f0_ax : Nat → Int32) (n0_bx : Nat) (f0_bx : Nat → Int32) (n0_by : Nat) (f0_by : Nat → Int32) (n0_ay : Nat) (f0_ay : Nat → Int32) (y1 : Int32) (y2 : Int32) (y3 : Int32)  : Option (Bool) :=
  if y1 < 0 ∨ n0_ax ≤ y1.toNatClampNeg then none else (if (f0_ax y1.toNatClampNeg) = y2 then (if y1 < 0 ∨ n0_ay ≤ y1.toNatClampNeg then none else (if (f0_ay y1.toNatClampNeg) = y3 then (some true) else (b_Mod_isEnd_20 n0_ax f0_ax n0_bx f0_bx n0_by f0_by n0_ay f0_ay y1 y2 y3 ))) else (b_Mod_isEnd_20 n0_ax f0_ax n0_bx f0_bx n0_by f0_by n0_ay f0_ay y1 y2 y3 ))
set_option maxHeartbeats 4000000 in
set_option maxRecDepth 100000 in
theorem s_Mod_isEnd_0 (p : Program) (l : Launch) (e : Env) (s : State) (m : MethodId) (args : Array Value) (below : List Frame) (meth : Method) (c : Code) (dC : Nat → ClassId) (dI : Nat → Nat → Nat) (cI : dcG) (A : Nat → Prop) (a0 : Nat) (a0_marks : Nat) (a0_ways : Nat) (a0_gone : Nat) (a0_plan : Nat) (a0_xs : Nat) (a0_ys : Nat) (a0_wayX : Nat) (a0_wayY : Nat) (a0_first : Nat) (a0_size : Nat) (a0_areas : Nat) (a0_owner : Nat) (a0_rx : Nat) (a0_ry : Nat) (v0_thrown : Int32) (v0_pieces : Int32) (v0_planned : Int32) (v0_corners : Int32) (v0_polygons : Int32) (v0_twice : Int64) (v0_length : Int32) (v0_rings : Int32) (v0_places : Int32) (q0_ax : Nat) (n0_ax : Nat) (f0_ax : Nat → Int32) (q0_bx : Nat) (n0_bx : Nat) (f0_bx : Nat → Int32) (q0_by : Nat) (n0_by : Nat) (f0_by : Nat → Int32) (q0_ay : Nat) (n0_ay : Nat) (f0_ay : Nat → Int32) (y1 : Int32) (y2 : Int32) (y3 : Int32) (rv : Bool) (C0 : dc_At p s m args meth c prog_9_method_11_code 4 R_Mod (some .boolean)) (hK : va_K (dC, dI) vwCl (dcT cI) s) (hA : ∀ q, s.heap.size ≤ q → A q) : T_Mod_isEnd_0 p l e s m args below meth c dC dI cI A a0 a0_marks a0_ways a0_gone a0_plan a0_xs a0_ys a0_wayX a0_wayY a0_first a0_size a0_areas a0_owner a0_rx a0_ry v0_thrown v0_pieces v0_planned v0_corners v0_polygons v0_twice v0_length v0_rings v0_places q0_ax n0_ax f0_ax q0_bx n0_bx f0_bx q0_by n0_by f0_by q0_ay n0_ay f0_ay y1 y2 y3 rv (b_Mod_isEnd_0 n0_ax f0_ax n0_bx f0_bx n0_by f0_by n0_ay f0_ay y1 y2 y3) := by
  obtain ⟨hx, hb, hml, hown, hts, hr, hlocks, hN⟩ := id C0
  intro hf H locs hP hD hS ls hl
  unfold b_Mod_isEnd_0 at hf
  refine lv_aload_n hx hb d_Mod_isEnd_0 rfl (lv_at hl 0 rfl) ?_
  refine va_get (D := (dC, dI)) (ci := 6) (v := .ref q0_ax) (C := R_Mod) (T := F_Mod) (N := 27) hx hb hts i_Mod hown hK hP 0 rfl rfl 2 (by decide) (hts _ wm_625) (fun _ h9 => h9) rfl d_Mod_isEnd_1 ?_
  refine lv_iload_n hx hb d_Mod_isEnd_4 rfl (lv_at hl 1 rfl) ?_
  have b_5 : vp_in y1 n0_ax := fun z => by rw [if_pos z] at hf; cases hf
  have hf := (if_neg b_5).symm.trans hf
  refine va_iald hx hb hK hP 1 0 rfl rfl b_5 d_Mod_isEnd_5 ?_
  refine lv_iload_n hx hb d_Mod_isEnd_6 rfl (lv_at hl 2 rfl) ?_
  refine lv_icmp_ne (tgt := 20) hx hb d_Mod_isEnd_7 (by decide) (fun c_6 => ?_) (fun c_6 => ?_)
  · have hf := (if_neg c_6).symm.trans hf
    exact (s_Mod_isEnd_20 p l e s m args below meth c dC dI cI A a0 a0_marks a0_ways a0_gone a0_plan a0_xs a0_ys a0_wayX a0_wayY a0_first a0_size a0_areas a0_owner a0_rx a0_ry v0_thrown v0_pieces v0_planned v0_corners v0_polygons v0_twice v0_length v0_rings v0_places q0_ax n0_ax f0_ax q0_bx n0_bx f0_bx q0_by n0_by f0_by q0_ay n0_ay f0_ay y1 y2 y3 rv C0 hK hA  ) hf H locs hP hD hS ls (lv_sub hl [0, 1, 2, 3] rfl)
  · have hf := (if_pos c_6).symm.trans hf
    refine lv_aload_n hx hb d_Mod_isEnd_10 rfl (lv_at hl 0 rfl) ?_
    refine va_get (D := (dC, dI)) (ci := 6) (v := .ref q0_ay) (C := R_Mod) (T := F_Mod) (N := 27) hx hb hts i_Mod hown hK hP 0 rfl rfl 3 (by decide) (hts _ wm_626) (fun _ h9 => h9) rfl d_Mod_isEnd_11 ?_
    refine lv_iload_n hx hb d_Mod_isEnd_14 rfl (lv_at hl 1 rfl) ?_
    have b_7 : vp_in y1 n0_ay := fun z => by rw [if_pos z] at hf; cases hf
    have hf := (if_neg b_7).symm.trans hf
    refine va_iald hx hb hK hP 4 0 rfl rfl b_7 d_Mod_isEnd_15 ?_
    refine lv_iload_n hx hb d_Mod_isEnd_16 rfl (lv_at hl 3 rfl) ?_
    refine lv_icmp_eq (tgt := 40) hx hb d_Mod_isEnd_17 (by decide) (fun c_8 => ?_) (fun c_8 => ?_)
    · have hf := (if_pos c_8).symm.trans hf
      refine lv_iconst (v := 1) hx hb d_Mod_isEnd_40 (by decide) ?_
      refine lv_goto (tgt := 45) hx hb d_Mod_isEnd_41 (by decide) ?_
      have hg0 := Option.some.inj hf
      subst hg0
      have hP9 : va_P (dC, dI) vwCl [(a0, .inr (6, [.int v0_thrown, .int v0_pieces, .ref q0_ax, .ref q0_ay, .ref q0_bx, .ref q0_by, .ref a0_marks, .ref a0_ways, .ref a0_gone, .int v0_planned, .int v0_corners, .int v0_polygons, .ref a0_plan, .ref a0_xs, .ref a0_ys, .long v0_twice, .int v0_length, .ref a0_wayX, .ref a0_wayY, .int v0_rings, .ref a0_first, .ref a0_size, .ref a0_areas, .ref a0_owner, .int v0_places, .ref a0_rx, .ref a0_ry])), (q0_ax, .inl (cI.1, n0_ax, .inl f0_ax)), (q0_bx, .inl (cI.1, n0_bx, .inl f0_bx)), (q0_by, .inl (cI.1, n0_by, .inl f0_by)), (q0_ay, .inl (cI.1, n0_ay, .inl f0_ay))] H := hP.sub [0, 1, 2, 3, 4] rfl
      have hD9 : va_D A [(a0, .inr (6, [.int v0_thrown, .int v0_pieces, .ref q0_ax, .ref q0_ay, .ref q0_bx, .ref q0_by, .ref a0_marks, .ref a0_ways, .ref a0_gone, .int v0_planned, .int v0_corners, .int v0_polygons, .ref a0_plan, .ref a0_xs, .ref a0_ys, .long v0_twice, .int v0_length, .ref a0_wayX, .ref a0_wayY, .int v0_rings, .ref a0_first, .ref a0_size, .ref a0_areas, .ref a0_owner, .int v0_places, .ref a0_rx, .ref a0_ry])), (q0_ax, .inl (cI.1, n0_ax, .inl f0_ax)), (q0_bx, .inl (cI.1, n0_bx, .inl f0_bx)), (q0_by, .inl (cI.1, n0_by, .inl f0_by)), (q0_ay, .inl (cI.1, n0_ay, .inl f0_ay))] := hD.sub [0, 1, 2, 3, 4] rfl rfl
      exact W.zret (v := (1 : Int32)) hx hb hr (nw_b true) (fun t ht hW => ⟨⟨rfl, (), trivial, by rw [ht]; exact hP9, hD9⟩, hS.F ht⟩) hS.2.2 d_Mod_isEnd_45
    · have hf := (if_neg c_8).symm.trans hf
      exact (s_Mod_isEnd_20 p l e s m args below meth c dC dI cI A a0 a0_marks a0_ways a0_gone a0_plan a0_xs a0_ys a0_wayX a0_wayY a0_first a0_size a0_areas a0_owner a0_rx a0_ry v0_thrown v0_pieces v0_planned v0_corners v0_polygons v0_twice v0_length v0_rings v0_places q0_ax n0_ax f0_ax q0_bx n0_bx f0_bx q0_by n0_by f0_by q0_ay n0_ay f0_ay y1 y2 y3 rv C0 hK hA  ) hf H locs hP hD hS ls (lv_sub hl [0, 1, 2, 3] rfl)
def f_Mod_isEnd (n0_ax : Nat) (f0_ax : Nat → Int32) (n0_bx : Nat) (f0_bx : Nat → Int32) (n0_by : Nat) (f0_by : Nat → Int32) (n0_ay : Nat) (f0_ay : Nat → Int32) (y1 : Int32) (y2 : Int32) (y3 : Int32) : Option (Bool) :=
  b_Mod_isEnd_0 n0_ax f0_ax n0_bx f0_bx n0_by f0_by n0_ay f0_ay y1 y2 y3 
set_option maxHeartbeats 4000000 in
set_option maxRecDepth 100000 in
theorem c_Mod_isEnd (l : Launch) (dC : Nat → ClassId) (dI : Nat → Nat → Nat) (cI : dcG) (a0 : Nat) (a0_marks : Nat) (a0_ways : Nat) (a0_gone : Nat) (a0_plan : Nat) (a0_xs : Nat) (a0_ys : Nat) (a0_wayX : Nat) (a0_wayY : Nat) (a0_first : Nat) (a0_size : Nat) (a0_areas : Nat) (a0_owner : Nat) (a0_rx : Nat) (a0_ry : Nat) (v0_thrown : Int32) (v0_pieces : Int32) (v0_planned : Int32) (v0_corners : Int32) (v0_polygons : Int32) (v0_twice : Int64) (v0_length : Int32) (v0_rings : Int32) (v0_places : Int32) (q0_ax : Nat) (n0_ax : Nat) (f0_ax : Nat → Int32) (q0_bx : Nat) (n0_bx : Nat) (f0_bx : Nat → Int32) (q0_by : Nat) (n0_by : Nat) (f0_by : Nat → Int32) (q0_ay : Nat) (n0_ay : Nat) (f0_ay : Nat → Int32) (y1 : Int32) (y2 : Int32) (y3 : Int32) (rv : Bool) (sz : Nat) (hf : f_Mod_isEnd n0_ax f0_ax n0_bx f0_bx n0_by f0_by n0_ay f0_ay y1 y2 y3 = some rv) : Met l y_Mod_isEnd w_Mod_isEnd { frames := 0, cells := 0, slots := 0, locals := 0 } (dc_Pre (dC, dI) (dcT cI) [(a0, .inr (6, [.int v0_thrown, .int v0_pieces, .ref q0_ax, .ref q0_ay, .ref q0_bx, .ref q0_by, .ref a0_marks, .ref a0_ways, .ref a0_gone, .int v0_planned, .int v0_corners, .int v0_polygons, .ref a0_plan, .ref a0_xs, .ref a0_ys, .long v0_twice, .int v0_length, .ref a0_wayX, .ref a0_wayY, .int v0_rings, .ref a0_first, .ref a0_size, .ref a0_areas, .ref a0_owner, .int v0_places, .ref a0_rx, .ref a0_ry])), (q0_ax, .inl (cI.1, n0_ax, .inl f0_ax)), (q0_bx, .inl (cI.1, n0_bx, .inl f0_bx)), (q0_by, .inl (cI.1, n0_by, .inl f0_by)), (q0_ay, .inl (cI.1, n0_ay, .inl f0_ay))] sz [.ref a0, .int y1, .int y2, .int y3]) (dc_Q (dC, dI) (some (.int (bI rv))) (fun x : Unit => True) (fun x => [(a0, .inr (6, [.int v0_thrown, .int v0_pieces, .ref q0_ax, .ref q0_ay, .ref q0_bx, .ref q0_by, .ref a0_marks, .ref a0_ways, .ref a0_gone, .int v0_planned, .int v0_corners, .int v0_polygons, .ref a0_plan, .ref a0_xs, .ref a0_ys, .long v0_twice, .int v0_length, .ref a0_wayX, .ref a0_wayY, .int v0_rings, .ref a0_first, .ref a0_size, .ref a0_areas, .ref a0_owner, .int v0_places, .ref a0_rx, .ref a0_ry])), (q0_ax, .inl (cI.1, n0_ax, .inl f0_ax)), (q0_bx, .inl (cI.1, n0_bx, .inl f0_bx)), (q0_by, .inl (cI.1, n0_by, .inl f0_by)), (q0_ay, .inl (cI.1, n0_ay, .inl f0_ay))]) (va_A [(a0, .inr (6, [.int v0_thrown, .int v0_pieces, .ref q0_ax, .ref q0_ay, .ref q0_bx, .ref q0_by, .ref a0_marks, .ref a0_ways, .ref a0_gone, .int v0_planned, .int v0_corners, .int v0_polygons, .ref a0_plan, .ref a0_xs, .ref a0_ys, .long v0_twice, .int v0_length, .ref a0_wayX, .ref a0_wayY, .int v0_rings, .ref a0_first, .ref a0_size, .ref a0_areas, .ref a0_owner, .int v0_places, .ref a0_rx, .ref a0_ry])), (q0_ax, .inl (cI.1, n0_ax, .inl f0_ax)), (q0_bx, .inl (cI.1, n0_bx, .inl f0_bx)), (q0_by, .inl (cI.1, n0_by, .inl f0_by)), (q0_ay, .inl (cI.1, n0_ay, .inl f0_ay))] sz)) 0 0 (va_A [(a0, .inr (6, [.int v0_thrown, .int v0_pieces, .ref q0_ax, .ref q0_ay, .ref q0_bx, .ref q0_by, .ref a0_marks, .ref a0_ways, .ref a0_gone, .int v0_planned, .int v0_corners, .int v0_polygons, .ref a0_plan, .ref a0_xs, .ref a0_ys, .long v0_twice, .int v0_length, .ref a0_wayX, .ref a0_wayY, .int v0_rings, .ref a0_first, .ref a0_size, .ref a0_areas, .ref a0_owner, .int v0_places, .ref a0_rx, .ref a0_ry])), (q0_ax, .inl (cI.1, n0_ax, .inl f0_ax)), (q0_bx, .inl (cI.1, n0_bx, .inl f0_bx)), (q0_by, .inl (cI.1, n0_by, .inl f0_by)), (q0_ay, .inl (cI.1, n0_ay, .inl f0_ay))] sz) := by
  refine Met.ofW (cc := prog_9_method_11_code) (maxL := 4) (ret := (some .boolean)) (by decide) rfl ?_
  intro p e s m args below meth c s₁ B hml hv
  obtain ⟨rfl, hsz, hP, hK, hD0, hN⟩ := hv
  have C0 : dc_At p s m [.ref a0, .int y1, .int y2, .int y3].toArray meth c prog_9_method_11_code 4 R_Mod (some .boolean) := ⟨B.exec, B.bytes, hml, findClass_of_methodNamed B.named, fun w h => atoms_spec (ws := w_Mod_isEnd) B.pre w (List.mem_cons_of_mem _ h), B.returns, B.notSynchronized, hN⟩
  subst hsz
  have hD := hD0.self (sz := s.heap.size)
  generalize hAe : va_A [(a0, .inr (6, [.int v0_thrown, .int v0_pieces, .ref q0_ax, .ref q0_ay, .ref q0_bx, .ref q0_by, .ref a0_marks, .ref a0_ways, .ref a0_gone, .int v0_planned, .int v0_corners, .int v0_polygons, .ref a0_plan, .ref a0_xs, .ref a0_ys, .long v0_twice, .int v0_length, .ref a0_wayX, .ref a0_wayY, .int v0_rings, .ref a0_first, .ref a0_size, .ref a0_areas, .ref a0_owner, .int v0_places, .ref a0_rx, .ref a0_ry])), (q0_ax, .inl (cI.1, n0_ax, .inl f0_ax)), (q0_bx, .inl (cI.1, n0_bx, .inl f0_bx)), (q0_by, .inl (cI.1, n0_by, .inl f0_by)), (q0_ay, .inl (cI.1, n0_ay, .inl f0_ay))] s.heap.size = A at hD ⊢
  have hA : ∀ q : Nat, s.heap.size ≤ q → A q := fun q h => by rw [← hAe]; exact Or.inr h
  have hl := lv_entry ([.ref a0, .int y1, .int y2, .int y3]) (n := 4) (Nat.le_of_ble_eq_true rfl)
  rw [lg_entry_eq]
  generalize (lg_sl ([.ref a0, .int y1, .int y2, .int y3]) ++ List.replicate (4 - (lg_sl ([.ref a0, .int y1, .int y2, .int y3])).length) Slot.unset).toArray = ls at hl ⊢
  exact s_Mod_isEnd_0 p l e s m _ below meth c dC dI cI A a0 a0_marks a0_ways a0_gone a0_plan a0_xs a0_ys a0_wayX a0_wayY a0_first a0_size a0_areas a0_owner a0_rx a0_ry v0_thrown v0_pieces v0_planned v0_corners v0_polygons v0_twice v0_length v0_rings v0_places q0_ax n0_ax f0_ax q0_bx n0_bx f0_bx q0_by n0_by f0_by q0_ay n0_ay f0_ay y1 y2 y3 rv C0 hK hA  hf s.heap [] hP hD va_S.rf ls (lv_sub hl [0, 1, 2, 3] rfl)
def T_Mod_isIn_0 (p : Program) (l : Launch) (e : Env) (s : State) (m : MethodId) (args : Array Value) (below : List Frame) (meth : Method) (c : Code) (dC : Nat → ClassId) (dI : Nat → Nat → Nat) (cI : dcG) (A : Nat → Prop) (a0 : Nat) (a0_marks : Nat) (a0_ways : Nat) (a0_gone : Nat) (a0_plan : Nat) (a0_xs : Nat) (a0_ys : Nat) (a0_wayX : Nat) (a0_wayY : Nat) (a0_first : Nat) (a0_size : Nat) (a0_areas : Nat) (a0_owner : Nat) (a0_rx : Nat) (a0_ry : Nat) (v0_thrown : Int32) (v0_pieces : Int32) (v0_planned : Int32) (v0_corners : Int32) (v0_polygons : Int32) (v0_twice : Int64) (v0_length : Int32) (v0_rings : Int32) (v0_places : Int32) (q0_ax : Nat) (n0_ax : Nat) (f0_ax : Nat → Int32) (q0_bx : Nat) (n0_bx : Nat) (f0_bx : Nat → Int32) (q0_by : Nat) (n0_by : Nat) (f0_by : Nat → Int32) (q0_ay : Nat) (n0_ay : Nat) (f0_ay : Nat → Int32) (y1 : Int32) (y2 : Int32) (y3 : Int32) (rv : Bool) (g : Option (Bool)) : Prop :=
  g  = some rv → 
  ∀ (H : Heap) (locs : List Loc), va_P (dC, dI) vwCl [(a0, .inr (6, [.int v0_thrown, .int v0_pieces, .ref q0_ax, .ref q0_ay, .ref q0_bx, .ref q0_by, .ref a0_marks, .ref a0_ways, .ref a0_gone, .int v0_planned, .int v0_corners, .int v0_polygons, .ref a0_plan, .ref a0_xs, .ref a0_ys, .long v0_twice, .int v0_length, .ref a0_wayX, .ref a0_wayY, .int v0_rings, .ref a0_first, .ref a0_size, .ref a0_areas, .ref a0_owner, .int v0_places, .ref a0_rx, .ref a0_ry])), (q0_ax, .inl (cI.1, n0_ax, .inl f0_ax)), (q0_bx, .inl (cI.1, n0_bx, .inl f0_bx)), (q0_by, .inl (cI.1, n0_by, .inl f0_by)), (q0_ay, .inl (cI.1, n0_ay, .inl f0_ay))] H → va_D A [(a0, .inr (6, [.int v0_thrown, .int v0_pieces, .ref q0_ax, .ref q0_ay, .ref q0_bx, .ref q0_by, .ref a0_marks, .ref a0_ways, .ref a0_gone, .int v0_planned, .int v0_corners, .int v0_polygons, .ref a0_plan, .ref a0_xs, .ref a0_ys, .long v0_twice, .int v0_length, .ref a0_wayX, .ref a0_wayY, .int v0_rings, .ref a0_first, .ref a0_size, .ref a0_areas, .ref a0_owner, .int v0_places, .ref a0_rx, .ref a0_ry])), (q0_ax, .inl (cI.1, n0_ax, .inl f0_ax)), (q0_bx, .inl (cI.1, n0_bx, .inl f0_bx)), (q0_by, .inl (cI.1, n0_by, .inl f0_by)), (q0_ay, .inl (cI.1, n0_ay, .inl f0_ay))] → va_S A s.heap H locs → ∀ (ls : Array Slot), lv_has ls 4 [(0, .ref a0), (1, .int y1), (2, .int y2), (3, .int y3)] →
  W p l e { frames := 2, cells := 0, slots := 0, locals := 52 } s m args below meth c H locs 0 0 (MQ below (dc_Q (dC, dI) (some (.int (bI rv))) (fun x : Unit => True) (fun x => [(a0, .inr (6, [.int v0_thrown, .int v0_pieces, .ref q0_ax, .ref q0_ay, .ref q0_bx, .ref q0_by, .ref a0_marks, .ref a0_ways, .ref a0_gone, .int v0_planned, .int v0_corners, .int v0_polygons, .ref a0_plan, .ref a0_xs, .ref a0_ys, .long v0_twice, .int v0_length, .ref a0_wayX, .ref a0_wayY, .int v0_rings, .ref a0_first, .ref a0_size, .ref a0_areas, .ref a0_owner, .int v0_places, .ref a0_rx, .ref a0_ry])), (q0_ax, .inl (cI.1, n0_ax, .inl f0_ax)), (q0_bx, .inl (cI.1, n0_bx, .inl f0_bx)), (q0_by, .inl (cI.1, n0_by, .inl f0_by)), (q0_ay, .inl (cI.1, n0_ay, .inl f0_ay))]) A) args s 0 0 A) (F0 m 0 ls [])
def b_Mod_isIn_0 (n0_ax : Nat) (f0_ax : Nat → Int32) (n0_bx : Nat) (f0_bx : Nat → Int32) (n0_by : Nat) (f0_by : Nat → Int32) (n0_ay : Nat) (f0_ay : Nat → Int32) (y1 : Int32) (y2 : Int32) (y3 : Int32)  : Option (Bool) :=
  ob1 (f_Mod_isEnd n0_ax f0_ax n0_bx f0_bx n0_by f0_by n0_ay f0_ay y1 y2 y3) fun r_1 => if (bI r_1) = 0 then (if y1 < 0 ∨ n0_ax ≤ y1.toNatClampNeg then none else (if y1 < 0 ∨ n0_ay ≤ y1.toNatClampNeg then none else (if y1 < 0 ∨ n0_bx ≤ y1.toNatClampNeg then none else (if y1 < 0 ∨ n0_by ≤ y1.toNatClampNeg then none else (ob1 (f_Mod_side (f0_ax y1.toNatClampNeg) (f0_ay y1.toNatClampNeg) (f0_bx y1.toNatClampNeg) (f0_by y1.toNatClampNeg) y2 y3) fun r_7 => if r_7 = 0 then (if y1 < 0 ∨ n0_ax ≤ y1.toNatClampNeg then none else (if y1 < 0 ∨ n0_bx ≤ y1.toNatClampNeg then none else (ob1 (f_Mod_between y2 (f0_ax y1.toNatClampNeg) (f0_bx y1.toNatClampNeg)) fun r_11 => if (bI r_11) = 0 then (some false) else (if y1 < 0 ∨ n0_ay ≤ y1.toNatClampNeg then none else (if y1 < 0 ∨ n0_by ≤ y1.toNatClampNeg then none else (ob1 (f_Mod_between y3 (f0_ay y1.toNatClampNeg) (f0_by y1.toNatClampNeg)) fun r_15 => if (bI r_15) = 0 then (some false) else (some true))))))) else (some false)))))) else (some false)
set_option maxHeartbeats 4000000 in
set_option maxRecDepth 100000 in
theorem s_Mod_isIn_0 (p : Program) (l : Launch) (e : Env) (s : State) (m : MethodId) (args : Array Value) (below : List Frame) (meth : Method) (c : Code) (dC : Nat → ClassId) (dI : Nat → Nat → Nat) (cI : dcG) (A : Nat → Prop) (a0 : Nat) (a0_marks : Nat) (a0_ways : Nat) (a0_gone : Nat) (a0_plan : Nat) (a0_xs : Nat) (a0_ys : Nat) (a0_wayX : Nat) (a0_wayY : Nat) (a0_first : Nat) (a0_size : Nat) (a0_areas : Nat) (a0_owner : Nat) (a0_rx : Nat) (a0_ry : Nat) (v0_thrown : Int32) (v0_pieces : Int32) (v0_planned : Int32) (v0_corners : Int32) (v0_polygons : Int32) (v0_twice : Int64) (v0_length : Int32) (v0_rings : Int32) (v0_places : Int32) (q0_ax : Nat) (n0_ax : Nat) (f0_ax : Nat → Int32) (q0_bx : Nat) (n0_bx : Nat) (f0_bx : Nat → Int32) (q0_by : Nat) (n0_by : Nat) (f0_by : Nat → Int32) (q0_ay : Nat) (n0_ay : Nat) (f0_ay : Nat → Int32) (y1 : Int32) (y2 : Int32) (y3 : Int32) (rv : Bool) (C0 : dc_At p s m args meth c prog_9_method_12_code 4 R_Mod (some .boolean)) (hK : va_K (dC, dI) vwCl (dcT cI) s) (hA : ∀ q, s.heap.size ≤ q → A q) : T_Mod_isIn_0 p l e s m args below meth c dC dI cI A a0 a0_marks a0_ways a0_gone a0_plan a0_xs a0_ys a0_wayX a0_wayY a0_first a0_size a0_areas a0_owner a0_rx a0_ry v0_thrown v0_pieces v0_planned v0_corners v0_polygons v0_twice v0_length v0_rings v0_places q0_ax n0_ax f0_ax q0_bx n0_bx f0_bx q0_by n0_by f0_by q0_ay n0_ay f0_ay y1 y2 y3 rv (b_Mod_isIn_0 n0_ax f0_ax n0_bx f0_bx n0_by f0_by n0_ay f0_ay y1 y2 y3) := by
  obtain ⟨hx, hb, hml, hown, hts, hr, hlocks, hN⟩ := id C0
  intro hf H locs hP hD hS ls hl
  unfold b_Mod_isIn_0 at hf
  refine lv_aload_n hx hb d_Mod_isIn_0 rfl (lv_at hl 0 rfl) ?_
  refine lv_iload_n hx hb d_Mod_isIn_1 rfl (lv_at hl 1 rfl) ?_
  refine lv_iload_n hx hb d_Mod_isIn_2 rfl (lv_at hl 2 rfl) ?_
  refine lv_iload_n hx hb d_Mod_isIn_3 rfl (lv_at hl 3 rfl) ?_
  obtain ⟨r_1, e_1, hf⟩ := ob1_some hf
  refine dc_call (wc := [(a0, .inr (6, [.int v0_thrown, .int v0_pieces, .ref q0_ax, .ref q0_ay, .ref q0_bx, .ref q0_by, .ref a0_marks, .ref a0_ways, .ref a0_gone, .int v0_planned, .int v0_corners, .int v0_polygons, .ref a0_plan, .ref a0_xs, .ref a0_ys, .long v0_twice, .int v0_length, .ref a0_wayX, .ref a0_wayY, .int v0_rings, .ref a0_first, .ref a0_size, .ref a0_areas, .ref a0_owner, .int v0_places, .ref a0_rx, .ref a0_ry])), (q0_ax, .inl (cI.1, n0_ax, .inl f0_ax)), (q0_bx, .inl (cI.1, n0_bx, .inl f0_bx)), (q0_by, .inl (cI.1, n0_by, .inl f0_by)), (q0_ay, .inl (cI.1, n0_ay, .inl f0_ay))]) (wr := []) [0, 1, 2, 3, 4] [] hP hD hS hA rfl rfl rfl rfl rfl (fun hPc hDc => va_runV (As := [.int y1, .int y2, .int y3]) (rest := []) ⟨hx, hb, hml, hown, hts⟩ (c_Mod_isEnd l dC dI cI a0 a0_marks a0_ways a0_gone a0_plan a0_xs a0_ys a0_wayX a0_wayY a0_first a0_size a0_areas a0_owner a0_rx a0_ry v0_thrown v0_pieces v0_planned v0_corners v0_polygons v0_twice v0_length v0_rings v0_places q0_ax n0_ax f0_ax q0_bx n0_bx f0_bx q0_by n0_by f0_by q0_ay n0_ay f0_ay y1 y2 y3 r_1 H.size e_1) (cwV 3 hts (gV wm_731 wm_733 wp_21 wm_7 wm_734) rfl rfl rfl (by decide +kernel) ⟨Nat.le_of_ble_eq_true rfl, Nat.le_of_ble_eq_true rfl⟩) (dc_preV hK hN hPc hDc (va_recv hK hPc (ci := 6) (q0 := 0) rfl rfl)) rfl rfl hl.1 rfl (lv_room (Nat.le_of_ble_eq_true rfl)) d_Mod_isIn_4 ⟨Nat.le_refl _, Nat.le_refl _⟩) (fun x_1 H locs hp_1 hP hD hS => ?_)
  have hP : va_P (dC, dI) vwCl [(a0, .inr (6, [.int v0_thrown, .int v0_pieces, .ref q0_ax, .ref q0_ay, .ref q0_bx, .ref q0_by, .ref a0_marks, .ref a0_ways, .ref a0_gone, .int v0_planned, .int v0_corners, .int v0_polygons, .ref a0_plan, .ref a0_xs, .ref a0_ys, .long v0_twice, .int v0_length, .ref a0_wayX, .ref a0_wayY, .int v0_rings, .ref a0_first, .ref a0_size, .ref a0_areas, .ref a0_owner, .int v0_places, .ref a0_rx, .ref a0_ry])), (q0_ax, .inl (cI.1, n0_ax, .inl f0_ax)), (q0_bx, .inl (cI.1, n0_bx, .inl f0_bx)), (q0_by, .inl (cI.1, n0_by, .inl f0_by)), (q0_ay, .inl (cI.1, n0_ay, .inl f0_ay))] H := hP
  have hD : va_D A [(a0, .inr (6, [.int v0_thrown, .int v0_pieces, .ref q0_ax, .ref q0_ay, .ref q0_bx, .ref q0_by, .ref a0_marks, .ref a0_ways, .ref a0_gone, .int v0_planned, .int v0_corners, .int v0_polygons, .ref a0_plan, .ref a0_xs, .ref a0_ys, .long v0_twice, .int v0_length, .ref a0_wayX, .ref a0_wayY, .int v0_rings, .ref a0_first, .ref a0_size, .ref a0_areas, .ref a0_owner, .int v0_places, .ref a0_rx, .ref a0_ry])), (q0_ax, .inl (cI.1, n0_ax, .inl f0_ax)), (q0_bx, .inl (cI.1, n0_bx, .inl f0_bx)), (q0_by, .inl (cI.1, n0_by, .inl f0_by)), (q0_ay, .inl (cI.1, n0_ay, .inl f0_ay))] := hD
  refine lv_if_ne (tgt := 84) hx hb d_Mod_isIn_7 (by decide) (fun c_2 => ?_) (fun c_2 => ?_)
  · have hf := (if_neg c_2).symm.trans hf
    refine lv_iconst (v := 0) hx hb d_Mod_isIn_84 (by decide) ?_
    have hg0 := Option.some.inj hf
    subst hg0
    have hP9 : va_P (dC, dI) vwCl [(a0, .inr (6, [.int v0_thrown, .int v0_pieces, .ref q0_ax, .ref q0_ay, .ref q0_bx, .ref q0_by, .ref a0_marks, .ref a0_ways, .ref a0_gone, .int v0_planned, .int v0_corners, .int v0_polygons, .ref a0_plan, .ref a0_xs, .ref a0_ys, .long v0_twice, .int v0_length, .ref a0_wayX, .ref a0_wayY, .int v0_rings, .ref a0_first, .ref a0_size, .ref a0_areas, .ref a0_owner, .int v0_places, .ref a0_rx, .ref a0_ry])), (q0_ax, .inl (cI.1, n0_ax, .inl f0_ax)), (q0_bx, .inl (cI.1, n0_bx, .inl f0_bx)), (q0_by, .inl (cI.1, n0_by, .inl f0_by)), (q0_ay, .inl (cI.1, n0_ay, .inl f0_ay))] H := hP.sub [0, 1, 2, 3, 4] rfl
    have hD9 : va_D A [(a0, .inr (6, [.int v0_thrown, .int v0_pieces, .ref q0_ax, .ref q0_ay, .ref q0_bx, .ref q0_by, .ref a0_marks, .ref a0_ways, .ref a0_gone, .int v0_planned, .int v0_corners, .int v0_polygons, .ref a0_plan, .ref a0_xs, .ref a0_ys, .long v0_twice, .int v0_length, .ref a0_wayX, .ref a0_wayY, .int v0_rings, .ref a0_first, .ref a0_size, .ref a0_areas, .ref a0_owner, .int v0_places, .ref a0_rx, .ref a0_ry])), (q0_ax, .inl (cI.1, n0_ax, .inl f0_ax)), (q0_bx, .inl (cI.1, n0_bx, .inl f0_bx)), (q0_by, .inl (cI.1, n0_by, .inl f0_by)), (q0_ay, .inl (cI.1, n0_ay, .inl f0_ay))] := hD.sub [0, 1, 2, 3, 4] rfl rfl
    exact W.zret (v := (0 : Int32)) hx hb hr (nw_b false) (fun t ht hW => ⟨⟨rfl, (), trivial, by rw [ht]; exact hP9, hD9⟩, hS.F ht⟩) hS.2.2 d_Mod_isIn_85
  · have hf := (if_pos c_2).symm.trans hf
    refine lv_aload_n hx hb d_Mod_isIn_10 rfl (lv_at hl 0 rfl) ?_
    refine va_get (D := (dC, dI)) (ci := 6) (v := .ref q0_ax) (C := R_Mod) (T := F_Mod) (N := 27) hx hb hts i_Mod hown hK hP 0 rfl rfl 2 (by decide) (hts _ wm_625) (fun _ h9 => h9) rfl d_Mod_isIn_11 ?_
    refine lv_iload_n hx hb d_Mod_isIn_14 rfl (lv_at hl 1 rfl) ?_
    have b_3 : vp_in y1 n0_ax := fun z => by rw [if_pos z] at hf; cases hf
    have hf := (if_neg b_3).symm.trans hf
    refine va_iald hx hb hK hP 1 0 rfl rfl b_3 d_Mod_isIn_15 ?_
    refine lv_aload_n hx hb d_Mod_isIn_16 rfl (lv_at hl 0 rfl) ?_
    refine va_get (D := (dC, dI)) (ci := 6) (v := .ref q0_ay) (C := R_Mod) (T := F_Mod) (N := 27) hx hb hts i_Mod hown hK hP 0 rfl rfl 3 (by decide) (hts _ wm_626) (fun _ h9 => h9) rfl d_Mod_isIn_17 ?_
    refine lv_iload_n hx hb d_Mod_isIn_20 rfl (lv_at hl 1 rfl) ?_
    have b_4 : vp_in y1 n0_ay := fun z => by rw [if_pos z] at hf; cases hf
    have hf := (if_neg b_4).symm.trans hf
    refine va_iald hx hb hK hP 4 0 rfl rfl b_4 d_Mod_isIn_21 ?_
    refine lv_aload_n hx hb d_Mod_isIn_22 rfl (lv_at hl 0 rfl) ?_
    refine va_get (D := (dC, dI)) (ci := 6) (v := .ref q0_bx) (C := R_Mod) (T := F_Mod) (N := 27) hx hb hts i_Mod hown hK hP 0 rfl rfl 4 (by decide) (hts _ wm_627) (fun _ h9 => h9) rfl d_Mod_isIn_23 ?_
    refine lv_iload_n hx hb d_Mod_isIn_26 rfl (lv_at hl 1 rfl) ?_
    have b_5 : vp_in y1 n0_bx := fun z => by rw [if_pos z] at hf; cases hf
    have hf := (if_neg b_5).symm.trans hf
    refine va_iald hx hb hK hP 2 0 rfl rfl b_5 d_Mod_isIn_27 ?_
    refine lv_aload_n hx hb d_Mod_isIn_28 rfl (lv_at hl 0 rfl) ?_
    refine va_get (D := (dC, dI)) (ci := 6) (v := .ref q0_by) (C := R_Mod) (T := F_Mod) (N := 27) hx hb hts i_Mod hown hK hP 0 rfl rfl 5 (by decide) (hts _ wm_628) (fun _ h9 => h9) rfl d_Mod_isIn_29 ?_
    refine lv_iload_n hx hb d_Mod_isIn_32 rfl (lv_at hl 1 rfl) ?_
    have b_6 : vp_in y1 n0_by := fun z => by rw [if_pos z] at hf; cases hf
    have hf := (if_neg b_6).symm.trans hf
    refine va_iald hx hb hK hP 3 0 rfl rfl b_6 d_Mod_isIn_33 ?_
    refine lv_iload_n hx hb d_Mod_isIn_34 rfl (lv_at hl 2 rfl) ?_
    refine lv_iload_n hx hb d_Mod_isIn_35 rfl (lv_at hl 3 rfl) ?_
    obtain ⟨r_7, e_7, hf⟩ := ob1_some hf
    refine dc_call (wc := []) (wr := [(a0, .inr (6, [.int v0_thrown, .int v0_pieces, .ref q0_ax, .ref q0_ay, .ref q0_bx, .ref q0_by, .ref a0_marks, .ref a0_ways, .ref a0_gone, .int v0_planned, .int v0_corners, .int v0_polygons, .ref a0_plan, .ref a0_xs, .ref a0_ys, .long v0_twice, .int v0_length, .ref a0_wayX, .ref a0_wayY, .int v0_rings, .ref a0_first, .ref a0_size, .ref a0_areas, .ref a0_owner, .int v0_places, .ref a0_rx, .ref a0_ry])), (q0_ax, .inl (cI.1, n0_ax, .inl f0_ax)), (q0_bx, .inl (cI.1, n0_bx, .inl f0_bx)), (q0_by, .inl (cI.1, n0_by, .inl f0_by)), (q0_ay, .inl (cI.1, n0_ay, .inl f0_ay))]) [] [0, 1, 2, 3, 4] hP hD hS hA rfl rfl rfl rfl rfl (fun hPc hDc => va_runS (As := [.int (f0_ax y1.toNatClampNeg), .int (f0_ay y1.toNatClampNeg), .int (f0_bx y1.toNatClampNeg), .int (f0_by y1.toNatClampNeg), .int y2, .int y3]) (rest := []) ⟨hx, hb, hml, hown, hts⟩ (c_Mod_side l dC dI cI (f0_ax y1.toNatClampNeg) (f0_ay y1.toNatClampNeg) (f0_bx y1.toNatClampNeg) (f0_by y1.toNatClampNeg) y2 y3 r_7 H.size e_7) (va_cwS 6 hts (gS wm_747 wm_748 wm_7 wm_749) rfl rfl rfl (by decide +kernel) ⟨Nat.le_of_ble_eq_true rfl, Nat.le_of_ble_eq_true rfl⟩) (dc_preS hK hN hPc hDc) rfl rfl hl.1 rfl (lv_room (Nat.le_of_ble_eq_true rfl)) d_Mod_isIn_36 ⟨Nat.le_refl _, Nat.le_refl _⟩) (fun x_7 H locs hp_7 hP hD hS => ?_)
    have hP : va_P (dC, dI) vwCl [(a0, .inr (6, [.int v0_thrown, .int v0_pieces, .ref q0_ax, .ref q0_ay, .ref q0_bx, .ref q0_by, .ref a0_marks, .ref a0_ways, .ref a0_gone, .int v0_planned, .int v0_corners, .int v0_polygons, .ref a0_plan, .ref a0_xs, .ref a0_ys, .long v0_twice, .int v0_length, .ref a0_wayX, .ref a0_wayY, .int v0_rings, .ref a0_first, .ref a0_size, .ref a0_areas, .ref a0_owner, .int v0_places, .ref a0_rx, .ref a0_ry])), (q0_ax, .inl (cI.1, n0_ax, .inl f0_ax)), (q0_bx, .inl (cI.1, n0_bx, .inl f0_bx)), (q0_by, .inl (cI.1, n0_by, .inl f0_by)), (q0_ay, .inl (cI.1, n0_ay, .inl f0_ay))] H := hP
    have hD : va_D A [(a0, .inr (6, [.int v0_thrown, .int v0_pieces, .ref q0_ax, .ref q0_ay, .ref q0_bx, .ref q0_by, .ref a0_marks, .ref a0_ways, .ref a0_gone, .int v0_planned, .int v0_corners, .int v0_polygons, .ref a0_plan, .ref a0_xs, .ref a0_ys, .long v0_twice, .int v0_length, .ref a0_wayX, .ref a0_wayY, .int v0_rings, .ref a0_first, .ref a0_size, .ref a0_areas, .ref a0_owner, .int v0_places, .ref a0_rx, .ref a0_ry])), (q0_ax, .inl (cI.1, n0_ax, .inl f0_ax)), (q0_bx, .inl (cI.1, n0_bx, .inl f0_bx)), (q0_by, .inl (cI.1, n0_by, .inl f0_by)), (q0_ay, .inl (cI.1, n0_ay, .inl f0_ay))] := hD
    refine lv_if_ne (tgt := 84) hx hb d_Mod_isIn_39 (by decide) (fun c_8 => ?_) (fun c_8 => ?_)
    · have hf := (if_neg c_8).symm.trans hf
      refine lv_iconst (v := 0) hx hb d_Mod_isIn_84 (by decide) ?_
      have hg0 := Option.some.inj hf
      subst hg0
      have hP9 : va_P (dC, dI) vwCl [(a0, .inr (6, [.int v0_thrown, .int v0_pieces, .ref q0_ax, .ref q0_ay, .ref q0_bx, .ref q0_by, .ref a0_marks, .ref a0_ways, .ref a0_gone, .int v0_planned, .int v0_corners, .int v0_polygons, .ref a0_plan, .ref a0_xs, .ref a0_ys, .long v0_twice, .int v0_length, .ref a0_wayX, .ref a0_wayY, .int v0_rings, .ref a0_first, .ref a0_size, .ref a0_areas, .ref a0_owner, .int v0_places, .ref a0_rx, .ref a0_ry])), (q0_ax, .inl (cI.1, n0_ax, .inl f0_ax)), (q0_bx, .inl (cI.1, n0_bx, .inl f0_bx)), (q0_by, .inl (cI.1, n0_by, .inl f0_by)), (q0_ay, .inl (cI.1, n0_ay, .inl f0_ay))] H := hP.sub [0, 1, 2, 3, 4] rfl
      have hD9 : va_D A [(a0, .inr (6, [.int v0_thrown, .int v0_pieces, .ref q0_ax, .ref q0_ay, .ref q0_bx, .ref q0_by, .ref a0_marks, .ref a0_ways, .ref a0_gone, .int v0_planned, .int v0_corners, .int v0_polygons, .ref a0_plan, .ref a0_xs, .ref a0_ys, .long v0_twice, .int v0_length, .ref a0_wayX, .ref a0_wayY, .int v0_rings, .ref a0_first, .ref a0_size, .ref a0_areas, .ref a0_owner, .int v0_places, .ref a0_rx, .ref a0_ry])), (q0_ax, .inl (cI.1, n0_ax, .inl f0_ax)), (q0_bx, .inl (cI.1, n0_bx, .inl f0_bx)), (q0_by, .inl (cI.1, n0_by, .inl f0_by)), (q0_ay, .inl (cI.1, n0_ay, .inl f0_ay))] := hD.sub [0, 1, 2, 3, 4] rfl rfl
      exact W.zret (v := (0 : Int32)) hx hb hr (nw_b false) (fun t ht hW => ⟨⟨rfl, (), trivial, by rw [ht]; exact hP9, hD9⟩, hS.F ht⟩) hS.2.2 d_Mod_isIn_85
    · have hf := (if_pos c_8).symm.trans hf
      refine lv_iload_n hx hb d_Mod_isIn_42 rfl (lv_at hl 2 rfl) ?_
      refine lv_aload_n hx hb d_Mod_isIn_43 rfl (lv_at hl 0 rfl) ?_
      refine va_get (D := (dC, dI)) (ci := 6) (v := .ref q0_ax) (C := R_Mod) (T := F_Mod) (N := 27) hx hb hts i_Mod hown hK hP 0 rfl rfl 2 (by decide) (hts _ wm_625) (fun _ h9 => h9) rfl d_Mod_isIn_44 ?_
      refine lv_iload_n hx hb d_Mod_isIn_47 rfl (lv_at hl 1 rfl) ?_
      have b_9 : vp_in y1 n0_ax := fun z => by rw [if_pos z] at hf; cases hf
      have hf := (if_neg b_9).symm.trans hf
      refine va_iald hx hb hK hP 1 0 rfl rfl b_9 d_Mod_isIn_48 ?_
      refine lv_aload_n hx hb d_Mod_isIn_49 rfl (lv_at hl 0 rfl) ?_
      refine va_get (D := (dC, dI)) (ci := 6) (v := .ref q0_bx) (C := R_Mod) (T := F_Mod) (N := 27) hx hb hts i_Mod hown hK hP 0 rfl rfl 4 (by decide) (hts _ wm_627) (fun _ h9 => h9) rfl d_Mod_isIn_50 ?_
      refine lv_iload_n hx hb d_Mod_isIn_53 rfl (lv_at hl 1 rfl) ?_
      have b_10 : vp_in y1 n0_bx := fun z => by rw [if_pos z] at hf; cases hf
      have hf := (if_neg b_10).symm.trans hf
      refine va_iald hx hb hK hP 2 0 rfl rfl b_10 d_Mod_isIn_54 ?_
      obtain ⟨r_11, e_11, hf⟩ := ob1_some hf
      refine dc_call (wc := []) (wr := [(a0, .inr (6, [.int v0_thrown, .int v0_pieces, .ref q0_ax, .ref q0_ay, .ref q0_bx, .ref q0_by, .ref a0_marks, .ref a0_ways, .ref a0_gone, .int v0_planned, .int v0_corners, .int v0_polygons, .ref a0_plan, .ref a0_xs, .ref a0_ys, .long v0_twice, .int v0_length, .ref a0_wayX, .ref a0_wayY, .int v0_rings, .ref a0_first, .ref a0_size, .ref a0_areas, .ref a0_owner, .int v0_places, .ref a0_rx, .ref a0_ry])), (q0_ax, .inl (cI.1, n0_ax, .inl f0_ax)), (q0_bx, .inl (cI.1, n0_bx, .inl f0_bx)), (q0_by, .inl (cI.1, n0_by, .inl f0_by)), (q0_ay, .inl (cI.1, n0_ay, .inl f0_ay))]) [] [0, 1, 2, 3, 4] hP hD hS hA rfl rfl rfl rfl rfl (fun hPc hDc => va_runS (As := [.int y2, .int (f0_ax y1.toNatClampNeg), .int (f0_bx y1.toNatClampNeg)]) (rest := []) ⟨hx, hb, hml, hown, hts⟩ (c_Mod_between l dC dI cI y2 (f0_ax y1.toNatClampNeg) (f0_bx y1.toNatClampNeg) r_11 H.size e_11) (va_cwS 3 hts (gS wm_756 wm_757 wm_7 wm_758) rfl rfl rfl (by decide +kernel) ⟨Nat.le_of_ble_eq_true rfl, Nat.le_of_ble_eq_true rfl⟩) (dc_preS hK hN hPc hDc) rfl rfl hl.1 rfl (lv_room (Nat.le_of_ble_eq_true rfl)) d_Mod_isIn_55 ⟨Nat.le_refl _, Nat.le_refl _⟩) (fun x_11 H locs hp_11 hP hD hS => ?_)
      have hP : va_P (dC, dI) vwCl [(a0, .inr (6, [.int v0_thrown, .int v0_pieces, .ref q0_ax, .ref q0_ay, .ref q0_bx, .ref q0_by, .ref a0_marks, .ref a0_ways, .ref a0_gone, .int v0_planned, .int v0_corners, .int v0_polygons, .ref a0_plan, .ref a0_xs, .ref a0_ys, .long v0_twice, .int v0_length, .ref a0_wayX, .ref a0_wayY, .int v0_rings, .ref a0_first, .ref a0_size, .ref a0_areas, .ref a0_owner, .int v0_places, .ref a0_rx, .ref a0_ry])), (q0_ax, .inl (cI.1, n0_ax, .inl f0_ax)), (q0_bx, .inl (cI.1, n0_bx, .inl f0_bx)), (q0_by, .inl (cI.1, n0_by, .inl f0_by)), (q0_ay, .inl (cI.1, n0_ay, .inl f0_ay))] H := hP
      have hD : va_D A [(a0, .inr (6, [.int v0_thrown, .int v0_pieces, .ref q0_ax, .ref q0_ay, .ref q0_bx, .ref q0_by, .ref a0_marks, .ref a0_ways, .ref a0_gone, .int v0_planned, .int v0_corners, .int v0_polygons, .ref a0_plan, .ref a0_xs, .ref a0_ys, .long v0_twice, .int v0_length, .ref a0_wayX, .ref a0_wayY, .int v0_rings, .ref a0_first, .ref a0_size, .ref a0_areas, .ref a0_owner, .int v0_places, .ref a0_rx, .ref a0_ry])), (q0_ax, .inl (cI.1, n0_ax, .inl f0_ax)), (q0_bx, .inl (cI.1, n0_bx, .inl f0_bx)), (q0_by, .inl (cI.1, n0_by, .inl f0_by)), (q0_ay, .inl (cI.1, n0_ay, .inl f0_ay))] := hD
      refine lv_if_eq (tgt := 84) hx hb d_Mod_isIn_58 (by decide) (fun c_12 => ?_) (fun c_12 => ?_)
      · have hf := (if_pos c_12).symm.trans hf
        refine lv_iconst (v := 0) hx hb d_Mod_isIn_84 (by decide) ?_
        have hg0 := Option.some.inj hf
        subst hg0
        have hP9 : va_P (dC, dI) vwCl [(a0, .inr (6, [.int v0_thrown, .int v0_pieces, .ref q0_ax, .ref q0_ay, .ref q0_bx, .ref q0_by, .ref a0_marks, .ref a0_ways, .ref a0_gone, .int v0_planned, .int v0_corners, .int v0_polygons, .ref a0_plan, .ref a0_xs, .ref a0_ys, .long v0_twice, .int v0_length, .ref a0_wayX, .ref a0_wayY, .int v0_rings, .ref a0_first, .ref a0_size, .ref a0_areas, .ref a0_owner, .int v0_places, .ref a0_rx, .ref a0_ry])), (q0_ax, .inl (cI.1, n0_ax, .inl f0_ax)), (q0_bx, .inl (cI.1, n0_bx, .inl f0_bx)), (q0_by, .inl (cI.1, n0_by, .inl f0_by)), (q0_ay, .inl (cI.1, n0_ay, .inl f0_ay))] H := hP.sub [0, 1, 2, 3, 4] rfl
        have hD9 : va_D A [(a0, .inr (6, [.int v0_thrown, .int v0_pieces, .ref q0_ax, .ref q0_ay, .ref q0_bx, .ref q0_by, .ref a0_marks, .ref a0_ways, .ref a0_gone, .int v0_planned, .int v0_corners, .int v0_polygons, .ref a0_plan, .ref a0_xs, .ref a0_ys, .long v0_twice, .int v0_length, .ref a0_wayX, .ref a0_wayY, .int v0_rings, .ref a0_first, .ref a0_size, .ref a0_areas, .ref a0_owner, .int v0_places, .ref a0_rx, .ref a0_ry])), (q0_ax, .inl (cI.1, n0_ax, .inl f0_ax)), (q0_bx, .inl (cI.1, n0_bx, .inl f0_bx)), (q0_by, .inl (cI.1, n0_by, .inl f0_by)), (q0_ay, .inl (cI.1, n0_ay, .inl f0_ay))] := hD.sub [0, 1, 2, 3, 4] rfl rfl
        exact W.zret (v := (0 : Int32)) hx hb hr (nw_b false) (fun t ht hW => ⟨⟨rfl, (), trivial, by rw [ht]; exact hP9, hD9⟩, hS.F ht⟩) hS.2.2 d_Mod_isIn_85
      · have hf := (if_neg c_12).symm.trans hf
        refine lv_iload_n hx hb d_Mod_isIn_61 rfl (lv_at hl 3 rfl) ?_
        refine lv_aload_n hx hb d_Mod_isIn_62 rfl (lv_at hl 0 rfl) ?_
        refine va_get (D := (dC, dI)) (ci := 6) (v := .ref q0_ay) (C := R_Mod) (T := F_Mod) (N := 27) hx hb hts i_Mod hown hK hP 0 rfl rfl 3 (by decide) (hts _ wm_626) (fun _ h9 => h9) rfl d_Mod_isIn_63 ?_
        refine lv_iload_n hx hb d_Mod_isIn_66 rfl (lv_at hl 1 rfl) ?_
        have b_13 : vp_in y1 n0_ay := fun z => by rw [if_pos z] at hf; cases hf
        have hf := (if_neg b_13).symm.trans hf
        refine va_iald hx hb hK hP 4 0 rfl rfl b_13 d_Mod_isIn_67 ?_
        refine lv_aload_n hx hb d_Mod_isIn_68 rfl (lv_at hl 0 rfl) ?_
        refine va_get (D := (dC, dI)) (ci := 6) (v := .ref q0_by) (C := R_Mod) (T := F_Mod) (N := 27) hx hb hts i_Mod hown hK hP 0 rfl rfl 5 (by decide) (hts _ wm_628) (fun _ h9 => h9) rfl d_Mod_isIn_69 ?_
        refine lv_iload_n hx hb d_Mod_isIn_72 rfl (lv_at hl 1 rfl) ?_
        have b_14 : vp_in y1 n0_by := fun z => by rw [if_pos z] at hf; cases hf
        have hf := (if_neg b_14).symm.trans hf
        refine va_iald hx hb hK hP 3 0 rfl rfl b_14 d_Mod_isIn_73 ?_
        obtain ⟨r_15, e_15, hf⟩ := ob1_some hf
        refine dc_call (wc := []) (wr := [(a0, .inr (6, [.int v0_thrown, .int v0_pieces, .ref q0_ax, .ref q0_ay, .ref q0_bx, .ref q0_by, .ref a0_marks, .ref a0_ways, .ref a0_gone, .int v0_planned, .int v0_corners, .int v0_polygons, .ref a0_plan, .ref a0_xs, .ref a0_ys, .long v0_twice, .int v0_length, .ref a0_wayX, .ref a0_wayY, .int v0_rings, .ref a0_first, .ref a0_size, .ref a0_areas, .ref a0_owner, .int v0_places, .ref a0_rx, .ref a0_ry])), (q0_ax, .inl (cI.1, n0_ax, .inl f0_ax)), (q0_bx, .inl (cI.1, n0_bx, .inl f0_bx)), (q0_by, .inl (cI.1, n0_by, .inl f0_by)), (q0_ay, .inl (cI.1, n0_ay, .inl f0_ay))]) [] [0, 1, 2, 3, 4] hP hD hS hA rfl rfl rfl rfl rfl (fun hPc hDc => va_runS (As := [.int y3, .int (f0_ay y1.toNatClampNeg), .int (f0_by y1.toNatClampNeg)]) (rest := []) ⟨hx, hb, hml, hown, hts⟩ (c_Mod_between l dC dI cI y3 (f0_ay y1.toNatClampNeg) (f0_by y1.toNatClampNeg) r_15 H.size e_15) (va_cwS 3 hts (gS wm_756 wm_757 wm_7 wm_758) rfl rfl rfl (by decide +kernel) ⟨Nat.le_of_ble_eq_true rfl, Nat.le_of_ble_eq_true rfl⟩) (dc_preS hK hN hPc hDc) rfl rfl hl.1 rfl (lv_room (Nat.le_of_ble_eq_true rfl)) d_Mod_isIn_74 ⟨Nat.le_refl _, Nat.le_refl _⟩) (fun x_15 H locs hp_15 hP hD hS => ?_)
        have hP : va_P (dC, dI) vwCl [(a0, .inr (6, [.int v0_thrown, .int v0_pieces, .ref q0_ax, .ref q0_ay, .ref q0_bx, .ref q0_by, .ref a0_marks, .ref a0_ways, .ref a0_gone, .int v0_planned, .int v0_corners, .int v0_polygons, .ref a0_plan, .ref a0_xs, .ref a0_ys, .long v0_twice, .int v0_length, .ref a0_wayX, .ref a0_wayY, .int v0_rings, .ref a0_first, .ref a0_size, .ref a0_areas, .ref a0_owner, .int v0_places, .ref a0_rx, .ref a0_ry])), (q0_ax, .inl (cI.1, n0_ax, .inl f0_ax)), (q0_bx, .inl (cI.1, n0_bx, .inl f0_bx)), (q0_by, .inl (cI.1, n0_by, .inl f0_by)), (q0_ay, .inl (cI.1, n0_ay, .inl f0_ay))] H := hP
        have hD : va_D A [(a0, .inr (6, [.int v0_thrown, .int v0_pieces, .ref q0_ax, .ref q0_ay, .ref q0_bx, .ref q0_by, .ref a0_marks, .ref a0_ways, .ref a0_gone, .int v0_planned, .int v0_corners, .int v0_polygons, .ref a0_plan, .ref a0_xs, .ref a0_ys, .long v0_twice, .int v0_length, .ref a0_wayX, .ref a0_wayY, .int v0_rings, .ref a0_first, .ref a0_size, .ref a0_areas, .ref a0_owner, .int v0_places, .ref a0_rx, .ref a0_ry])), (q0_ax, .inl (cI.1, n0_ax, .inl f0_ax)), (q0_bx, .inl (cI.1, n0_bx, .inl f0_bx)), (q0_by, .inl (cI.1, n0_by, .inl f0_by)), (q0_ay, .inl (cI.1, n0_ay, .inl f0_ay))] := hD
        refine lv_if_eq (tgt := 84) hx hb d_Mod_isIn_77 (by decide) (fun c_16 => ?_) (fun c_16 => ?_)
        · have hf := (if_pos c_16).symm.trans hf
          refine lv_iconst (v := 0) hx hb d_Mod_isIn_84 (by decide) ?_
          have hg0 := Option.some.inj hf
          subst hg0
          have hP9 : va_P (dC, dI) vwCl [(a0, .inr (6, [.int v0_thrown, .int v0_pieces, .ref q0_ax, .ref q0_ay, .ref q0_bx, .ref q0_by, .ref a0_marks, .ref a0_ways, .ref a0_gone, .int v0_planned, .int v0_corners, .int v0_polygons, .ref a0_plan, .ref a0_xs, .ref a0_ys, .long v0_twice, .int v0_length, .ref a0_wayX, .ref a0_wayY, .int v0_rings, .ref a0_first, .ref a0_size, .ref a0_areas, .ref a0_owner, .int v0_places, .ref a0_rx, .ref a0_ry])), (q0_ax, .inl (cI.1, n0_ax, .inl f0_ax)), (q0_bx, .inl (cI.1, n0_bx, .inl f0_bx)), (q0_by, .inl (cI.1, n0_by, .inl f0_by)), (q0_ay, .inl (cI.1, n0_ay, .inl f0_ay))] H := hP.sub [0, 1, 2, 3, 4] rfl
          have hD9 : va_D A [(a0, .inr (6, [.int v0_thrown, .int v0_pieces, .ref q0_ax, .ref q0_ay, .ref q0_bx, .ref q0_by, .ref a0_marks, .ref a0_ways, .ref a0_gone, .int v0_planned, .int v0_corners, .int v0_polygons, .ref a0_plan, .ref a0_xs, .ref a0_ys, .long v0_twice, .int v0_length, .ref a0_wayX, .ref a0_wayY, .int v0_rings, .ref a0_first, .ref a0_size, .ref a0_areas, .ref a0_owner, .int v0_places, .ref a0_rx, .ref a0_ry])), (q0_ax, .inl (cI.1, n0_ax, .inl f0_ax)), (q0_bx, .inl (cI.1, n0_bx, .inl f0_bx)), (q0_by, .inl (cI.1, n0_by, .inl f0_by)), (q0_ay, .inl (cI.1, n0_ay, .inl f0_ay))] := hD.sub [0, 1, 2, 3, 4] rfl rfl
          exact W.zret (v := (0 : Int32)) hx hb hr (nw_b false) (fun t ht hW => ⟨⟨rfl, (), trivial, by rw [ht]; exact hP9, hD9⟩, hS.F ht⟩) hS.2.2 d_Mod_isIn_85
        · have hf := (if_neg c_16).symm.trans hf
          refine lv_iconst (v := 1) hx hb d_Mod_isIn_80 (by decide) ?_
          refine lv_goto (tgt := 85) hx hb d_Mod_isIn_81 (by decide) ?_
          have hg0 := Option.some.inj hf
          subst hg0
          have hP9 : va_P (dC, dI) vwCl [(a0, .inr (6, [.int v0_thrown, .int v0_pieces, .ref q0_ax, .ref q0_ay, .ref q0_bx, .ref q0_by, .ref a0_marks, .ref a0_ways, .ref a0_gone, .int v0_planned, .int v0_corners, .int v0_polygons, .ref a0_plan, .ref a0_xs, .ref a0_ys, .long v0_twice, .int v0_length, .ref a0_wayX, .ref a0_wayY, .int v0_rings, .ref a0_first, .ref a0_size, .ref a0_areas, .ref a0_owner, .int v0_places, .ref a0_rx, .ref a0_ry])), (q0_ax, .inl (cI.1, n0_ax, .inl f0_ax)), (q0_bx, .inl (cI.1, n0_bx, .inl f0_bx)), (q0_by, .inl (cI.1, n0_by, .inl f0_by)), (q0_ay, .inl (cI.1, n0_ay, .inl f0_ay))] H := hP.sub [0, 1, 2, 3, 4] rfl
          have hD9 : va_D A [(a0, .inr (6, [.int v0_thrown, .int v0_pieces, .ref q0_ax, .ref q0_ay, .ref q0_bx, .ref q0_by, .ref a0_marks, .ref a0_ways, .ref a0_gone, .int v0_planned, .int v0_corners, .int v0_polygons, .ref a0_plan, .ref a0_xs, .ref a0_ys, .long v0_twice, .int v0_length, .ref a0_wayX, .ref a0_wayY, .int v0_rings, .ref a0_first, .ref a0_size, .ref a0_areas, .ref a0_owner, .int v0_places, .ref a0_rx, .ref a0_ry])), (q0_ax, .inl (cI.1, n0_ax, .inl f0_ax)), (q0_bx, .inl (cI.1, n0_bx, .inl f0_bx)), (q0_by, .inl (cI.1, n0_by, .inl f0_by)), (q0_ay, .inl (cI.1, n0_ay, .inl f0_ay))] := hD.sub [0, 1, 2, 3, 4] rfl rfl
          exact W.zret (v := (1 : Int32)) hx hb hr (nw_b true) (fun t ht hW => ⟨⟨rfl, (), trivial, by rw [ht]; exact hP9, hD9⟩, hS.F ht⟩) hS.2.2 d_Mod_isIn_85
def f_Mod_isIn (n0_ax : Nat) (f0_ax : Nat → Int32) (n0_bx : Nat) (f0_bx : Nat → Int32) (n0_by : Nat) (f0_by : Nat → Int32) (n0_ay : Nat) (f0_ay : Nat → Int32) (y1 : Int32) (y2 : Int32) (y3 : Int32) : Option (Bool) :=
  b_Mod_isIn_0 n0_ax f0_ax n0_bx f0_bx n0_by f0_by n0_ay f0_ay y1 y2 y3 
set_option maxHeartbeats 4000000 in
set_option maxRecDepth 100000 in
theorem c_Mod_isIn (l : Launch) (dC : Nat → ClassId) (dI : Nat → Nat → Nat) (cI : dcG) (a0 : Nat) (a0_marks : Nat) (a0_ways : Nat) (a0_gone : Nat) (a0_plan : Nat) (a0_xs : Nat) (a0_ys : Nat) (a0_wayX : Nat) (a0_wayY : Nat) (a0_first : Nat) (a0_size : Nat) (a0_areas : Nat) (a0_owner : Nat) (a0_rx : Nat) (a0_ry : Nat) (v0_thrown : Int32) (v0_pieces : Int32) (v0_planned : Int32) (v0_corners : Int32) (v0_polygons : Int32) (v0_twice : Int64) (v0_length : Int32) (v0_rings : Int32) (v0_places : Int32) (q0_ax : Nat) (n0_ax : Nat) (f0_ax : Nat → Int32) (q0_bx : Nat) (n0_bx : Nat) (f0_bx : Nat → Int32) (q0_by : Nat) (n0_by : Nat) (f0_by : Nat → Int32) (q0_ay : Nat) (n0_ay : Nat) (f0_ay : Nat → Int32) (y1 : Int32) (y2 : Int32) (y3 : Int32) (rv : Bool) (sz : Nat) (hf : f_Mod_isIn n0_ax f0_ax n0_bx f0_bx n0_by f0_by n0_ay f0_ay y1 y2 y3 = some rv) : Met l y_Mod_isIn w_Mod_isIn { frames := 2, cells := 0, slots := 0, locals := 52 } (dc_Pre (dC, dI) (dcT cI) [(a0, .inr (6, [.int v0_thrown, .int v0_pieces, .ref q0_ax, .ref q0_ay, .ref q0_bx, .ref q0_by, .ref a0_marks, .ref a0_ways, .ref a0_gone, .int v0_planned, .int v0_corners, .int v0_polygons, .ref a0_plan, .ref a0_xs, .ref a0_ys, .long v0_twice, .int v0_length, .ref a0_wayX, .ref a0_wayY, .int v0_rings, .ref a0_first, .ref a0_size, .ref a0_areas, .ref a0_owner, .int v0_places, .ref a0_rx, .ref a0_ry])), (q0_ax, .inl (cI.1, n0_ax, .inl f0_ax)), (q0_bx, .inl (cI.1, n0_bx, .inl f0_bx)), (q0_by, .inl (cI.1, n0_by, .inl f0_by)), (q0_ay, .inl (cI.1, n0_ay, .inl f0_ay))] sz [.ref a0, .int y1, .int y2, .int y3]) (dc_Q (dC, dI) (some (.int (bI rv))) (fun x : Unit => True) (fun x => [(a0, .inr (6, [.int v0_thrown, .int v0_pieces, .ref q0_ax, .ref q0_ay, .ref q0_bx, .ref q0_by, .ref a0_marks, .ref a0_ways, .ref a0_gone, .int v0_planned, .int v0_corners, .int v0_polygons, .ref a0_plan, .ref a0_xs, .ref a0_ys, .long v0_twice, .int v0_length, .ref a0_wayX, .ref a0_wayY, .int v0_rings, .ref a0_first, .ref a0_size, .ref a0_areas, .ref a0_owner, .int v0_places, .ref a0_rx, .ref a0_ry])), (q0_ax, .inl (cI.1, n0_ax, .inl f0_ax)), (q0_bx, .inl (cI.1, n0_bx, .inl f0_bx)), (q0_by, .inl (cI.1, n0_by, .inl f0_by)), (q0_ay, .inl (cI.1, n0_ay, .inl f0_ay))]) (va_A [(a0, .inr (6, [.int v0_thrown, .int v0_pieces, .ref q0_ax, .ref q0_ay, .ref q0_bx, .ref q0_by, .ref a0_marks, .ref a0_ways, .ref a0_gone, .int v0_planned, .int v0_corners, .int v0_polygons, .ref a0_plan, .ref a0_xs, .ref a0_ys, .long v0_twice, .int v0_length, .ref a0_wayX, .ref a0_wayY, .int v0_rings, .ref a0_first, .ref a0_size, .ref a0_areas, .ref a0_owner, .int v0_places, .ref a0_rx, .ref a0_ry])), (q0_ax, .inl (cI.1, n0_ax, .inl f0_ax)), (q0_bx, .inl (cI.1, n0_bx, .inl f0_bx)), (q0_by, .inl (cI.1, n0_by, .inl f0_by)), (q0_ay, .inl (cI.1, n0_ay, .inl f0_ay))] sz)) 0 0 (va_A [(a0, .inr (6, [.int v0_thrown, .int v0_pieces, .ref q0_ax, .ref q0_ay, .ref q0_bx, .ref q0_by, .ref a0_marks, .ref a0_ways, .ref a0_gone, .int v0_planned, .int v0_corners, .int v0_polygons, .ref a0_plan, .ref a0_xs, .ref a0_ys, .long v0_twice, .int v0_length, .ref a0_wayX, .ref a0_wayY, .int v0_rings, .ref a0_first, .ref a0_size, .ref a0_areas, .ref a0_owner, .int v0_places, .ref a0_rx, .ref a0_ry])), (q0_ax, .inl (cI.1, n0_ax, .inl f0_ax)), (q0_bx, .inl (cI.1, n0_bx, .inl f0_bx)), (q0_by, .inl (cI.1, n0_by, .inl f0_by)), (q0_ay, .inl (cI.1, n0_ay, .inl f0_ay))] sz) := by
  refine Met.ofW (cc := prog_9_method_12_code) (maxL := 4) (ret := (some .boolean)) (by decide) rfl ?_
  intro p e s m args below meth c s₁ B hml hv
  obtain ⟨rfl, hsz, hP, hK, hD0, hN⟩ := hv
  have C0 : dc_At p s m [.ref a0, .int y1, .int y2, .int y3].toArray meth c prog_9_method_12_code 4 R_Mod (some .boolean) := ⟨B.exec, B.bytes, hml, findClass_of_methodNamed B.named, fun w h => atoms_spec (ws := w_Mod_isIn) B.pre w (List.mem_cons_of_mem _ h), B.returns, B.notSynchronized, hN⟩
  subst hsz
  have hD := hD0.self (sz := s.heap.size)
  generalize hAe : va_A [(a0, .inr (6, [.int v0_thrown, .int v0_pieces, .ref q0_ax, .ref q0_ay, .ref q0_bx, .ref q0_by, .ref a0_marks, .ref a0_ways, .ref a0_gone, .int v0_planned, .int v0_corners, .int v0_polygons, .ref a0_plan, .ref a0_xs, .ref a0_ys, .long v0_twice, .int v0_length, .ref a0_wayX, .ref a0_wayY, .int v0_rings, .ref a0_first, .ref a0_size, .ref a0_areas, .ref a0_owner, .int v0_places, .ref a0_rx, .ref a0_ry])), (q0_ax, .inl (cI.1, n0_ax, .inl f0_ax)), (q0_bx, .inl (cI.1, n0_bx, .inl f0_bx)), (q0_by, .inl (cI.1, n0_by, .inl f0_by)), (q0_ay, .inl (cI.1, n0_ay, .inl f0_ay))] s.heap.size = A at hD ⊢
  have hA : ∀ q : Nat, s.heap.size ≤ q → A q := fun q h => by rw [← hAe]; exact Or.inr h
  have hl := lv_entry ([.ref a0, .int y1, .int y2, .int y3]) (n := 4) (Nat.le_of_ble_eq_true rfl)
  rw [lg_entry_eq]
  generalize (lg_sl ([.ref a0, .int y1, .int y2, .int y3]) ++ List.replicate (4 - (lg_sl ([.ref a0, .int y1, .int y2, .int y3])).length) Slot.unset).toArray = ls at hl ⊢
  exact s_Mod_isIn_0 p l e s m _ below meth c dC dI cI A a0 a0_marks a0_ways a0_gone a0_plan a0_xs a0_ys a0_wayX a0_wayY a0_first a0_size a0_areas a0_owner a0_rx a0_ry v0_thrown v0_pieces v0_planned v0_corners v0_polygons v0_twice v0_length v0_rings v0_places q0_ax n0_ax f0_ax q0_bx n0_bx f0_bx q0_by n0_by f0_by q0_ay n0_ay f0_ay y1 y2 y3 rv C0 hK hA  hf s.heap [] hP hD va_S.rf ls (lv_sub hl [0, 1, 2, 3] rfl)
