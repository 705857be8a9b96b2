def T_Mod_right_208 (p : Program) (l : Launch) (e : Env) (s : State) (m : MethodId) (args : Array Value) (below : List Frame) (meth : Method) (c : Code) (dC : Nat → ClassId) (dI : Nat → Nat → Nat) (cI : dcG) (A : Nat → Prop) (a0 : Nat) (a0_ways : Nat) (a0_gone : Nat) (a0_plan : Nat) (a0_xs : Nat) (a0_ys : Nat) (a0_wayX : Nat) (a0_wayY : Nat) (a0_first : Nat) (a0_size : Nat) (a0_areas : Nat) (a0_owner : Nat) (a0_rx : Nat) (a0_ry : Nat) (v0_thrown : Int32) (v0_pieces : Int32) (v0_planned : Int32) (v0_corners : Int32) (v0_polygons : Int32) (v0_twice : Int64) (v0_length : Int32) (v0_rings : Int32) (v0_places : Int32) (q0_ax : Nat) (n0_ax : Nat) (f0_ax : Nat → Int32) (q0_bx : Nat) (n0_bx : Nat) (f0_bx : Nat → Int32) (q0_ay : Nat) (n0_ay : Nat) (f0_ay : Nat → Int32) (q0_by : Nat) (n0_by : Nat) (f0_by : Nat → Int32) (q0_marks : Nat) (n0_marks : Nat) (f0_marks : Nat → Int32) (y1 : Int32) (rv : Int32) (g : Int64 → Int64 → Int32 → Int32 → Option (Int32)) : Prop :=
  ∀ (x2 : Int64) (x4 : Int64) (x6 : Int32) (x7 : Int32), g x2 x4 x6 x7 = some rv → 
  ∀ (H : Heap) (locs : List Loc), va_P (dC, dI) vwCl [(a0, .inr (6, [.int v0_thrown, .int v0_pieces, .ref q0_ax, .ref q0_ay, .ref q0_bx, .ref q0_by, .ref q0_marks, .ref a0_ways, .ref a0_gone, .int v0_planned, .int v0_corners, .int v0_polygons, .ref a0_plan, .ref a0_xs, .ref a0_ys, .long v0_twice, .int v0_length, .ref a0_wayX, .ref a0_wayY, .int v0_rings, .ref a0_first, .ref a0_size, .ref a0_areas, .ref a0_owner, .int v0_places, .ref a0_rx, .ref a0_ry])), (q0_ax, .inl (cI.1, n0_ax, .inl f0_ax)), (q0_bx, .inl (cI.1, n0_bx, .inl f0_bx)), (q0_ay, .inl (cI.1, n0_ay, .inl f0_ay)), (q0_by, .inl (cI.1, n0_by, .inl f0_by)), (q0_marks, .inl (cI.1, n0_marks, .inl f0_marks))] H → va_D A [(a0, .inr (6, [.int v0_thrown, .int v0_pieces, .ref q0_ax, .ref q0_ay, .ref q0_bx, .ref q0_by, .ref q0_marks, .ref a0_ways, .ref a0_gone, .int v0_planned, .int v0_corners, .int v0_polygons, .ref a0_plan, .ref a0_xs, .ref a0_ys, .long v0_twice, .int v0_length, .ref a0_wayX, .ref a0_wayY, .int v0_rings, .ref a0_first, .ref a0_size, .ref a0_areas, .ref a0_owner, .int v0_places, .ref a0_rx, .ref a0_ry])), (q0_ax, .inl (cI.1, n0_ax, .inl f0_ax)), (q0_bx, .inl (cI.1, n0_bx, .inl f0_bx)), (q0_ay, .inl (cI.1, n0_ay, .inl f0_ay)), (q0_by, .inl (cI.1, n0_by, .inl f0_by)), (q0_marks, .inl (cI.1, n0_marks, .inl f0_marks))] → va_S A s.heap H locs → ∀ (ls : Array Slot), lv_has ls 12 [(0, .ref a0), (1, .int y1), (2, .long x2), (4, .long x4), (6, .int x6), (7, .int x7)] →
  W p l e { frames := 1, cells := 0, slots := 0, locals := 27 } s m args below meth c H locs 0 0 (MQ below (dc_Q (dC, dI) (some (.int rv)) (fun x : Unit => True) (fun x => [(a0, .inr (6, [.int v0_thrown, .int v0_pieces, .ref q0_ax, .ref q0_ay, .ref q0_bx, .ref q0_by, .ref q0_marks, .ref a0_ways, .ref a0_gone, .int v0_planned, .int v0_corners, .int v0_polygons, .ref a0_plan, .ref a0_xs, .ref a0_ys, .long v0_twice, .int v0_length, .ref a0_wayX, .ref a0_wayY, .int v0_rings, .ref a0_first, .ref a0_size, .ref a0_areas, .ref a0_owner, .int v0_places, .ref a0_rx, .ref a0_ry])), (q0_ax, .inl (cI.1, n0_ax, .inl f0_ax)), (q0_bx, .inl (cI.1, n0_bx, .inl f0_bx)), (q0_ay, .inl (cI.1, n0_ay, .inl f0_ay)), (q0_by, .inl (cI.1, n0_by, .inl f0_by)), (q0_marks, .inl (cI.1, n0_marks, .inl f0_marks))]) A) args s 0 0 A) (F0 m 208 ls [])
def T_Mod_right_191 (p : Program) (l : Launch) (e : Env) (s : State) (m : MethodId) (args : Array Value) (below : List Frame) (meth : Method) (c : Code) (dC : Nat → ClassId) (dI : Nat → Nat → Nat) (cI : dcG) (A : Nat → Prop) (a0 : Nat) (a0_ways : Nat) (a0_gone : Nat) (a0_plan : Nat) (a0_xs : Nat) (a0_ys : Nat) (a0_wayX : Nat) (a0_wayY : Nat) (a0_first : Nat) (a0_size : Nat) (a0_areas : Nat) (a0_owner : Nat) (a0_rx : Nat) (a0_ry : Nat) (v0_thrown : Int32) (v0_pieces : Int32) (v0_planned : Int32) (v0_corners : Int32) (v0_polygons : Int32) (v0_twice : Int64) (v0_length : Int32) (v0_rings : Int32) (v0_places : Int32) (q0_ax : Nat) (n0_ax : Nat) (f0_ax : Nat → Int32) (q0_bx : Nat) (n0_bx : Nat) (f0_bx : Nat → Int32) (q0_ay : Nat) (n0_ay : Nat) (f0_ay : Nat → Int32) (q0_by : Nat) (n0_by : Nat) (f0_by : Nat → Int32) (q0_marks : Nat) (n0_marks : Nat) (f0_marks : Nat → Int32) (y1 : Int32) (rv : Int32) (g : Int64 → Int64 → Int32 → Int32 → Int32 → Int32 → Option (Int32)) : Prop :=
  ∀ (x2 : Int64) (x4 : Int64) (x6 : Int32) (x7 : Int32) (x9 : Int32) (s0 : Int32), g x2 x4 x6 x7 x9 s0 = some rv → 
  ∀ (H : Heap) (locs : List Loc), va_P (dC, dI) vwCl [(a0, .inr (6, [.int v0_thrown, .int v0_pieces, .ref q0_ax, .ref q0_ay, .ref q0_bx, .ref q0_by, .ref q0_marks, .ref a0_ways, .ref a0_gone, .int v0_planned, .int v0_corners, .int v0_polygons, .ref a0_plan, .ref a0_xs, .ref a0_ys, .long v0_twice, .int v0_length, .ref a0_wayX, .ref a0_wayY, .int v0_rings, .ref a0_first, .ref a0_size, .ref a0_areas, .ref a0_owner, .int v0_places, .ref a0_rx, .ref a0_ry])), (q0_ax, .inl (cI.1, n0_ax, .inl f0_ax)), (q0_bx, .inl (cI.1, n0_bx, .inl f0_bx)), (q0_ay, .inl (cI.1, n0_ay, .inl f0_ay)), (q0_by, .inl (cI.1, n0_by, .inl f0_by)), (q0_marks, .inl (cI.1, n0_marks, .inl f0_marks))] H → va_D A [(a0, .inr (6, [.int v0_thrown, .int v0_pieces, .ref q0_ax, .ref q0_ay, .ref q0_bx, .ref q0_by, .ref q0_marks, .ref a0_ways, .ref a0_gone, .int v0_planned, .int v0_corners, .int v0_polygons, .ref a0_plan, .ref a0_xs, .ref a0_ys, .long v0_twice, .int v0_length, .ref a0_wayX, .ref a0_wayY, .int v0_rings, .ref a0_first, .ref a0_size, .ref a0_areas, .ref a0_owner, .int v0_places, .ref a0_rx, .ref a0_ry])), (q0_ax, .inl (cI.1, n0_ax, .inl f0_ax)), (q0_bx, .inl (cI.1, n0_bx, .inl f0_bx)), (q0_ay, .inl (cI.1, n0_ay, .inl f0_ay)), (q0_by, .inl (cI.1, n0_by, .inl f0_by)), (q0_marks, .inl (cI.1, n0_marks, .inl f0_marks))] → va_S A s.heap H locs → ∀ (ls : Array Slot), lv_has ls 12 [(0, .ref a0), (1, .int y1), (2, .long x2), (4, .long x4), (6, .int x6), (7, .int x7), (9, .int x9)] →
  W p l e { frames := 1, cells := 0, slots := 0, locals := 27 } s m args below meth c H locs 0 0 (MQ below (dc_Q (dC, dI) (some (.int rv)) (fun x : Unit => True) (fun x => [(a0, .inr (6, [.int v0_thrown, .int v0_pieces, .ref q0_ax, .ref q0_ay, .ref q0_bx, .ref q0_by, .ref q0_marks, .ref a0_ways, .ref a0_gone, .int v0_planned, .int v0_corners, .int v0_polygons, .ref a0_plan, .ref a0_xs, .ref a0_ys, .long v0_twice, .int v0_length, .ref a0_wayX, .ref a0_wayY, .int v0_rings, .ref a0_first, .ref a0_size, .ref a0_areas, .ref a0_owner, .int v0_places, .ref a0_rx, .ref a0_ry])), (q0_ax, .inl (cI.1, n0_ax, .inl f0_ax)), (q0_bx, .inl (cI.1, n0_bx, .inl f0_bx)), (q0_ay, .inl (cI.1, n0_ay, .inl f0_ay)), (q0_by, .inl (cI.1, n0_by, .inl f0_by)), (q0_marks, .inl (cI.1, n0_marks, .inl f0_marks))]) A) args s 0 0 A) (F0 m 191 ls [.int s0])
def T_Mod_right_96 (p : Program) (l : Launch) (e : Env) (s : State) (m : MethodId) (args : Array Value) (below : List Frame) (meth : Method) (c : Code) (dC : Nat → ClassId) (dI : Nat → Nat → Nat) (cI : dcG) (A : Nat → Prop) (a0 : Nat) (a0_ways : Nat) (a0_gone : Nat) (a0_plan : Nat) (a0_xs : Nat) (a0_ys : Nat) (a0_wayX : Nat) (a0_wayY : Nat) (a0_first : Nat) (a0_size : Nat) (a0_areas : Nat) (a0_owner : Nat) (a0_rx : Nat) (a0_ry : Nat) (v0_thrown : Int32) (v0_pieces : Int32) (v0_planned : Int32) (v0_corners : Int32) (v0_polygons : Int32) (v0_twice : Int64) (v0_length : Int32) (v0_rings : Int32) (v0_places : Int32) (q0_ax : Nat) (n0_ax : Nat) (f0_ax : Nat → Int32) (q0_bx : Nat) (n0_bx : Nat) (f0_bx : Nat → Int32) (q0_ay : Nat) (n0_ay : Nat) (f0_ay : Nat → Int32) (q0_by : Nat) (n0_by : Nat) (f0_by : Nat → Int32) (q0_marks : Nat) (n0_marks : Nat) (f0_marks : Nat → Int32) (y1 : Int32) (rv : Int32) (g : Int64 → Int64 → Int32 → Int32 → Int32 → Int32 → Option (Int32)) : Prop :=
  ∀ (x2 : Int64) (x4 : Int64) (x6 : Int32) (x7 : Int32) (x8 : Int32) (s0 : Int32), g x2 x4 x6 x7 x8 s0 = some rv → 
  ∀ (H : Heap) (locs : List Loc), va_P (dC, dI) vwCl [(a0, .inr (6, [.int v0_thrown, .int v0_pieces, .ref q0_ax, .ref q0_ay, .ref q0_bx, .ref q0_by, .ref q0_marks, .ref a0_ways, .ref a0_gone, .int v0_planned, .int v0_corners, .int v0_polygons, .ref a0_plan, .ref a0_xs, .ref a0_ys, .long v0_twice, .int v0_length, .ref a0_wayX, .ref a0_wayY, .int v0_rings, .ref a0_first, .ref a0_size, .ref a0_areas, .ref a0_owner, .int v0_places, .ref a0_rx, .ref a0_ry])), (q0_ax, .inl (cI.1, n0_ax, .inl f0_ax)), (q0_bx, .inl (cI.1, n0_bx, .inl f0_bx)), (q0_ay, .inl (cI.1, n0_ay, .inl f0_ay)), (q0_by, .inl (cI.1, n0_by, .inl f0_by)), (q0_marks, .inl (cI.1, n0_marks, .inl f0_marks))] H → va_D A [(a0, .inr (6, [.int v0_thrown, .int v0_pieces, .ref q0_ax, .ref q0_ay, .ref q0_bx, .ref q0_by, .ref q0_marks, .ref a0_ways, .ref a0_gone, .int v0_planned, .int v0_corners, .int v0_polygons, .ref a0_plan, .ref a0_xs, .ref a0_ys, .long v0_twice, .int v0_length, .ref a0_wayX, .ref a0_wayY, .int v0_rings, .ref a0_first, .ref a0_size, .ref a0_areas, .ref a0_owner, .int v0_places, .ref a0_rx, .ref a0_ry])), (q0_ax, .inl (cI.1, n0_ax, .inl f0_ax)), (q0_bx, .inl (cI.1, n0_bx, .inl f0_bx)), (q0_ay, .inl (cI.1, n0_ay, .inl f0_ay)), (q0_by, .inl (cI.1, n0_by, .inl f0_by)), (q0_marks, .inl (cI.1, n0_marks, .inl f0_marks))] → va_S A s.heap H locs → ∀ (ls : Array Slot), lv_has ls 12 [(0, .ref a0), (1, .int y1), (2, .long x2), (4, .long x4), (6, .int x6), (7, .int x7), (8, .int x8)] →
  W p l e { frames := 1, cells := 0, slots := 0, locals := 27 } s m args below meth c H locs 0 0 (MQ below (dc_Q (dC, dI) (some (.int rv)) (fun x : Unit => True) (fun x => [(a0, .inr (6, [.int v0_thrown, .int v0_pieces, .ref q0_ax, .ref q0_ay, .ref q0_bx, .ref q0_by, .ref q0_marks, .ref a0_ways, .ref a0_gone, .int v0_planned, .int v0_corners, .int v0_polygons, .ref a0_plan, .ref a0_xs, .ref a0_ys, .long v0_twice, .int v0_length, .ref a0_wayX, .ref a0_wayY, .int v0_rings, .ref a0_first, .ref a0_size, .ref a0_areas, .ref a0_owner, .int v0_places, .ref a0_rx, .ref a0_ry])), (q0_ax, .inl (cI.1, n0_ax, .inl f0_ax)), (q0_bx, .inl (cI.1, n0_bx, .inl f0_bx)), (q0_ay, .inl (cI.1, n0_ay, .inl f0_ay)), (q0_by, .inl (cI.1, n0_by, .inl f0_by)), (q0_marks, .inl (cI.1, n0_marks, .inl f0_marks))]) A) args s 0 0 A) (F0 m 96 ls [.int s0])
def T_Mod_right_71 (p : Program) (l : Launch) (e : Env) (s : State) (m : MethodId) (args : Array Value) (below : List Frame) (meth : Method) (c : Code) (dC : Nat → ClassId) (dI : Nat → Nat → Nat) (cI : dcG) (A : Nat → Prop) (a0 : Nat) (a0_ways : Nat) (a0_gone : Nat) (a0_plan : Nat) (a0_xs : Nat) (a0_ys : Nat) (a0_wayX : Nat) (a0_wayY : Nat) (a0_first : Nat) (a0_size : Nat) (a0_areas : Nat) (a0_owner : Nat) (a0_rx : Nat) (a0_ry : Nat) (v0_thrown : Int32) (v0_pieces : Int32) (v0_planned : Int32) (v0_corners : Int32) (v0_polygons : Int32) (v0_twice : Int64) (v0_length : Int32) (v0_rings : Int32) (v0_places : Int32) (q0_ax : Nat) (n0_ax : Nat) (f0_ax : Nat → Int32) (q0_bx : Nat) (n0_bx : Nat) (f0_bx : Nat → Int32) (q0_ay : Nat) (n0_ay : Nat) (f0_ay : Nat → Int32) (q0_by : Nat) (n0_by : Nat) (f0_by : Nat → Int32) (q0_marks : Nat) (n0_marks : Nat) (f0_marks : Nat → Int32) (y1 : Int32) (rv : Int32) (g : Int64 → Int64 → Int32 → Int32 → Int32 → Option (Int32)) : Prop :=
  ∀ (x2 : Int64) (x4 : Int64) (x6 : Int32) (x7 : Int32) (s0 : Int32), g x2 x4 x6 x7 s0 = some rv → 
  ∀ (H : Heap) (locs : List Loc), va_P (dC, dI) vwCl [(a0, .inr (6, [.int v0_thrown, .int v0_pieces, .ref q0_ax, .ref q0_ay, .ref q0_bx, .ref q0_by, .ref q0_marks, .ref a0_ways, .ref a0_gone, .int v0_planned, .int v0_corners, .int v0_polygons, .ref a0_plan, .ref a0_xs, .ref a0_ys, .long v0_twice, .int v0_length, .ref a0_wayX, .ref a0_wayY, .int v0_rings, .ref a0_first, .ref a0_size, .ref a0_areas, .ref a0_owner, .int v0_places, .ref a0_rx, .ref a0_ry])), (q0_ax, .inl (cI.1, n0_ax, .inl f0_ax)), (q0_bx, .inl (cI.1, n0_bx, .inl f0_bx)), (q0_ay, .inl (cI.1, n0_ay, .inl f0_ay)), (q0_by, .inl (cI.1, n0_by, .inl f0_by)), (q0_marks, .inl (cI.1, n0_marks, .inl f0_marks))] H → va_D A [(a0, .inr (6, [.int v0_thrown, .int v0_pieces, .ref q0_ax, .ref q0_ay, .ref q0_bx, .ref q0_by, .ref q0_marks, .ref a0_ways, .ref a0_gone, .int v0_planned, .int v0_corners, .int v0_polygons, .ref a0_plan, .ref a0_xs, .ref a0_ys, .long v0_twice, .int v0_length, .ref a0_wayX, .ref a0_wayY, .int v0_rings, .ref a0_first, .ref a0_size, .ref a0_areas, .ref a0_owner, .int v0_places, .ref a0_rx, .ref a0_ry])), (q0_ax, .inl (cI.1, n0_ax, .inl f0_ax)), (q0_bx, .inl (cI.1, n0_bx, .inl f0_bx)), (q0_ay, .inl (cI.1, n0_ay, .inl f0_ay)), (q0_by, .inl (cI.1, n0_by, .inl f0_by)), (q0_marks, .inl (cI.1, n0_marks, .inl f0_marks))] → va_S A s.heap H locs → ∀ (ls : Array Slot), lv_has ls 12 [(0, .ref a0), (1, .int y1), (2, .long x2), (4, .long x4), (6, .int x6), (7, .int x7)] →
  W p l e { frames := 1, cells := 0, slots := 0, locals := 27 } s m args below meth c H locs 0 0 (MQ below (dc_Q (dC, dI) (some (.int rv)) (fun x : Unit => True) (fun x => [(a0, .inr (6, [.int v0_thrown, .int v0_pieces, .ref q0_ax, .ref q0_ay, .ref q0_bx, .ref q0_by, .ref q0_marks, .ref a0_ways, .ref a0_gone, .int v0_planned, .int v0_corners, .int v0_polygons, .ref a0_plan, .ref a0_xs, .ref a0_ys, .long v0_twice, .int v0_length, .ref a0_wayX, .ref a0_wayY, .int v0_rings, .ref a0_first, .ref a0_size, .ref a0_areas, .ref a0_owner, .int v0_places, .ref a0_rx, .ref a0_ry])), (q0_ax, .inl (cI.1, n0_ax, .inl f0_ax)), (q0_bx, .inl (cI.1, n0_bx, .inl f0_bx)), (q0_ay, .inl (cI.1, n0_ay, .inl f0_ay)), (q0_by, .inl (cI.1, n0_by, .inl f0_by)), (q0_marks, .inl (cI.1, n0_marks, .inl f0_marks))]) A) args s 0 0 A) (F0 m 71 ls [.int s0])
def T_Mod_right_39 (p : Program) (l : Launch) (e : Env) (s : State) (m : MethodId) (args : Array Value) (below : List Frame) (meth : Method) (c : Code) (dC : Nat → ClassId) (dI : Nat → Nat → Nat) (cI : dcG) (A : Nat → Prop) (a0 : Nat) (a0_ways : Nat) (a0_gone : Nat) (a0_plan : Nat) (a0_xs : Nat) (a0_ys : Nat) (a0_wayX : Nat) (a0_wayY : Nat) (a0_first : Nat) (a0_size : Nat) (a0_areas : Nat) (a0_owner : Nat) (a0_rx : Nat) (a0_ry : Nat) (v0_thrown : Int32) (v0_pieces : Int32) (v0_planned : Int32) (v0_corners : Int32) (v0_polygons : Int32) (v0_twice : Int64) (v0_length : Int32) (v0_rings : Int32) (v0_places : Int32) (q0_ax : Nat) (n0_ax : Nat) (f0_ax : Nat → Int32) (q0_bx : Nat) (n0_bx : Nat) (f0_bx : Nat → Int32) (q0_ay : Nat) (n0_ay : Nat) (f0_ay : Nat → Int32) (q0_by : Nat) (n0_by : Nat) (f0_by : Nat → Int32) (q0_marks : Nat) (n0_marks : Nat) (f0_marks : Nat → Int32) (y1 : Int32) (rv : Int32) (g : Int64 → Int64 → Int32 → Int32 → Option (Int32)) : Prop :=
  ∀ (x2 : Int64) (x4 : Int64) (x6 : Int32) (x7 : Int32), g x2 x4 x6 x7 = some rv → 
  ∀ (H : Heap) (locs : List Loc), va_P (dC, dI) vwCl [(a0, .inr (6, [.int v0_thrown, .int v0_pieces, .ref q0_ax, .ref q0_ay, .ref q0_bx, .ref q0_by, .ref q0_marks, .ref a0_ways, .ref a0_gone, .int v0_planned, .int v0_corners, .int v0_polygons, .ref a0_plan, .ref a0_xs, .ref a0_ys, .long v0_twice, .int v0_length, .ref a0_wayX, .ref a0_wayY, .int v0_rings, .ref a0_first, .ref a0_size, .ref a0_areas, .ref a0_owner, .int v0_places, .ref a0_rx, .ref a0_ry])), (q0_ax, .inl (cI.1, n0_ax, .inl f0_ax)), (q0_bx, .inl (cI.1, n0_bx, .inl f0_bx)), (q0_ay, .inl (cI.1, n0_ay, .inl f0_ay)), (q0_by, .inl (cI.1, n0_by, .inl f0_by)), (q0_marks, .inl (cI.1, n0_marks, .inl f0_marks))] H → va_D A [(a0, .inr (6, [.int v0_thrown, .int v0_pieces, .ref q0_ax, .ref q0_ay, .ref q0_bx, .ref q0_by, .ref q0_marks, .ref a0_ways, .ref a0_gone, .int v0_planned, .int v0_corners, .int v0_polygons, .ref a0_plan, .ref a0_xs, .ref a0_ys, .long v0_twice, .int v0_length, .ref a0_wayX, .ref a0_wayY, .int v0_rings, .ref a0_first, .ref a0_size, .ref a0_areas, .ref a0_owner, .int v0_places, .ref a0_rx, .ref a0_ry])), (q0_ax, .inl (cI.1, n0_ax, .inl f0_ax)), (q0_bx, .inl (cI.1, n0_bx, .inl f0_bx)), (q0_ay, .inl (cI.1, n0_ay, .inl f0_ay)), (q0_by, .inl (cI.1, n0_by, .inl f0_by)), (q0_marks, .inl (cI.1, n0_marks, .inl f0_marks))] → va_S A s.heap H locs → ∀ (ls : Array Slot), lv_has ls 12 [(0, .ref a0), (1, .int y1), (2, .long x2), (4, .long x4), (6, .int x6), (7, .int x7)] →
  W p l e { frames := 1, cells := 0, slots := 0, locals := 27 } s m args below meth c H locs 0 0 (MQ below (dc_Q (dC, dI) (some (.int rv)) (fun x : Unit => True) (fun x => [(a0, .inr (6, [.int v0_thrown, .int v0_pieces, .ref q0_ax, .ref q0_ay, .ref q0_bx, .ref q0_by, .ref q0_marks, .ref a0_ways, .ref a0_gone, .int v0_planned, .int v0_corners, .int v0_polygons, .ref a0_plan, .ref a0_xs, .ref a0_ys, .long v0_twice, .int v0_length, .ref a0_wayX, .ref a0_wayY, .int v0_rings, .ref a0_first, .ref a0_size, .ref a0_areas, .ref a0_owner, .int v0_places, .ref a0_rx, .ref a0_ry])), (q0_ax, .inl (cI.1, n0_ax, .inl f0_ax)), (q0_bx, .inl (cI.1, n0_bx, .inl f0_bx)), (q0_ay, .inl (cI.1, n0_ay, .inl f0_ay)), (q0_by, .inl (cI.1, n0_by, .inl f0_by)), (q0_marks, .inl (cI.1, n0_marks, .inl f0_marks))]) A) args s 0 0 A) (F0 m 39 ls [])
def T_Mod_right_0 (p : Program) (l : Launch) (e : Env) (s : State) (m : MethodId) (args : Array Value) (below : List Frame) (meth : Method) (c : Code) (dC : Nat → ClassId) (dI : Nat → Nat → Nat) (cI : dcG) (A : Nat → Prop) (a0 : Nat) (a0_ways : Nat) (a0_gone : Nat) (a0_plan : Nat) (a0_xs : Nat) (a0_ys : Nat) (a0_wayX : Nat) (a0_wayY : Nat) (a0_first : Nat) (a0_size : Nat) (a0_areas : Nat) (a0_owner : Nat) (a0_rx : Nat) (a0_ry : Nat) (v0_thrown : Int32) (v0_pieces : Int32) (v0_planned : Int32) (v0_corners : Int32) (v0_polygons : Int32) (v0_twice : Int64) (v0_length : Int32) (v0_rings : Int32) (v0_places : Int32) (q0_ax : Nat) (n0_ax : Nat) (f0_ax : Nat → Int32) (q0_bx : Nat) (n0_bx : Nat) (f0_bx : Nat → Int32) (q0_ay : Nat) (n0_ay : Nat) (f0_ay : Nat → Int32) (q0_by : Nat) (n0_by : Nat) (f0_by : Nat → Int32) (q0_marks : Nat) (n0_marks : Nat) (f0_marks : Nat → Int32) (y1 : Int32) (rv : Int32) (g : Option (Int32)) : Prop :=
  g  = some rv → 
  ∀ (H : Heap) (locs : List Loc), va_P (dC, dI) vwCl [(a0, .inr (6, [.int v0_thrown, .int v0_pieces, .ref q0_ax, .ref q0_ay, .ref q0_bx, .ref q0_by, .ref q0_marks, .ref a0_ways, .ref a0_gone, .int v0_planned, .int v0_corners, .int v0_polygons, .ref a0_plan, .ref a0_xs, .ref a0_ys, .long v0_twice, .int v0_length, .ref a0_wayX, .ref a0_wayY, .int v0_rings, .ref a0_first, .ref a0_size, .ref a0_areas, .ref a0_owner, .int v0_places, .ref a0_rx, .ref a0_ry])), (q0_ax, .inl (cI.1, n0_ax, .inl f0_ax)), (q0_bx, .inl (cI.1, n0_bx, .inl f0_bx)), (q0_ay, .inl (cI.1, n0_ay, .inl f0_ay)), (q0_by, .inl (cI.1, n0_by, .inl f0_by)), (q0_marks, .inl (cI.1, n0_marks, .inl f0_marks))] H → va_D A [(a0, .inr (6, [.int v0_thrown, .int v0_pieces, .ref q0_ax, .ref q0_ay, .ref q0_bx, .ref q0_by, .ref q0_marks, .ref a0_ways, .ref a0_gone, .int v0_planned, .int v0_corners, .int v0_polygons, .ref a0_plan, .ref a0_xs, .ref a0_ys, .long v0_twice, .int v0_length, .ref a0_wayX, .ref a0_wayY, .int v0_rings, .ref a0_first, .ref a0_size, .ref a0_areas, .ref a0_owner, .int v0_places, .ref a0_rx, .ref a0_ry])), (q0_ax, .inl (cI.1, n0_ax, .inl f0_ax)), (q0_bx, .inl (cI.1, n0_bx, .inl f0_bx)), (q0_ay, .inl (cI.1, n0_ay, .inl f0_ay)), (q0_by, .inl (cI.1, n0_by, .inl f0_by)), (q0_marks, .inl (cI.1, n0_marks, .inl f0_marks))] → va_S A s.heap H locs → ∀ (ls : Array Slot), lv_has ls 12 [(0, .ref a0), (1, .int y1)] →
  W p l e { frames := 1, cells := 0, slots := 0, locals := 27 } s m args below meth c H locs 0 0 (MQ below (dc_Q (dC, dI) (some (.int rv)) (fun x : Unit => True) (fun x => [(a0, .inr (6, [.int v0_thrown, .int v0_pieces, .ref q0_ax, .ref q0_ay, .ref q0_bx, .ref q0_by, .ref q0_marks, .ref a0_ways, .ref a0_gone, .int v0_planned, .int v0_corners, .int v0_polygons, .ref a0_plan, .ref a0_xs, .ref a0_ys, .long v0_twice, .int v0_length, .ref a0_wayX, .ref a0_wayY, .int v0_rings, .ref a0_first, .ref a0_size, .ref a0_areas, .ref a0_owner, .int v0_places, .ref a0_rx, .ref a0_ry])), (q0_ax, .inl (cI.1, n0_ax, .inl f0_ax)), (q0_bx, .inl (cI.1, n0_bx, .inl f0_bx)), (q0_ay, .inl (cI.1, n0_ay, .inl f0_ay)), (q0_by, .inl (cI.1, n0_by, .inl f0_by)), (q0_marks, .inl (cI.1, n0_marks, .inl f0_marks))]) A) args s 0 0 A) (F0 m 0 ls [])
def b_Mod_right_208 (F : Nat) (v0_pieces : Int32) (n0_ax : Nat) (f0_ax : Nat → Int32) (n0_bx : Nat) (f0_bx : Nat → Int32) (n0_ay : Nat) (f0_ay : Nat → Int32) (n0_by : Nat) (f0_by : Nat → Int32) (n0_marks : Nat) (f0_marks : Nat → Int32) (y1 : Int32) (r39 : Int64 → Int64 → Int32 → Int32 → Option (Int32)) (x2 : Int64) (x4 : Int64) (x6 : Int32) (x7 : Int32) : Option (Int32) :=
  r39 x2 x4 x6 (x7 + 1)
set_option maxHeartbeats 4000000 in
set_option maxRecDepth 100000 in
theorem s_Mod_right_208 (p : Program) (l : Launch) (e : Env) (s : State) (m : MethodId) (args : Array Value) (below : List Frame) (meth : Method) (c : Code) (dC : Nat → ClassId) (dI : Nat → Nat → Nat) (cI : dcG) (A : Nat → Prop) (a0 : Nat) (a0_ways : Nat) (a0_gone : Nat) (a0_plan : Nat) (a0_xs : Nat) (a0_ys : Nat) (a0_wayX : Nat) (a0_wayY : Nat) (a0_first : Nat) (a0_size : Nat) (a0_areas : Nat) (a0_owner : Nat) (a0_rx : Nat) (a0_ry : Nat) (v0_thrown : Int32) (v0_pieces : Int32) (v0_planned : Int32) (v0_corners : Int32) (v0_polygons : Int32) (v0_twice : Int64) (v0_length : Int32) (v0_rings : Int32) (v0_places : Int32) (q0_ax : Nat) (n0_ax : Nat) (f0_ax : Nat → Int32) (q0_bx : Nat) (n0_bx : Nat) (f0_bx : Nat → Int32) (q0_ay : Nat) (n0_ay : Nat) (f0_ay : Nat → Int32) (q0_by : Nat) (n0_by : Nat) (f0_by : Nat → Int32) (q0_marks : Nat) (n0_marks : Nat) (f0_marks : Nat → Int32) (y1 : Int32) (rv : Int32) (F : Nat) (C0 : dc_At p s m args meth c prog_9_method_18_code 12 R_Mod (some .int)) (hK : va_K (dC, dI) vwCl (dcT cI) s) (hA : ∀ q, s.heap.size ≤ q → A q) (r39 : Int64 → Int64 → Int32 → Int32 → Option (Int32)) (hr39 : T_Mod_right_39 p l e s m args below meth c dC dI cI A a0 a0_ways a0_gone a0_plan a0_xs a0_ys a0_wayX a0_wayY a0_first a0_size a0_areas a0_owner a0_rx a0_ry v0_thrown v0_pieces v0_planned v0_corners v0_polygons v0_twice v0_length v0_rings v0_places q0_ax n0_ax f0_ax q0_bx n0_bx f0_bx q0_ay n0_ay f0_ay q0_by n0_by f0_by q0_marks n0_marks f0_marks y1 rv r39) : T_Mod_right_208 p l e s m args below meth c dC dI cI A a0 a0_ways a0_gone a0_plan a0_xs a0_ys a0_wayX a0_wayY a0_first a0_size a0_areas a0_owner a0_rx a0_ry v0_thrown v0_pieces v0_planned v0_corners v0_polygons v0_twice v0_length v0_rings v0_places q0_ax n0_ax f0_ax q0_bx n0_bx f0_bx q0_ay n0_ay f0_ay q0_by n0_by f0_by q0_marks n0_marks f0_marks y1 rv (b_Mod_right_208 F v0_pieces n0_ax f0_ax n0_bx f0_bx n0_ay f0_ay n0_by f0_by n0_marks f0_marks y1 r39) := by
  obtain ⟨hx, hb, hml, hown, hts, hr, hlocks, hN⟩ := id C0
  intro x2 x4 x6 x7 hf H locs hP hD hS ls hl
  unfold b_Mod_right_208 at hf
  refine lv_iinc (v := x7 + 1) (lv' := [(7, .int (x7 + 1)), (0, .ref a0), (1, .int y1), (2, .long x2), (4, .long x4), (6, .int x6)]) hx hb d_Mod_right_208 hl (k := 5) rfl rfl (by decide) rfl (fun ls hl => ?_)
  refine lv_goto (tgt := 39) hx hb d_Mod_right_211 (by decide) ?_
  exact hr39 x2 x4 x6 (x7 + 1) hf H locs hP hD hS ls (lv_sub hl [1, 2, 3, 4, 5, 0] rfl)
def b_Mod_right_191 (F : Nat) (v0_pieces : Int32) (n0_ax : Nat) (f0_ax : Nat → Int32) (n0_bx : Nat) (f0_bx : Nat → Int32) (n0_ay : Nat) (f0_ay : Nat → Int32) (n0_by : Nat) (f0_by : Nat → Int32) (n0_marks : Nat) (f0_marks : Nat → Int32) (y1 : Int32) (r39 : Int64 → Int64 → Int32 → Int32 → Option (Int32)) (x2 : Int64) (x4 : Int64) (x6 : Int32) (x7 : Int32) (x9 : Int32) (s0 : Int32) : Option (Int32) :=
  if s0 = x9 then (if x7 < 0 ∨ n0_marks ≤ x7.toNatClampNeg then none else (b_Mod_right_208 F v0_pieces n0_ax f0_ax n0_bx f0_bx n0_ay f0_ay n0_by f0_by n0_marks f0_marks y1 r39 x2 x4 (x6 ^^^ (f0_marks x7.toNatClampNeg)) x7)) else (b_Mod_right_208 F v0_pieces n0_ax f0_ax n0_bx f0_bx n0_ay f0_ay n0_by f0_by n0_marks f0_marks y1 r39 x2 x4 x6 x7)
set_option maxHeartbeats 4000000 in
set_option maxRecDepth 100000 in
theorem s_Mod_right_191 (p : Program) (l : Launch) (e : Env) (s : State) (m : MethodId) (args : Array Value) (below : List Frame) (meth : Method) (c : Code) (dC : Nat → ClassId) (dI : Nat → Nat → Nat) (cI : dcG) (A : Nat → Prop) (a0 : Nat) (a0_ways : Nat) (a0_gone : Nat) (a0_plan : Nat) (a0_xs : Nat) (a0_ys : Nat) (a0_wayX : Nat) (a0_wayY : Nat) (a0_first : Nat) (a0_size : Nat) (a0_areas : Nat) (a0_owner : Nat) (a0_rx : Nat) (a0_ry : Nat) (v0_thrown : Int32) (v0_pieces : Int32) (v0_planned : Int32) (v0_corners : Int32) (v0_polygons : Int32) (v0_twice : Int64) (v0_length : Int32) (v0_rings : Int32) (v0_places : Int32) (q0_ax : Nat) (n0_ax : Nat) (f0_ax : Nat → Int32) (q0_bx : Nat) (n0_bx : Nat) (f0_bx : Nat → Int32) (q0_ay : Nat) (n0_ay : Nat) (f0_ay : Nat → Int32) (q0_by : Nat) (n0_by : Nat) (f0_by : Nat → Int32) (q0_marks : Nat) (n0_marks : Nat) (f0_marks : Nat → Int32) (y1 : Int32) (rv : Int32) (F : Nat) (C0 : dc_At p s m args meth c prog_9_method_18_code 12 R_Mod (some .int)) (hK : va_K (dC, dI) vwCl (dcT cI) s) (hA : ∀ q, s.heap.size ≤ q → A q) (r39 : Int64 → Int64 → Int32 → Int32 → Option (Int32)) (hr39 : T_Mod_right_39 p l e s m args below meth c dC dI cI A a0 a0_ways a0_gone a0_plan a0_xs a0_ys a0_wayX a0_wayY a0_first a0_size a0_areas a0_owner a0_rx a0_ry v0_thrown v0_pieces v0_planned v0_corners v0_polygons v0_twice v0_length v0_rings v0_places q0_ax n0_ax f0_ax q0_bx n0_bx f0_bx q0_ay n0_ay f0_ay q0_by n0_by f0_by q0_marks n0_marks f0_marks y1 rv r39) : T_Mod_right_191 p l e s m args below meth c dC dI cI A a0 a0_ways a0_gone a0_plan a0_xs a0_ys a0_wayX a0_wayY a0_first a0_size a0_areas a0_owner a0_rx a0_ry v0_thrown v0_pieces v0_planned v0_corners v0_polygons v0_twice v0_length v0_rings v0_places q0_ax n0_ax f0_ax q0_bx n0_bx f0_bx q0_ay n0_ay f0_ay q0_by n0_by f0_by q0_marks n0_marks f0_marks y1 rv (b_Mod_right_191 F v0_pieces n0_ax f0_ax n0_bx f0_bx n0_ay f0_ay n0_by f0_by n0_marks f0_marks y1 r39) := by
  obtain ⟨hx, hb, hml, hown, hts, hr, hlocks, hN⟩ := id C0
  intro x2 x4 x6 x7 x9 s0 hf H locs hP hD hS ls hl
  unfold b_Mod_right_191 at hf
  refine lv_iload hx hb d_Mod_right_191 (lv_at hl 6 rfl) ?_
  refine lv_icmp_ne (tgt := 208) hx hb d_Mod_right_193 (by decide) (fun c_1 => ?_) (fun c_1 => ?_)
  · have hf := (if_neg c_1).symm.trans hf
    exact (s_Mod_right_208 p l e s m args below meth c dC dI cI A a0 a0_ways a0_gone a0_plan a0_xs a0_ys a0_wayX a0_wayY a0_first a0_size a0_areas a0_owner a0_rx a0_ry v0_thrown v0_pieces v0_planned v0_corners v0_polygons v0_twice v0_length v0_rings v0_places q0_ax n0_ax f0_ax q0_bx n0_bx f0_bx q0_ay n0_ay f0_ay q0_by n0_by f0_by q0_marks n0_marks f0_marks y1 rv F C0 hK hA  r39 hr39) x2 x4 x6 x7 hf H locs hP hD hS ls (lv_sub hl [0, 1, 2, 3, 4, 5] rfl)
  · have hf := (if_pos c_1).symm.trans hf
    refine lv_iload hx hb d_Mod_right_196 (lv_at hl 4 rfl) ?_
    refine lv_aload_n hx hb d_Mod_right_198 rfl (lv_at hl 0 rfl) ?_
    refine va_get (D := (dC, dI)) (ci := 6) (v := .ref q0_marks) (C := R_Mod) (T := F_Mod) (N := 27) hx hb hts i_Mod hown hK hP 0 rfl rfl 6 (by decide) (hts _ wm_629) (fun _ h9 => h9) rfl d_Mod_right_199 ?_
    refine lv_iload hx hb d_Mod_right_202 (lv_at hl 5 rfl) ?_
    have b_2 : vp_in x7 n0_marks := fun z => by rw [if_pos z] at hf; cases hf
    have hf := (if_neg b_2).symm.trans hf
    refine va_iald hx hb hK hP 5 0 rfl rfl b_2 d_Mod_right_204 ?_
    refine lv_ixor hx hb d_Mod_right_205 ?_
    refine lv_istore (lv' := [(6, .int (x6 ^^^ (f0_marks x7.toNatClampNeg))), (0, .ref a0), (1, .int y1), (2, .long x2), (4, .long x4), (7, .int x7), (9, .int x9)]) hx hb d_Mod_right_206 hl (by decide) rfl (fun ls hl => ?_)
    exact (s_Mod_right_208 p l e s m args below meth c dC dI cI A a0 a0_ways a0_gone a0_plan a0_xs a0_ys a0_wayX a0_wayY a0_first a0_size a0_areas a0_owner a0_rx a0_ry v0_thrown v0_pieces v0_planned v0_corners v0_polygons v0_twice v0_length v0_rings v0_places q0_ax n0_ax f0_ax q0_bx n0_bx f0_bx q0_ay n0_ay f0_ay q0_by n0_by f0_by q0_marks n0_marks f0_marks y1 rv F C0 hK hA  r39 hr39) x2 x4 (x6 ^^^ (f0_marks x7.toNatClampNeg)) x7 hf H locs hP hD hS ls (lv_sub hl [1, 2, 3, 4, 0, 5] rfl)
def b_Mod_right_96 (F : Nat) (v0_pieces : Int32) (n0_ax : Nat) (f0_ax : Nat → Int32) (n0_bx : Nat) (f0_bx : Nat → Int32) (n0_ay : Nat) (f0_ay : Nat → Int32) (n0_by : Nat) (f0_by : Nat → Int32) (n0_marks : Nat) (f0_marks : Nat → Int32) (y1 : Int32) (r39 : Int64 → Int64 → Int32 → Int32 → Option (Int32)) (x2 : Int64) (x4 : Int64) (x6 : Int32) (x7 : Int32) (x8 : Int32) (s0 : Int32) : Option (Int32) :=
  if x7 = y1 then (b_Mod_right_208 F v0_pieces n0_ax f0_ax n0_bx f0_bx n0_ay f0_ay n0_by f0_by n0_marks f0_marks y1 r39 x2 x4 x6 x7) else (if x8 = s0 then (b_Mod_right_208 F v0_pieces n0_ax f0_ax n0_bx f0_bx n0_ay f0_ay n0_by f0_by n0_marks f0_marks y1 r39 x2 x4 x6 x7) else (if x7 < 0 ∨ n0_bx ≤ x7.toNatClampNeg then none else (if x7 < 0 ∨ n0_ax ≤ x7.toNatClampNeg then none else (if x7 < 0 ∨ n0_by ≤ x7.toNatClampNeg then none else (if x7 < 0 ∨ n0_ay ≤ x7.toNatClampNeg then none else (if x7 < 0 ∨ n0_ax ≤ x7.toNatClampNeg then none else (if x7 < 0 ∨ n0_ay ≤ x7.toNatClampNeg then none else (ob1 (f_Mod_cross (((f0_bx x7.toNatClampNeg).toInt64) - ((f0_ax x7.toNatClampNeg).toInt64)) (((f0_by x7.toNatClampNeg).toInt64) - ((f0_ay x7.toNatClampNeg).toInt64)) (x2 - ((2 : Int64) * ((f0_ax x7.toNatClampNeg).toInt64))) (x4 - ((2 : Int64) * ((f0_ay x7.toNatClampNeg).toInt64)))) fun r_11 => if (lg_cmp r_11 (0 : Int64)) ≤ 0 then (b_Mod_right_191 F v0_pieces n0_ax f0_ax n0_bx f0_bx n0_ay f0_ay n0_by f0_by n0_marks f0_marks y1 r39 x2 x4 x6 x7 s0 (0 : Int32)) else (b_Mod_right_191 F v0_pieces n0_ax f0_ax n0_bx f0_bx n0_ay f0_ay n0_by f0_by n0_marks f0_marks y1 r39 x2 x4 x6 x7 s0 (1 : Int32))))))))))
set_option maxHeartbeats 4000000 in
set_option maxRecDepth 100000 in
theorem s_Mod_right_96 (p : Program) (l : Launch) (e : Env) (s : State) (m : MethodId) (args : Array Value) (below : List Frame) (meth : Method) (c : Code) (dC : Nat → ClassId) (dI : Nat → Nat → Nat) (cI : dcG) (A : Nat → Prop) (a0 : Nat) (a0_ways : Nat) (a0_gone : Nat) (a0_plan : Nat) (a0_xs : Nat) (a0_ys : Nat) (a0_wayX : Nat) (a0_wayY : Nat) (a0_first : Nat) (a0_size : Nat) (a0_areas : Nat) (a0_owner : Nat) (a0_rx : Nat) (a0_ry : Nat) (v0_thrown : Int32) (v0_pieces : Int32) (v0_planned : Int32) (v0_corners : Int32) (v0_polygons : Int32) (v0_twice : Int64) (v0_length : Int32) (v0_rings : Int32) (v0_places : Int32) (q0_ax : Nat) (n0_ax : Nat) (f0_ax : Nat → Int32) (q0_bx : Nat) (n0_bx : Nat) (f0_bx : Nat → Int32) (q0_ay : Nat) (n0_ay : Nat) (f0_ay : Nat → Int32) (q0_by : Nat) (n0_by : Nat) (f0_by : Nat → Int32) (q0_marks : Nat) (n0_marks : Nat) (f0_marks : Nat → Int32) (y1 : Int32) (rv : Int32) (F : Nat) (C0 : dc_At p s m args meth c prog_9_method_18_code 12 R_Mod (some .int)) (hK : va_K (dC, dI) vwCl (dcT cI) s) (hA : ∀ q, s.heap.size ≤ q → A q) (r39 : Int64 → Int64 → Int32 → Int32 → Option (Int32)) (hr39 : T_Mod_right_39 p l e s m args below meth c dC dI cI A a0 a0_ways a0_gone a0_plan a0_xs a0_ys a0_wayX a0_wayY a0_first a0_size a0_areas a0_owner a0_rx a0_ry v0_thrown v0_pieces v0_planned v0_corners v0_polygons v0_twice v0_length v0_rings v0_places q0_ax n0_ax f0_ax q0_bx n0_bx f0_bx q0_ay n0_ay f0_ay q0_by n0_by f0_by q0_marks n0_marks f0_marks y1 rv r39) : T_Mod_right_96 p l e s m args below meth c dC dI cI A a0 a0_ways a0_gone a0_plan a0_xs a0_ys a0_wayX a0_wayY a0_first a0_size a0_areas a0_owner a0_rx a0_ry v0_thrown v0_pieces v0_planned v0_corners v0_polygons v0_twice v0_length v0_rings v0_places q0_ax n0_ax f0_ax q0_bx n0_bx f0_bx q0_ay n0_ay f0_ay q0_by n0_by f0_by q0_marks n0_marks f0_marks y1 rv (b_Mod_right_96 F v0_pieces n0_ax f0_ax n0_bx f0_bx n0_ay f0_ay n0_by f0_by n0_marks f0_marks y1 r39) := by
  obtain ⟨hx, hb, hml, hown, hts, hr, hlocks, hN⟩ := id C0
  intro x2 x4 x6 x7 x8 s0 hf H locs hP hD hS ls hl
  unfold b_Mod_right_96 at hf
  refine lv_istore (lv' := [(9, .int s0), (0, .ref a0), (1, .int y1), (2, .long x2), (4, .long x4), (6, .int x6), (7, .int x7), (8, .int x8)]) hx hb d_Mod_right_96 hl (by decide) rfl (fun ls hl => ?_)
  refine lv_iload hx hb d_Mod_right_98 (lv_at hl 6 rfl) ?_
  refine lv_iload_n hx hb d_Mod_right_100 rfl (lv_at hl 2 rfl) ?_
  refine lv_icmp_eq (tgt := 208) hx hb d_Mod_right_101 (by decide) (fun c_3 => ?_) (fun c_3 => ?_)
  · have hf := (if_pos c_3).symm.trans hf
    exact (s_Mod_right_208 p l e s m args below meth c dC dI cI A a0 a0_ways a0_gone a0_plan a0_xs a0_ys a0_wayX a0_wayY a0_first a0_size a0_areas a0_owner a0_rx a0_ry v0_thrown v0_pieces v0_planned v0_corners v0_polygons v0_twice v0_length v0_rings v0_places q0_ax n0_ax f0_ax q0_bx n0_bx f0_bx q0_ay n0_ay f0_ay q0_by n0_by f0_by q0_marks n0_marks f0_marks y1 rv F C0 hK hA  r39 hr39) x2 x4 x6 x7 hf H locs hP hD hS ls (lv_sub hl [1, 2, 3, 4, 5, 6] rfl)
  · have hf := (if_neg c_3).symm.trans hf
    refine lv_iload hx hb d_Mod_right_104 (lv_at hl 7 rfl) ?_
    refine lv_iload hx hb d_Mod_right_106 (lv_at hl 0 rfl) ?_
    refine lv_icmp_eq (tgt := 208) hx hb d_Mod_right_108 (by decide) (fun c_4 => ?_) (fun c_4 => ?_)
    · have hf := (if_pos c_4).symm.trans hf
      exact (s_Mod_right_208 p l e s m args below meth c dC dI cI A a0 a0_ways a0_gone a0_plan a0_xs a0_ys a0_wayX a0_wayY a0_first a0_size a0_areas a0_owner a0_rx a0_ry v0_thrown v0_pieces v0_planned v0_corners v0_polygons v0_twice v0_length v0_rings v0_places q0_ax n0_ax f0_ax q0_bx n0_bx f0_bx q0_ay n0_ay f0_ay q0_by n0_by f0_by q0_marks n0_marks f0_marks y1 rv F C0 hK hA  r39 hr39) x2 x4 x6 x7 hf H locs hP hD hS ls (lv_sub hl [1, 2, 3, 4, 5, 6] rfl)
    · have hf := (if_neg c_4).symm.trans hf
      refine lv_aload_n hx hb d_Mod_right_111 rfl (lv_at hl 1 rfl) ?_
      refine va_get (D := (dC, dI)) (ci := 6) (v := .ref q0_bx) (C := R_Mod) (T := F_Mod) (N := 27) hx hb hts i_Mod hown hK hP 0 rfl rfl 4 (by decide) (hts _ wm_627) (fun _ h9 => h9) rfl d_Mod_right_112 ?_
      refine lv_iload hx hb d_Mod_right_115 (lv_at hl 6 rfl) ?_
      have b_5 : vp_in x7 n0_bx := fun z => by rw [if_pos z] at hf; cases hf
      have hf := (if_neg b_5).symm.trans hf
      refine va_iald hx hb hK hP 2 0 rfl rfl b_5 d_Mod_right_117 ?_
      refine lv_i2l hx hb d_Mod_right_118 rfl ?_
      refine lv_aload_n hx hb d_Mod_right_119 rfl (lv_at hl 1 rfl) ?_
      refine va_get (D := (dC, dI)) (ci := 6) (v := .ref q0_ax) (C := R_Mod) (T := F_Mod) (N := 27) hx hb hts i_Mod hown hK hP 0 rfl rfl 2 (by decide) (hts _ wm_625) (fun _ h9 => h9) rfl d_Mod_right_120 ?_
      refine lv_iload hx hb d_Mod_right_123 (lv_at hl 6 rfl) ?_
      have b_6 : vp_in x7 n0_ax := fun z => by rw [if_pos z] at hf; cases hf
      have hf := (if_neg b_6).symm.trans hf
      refine va_iald hx hb hK hP 1 0 rfl rfl b_6 d_Mod_right_125 ?_
      refine lv_i2l hx hb d_Mod_right_126 rfl ?_
      refine lv_lsub hx hb d_Mod_right_127 ?_
      refine lv_aload_n hx hb d_Mod_right_128 rfl (lv_at hl 1 rfl) ?_
      refine va_get (D := (dC, dI)) (ci := 6) (v := .ref q0_by) (C := R_Mod) (T := F_Mod) (N := 27) hx hb hts i_Mod hown hK hP 0 rfl rfl 5 (by decide) (hts _ wm_628) (fun _ h9 => h9) rfl d_Mod_right_129 ?_
      refine lv_iload hx hb d_Mod_right_132 (lv_at hl 6 rfl) ?_
      have b_7 : vp_in x7 n0_by := fun z => by rw [if_pos z] at hf; cases hf
      have hf := (if_neg b_7).symm.trans hf
      refine va_iald hx hb hK hP 4 0 rfl rfl b_7 d_Mod_right_134 ?_
      refine lv_i2l hx hb d_Mod_right_135 rfl ?_
      refine lv_aload_n hx hb d_Mod_right_136 rfl (lv_at hl 1 rfl) ?_
      refine va_get (D := (dC, dI)) (ci := 6) (v := .ref q0_ay) (C := R_Mod) (T := F_Mod) (N := 27) hx hb hts i_Mod hown hK hP 0 rfl rfl 3 (by decide) (hts _ wm_626) (fun _ h9 => h9) rfl d_Mod_right_137 ?_
      refine lv_iload hx hb d_Mod_right_140 (lv_at hl 6 rfl) ?_
      have b_8 : vp_in x7 n0_ay := fun z => by rw [if_pos z] at hf; cases hf
      have hf := (if_neg b_8).symm.trans hf
      refine va_iald hx hb hK hP 3 0 rfl rfl b_8 d_Mod_right_142 ?_
      refine lv_i2l hx hb d_Mod_right_143 rfl ?_
      refine lv_lsub hx hb d_Mod_right_144 ?_
      refine lv_lload_n hx hb d_Mod_right_145 rfl (lv_at hl 3 rfl) ?_
      refine lv_ldc2 (v := 2) hx hb hown (hts _ wm_787) d_Mod_right_146 ?_
      refine lv_aload_n hx hb d_Mod_right_149 rfl (lv_at hl 1 rfl) ?_
      refine va_get (D := (dC, dI)) (ci := 6) (v := .ref q0_ax) (C := R_Mod) (T := F_Mod) (N := 27) hx hb hts i_Mod hown hK hP 0 rfl rfl 2 (by decide) (hts _ wm_625) (fun _ h9 => h9) rfl d_Mod_right_150 ?_
      refine lv_iload hx hb d_Mod_right_153 (lv_at hl 6 rfl) ?_
      have b_9 : vp_in x7 n0_ax := fun z => by rw [if_pos z] at hf; cases hf
      have hf := (if_neg b_9).symm.trans hf
      refine va_iald hx hb hK hP 1 0 rfl rfl b_9 d_Mod_right_155 ?_
      refine lv_i2l hx hb d_Mod_right_156 rfl ?_
      refine lv_lmul hx hb d_Mod_right_157 ?_
      refine lv_lsub hx hb d_Mod_right_158 ?_
      refine lv_lload hx hb d_Mod_right_159 (lv_at hl 4 rfl) ?_
      refine lv_ldc2 (v := 2) hx hb hown (hts _ wm_787) d_Mod_right_161 ?_
      refine lv_aload_n hx hb d_Mod_right_164 rfl (lv_at hl 1 rfl) ?_
      refine va_get (D := (dC, dI)) (ci := 6) (v := .ref q0_ay) (C := R_Mod) (T := F_Mod) (N := 27) hx hb hts i_Mod hown hK hP 0 rfl rfl 3 (by decide) (hts _ wm_626) (fun _ h9 => h9) rfl d_Mod_right_165 ?_
      refine lv_iload hx hb d_Mod_right_168 (lv_at hl 6 rfl) ?_
      have b_10 : vp_in x7 n0_ay := fun z => by rw [if_pos z] at hf; cases hf
      have hf := (if_neg b_10).symm.trans hf
      refine va_iald hx hb hK hP 3 0 rfl rfl b_10 d_Mod_right_170 ?_
      refine lv_i2l hx hb d_Mod_right_171 rfl ?_
      refine lv_lmul hx hb d_Mod_right_172 ?_
      refine lv_lsub hx hb d_Mod_right_173 ?_
      obtain ⟨r_11, e_11, hf⟩ := ob1_some hf
      refine dc_call (wc := []) (wr := [(a0, .inr (6, [.int v0_thrown, .int v0_pieces, .ref q0_ax, .ref q0_ay, .ref q0_bx, .ref q0_by, .ref q0_marks, .ref a0_ways, .ref a0_gone, .int v0_planned, .int v0_corners, .int v0_polygons, .ref a0_plan, .ref a0_xs, .ref a0_ys, .long v0_twice, .int v0_length, .ref a0_wayX, .ref a0_wayY, .int v0_rings, .ref a0_first, .ref a0_size, .ref a0_areas, .ref a0_owner, .int v0_places, .ref a0_rx, .ref a0_ry])), (q0_ax, .inl (cI.1, n0_ax, .inl f0_ax)), (q0_bx, .inl (cI.1, n0_bx, .inl f0_bx)), (q0_ay, .inl (cI.1, n0_ay, .inl f0_ay)), (q0_by, .inl (cI.1, n0_by, .inl f0_by)), (q0_marks, .inl (cI.1, n0_marks, .inl f0_marks))]) [] [0, 1, 2, 3, 4, 5] hP hD hS hA rfl rfl rfl rfl rfl (fun hPc hDc => va_runS (As := [.long (((f0_bx x7.toNatClampNeg).toInt64) - ((f0_ax x7.toNatClampNeg).toInt64)), .long (((f0_by x7.toNatClampNeg).toInt64) - ((f0_ay x7.toNatClampNeg).toInt64)), .long (x2 - ((2 : Int64) * ((f0_ax x7.toNatClampNeg).toInt64))), .long (x4 - ((2 : Int64) * ((f0_ay x7.toNatClampNeg).toInt64)))]) (rest := []) ⟨hx, hb, hml, hown, hts⟩ (c_Mod_cross l dC dI cI (((f0_bx x7.toNatClampNeg).toInt64) - ((f0_ax x7.toNatClampNeg).toInt64)) (((f0_by x7.toNatClampNeg).toInt64) - ((f0_ay x7.toNatClampNeg).toInt64)) (x2 - ((2 : Int64) * ((f0_ax x7.toNatClampNeg).toInt64))) (x4 - ((2 : Int64) * ((f0_ay x7.toNatClampNeg).toInt64))) r_11 H.size e_11) (va_cwS 4 hts (gS wm_750 wm_751 wm_7 wm_752) rfl rfl rfl (by decide +kernel) ⟨Nat.le_of_ble_eq_true rfl, Nat.le_of_ble_eq_true rfl⟩) (dc_preS hK hN hPc hDc) rfl rfl hl.1 rfl (lv_room (Nat.le_of_ble_eq_true rfl)) d_Mod_right_174 ⟨Nat.le_refl _, Nat.le_refl _⟩) (fun x_11 H locs hp_11 hP hD hS => ?_)
      have hP : va_P (dC, dI) vwCl [(a0, .inr (6, [.int v0_thrown, .int v0_pieces, .ref q0_ax, .ref q0_ay, .ref q0_bx, .ref q0_by, .ref q0_marks, .ref a0_ways, .ref a0_gone, .int v0_planned, .int v0_corners, .int v0_polygons, .ref a0_plan, .ref a0_xs, .ref a0_ys, .long v0_twice, .int v0_length, .ref a0_wayX, .ref a0_wayY, .int v0_rings, .ref a0_first, .ref a0_size, .ref a0_areas, .ref a0_owner, .int v0_places, .ref a0_rx, .ref a0_ry])), (q0_ax, .inl (cI.1, n0_ax, .inl f0_ax)), (q0_bx, .inl (cI.1, n0_bx, .inl f0_bx)), (q0_ay, .inl (cI.1, n0_ay, .inl f0_ay)), (q0_by, .inl (cI.1, n0_by, .inl f0_by)), (q0_marks, .inl (cI.1, n0_marks, .inl f0_marks))] H := hP
      have hD : va_D A [(a0, .inr (6, [.int v0_thrown, .int v0_pieces, .ref q0_ax, .ref q0_ay, .ref q0_bx, .ref q0_by, .ref q0_marks, .ref a0_ways, .ref a0_gone, .int v0_planned, .int v0_corners, .int v0_polygons, .ref a0_plan, .ref a0_xs, .ref a0_ys, .long v0_twice, .int v0_length, .ref a0_wayX, .ref a0_wayY, .int v0_rings, .ref a0_first, .ref a0_size, .ref a0_areas, .ref a0_owner, .int v0_places, .ref a0_rx, .ref a0_ry])), (q0_ax, .inl (cI.1, n0_ax, .inl f0_ax)), (q0_bx, .inl (cI.1, n0_bx, .inl f0_bx)), (q0_ay, .inl (cI.1, n0_ay, .inl f0_ay)), (q0_by, .inl (cI.1, n0_by, .inl f0_by)), (q0_marks, .inl (cI.1, n0_marks, .inl f0_marks))] := hD
      refine lv_lstore (lv' := [(10, .long r_11), (9, .int s0), (0, .ref a0), (1, .int y1), (2, .long x2), (4, .long x4), (6, .int x6), (7, .int x7), (8, .int x8)]) hx hb d_Mod_right_177 hl (by decide) rfl (fun ls hl => ?_)
      refine lv_lload hx hb d_Mod_right_179 (lv_at hl 0 rfl) ?_
      refine lv_lconst (v := 0) hx hb d_Mod_right_181 (by decide) ?_
      refine W.lcmp hx hb d_Mod_right_182 ?_
      refine lv_if_le (tgt := 190) hx hb d_Mod_right_183 (by decide) (fun c_12 => ?_) (fun c_12 => ?_)
      · have hf := (if_pos c_12).symm.trans hf
        refine lv_iconst (v := 0) hx hb d_Mod_right_190 (by decide) ?_
        exact (s_Mod_right_191 p l e s m args below meth c dC dI cI A a0 a0_ways a0_gone a0_plan a0_xs a0_ys a0_wayX a0_wayY a0_first a0_size a0_areas a0_owner a0_rx a0_ry v0_thrown v0_pieces v0_planned v0_corners v0_polygons v0_twice v0_length v0_rings v0_places q0_ax n0_ax f0_ax q0_bx n0_bx f0_bx q0_ay n0_ay f0_ay q0_by n0_by f0_by q0_marks n0_marks f0_marks y1 rv F C0 hK hA  r39 hr39) x2 x4 x6 x7 s0 (0 : Int32) hf H locs hP hD hS ls (lv_sub hl [2, 3, 4, 5, 6, 7, 1] rfl)
      · have hf := (if_neg c_12).symm.trans hf
        refine lv_iconst (v := 1) hx hb d_Mod_right_186 (by decide) ?_
        refine lv_goto (tgt := 191) hx hb d_Mod_right_187 (by decide) ?_
        exact (s_Mod_right_191 p l e s m args below meth c dC dI cI A a0 a0_ways a0_gone a0_plan a0_xs a0_ys a0_wayX a0_wayY a0_first a0_size a0_areas a0_owner a0_rx a0_ry v0_thrown v0_pieces v0_planned v0_corners v0_polygons v0_twice v0_length v0_rings v0_places q0_ax n0_ax f0_ax q0_bx n0_bx f0_bx q0_ay n0_ay f0_ay q0_by n0_by f0_by q0_marks n0_marks f0_marks y1 rv F C0 hK hA  r39 hr39) x2 x4 x6 x7 s0 (1 : Int32) hf H locs hP hD hS ls (lv_sub hl [2, 3, 4, 5, 6, 7, 1] rfl)
def b_Mod_right_71 (F : Nat) (v0_pieces : Int32) (n0_ax : Nat) (f0_ax : Nat → Int32) (n0_bx : Nat) (f0_bx : Nat → Int32) (n0_ay : Nat) (f0_ay : Nat → Int32) (n0_by : Nat) (f0_by : Nat → Int32) (n0_marks : Nat) (f0_marks : Nat → Int32) (y1 : Int32) (r39 : Int64 → Int64 → Int32 → Int32 → Option (Int32)) (x2 : Int64) (x4 : Int64) (x6 : Int32) (x7 : Int32) (s0 : Int32) : Option (Int32) :=
  if x7 < 0 ∨ n0_by ≤ x7.toNatClampNeg then none else (if (lg_cmp ((2 : Int64) * ((f0_by x7.toNatClampNeg).toInt64)) x4) ≤ 0 then (b_Mod_right_96 F v0_pieces n0_ax f0_ax n0_bx f0_bx n0_ay f0_ay n0_by f0_by n0_marks f0_marks y1 r39 x2 x4 x6 x7 s0 (0 : Int32)) else (b_Mod_right_96 F v0_pieces n0_ax f0_ax n0_bx f0_bx n0_ay f0_ay n0_by f0_by n0_marks f0_marks y1 r39 x2 x4 x6 x7 s0 (1 : Int32)))
set_option maxHeartbeats 4000000 in
set_option maxRecDepth 100000 in
theorem s_Mod_right_71 (p : Program) (l : Launch) (e : Env) (s : State) (m : MethodId) (args : Array Value) (below : List Frame) (meth : Method) (c : Code) (dC : Nat → ClassId) (dI : Nat → Nat → Nat) (cI : dcG) (A : Nat → Prop) (a0 : Nat) (a0_ways : Nat) (a0_gone : Nat) (a0_plan : Nat) (a0_xs : Nat) (a0_ys : Nat) (a0_wayX : Nat) (a0_wayY : Nat) (a0_first : Nat) (a0_size : Nat) (a0_areas : Nat) (a0_owner : Nat) (a0_rx : Nat) (a0_ry : Nat) (v0_thrown : Int32) (v0_pieces : Int32) (v0_planned : Int32) (v0_corners : Int32) (v0_polygons : Int32) (v0_twice : Int64) (v0_length : Int32) (v0_rings : Int32) (v0_places : Int32) (q0_ax : Nat) (n0_ax : Nat) (f0_ax : Nat → Int32) (q0_bx : Nat) (n0_bx : Nat) (f0_bx : Nat → Int32) (q0_ay : Nat) (n0_ay : Nat) (f0_ay : Nat → Int32) (q0_by : Nat) (n0_by : Nat) (f0_by : Nat → Int32) (q0_marks : Nat) (n0_marks : Nat) (f0_marks : Nat → Int32) (y1 : Int32) (rv : Int32) (F : Nat) (C0 : dc_At p s m args meth c prog_9_method_18_code 12 R_Mod (some .int)) (hK : va_K (dC, dI) vwCl (dcT cI) s) (hA : ∀ q, s.heap.size ≤ q → A q) (r39 : Int64 → Int64 → Int32 → Int32 → Option (Int32)) (hr39 : T_Mod_right_39 p l e s m args below meth c dC dI cI A a0 a0_ways a0_gone a0_plan a0_xs a0_ys a0_wayX a0_wayY a0_first a0_size a0_areas a0_owner a0_rx a0_ry v0_thrown v0_pieces v0_planned v0_corners v0_polygons v0_twice v0_length v0_rings v0_places q0_ax n0_ax f0_ax q0_bx n0_bx f0_bx q0_ay n0_ay f0_ay q0_by n0_by f0_by q0_marks n0_marks f0_marks y1 rv r39) : T_Mod_right_71 p l e s m args below meth c dC dI cI A a0 a0_ways a0_gone a0_plan a0_xs a0_ys a0_wayX a0_wayY a0_first a0_size a0_areas a0_owner a0_rx a0_ry v0_thrown v0_pieces v0_planned v0_corners v0_polygons v0_twice v0_length v0_rings v0_places q0_ax n0_ax f0_ax q0_bx n0_bx f0_bx q0_ay n0_ay f0_ay q0_by n0_by f0_by q0_marks n0_marks f0_marks y1 rv (b_Mod_right_71 F v0_pieces n0_ax f0_ax n0_bx f0_bx n0_ay f0_ay n0_by f0_by n0_marks f0_marks y1 r39) := by
  obtain ⟨hx, hb, hml, hown, hts, hr, hlocks, hN⟩ := id C0
  intro x2 x4 x6 x7 s0 hf H locs hP hD hS ls hl
  unfold b_Mod_right_71 at hf
  refine lv_istore (lv' := [(8, .int s0), (0, .ref a0), (1, .int y1), (2, .long x2), (4, .long x4), (6, .int x6), (7, .int x7)]) hx hb d_Mod_right_71 hl (by decide) rfl (fun ls hl => ?_)
  refine lv_ldc2 (v := 2) hx hb hown (hts _ wm_787) d_Mod_right_73 ?_
  refine lv_aload_n hx hb d_Mod_right_76 rfl (lv_at hl 1 rfl) ?_
  refine va_get (D := (dC, dI)) (ci := 6) (v := .ref q0_by) (C := R_Mod) (T := F_Mod) (N := 27) hx hb hts i_Mod hown hK hP 0 rfl rfl 5 (by decide) (hts _ wm_628) (fun _ h9 => h9) rfl d_Mod_right_77 ?_
  refine lv_iload hx hb d_Mod_right_80 (lv_at hl 6 rfl) ?_
  have b_13 : vp_in x7 n0_by := fun z => by rw [if_pos z] at hf; cases hf
  have hf := (if_neg b_13).symm.trans hf
  refine va_iald hx hb hK hP 4 0 rfl rfl b_13 d_Mod_right_82 ?_
  refine lv_i2l hx hb d_Mod_right_83 rfl ?_
  refine lv_lmul hx hb d_Mod_right_84 ?_
  refine lv_lload hx hb d_Mod_right_85 (lv_at hl 4 rfl) ?_
  refine W.lcmp hx hb d_Mod_right_87 ?_
  refine lv_if_le (tgt := 95) hx hb d_Mod_right_88 (by decide) (fun c_14 => ?_) (fun c_14 => ?_)
  · have hf := (if_pos c_14).symm.trans hf
    refine lv_iconst (v := 0) hx hb d_Mod_right_95 (by decide) ?_
    exact (s_Mod_right_96 p l e s m args below meth c dC dI cI A a0 a0_ways a0_gone a0_plan a0_xs a0_ys a0_wayX a0_wayY a0_first a0_size a0_areas a0_owner a0_rx a0_ry v0_thrown v0_pieces v0_planned v0_corners v0_polygons v0_twice v0_length v0_rings v0_places q0_ax n0_ax f0_ax q0_bx n0_bx f0_bx q0_ay n0_ay f0_ay q0_by n0_by f0_by q0_marks n0_marks f0_marks y1 rv F C0 hK hA  r39 hr39) x2 x4 x6 x7 s0 (0 : Int32) hf H locs hP hD hS ls (lv_sub hl [1, 2, 3, 4, 5, 6, 0] rfl)
  · have hf := (if_neg c_14).symm.trans hf
    refine lv_iconst (v := 1) hx hb d_Mod_right_91 (by decide) ?_
    refine lv_goto (tgt := 96) hx hb d_Mod_right_92 (by decide) ?_
    exact (s_Mod_right_96 p l e s m args below meth c dC dI cI A a0 a0_ways a0_gone a0_plan a0_xs a0_ys a0_wayX a0_wayY a0_first a0_size a0_areas a0_owner a0_rx a0_ry v0_thrown v0_pieces v0_planned v0_corners v0_polygons v0_twice v0_length v0_rings v0_places q0_ax n0_ax f0_ax q0_bx n0_bx f0_bx q0_ay n0_ay f0_ay q0_by n0_by f0_by q0_marks n0_marks f0_marks y1 rv F C0 hK hA  r39 hr39) x2 x4 x6 x7 s0 (1 : Int32) hf H locs hP hD hS ls (lv_sub hl [1, 2, 3, 4, 5, 6, 0] rfl)
def b_Mod_right_39 (F : Nat) (v0_pieces : Int32) (n0_ax : Nat) (f0_ax : Nat → Int32) (n0_bx : Nat) (f0_bx : Nat → Int32) (n0_ay : Nat) (f0_ay : Nat → Int32) (n0_by : Nat) (f0_by : Nat → Int32) (n0_marks : Nat) (f0_marks : Nat → Int32) (y1 : Int32) (r39 : Int64 → Int64 → Int32 → Int32 → Option (Int32)) (x2 : Int64) (x4 : Int64) (x6 : Int32) (x7 : Int32) : Option (Int32) :=
  if v0_pieces ≤ x7 then (some x6) else (if x7 < 0 ∨ n0_ay ≤ x7.toNatClampNeg then none else (if (lg_cmp ((2 : Int64) * ((f0_ay x7.toNatClampNeg).toInt64)) x4) ≤ 0 then (b_Mod_right_71 F v0_pieces n0_ax f0_ax n0_bx f0_bx n0_ay f0_ay n0_by f0_by n0_marks f0_marks y1 r39 x2 x4 x6 x7 (0 : Int32)) else (b_Mod_right_71 F v0_pieces n0_ax f0_ax n0_bx f0_bx n0_ay f0_ay n0_by f0_by n0_marks f0_marks y1 r39 x2 x4 x6 x7 (1 : Int32))))
set_option maxHeartbeats 4000000 in
set_option maxRecDepth 100000 in
theorem s_Mod_right_39 (p : Program) (l : Launch) (e : Env) (s : State) (m : MethodId) (args : Array Value) (below : List Frame) (meth : Method) (c : Code) (dC : Nat → ClassId) (dI : Nat → Nat → Nat) (cI : dcG) (A : Nat → Prop) (a0 : Nat) (a0_ways : Nat) (a0_gone : Nat) (a0_plan : Nat) (a0_xs : Nat) (a0_ys : Nat) (a0_wayX : Nat) (a0_wayY : Nat) (a0_first : Nat) (a0_size : Nat) (a0_areas : Nat) (a0_owner : Nat) (a0_rx : Nat) (a0_ry : Nat) (v0_thrown : Int32) (v0_pieces : Int32) (v0_planned : Int32) (v0_corners : Int32) (v0_polygons : Int32) (v0_twice : Int64) (v0_length : Int32) (v0_rings : Int32) (v0_places : Int32) (q0_ax : Nat) (n0_ax : Nat) (f0_ax : Nat → Int32) (q0_bx : Nat) (n0_bx : Nat) (f0_bx : Nat → Int32) (q0_ay : Nat) (n0_ay : Nat) (f0_ay : Nat → Int32) (q0_by : Nat) (n0_by : Nat) (f0_by : Nat → Int32) (q0_marks : Nat) (n0_marks : Nat) (f0_marks : Nat → Int32) (y1 : Int32) (rv : Int32) (F : Nat) (C0 : dc_At p s m args meth c prog_9_method_18_code 12 R_Mod (some .int)) (hK : va_K (dC, dI) vwCl (dcT cI) s) (hA : ∀ q, s.heap.size ≤ q → A q) (r39 : Int64 → Int64 → Int32 → Int32 → Option (Int32)) (hr39 : T_Mod_right_39 p l e s m args below meth c dC dI cI A a0 a0_ways a0_gone a0_plan a0_xs a0_ys a0_wayX a0_wayY a0_first a0_size a0_areas a0_owner a0_rx a0_ry v0_thrown v0_pieces v0_planned v0_corners v0_polygons v0_twice v0_length v0_rings v0_places q0_ax n0_ax f0_ax q0_bx n0_bx f0_bx q0_ay n0_ay f0_ay q0_by n0_by f0_by q0_marks n0_marks f0_marks y1 rv r39) : T_Mod_right_39 p l e s m args below meth c dC dI cI A a0 a0_ways a0_gone a0_plan a0_xs a0_ys a0_wayX a0_wayY a0_first a0_size a0_areas a0_owner a0_rx a0_ry v0_thrown v0_pieces v0_planned v0_corners v0_polygons v0_twice v0_length v0_rings v0_places q0_ax n0_ax f0_ax q0_bx n0_bx f0_bx q0_ay n0_ay f0_ay q0_by n0_by f0_by q0_marks n0_marks f0_marks y1 rv (b_Mod_right_39 F v0_pieces n0_ax f0_ax n0_bx f0_bx n0_ay f0_ay n0_by f0_by n0_marks f0_marks y1 r39) := by
  obtain ⟨hx, hb, hml, hown, hts, hr, hlocks, hN⟩ := id C0
  intro x2 x4 x6 x7 hf H locs hP hD hS ls hl
  unfold b_Mod_right_39 at hf
  refine lv_iload hx hb d_Mod_right_39 (lv_at hl 5 rfl) ?_
  refine lv_aload_n hx hb d_Mod_right_41 rfl (lv_at hl 0 rfl) ?_
  refine va_get (D := (dC, dI)) (ci := 6) (v := .int v0_pieces) (C := R_Mod) (T := F_Mod) (N := 27) hx hb hts i_Mod hown hK hP 0 rfl rfl 1 (by decide) (hts _ wm_624) (fun _ h9 => h9) rfl d_Mod_right_42 ?_
  refine lv_icmp_ge (tgt := 214) hx hb d_Mod_right_45 (by decide) (fun c_15 => ?_) (fun c_15 => ?_)
  · have hf := (if_pos c_15).symm.trans hf
    refine lv_iload hx hb d_Mod_right_214 (lv_at hl 4 rfl) ?_
    have hg0 := Option.some.inj hf
    subst hg0
    have hP9 : va_P (dC, dI) vwCl [(a0, .inr (6, [.int v0_thrown, .int v0_pieces, .ref q0_ax, .ref q0_ay, .ref q0_bx, .ref q0_by, .ref q0_marks, .ref a0_ways, .ref a0_gone, .int v0_planned, .int v0_corners, .int v0_polygons, .ref a0_plan, .ref a0_xs, .ref a0_ys, .long v0_twice, .int v0_length, .ref a0_wayX, .ref a0_wayY, .int v0_rings, .ref a0_first, .ref a0_size, .ref a0_areas, .ref a0_owner, .int v0_places, .ref a0_rx, .ref a0_ry])), (q0_ax, .inl (cI.1, n0_ax, .inl f0_ax)), (q0_bx, .inl (cI.1, n0_bx, .inl f0_bx)), (q0_ay, .inl (cI.1, n0_ay, .inl f0_ay)), (q0_by, .inl (cI.1, n0_by, .inl f0_by)), (q0_marks, .inl (cI.1, n0_marks, .inl f0_marks))] H := hP.sub [0, 1, 2, 3, 4, 5] rfl
    have hD9 : va_D A [(a0, .inr (6, [.int v0_thrown, .int v0_pieces, .ref q0_ax, .ref q0_ay, .ref q0_bx, .ref q0_by, .ref q0_marks, .ref a0_ways, .ref a0_gone, .int v0_planned, .int v0_corners, .int v0_polygons, .ref a0_plan, .ref a0_xs, .ref a0_ys, .long v0_twice, .int v0_length, .ref a0_wayX, .ref a0_wayY, .int v0_rings, .ref a0_first, .ref a0_size, .ref a0_areas, .ref a0_owner, .int v0_places, .ref a0_rx, .ref a0_ry])), (q0_ax, .inl (cI.1, n0_ax, .inl f0_ax)), (q0_bx, .inl (cI.1, n0_bx, .inl f0_bx)), (q0_ay, .inl (cI.1, n0_ay, .inl f0_ay)), (q0_by, .inl (cI.1, n0_by, .inl f0_by)), (q0_marks, .inl (cI.1, n0_marks, .inl f0_marks))] := hD.sub [0, 1, 2, 3, 4, 5] rfl rfl
    exact W.iret (v := x6) hx hb hr (fun t ht hW => ⟨⟨rfl, (), trivial, by rw [ht]; exact hP9, hD9⟩, hS.F ht⟩) hS.2.2 d_Mod_right_216
  · have hf := (if_neg c_15).symm.trans hf
    refine lv_ldc2 (v := 2) hx hb hown (hts _ wm_787) d_Mod_right_48 ?_
    refine lv_aload_n hx hb d_Mod_right_51 rfl (lv_at hl 0 rfl) ?_
    refine va_get (D := (dC, dI)) (ci := 6) (v := .ref q0_ay) (C := R_Mod) (T := F_Mod) (N := 27) hx hb hts i_Mod hown hK hP 0 rfl rfl 3 (by decide) (hts _ wm_626) (fun _ h9 => h9) rfl d_Mod_right_52 ?_
    refine lv_iload hx hb d_Mod_right_55 (lv_at hl 5 rfl) ?_
    have b_16 : vp_in x7 n0_ay := fun z => by rw [if_pos z] at hf; cases hf
    have hf := (if_neg b_16).symm.trans hf
    refine va_iald hx hb hK hP 3 0 rfl rfl b_16 d_Mod_right_57 ?_
    refine lv_i2l hx hb d_Mod_right_58 rfl ?_
    refine lv_lmul hx hb d_Mod_right_59 ?_
    refine lv_lload hx hb d_Mod_right_60 (lv_at hl 3 rfl) ?_
    refine W.lcmp hx hb d_Mod_right_62 ?_
    refine lv_if_le (tgt := 70) hx hb d_Mod_right_63 (by decide) (fun c_17 => ?_) (fun c_17 => ?_)
    · have hf := (if_pos c_17).symm.trans hf
      refine lv_iconst (v := 0) hx hb d_Mod_right_70 (by decide) ?_
      exact (s_Mod_right_71 p l e s m args below meth c dC dI cI A a0 a0_ways a0_gone a0_plan a0_xs a0_ys a0_wayX a0_wayY a0_first a0_size a0_areas a0_owner a0_rx a0_ry v0_thrown v0_pieces v0_planned v0_corners v0_polygons v0_twice v0_length v0_rings v0_places q0_ax n0_ax f0_ax q0_bx n0_bx f0_bx q0_ay n0_ay f0_ay q0_by n0_by f0_by q0_marks n0_marks f0_marks y1 rv F C0 hK hA  r39 hr39) x2 x4 x6 x7 (0 : Int32) hf H locs hP hD hS ls (lv_sub hl [0, 1, 2, 3, 4, 5] rfl)
    · have hf := (if_neg c_17).symm.trans hf
      refine lv_iconst (v := 1) hx hb d_Mod_right_66 (by decide) ?_
      refine lv_goto (tgt := 71) hx hb d_Mod_right_67 (by decide) ?_
      exact (s_Mod_right_71 p l e s m args below meth c dC dI cI A a0 a0_ways a0_gone a0_plan a0_xs a0_ys a0_wayX a0_wayY a0_first a0_size a0_areas a0_owner a0_rx a0_ry v0_thrown v0_pieces v0_planned v0_corners v0_polygons v0_twice v0_length v0_rings v0_places q0_ax n0_ax f0_ax q0_bx n0_bx f0_bx q0_ay n0_ay f0_ay q0_by n0_by f0_by q0_marks n0_marks f0_marks y1 rv F C0 hK hA  r39 hr39) x2 x4 x6 x7 (1 : Int32) hf H locs hP hD hS ls (lv_sub hl [0, 1, 2, 3, 4, 5] rfl)
theorem u_Mod_right_39 (p : Program) (l : Launch) (e : Env) (s : State) (m : MethodId) (args : Array Value) (below : List Frame) (meth : Method) (c : Code) (dC : Nat → ClassId) (dI : Nat → Nat → Nat) (cI : dcG) (A : Nat → Prop) (a0 : Nat) (a0_ways : Nat) (a0_gone : Nat) (a0_plan : Nat) (a0_xs : Nat) (a0_ys : Nat) (a0_wayX : Nat) (a0_wayY : Nat) (a0_first : Nat) (a0_size : Nat) (a0_areas : Nat) (a0_owner : Nat) (a0_rx : Nat) (a0_ry : Nat) (v0_thrown : Int32) (v0_pieces : Int32) (v0_planned : Int32) (v0_corners : Int32) (v0_polygons : Int32) (v0_twice : Int64) (v0_length : Int32) (v0_rings : Int32) (v0_places : Int32) (q0_ax : Nat) (n0_ax : Nat) (f0_ax : Nat → Int32) (q0_bx : Nat) (n0_bx : Nat) (f0_bx : Nat → Int32) (q0_ay : Nat) (n0_ay : Nat) (f0_ay : Nat → Int32) (q0_by : Nat) (n0_by : Nat) (f0_by : Nat → Int32) (q0_marks : Nat) (n0_marks : Nat) (f0_marks : Nat → Int32) (y1 : Int32) (rv : Int32) (F : Nat) (C0 : dc_At p s m args meth c prog_9_method_18_code 12 R_Mod (some .int)) (hK : va_K (dC, dI) vwCl (dcT cI) s) (hA : ∀ q, s.heap.size ≤ q → A q) : ∀ n : Nat, T_Mod_right_39 p l e s m args below meth c dC dI cI A a0 a0_ways a0_gone a0_plan a0_xs a0_ys a0_wayX a0_wayY a0_first a0_size a0_areas a0_owner a0_rx a0_ry v0_thrown v0_pieces v0_planned v0_corners v0_polygons v0_twice v0_length v0_rings v0_places q0_ax n0_ax f0_ax q0_bx n0_bx f0_bx q0_ay n0_ay f0_ay q0_by n0_by f0_by q0_marks n0_marks f0_marks y1 rv (lp (fun _ _ _ _ => none) (b_Mod_right_39 F v0_pieces n0_ax f0_ax n0_bx f0_bx n0_ay f0_ay n0_by f0_by n0_marks f0_marks y1) n) := by
  intro n
  induction n with
  | zero => intro x2 x4 x6 x7 hf; cases hf
  | succ n ih => exact s_Mod_right_39 p l e s m args below meth c dC dI cI A a0 a0_ways a0_gone a0_plan a0_xs a0_ys a0_wayX a0_wayY a0_first a0_size a0_areas a0_owner a0_rx a0_ry v0_thrown v0_pieces v0_planned v0_corners v0_polygons v0_twice v0_length v0_rings v0_places q0_ax n0_ax f0_ax q0_bx n0_bx f0_bx q0_ay n0_ay f0_ay q0_by n0_by f0_by q0_marks n0_marks f0_marks y1 rv F C0 hK hA   (lp (fun _ _ _ _ => none) (b_Mod_right_39 F v0_pieces n0_ax f0_ax n0_bx f0_bx n0_ay f0_ay n0_by f0_by n0_marks f0_marks y1) n) ih
def b_Mod_right_0 (F : Nat) (v0_pieces : Int32) (n0_ax : Nat) (f0_ax : Nat → Int32) (n0_bx : Nat) (f0_bx : Nat → Int32) (n0_ay : Nat) (f0_ay : Nat → Int32) (n0_by : Nat) (f0_by : Nat → Int32) (n0_marks : Nat) (f0_marks : Nat → Int32) (y1 : Int32)  : Option (Int32) :=
  if y1 < 0 ∨ n0_ax ≤ y1.toNatClampNeg then none else (if y1 < 0 ∨ n0_bx ≤ y1.toNatClampNeg then none else (if y1 < 0 ∨ n0_ay ≤ y1.toNatClampNeg then none else (if y1 < 0 ∨ n0_by ≤ y1.toNatClampNeg then none else (lp (fun _ _ _ _ => none) (b_Mod_right_39 F v0_pieces n0_ax f0_ax n0_bx f0_bx n0_ay f0_ay n0_by f0_by n0_marks f0_marks y1) F (((f0_ax y1.toNatClampNeg).toInt64) + ((f0_bx y1.toNatClampNeg).toInt64)) (((f0_ay y1.toNatClampNeg).toInt64) + ((f0_by y1.toNatClampNeg).toInt64)) (0 : Int32) (0 : Int32)))))
set_option maxHeartbeats 4000000 in
set_option maxRecDepth 100000 in
theorem s_Mod_right_0 (p : Program) (l : Launch) (e : Env) (s : State) (m : MethodId) (args : Array Value) (below : List Frame) (meth : Method) (c : Code) (dC : Nat → ClassId) (dI : Nat → Nat → Nat) (cI : dcG) (A : Nat → Prop) (a0 : Nat) (a0_ways : Nat) (a0_gone : Nat) (a0_plan : Nat) (a0_xs : Nat) (a0_ys : Nat) (a0_wayX : Nat) (a0_wayY : Nat) (a0_first : Nat) (a0_size : Nat) (a0_areas : Nat) (a0_owner : Nat) (a0_rx : Nat) (a0_ry : Nat) (v0_thrown : Int32) (v0_pieces : Int32) (v0_planned : Int32) (v0_corners : Int32) (v0_polygons : Int32) (v0_twice : Int64) (v0_length : Int32) (v0_rings : Int32) (v0_places : Int32) (q0_ax : Nat) (n0_ax : Nat) (f0_ax : Nat → Int32) (q0_bx : Nat) (n0_bx : Nat) (f0_bx : Nat → Int32) (q0_ay : Nat) (n0_ay : Nat) (f0_ay : Nat → Int32) (q0_by : Nat) (n0_by : Nat) (f0_by : Nat → Int32) (q0_marks : Nat) (n0_marks : Nat) (f0_marks : Nat → Int32) (y1 : Int32) (rv : Int32) (F : Nat) (C0 : dc_At p s m args meth c prog_9_method_18_code 12 R_Mod (some .int)) (hK : va_K (dC, dI) vwCl (dcT cI) s) (hA : ∀ q, s.heap.size ≤ q → A q) : T_Mod_right_0 p l e s m args below meth c dC dI cI A a0 a0_ways a0_gone a0_plan a0_xs a0_ys a0_wayX a0_wayY a0_first a0_size a0_areas a0_owner a0_rx a0_ry v0_thrown v0_pieces v0_planned v0_corners v0_polygons v0_twice v0_length v0_rings v0_places q0_ax n0_ax f0_ax q0_bx n0_bx f0_bx q0_ay n0_ay f0_ay q0_by n0_by f0_by q0_marks n0_marks f0_marks y1 rv (b_Mod_right_0 F v0_pieces n0_ax f0_ax n0_bx f0_bx n0_ay f0_ay n0_by f0_by n0_marks f0_marks y1) := by
  obtain ⟨hx, hb, hml, hown, hts, hr, hlocks, hN⟩ := id C0
  intro hf H locs hP hD hS ls hl
  unfold b_Mod_right_0 at hf
  refine lv_aload_n hx hb d_Mod_right_0 rfl (lv_at hl 0 rfl) ?_
  refine va_get (D := (dC, dI)) (ci := 6) (v := .ref q0_ax) (C := R_Mod) (T := F_Mod) (N := 27) hx hb hts i_Mod hown hK hP 0 rfl rfl 2 (by decide) (hts _ wm_625) (fun _ h9 => h9) rfl d_Mod_right_1 ?_
  refine lv_iload_n hx hb d_Mod_right_4 rfl (lv_at hl 1 rfl) ?_
  have b_18 : vp_in y1 n0_ax := fun z => by rw [if_pos z] at hf; cases hf
  have hf := (if_neg b_18).symm.trans hf
  refine va_iald hx hb hK hP 1 0 rfl rfl b_18 d_Mod_right_5 ?_
  refine lv_i2l hx hb d_Mod_right_6 rfl ?_
  refine lv_aload_n hx hb d_Mod_right_7 rfl (lv_at hl 0 rfl) ?_
  refine va_get (D := (dC, dI)) (ci := 6) (v := .ref q0_bx) (C := R_Mod) (T := F_Mod) (N := 27) hx hb hts i_Mod hown hK hP 0 rfl rfl 4 (by decide) (hts _ wm_627) (fun _ h9 => h9) rfl d_Mod_right_8 ?_
  refine lv_iload_n hx hb d_Mod_right_11 rfl (lv_at hl 1 rfl) ?_
  have b_19 : vp_in y1 n0_bx := fun z => by rw [if_pos z] at hf; cases hf
  have hf := (if_neg b_19).symm.trans hf
  refine va_iald hx hb hK hP 2 0 rfl rfl b_19 d_Mod_right_12 ?_
  refine lv_i2l hx hb d_Mod_right_13 rfl ?_
  refine lv_ladd hx hb d_Mod_right_14 ?_
  refine lv_lstore_n (lv' := [(2, .long (((f0_ax y1.toNatClampNeg).toInt64) + ((f0_bx y1.toNatClampNeg).toInt64))), (0, .ref a0), (1, .int y1)]) hx hb d_Mod_right_15 rfl hl (by decide) rfl (fun ls hl => ?_)
  refine lv_aload_n hx hb d_Mod_right_16 rfl (lv_at hl 1 rfl) ?_
  refine va_get (D := (dC, dI)) (ci := 6) (v := .ref q0_ay) (C := R_Mod) (T := F_Mod) (N := 27) hx hb hts i_Mod hown hK hP 0 rfl rfl 3 (by decide) (hts _ wm_626) (fun _ h9 => h9) rfl d_Mod_right_17 ?_
  refine lv_iload_n hx hb d_Mod_right_20 rfl (lv_at hl 2 rfl) ?_
  have b_20 : vp_in y1 n0_ay := fun z => by rw [if_pos z] at hf; cases hf
  have hf := (if_neg b_20).symm.trans hf
  refine va_iald hx hb hK hP 3 0 rfl rfl b_20 d_Mod_right_21 ?_
  refine lv_i2l hx hb d_Mod_right_22 rfl ?_
  refine lv_aload_n hx hb d_Mod_right_23 rfl (lv_at hl 1 rfl) ?_
  refine va_get (D := (dC, dI)) (ci := 6) (v := .ref q0_by) (C := R_Mod) (T := F_Mod) (N := 27) hx hb hts i_Mod hown hK hP 0 rfl rfl 5 (by decide) (hts _ wm_628) (fun _ h9 => h9) rfl d_Mod_right_24 ?_
  refine lv_iload_n hx hb d_Mod_right_27 rfl (lv_at hl 2 rfl) ?_
  have b_21 : vp_in y1 n0_by := fun z => by rw [if_pos z] at hf; cases hf
  have hf := (if_neg b_21).symm.trans hf
  refine va_iald hx hb hK hP 4 0 rfl rfl b_21 d_Mod_right_28 ?_
  refine lv_i2l hx hb d_Mod_right_29 rfl ?_
  refine lv_ladd hx hb d_Mod_right_30 ?_
  refine lv_lstore (lv' := [(4, .long (((f0_ay y1.toNatClampNeg).toInt64) + ((f0_by y1.toNatClampNeg).toInt64))), (2, .long (((f0_ax y1.toNatClampNeg).toInt64) + ((f0_bx y1.toNatClampNeg).toInt64))), (0, .ref a0), (1, .int y1)]) hx hb d_Mod_right_31 hl (by decide) rfl (fun ls hl => ?_)
  refine lv_iconst (v := 0) hx hb d_Mod_right_33 (by decide) ?_
  refine lv_istore (lv' := [(6, .int (0 : Int32)), (4, .long (((f0_ay y1.toNatClampNeg).toInt64) + ((f0_by y1.toNatClampNeg).toInt64))), (2, .long (((f0_ax y1.toNatClampNeg).toInt64) + ((f0_bx y1.toNatClampNeg).toInt64))), (0, .ref a0), (1, .int y1)]) hx hb d_Mod_right_34 hl (by decide) rfl (fun ls hl => ?_)
  refine lv_iconst (v := 0) hx hb d_Mod_right_36 (by decide) ?_
  refine lv_istore (lv' := [(7, .int (0 : Int32)), (6, .int (0 : Int32)), (4, .long (((f0_ay y1.toNatClampNeg).toInt64) + ((f0_by y1.toNatClampNeg).toInt64))), (2, .long (((f0_ax y1.toNatClampNeg).toInt64) + ((f0_bx y1.toNatClampNeg).toInt64))), (0, .ref a0), (1, .int y1)]) hx hb d_Mod_right_37 hl (by decide) rfl (fun ls hl => ?_)
  exact (u_Mod_right_39 p l e s m args below meth c dC dI cI A a0 a0_ways a0_gone a0_plan a0_xs a0_ys a0_wayX a0_wayY a0_first a0_size a0_areas a0_owner a0_rx a0_ry v0_thrown v0_pieces v0_planned v0_corners v0_polygons v0_twice v0_length v0_rings v0_places q0_ax n0_ax f0_ax q0_bx n0_bx f0_bx q0_ay n0_ay f0_ay q0_by n0_by f0_by q0_marks n0_marks f0_marks y1 rv F C0 hK hA   F) (((f0_ax y1.toNatClampNeg).toInt64) + ((f0_bx y1.toNatClampNeg).toInt64)) (((f0_ay y1.toNatClampNeg).toInt64) + ((f0_by y1.toNatClampNeg).toInt64)) (0 : Int32) (0 : Int32) hf H locs hP hD hS ls (lv_sub hl [4, 5, 3, 2, 1, 0] rfl)
def f_Mod_right (F : Nat) (v0_pieces : Int32) (n0_ax : Nat) (f0_ax : Nat → Int32) (n0_bx : Nat) (f0_bx : Nat → Int32) (n0_ay : Nat) (f0_ay : Nat → Int32) (n0_by : Nat) (f0_by : Nat → Int32) (n0_marks : Nat) (f0_marks : Nat → Int32) (y1 : Int32) : Option (Int32) :=
  b_Mod_right_0 F v0_pieces n0_ax f0_ax n0_bx f0_bx n0_ay f0_ay n0_by f0_by n0_marks f0_marks y1 
set_option maxHeartbeats 4000000 in
set_option maxRecDepth 100000 in
theorem c_Mod_right (l : Launch) (dC : Nat → ClassId) (dI : Nat → Nat → Nat) (cI : dcG) (a0 : Nat) (a0_ways : Nat) (a0_gone : Nat) (a0_plan : Nat) (a0_xs : Nat) (a0_ys : Nat) (a0_wayX : Nat) (a0_wayY : Nat) (a0_first : Nat) (a0_size : Nat) (a0_areas : Nat) (a0_owner : Nat) (a0_rx : Nat) (a0_ry : Nat) (v0_thrown : Int32) (v0_pieces : Int32) (v0_planned : Int32) (v0_corners : Int32) (v0_polygons : Int32) (v0_twice : Int64) (v0_length : Int32) (v0_rings : Int32) (v0_places : Int32) (q0_ax : Nat) (n0_ax : Nat) (f0_ax : Nat → Int32) (q0_bx : Nat) (n0_bx : Nat) (f0_bx : Nat → Int32) (q0_ay : Nat) (n0_ay : Nat) (f0_ay : Nat → Int32) (q0_by : Nat) (n0_by : Nat) (f0_by : Nat → Int32) (q0_marks : Nat) (n0_marks : Nat) (f0_marks : Nat → Int32) (y1 : Int32) (rv : Int32) (sz : Nat) (F : Nat) (hf : f_Mod_right F v0_pieces n0_ax f0_ax n0_bx f0_bx n0_ay f0_ay n0_by f0_by n0_marks f0_marks y1 = some rv) : Met l y_Mod_right w_Mod_right { frames := 1, cells := 0, slots := 0, locals := 27 } (dc_Pre (dC, dI) (dcT cI) [(a0, .inr (6, [.int v0_thrown, .int v0_pieces, .ref q0_ax, .ref q0_ay, .ref q0_bx, .ref q0_by, .ref q0_marks, .ref a0_ways, .ref a0_gone, .int v0_planned, .int v0_corners, .int v0_polygons, .ref a0_plan, .ref a0_xs, .ref a0_ys, .long v0_twice, .int v0_length, .ref a0_wayX, .ref a0_wayY, .int v0_rings, .ref a0_first, .ref a0_size, .ref a0_areas, .ref a0_owner, .int v0_places, .ref a0_rx, .ref a0_ry])), (q0_ax, .inl (cI.1, n0_ax, .inl f0_ax)), (q0_bx, .inl (cI.1, n0_bx, .inl f0_bx)), (q0_ay, .inl (cI.1, n0_ay, .inl f0_ay)), (q0_by, .inl (cI.1, n0_by, .inl f0_by)), (q0_marks, .inl (cI.1, n0_marks, .inl f0_marks))] sz [.ref a0, .int y1]) (dc_Q (dC, dI) (some (.int rv)) (fun x : Unit => True) (fun x => [(a0, .inr (6, [.int v0_thrown, .int v0_pieces, .ref q0_ax, .ref q0_ay, .ref q0_bx, .ref q0_by, .ref q0_marks, .ref a0_ways, .ref a0_gone, .int v0_planned, .int v0_corners, .int v0_polygons, .ref a0_plan, .ref a0_xs, .ref a0_ys, .long v0_twice, .int v0_length, .ref a0_wayX, .ref a0_wayY, .int v0_rings, .ref a0_first, .ref a0_size, .ref a0_areas, .ref a0_owner, .int v0_places, .ref a0_rx, .ref a0_ry])), (q0_ax, .inl (cI.1, n0_ax, .inl f0_ax)), (q0_bx, .inl (cI.1, n0_bx, .inl f0_bx)), (q0_ay, .inl (cI.1, n0_ay, .inl f0_ay)), (q0_by, .inl (cI.1, n0_by, .inl f0_by)), (q0_marks, .inl (cI.1, n0_marks, .inl f0_marks))]) (va_A [(a0, .inr (6, [.int v0_thrown, .int v0_pieces, .ref q0_ax, .ref q0_ay, .ref q0_bx, .ref q0_by, .ref q0_marks, .ref a0_ways, .ref a0_gone, .int v0_planned, .int v0_corners, .int v0_polygons, .ref a0_plan, .ref a0_xs, .ref a0_ys, .long v0_twice, .int v0_length, .ref a0_wayX, .ref a0_wayY, .int v0_rings, .ref a0_first, .ref a0_size, .ref a0_areas, .ref a0_owner, .int v0_places, .ref a0_rx, .ref a0_ry])), (q0_ax, .inl (cI.1, n0_ax, .inl f0_ax)), (q0_bx, .inl (cI.1, n0_bx, .inl f0_bx)), (q0_ay, .inl (cI.1, n0_ay, .inl f0_ay)), (q0_by, .inl (cI.1, n0_by, .inl f0_by)), (q0_marks, .inl (cI.1, n0_marks, .inl f0_marks))] sz)) 0 0 (va_A [(a0, .inr (6, [.int v0_thrown, .int v0_pieces, .ref q0_ax, .ref q0_ay, .ref q0_bx, .ref q0_by, .ref q0_marks, .ref a0_ways, .ref a0_gone, .int v0_planned, .int v0_corners, .int v0_polygons, .ref a0_plan, .ref a0_xs, .ref a0_ys, .long v0_twice, .int v0_length, .ref a0_wayX, .ref a0_wayY, .int v0_rings, .ref a0_first, .ref a0_size, .ref a0_areas, .ref a0_owner, .int v0_places, .ref a0_rx, .ref a0_ry])), (q0_ax, .inl (cI.1, n0_ax, .inl f0_ax)), (q0_bx, .inl (cI.1, n0_bx, .inl f0_bx)), (q0_ay, .inl (cI.1, n0_ay, .inl f0_ay)), (q0_by, .inl (cI.1, n0_by, .inl f0_by)), (q0_marks, .inl (cI.1, n0_marks, .inl f0_marks))] sz) := by
  refine Met.ofW (cc := prog_9_method_18_code) (maxL := 12) (ret := (some .int)) (by decide) rfl ?_
  intro p e s m args below meth c s₁ B hml hv
  obtain ⟨rfl, hsz, hP, hK, hD0, hN⟩ := hv
  have C0 : dc_At p s m [.ref a0, .int y1].toArray meth c prog_9_method_18_code 12 R_Mod (some .int) := ⟨B.exec, B.bytes, hml, findClass_of_methodNamed B.named, fun w h => atoms_spec (ws := w_Mod_right) B.pre w (List.mem_cons_of_mem _ h), B.returns, B.notSynchronized, hN⟩
  subst hsz
  have hD := hD0.self (sz := s.heap.size)
  generalize hAe : va_A [(a0, .inr (6, [.int v0_thrown, .int v0_pieces, .ref q0_ax, .ref q0_ay, .ref q0_bx, .ref q0_by, .ref q0_marks, .ref a0_ways, .ref a0_gone, .int v0_planned, .int v0_corners, .int v0_polygons, .ref a0_plan, .ref a0_xs, .ref a0_ys, .long v0_twice, .int v0_length, .ref a0_wayX, .ref a0_wayY, .int v0_rings, .ref a0_first, .ref a0_size, .ref a0_areas, .ref a0_owner, .int v0_places, .ref a0_rx, .ref a0_ry])), (q0_ax, .inl (cI.1, n0_ax, .inl f0_ax)), (q0_bx, .inl (cI.1, n0_bx, .inl f0_bx)), (q0_ay, .inl (cI.1, n0_ay, .inl f0_ay)), (q0_by, .inl (cI.1, n0_by, .inl f0_by)), (q0_marks, .inl (cI.1, n0_marks, .inl f0_marks))] s.heap.size = A at hD ⊢
  have hA : ∀ q : Nat, s.heap.size ≤ q → A q := fun q h => by rw [← hAe]; exact Or.inr h
  have hl := lv_entry ([.ref a0, .int y1]) (n := 12) (Nat.le_of_ble_eq_true rfl)
  rw [lg_entry_eq]
  generalize (lg_sl ([.ref a0, .int y1]) ++ List.replicate (12 - (lg_sl ([.ref a0, .int y1])).length) Slot.unset).toArray = ls at hl ⊢
  exact s_Mod_right_0 p l e s m _ below meth c dC dI cI A a0 a0_ways a0_gone a0_plan a0_xs a0_ys a0_wayX a0_wayY a0_first a0_size a0_areas a0_owner a0_rx a0_ry v0_thrown v0_pieces v0_planned v0_corners v0_polygons v0_twice v0_length v0_rings v0_places q0_ax n0_ax f0_ax q0_bx n0_bx f0_bx q0_ay n0_ay f0_ay q0_by n0_by f0_by q0_marks n0_marks f0_marks y1 rv F C0 hK hA  hf s.heap [] hP hD va_S.rf ls (lv_sub hl [0, 1] rfl)
def T_Mod_isResult_25 (p : Program) (l : Launch) (e : Env) (s : State) (m : MethodId) (args : Array Value) (below : List Frame) (meth : Method) (c : Code) (dC : Nat → ClassId) (dI : Nat → Nat → Nat) (cI : dcG) (A : Nat → Prop) (y0 : Int32) (y1 : Int32) (rv : Bool) (g : Int32 → Int32 → Option (Bool)) : Prop :=
  ∀ (x2 : Int32) (s0 : Int32), g x2 s0 = some rv → 
  ∀ (H : Heap) (locs : List Loc), va_P (dC, dI) vwCl [] H → va_D A [] → va_S A s.heap H locs → ∀ (ls : Array Slot), lv_has ls 4 [(0, .int y0), (1, .int y1), (2, .int x2)] →
  W p l e { frames := 0, cells := 0, slots := 0, locals := 0 } s m args below meth c H locs 0 0 (MQ below (dc_Q (dC, dI) (some (.int (bI rv))) (fun x : Unit => True) (fun x => []) A) args s 0 0 A) (F0 m 25 ls [.int s0])
def T_Mod_isResult_12 (p : Program) (l : Launch) (e : Env) (s : State) (m : MethodId) (args : Array Value) (below : List Frame) (meth : Method) (c : Code) (dC : Nat → ClassId) (dI : Nat → Nat → Nat) (cI : dcG) (A : Nat → Prop) (y0 : Int32) (y1 : Int32) (rv : Bool) (g : Int32 → Option (Bool)) : Prop :=
  ∀ (s0 : Int32), g s0 = some rv → 
  ∀ (H : Heap) (locs : List Loc), va_P (dC, dI) vwCl [] H → va_D A [] → va_S A s.heap H locs → ∀ (ls : Array Slot), lv_has ls 4 [(0, .int y0), (1, .int y1)] →
  W p l e { frames := 0, cells := 0, slots := 0, locals := 0 } s m args below meth c H locs 0 0 (MQ below (dc_Q (dC, dI) (some (.int (bI rv))) (fun x : Unit => True) (fun x => []) A) args s 0 0 A) (F0 m 12 ls [.int s0])
def T_Mod_isResult_0 (p : Program) (l : Launch) (e : Env) (s : State) (m : MethodId) (args : Array Value) (below : List Frame) (meth : Method) (c : Code) (dC : Nat → ClassId) (dI : Nat → Nat → Nat) (cI : dcG) (A : Nat → Prop) (y0 : Int32) (y1 : Int32) (rv : Bool) (g : Option (Bool)) : Prop :=
  g  = some rv → 
  ∀ (H : Heap) (locs : List Loc), va_P (dC, dI) vwCl [] H → va_D A [] → va_S A s.heap H locs → ∀ (ls : Array Slot), lv_has ls 4 [(0, .int y0), (1, .int y1)] →
  W p l e { frames := 0, cells := 0, slots := 0, locals := 0 } s m args below meth c H locs 0 0 (MQ below (dc_Q (dC, dI) (some (.int (bI rv))) (fun x : Unit => True) (fun x => []) A) args s 0 0 A) (F0 m 0 ls [])
def b_Mod_isResult_25 (y0 : Int32) (y1 : Int32) (x2 : Int32) (s0 : Int32) : Option (Bool) :=
  if y0 = 0 then (if x2 = 0 then (some false) else (if s0 = 0 then (some false) else (some true))) else (if y0 = (1 : Int32) then (if x2 = 0 then (if s0 = 0 then (some false) else (some true)) else (some true)) else (if y0 = (2 : Int32) then (if x2 = 0 then (some false) else (if s0 = 0 then (some true) else (some false))) else (if y0 = (3 : Int32) then (if x2 = s0 then (some false) else (some true)) else (if s0 = 0 then (some false) else (if x2 = 0 then (some true) else (some false))))))
set_option maxHeartbeats 4000000 in
set_option maxRecDepth 100000 in
theorem s_Mod_isResult_25 (p : Program) (l : Launch) (e : Env) (s : State) (m : MethodId) (args : Array Value) (below : List Frame) (meth : Method) (c : Code) (dC : Nat → ClassId) (dI : Nat → Nat → Nat) (cI : dcG) (A : Nat → Prop) (y0 : Int32) (y1 : Int32) (rv : Bool) (C0 : dc_At p s m args meth c prog_9_method_19_code 4 R_Mod (some .boolean)) (hK : va_K (dC, dI) vwCl (dcT cI) s) (hA : ∀ q, s.heap.size ≤ q → A q) : T_Mod_isResult_25 p l e s m args below meth c dC dI cI A y0 y1 rv (b_Mod_isResult_25 y0 y1) := by
  obtain ⟨hx, hb, hml, hown, hts, hr, hlocks, hN⟩ := id C0
  intro x2 s0 hf H locs hP hD hS ls hl
  unfold b_Mod_isResult_25 at hf
  refine lv_istore_n (lv' := [(3, .int s0), (0, .int y0), (1, .int y1), (2, .int x2)]) hx hb d_Mod_isResult_25 rfl hl (by decide) rfl (fun ls hl => ?_)
  refine lv_iload_n hx hb d_Mod_isResult_26 rfl (lv_at hl 1 rfl) ?_
  refine lv_if_ne (tgt := 46) hx hb d_Mod_isResult_27 (by decide) (fun c_1 => ?_) (fun c_1 => ?_)
  · have hf := (if_neg c_1).symm.trans hf
    refine lv_iload_n hx hb d_Mod_isResult_46 rfl (lv_at hl 1 rfl) ?_
    refine lv_iconst (v := 1) hx hb d_Mod_isResult_47 (by decide) ?_
    refine lv_icmp_ne (tgt := 67) hx hb d_Mod_isResult_48 (by decide) (fun c_2 => ?_) (fun c_2 => ?_)
    · have hf := (if_neg c_2).symm.trans hf
      refine lv_iload_n hx hb d_Mod_isResult_67 rfl (lv_at hl 1 rfl) ?_
      refine lv_iconst (v := 2) hx hb d_Mod_isResult_68 (by decide) ?_
      refine lv_icmp_ne (tgt := 88) hx hb d_Mod_isResult_69 (by decide) (fun c_3 => ?_) (fun c_3 => ?_)
      · have hf := (if_neg c_3).symm.trans hf
        refine lv_iload_n hx hb d_Mod_isResult_88 rfl (lv_at hl 1 rfl) ?_
        refine lv_iconst (v := 3) hx hb d_Mod_isResult_89 (by decide) ?_
        refine lv_icmp_ne (tgt := 106) hx hb d_Mod_isResult_90 (by decide) (fun c_4 => ?_) (fun c_4 => ?_)
        · have hf := (if_neg c_4).symm.trans hf
          refine lv_iload_n hx hb d_Mod_isResult_106 rfl (lv_at hl 0 rfl) ?_
          refine lv_if_eq (tgt := 118) hx hb d_Mod_isResult_107 (by decide) (fun c_5 => ?_) (fun c_5 => ?_)
          · have hf := (if_pos c_5).symm.trans hf
            refine lv_iconst (v := 0) hx hb d_Mod_isResult_118 (by decide) ?_
            have hg0 := Option.some.inj hf
            subst hg0
            have hP9 : va_P (dC, dI) vwCl [] H := hP.sub [] rfl
            have hD9 : va_D A [] := hD.sub [] rfl rfl
            exact W.zret (v := (0 : Int32)) hx hb hr (nw_b false) (fun t ht hW => ⟨⟨rfl, (), trivial, by rw [ht]; exact hP9, hD9⟩, hS.F ht⟩) hS.2.2 d_Mod_isResult_119
          · have hf := (if_neg c_5).symm.trans hf
            refine lv_iload_n hx hb d_Mod_isResult_110 rfl (lv_at hl 3 rfl) ?_
            refine lv_if_ne (tgt := 118) hx hb d_Mod_isResult_111 (by decide) (fun c_6 => ?_) (fun c_6 => ?_)
            · have hf := (if_neg c_6).symm.trans hf
              refine lv_iconst (v := 0) hx hb d_Mod_isResult_118 (by decide) ?_
              have hg0 := Option.some.inj hf
              subst hg0
              have hP9 : va_P (dC, dI) vwCl [] H := hP.sub [] rfl
              have hD9 : va_D A [] := hD.sub [] rfl rfl
              exact W.zret (v := (0 : Int32)) hx hb hr (nw_b false) (fun t ht hW => ⟨⟨rfl, (), trivial, by rw [ht]; exact hP9, hD9⟩, hS.F ht⟩) hS.2.2 d_Mod_isResult_119
            · have hf := (if_pos c_6).symm.trans hf
              refine lv_iconst (v := 1) hx hb d_Mod_isResult_114 (by decide) ?_
              refine lv_goto (tgt := 119) hx hb d_Mod_isResult_115 (by decide) ?_
              have hg0 := Option.some.inj hf
              subst hg0
              have hP9 : va_P (dC, dI) vwCl [] H := hP.sub [] rfl
              have hD9 : va_D A [] := hD.sub [] rfl rfl
              exact W.zret (v := (1 : Int32)) hx hb hr (nw_b true) (fun t ht hW => ⟨⟨rfl, (), trivial, by rw [ht]; exact hP9, hD9⟩, hS.F ht⟩) hS.2.2 d_Mod_isResult_119
        · have hf := (if_pos c_4).symm.trans hf
          refine lv_iload_n hx hb d_Mod_isResult_93 rfl (lv_at hl 3 rfl) ?_
          refine lv_iload_n hx hb d_Mod_isResult_94 rfl (lv_at hl 0 rfl) ?_
          refine lv_icmp_eq (tgt := 102) hx hb d_Mod_isResult_95 (by decide) (fun c_7 => ?_) (fun c_7 => ?_)
          · have hf := (if_pos c_7).symm.trans hf
            refine lv_iconst (v := 0) hx hb d_Mod_isResult_102 (by decide) ?_
            refine lv_goto (tgt := 119) hx hb d_Mod_isResult_103 (by decide) ?_
            have hg0 := Option.some.inj hf
            subst hg0
            have hP9 : va_P (dC, dI) vwCl [] H := hP.sub [] rfl
            have hD9 : va_D A [] := hD.sub [] rfl rfl
            exact W.zret (v := (0 : Int32)) hx hb hr (nw_b false) (fun t ht hW => ⟨⟨rfl, (), trivial, by rw [ht]; exact hP9, hD9⟩, hS.F ht⟩) hS.2.2 d_Mod_isResult_119
          · have hf := (if_neg c_7).symm.trans hf
            refine lv_iconst (v := 1) hx hb d_Mod_isResult_98 (by decide) ?_
            refine lv_goto (tgt := 119) hx hb d_Mod_isResult_99 (by decide) ?_
            have hg0 := Option.some.inj hf
            subst hg0
            have hP9 : va_P (dC, dI) vwCl [] H := hP.sub [] rfl
            have hD9 : va_D A [] := hD.sub [] rfl rfl
            exact W.zret (v := (1 : Int32)) hx hb hr (nw_b true) (fun t ht hW => ⟨⟨rfl, (), trivial, by rw [ht]; exact hP9, hD9⟩, hS.F ht⟩) hS.2.2 d_Mod_isResult_119
      · have hf := (if_pos c_3).symm.trans hf
        refine lv_iload_n hx hb d_Mod_isResult_72 rfl (lv_at hl 3 rfl) ?_
        refine lv_if_eq (tgt := 84) hx hb d_Mod_isResult_73 (by decide) (fun c_8 => ?_) (fun c_8 => ?_)
        · have hf := (if_pos c_8).symm.trans hf
          refine lv_iconst (v := 0) hx hb d_Mod_isResult_84 (by decide) ?_
          refine lv_goto (tgt := 119) hx hb d_Mod_isResult_85 (by decide) ?_
          have hg0 := Option.some.inj hf
          subst hg0
          have hP9 : va_P (dC, dI) vwCl [] H := hP.sub [] rfl
          have hD9 : va_D A [] := hD.sub [] rfl rfl
          exact W.zret (v := (0 : Int32)) hx hb hr (nw_b false) (fun t ht hW => ⟨⟨rfl, (), trivial, by rw [ht]; exact hP9, hD9⟩, hS.F ht⟩) hS.2.2 d_Mod_isResult_119
        · have hf := (if_neg c_8).symm.trans hf
          refine lv_iload_n hx hb d_Mod_isResult_76 rfl (lv_at hl 0 rfl) ?_
          refine lv_if_ne (tgt := 84) hx hb d_Mod_isResult_77 (by decide) (fun c_9 => ?_) (fun c_9 => ?_)
          · have hf := (if_neg c_9).symm.trans hf
            refine lv_iconst (v := 0) hx hb d_Mod_isResult_84 (by decide) ?_
            refine lv_goto (tgt := 119) hx hb d_Mod_isResult_85 (by decide) ?_
            have hg0 := Option.some.inj hf
            subst hg0
            have hP9 : va_P (dC, dI) vwCl [] H := hP.sub [] rfl
            have hD9 : va_D A [] := hD.sub [] rfl rfl
            exact W.zret (v := (0 : Int32)) hx hb hr (nw_b false) (fun t ht hW => ⟨⟨rfl, (), trivial, by rw [ht]; exact hP9, hD9⟩, hS.F ht⟩) hS.2.2 d_Mod_isResult_119
          · have hf := (if_pos c_9).symm.trans hf
            refine lv_iconst (v := 1) hx hb d_Mod_isResult_80 (by decide) ?_
            refine lv_goto (tgt := 119) hx hb d_Mod_isResult_81 (by decide) ?_
            have hg0 := Option.some.inj hf
            subst hg0
            have hP9 : va_P (dC, dI) vwCl [] H := hP.sub [] rfl
            have hD9 : va_D A [] := hD.sub [] rfl rfl
            exact W.zret (v := (1 : Int32)) hx hb hr (nw_b true) (fun t ht hW => ⟨⟨rfl, (), trivial, by rw [ht]; exact hP9, hD9⟩, hS.F ht⟩) hS.2.2 d_Mod_isResult_119
    · have hf := (if_pos c_2).symm.trans hf
      refine lv_iload_n hx hb d_Mod_isResult_51 rfl (lv_at hl 3 rfl) ?_
      refine lv_if_ne (tgt := 59) hx hb d_Mod_isResult_52 (by decide) (fun c_10 => ?_) (fun c_10 => ?_)
      · have hf := (if_neg c_10).symm.trans hf
        refine lv_iconst (v := 1) hx hb d_Mod_isResult_59 (by decide) ?_
        refine lv_goto (tgt := 119) hx hb d_Mod_isResult_60 (by decide) ?_
        have hg0 := Option.some.inj hf
        subst hg0
        have hP9 : va_P (dC, dI) vwCl [] H := hP.sub [] rfl
        have hD9 : va_D A [] := hD.sub [] rfl rfl
        exact W.zret (v := (1 : Int32)) hx hb hr (nw_b true) (fun t ht hW => ⟨⟨rfl, (), trivial, by rw [ht]; exact hP9, hD9⟩, hS.F ht⟩) hS.2.2 d_Mod_isResult_119
      · have hf := (if_pos c_10).symm.trans hf
        refine lv_iload_n hx hb d_Mod_isResult_55 rfl (lv_at hl 0 rfl) ?_
        refine lv_if_eq (tgt := 63) hx hb d_Mod_isResult_56 (by decide) (fun c_11 => ?_) (fun c_11 => ?_)
        · have hf := (if_pos c_11).symm.trans hf
          refine lv_iconst (v := 0) hx hb d_Mod_isResult_63 (by decide) ?_
          refine lv_goto (tgt := 119) hx hb d_Mod_isResult_64 (by decide) ?_
          have hg0 := Option.some.inj hf
          subst hg0
          have hP9 : va_P (dC, dI) vwCl [] H := hP.sub [] rfl
          have hD9 : va_D A [] := hD.sub [] rfl rfl
          exact W.zret (v := (0 : Int32)) hx hb hr (nw_b false) (fun t ht hW => ⟨⟨rfl, (), trivial, by rw [ht]; exact hP9, hD9⟩, hS.F ht⟩) hS.2.2 d_Mod_isResult_119
        · have hf := (if_neg c_11).symm.trans hf
          refine lv_iconst (v := 1) hx hb d_Mod_isResult_59 (by decide) ?_
          refine lv_goto (tgt := 119) hx hb d_Mod_isResult_60 (by decide) ?_
          have hg0 := Option.some.inj hf
          subst hg0
          have hP9 : va_P (dC, dI) vwCl [] H := hP.sub [] rfl
          have hD9 : va_D A [] := hD.sub [] rfl rfl
          exact W.zret (v := (1 : Int32)) hx hb hr (nw_b true) (fun t ht hW => ⟨⟨rfl, (), trivial, by rw [ht]; exact hP9, hD9⟩, hS.F ht⟩) hS.2.2 d_Mod_isResult_119
  · have hf := (if_pos c_1).symm.trans hf
    refine lv_iload_n hx hb d_Mod_isResult_30 rfl (lv_at hl 3 rfl) ?_
    refine lv_if_eq (tgt := 42) hx hb d_Mod_isResult_31 (by decide) (fun c_12 => ?_) (fun c_12 => ?_)
    · have hf := (if_pos c_12).symm.trans hf
      refine lv_iconst (v := 0) hx hb d_Mod_isResult_42 (by decide) ?_
      refine lv_goto (tgt := 119) hx hb d_Mod_isResult_43 (by decide) ?_
      have hg0 := Option.some.inj hf
      subst hg0
      have hP9 : va_P (dC, dI) vwCl [] H := hP.sub [] rfl
      have hD9 : va_D A [] := hD.sub [] rfl rfl
      exact W.zret (v := (0 : Int32)) hx hb hr (nw_b false) (fun t ht hW => ⟨⟨rfl, (), trivial, by rw [ht]; exact hP9, hD9⟩, hS.F ht⟩) hS.2.2 d_Mod_isResult_119
    · have hf := (if_neg c_12).symm.trans hf
      refine lv_iload_n hx hb d_Mod_isResult_34 rfl (lv_at hl 0 rfl) ?_
      refine lv_if_eq (tgt := 42) hx hb d_Mod_isResult_35 (by decide) (fun c_13 => ?_) (fun c_13 => ?_)
      · have hf := (if_pos c_13).symm.trans hf
        refine lv_iconst (v := 0) hx hb d_Mod_isResult_42 (by decide) ?_
        refine lv_goto (tgt := 119) hx hb d_Mod_isResult_43 (by decide) ?_
        have hg0 := Option.some.inj hf
        subst hg0
        have hP9 : va_P (dC, dI) vwCl [] H := hP.sub [] rfl
        have hD9 : va_D A [] := hD.sub [] rfl rfl
        exact W.zret (v := (0 : Int32)) hx hb hr (nw_b false) (fun t ht hW => ⟨⟨rfl, (), trivial, by rw [ht]; exact hP9, hD9⟩, hS.F ht⟩) hS.2.2 d_Mod_isResult_119
      · have hf := (if_neg c_13).symm.trans hf
        refine lv_iconst (v := 1) hx hb d_Mod_isResult_38 (by decide) ?_
        refine lv_goto (tgt := 119) hx hb d_Mod_isResult_39 (by decide) ?_
        have hg0 := Option.some.inj hf
        subst hg0
        have hP9 : va_P (dC, dI) vwCl [] H := hP.sub [] rfl
        have hD9 : va_D A [] := hD.sub [] rfl rfl
        exact W.zret (v := (1 : Int32)) hx hb hr (nw_b true) (fun t ht hW => ⟨⟨rfl, (), trivial, by rw [ht]; exact hP9, hD9⟩, hS.F ht⟩) hS.2.2 d_Mod_isResult_119
def b_Mod_isResult_12 (y0 : Int32) (y1 : Int32) (s0 : Int32) : Option (Bool) :=
  if (y1 &&& (2 : Int32)) = (2 : Int32) then (b_Mod_isResult_25 y0 y1 s0 (1 : Int32)) else (b_Mod_isResult_25 y0 y1 s0 (0 : Int32))
set_option maxHeartbeats 4000000 in
set_option maxRecDepth 100000 in
theorem s_Mod_isResult_12 (p : Program) (l : Launch) (e : Env) (s : State) (m : MethodId) (args : Array Value) (below : List Frame) (meth : Method) (c : Code) (dC : Nat → ClassId) (dI : Nat → Nat → Nat) (cI : dcG) (A : Nat → Prop) (y0 : Int32) (y1 : Int32) (rv : Bool) (C0 : dc_At p s m args meth c prog_9_method_19_code 4 R_Mod (some .boolean)) (hK : va_K (dC, dI) vwCl (dcT cI) s) (hA : ∀ q, s.heap.size ≤ q → A q) : T_Mod_isResult_12 p l e s m args below meth c dC dI cI A y0 y1 rv (b_Mod_isResult_12 y0 y1) := by
  obtain ⟨hx, hb, hml, hown, hts, hr, hlocks, hN⟩ := id C0
  intro s0 hf H locs hP hD hS ls hl
  unfold b_Mod_isResult_12 at hf
  refine lv_istore_n (lv' := [(2, .int s0), (0, .int y0), (1, .int y1)]) hx hb d_Mod_isResult_12 rfl hl (by decide) rfl (fun ls hl => ?_)
  refine lv_iload_n hx hb d_Mod_isResult_13 rfl (lv_at hl 2 rfl) ?_
  refine lv_iconst (v := 2) hx hb d_Mod_isResult_14 (by decide) ?_
  refine lv_iand hx hb d_Mod_isResult_15 ?_
  refine lv_iconst (v := 2) hx hb d_Mod_isResult_16 (by decide) ?_
  refine lv_icmp_ne (tgt := 24) hx hb d_Mod_isResult_17 (by decide) (fun c_14 => ?_) (fun c_14 => ?_)
  · have hf := (if_neg c_14).symm.trans hf
    refine lv_iconst (v := 0) hx hb d_Mod_isResult_24 (by decide) ?_
    exact (s_Mod_isResult_25 p l e s m args below meth c dC dI cI A y0 y1 rv C0 hK hA  ) s0 (0 : Int32) hf H locs hP hD hS ls (lv_sub hl [1, 2, 0] rfl)
  · have hf := (if_pos c_14).symm.trans hf
    refine lv_iconst (v := 1) hx hb d_Mod_isResult_20 (by decide) ?_
    refine lv_goto (tgt := 25) hx hb d_Mod_isResult_21 (by decide) ?_
    exact (s_Mod_isResult_25 p l e s m args below meth c dC dI cI A y0 y1 rv C0 hK hA  ) s0 (1 : Int32) hf H locs hP hD hS ls (lv_sub hl [1, 2, 0] rfl)
def b_Mod_isResult_0 (y0 : Int32) (y1 : Int32)  : Option (Bool) :=
  if (y1 &&& (1 : Int32)) = (1 : Int32) then (b_Mod_isResult_12 y0 y1 (1 : Int32)) else (b_Mod_isResult_12 y0 y1 (0 : Int32))
set_option maxHeartbeats 4000000 in
set_option maxRecDepth 100000 in
theorem s_Mod_isResult_0 (p : Program) (l : Launch) (e : Env) (s : State) (m : MethodId) (args : Array Value) (below : List Frame) (meth : Method) (c : Code) (dC : Nat → ClassId) (dI : Nat → Nat → Nat) (cI : dcG) (A : Nat → Prop) (y0 : Int32) (y1 : Int32) (rv : Bool) (C0 : dc_At p s m args meth c prog_9_method_19_code 4 R_Mod (some .boolean)) (hK : va_K (dC, dI) vwCl (dcT cI) s) (hA : ∀ q, s.heap.size ≤ q → A q) : T_Mod_isResult_0 p l e s m args below meth c dC dI cI A y0 y1 rv (b_Mod_isResult_0 y0 y1) := by
  obtain ⟨hx, hb, hml, hown, hts, hr, hlocks, hN⟩ := id C0
  intro hf H locs hP hD hS ls hl
  unfold b_Mod_isResult_0 at hf
  refine lv_iload_n hx hb d_Mod_isResult_0 rfl (lv_at hl 1 rfl) ?_
  refine lv_iconst (v := 1) hx hb d_Mod_isResult_1 (by decide) ?_
  refine lv_iand hx hb d_Mod_isResult_2 ?_
  refine lv_iconst (v := 1) hx hb d_Mod_isResult_3 (by decide) ?_
  refine lv_icmp_ne (tgt := 11) hx hb d_Mod_isResult_4 (by decide) (fun c_15 => ?_) (fun c_15 => ?_)
  · have hf := (if_neg c_15).symm.trans hf
    refine lv_iconst (v := 0) hx hb d_Mod_isResult_11 (by decide) ?_
    exact (s_Mod_isResult_12 p l e s m args below meth c dC dI cI A y0 y1 rv C0 hK hA  ) (0 : Int32) hf H locs hP hD hS ls (lv_sub hl [0, 1] rfl)
  · have hf := (if_pos c_15).symm.trans hf
    refine lv_iconst (v := 1) hx hb d_Mod_isResult_7 (by decide) ?_
    refine lv_goto (tgt := 12) hx hb d_Mod_isResult_8 (by decide) ?_
    exact (s_Mod_isResult_12 p l e s m args below meth c dC dI cI A y0 y1 rv C0 hK hA  ) (1 : Int32) hf H locs hP hD hS ls (lv_sub hl [0, 1] rfl)
def f_Mod_isResult (y0 : Int32) (y1 : Int32) : Option (Bool) :=
  b_Mod_isResult_0 y0 y1 
set_option maxHeartbeats 4000000 in
set_option maxRecDepth 100000 in
theorem c_Mod_isResult (l : Launch) (dC : Nat → ClassId) (dI : Nat → Nat → Nat) (cI : dcG) (y0 : Int32) (y1 : Int32) (rv : Bool) (sz : Nat) (hf : f_Mod_isResult y0 y1 = some rv) : Met l y_Mod_isResult w_Mod_isResult { frames := 0, cells := 0, slots := 0, locals := 0 } (dc_Pre (dC, dI) (dcT cI) [] sz [.int y0, .int y1]) (dc_Q (dC, dI) (some (.int (bI rv))) (fun x : Unit => True) (fun x => []) (va_A [] sz)) 0 0 (va_A [] sz) := by
  refine Met.ofW (cc := prog_9_method_19_code) (maxL := 4) (ret := (some .boolean)) (by decide) rfl ?_
  intro p e s m args below meth c s₁ B hml hv
  obtain ⟨rfl, hsz, hP, hK, hD0, hN⟩ := hv
  have C0 : dc_At p s m [.int y0, .int y1].toArray meth c prog_9_method_19_code 4 R_Mod (some .boolean) := ⟨B.exec, B.bytes, hml, findClass_of_methodNamed B.named, fun w h => atoms_spec (ws := w_Mod_isResult) B.pre w (List.mem_cons_of_mem _ h), B.returns, B.notSynchronized, hN⟩
  subst hsz
  have hD := hD0.self (sz := s.heap.size)
  generalize hAe : va_A [] s.heap.size = A at hD ⊢
  have hA : ∀ q : Nat, s.heap.size ≤ q → A q := fun q h => by rw [← hAe]; exact Or.inr h
  have hl := lv_entry ([.int y0, .int y1]) (n := 4) (Nat.le_of_ble_eq_true rfl)
  rw [lg_entry_eq]
  generalize (lg_sl ([.int y0, .int y1]) ++ List.replicate (4 - (lg_sl ([.int y0, .int y1])).length) Slot.unset).toArray = ls at hl ⊢
  exact s_Mod_isResult_0 p l e s m _ below meth c dC dI cI A y0 y1 rv C0 hK hA  hf s.heap [] hP hD va_S.rf ls (lv_sub hl [0, 1] rfl)
