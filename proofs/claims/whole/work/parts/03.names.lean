def R_Row : String := "RingWeaver$Row"
def R_Net : String := "RingWeaver$Net"
def R_Bnd : String := "RingWeaver$Boundary"
def R_Rgs : String := "RingWeaver$Rings"
def R_Mul : String := "RingWeaver$Multipolygon"
def R_Wea : String := "RingWeaver"
def R_Mod : String := "RingWeaverModel"
def R_Pla : String := "RingWeaver$Plane"
def R_Long : String := "java/lang/Long"
def R_Arrays : String := "java/util/Arrays"
def R_Law : String := "RingWeaverLaw"
def F_Row : u_T := fun k => match k with
  | 0 => ("RingWeaver$Row", "held", "[I", false)
  | _ => ("RingWeaver$Row", "size", "I", false)
def t_Row : Nat → FieldType := fun k => match k with
  | 0 => .array .int
  | _ => .int
def F_Net : u_T := fun k => match k with
  | 0 => ("RingWeaver$Net", "x", "LRingWeaver$Row;", true)
  | 1 => ("RingWeaver$Net", "y", "LRingWeaver$Row;", true)
  | 2 => ("RingWeaver$Net", "odd", "LRingWeaver$Row;", true)
  | 3 => ("RingWeaver$Net", "from", "LRingWeaver$Row;", true)
  | 4 => ("RingWeaver$Net", "to", "LRingWeaver$Row;", true)
  | _ => ("RingWeaver$Net", "marks", "LRingWeaver$Row;", true)
def t_Net : Nat → FieldType := fun k => match k with
  | 0 => .object "RingWeaver$Row"
  | 1 => .object "RingWeaver$Row"
  | 2 => .object "RingWeaver$Row"
  | 3 => .object "RingWeaver$Row"
  | 4 => .object "RingWeaver$Row"
  | _ => .object "RingWeaver$Row"
def F_Bnd : u_T := fun k => match k with
  | 0 => ("RingWeaver$Boundary", "from", "LRingWeaver$Row;", true)
  | 1 => ("RingWeaver$Boundary", "to", "LRingWeaver$Row;", true)
  | 2 => ("RingWeaver$Boundary", "next", "LRingWeaver$Row;", true)
  | 3 => ("RingWeaver$Boundary", "wayFrom", "LRingWeaver$Row;", true)
  | _ => ("RingWeaver$Boundary", "alsoFrom", "LRingWeaver$Row;", true)
def t_Bnd : Nat → FieldType := fun k => match k with
  | 0 => .object "RingWeaver$Row"
  | 1 => .object "RingWeaver$Row"
  | 2 => .object "RingWeaver$Row"
  | 3 => .object "RingWeaver$Row"
  | _ => .object "RingWeaver$Row"
def F_Rgs : u_T := fun k => match k with
  | 0 => ("RingWeaver$Rings", "x", "LRingWeaver$Row;", true)
  | 1 => ("RingWeaver$Rings", "y", "LRingWeaver$Row;", true)
  | 2 => ("RingWeaver$Rings", "start", "LRingWeaver$Row;", true)
  | 3 => ("RingWeaver$Rings", "order", "LRingWeaver$Row;", true)
  | 4 => ("RingWeaver$Rings", "owner", "LRingWeaver$Row;", true)
  | 5 => ("RingWeaver$Rings", "shells", "I", false)
  | 6 => ("RingWeaver$Rings", "path", "LRingWeaver$Row;", true)
  | 7 => ("RingWeaver$Rings", "leftAt", "LRingWeaver$Row;", true)
  | _ => ("RingWeaver$Rings", "gone", "LRingWeaver$Row;", true)
def t_Rgs : Nat → FieldType := fun k => match k with
  | 0 => .object "RingWeaver$Row"
  | 1 => .object "RingWeaver$Row"
  | 2 => .object "RingWeaver$Row"
  | 3 => .object "RingWeaver$Row"
  | 4 => .object "RingWeaver$Row"
  | 5 => .int
  | 6 => .object "RingWeaver$Row"
  | 7 => .object "RingWeaver$Row"
  | _ => .object "RingWeaver$Row"
def F_Mul : u_T := fun k => match k with
  | 0 => ("RingWeaver$Multipolygon", "plan", "LRingWeaver$Row;", true)
  | 1 => ("RingWeaver$Multipolygon", "x", "LRingWeaver$Row;", true)
  | 2 => ("RingWeaver$Multipolygon", "y", "LRingWeaver$Row;", true)
  | 3 => ("RingWeaver$Multipolygon", "polygons", "I", false)
  | _ => ("RingWeaver$Multipolygon", "twiceArea", "J", false)
def t_Mul : Nat → FieldType := fun k => match k with
  | 0 => .object "RingWeaver$Row"
  | 1 => .object "RingWeaver$Row"
  | 2 => .object "RingWeaver$Row"
  | 3 => .int
  | _ => .long
def F_Wea : u_T := fun k => match k with
  | 0 => ("RingWeaver", "net", "LRingWeaver$Net;", true)
  | 1 => ("RingWeaver", "boundary", "LRingWeaver$Boundary;", true)
  | 2 => ("RingWeaver", "rings", "LRingWeaver$Rings;", true)
  | _ => ("RingWeaver", "result", "LRingWeaver$Multipolygon;", true)
def t_Wea : Nat → FieldType := fun k => match k with
  | 0 => .object "RingWeaver$Net"
  | 1 => .object "RingWeaver$Boundary"
  | 2 => .object "RingWeaver$Rings"
  | _ => .object "RingWeaver$Multipolygon"
def F_Mod : u_T := fun k => match k with
  | 0 => ("RingWeaverModel", "thrown", "I", false)
  | 1 => ("RingWeaverModel", "pieces", "I", false)
  | 2 => ("RingWeaverModel", "ax", "[I", true)
  | 3 => ("RingWeaverModel", "ay", "[I", true)
  | 4 => ("RingWeaverModel", "bx", "[I", true)
  | 5 => ("RingWeaverModel", "by", "[I", true)
  | 6 => ("RingWeaverModel", "marks", "[I", true)
  | 7 => ("RingWeaverModel", "ways", "[I", true)
  | 8 => ("RingWeaverModel", "gone", "[Z", true)
  | 9 => ("RingWeaverModel", "planned", "I", false)
  | 10 => ("RingWeaverModel", "corners", "I", false)
  | 11 => ("RingWeaverModel", "polygons", "I", false)
  | 12 => ("RingWeaverModel", "plan", "[I", true)
  | 13 => ("RingWeaverModel", "xs", "[I", true)
  | 14 => ("RingWeaverModel", "ys", "[I", true)
  | 15 => ("RingWeaverModel", "twice", "J", false)
  | 16 => ("RingWeaverModel", "length", "I", false)
  | 17 => ("RingWeaverModel", "wayX", "[I", true)
  | 18 => ("RingWeaverModel", "wayY", "[I", true)
  | 19 => ("RingWeaverModel", "rings", "I", false)
  | 20 => ("RingWeaverModel", "first", "[I", true)
  | 21 => ("RingWeaverModel", "size", "[I", true)
  | 22 => ("RingWeaverModel", "areas", "[J", true)
  | 23 => ("RingWeaverModel", "owner", "[I", true)
  | 24 => ("RingWeaverModel", "places", "I", false)
  | 25 => ("RingWeaverModel", "rx", "[I", true)
  | _ => ("RingWeaverModel", "ry", "[I", true)
def t_Mod : Nat → FieldType := fun k => match k with
  | 0 => .int
  | 1 => .int
  | 2 => .array .int
  | 3 => .array .int
  | 4 => .array .int
  | 5 => .array .int
  | 6 => .array .int
  | 7 => .array .int
  | 8 => .array .boolean
  | 9 => .int
  | 10 => .int
  | 11 => .int
  | 12 => .array .int
  | 13 => .array .int
  | 14 => .array .int
  | 15 => .long
  | 16 => .int
  | 17 => .array .int
  | 18 => .array .int
  | 19 => .int
  | 20 => .array .int
  | 21 => .array .int
  | 22 => .array .long
  | 23 => .array .int
  | 24 => .int
  | 25 => .array .int
  | _ => .array .int
abbrev vwCl : List vw_C := [(R_Row, F_Row, 2), (R_Net, F_Net, 6), (R_Bnd, F_Bnd, 5), (R_Rgs, F_Rgs, 9), (R_Mul, F_Mul, 5), (R_Wea, F_Wea, 4), (R_Mod, F_Mod, 27)]
