theorem wn_158 : (Jvm.Cond.fieldLinkNest "RingWeaver" (140 : Nat) "RingWeaver$Multipolygon" "y" "LRingWeaver$Row;" "RingWeaver") ∈ dcNW := dcN_m 210 (by decide +kernel) (by decide +kernel)
theorem wm_1 : (Jvm.Cond.initialized "RingWeaver") ∈ dcW := dcW_m 53 (by decide +kernel) (by decide +kernel)
theorem wm_11 : (Jvm.Cond.initialized "java/lang/IllegalArgumentException") ∈ dcW := dcW_m 63 (by decide +kernel) (by decide +kernel)
theorem wm_14 : (Jvm.Cond.initialized "java/lang/IllegalStateException") ∈ dcW := dcW_m 66 (by decide +kernel) (by decide +kernel)
theorem wm_15 : (Jvm.Cond.initialized "java/lang/UnsupportedOperationException") ∈ dcW := dcW_m 67 (by decide +kernel) (by decide +kernel)
theorem wm_19 : (Jvm.Cond.initialized "java/lang/IndexOutOfBoundsException") ∈ dcW := dcW_m 71 (by decide +kernel) (by decide +kernel)
theorem wm_226 : (Jvm.Cond.methodLink "RingWeaver" (37 : Nat) ({ cls := "RingWeaver", name := "isPlace", desc := "(II)Z" } : Jvm.MethodName)) ∈ dcW := dcW_m 278 (by decide +kernel) (by decide +kernel)
theorem wm_227 : (Jvm.Cond.static ({ cls := "RingWeaver", name := "isPlace", desc := "(II)Z" } : Jvm.MethodName)) ∈ dcW := dcW_m 279 (by decide +kernel) (by decide +kernel)
theorem wm_228 : (Jvm.Cond.code ({ cls := "RingWeaver", name := "isPlace", desc := "(II)Z" } : Jvm.MethodName) prog_1_method_9_code (2 : Nat) (Option.some Jvm.ClassFile.FieldType.boolean)) ∈ dcW := dcW_m 280 (by decide +kernel) (by decide +kernel)
theorem wm_231 : (Jvm.Cond.classLink "RingWeaver" (41 : Nat) "java/lang/IllegalArgumentException") ∈ dcW := dcW_m 283 (by decide +kernel) (by decide +kernel)
theorem wm_301 : (Jvm.Cond.methodLink "RingWeaver" (50 : Nat) ({ cls := "RingWeaver$Net", name := "pieceBetween", desc := "(IIII)I" } : Jvm.MethodName)) ∈ dcW := dcW_m 353 (by decide +kernel) (by decide +kernel)
theorem wm_302 : (Jvm.Cond.instanceMethod ({ cls := "RingWeaver$Net", name := "pieceBetween", desc := "(IIII)I" } : Jvm.MethodName)) ∈ dcW := dcW_m 354 (by decide +kernel) (by decide +kernel)
theorem wm_303 : (Jvm.Cond.selects "RingWeaver$Net" ({ cls := "RingWeaver$Net", name := "pieceBetween", desc := "(IIII)I" } : Jvm.MethodName) ({ cls := "RingWeaver$Net", name := "pieceBetween", desc := "(IIII)I" } : Jvm.MethodName)) ∈ dcW := dcW_m 355 (by decide +kernel) (by decide +kernel)
theorem wm_304 : (Jvm.Cond.code ({ cls := "RingWeaver$Net", name := "pieceBetween", desc := "(IIII)I" } : Jvm.MethodName) prog_4_method_6_code (10 : Nat) (Option.some Jvm.ClassFile.FieldType.int)) ∈ dcW := dcW_m 356 (by decide +kernel) (by decide +kernel)
theorem wm_318 : (Jvm.Cond.methodLink "RingWeaver" (54 : Nat) ({ cls := "RingWeaver$Net", name := "isInTheWayOf", desc := "(IIII)Z" } : Jvm.MethodName)) ∈ dcW := dcW_m 370 (by decide +kernel) (by decide +kernel)
theorem wm_319 : (Jvm.Cond.instanceMethod ({ cls := "RingWeaver$Net", name := "isInTheWayOf", desc := "(IIII)Z" } : Jvm.MethodName)) ∈ dcW := dcW_m 371 (by decide +kernel) (by decide +kernel)
theorem wm_320 : (Jvm.Cond.selects "RingWeaver$Net" ({ cls := "RingWeaver$Net", name := "isInTheWayOf", desc := "(IIII)Z" } : Jvm.MethodName) ({ cls := "RingWeaver$Net", name := "isInTheWayOf", desc := "(IIII)Z" } : Jvm.MethodName)) ∈ dcW := dcW_m 372 (by decide +kernel) (by decide +kernel)
theorem wm_321 : (Jvm.Cond.code ({ cls := "RingWeaver$Net", name := "isInTheWayOf", desc := "(IIII)Z" } : Jvm.MethodName) prog_4_method_11_code (6 : Nat) (Option.some Jvm.ClassFile.FieldType.boolean)) ∈ dcW := dcW_m 373 (by decide +kernel) (by decide +kernel)
theorem wm_338 : (Jvm.Cond.classLink "RingWeaver" (58 : Nat) "java/lang/IllegalStateException") ∈ dcW := dcW_m 390 (by decide +kernel) (by decide +kernel)
theorem wm_354 : (Jvm.Cond.classLink "RingWeaver" (67 : Nat) "java/lang/UnsupportedOperationException") ∈ dcW := dcW_m 406 (by decide +kernel) (by decide +kernel)
theorem wm_370 : (Jvm.Cond.methodLink "RingWeaver" (72 : Nat) ({ cls := "RingWeaver$Net", name := "addPiece", desc := "(IIII)I" } : Jvm.MethodName)) ∈ dcW := dcW_m 422 (by decide +kernel) (by decide +kernel)
theorem wm_371 : (Jvm.Cond.instanceMethod ({ cls := "RingWeaver$Net", name := "addPiece", desc := "(IIII)I" } : Jvm.MethodName)) ∈ dcW := dcW_m 423 (by decide +kernel) (by decide +kernel)
theorem wm_372 : (Jvm.Cond.selects "RingWeaver$Net" ({ cls := "RingWeaver$Net", name := "addPiece", desc := "(IIII)I" } : Jvm.MethodName) ({ cls := "RingWeaver$Net", name := "addPiece", desc := "(IIII)I" } : Jvm.MethodName)) ∈ dcW := dcW_m 424 (by decide +kernel) (by decide +kernel)
theorem wm_373 : (Jvm.Cond.code ({ cls := "RingWeaver$Net", name := "addPiece", desc := "(IIII)I" } : Jvm.MethodName) prog_4_method_7_code (8 : Nat) (Option.some Jvm.ClassFile.FieldType.int)) ∈ dcW := dcW_m 425 (by decide +kernel) (by decide +kernel)
theorem wm_399 : (Jvm.Cond.methodLink "RingWeaver" (75 : Nat) ({ cls := "RingWeaver$Net", name := "turnMarks", desc := "(II)V" } : Jvm.MethodName)) ∈ dcW := dcW_m 451 (by decide +kernel) (by decide +kernel)
theorem wm_400 : (Jvm.Cond.instanceMethod ({ cls := "RingWeaver$Net", name := "turnMarks", desc := "(II)V" } : Jvm.MethodName)) ∈ dcW := dcW_m 452 (by decide +kernel) (by decide +kernel)
theorem wm_401 : (Jvm.Cond.selects "RingWeaver$Net" ({ cls := "RingWeaver$Net", name := "turnMarks", desc := "(II)V" } : Jvm.MethodName) ({ cls := "RingWeaver$Net", name := "turnMarks", desc := "(II)V" } : Jvm.MethodName)) ∈ dcW := dcW_m 453 (by decide +kernel) (by decide +kernel)
theorem wm_402 : (Jvm.Cond.code ({ cls := "RingWeaver$Net", name := "turnMarks", desc := "(II)V" } : Jvm.MethodName) prog_4_method_9_code (3 : Nat) (Option.none : Option Jvm.ClassFile.FieldType)) ∈ dcW := dcW_m 454 (by decide +kernel) (by decide +kernel)
theorem wm_415 : (Jvm.Cond.methodLink "RingWeaver" (85 : Nat) ({ cls := "RingWeaver$Net", name := "isClosed", desc := "()Z" } : Jvm.MethodName)) ∈ dcW := dcW_m 467 (by decide +kernel) (by decide +kernel)
theorem wm_416 : (Jvm.Cond.instanceMethod ({ cls := "RingWeaver$Net", name := "isClosed", desc := "()Z" } : Jvm.MethodName)) ∈ dcW := dcW_m 468 (by decide +kernel) (by decide +kernel)
theorem wm_417 : (Jvm.Cond.selects "RingWeaver$Net" ({ cls := "RingWeaver$Net", name := "isClosed", desc := "()Z" } : Jvm.MethodName) ({ cls := "RingWeaver$Net", name := "isClosed", desc := "()Z" } : Jvm.MethodName)) ∈ dcW := dcW_m 469 (by decide +kernel) (by decide +kernel)
theorem wm_418 : (Jvm.Cond.code ({ cls := "RingWeaver$Net", name := "isClosed", desc := "()Z" } : Jvm.MethodName) prog_4_method_10_code (2 : Nat) (Option.some Jvm.ClassFile.FieldType.boolean)) ∈ dcW := dcW_m 470 (by decide +kernel) (by decide +kernel)
theorem wm_420 : (Jvm.Cond.methodLink "RingWeaver" (91 : Nat) ({ cls := "RingWeaver$Boundary", name := "trace", desc := "(LRingWeaver$Net;I)V" } : Jvm.MethodName)) ∈ dcW := dcW_m 472 (by decide +kernel) (by decide +kernel)
theorem wm_421 : (Jvm.Cond.instanceMethod ({ cls := "RingWeaver$Boundary", name := "trace", desc := "(LRingWeaver$Net;I)V" } : Jvm.MethodName)) ∈ dcW := dcW_m 473 (by decide +kernel) (by decide +kernel)
theorem wm_422 : (Jvm.Cond.selects "RingWeaver$Boundary" ({ cls := "RingWeaver$Boundary", name := "trace", desc := "(LRingWeaver$Net;I)V" } : Jvm.MethodName) ({ cls := "RingWeaver$Boundary", name := "trace", desc := "(LRingWeaver$Net;I)V" } : Jvm.MethodName)) ∈ dcW := dcW_m 474 (by decide +kernel) (by decide +kernel)
theorem wm_423 : (Jvm.Cond.code ({ cls := "RingWeaver$Boundary", name := "trace", desc := "(LRingWeaver$Net;I)V" } : Jvm.MethodName) prog_2_method_3_code (4 : Nat) (Option.none : Option Jvm.ClassFile.FieldType)) ∈ dcW := dcW_m 475 (by decide +kernel) (by decide +kernel)
theorem wm_474 : (Jvm.Cond.methodLink "RingWeaver" (95 : Nat) ({ cls := "RingWeaver$Rings", name := "gather", desc := "(LRingWeaver$Net;LRingWeaver$Boundary;)V" } : Jvm.MethodName)) ∈ dcW := dcW_m 526 (by decide +kernel) (by decide +kernel)
theorem wm_475 : (Jvm.Cond.instanceMethod ({ cls := "RingWeaver$Rings", name := "gather", desc := "(LRingWeaver$Net;LRingWeaver$Boundary;)V" } : Jvm.MethodName)) ∈ dcW := dcW_m 527 (by decide +kernel) (by decide +kernel)
theorem wm_476 : (Jvm.Cond.selects "RingWeaver$Rings" ({ cls := "RingWeaver$Rings", name := "gather", desc := "(LRingWeaver$Net;LRingWeaver$Boundary;)V" } : Jvm.MethodName) ({ cls := "RingWeaver$Rings", name := "gather", desc := "(LRingWeaver$Net;LRingWeaver$Boundary;)V" } : Jvm.MethodName)) ∈ dcW := dcW_m 528 (by decide +kernel) (by decide +kernel)
theorem wm_477 : (Jvm.Cond.code ({ cls := "RingWeaver$Rings", name := "gather", desc := "(LRingWeaver$Net;LRingWeaver$Boundary;)V" } : Jvm.MethodName) prog_6_method_6_code (4 : Nat) (Option.none : Option Jvm.ClassFile.FieldType)) ∈ dcW := dcW_m 529 (by decide +kernel) (by decide +kernel)
theorem wm_556 : (Jvm.Cond.methodLink "RingWeaver" (99 : Nat) ({ cls := "RingWeaver$Rings", name := "toldCorners", desc := "()I" } : Jvm.MethodName)) ∈ dcW := dcW_m 608 (by decide +kernel) (by decide +kernel)
theorem wm_557 : (Jvm.Cond.instanceMethod ({ cls := "RingWeaver$Rings", name := "toldCorners", desc := "()I" } : Jvm.MethodName)) ∈ dcW := dcW_m 609 (by decide +kernel) (by decide +kernel)
theorem wm_558 : (Jvm.Cond.selects "RingWeaver$Rings" ({ cls := "RingWeaver$Rings", name := "toldCorners", desc := "()I" } : Jvm.MethodName) ({ cls := "RingWeaver$Rings", name := "toldCorners", desc := "()I" } : Jvm.MethodName)) ∈ dcW := dcW_m 610 (by decide +kernel) (by decide +kernel)
theorem wm_559 : (Jvm.Cond.code ({ cls := "RingWeaver$Rings", name := "toldCorners", desc := "()I" } : Jvm.MethodName) prog_6_method_2_code (1 : Nat) (Option.some Jvm.ClassFile.FieldType.int)) ∈ dcW := dcW_m 611 (by decide +kernel) (by decide +kernel)
theorem wm_560 : (Jvm.Cond.methodLink "RingWeaver" (102 : Nat) ({ cls := "RingWeaver$Rings", name := "toldNumbers", desc := "()I" } : Jvm.MethodName)) ∈ dcW := dcW_m 612 (by decide +kernel) (by decide +kernel)
theorem wm_561 : (Jvm.Cond.instanceMethod ({ cls := "RingWeaver$Rings", name := "toldNumbers", desc := "()I" } : Jvm.MethodName)) ∈ dcW := dcW_m 613 (by decide +kernel) (by decide +kernel)
theorem wm_562 : (Jvm.Cond.selects "RingWeaver$Rings" ({ cls := "RingWeaver$Rings", name := "toldNumbers", desc := "()I" } : Jvm.MethodName) ({ cls := "RingWeaver$Rings", name := "toldNumbers", desc := "()I" } : Jvm.MethodName)) ∈ dcW := dcW_m 614 (by decide +kernel) (by decide +kernel)
theorem wm_563 : (Jvm.Cond.code ({ cls := "RingWeaver$Rings", name := "toldNumbers", desc := "()I" } : Jvm.MethodName) prog_6_method_3_code (1 : Nat) (Option.some Jvm.ClassFile.FieldType.int)) ∈ dcW := dcW_m 615 (by decide +kernel) (by decide +kernel)
theorem wm_565 : (Jvm.Cond.methodLink "RingWeaver" (107 : Nat) ({ cls := "RingWeaver$Multipolygon", name := "tell", desc := "(LRingWeaver$Rings;)V" } : Jvm.MethodName)) ∈ dcW := dcW_m 617 (by decide +kernel) (by decide +kernel)
theorem wm_566 : (Jvm.Cond.instanceMethod ({ cls := "RingWeaver$Multipolygon", name := "tell", desc := "(LRingWeaver$Rings;)V" } : Jvm.MethodName)) ∈ dcW := dcW_m 618 (by decide +kernel) (by decide +kernel)
theorem wm_567 : (Jvm.Cond.selects "RingWeaver$Multipolygon" ({ cls := "RingWeaver$Multipolygon", name := "tell", desc := "(LRingWeaver$Rings;)V" } : Jvm.MethodName) ({ cls := "RingWeaver$Multipolygon", name := "tell", desc := "(LRingWeaver$Rings;)V" } : Jvm.MethodName)) ∈ dcW := dcW_m 619 (by decide +kernel) (by decide +kernel)
theorem wm_568 : (Jvm.Cond.code ({ cls := "RingWeaver$Multipolygon", name := "tell", desc := "(LRingWeaver$Rings;)V" } : Jvm.MethodName) prog_3_method_3_code (4 : Nat) (Option.none : Option Jvm.ClassFile.FieldType)) ∈ dcW := dcW_m 620 (by decide +kernel) (by decide +kernel)
theorem wm_591 : (Jvm.Cond.classLink "RingWeaver" (124 : Nat) "java/lang/IndexOutOfBoundsException") ∈ dcW := dcW_m 643 (by decide +kernel) (by decide +kernel)
theorem wm_607 : (Jvm.Cond.methodLink "RingWeaver" (129 : Nat) ({ cls := "RingWeaver$Row", name := "get", desc := "(I)I" } : Jvm.MethodName)) ∈ dcW := dcW_m 659 (by decide +kernel) (by decide +kernel)
def y_Wea_piece : MethodName := ⟨R_Wea, "piece", "(IIIII)I"⟩
def w_Wea_piece : List Cond := .code y_Wea_piece prog_1_method_2_code 7 (some .int) :: dcW
def y_Wea_overlay : MethodName := ⟨R_Wea, "overlay", "(I)I"⟩
def w_Wea_overlay : List Cond := .code y_Wea_overlay prog_1_method_4_code 2 (some .int) :: dcW
def y_Wea_plan : MethodName := ⟨R_Wea, "plan", "(I)I"⟩
def w_Wea_plan : List Cond := .code y_Wea_plan prog_1_method_5_code 2 (some .int) :: dcW
def y_Wea_ordinate : MethodName := ⟨R_Wea, "ordinate", "(II)I"⟩
def w_Wea_ordinate : List Cond := .code y_Wea_ordinate prog_1_method_6_code 3 (some .int) :: dcW
theorem d_Wea_piece_0 : decode prog_1_method_2_code 0 = .ok (.iload_n 1, 1) := by decide +kernel
theorem d_Wea_piece_1 : decode prog_1_method_2_code 1 = .ok (.iload_n 2, 1) := by decide +kernel
theorem d_Wea_piece_2 : decode prog_1_method_2_code 2 = .ok (.invokestatic 37, 3) := by decide +kernel
theorem d_Wea_piece_5 : decode prog_1_method_2_code 5 = .ok (.ifCond .eq 23, 3) := by decide +kernel
theorem d_Wea_piece_8 : decode prog_1_method_2_code 8 = .ok (.iload_n 3, 1) := by decide +kernel
theorem d_Wea_piece_9 : decode prog_1_method_2_code 9 = .ok (.iload 4, 2) := by decide +kernel
theorem d_Wea_piece_11 : decode prog_1_method_2_code 11 = .ok (.invokestatic 37, 3) := by decide +kernel
theorem d_Wea_piece_14 : decode prog_1_method_2_code 14 = .ok (.ifCond .eq 14, 3) := by decide +kernel
theorem d_Wea_piece_17 : decode prog_1_method_2_code 17 = .ok (.iload_n 1, 1) := by decide +kernel
theorem d_Wea_piece_18 : decode prog_1_method_2_code 18 = .ok (.iload_n 3, 1) := by decide +kernel
theorem d_Wea_piece_19 : decode prog_1_method_2_code 19 = .ok (.if_icmp .ne 19, 3) := by decide +kernel
theorem d_Wea_piece_22 : decode prog_1_method_2_code 22 = .ok (.iload_n 2, 1) := by decide +kernel
theorem d_Wea_piece_23 : decode prog_1_method_2_code 23 = .ok (.iload 4, 2) := by decide +kernel
theorem d_Wea_piece_25 : decode prog_1_method_2_code 25 = .ok (.if_icmp .ne 13, 3) := by decide +kernel
theorem d_Wea_piece_28 : decode prog_1_method_2_code 28 = .ok (.new 41, 3) := by decide +kernel
theorem d_Wea_piece_31 : decode prog_1_method_2_code 31 = .ok (.dup, 1) := by decide +kernel
theorem d_Wea_piece_32 : decode prog_1_method_2_code 32 = .ok (.ldc 43, 2) := by decide +kernel
theorem d_Wea_piece_34 : decode prog_1_method_2_code 34 = .ok (.invokespecial 45, 3) := by decide +kernel
theorem d_Wea_piece_37 : decode prog_1_method_2_code 37 = .ok (.athrow, 1) := by decide +kernel
theorem d_Wea_piece_38 : decode prog_1_method_2_code 38 = .ok (.iload 5, 2) := by decide +kernel
theorem d_Wea_piece_40 : decode prog_1_method_2_code 40 = .ok (.iconst 1, 1) := by decide +kernel
theorem d_Wea_piece_41 : decode prog_1_method_2_code 41 = .ok (.if_icmp .lt 9, 3) := by decide +kernel
theorem d_Wea_piece_44 : decode prog_1_method_2_code 44 = .ok (.iload 5, 2) := by decide +kernel
theorem d_Wea_piece_46 : decode prog_1_method_2_code 46 = .ok (.iconst 3, 1) := by decide +kernel
theorem d_Wea_piece_47 : decode prog_1_method_2_code 47 = .ok (.if_icmp .le 13, 3) := by decide +kernel
theorem d_Wea_piece_50 : decode prog_1_method_2_code 50 = .ok (.new 41, 3) := by decide +kernel
theorem d_Wea_piece_53 : decode prog_1_method_2_code 53 = .ok (.dup, 1) := by decide +kernel
theorem d_Wea_piece_54 : decode prog_1_method_2_code 54 = .ok (.ldc 48, 2) := by decide +kernel
theorem d_Wea_piece_56 : decode prog_1_method_2_code 56 = .ok (.invokespecial 45, 3) := by decide +kernel
theorem d_Wea_piece_59 : decode prog_1_method_2_code 59 = .ok (.athrow, 1) := by decide +kernel
theorem d_Wea_piece_60 : decode prog_1_method_2_code 60 = .ok (.aload_n 0, 1) := by decide +kernel
theorem d_Wea_piece_61 : decode prog_1_method_2_code 61 = .ok (.getfield 12, 3) := by decide +kernel
theorem d_Wea_piece_64 : decode prog_1_method_2_code 64 = .ok (.iload_n 1, 1) := by decide +kernel
theorem d_Wea_piece_65 : decode prog_1_method_2_code 65 = .ok (.iload_n 2, 1) := by decide +kernel
theorem d_Wea_piece_66 : decode prog_1_method_2_code 66 = .ok (.iload_n 3, 1) := by decide +kernel
theorem d_Wea_piece_67 : decode prog_1_method_2_code 67 = .ok (.iload 4, 2) := by decide +kernel
theorem d_Wea_piece_69 : decode prog_1_method_2_code 69 = .ok (.invokevirtual 50, 3) := by decide +kernel
theorem d_Wea_piece_72 : decode prog_1_method_2_code 72 = .ok (.istore 6, 2) := by decide +kernel
theorem d_Wea_piece_74 : decode prog_1_method_2_code 74 = .ok (.iload 6, 2) := by decide +kernel
theorem d_Wea_piece_76 : decode prog_1_method_2_code 76 = .ok (.iconst (-1), 1) := by decide +kernel
theorem d_Wea_piece_77 : decode prog_1_method_2_code 77 = .ok (.if_icmp .ne 65, 3) := by decide +kernel
theorem d_Wea_piece_80 : decode prog_1_method_2_code 80 = .ok (.aload_n 0, 1) := by decide +kernel
theorem d_Wea_piece_81 : decode prog_1_method_2_code 81 = .ok (.getfield 12, 3) := by decide +kernel
theorem d_Wea_piece_84 : decode prog_1_method_2_code 84 = .ok (.iload_n 1, 1) := by decide +kernel
theorem d_Wea_piece_85 : decode prog_1_method_2_code 85 = .ok (.iload_n 2, 1) := by decide +kernel
theorem d_Wea_piece_86 : decode prog_1_method_2_code 86 = .ok (.iload_n 3, 1) := by decide +kernel
theorem d_Wea_piece_87 : decode prog_1_method_2_code 87 = .ok (.iload 4, 2) := by decide +kernel
theorem d_Wea_piece_89 : decode prog_1_method_2_code 89 = .ok (.invokevirtual 54, 3) := by decide +kernel
theorem d_Wea_piece_92 : decode prog_1_method_2_code 92 = .ok (.ifCond .eq 13, 3) := by decide +kernel
theorem d_Wea_piece_95 : decode prog_1_method_2_code 95 = .ok (.new 58, 3) := by decide +kernel
theorem d_Wea_piece_98 : decode prog_1_method_2_code 98 = .ok (.dup, 1) := by decide +kernel
theorem d_Wea_piece_99 : decode prog_1_method_2_code 99 = .ok (.ldc 60, 2) := by decide +kernel
theorem d_Wea_piece_101 : decode prog_1_method_2_code 101 = .ok (.invokespecial 62, 3) := by decide +kernel
theorem d_Wea_piece_104 : decode prog_1_method_2_code 104 = .ok (.athrow, 1) := by decide +kernel
theorem d_Wea_piece_105 : decode prog_1_method_2_code 105 = .ok (.aload_n 0, 1) := by decide +kernel
theorem d_Wea_piece_106 : decode prog_1_method_2_code 106 = .ok (.getfield 12, 3) := by decide +kernel
theorem d_Wea_piece_109 : decode prog_1_method_2_code 109 = .ok (.invokevirtual 63, 3) := by decide +kernel
theorem d_Wea_piece_112 : decode prog_1_method_2_code 112 = .ok (.sipush 2048, 3) := by decide +kernel
theorem d_Wea_piece_115 : decode prog_1_method_2_code 115 = .ok (.if_icmp .lt 13, 3) := by decide +kernel
theorem d_Wea_piece_118 : decode prog_1_method_2_code 118 = .ok (.new 67, 3) := by decide +kernel
theorem d_Wea_piece_121 : decode prog_1_method_2_code 121 = .ok (.dup, 1) := by decide +kernel
theorem d_Wea_piece_122 : decode prog_1_method_2_code 122 = .ok (.ldc 69, 2) := by decide +kernel
theorem d_Wea_piece_124 : decode prog_1_method_2_code 124 = .ok (.invokespecial 71, 3) := by decide +kernel
theorem d_Wea_piece_127 : decode prog_1_method_2_code 127 = .ok (.athrow, 1) := by decide +kernel
theorem d_Wea_piece_128 : decode prog_1_method_2_code 128 = .ok (.aload_n 0, 1) := by decide +kernel
theorem d_Wea_piece_129 : decode prog_1_method_2_code 129 = .ok (.getfield 12, 3) := by decide +kernel
theorem d_Wea_piece_132 : decode prog_1_method_2_code 132 = .ok (.iload_n 1, 1) := by decide +kernel
theorem d_Wea_piece_133 : decode prog_1_method_2_code 133 = .ok (.iload_n 2, 1) := by decide +kernel
theorem d_Wea_piece_134 : decode prog_1_method_2_code 134 = .ok (.iload_n 3, 1) := by decide +kernel
theorem d_Wea_piece_135 : decode prog_1_method_2_code 135 = .ok (.iload 4, 2) := by decide +kernel
theorem d_Wea_piece_137 : decode prog_1_method_2_code 137 = .ok (.invokevirtual 72, 3) := by decide +kernel
theorem d_Wea_piece_140 : decode prog_1_method_2_code 140 = .ok (.istore 6, 2) := by decide +kernel
theorem d_Wea_piece_142 : decode prog_1_method_2_code 142 = .ok (.aload_n 0, 1) := by decide +kernel
theorem d_Wea_piece_143 : decode prog_1_method_2_code 143 = .ok (.getfield 12, 3) := by decide +kernel
theorem d_Wea_piece_146 : decode prog_1_method_2_code 146 = .ok (.iload 6, 2) := by decide +kernel
theorem d_Wea_piece_148 : decode prog_1_method_2_code 148 = .ok (.iload 5, 2) := by decide +kernel
theorem d_Wea_piece_150 : decode prog_1_method_2_code 150 = .ok (.invokevirtual 75, 3) := by decide +kernel
theorem d_Wea_piece_153 : decode prog_1_method_2_code 153 = .ok (.aload_n 0, 1) := by decide +kernel
theorem d_Wea_piece_154 : decode prog_1_method_2_code 154 = .ok (.getfield 33, 3) := by decide +kernel
theorem d_Wea_piece_157 : decode prog_1_method_2_code 157 = .ok (.invokevirtual 79, 3) := by decide +kernel
theorem d_Wea_piece_160 : decode prog_1_method_2_code 160 = .ok (.aload_n 0, 1) := by decide +kernel
theorem d_Wea_piece_161 : decode prog_1_method_2_code 161 = .ok (.getfield 12, 3) := by decide +kernel
theorem d_Wea_piece_164 : decode prog_1_method_2_code 164 = .ok (.invokevirtual 63, 3) := by decide +kernel
theorem d_Wea_piece_167 : decode prog_1_method_2_code 167 = .ok (.ireturn, 1) := by decide +kernel
theorem d_Wea_overlay_0 : decode prog_1_method_4_code 0 = .ok (.aload_n 0, 1) := by decide +kernel
theorem d_Wea_overlay_1 : decode prog_1_method_4_code 1 = .ok (.getfield 33, 3) := by decide +kernel
theorem d_Wea_overlay_4 : decode prog_1_method_4_code 4 = .ok (.invokevirtual 79, 3) := by decide +kernel
theorem d_Wea_overlay_7 : decode prog_1_method_4_code 7 = .ok (.iload_n 1, 1) := by decide +kernel
theorem d_Wea_overlay_8 : decode prog_1_method_4_code 8 = .ok (.ifCond .lt 8, 3) := by decide +kernel
theorem d_Wea_overlay_11 : decode prog_1_method_4_code 11 = .ok (.iload_n 1, 1) := by decide +kernel
theorem d_Wea_overlay_12 : decode prog_1_method_4_code 12 = .ok (.iconst 4, 1) := by decide +kernel
theorem d_Wea_overlay_13 : decode prog_1_method_4_code 13 = .ok (.if_icmp .le 13, 3) := by decide +kernel
theorem d_Wea_overlay_16 : decode prog_1_method_4_code 16 = .ok (.new 41, 3) := by decide +kernel
theorem d_Wea_overlay_19 : decode prog_1_method_4_code 19 = .ok (.dup, 1) := by decide +kernel
theorem d_Wea_overlay_20 : decode prog_1_method_4_code 20 = .ok (.ldc 83, 2) := by decide +kernel
theorem d_Wea_overlay_22 : decode prog_1_method_4_code 22 = .ok (.invokespecial 45, 3) := by decide +kernel
theorem d_Wea_overlay_25 : decode prog_1_method_4_code 25 = .ok (.athrow, 1) := by decide +kernel
theorem d_Wea_overlay_26 : decode prog_1_method_4_code 26 = .ok (.aload_n 0, 1) := by decide +kernel
theorem d_Wea_overlay_27 : decode prog_1_method_4_code 27 = .ok (.getfield 12, 3) := by decide +kernel
theorem d_Wea_overlay_30 : decode prog_1_method_4_code 30 = .ok (.invokevirtual 85, 3) := by decide +kernel
theorem d_Wea_overlay_33 : decode prog_1_method_4_code 33 = .ok (.ifCond .ne 13, 3) := by decide +kernel
theorem d_Wea_overlay_36 : decode prog_1_method_4_code 36 = .ok (.new 58, 3) := by decide +kernel
theorem d_Wea_overlay_39 : decode prog_1_method_4_code 39 = .ok (.dup, 1) := by decide +kernel
theorem d_Wea_overlay_40 : decode prog_1_method_4_code 40 = .ok (.ldc 89, 2) := by decide +kernel
theorem d_Wea_overlay_42 : decode prog_1_method_4_code 42 = .ok (.invokespecial 62, 3) := by decide +kernel
theorem d_Wea_overlay_45 : decode prog_1_method_4_code 45 = .ok (.athrow, 1) := by decide +kernel
theorem d_Wea_overlay_46 : decode prog_1_method_4_code 46 = .ok (.aload_n 0, 1) := by decide +kernel
theorem d_Wea_overlay_47 : decode prog_1_method_4_code 47 = .ok (.getfield 19, 3) := by decide +kernel
theorem d_Wea_overlay_50 : decode prog_1_method_4_code 50 = .ok (.aload_n 0, 1) := by decide +kernel
theorem d_Wea_overlay_51 : decode prog_1_method_4_code 51 = .ok (.getfield 12, 3) := by decide +kernel
theorem d_Wea_overlay_54 : decode prog_1_method_4_code 54 = .ok (.iload_n 1, 1) := by decide +kernel
theorem d_Wea_overlay_55 : decode prog_1_method_4_code 55 = .ok (.invokevirtual 91, 3) := by decide +kernel
theorem d_Wea_overlay_58 : decode prog_1_method_4_code 58 = .ok (.aload_n 0, 1) := by decide +kernel
theorem d_Wea_overlay_59 : decode prog_1_method_4_code 59 = .ok (.getfield 26, 3) := by decide +kernel
theorem d_Wea_overlay_62 : decode prog_1_method_4_code 62 = .ok (.aload_n 0, 1) := by decide +kernel
theorem d_Wea_overlay_63 : decode prog_1_method_4_code 63 = .ok (.getfield 12, 3) := by decide +kernel
theorem d_Wea_overlay_66 : decode prog_1_method_4_code 66 = .ok (.aload_n 0, 1) := by decide +kernel
theorem d_Wea_overlay_67 : decode prog_1_method_4_code 67 = .ok (.getfield 19, 3) := by decide +kernel
theorem d_Wea_overlay_70 : decode prog_1_method_4_code 70 = .ok (.invokevirtual 95, 3) := by decide +kernel
theorem d_Wea_overlay_73 : decode prog_1_method_4_code 73 = .ok (.aload_n 0, 1) := by decide +kernel
theorem d_Wea_overlay_74 : decode prog_1_method_4_code 74 = .ok (.getfield 26, 3) := by decide +kernel
theorem d_Wea_overlay_77 : decode prog_1_method_4_code 77 = .ok (.invokevirtual 99, 3) := by decide +kernel
theorem d_Wea_overlay_80 : decode prog_1_method_4_code 80 = .ok (.sipush 2048, 3) := by decide +kernel
theorem d_Wea_overlay_83 : decode prog_1_method_4_code 83 = .ok (.if_icmp .gt 16, 3) := by decide +kernel
theorem d_Wea_overlay_86 : decode prog_1_method_4_code 86 = .ok (.aload_n 0, 1) := by decide +kernel
theorem d_Wea_overlay_87 : decode prog_1_method_4_code 87 = .ok (.getfield 26, 3) := by decide +kernel
theorem d_Wea_overlay_90 : decode prog_1_method_4_code 90 = .ok (.invokevirtual 102, 3) := by decide +kernel
theorem d_Wea_overlay_93 : decode prog_1_method_4_code 93 = .ok (.sipush 2048, 3) := by decide +kernel
theorem d_Wea_overlay_96 : decode prog_1_method_4_code 96 = .ok (.if_icmp .le 13, 3) := by decide +kernel
theorem d_Wea_overlay_99 : decode prog_1_method_4_code 99 = .ok (.new 67, 3) := by decide +kernel
theorem d_Wea_overlay_102 : decode prog_1_method_4_code 102 = .ok (.dup, 1) := by decide +kernel
theorem d_Wea_overlay_103 : decode prog_1_method_4_code 103 = .ok (.ldc 105, 2) := by decide +kernel
theorem d_Wea_overlay_105 : decode prog_1_method_4_code 105 = .ok (.invokespecial 71, 3) := by decide +kernel
theorem d_Wea_overlay_108 : decode prog_1_method_4_code 108 = .ok (.athrow, 1) := by decide +kernel
theorem d_Wea_overlay_109 : decode prog_1_method_4_code 109 = .ok (.aload_n 0, 1) := by decide +kernel
theorem d_Wea_overlay_110 : decode prog_1_method_4_code 110 = .ok (.getfield 33, 3) := by decide +kernel
theorem d_Wea_overlay_113 : decode prog_1_method_4_code 113 = .ok (.aload_n 0, 1) := by decide +kernel
theorem d_Wea_overlay_114 : decode prog_1_method_4_code 114 = .ok (.getfield 26, 3) := by decide +kernel
theorem d_Wea_overlay_117 : decode prog_1_method_4_code 117 = .ok (.invokevirtual 107, 3) := by decide +kernel
theorem d_Wea_overlay_120 : decode prog_1_method_4_code 120 = .ok (.aload_n 0, 1) := by decide +kernel
theorem d_Wea_overlay_121 : decode prog_1_method_4_code 121 = .ok (.getfield 33, 3) := by decide +kernel
theorem d_Wea_overlay_124 : decode prog_1_method_4_code 124 = .ok (.getfield 111, 3) := by decide +kernel
theorem d_Wea_overlay_127 : decode prog_1_method_4_code 127 = .ok (.ireturn, 1) := by decide +kernel
theorem d_Wea_plan_0 : decode prog_1_method_5_code 0 = .ok (.iload_n 1, 1) := by decide +kernel
theorem d_Wea_plan_1 : decode prog_1_method_5_code 1 = .ok (.ifCond .lt 17, 3) := by decide +kernel
theorem d_Wea_plan_4 : decode prog_1_method_5_code 4 = .ok (.iload_n 1, 1) := by decide +kernel
theorem d_Wea_plan_5 : decode prog_1_method_5_code 5 = .ok (.aload_n 0, 1) := by decide +kernel
theorem d_Wea_plan_6 : decode prog_1_method_5_code 6 = .ok (.getfield 33, 3) := by decide +kernel
theorem d_Wea_plan_9 : decode prog_1_method_5_code 9 = .ok (.getfield 115, 3) := by decide +kernel
theorem d_Wea_plan_12 : decode prog_1_method_5_code 12 = .ok (.getfield 119, 3) := by decide +kernel
theorem d_Wea_plan_15 : decode prog_1_method_5_code 15 = .ok (.if_icmp .lt 13, 3) := by decide +kernel
theorem d_Wea_plan_18 : decode prog_1_method_5_code 18 = .ok (.new 124, 3) := by decide +kernel
theorem d_Wea_plan_21 : decode prog_1_method_5_code 21 = .ok (.dup, 1) := by decide +kernel
theorem d_Wea_plan_22 : decode prog_1_method_5_code 22 = .ok (.ldc 126, 2) := by decide +kernel
theorem d_Wea_plan_24 : decode prog_1_method_5_code 24 = .ok (.invokespecial 128, 3) := by decide +kernel
theorem d_Wea_plan_27 : decode prog_1_method_5_code 27 = .ok (.athrow, 1) := by decide +kernel
theorem d_Wea_plan_28 : decode prog_1_method_5_code 28 = .ok (.aload_n 0, 1) := by decide +kernel
theorem d_Wea_plan_29 : decode prog_1_method_5_code 29 = .ok (.getfield 33, 3) := by decide +kernel
theorem d_Wea_plan_32 : decode prog_1_method_5_code 32 = .ok (.getfield 115, 3) := by decide +kernel
theorem d_Wea_plan_35 : decode prog_1_method_5_code 35 = .ok (.iload_n 1, 1) := by decide +kernel
theorem d_Wea_plan_36 : decode prog_1_method_5_code 36 = .ok (.invokevirtual 129, 3) := by decide +kernel
theorem d_Wea_plan_39 : decode prog_1_method_5_code 39 = .ok (.ireturn, 1) := by decide +kernel
theorem d_Wea_ordinate_0 : decode prog_1_method_6_code 0 = .ok (.iload_n 1, 1) := by decide +kernel
theorem d_Wea_ordinate_1 : decode prog_1_method_6_code 1 = .ok (.ifCond .lt 17, 3) := by decide +kernel
theorem d_Wea_ordinate_4 : decode prog_1_method_6_code 4 = .ok (.iload_n 1, 1) := by decide +kernel
theorem d_Wea_ordinate_5 : decode prog_1_method_6_code 5 = .ok (.aload_n 0, 1) := by decide +kernel
theorem d_Wea_ordinate_6 : decode prog_1_method_6_code 6 = .ok (.getfield 33, 3) := by decide +kernel
theorem d_Wea_ordinate_9 : decode prog_1_method_6_code 9 = .ok (.getfield 133, 3) := by decide +kernel
theorem d_Wea_ordinate_12 : decode prog_1_method_6_code 12 = .ok (.getfield 119, 3) := by decide +kernel
theorem d_Wea_ordinate_15 : decode prog_1_method_6_code 15 = .ok (.if_icmp .lt 13, 3) := by decide +kernel
theorem d_Wea_ordinate_18 : decode prog_1_method_6_code 18 = .ok (.new 124, 3) := by decide +kernel
theorem d_Wea_ordinate_21 : decode prog_1_method_6_code 21 = .ok (.dup, 1) := by decide +kernel
theorem d_Wea_ordinate_22 : decode prog_1_method_6_code 22 = .ok (.ldc 136, 2) := by decide +kernel
theorem d_Wea_ordinate_24 : decode prog_1_method_6_code 24 = .ok (.invokespecial 128, 3) := by decide +kernel
theorem d_Wea_ordinate_27 : decode prog_1_method_6_code 27 = .ok (.athrow, 1) := by decide +kernel
theorem d_Wea_ordinate_28 : decode prog_1_method_6_code 28 = .ok (.iload_n 2, 1) := by decide +kernel
theorem d_Wea_ordinate_29 : decode prog_1_method_6_code 29 = .ok (.ifCond .lt 8, 3) := by decide +kernel
theorem d_Wea_ordinate_32 : decode prog_1_method_6_code 32 = .ok (.iload_n 2, 1) := by decide +kernel
theorem d_Wea_ordinate_33 : decode prog_1_method_6_code 33 = .ok (.iconst 1, 1) := by decide +kernel
theorem d_Wea_ordinate_34 : decode prog_1_method_6_code 34 = .ok (.if_icmp .le 13, 3) := by decide +kernel
theorem d_Wea_ordinate_37 : decode prog_1_method_6_code 37 = .ok (.new 124, 3) := by decide +kernel
theorem d_Wea_ordinate_40 : decode prog_1_method_6_code 40 = .ok (.dup, 1) := by decide +kernel
theorem d_Wea_ordinate_41 : decode prog_1_method_6_code 41 = .ok (.ldc 138, 2) := by decide +kernel
theorem d_Wea_ordinate_43 : decode prog_1_method_6_code 43 = .ok (.invokespecial 128, 3) := by decide +kernel
theorem d_Wea_ordinate_46 : decode prog_1_method_6_code 46 = .ok (.athrow, 1) := by decide +kernel
theorem d_Wea_ordinate_47 : decode prog_1_method_6_code 47 = .ok (.iload_n 2, 1) := by decide +kernel
theorem d_Wea_ordinate_48 : decode prog_1_method_6_code 48 = .ok (.ifCond .ne 17, 3) := by decide +kernel
theorem d_Wea_ordinate_51 : decode prog_1_method_6_code 51 = .ok (.aload_n 0, 1) := by decide +kernel
theorem d_Wea_ordinate_52 : decode prog_1_method_6_code 52 = .ok (.getfield 33, 3) := by decide +kernel
theorem d_Wea_ordinate_55 : decode prog_1_method_6_code 55 = .ok (.getfield 133, 3) := by decide +kernel
theorem d_Wea_ordinate_58 : decode prog_1_method_6_code 58 = .ok (.iload_n 1, 1) := by decide +kernel
theorem d_Wea_ordinate_59 : decode prog_1_method_6_code 59 = .ok (.invokevirtual 129, 3) := by decide +kernel
theorem d_Wea_ordinate_62 : decode prog_1_method_6_code 62 = .ok (.goto 14, 3) := by decide +kernel
theorem d_Wea_ordinate_65 : decode prog_1_method_6_code 65 = .ok (.aload_n 0, 1) := by decide +kernel
theorem d_Wea_ordinate_66 : decode prog_1_method_6_code 66 = .ok (.getfield 33, 3) := by decide +kernel
theorem d_Wea_ordinate_69 : decode prog_1_method_6_code 69 = .ok (.getfield 140, 3) := by decide +kernel
theorem d_Wea_ordinate_72 : decode prog_1_method_6_code 72 = .ok (.iload_n 1, 1) := by decide +kernel
theorem d_Wea_ordinate_73 : decode prog_1_method_6_code 73 = .ok (.invokevirtual 129, 3) := by decide +kernel
theorem d_Wea_ordinate_76 : decode prog_1_method_6_code 76 = .ok (.ireturn, 1) := by decide +kernel
/-! methods that may throw: what they need of the state, beside the rest -/
def isX : Cond → Bool
  | .castable .. => true
  | .declares _ => true
  | _ => false
def dcXW : List Cond := lw_tbl.filter isX
def dcX (U : State) : Prop := ∀ w ∈ dcXW, w.before #[] U = true
theorem dcX.warm {s U : State} (hW : s.WarmedH U.vm) (h : dcX s) : dcX U := by
  intro w hw
  have h1 := h w hw
  have h2 := (List.mem_filter.mp hw).2
  cases w <;> first | (cases h2; done) | exact va_Nw.warmC hW h1 | exact va_tabs rfl (rfl : (s.setVm U.vm).vm = U.vm) (by rw [Cond.declares_setVm hW.alike]; exact h1)
theorem dcX.same {s U : State} (hv : s.vm = U.vm) (h : dcX s) : dcX U := by
  intro w hw
  have h1 := h w hw
  have h2 := (List.mem_filter.mp hw).2
  cases w <;> first | (cases h2; done) | exact va_tabs rfl hv h1
theorem dcX.at {s : State} {args : Array Value} (h : dcX s) : ∀ w ∈ dcXW, w.before args s = true := by
  intro w hw
  have h1 := h w hw
  have h2 := (List.mem_filter.mp hw).2
  cases w <;> first | (cases h2; done) | exact va_tabs rfl rfl h1
def dcSt : List (Nat × String) := [(43, "no two places"), (48, "no such marks"), (60, "it has more than an end in common with a piece"), (69, "too many pieces"), (83, "no such result"), (89, "a drawing is not closed"), (105, "too large a result"), (126, "no such number of the plan"), (136, "no such corner"), (138, "neither x nor y")]
def dcStr (U : State) : Prop := ∀ q ∈ dcSt, ∃ sa, vk_R R_Wea q.1 q.2 sa U
theorem dcStr.warm {s U : State} (hW : s.WarmedH U.vm) (h : dcStr s) : dcStr U := fun q hq => (h q hq).imp fun _ h => vk_R.warm hW h
theorem dcStr.same {s U : State} (hv : U.vm = s.vm) (h : dcStr s) : dcStr U := fun q hq => (h q hq).imp fun _ h => vk_R.same hv h
abbrev dcZ (A : Nat → Prop) (U : State) (H : Heap) : Prop := vx_Zq Bundle.tN "UNASSIGNED_STACK" Bundle.steD A U H ∧ vx_Zq Bundle.tN "SUPPRESSED_SENTINEL" Bundle.listD A U H
def dcE (l : Launch) (s : State) (c : Code) (A : Nat → Prop) : Prop := l.stackTraces = false ∧ dcX s ∧ dcStr s ∧ dcZ A s s.heap ∧ ∀ x ∈ c.exceptionTable.toList, False
def exN : Nat → String
  | 1 => "java/lang/IllegalArgumentException"
  | 2 => "java/lang/IllegalStateException"
  | 3 => "java/lang/UnsupportedOperationException"
  | _ => "java/lang/IndexOutOfBoundsException"
def dc_PreX (D : va_G) (tys : List (ClassId × FieldType)) (ws : va_W) (sz : Nat) (av : List Value) : Array Value → State → Prop := va_Pc av (fun U => (U.heap.size = sz ∧ va_P D vwCl ws U.heap ∧ va_K D vwCl tys U ∧ va_D (fun _ => True) ws ∧ dcN U) ∧ dcX U ∧ dcStr U ∧ dcZ (va_A ws sz) U U.heap)
/-- returned: ex = 0; thrown: ex tells the class -/
def dc_QX (ex : Nat) (Qc : Array Value → State → Outcome → State → Prop) : Array Value → State → Outcome → State → Prop := fun a st o t => ex = 0 ∧ Qc a st o t
def dc_XC (ex : Nat) (D : va_G) {X : Type} (φ : X → Prop) (w1 : X → va_W) (A : Nat → Prop) : String → State → State → Prop := fun E st t => ex ≠ 0 ∧ E = exN ex ∧ (∃ x : X, φ x ∧ va_P D vwCl (w1 x) t.heap ∧ va_D A (w1 x)) ∧ va_F A st t
theorem dc_blindX {D : va_G} {tys : List (ClassId × FieldType)} {ws : va_W} {sz : Nat} {av : List Value} : FrameBlind (dc_PreX D tys ws sz av) := fun a U g mk q => by
  obtain ⟨q0, ⟨q1, qP, qK, qD, qN⟩, qX, qS, qZ⟩ := q
  exact ⟨q0, ⟨q1, qP, va_K.moved (u := U) (U := U.calling g mk a) (Vm.Alike.refl U.vm) qK, qD, dcN.same (s := U) (U := U.calling g mk a) rfl qN⟩, dcX.same (s := U) (U := U.calling g mk a) rfl qX, dcStr.same (s := U) (U := U.calling g mk a) rfl qS, ⟨vx_Zq.moved (u := U) (U := U.calling g mk a) (Vm.Alike.refl U.vm) qZ.1, vx_Zq.moved (u := U) (U := U.calling g mk a) (Vm.Alike.refl U.vm) qZ.2⟩⟩
set_option maxRecDepth 100000 in
theorem th1_128_IndexOutOfBoundsException : ∀ w ∈ (vx_atS R_Wea 128 "java/lang/IndexOutOfBoundsException" ["java/lang/RuntimeException", "java/lang/Exception"]).filter goodWord, w ∈ dcW := by decide +kernel
set_option maxRecDepth 100000 in
theorem th1_45_IllegalArgumentException : ∀ w ∈ (vx_atS R_Wea 45 "java/lang/IllegalArgumentException" ["java/lang/RuntimeException", "java/lang/Exception"]).filter goodWord, w ∈ dcW := by decide +kernel
set_option maxRecDepth 100000 in
theorem th1_62_IllegalStateException : ∀ w ∈ (vx_atS R_Wea 62 "java/lang/IllegalStateException" ["java/lang/RuntimeException", "java/lang/Exception"]).filter goodWord, w ∈ dcW := by decide +kernel
set_option maxRecDepth 100000 in
theorem th1_71_UnsupportedOperationException : ∀ w ∈ (vx_atS R_Wea 71 "java/lang/UnsupportedOperationException" ["java/lang/RuntimeException", "java/lang/Exception"]).filter goodWord, w ∈ dcW := by decide +kernel
set_option maxRecDepth 100000 in
theorem th2_128_IndexOutOfBoundsException : ∀ w ∈ (vx_atS R_Wea 128 "java/lang/IndexOutOfBoundsException" ["java/lang/RuntimeException", "java/lang/Exception"]).filter (fun w => !goodWord w), w ∈ dcXW := by decide +kernel
set_option maxRecDepth 100000 in
theorem th2_45_IllegalArgumentException : ∀ w ∈ (vx_atS R_Wea 45 "java/lang/IllegalArgumentException" ["java/lang/RuntimeException", "java/lang/Exception"]).filter (fun w => !goodWord w), w ∈ dcXW := by decide +kernel
set_option maxRecDepth 100000 in
theorem th2_62_IllegalStateException : ∀ w ∈ (vx_atS R_Wea 62 "java/lang/IllegalStateException" ["java/lang/RuntimeException", "java/lang/Exception"]).filter (fun w => !goodWord w), w ∈ dcXW := by decide +kernel
set_option maxRecDepth 100000 in
theorem th2_71_UnsupportedOperationException : ∀ w ∈ (vx_atS R_Wea 71 "java/lang/UnsupportedOperationException" ["java/lang/RuntimeException", "java/lang/Exception"]).filter (fun w => !goodWord w), w ∈ dcXW := by decide +kernel
set_option maxRecDepth 100000 in
theorem th3_124_128_IndexOutOfBoundsException : ∀ w ∈ Cond.classLink R_Wea 124 "java/lang/IndexOutOfBoundsException" :: Cond.initialized "java/lang/IndexOutOfBoundsException" :: vx_atS R_Wea 128 "java/lang/IndexOutOfBoundsException" ["java/lang/RuntimeException", "java/lang/Exception"], vx_ot w = true := by decide +kernel
set_option maxRecDepth 100000 in
theorem th3_41_45_IllegalArgumentException : ∀ w ∈ Cond.classLink R_Wea 41 "java/lang/IllegalArgumentException" :: Cond.initialized "java/lang/IllegalArgumentException" :: vx_atS R_Wea 45 "java/lang/IllegalArgumentException" ["java/lang/RuntimeException", "java/lang/Exception"], vx_ot w = true := by decide +kernel
set_option maxRecDepth 100000 in
theorem th3_58_62_IllegalStateException : ∀ w ∈ Cond.classLink R_Wea 58 "java/lang/IllegalStateException" :: Cond.initialized "java/lang/IllegalStateException" :: vx_atS R_Wea 62 "java/lang/IllegalStateException" ["java/lang/RuntimeException", "java/lang/Exception"], vx_ot w = true := by decide +kernel
set_option maxRecDepth 100000 in
theorem th3_67_71_UnsupportedOperationException : ∀ w ∈ Cond.classLink R_Wea 67 "java/lang/UnsupportedOperationException" :: Cond.initialized "java/lang/UnsupportedOperationException" :: vx_atS R_Wea 71 "java/lang/UnsupportedOperationException" ["java/lang/RuntimeException", "java/lang/Exception"], vx_ot w = true := by decide +kernel
