theorem wn_30 : (Jvm.Cond.methodLinkNest "RingWeaver" (11 : Nat) ({ cls := "RingWeaver$Net", name := "<init>", desc := "()V" } : Jvm.MethodName) "RingWeaver") ∈ dcNW := dcN_m 82 (by decide +kernel) (by decide +kernel)
theorem wn_36 : (Jvm.Cond.methodLinkNest "RingWeaver$Net" (11 : Nat) ({ cls := "RingWeaver$Row", name := "<init>", desc := "()V" } : Jvm.MethodName) "RingWeaver") ∈ dcNW := dcN_m 88 (by decide +kernel) (by decide +kernel)
theorem wn_42 : (Jvm.Cond.fieldLinkNest "RingWeaver$Net" (33 : Nat) "RingWeaver$Row" "size" "I" "RingWeaver") ∈ dcNW := dcN_m 94 (by decide +kernel) (by decide +kernel)
theorem wn_43 : (Jvm.Cond.fieldLinkNest "RingWeaver$Boundary" (30 : Nat) "RingWeaver$Row" "size" "I" "RingWeaver") ∈ dcNW := dcN_m 95 (by decide +kernel) (by decide +kernel)
theorem wn_44 : (Jvm.Cond.fieldLinkNest "RingWeaver$Rings" (43 : Nat) "RingWeaver$Row" "size" "I" "RingWeaver") ∈ dcNW := dcN_m 96 (by decide +kernel) (by decide +kernel)
theorem wn_45 : (Jvm.Cond.fieldLinkNest "RingWeaver$Multipolygon" (47 : Nat) "RingWeaver$Row" "size" "I" "RingWeaver") ∈ dcNW := dcN_m 97 (by decide +kernel) (by decide +kernel)
theorem wn_46 : (Jvm.Cond.fieldLinkNest "RingWeaver" (119 : Nat) "RingWeaver$Row" "size" "I" "RingWeaver") ∈ dcNW := dcN_m 98 (by decide +kernel) (by decide +kernel)
theorem wn_54 : (Jvm.Cond.fieldLinkNest "RingWeaver$Rings" (114 : Nat) "RingWeaver$Net" "x" "LRingWeaver$Row;" "RingWeaver") ∈ dcNW := dcN_m 106 (by decide +kernel) (by decide +kernel)
theorem wn_56 : (Jvm.Cond.fieldLinkNest "RingWeaver$Rings" (115 : Nat) "RingWeaver$Net" "y" "LRingWeaver$Row;" "RingWeaver") ∈ dcNW := dcN_m 108 (by decide +kernel) (by decide +kernel)
theorem wn_59 : (Jvm.Cond.fieldLinkNest "RingWeaver$Boundary" (75 : Nat) "RingWeaver$Net" "from" "LRingWeaver$Row;" "RingWeaver") ∈ dcNW := dcN_m 111 (by decide +kernel) (by decide +kernel)
theorem wn_61 : (Jvm.Cond.fieldLinkNest "RingWeaver$Boundary" (76 : Nat) "RingWeaver$Net" "to" "LRingWeaver$Row;" "RingWeaver") ∈ dcNW := dcN_m 113 (by decide +kernel) (by decide +kernel)
theorem wn_63 : (Jvm.Cond.fieldLinkNest "RingWeaver$Boundary" (50 : Nat) "RingWeaver$Net" "marks" "LRingWeaver$Row;" "RingWeaver") ∈ dcNW := dcN_m 115 (by decide +kernel) (by decide +kernel)
theorem wn_79 : (Jvm.Cond.methodLinkNest "RingWeaver" (18 : Nat) ({ cls := "RingWeaver$Boundary", name := "<init>", desc := "()V" } : Jvm.MethodName) "RingWeaver") ∈ dcNW := dcN_m 131 (by decide +kernel) (by decide +kernel)
theorem wn_84 : (Jvm.Cond.methodLinkNest "RingWeaver$Boundary" (11 : Nat) ({ cls := "RingWeaver$Row", name := "<init>", desc := "()V" } : Jvm.MethodName) "RingWeaver") ∈ dcNW := dcN_m 136 (by decide +kernel) (by decide +kernel)
theorem wn_86 : (Jvm.Cond.fieldLinkNest "RingWeaver$Rings" (86 : Nat) "RingWeaver$Boundary" "from" "LRingWeaver$Row;" "RingWeaver") ∈ dcNW := dcN_m 138 (by decide +kernel) (by decide +kernel)
theorem wn_88 : (Jvm.Cond.fieldLinkNest "RingWeaver$Rings" (89 : Nat) "RingWeaver$Boundary" "to" "LRingWeaver$Row;" "RingWeaver") ∈ dcNW := dcN_m 140 (by decide +kernel) (by decide +kernel)
theorem wn_90 : (Jvm.Cond.fieldLinkNest "RingWeaver$Rings" (96 : Nat) "RingWeaver$Boundary" "next" "LRingWeaver$Row;" "RingWeaver") ∈ dcNW := dcN_m 142 (by decide +kernel) (by decide +kernel)
theorem wn_106 : (Jvm.Cond.methodLinkNest "RingWeaver" (25 : Nat) ({ cls := "RingWeaver$Rings", name := "<init>", desc := "()V" } : Jvm.MethodName) "RingWeaver") ∈ dcNW := dcN_m 158 (by decide +kernel) (by decide +kernel)
theorem wn_111 : (Jvm.Cond.methodLinkNest "RingWeaver$Rings" (11 : Nat) ({ cls := "RingWeaver$Row", name := "<init>", desc := "()V" } : Jvm.MethodName) "RingWeaver") ∈ dcNW := dcN_m 163 (by decide +kernel) (by decide +kernel)
theorem wn_113 : (Jvm.Cond.fieldLinkNest "RingWeaver$Multipolygon" (74 : Nat) "RingWeaver$Rings" "x" "LRingWeaver$Row;" "RingWeaver") ∈ dcNW := dcN_m 165 (by decide +kernel) (by decide +kernel)
theorem wn_115 : (Jvm.Cond.fieldLinkNest "RingWeaver$Multipolygon" (75 : Nat) "RingWeaver$Rings" "y" "LRingWeaver$Row;" "RingWeaver") ∈ dcNW := dcN_m 167 (by decide +kernel) (by decide +kernel)
theorem wn_118 : (Jvm.Cond.fieldLinkNest "RingWeaver$Multipolygon" (44 : Nat) "RingWeaver$Rings" "order" "LRingWeaver$Row;" "RingWeaver") ∈ dcNW := dcN_m 170 (by decide +kernel) (by decide +kernel)
theorem wn_120 : (Jvm.Cond.fieldLinkNest "RingWeaver$Multipolygon" (54 : Nat) "RingWeaver$Rings" "owner" "LRingWeaver$Row;" "RingWeaver") ∈ dcNW := dcN_m 172 (by decide +kernel) (by decide +kernel)
theorem wn_122 : (Jvm.Cond.fieldLinkNest "RingWeaver$Multipolygon" (35 : Nat) "RingWeaver$Rings" "shells" "I" "RingWeaver") ∈ dcNW := dcN_m 174 (by decide +kernel) (by decide +kernel)
theorem wn_147 : (Jvm.Cond.methodLinkNest "RingWeaver" (32 : Nat) ({ cls := "RingWeaver$Multipolygon", name := "<init>", desc := "()V" } : Jvm.MethodName) "RingWeaver") ∈ dcNW := dcN_m 199 (by decide +kernel) (by decide +kernel)
theorem wn_152 : (Jvm.Cond.methodLinkNest "RingWeaver$Multipolygon" (11 : Nat) ({ cls := "RingWeaver$Row", name := "<init>", desc := "()V" } : Jvm.MethodName) "RingWeaver") ∈ dcNW := dcN_m 204 (by decide +kernel) (by decide +kernel)
theorem wn_154 : (Jvm.Cond.fieldLinkNest "RingWeaver" (115 : Nat) "RingWeaver$Multipolygon" "plan" "LRingWeaver$Row;" "RingWeaver") ∈ dcNW := dcN_m 206 (by decide +kernel) (by decide +kernel)
theorem wn_156 : (Jvm.Cond.fieldLinkNest "RingWeaver" (133 : Nat) "RingWeaver$Multipolygon" "x" "LRingWeaver$Row;" "RingWeaver") ∈ dcNW := dcN_m 208 (by decide +kernel) (by decide +kernel)
theorem wn_160 : (Jvm.Cond.fieldLinkNest "RingWeaver" (111 : Nat) "RingWeaver$Multipolygon" "polygons" "I" "RingWeaver") ∈ dcNW := dcN_m 212 (by decide +kernel) (by decide +kernel)
theorem wn_162 : (Jvm.Cond.fieldLinkNest "RingWeaver" (143 : Nat) "RingWeaver$Multipolygon" "twiceArea" "J" "RingWeaver") ∈ dcNW := dcN_m 214 (by decide +kernel) (by decide +kernel)
theorem wp_1 : Cond.selects "RingWeaver$Net" ⟨"RingWeaver$Net", "clashes", "(IIIII)Z"⟩ ⟨"RingWeaver$Net", "clashes", "(IIIII)Z"⟩ ∈ dcW := dcW_m 1 (by decide +kernel) (by decide +kernel)
theorem wp_2 : Cond.selects "RingWeaver$Net" ⟨"RingWeaver$Net", "knownPlace", "(II)I"⟩ ⟨"RingWeaver$Net", "knownPlace", "(II)I"⟩ ∈ dcW := dcW_m 2 (by decide +kernel) (by decide +kernel)
theorem wp_3 : Cond.selects "RingWeaver$Boundary" ⟨"RingWeaver$Boundary", "addIfBoundary", "(LRingWeaver$Net;II)V"⟩ ⟨"RingWeaver$Boundary", "addIfBoundary", "(LRingWeaver$Net;II)V"⟩ ∈ dcW := dcW_m 3 (by decide +kernel) (by decide +kernel)
theorem wp_4 : Cond.selects "RingWeaver$Net" ⟨"RingWeaver$Net", "isCrossedFrom", "(JJI)Z"⟩ ⟨"RingWeaver$Net", "isCrossedFrom", "(JJI)Z"⟩ ∈ dcW := dcW_m 4 (by decide +kernel) (by decide +kernel)
theorem wp_5 : Cond.selects "RingWeaver$Boundary" ⟨"RingWeaver$Boundary", "addWay", "(II)V"⟩ ⟨"RingWeaver$Boundary", "addWay", "(II)V"⟩ ∈ dcW := dcW_m 5 (by decide +kernel) (by decide +kernel)
theorem wp_6 : Cond.selects "RingWeaver$Boundary" ⟨"RingWeaver$Boundary", "wayBehind", "(LRingWeaver$Net;I)I"⟩ ⟨"RingWeaver$Boundary", "wayBehind", "(LRingWeaver$Net;I)I"⟩ ∈ dcW := dcW_m 6 (by decide +kernel) (by decide +kernel)
theorem wp_7 : Cond.selects "RingWeaver$Rings" ⟨"RingWeaver$Rings", "prepare", "(LRingWeaver$Net;LRingWeaver$Boundary;)V"⟩ ⟨"RingWeaver$Rings", "prepare", "(LRingWeaver$Net;LRingWeaver$Boundary;)V"⟩ ∈ dcW := dcW_m 7 (by decide +kernel) (by decide +kernel)
theorem wp_8 : Cond.selects "RingWeaver$Rings" ⟨"RingWeaver$Rings", "walk", "(LRingWeaver$Net;LRingWeaver$Boundary;I)V"⟩ ⟨"RingWeaver$Rings", "walk", "(LRingWeaver$Net;LRingWeaver$Boundary;I)V"⟩ ∈ dcW := dcW_m 8 (by decide +kernel) (by decide +kernel)
theorem wp_9 : Cond.selects "RingWeaver$Rings" ⟨"RingWeaver$Rings", "takeRing", "(LRingWeaver$Net;I)V"⟩ ⟨"RingWeaver$Rings", "takeRing", "(LRingWeaver$Net;I)V"⟩ ∈ dcW := dcW_m 9 (by decide +kernel) (by decide +kernel)
theorem wp_10 : Cond.selects "RingWeaver$Rings" ⟨"RingWeaver$Rings", "addCorners", "(LRingWeaver$Net;III)V"⟩ ⟨"RingWeaver$Rings", "addCorners", "(LRingWeaver$Net;III)V"⟩ ∈ dcW := dcW_m 10 (by decide +kernel) (by decide +kernel)
theorem wp_11 : Cond.selects "RingWeaver$Rings" ⟨"RingWeaver$Rings", "putInOrder", "(I)V"⟩ ⟨"RingWeaver$Rings", "putInOrder", "(I)V"⟩ ∈ dcW := dcW_m 11 (by decide +kernel) (by decide +kernel)
theorem wp_12 : Cond.selects "RingWeaver$Rings" ⟨"RingWeaver$Rings", "comesBefore", "(II)Z"⟩ ⟨"RingWeaver$Rings", "comesBefore", "(II)Z"⟩ ∈ dcW := dcW_m 12 (by decide +kernel) (by decide +kernel)
theorem wp_13 : Cond.selects "RingWeaver$Rings" ⟨"RingWeaver$Rings", "ownerOf", "(I)I"⟩ ⟨"RingWeaver$Rings", "ownerOf", "(I)I"⟩ ∈ dcW := dcW_m 13 (by decide +kernel) (by decide +kernel)
theorem wp_14 : Cond.selects "RingWeaver$Rings" ⟨"RingWeaver$Rings", "liesIn", "(II)Z"⟩ ⟨"RingWeaver$Rings", "liesIn", "(II)Z"⟩ ∈ dcW := dcW_m 14 (by decide +kernel) (by decide +kernel)
theorem wp_15 : Cond.selects "RingWeaver$Rings" ⟨"RingWeaver$Rings", "isOnRing", "(III)Z"⟩ ⟨"RingWeaver$Rings", "isOnRing", "(III)Z"⟩ ∈ dcW := dcW_m 15 (by decide +kernel) (by decide +kernel)
theorem wp_16 : Cond.selects "RingWeaver$Rings" ⟨"RingWeaver$Rings", "isInRing", "(III)Z"⟩ ⟨"RingWeaver$Rings", "isInRing", "(III)Z"⟩ ∈ dcW := dcW_m 16 (by decide +kernel) (by decide +kernel)
theorem wp_17 : Cond.selects "RingWeaver$Multipolygon" ⟨"RingWeaver$Multipolygon", "tellPolygon", "(LRingWeaver$Rings;I)V"⟩ ⟨"RingWeaver$Multipolygon", "tellPolygon", "(LRingWeaver$Rings;I)V"⟩ ∈ dcW := dcW_m 17 (by decide +kernel) (by decide +kernel)
theorem wp_18 : Cond.selects "RingWeaver$Multipolygon" ⟨"RingWeaver$Multipolygon", "tellRing", "(LRingWeaver$Rings;I)V"⟩ ⟨"RingWeaver$Multipolygon", "tellRing", "(LRingWeaver$Rings;I)V"⟩ ∈ dcW := dcW_m 18 (by decide +kernel) (by decide +kernel)
theorem wp_19 : Cond.selects "RingWeaverModel" ⟨"RingWeaverModel", "fail", "(I)I"⟩ ⟨"RingWeaverModel", "fail", "(I)I"⟩ ∈ dcW := dcW_m 19 (by decide +kernel) (by decide +kernel)
theorem wp_20 : Cond.selects "RingWeaverModel" ⟨"RingWeaverModel", "find", "(IIII)I"⟩ ⟨"RingWeaverModel", "find", "(IIII)I"⟩ ∈ dcW := dcW_m 20 (by decide +kernel) (by decide +kernel)
theorem wp_21 : Cond.selects "RingWeaverModel" ⟨"RingWeaverModel", "isEnd", "(III)Z"⟩ ⟨"RingWeaverModel", "isEnd", "(III)Z"⟩ ∈ dcW := dcW_m 21 (by decide +kernel) (by decide +kernel)
theorem wp_22 : Cond.selects "RingWeaverModel" ⟨"RingWeaverModel", "isApart", "(IIII)Z"⟩ ⟨"RingWeaverModel", "isApart", "(IIII)Z"⟩ ∈ dcW := dcW_m 22 (by decide +kernel) (by decide +kernel)
theorem wp_23 : Cond.selects "RingWeaverModel" ⟨"RingWeaverModel", "keepsOff", "(II)Z"⟩ ⟨"RingWeaverModel", "keepsOff", "(II)Z"⟩ ∈ dcW := dcW_m 23 (by decide +kernel) (by decide +kernel)
theorem wp_24 : Cond.selects "RingWeaverModel" ⟨"RingWeaverModel", "isIn", "(III)Z"⟩ ⟨"RingWeaverModel", "isIn", "(III)Z"⟩ ∈ dcW := dcW_m 24 (by decide +kernel) (by decide +kernel)
theorem wp_25 : Cond.selects "RingWeaverModel" ⟨"RingWeaverModel", "noResult", "()V"⟩ ⟨"RingWeaverModel", "noResult", "()V"⟩ ∈ dcW := dcW_m 25 (by decide +kernel) (by decide +kernel)
theorem wp_26 : Cond.selects "RingWeaverModel" ⟨"RingWeaverModel", "areClosed", "()Z"⟩ ⟨"RingWeaverModel", "areClosed", "()Z"⟩ ∈ dcW := dcW_m 26 (by decide +kernel) (by decide +kernel)
theorem wp_27 : Cond.selects "RingWeaverModel" ⟨"RingWeaverModel", "isEven", "(II)Z"⟩ ⟨"RingWeaverModel", "isEven", "(II)Z"⟩ ∈ dcW := dcW_m 27 (by decide +kernel) (by decide +kernel)
theorem wp_28 : Cond.selects "RingWeaverModel" ⟨"RingWeaverModel", "findWays", "(I)V"⟩ ⟨"RingWeaverModel", "findWays", "(I)V"⟩ ∈ dcW := dcW_m 28 (by decide +kernel) (by decide +kernel)
theorem wp_29 : Cond.selects "RingWeaverModel" ⟨"RingWeaverModel", "right", "(I)I"⟩ ⟨"RingWeaverModel", "right", "(I)I"⟩ ∈ dcW := dcW_m 29 (by decide +kernel) (by decide +kernel)
theorem wp_30 : Cond.selects "RingWeaverModel" ⟨"RingWeaverModel", "go", "(I)V"⟩ ⟨"RingWeaverModel", "go", "(I)V"⟩ ∈ dcW := dcW_m 30 (by decide +kernel) (by decide +kernel)
theorem wp_31 : Cond.selects "RingWeaverModel" ⟨"RingWeaverModel", "startX", "(I)I"⟩ ⟨"RingWeaverModel", "startX", "(I)I"⟩ ∈ dcW := dcW_m 31 (by decide +kernel) (by decide +kernel)
theorem wp_32 : Cond.selects "RingWeaverModel" ⟨"RingWeaverModel", "startY", "(I)I"⟩ ⟨"RingWeaverModel", "startY", "(I)I"⟩ ∈ dcW := dcW_m 32 (by decide +kernel) (by decide +kernel)
theorem wp_33 : Cond.selects "RingWeaverModel" ⟨"RingWeaverModel", "endX", "(I)I"⟩ ⟨"RingWeaverModel", "endX", "(I)I"⟩ ∈ dcW := dcW_m 33 (by decide +kernel) (by decide +kernel)
theorem wp_34 : Cond.selects "RingWeaverModel" ⟨"RingWeaverModel", "endY", "(I)I"⟩ ⟨"RingWeaverModel", "endY", "(I)I"⟩ ∈ dcW := dcW_m 34 (by decide +kernel) (by decide +kernel)
theorem wp_35 : Cond.selects "RingWeaverModel" ⟨"RingWeaverModel", "placeOf", "(II)I"⟩ ⟨"RingWeaverModel", "placeOf", "(II)I"⟩ ∈ dcW := dcW_m 35 (by decide +kernel) (by decide +kernel)
theorem wp_36 : Cond.selects "RingWeaverModel" ⟨"RingWeaverModel", "ring", "(I)V"⟩ ⟨"RingWeaverModel", "ring", "(I)V"⟩ ∈ dcW := dcW_m 36 (by decide +kernel) (by decide +kernel)
theorem wp_37 : Cond.selects "RingWeaverModel" ⟨"RingWeaverModel", "isStraight", "(III)Z"⟩ ⟨"RingWeaverModel", "isStraight", "(III)Z"⟩ ∈ dcW := dcW_m 37 (by decide +kernel) (by decide +kernel)
theorem wp_38 : Cond.selects "RingWeaverModel" ⟨"RingWeaverModel", "next", "(I)I"⟩ ⟨"RingWeaverModel", "next", "(I)I"⟩ ∈ dcW := dcW_m 38 (by decide +kernel) (by decide +kernel)
theorem wp_39 : Cond.selects "RingWeaverModel" ⟨"RingWeaverModel", "farX", "(III)I"⟩ ⟨"RingWeaverModel", "farX", "(III)I"⟩ ∈ dcW := dcW_m 39 (by decide +kernel) (by decide +kernel)
theorem wp_40 : Cond.selects "RingWeaverModel" ⟨"RingWeaverModel", "farY", "(III)I"⟩ ⟨"RingWeaverModel", "farY", "(III)I"⟩ ∈ dcW := dcW_m 40 (by decide +kernel) (by decide +kernel)
theorem wp_41 : Cond.selects "RingWeaverModel" ⟨"RingWeaverModel", "isTooMuch", "()Z"⟩ ⟨"RingWeaverModel", "isTooMuch", "()Z"⟩ ∈ dcW := dcW_m 41 (by decide +kernel) (by decide +kernel)
theorem wp_42 : Cond.selects "RingWeaverModel" ⟨"RingWeaverModel", "findOwners", "()V"⟩ ⟨"RingWeaverModel", "findOwners", "()V"⟩ ∈ dcW := dcW_m 42 (by decide +kernel) (by decide +kernel)
theorem wp_43 : Cond.selects "RingWeaverModel" ⟨"RingWeaverModel", "liesIn", "(II)Z"⟩ ⟨"RingWeaverModel", "liesIn", "(II)Z"⟩ ∈ dcW := dcW_m 43 (by decide +kernel) (by decide +kernel)
theorem wp_44 : Cond.selects "RingWeaverModel" ⟨"RingWeaverModel", "isOn", "(III)Z"⟩ ⟨"RingWeaverModel", "isOn", "(III)Z"⟩ ∈ dcW := dcW_m 44 (by decide +kernel) (by decide +kernel)
theorem wp_45 : Cond.selects "RingWeaverModel" ⟨"RingWeaverModel", "isInside", "(III)Z"⟩ ⟨"RingWeaverModel", "isInside", "(III)Z"⟩ ∈ dcW := dcW_m 45 (by decide +kernel) (by decide +kernel)
theorem wp_46 : Cond.selects "RingWeaverModel" ⟨"RingWeaverModel", "tellAll", "()V"⟩ ⟨"RingWeaverModel", "tellAll", "()V"⟩ ∈ dcW := dcW_m 46 (by decide +kernel) (by decide +kernel)
theorem wp_47 : Cond.selects "RingWeaverModel" ⟨"RingWeaverModel", "behind", "(II)I"⟩ ⟨"RingWeaverModel", "behind", "(II)I"⟩ ∈ dcW := dcW_m 47 (by decide +kernel) (by decide +kernel)
theorem wp_48 : Cond.selects "RingWeaverModel" ⟨"RingWeaverModel", "isBefore", "(II)Z"⟩ ⟨"RingWeaverModel", "isBefore", "(II)Z"⟩ ∈ dcW := dcW_m 48 (by decide +kernel) (by decide +kernel)
theorem wp_49 : Cond.selects "RingWeaverModel" ⟨"RingWeaverModel", "same", "(II)Z"⟩ ⟨"RingWeaverModel", "same", "(II)Z"⟩ ∈ dcW := dcW_m 49 (by decide +kernel) (by decide +kernel)
theorem wp_50 : Cond.selects "RingWeaverModel" ⟨"RingWeaverModel", "isLess", "(II)Z"⟩ ⟨"RingWeaverModel", "isLess", "(II)Z"⟩ ∈ dcW := dcW_m 50 (by decide +kernel) (by decide +kernel)
theorem wp_51 : Cond.selects "RingWeaverModel" ⟨"RingWeaverModel", "tell", "(I)V"⟩ ⟨"RingWeaverModel", "tell", "(I)V"⟩ ∈ dcW := dcW_m 51 (by decide +kernel) (by decide +kernel)
theorem wm_2 : (Jvm.Cond.initialized "RingWeaver$Net") ∈ dcW := dcW_m 54 (by decide +kernel) (by decide +kernel)
theorem wm_3 : (Jvm.Cond.initialized "RingWeaver$Row") ∈ dcW := dcW_m 55 (by decide +kernel) (by decide +kernel)
theorem wm_4 : (Jvm.Cond.initialized "RingWeaver$Boundary") ∈ dcW := dcW_m 56 (by decide +kernel) (by decide +kernel)
theorem wm_5 : (Jvm.Cond.initialized "RingWeaver$Rings") ∈ dcW := dcW_m 57 (by decide +kernel) (by decide +kernel)
theorem wm_6 : (Jvm.Cond.initialized "RingWeaver$Multipolygon") ∈ dcW := dcW_m 58 (by decide +kernel) (by decide +kernel)
theorem wm_7 : (Jvm.Cond.initialized "RingWeaverModel") ∈ dcW := dcW_m 59 (by decide +kernel) (by decide +kernel)
theorem wm_12 : (Jvm.Cond.initialized "RingWeaver$Plane") ∈ dcW := dcW_m 64 (by decide +kernel) (by decide +kernel)
theorem wm_13 : (Jvm.Cond.initialized "java/lang/Math") ∈ dcW := dcW_m 65 (by decide +kernel) (by decide +kernel)
theorem wm_16 : (Jvm.Cond.initialized "java/util/Arrays") ∈ dcW := dcW_m 68 (by decide +kernel) (by decide +kernel)
theorem wm_17 : (Jvm.Cond.initialized "java/lang/System") ∈ dcW := dcW_m 69 (by decide +kernel) (by decide +kernel)
theorem wm_18 : (Jvm.Cond.initialized "java/lang/Long") ∈ dcW := dcW_m 70 (by decide +kernel) (by decide +kernel)
theorem wm_25 : (Jvm.Cond.methodLink "RingWeaver" (3 : Nat) ({ cls := "java/lang/Object", name := "<init>", desc := "()V" } : Jvm.MethodName)) ∈ dcW := dcW_m 77 (by decide +kernel) (by decide +kernel)
theorem wm_26 : (Jvm.Cond.instanceMethod ({ cls := "java/lang/Object", name := "<init>", desc := "()V" } : Jvm.MethodName)) ∈ dcW := dcW_m 78 (by decide +kernel) (by decide +kernel)
theorem wm_27 : (Jvm.Cond.code ({ cls := "java/lang/Object", name := "<init>", desc := "()V" } : Jvm.MethodName) object_method_1_code (1 : Nat) (Option.none : Option Jvm.ClassFile.FieldType)) ∈ dcW := dcW_m 79 (by decide +kernel) (by decide +kernel)
theorem wm_28 : (Jvm.Cond.classLink "RingWeaver" (9 : Nat) "RingWeaver$Net") ∈ dcW := dcW_m 80 (by decide +kernel) (by decide +kernel)
theorem wm_29 : (Jvm.Cond.instantiable "RingWeaver$Net" (6 : Nat)) ∈ dcW := dcW_m 81 (by decide +kernel) (by decide +kernel)
theorem wm_31 : (Jvm.Cond.instanceMethod ({ cls := "RingWeaver$Net", name := "<init>", desc := "()V" } : Jvm.MethodName)) ∈ dcW := dcW_m 83 (by decide +kernel) (by decide +kernel)
theorem wm_32 : (Jvm.Cond.code ({ cls := "RingWeaver$Net", name := "<init>", desc := "()V" } : Jvm.MethodName) prog_4_method_1_code (1 : Nat) (Option.none : Option Jvm.ClassFile.FieldType)) ∈ dcW := dcW_m 84 (by decide +kernel) (by decide +kernel)
theorem wm_33 : (Jvm.Cond.methodLink "RingWeaver$Net" (3 : Nat) ({ cls := "java/lang/Object", name := "<init>", desc := "()V" } : Jvm.MethodName)) ∈ dcW := dcW_m 85 (by decide +kernel) (by decide +kernel)
theorem wm_34 : (Jvm.Cond.classLink "RingWeaver$Net" (9 : Nat) "RingWeaver$Row") ∈ dcW := dcW_m 86 (by decide +kernel) (by decide +kernel)
theorem wm_35 : (Jvm.Cond.instantiable "RingWeaver$Row" (2 : Nat)) ∈ dcW := dcW_m 87 (by decide +kernel) (by decide +kernel)
theorem wm_37 : (Jvm.Cond.instanceMethod ({ cls := "RingWeaver$Row", name := "<init>", desc := "()V" } : Jvm.MethodName)) ∈ dcW := dcW_m 89 (by decide +kernel) (by decide +kernel)
theorem wm_38 : (Jvm.Cond.code ({ cls := "RingWeaver$Row", name := "<init>", desc := "()V" } : Jvm.MethodName) prog_7_method_1_code (1 : Nat) (Option.none : Option Jvm.ClassFile.FieldType)) ∈ dcW := dcW_m 90 (by decide +kernel) (by decide +kernel)
theorem wm_39 : (Jvm.Cond.methodLink "RingWeaver$Row" (3 : Nat) ({ cls := "java/lang/Object", name := "<init>", desc := "()V" } : Jvm.MethodName)) ∈ dcW := dcW_m 91 (by decide +kernel) (by decide +kernel)
theorem wm_40 : (Jvm.Cond.fieldLink "RingWeaver$Row" (9 : Nat) "RingWeaver$Row" "held" "[I") ∈ dcW := dcW_m 92 (by decide +kernel) (by decide +kernel)
theorem wm_41 : (Jvm.Cond.fieldLink "RingWeaver$Row" (15 : Nat) "RingWeaver$Row" "size" "I") ∈ dcW := dcW_m 93 (by decide +kernel) (by decide +kernel)
theorem wm_47 : (Jvm.Cond.lays "RingWeaver$Row" "RingWeaver$Row" "held" "[I") ∈ dcW := dcW_m 99 (by decide +kernel) (by decide +kernel)
theorem wm_49 : (Jvm.Cond.lays "RingWeaver$Row" "RingWeaver$Row" "size" "I") ∈ dcW := dcW_m 101 (by decide +kernel) (by decide +kernel)
theorem wm_52 : (Jvm.Cond.arrayClass Jvm.ClassFile.FieldType.int) ∈ dcW := dcW_m 104 (by decide +kernel) (by decide +kernel)
theorem wm_53 : (Jvm.Cond.fieldLink "RingWeaver$Net" (12 : Nat) "RingWeaver$Net" "x" "LRingWeaver$Row;") ∈ dcW := dcW_m 105 (by decide +kernel) (by decide +kernel)
theorem wm_55 : (Jvm.Cond.fieldLink "RingWeaver$Net" (18 : Nat) "RingWeaver$Net" "y" "LRingWeaver$Row;") ∈ dcW := dcW_m 107 (by decide +kernel) (by decide +kernel)
theorem wm_57 : (Jvm.Cond.fieldLink "RingWeaver$Net" (21 : Nat) "RingWeaver$Net" "odd" "LRingWeaver$Row;") ∈ dcW := dcW_m 109 (by decide +kernel) (by decide +kernel)
theorem wm_58 : (Jvm.Cond.fieldLink "RingWeaver$Net" (24 : Nat) "RingWeaver$Net" "from" "LRingWeaver$Row;") ∈ dcW := dcW_m 110 (by decide +kernel) (by decide +kernel)
theorem wm_60 : (Jvm.Cond.fieldLink "RingWeaver$Net" (27 : Nat) "RingWeaver$Net" "to" "LRingWeaver$Row;") ∈ dcW := dcW_m 112 (by decide +kernel) (by decide +kernel)
theorem wm_62 : (Jvm.Cond.fieldLink "RingWeaver$Net" (30 : Nat) "RingWeaver$Net" "marks" "LRingWeaver$Row;") ∈ dcW := dcW_m 114 (by decide +kernel) (by decide +kernel)
theorem wm_64 : (Jvm.Cond.laysFinal "RingWeaver$Net" "RingWeaver$Net" "x" "LRingWeaver$Row;") ∈ dcW := dcW_m 116 (by decide +kernel) (by decide +kernel)
theorem wm_66 : (Jvm.Cond.laysFinal "RingWeaver$Net" "RingWeaver$Net" "y" "LRingWeaver$Row;") ∈ dcW := dcW_m 118 (by decide +kernel) (by decide +kernel)
theorem wm_68 : (Jvm.Cond.laysFinal "RingWeaver$Net" "RingWeaver$Net" "odd" "LRingWeaver$Row;") ∈ dcW := dcW_m 120 (by decide +kernel) (by decide +kernel)
theorem wm_70 : (Jvm.Cond.laysFinal "RingWeaver$Net" "RingWeaver$Net" "from" "LRingWeaver$Row;") ∈ dcW := dcW_m 122 (by decide +kernel) (by decide +kernel)
theorem wm_72 : (Jvm.Cond.laysFinal "RingWeaver$Net" "RingWeaver$Net" "to" "LRingWeaver$Row;") ∈ dcW := dcW_m 124 (by decide +kernel) (by decide +kernel)
theorem wm_74 : (Jvm.Cond.laysFinal "RingWeaver$Net" "RingWeaver$Net" "marks" "LRingWeaver$Row;") ∈ dcW := dcW_m 126 (by decide +kernel) (by decide +kernel)
theorem wm_77 : (Jvm.Cond.classLink "RingWeaver" (16 : Nat) "RingWeaver$Boundary") ∈ dcW := dcW_m 129 (by decide +kernel) (by decide +kernel)
theorem wm_78 : (Jvm.Cond.instantiable "RingWeaver$Boundary" (5 : Nat)) ∈ dcW := dcW_m 130 (by decide +kernel) (by decide +kernel)
theorem wm_80 : (Jvm.Cond.instanceMethod ({ cls := "RingWeaver$Boundary", name := "<init>", desc := "()V" } : Jvm.MethodName)) ∈ dcW := dcW_m 132 (by decide +kernel) (by decide +kernel)
theorem wm_81 : (Jvm.Cond.code ({ cls := "RingWeaver$Boundary", name := "<init>", desc := "()V" } : Jvm.MethodName) prog_2_method_1_code (1 : Nat) (Option.none : Option Jvm.ClassFile.FieldType)) ∈ dcW := dcW_m 133 (by decide +kernel) (by decide +kernel)
theorem wm_82 : (Jvm.Cond.methodLink "RingWeaver$Boundary" (3 : Nat) ({ cls := "java/lang/Object", name := "<init>", desc := "()V" } : Jvm.MethodName)) ∈ dcW := dcW_m 134 (by decide +kernel) (by decide +kernel)
theorem wm_83 : (Jvm.Cond.classLink "RingWeaver$Boundary" (9 : Nat) "RingWeaver$Row") ∈ dcW := dcW_m 135 (by decide +kernel) (by decide +kernel)
theorem wm_85 : (Jvm.Cond.fieldLink "RingWeaver$Boundary" (12 : Nat) "RingWeaver$Boundary" "from" "LRingWeaver$Row;") ∈ dcW := dcW_m 137 (by decide +kernel) (by decide +kernel)
theorem wm_87 : (Jvm.Cond.fieldLink "RingWeaver$Boundary" (18 : Nat) "RingWeaver$Boundary" "to" "LRingWeaver$Row;") ∈ dcW := dcW_m 139 (by decide +kernel) (by decide +kernel)
theorem wm_89 : (Jvm.Cond.fieldLink "RingWeaver$Boundary" (21 : Nat) "RingWeaver$Boundary" "next" "LRingWeaver$Row;") ∈ dcW := dcW_m 141 (by decide +kernel) (by decide +kernel)
theorem wm_91 : (Jvm.Cond.fieldLink "RingWeaver$Boundary" (24 : Nat) "RingWeaver$Boundary" "wayFrom" "LRingWeaver$Row;") ∈ dcW := dcW_m 143 (by decide +kernel) (by decide +kernel)
theorem wm_92 : (Jvm.Cond.fieldLink "RingWeaver$Boundary" (27 : Nat) "RingWeaver$Boundary" "alsoFrom" "LRingWeaver$Row;") ∈ dcW := dcW_m 144 (by decide +kernel) (by decide +kernel)
theorem wm_93 : (Jvm.Cond.laysFinal "RingWeaver$Boundary" "RingWeaver$Boundary" "from" "LRingWeaver$Row;") ∈ dcW := dcW_m 145 (by decide +kernel) (by decide +kernel)
theorem wm_95 : (Jvm.Cond.laysFinal "RingWeaver$Boundary" "RingWeaver$Boundary" "to" "LRingWeaver$Row;") ∈ dcW := dcW_m 147 (by decide +kernel) (by decide +kernel)
theorem wm_97 : (Jvm.Cond.laysFinal "RingWeaver$Boundary" "RingWeaver$Boundary" "next" "LRingWeaver$Row;") ∈ dcW := dcW_m 149 (by decide +kernel) (by decide +kernel)
theorem wm_99 : (Jvm.Cond.laysFinal "RingWeaver$Boundary" "RingWeaver$Boundary" "wayFrom" "LRingWeaver$Row;") ∈ dcW := dcW_m 151 (by decide +kernel) (by decide +kernel)
theorem wm_101 : (Jvm.Cond.laysFinal "RingWeaver$Boundary" "RingWeaver$Boundary" "alsoFrom" "LRingWeaver$Row;") ∈ dcW := dcW_m 153 (by decide +kernel) (by decide +kernel)
theorem wm_104 : (Jvm.Cond.classLink "RingWeaver" (23 : Nat) "RingWeaver$Rings") ∈ dcW := dcW_m 156 (by decide +kernel) (by decide +kernel)
theorem wm_105 : (Jvm.Cond.instantiable "RingWeaver$Rings" (9 : Nat)) ∈ dcW := dcW_m 157 (by decide +kernel) (by decide +kernel)
theorem wm_107 : (Jvm.Cond.instanceMethod ({ cls := "RingWeaver$Rings", name := "<init>", desc := "()V" } : Jvm.MethodName)) ∈ dcW := dcW_m 159 (by decide +kernel) (by decide +kernel)
theorem wm_108 : (Jvm.Cond.code ({ cls := "RingWeaver$Rings", name := "<init>", desc := "()V" } : Jvm.MethodName) prog_6_method_1_code (1 : Nat) (Option.none : Option Jvm.ClassFile.FieldType)) ∈ dcW := dcW_m 160 (by decide +kernel) (by decide +kernel)
theorem wm_109 : (Jvm.Cond.methodLink "RingWeaver$Rings" (3 : Nat) ({ cls := "java/lang/Object", name := "<init>", desc := "()V" } : Jvm.MethodName)) ∈ dcW := dcW_m 161 (by decide +kernel) (by decide +kernel)
theorem wm_110 : (Jvm.Cond.classLink "RingWeaver$Rings" (9 : Nat) "RingWeaver$Row") ∈ dcW := dcW_m 162 (by decide +kernel) (by decide +kernel)
theorem wm_112 : (Jvm.Cond.fieldLink "RingWeaver$Rings" (12 : Nat) "RingWeaver$Rings" "x" "LRingWeaver$Row;") ∈ dcW := dcW_m 164 (by decide +kernel) (by decide +kernel)
theorem wm_114 : (Jvm.Cond.fieldLink "RingWeaver$Rings" (18 : Nat) "RingWeaver$Rings" "y" "LRingWeaver$Row;") ∈ dcW := dcW_m 166 (by decide +kernel) (by decide +kernel)
theorem wm_116 : (Jvm.Cond.fieldLink "RingWeaver$Rings" (21 : Nat) "RingWeaver$Rings" "start" "LRingWeaver$Row;") ∈ dcW := dcW_m 168 (by decide +kernel) (by decide +kernel)
theorem wm_117 : (Jvm.Cond.fieldLink "RingWeaver$Rings" (24 : Nat) "RingWeaver$Rings" "order" "LRingWeaver$Row;") ∈ dcW := dcW_m 169 (by decide +kernel) (by decide +kernel)
theorem wm_119 : (Jvm.Cond.fieldLink "RingWeaver$Rings" (27 : Nat) "RingWeaver$Rings" "owner" "LRingWeaver$Row;") ∈ dcW := dcW_m 171 (by decide +kernel) (by decide +kernel)
theorem wm_121 : (Jvm.Cond.fieldLink "RingWeaver$Rings" (30 : Nat) "RingWeaver$Rings" "shells" "I") ∈ dcW := dcW_m 173 (by decide +kernel) (by decide +kernel)
theorem wm_123 : (Jvm.Cond.fieldLink "RingWeaver$Rings" (34 : Nat) "RingWeaver$Rings" "path" "LRingWeaver$Row;") ∈ dcW := dcW_m 175 (by decide +kernel) (by decide +kernel)
theorem wm_124 : (Jvm.Cond.fieldLink "RingWeaver$Rings" (37 : Nat) "RingWeaver$Rings" "leftAt" "LRingWeaver$Row;") ∈ dcW := dcW_m 176 (by decide +kernel) (by decide +kernel)
theorem wm_125 : (Jvm.Cond.fieldLink "RingWeaver$Rings" (40 : Nat) "RingWeaver$Rings" "gone" "LRingWeaver$Row;") ∈ dcW := dcW_m 177 (by decide +kernel) (by decide +kernel)
theorem wm_126 : (Jvm.Cond.laysFinal "RingWeaver$Rings" "RingWeaver$Rings" "x" "LRingWeaver$Row;") ∈ dcW := dcW_m 178 (by decide +kernel) (by decide +kernel)
theorem wm_128 : (Jvm.Cond.laysFinal "RingWeaver$Rings" "RingWeaver$Rings" "y" "LRingWeaver$Row;") ∈ dcW := dcW_m 180 (by decide +kernel) (by decide +kernel)
theorem wm_130 : (Jvm.Cond.laysFinal "RingWeaver$Rings" "RingWeaver$Rings" "start" "LRingWeaver$Row;") ∈ dcW := dcW_m 182 (by decide +kernel) (by decide +kernel)
theorem wm_132 : (Jvm.Cond.laysFinal "RingWeaver$Rings" "RingWeaver$Rings" "order" "LRingWeaver$Row;") ∈ dcW := dcW_m 184 (by decide +kernel) (by decide +kernel)
theorem wm_134 : (Jvm.Cond.laysFinal "RingWeaver$Rings" "RingWeaver$Rings" "owner" "LRingWeaver$Row;") ∈ dcW := dcW_m 186 (by decide +kernel) (by decide +kernel)
theorem wm_136 : (Jvm.Cond.lays "RingWeaver$Rings" "RingWeaver$Rings" "shells" "I") ∈ dcW := dcW_m 188 (by decide +kernel) (by decide +kernel)
theorem wm_138 : (Jvm.Cond.laysFinal "RingWeaver$Rings" "RingWeaver$Rings" "path" "LRingWeaver$Row;") ∈ dcW := dcW_m 190 (by decide +kernel) (by decide +kernel)
theorem wm_140 : (Jvm.Cond.laysFinal "RingWeaver$Rings" "RingWeaver$Rings" "leftAt" "LRingWeaver$Row;") ∈ dcW := dcW_m 192 (by decide +kernel) (by decide +kernel)
theorem wm_142 : (Jvm.Cond.laysFinal "RingWeaver$Rings" "RingWeaver$Rings" "gone" "LRingWeaver$Row;") ∈ dcW := dcW_m 194 (by decide +kernel) (by decide +kernel)
theorem wm_145 : (Jvm.Cond.classLink "RingWeaver" (30 : Nat) "RingWeaver$Multipolygon") ∈ dcW := dcW_m 197 (by decide +kernel) (by decide +kernel)
theorem wm_146 : (Jvm.Cond.instantiable "RingWeaver$Multipolygon" (5 : Nat)) ∈ dcW := dcW_m 198 (by decide +kernel) (by decide +kernel)
theorem wm_148 : (Jvm.Cond.instanceMethod ({ cls := "RingWeaver$Multipolygon", name := "<init>", desc := "()V" } : Jvm.MethodName)) ∈ dcW := dcW_m 200 (by decide +kernel) (by decide +kernel)
theorem wm_149 : (Jvm.Cond.code ({ cls := "RingWeaver$Multipolygon", name := "<init>", desc := "()V" } : Jvm.MethodName) prog_3_method_1_code (1 : Nat) (Option.none : Option Jvm.ClassFile.FieldType)) ∈ dcW := dcW_m 201 (by decide +kernel) (by decide +kernel)
theorem wm_150 : (Jvm.Cond.methodLink "RingWeaver$Multipolygon" (3 : Nat) ({ cls := "java/lang/Object", name := "<init>", desc := "()V" } : Jvm.MethodName)) ∈ dcW := dcW_m 202 (by decide +kernel) (by decide +kernel)
theorem wm_151 : (Jvm.Cond.classLink "RingWeaver$Multipolygon" (9 : Nat) "RingWeaver$Row") ∈ dcW := dcW_m 203 (by decide +kernel) (by decide +kernel)
theorem wm_153 : (Jvm.Cond.fieldLink "RingWeaver$Multipolygon" (12 : Nat) "RingWeaver$Multipolygon" "plan" "LRingWeaver$Row;") ∈ dcW := dcW_m 205 (by decide +kernel) (by decide +kernel)
theorem wm_155 : (Jvm.Cond.fieldLink "RingWeaver$Multipolygon" (18 : Nat) "RingWeaver$Multipolygon" "x" "LRingWeaver$Row;") ∈ dcW := dcW_m 207 (by decide +kernel) (by decide +kernel)
theorem wm_157 : (Jvm.Cond.fieldLink "RingWeaver$Multipolygon" (21 : Nat) "RingWeaver$Multipolygon" "y" "LRingWeaver$Row;") ∈ dcW := dcW_m 209 (by decide +kernel) (by decide +kernel)
theorem wm_159 : (Jvm.Cond.fieldLink "RingWeaver$Multipolygon" (24 : Nat) "RingWeaver$Multipolygon" "polygons" "I") ∈ dcW := dcW_m 211 (by decide +kernel) (by decide +kernel)
theorem wm_161 : (Jvm.Cond.fieldLink "RingWeaver$Multipolygon" (28 : Nat) "RingWeaver$Multipolygon" "twiceArea" "J") ∈ dcW := dcW_m 213 (by decide +kernel) (by decide +kernel)
theorem wm_163 : (Jvm.Cond.laysFinal "RingWeaver$Multipolygon" "RingWeaver$Multipolygon" "plan" "LRingWeaver$Row;") ∈ dcW := dcW_m 215 (by decide +kernel) (by decide +kernel)
theorem wm_165 : (Jvm.Cond.laysFinal "RingWeaver$Multipolygon" "RingWeaver$Multipolygon" "x" "LRingWeaver$Row;") ∈ dcW := dcW_m 217 (by decide +kernel) (by decide +kernel)
theorem wm_167 : (Jvm.Cond.laysFinal "RingWeaver$Multipolygon" "RingWeaver$Multipolygon" "y" "LRingWeaver$Row;") ∈ dcW := dcW_m 219 (by decide +kernel) (by decide +kernel)
theorem wm_169 : (Jvm.Cond.lays "RingWeaver$Multipolygon" "RingWeaver$Multipolygon" "polygons" "I") ∈ dcW := dcW_m 221 (by decide +kernel) (by decide +kernel)
theorem wm_171 : (Jvm.Cond.lays "RingWeaver$Multipolygon" "RingWeaver$Multipolygon" "twiceArea" "J") ∈ dcW := dcW_m 223 (by decide +kernel) (by decide +kernel)
theorem wm_174 : (Jvm.Cond.fieldLink "RingWeaver" (12 : Nat) "RingWeaver" "net" "LRingWeaver$Net;") ∈ dcW := dcW_m 226 (by decide +kernel) (by decide +kernel)
theorem wm_175 : (Jvm.Cond.fieldLink "RingWeaver" (19 : Nat) "RingWeaver" "boundary" "LRingWeaver$Boundary;") ∈ dcW := dcW_m 227 (by decide +kernel) (by decide +kernel)
theorem wm_176 : (Jvm.Cond.fieldLink "RingWeaver" (26 : Nat) "RingWeaver" "rings" "LRingWeaver$Rings;") ∈ dcW := dcW_m 228 (by decide +kernel) (by decide +kernel)
theorem wm_177 : (Jvm.Cond.fieldLink "RingWeaver" (33 : Nat) "RingWeaver" "result" "LRingWeaver$Multipolygon;") ∈ dcW := dcW_m 229 (by decide +kernel) (by decide +kernel)
theorem wm_178 : (Jvm.Cond.laysFinal "RingWeaver" "RingWeaver" "net" "LRingWeaver$Net;") ∈ dcW := dcW_m 230 (by decide +kernel) (by decide +kernel)
theorem wm_180 : (Jvm.Cond.laysFinal "RingWeaver" "RingWeaver" "boundary" "LRingWeaver$Boundary;") ∈ dcW := dcW_m 232 (by decide +kernel) (by decide +kernel)
theorem wm_182 : (Jvm.Cond.laysFinal "RingWeaver" "RingWeaver" "rings" "LRingWeaver$Rings;") ∈ dcW := dcW_m 234 (by decide +kernel) (by decide +kernel)
theorem wm_184 : (Jvm.Cond.laysFinal "RingWeaver" "RingWeaver" "result" "LRingWeaver$Multipolygon;") ∈ dcW := dcW_m 236 (by decide +kernel) (by decide +kernel)
theorem wm_191 : (Jvm.Cond.methodLink "RingWeaver" (63 : Nat) ({ cls := "RingWeaver$Net", name := "pieces", desc := "()I" } : Jvm.MethodName)) ∈ dcW := dcW_m 243 (by decide +kernel) (by decide +kernel)
theorem wm_192 : (Jvm.Cond.instanceMethod ({ cls := "RingWeaver$Net", name := "pieces", desc := "()I" } : Jvm.MethodName)) ∈ dcW := dcW_m 244 (by decide +kernel) (by decide +kernel)
theorem wm_193 : (Jvm.Cond.selects "RingWeaver$Net" ({ cls := "RingWeaver$Net", name := "pieces", desc := "()I" } : Jvm.MethodName) ({ cls := "RingWeaver$Net", name := "pieces", desc := "()I" } : Jvm.MethodName)) ∈ dcW := dcW_m 245 (by decide +kernel) (by decide +kernel)
theorem wm_194 : (Jvm.Cond.code ({ cls := "RingWeaver$Net", name := "pieces", desc := "()I" } : Jvm.MethodName) prog_4_method_2_code (1 : Nat) (Option.some Jvm.ClassFile.FieldType.int)) ∈ dcW := dcW_m 246 (by decide +kernel) (by decide +kernel)
theorem wm_195 : (Jvm.Cond.methodLink "RingWeaver" (82 : Nat) ({ cls := "RingWeaver$Net", name := "forget", desc := "()V" } : Jvm.MethodName)) ∈ dcW := dcW_m 247 (by decide +kernel) (by decide +kernel)
theorem wm_196 : (Jvm.Cond.instanceMethod ({ cls := "RingWeaver$Net", name := "forget", desc := "()V" } : Jvm.MethodName)) ∈ dcW := dcW_m 248 (by decide +kernel) (by decide +kernel)
theorem wm_197 : (Jvm.Cond.selects "RingWeaver$Net" ({ cls := "RingWeaver$Net", name := "forget", desc := "()V" } : Jvm.MethodName) ({ cls := "RingWeaver$Net", name := "forget", desc := "()V" } : Jvm.MethodName)) ∈ dcW := dcW_m 249 (by decide +kernel) (by decide +kernel)
theorem wm_198 : (Jvm.Cond.code ({ cls := "RingWeaver$Net", name := "forget", desc := "()V" } : Jvm.MethodName) prog_4_method_4_code (1 : Nat) (Option.none : Option Jvm.ClassFile.FieldType)) ∈ dcW := dcW_m 250 (by decide +kernel) (by decide +kernel)
theorem wm_199 : (Jvm.Cond.methodLink "RingWeaver$Net" (37 : Nat) ({ cls := "RingWeaver$Row", name := "empty", desc := "()V" } : Jvm.MethodName)) ∈ dcW := dcW_m 251 (by decide +kernel) (by decide +kernel)
theorem wm_200 : (Jvm.Cond.instanceMethod ({ cls := "RingWeaver$Row", name := "empty", desc := "()V" } : Jvm.MethodName)) ∈ dcW := dcW_m 252 (by decide +kernel) (by decide +kernel)
theorem wm_201 : (Jvm.Cond.selects "RingWeaver$Row" ({ cls := "RingWeaver$Row", name := "empty", desc := "()V" } : Jvm.MethodName) ({ cls := "RingWeaver$Row", name := "empty", desc := "()V" } : Jvm.MethodName)) ∈ dcW := dcW_m 253 (by decide +kernel) (by decide +kernel)
theorem wm_202 : (Jvm.Cond.code ({ cls := "RingWeaver$Row", name := "empty", desc := "()V" } : Jvm.MethodName) prog_7_method_2_code (1 : Nat) (Option.none : Option Jvm.ClassFile.FieldType)) ∈ dcW := dcW_m 254 (by decide +kernel) (by decide +kernel)
theorem wm_203 : (Jvm.Cond.methodLink "RingWeaver" (79 : Nat) ({ cls := "RingWeaver$Multipolygon", name := "forget", desc := "()V" } : Jvm.MethodName)) ∈ dcW := dcW_m 255 (by decide +kernel) (by decide +kernel)
theorem wm_204 : (Jvm.Cond.instanceMethod ({ cls := "RingWeaver$Multipolygon", name := "forget", desc := "()V" } : Jvm.MethodName)) ∈ dcW := dcW_m 256 (by decide +kernel) (by decide +kernel)
theorem wm_205 : (Jvm.Cond.selects "RingWeaver$Multipolygon" ({ cls := "RingWeaver$Multipolygon", name := "forget", desc := "()V" } : Jvm.MethodName) ({ cls := "RingWeaver$Multipolygon", name := "forget", desc := "()V" } : Jvm.MethodName)) ∈ dcW := dcW_m 257 (by decide +kernel) (by decide +kernel)
theorem wm_206 : (Jvm.Cond.code ({ cls := "RingWeaver$Multipolygon", name := "forget", desc := "()V" } : Jvm.MethodName) prog_3_method_2_code (1 : Nat) (Option.none : Option Jvm.ClassFile.FieldType)) ∈ dcW := dcW_m 258 (by decide +kernel) (by decide +kernel)
theorem wm_207 : (Jvm.Cond.methodLink "RingWeaver$Multipolygon" (32 : Nat) ({ cls := "RingWeaver$Row", name := "empty", desc := "()V" } : Jvm.MethodName)) ∈ dcW := dcW_m 259 (by decide +kernel) (by decide +kernel)
theorem wm_229 : (Jvm.Cond.constant "RingWeaver" (147 : Nat) (-500000000 : Int32)) ∈ dcW := dcW_m 281 (by decide +kernel) (by decide +kernel)
theorem wm_230 : (Jvm.Cond.constant "RingWeaver" (148 : Nat) (500000000 : Int32)) ∈ dcW := dcW_m 282 (by decide +kernel) (by decide +kernel)
theorem wm_305 : (Jvm.Cond.methodLink "RingWeaver$Net" (48 : Nat) ({ cls := "RingWeaver$Net", name := "placeAt", desc := "(II)I" } : Jvm.MethodName)) ∈ dcW := dcW_m 357 (by decide +kernel) (by decide +kernel)
theorem wm_306 : (Jvm.Cond.instanceMethod ({ cls := "RingWeaver$Net", name := "placeAt", desc := "(II)I" } : Jvm.MethodName)) ∈ dcW := dcW_m 358 (by decide +kernel) (by decide +kernel)
theorem wm_307 : (Jvm.Cond.selects "RingWeaver$Net" ({ cls := "RingWeaver$Net", name := "placeAt", desc := "(II)I" } : Jvm.MethodName) ({ cls := "RingWeaver$Net", name := "placeAt", desc := "(II)I" } : Jvm.MethodName)) ∈ dcW := dcW_m 359 (by decide +kernel) (by decide +kernel)
theorem wm_308 : (Jvm.Cond.code ({ cls := "RingWeaver$Net", name := "placeAt", desc := "(II)I" } : Jvm.MethodName) prog_4_method_5_code (4 : Nat) (Option.some Jvm.ClassFile.FieldType.int)) ∈ dcW := dcW_m 360 (by decide +kernel) (by decide +kernel)
theorem wm_309 : (Jvm.Cond.methodLink "RingWeaver$Net" (40 : Nat) ({ cls := "RingWeaver$Net", name := "places", desc := "()I" } : Jvm.MethodName)) ∈ dcW := dcW_m 361 (by decide +kernel) (by decide +kernel)
theorem wm_310 : (Jvm.Cond.instanceMethod ({ cls := "RingWeaver$Net", name := "places", desc := "()I" } : Jvm.MethodName)) ∈ dcW := dcW_m 362 (by decide +kernel) (by decide +kernel)
theorem wm_311 : (Jvm.Cond.selects "RingWeaver$Net" ({ cls := "RingWeaver$Net", name := "places", desc := "()I" } : Jvm.MethodName) ({ cls := "RingWeaver$Net", name := "places", desc := "()I" } : Jvm.MethodName)) ∈ dcW := dcW_m 363 (by decide +kernel) (by decide +kernel)
theorem wm_312 : (Jvm.Cond.code ({ cls := "RingWeaver$Net", name := "places", desc := "()I" } : Jvm.MethodName) prog_4_method_3_code (1 : Nat) (Option.some Jvm.ClassFile.FieldType.int)) ∈ dcW := dcW_m 364 (by decide +kernel) (by decide +kernel)
theorem wm_313 : (Jvm.Cond.methodLink "RingWeaver$Net" (44 : Nat) ({ cls := "RingWeaver$Row", name := "get", desc := "(I)I" } : Jvm.MethodName)) ∈ dcW := dcW_m 365 (by decide +kernel) (by decide +kernel)
theorem wm_314 : (Jvm.Cond.instanceMethod ({ cls := "RingWeaver$Row", name := "get", desc := "(I)I" } : Jvm.MethodName)) ∈ dcW := dcW_m 366 (by decide +kernel) (by decide +kernel)
theorem wm_315 : (Jvm.Cond.selects "RingWeaver$Row" ({ cls := "RingWeaver$Row", name := "get", desc := "(I)I" } : Jvm.MethodName) ({ cls := "RingWeaver$Row", name := "get", desc := "(I)I" } : Jvm.MethodName)) ∈ dcW := dcW_m 367 (by decide +kernel) (by decide +kernel)
theorem wm_316 : (Jvm.Cond.code ({ cls := "RingWeaver$Row", name := "get", desc := "(I)I" } : Jvm.MethodName) prog_7_method_5_code (2 : Nat) (Option.some Jvm.ClassFile.FieldType.int)) ∈ dcW := dcW_m 368 (by decide +kernel) (by decide +kernel)
theorem wm_317 : (Jvm.Cond.methodLink "RingWeaver$Net" (52 : Nat) ({ cls := "RingWeaver$Net", name := "pieces", desc := "()I" } : Jvm.MethodName)) ∈ dcW := dcW_m 369 (by decide +kernel) (by decide +kernel)
theorem wm_322 : (Jvm.Cond.methodLink "RingWeaver$Net" (72 : Nat) ({ cls := "RingWeaver$Net", name := "clashes", desc := "(IIIII)Z" } : Jvm.MethodName)) ∈ dcW := dcW_m 374 (by decide +kernel) (by decide +kernel)
theorem wm_324 : (Jvm.Cond.instanceMethod ({ cls := "RingWeaver$Net", name := "clashes", desc := "(IIIII)Z" } : Jvm.MethodName)) ∈ dcW := dcW_m 376 (by decide +kernel) (by decide +kernel)
theorem wm_325 : (Jvm.Cond.code ({ cls := "RingWeaver$Net", name := "clashes", desc := "(IIIII)Z" } : Jvm.MethodName) prog_4_method_12_code (14 : Nat) (Option.some Jvm.ClassFile.FieldType.boolean)) ∈ dcW := dcW_m 377 (by decide +kernel) (by decide +kernel)
theorem wm_326 : (Jvm.Cond.methodLink "RingWeaver$Net" (76 : Nat) ({ cls := "RingWeaver$Plane", name := "side", desc := "(IIIIII)I" } : Jvm.MethodName)) ∈ dcW := dcW_m 378 (by decide +kernel) (by decide +kernel)
theorem wm_327 : (Jvm.Cond.static ({ cls := "RingWeaver$Plane", name := "side", desc := "(IIIIII)I" } : Jvm.MethodName)) ∈ dcW := dcW_m 379 (by decide +kernel) (by decide +kernel)
theorem wm_328 : (Jvm.Cond.code ({ cls := "RingWeaver$Plane", name := "side", desc := "(IIIIII)I" } : Jvm.MethodName) prog_5_method_3_code (10 : Nat) (Option.some Jvm.ClassFile.FieldType.int)) ∈ dcW := dcW_m 380 (by decide +kernel) (by decide +kernel)
theorem wm_329 : (Jvm.Cond.methodLink "RingWeaver$Net" (80 : Nat) ({ cls := "RingWeaver$Plane", name := "isBetween", desc := "(IIIIII)Z" } : Jvm.MethodName)) ∈ dcW := dcW_m 381 (by decide +kernel) (by decide +kernel)
theorem wm_330 : (Jvm.Cond.static ({ cls := "RingWeaver$Plane", name := "isBetween", desc := "(IIIIII)Z" } : Jvm.MethodName)) ∈ dcW := dcW_m 382 (by decide +kernel) (by decide +kernel)
theorem wm_331 : (Jvm.Cond.code ({ cls := "RingWeaver$Plane", name := "isBetween", desc := "(IIIIII)Z" } : Jvm.MethodName) prog_5_method_4_code (6 : Nat) (Option.some Jvm.ClassFile.FieldType.boolean)) ∈ dcW := dcW_m 383 (by decide +kernel) (by decide +kernel)
theorem wm_332 : (Jvm.Cond.methodLink "RingWeaver$Plane" (7 : Nat) ({ cls := "java/lang/Math", name := "min", desc := "(II)I" } : Jvm.MethodName)) ∈ dcW := dcW_m 384 (by decide +kernel) (by decide +kernel)
theorem wm_333 : (Jvm.Cond.static ({ cls := "java/lang/Math", name := "min", desc := "(II)I" } : Jvm.MethodName)) ∈ dcW := dcW_m 385 (by decide +kernel) (by decide +kernel)
theorem wm_334 : (Jvm.Cond.code ({ cls := "java/lang/Math", name := "min", desc := "(II)I" } : Jvm.MethodName) prog_16_method_69_code (2 : Nat) (Option.some Jvm.ClassFile.FieldType.int)) ∈ dcW := dcW_m 386 (by decide +kernel) (by decide +kernel)
theorem wm_335 : (Jvm.Cond.methodLink "RingWeaver$Plane" (13 : Nat) ({ cls := "java/lang/Math", name := "max", desc := "(II)I" } : Jvm.MethodName)) ∈ dcW := dcW_m 387 (by decide +kernel) (by decide +kernel)
theorem wm_336 : (Jvm.Cond.static ({ cls := "java/lang/Math", name := "max", desc := "(II)I" } : Jvm.MethodName)) ∈ dcW := dcW_m 388 (by decide +kernel) (by decide +kernel)
theorem wm_337 : (Jvm.Cond.code ({ cls := "java/lang/Math", name := "max", desc := "(II)I" } : Jvm.MethodName) prog_16_method_65_code (2 : Nat) (Option.some Jvm.ClassFile.FieldType.int)) ∈ dcW := dcW_m 389 (by decide +kernel) (by decide +kernel)
theorem wm_374 : (Jvm.Cond.methodLink "RingWeaver$Net" (55 : Nat) ({ cls := "RingWeaver$Net", name := "knownPlace", desc := "(II)I" } : Jvm.MethodName)) ∈ dcW := dcW_m 426 (by decide +kernel) (by decide +kernel)
theorem wm_376 : (Jvm.Cond.instanceMethod ({ cls := "RingWeaver$Net", name := "knownPlace", desc := "(II)I" } : Jvm.MethodName)) ∈ dcW := dcW_m 428 (by decide +kernel) (by decide +kernel)
theorem wm_377 : (Jvm.Cond.code ({ cls := "RingWeaver$Net", name := "knownPlace", desc := "(II)I" } : Jvm.MethodName) prog_4_method_8_code (4 : Nat) (Option.some Jvm.ClassFile.FieldType.int)) ∈ dcW := dcW_m 429 (by decide +kernel) (by decide +kernel)
theorem wm_378 : (Jvm.Cond.methodLink "RingWeaver$Net" (64 : Nat) ({ cls := "RingWeaver$Row", name := "add", desc := "(I)V" } : Jvm.MethodName)) ∈ dcW := dcW_m 430 (by decide +kernel) (by decide +kernel)
theorem wm_379 : (Jvm.Cond.instanceMethod ({ cls := "RingWeaver$Row", name := "add", desc := "(I)V" } : Jvm.MethodName)) ∈ dcW := dcW_m 431 (by decide +kernel) (by decide +kernel)
theorem wm_380 : (Jvm.Cond.selects "RingWeaver$Row" ({ cls := "RingWeaver$Row", name := "add", desc := "(I)V" } : Jvm.MethodName) ({ cls := "RingWeaver$Row", name := "add", desc := "(I)V" } : Jvm.MethodName)) ∈ dcW := dcW_m 432 (by decide +kernel) (by decide +kernel)
theorem wm_381 : (Jvm.Cond.code ({ cls := "RingWeaver$Row", name := "add", desc := "(I)V" } : Jvm.MethodName) prog_7_method_4_code (2 : Nat) (Option.none : Option Jvm.ClassFile.FieldType)) ∈ dcW := dcW_m 433 (by decide +kernel) (by decide +kernel)
theorem wm_382 : (Jvm.Cond.methodLink "RingWeaver$Row" (19 : Nat) ({ cls := "java/util/Arrays", name := "copyOf", desc := "([II)[I" } : Jvm.MethodName)) ∈ dcW := dcW_m 434 (by decide +kernel) (by decide +kernel)
theorem wm_383 : (Jvm.Cond.static ({ cls := "java/util/Arrays", name := "copyOf", desc := "([II)[I" } : Jvm.MethodName)) ∈ dcW := dcW_m 435 (by decide +kernel) (by decide +kernel)
theorem wm_384 : (Jvm.Cond.code ({ cls := "java/util/Arrays", name := "copyOf", desc := "([II)[I" } : Jvm.MethodName) prog_22_method_123_code (3 : Nat) (Option.some (Jvm.ClassFile.FieldType.array Jvm.ClassFile.FieldType.int))) ∈ dcW := dcW_m 436 (by decide +kernel) (by decide +kernel)
theorem wm_392 : (Jvm.Cond.methodLink "java/util/Arrays" (304 : Nat) ({ cls := "java/lang/Math", name := "min", desc := "(II)I" } : Jvm.MethodName)) ∈ dcW := dcW_m 444 (by decide +kernel) (by decide +kernel)
theorem wm_393 : (Jvm.Cond.methodLink "java/util/Arrays" (150 : Nat) ({ cls := "java/lang/System", name := "arraycopy", desc := "(Ljava/lang/Object;ILjava/lang/Object;II)V" } : Jvm.MethodName)) ∈ dcW := dcW_m 445 (by decide +kernel) (by decide +kernel)
theorem wm_394 : (Jvm.Cond.static ({ cls := "java/lang/System", name := "arraycopy", desc := "(Ljava/lang/Object;ILjava/lang/Object;II)V" } : Jvm.MethodName)) ∈ dcW := dcW_m 446 (by decide +kernel) (by decide +kernel)
theorem wm_395 : (Jvm.Cond.native ({ cls := "java/lang/System", name := "arraycopy", desc := "(Ljava/lang/Object;ILjava/lang/Object;II)V" } : Jvm.MethodName)) ∈ dcW := dcW_m 447 (by decide +kernel) (by decide +kernel)
theorem wm_396 : (Jvm.Cond.methodLink "RingWeaver$Net" (58 : Nat) ({ cls := "RingWeaver$Plane", name := "isLess", desc := "(IIII)Z" } : Jvm.MethodName)) ∈ dcW := dcW_m 448 (by decide +kernel) (by decide +kernel)
theorem wm_397 : (Jvm.Cond.static ({ cls := "RingWeaver$Plane", name := "isLess", desc := "(IIII)Z" } : Jvm.MethodName)) ∈ dcW := dcW_m 449 (by decide +kernel) (by decide +kernel)
theorem wm_398 : (Jvm.Cond.code ({ cls := "RingWeaver$Plane", name := "isLess", desc := "(IIII)Z" } : Jvm.MethodName) prog_5_method_2_code (4 : Nat) (Option.some Jvm.ClassFile.FieldType.boolean)) ∈ dcW := dcW_m 450 (by decide +kernel) (by decide +kernel)
theorem wm_403 : (Jvm.Cond.methodLink "RingWeaver$Net" (68 : Nat) ({ cls := "RingWeaver$Row", name := "set", desc := "(II)V" } : Jvm.MethodName)) ∈ dcW := dcW_m 455 (by decide +kernel) (by decide +kernel)
theorem wm_404 : (Jvm.Cond.instanceMethod ({ cls := "RingWeaver$Row", name := "set", desc := "(II)V" } : Jvm.MethodName)) ∈ dcW := dcW_m 456 (by decide +kernel) (by decide +kernel)
theorem wm_405 : (Jvm.Cond.selects "RingWeaver$Row" ({ cls := "RingWeaver$Row", name := "set", desc := "(II)V" } : Jvm.MethodName) ({ cls := "RingWeaver$Row", name := "set", desc := "(II)V" } : Jvm.MethodName)) ∈ dcW := dcW_m 457 (by decide +kernel) (by decide +kernel)
theorem wm_406 : (Jvm.Cond.code ({ cls := "RingWeaver$Row", name := "set", desc := "(II)V" } : Jvm.MethodName) prog_7_method_6_code (3 : Nat) (Option.none : Option Jvm.ClassFile.FieldType)) ∈ dcW := dcW_m 458 (by decide +kernel) (by decide +kernel)
theorem wm_424 : (Jvm.Cond.methodLink "RingWeaver$Boundary" (34 : Nat) ({ cls := "RingWeaver$Row", name := "empty", desc := "()V" } : Jvm.MethodName)) ∈ dcW := dcW_m 476 (by decide +kernel) (by decide +kernel)
theorem wm_425 : (Jvm.Cond.methodLink "RingWeaver$Boundary" (37 : Nat) ({ cls := "RingWeaver$Net", name := "places", desc := "()I" } : Jvm.MethodName)) ∈ dcW := dcW_m 477 (by decide +kernel) (by decide +kernel)
theorem wm_426 : (Jvm.Cond.methodLink "RingWeaver$Boundary" (43 : Nat) ({ cls := "RingWeaver$Row", name := "add", desc := "(I)V" } : Jvm.MethodName)) ∈ dcW := dcW_m 478 (by decide +kernel) (by decide +kernel)
theorem wm_427 : (Jvm.Cond.methodLink "RingWeaver$Boundary" (47 : Nat) ({ cls := "RingWeaver$Net", name := "pieces", desc := "()I" } : Jvm.MethodName)) ∈ dcW := dcW_m 479 (by decide +kernel) (by decide +kernel)
theorem wm_428 : (Jvm.Cond.methodLink "RingWeaver$Boundary" (53 : Nat) ({ cls := "RingWeaver$Row", name := "get", desc := "(I)I" } : Jvm.MethodName)) ∈ dcW := dcW_m 480 (by decide +kernel) (by decide +kernel)
theorem wm_429 : (Jvm.Cond.methodLink "RingWeaver$Boundary" (57 : Nat) ({ cls := "RingWeaver$Boundary", name := "addIfBoundary", desc := "(LRingWeaver$Net;II)V" } : Jvm.MethodName)) ∈ dcW := dcW_m 481 (by decide +kernel) (by decide +kernel)
theorem wm_431 : (Jvm.Cond.instanceMethod ({ cls := "RingWeaver$Boundary", name := "addIfBoundary", desc := "(LRingWeaver$Net;II)V" } : Jvm.MethodName)) ∈ dcW := dcW_m 483 (by decide +kernel) (by decide +kernel)
theorem wm_432 : (Jvm.Cond.code ({ cls := "RingWeaver$Boundary", name := "addIfBoundary", desc := "(LRingWeaver$Net;II)V" } : Jvm.MethodName) prog_2_method_4_code (8 : Nat) (Option.none : Option Jvm.ClassFile.FieldType)) ∈ dcW := dcW_m 484 (by decide +kernel) (by decide +kernel)
theorem wm_433 : (Jvm.Cond.methodLink "RingWeaver$Boundary" (68 : Nat) ({ cls := "RingWeaver$Net", name := "insideLeftOf", desc := "(I)I" } : Jvm.MethodName)) ∈ dcW := dcW_m 485 (by decide +kernel) (by decide +kernel)
theorem wm_434 : (Jvm.Cond.instanceMethod ({ cls := "RingWeaver$Net", name := "insideLeftOf", desc := "(I)I" } : Jvm.MethodName)) ∈ dcW := dcW_m 486 (by decide +kernel) (by decide +kernel)
theorem wm_435 : (Jvm.Cond.selects "RingWeaver$Net" ({ cls := "RingWeaver$Net", name := "insideLeftOf", desc := "(I)I" } : Jvm.MethodName) ({ cls := "RingWeaver$Net", name := "insideLeftOf", desc := "(I)I" } : Jvm.MethodName)) ∈ dcW := dcW_m 487 (by decide +kernel) (by decide +kernel)
theorem wm_436 : (Jvm.Cond.code ({ cls := "RingWeaver$Net", name := "insideLeftOf", desc := "(I)I" } : Jvm.MethodName) prog_4_method_13_code (10 : Nat) (Option.some Jvm.ClassFile.FieldType.int)) ∈ dcW := dcW_m 488 (by decide +kernel) (by decide +kernel)
theorem wm_437 : (Jvm.Cond.methodLink "RingWeaver$Net" (84 : Nat) ({ cls := "RingWeaver$Net", name := "isCrossedFrom", desc := "(JJI)Z" } : Jvm.MethodName)) ∈ dcW := dcW_m 489 (by decide +kernel) (by decide +kernel)
theorem wm_439 : (Jvm.Cond.instanceMethod ({ cls := "RingWeaver$Net", name := "isCrossedFrom", desc := "(JJI)Z" } : Jvm.MethodName)) ∈ dcW := dcW_m 491 (by decide +kernel) (by decide +kernel)
theorem wm_440 : (Jvm.Cond.code ({ cls := "RingWeaver$Net", name := "isCrossedFrom", desc := "(JJI)Z" } : Jvm.MethodName) prog_4_method_14_code (8 : Nat) (Option.some Jvm.ClassFile.FieldType.boolean)) ∈ dcW := dcW_m 492 (by decide +kernel) (by decide +kernel)
theorem wm_441 : (Jvm.Cond.methodLink "RingWeaver$Net" (88 : Nat) ({ cls := "RingWeaver$Plane", name := "isCrossedFrom", desc := "(JJIIII)Z" } : Jvm.MethodName)) ∈ dcW := dcW_m 493 (by decide +kernel) (by decide +kernel)
theorem wm_442 : (Jvm.Cond.static ({ cls := "RingWeaver$Plane", name := "isCrossedFrom", desc := "(JJIIII)Z" } : Jvm.MethodName)) ∈ dcW := dcW_m 494 (by decide +kernel) (by decide +kernel)
theorem wm_443 : (Jvm.Cond.code ({ cls := "RingWeaver$Plane", name := "isCrossedFrom", desc := "(JJIIII)Z" } : Jvm.MethodName) prog_5_method_6_code (14 : Nat) (Option.some Jvm.ClassFile.FieldType.boolean)) ∈ dcW := dcW_m 495 (by decide +kernel) (by decide +kernel)
theorem wm_444 : (Jvm.Cond.constantLong "RingWeaver$Plane" (26 : Nat) (2 : Int64)) ∈ dcW := dcW_m 496 (by decide +kernel) (by decide +kernel)
theorem wm_445 : (Jvm.Cond.methodLink "RingWeaver$Boundary" (71 : Nat) ({ cls := "RingWeaver$Boundary", name := "isInResult", desc := "(II)Z" } : Jvm.MethodName)) ∈ dcW := dcW_m 497 (by decide +kernel) (by decide +kernel)
theorem wm_446 : (Jvm.Cond.static ({ cls := "RingWeaver$Boundary", name := "isInResult", desc := "(II)Z" } : Jvm.MethodName)) ∈ dcW := dcW_m 498 (by decide +kernel) (by decide +kernel)
theorem wm_447 : (Jvm.Cond.code ({ cls := "RingWeaver$Boundary", name := "isInResult", desc := "(II)Z" } : Jvm.MethodName) prog_2_method_7_code (2 : Nat) (Option.some Jvm.ClassFile.FieldType.boolean)) ∈ dcW := dcW_m 499 (by decide +kernel) (by decide +kernel)
theorem wm_448 : (Jvm.Cond.methodLink "RingWeaver$Boundary" (77 : Nat) ({ cls := "RingWeaver$Boundary", name := "addWay", desc := "(II)V" } : Jvm.MethodName)) ∈ dcW := dcW_m 500 (by decide +kernel) (by decide +kernel)
theorem wm_450 : (Jvm.Cond.instanceMethod ({ cls := "RingWeaver$Boundary", name := "addWay", desc := "(II)V" } : Jvm.MethodName)) ∈ dcW := dcW_m 502 (by decide +kernel) (by decide +kernel)
theorem wm_451 : (Jvm.Cond.code ({ cls := "RingWeaver$Boundary", name := "addWay", desc := "(II)V" } : Jvm.MethodName) prog_2_method_5_code (3 : Nat) (Option.none : Option Jvm.ClassFile.FieldType)) ∈ dcW := dcW_m 503 (by decide +kernel) (by decide +kernel)
theorem wm_452 : (Jvm.Cond.methodLink "RingWeaver$Boundary" (81 : Nat) ({ cls := "RingWeaver$Row", name := "set", desc := "(II)V" } : Jvm.MethodName)) ∈ dcW := dcW_m 504 (by decide +kernel) (by decide +kernel)
theorem wm_453 : (Jvm.Cond.methodLink "RingWeaver$Boundary" (61 : Nat) ({ cls := "RingWeaver$Boundary", name := "ways", desc := "()I" } : Jvm.MethodName)) ∈ dcW := dcW_m 505 (by decide +kernel) (by decide +kernel)
theorem wm_454 : (Jvm.Cond.instanceMethod ({ cls := "RingWeaver$Boundary", name := "ways", desc := "()I" } : Jvm.MethodName)) ∈ dcW := dcW_m 506 (by decide +kernel) (by decide +kernel)
theorem wm_455 : (Jvm.Cond.selects "RingWeaver$Boundary" ({ cls := "RingWeaver$Boundary", name := "ways", desc := "()I" } : Jvm.MethodName) ({ cls := "RingWeaver$Boundary", name := "ways", desc := "()I" } : Jvm.MethodName)) ∈ dcW := dcW_m 507 (by decide +kernel) (by decide +kernel)
theorem wm_456 : (Jvm.Cond.code ({ cls := "RingWeaver$Boundary", name := "ways", desc := "()I" } : Jvm.MethodName) prog_2_method_2_code (1 : Nat) (Option.some Jvm.ClassFile.FieldType.int)) ∈ dcW := dcW_m 508 (by decide +kernel) (by decide +kernel)
theorem wm_457 : (Jvm.Cond.methodLink "RingWeaver$Boundary" (64 : Nat) ({ cls := "RingWeaver$Boundary", name := "wayBehind", desc := "(LRingWeaver$Net;I)I" } : Jvm.MethodName)) ∈ dcW := dcW_m 509 (by decide +kernel) (by decide +kernel)
theorem wm_459 : (Jvm.Cond.instanceMethod ({ cls := "RingWeaver$Boundary", name := "wayBehind", desc := "(LRingWeaver$Net;I)I" } : Jvm.MethodName)) ∈ dcW := dcW_m 511 (by decide +kernel) (by decide +kernel)
theorem wm_460 : (Jvm.Cond.code ({ cls := "RingWeaver$Boundary", name := "wayBehind", desc := "(LRingWeaver$Net;I)I" } : Jvm.MethodName) prog_2_method_6_code (8 : Nat) (Option.some Jvm.ClassFile.FieldType.int)) ∈ dcW := dcW_m 512 (by decide +kernel) (by decide +kernel)
theorem wm_461 : (Jvm.Cond.methodLink "RingWeaver$Boundary" (84 : Nat) ({ cls := "RingWeaver$Net", name := "isSooner", desc := "(IIII)Z" } : Jvm.MethodName)) ∈ dcW := dcW_m 513 (by decide +kernel) (by decide +kernel)
theorem wm_462 : (Jvm.Cond.instanceMethod ({ cls := "RingWeaver$Net", name := "isSooner", desc := "(IIII)Z" } : Jvm.MethodName)) ∈ dcW := dcW_m 514 (by decide +kernel) (by decide +kernel)
theorem wm_463 : (Jvm.Cond.selects "RingWeaver$Net" ({ cls := "RingWeaver$Net", name := "isSooner", desc := "(IIII)Z" } : Jvm.MethodName) ({ cls := "RingWeaver$Net", name := "isSooner", desc := "(IIII)Z" } : Jvm.MethodName)) ∈ dcW := dcW_m 515 (by decide +kernel) (by decide +kernel)
theorem wm_464 : (Jvm.Cond.code ({ cls := "RingWeaver$Net", name := "isSooner", desc := "(IIII)Z" } : Jvm.MethodName) prog_4_method_17_code (7 : Nat) (Option.some Jvm.ClassFile.FieldType.boolean)) ∈ dcW := dcW_m 516 (by decide +kernel) (by decide +kernel)
theorem wm_465 : (Jvm.Cond.methodLink "RingWeaver$Net" (91 : Nat) ({ cls := "RingWeaver$Plane", name := "isSooner", desc := "(IIIIII)Z" } : Jvm.MethodName)) ∈ dcW := dcW_m 517 (by decide +kernel) (by decide +kernel)
theorem wm_466 : (Jvm.Cond.static ({ cls := "RingWeaver$Plane", name := "isSooner", desc := "(IIIIII)Z" } : Jvm.MethodName)) ∈ dcW := dcW_m 518 (by decide +kernel) (by decide +kernel)
theorem wm_467 : (Jvm.Cond.code ({ cls := "RingWeaver$Plane", name := "isSooner", desc := "(IIIIII)Z" } : Jvm.MethodName) prog_5_method_7_code (8 : Nat) (Option.some Jvm.ClassFile.FieldType.boolean)) ∈ dcW := dcW_m 519 (by decide +kernel) (by decide +kernel)
theorem wm_468 : (Jvm.Cond.methodLink "RingWeaver$Plane" (28 : Nat) ({ cls := "RingWeaver$Plane", name := "turn", desc := "(IIII)I" } : Jvm.MethodName)) ∈ dcW := dcW_m 520 (by decide +kernel) (by decide +kernel)
theorem wm_469 : (Jvm.Cond.static ({ cls := "RingWeaver$Plane", name := "turn", desc := "(IIII)I" } : Jvm.MethodName)) ∈ dcW := dcW_m 521 (by decide +kernel) (by decide +kernel)
theorem wm_470 : (Jvm.Cond.code ({ cls := "RingWeaver$Plane", name := "turn", desc := "(IIII)I" } : Jvm.MethodName) prog_5_method_8_code (4 : Nat) (Option.some Jvm.ClassFile.FieldType.int)) ∈ dcW := dcW_m 522 (by decide +kernel) (by decide +kernel)
theorem wm_471 : (Jvm.Cond.methodLink "RingWeaver$Plane" (32 : Nat) ({ cls := "java/lang/Long", name := "compare", desc := "(JJ)I" } : Jvm.MethodName)) ∈ dcW := dcW_m 523 (by decide +kernel) (by decide +kernel)
theorem wm_472 : (Jvm.Cond.static ({ cls := "java/lang/Long", name := "compare", desc := "(JJ)I" } : Jvm.MethodName)) ∈ dcW := dcW_m 524 (by decide +kernel) (by decide +kernel)
theorem wm_473 : (Jvm.Cond.code ({ cls := "java/lang/Long", name := "compare", desc := "(JJ)I" } : Jvm.MethodName) prog_15_method_42_code (4 : Nat) (Option.some Jvm.ClassFile.FieldType.int)) ∈ dcW := dcW_m 525 (by decide +kernel) (by decide +kernel)
theorem wm_478 : (Jvm.Cond.methodLink "RingWeaver$Rings" (50 : Nat) ({ cls := "RingWeaver$Rings", name := "prepare", desc := "(LRingWeaver$Net;LRingWeaver$Boundary;)V" } : Jvm.MethodName)) ∈ dcW := dcW_m 530 (by decide +kernel) (by decide +kernel)
theorem wm_480 : (Jvm.Cond.instanceMethod ({ cls := "RingWeaver$Rings", name := "prepare", desc := "(LRingWeaver$Net;LRingWeaver$Boundary;)V" } : Jvm.MethodName)) ∈ dcW := dcW_m 532 (by decide +kernel) (by decide +kernel)
theorem wm_481 : (Jvm.Cond.code ({ cls := "RingWeaver$Rings", name := "prepare", desc := "(LRingWeaver$Net;LRingWeaver$Boundary;)V" } : Jvm.MethodName) prog_6_method_7_code (4 : Nat) (Option.none : Option Jvm.ClassFile.FieldType)) ∈ dcW := dcW_m 533 (by decide +kernel) (by decide +kernel)
theorem wm_482 : (Jvm.Cond.methodLink "RingWeaver$Rings" (74 : Nat) ({ cls := "RingWeaver$Row", name := "empty", desc := "()V" } : Jvm.MethodName)) ∈ dcW := dcW_m 534 (by decide +kernel) (by decide +kernel)
theorem wm_483 : (Jvm.Cond.methodLink "RingWeaver$Rings" (77 : Nat) ({ cls := "RingWeaver$Net", name := "places", desc := "()I" } : Jvm.MethodName)) ∈ dcW := dcW_m 535 (by decide +kernel) (by decide +kernel)
theorem wm_484 : (Jvm.Cond.methodLink "RingWeaver$Rings" (71 : Nat) ({ cls := "RingWeaver$Row", name := "add", desc := "(I)V" } : Jvm.MethodName)) ∈ dcW := dcW_m 536 (by decide +kernel) (by decide +kernel)
theorem wm_485 : (Jvm.Cond.methodLink "RingWeaver$Rings" (54 : Nat) ({ cls := "RingWeaver$Boundary", name := "ways", desc := "()I" } : Jvm.MethodName)) ∈ dcW := dcW_m 537 (by decide +kernel) (by decide +kernel)
theorem wm_486 : (Jvm.Cond.methodLink "RingWeaver$Rings" (46 : Nat) ({ cls := "RingWeaver$Row", name := "get", desc := "(I)I" } : Jvm.MethodName)) ∈ dcW := dcW_m 538 (by decide +kernel) (by decide +kernel)
theorem wm_487 : (Jvm.Cond.methodLink "RingWeaver$Rings" (60 : Nat) ({ cls := "RingWeaver$Rings", name := "walk", desc := "(LRingWeaver$Net;LRingWeaver$Boundary;I)V" } : Jvm.MethodName)) ∈ dcW := dcW_m 539 (by decide +kernel) (by decide +kernel)
theorem wm_489 : (Jvm.Cond.instanceMethod ({ cls := "RingWeaver$Rings", name := "walk", desc := "(LRingWeaver$Net;LRingWeaver$Boundary;I)V" } : Jvm.MethodName)) ∈ dcW := dcW_m 541 (by decide +kernel) (by decide +kernel)
theorem wm_490 : (Jvm.Cond.code ({ cls := "RingWeaver$Rings", name := "walk", desc := "(LRingWeaver$Net;LRingWeaver$Boundary;I)V" } : Jvm.MethodName) prog_6_method_8_code (7 : Nat) (Option.none : Option Jvm.ClassFile.FieldType)) ∈ dcW := dcW_m 542 (by decide +kernel) (by decide +kernel)
theorem wm_491 : (Jvm.Cond.methodLink "RingWeaver$Rings" (82 : Nat) ({ cls := "RingWeaver$Row", name := "set", desc := "(II)V" } : Jvm.MethodName)) ∈ dcW := dcW_m 543 (by decide +kernel) (by decide +kernel)
theorem wm_492 : (Jvm.Cond.methodLink "RingWeaver$Rings" (92 : Nat) ({ cls := "RingWeaver$Rings", name := "takeRing", desc := "(LRingWeaver$Net;I)V" } : Jvm.MethodName)) ∈ dcW := dcW_m 544 (by decide +kernel) (by decide +kernel)
theorem wm_494 : (Jvm.Cond.instanceMethod ({ cls := "RingWeaver$Rings", name := "takeRing", desc := "(LRingWeaver$Net;I)V" } : Jvm.MethodName)) ∈ dcW := dcW_m 546 (by decide +kernel) (by decide +kernel)
theorem wm_495 : (Jvm.Cond.code ({ cls := "RingWeaver$Rings", name := "takeRing", desc := "(LRingWeaver$Net;I)V" } : Jvm.MethodName) prog_6_method_9_code (6 : Nat) (Option.none : Option Jvm.ClassFile.FieldType)) ∈ dcW := dcW_m 547 (by decide +kernel) (by decide +kernel)
theorem wm_496 : (Jvm.Cond.methodLink "RingWeaver$Rings" (99 : Nat) ({ cls := "RingWeaver$Net", name := "isPlaceLess", desc := "(II)Z" } : Jvm.MethodName)) ∈ dcW := dcW_m 548 (by decide +kernel) (by decide +kernel)
theorem wm_497 : (Jvm.Cond.instanceMethod ({ cls := "RingWeaver$Net", name := "isPlaceLess", desc := "(II)Z" } : Jvm.MethodName)) ∈ dcW := dcW_m 549 (by decide +kernel) (by decide +kernel)
theorem wm_498 : (Jvm.Cond.selects "RingWeaver$Net" ({ cls := "RingWeaver$Net", name := "isPlaceLess", desc := "(II)Z" } : Jvm.MethodName) ({ cls := "RingWeaver$Net", name := "isPlaceLess", desc := "(II)Z" } : Jvm.MethodName)) ∈ dcW := dcW_m 550 (by decide +kernel) (by decide +kernel)
theorem wm_499 : (Jvm.Cond.code ({ cls := "RingWeaver$Net", name := "isPlaceLess", desc := "(II)Z" } : Jvm.MethodName) prog_4_method_15_code (3 : Nat) (Option.some Jvm.ClassFile.FieldType.boolean)) ∈ dcW := dcW_m 551 (by decide +kernel) (by decide +kernel)
theorem wm_500 : (Jvm.Cond.methodLink "RingWeaver$Rings" (103 : Nat) ({ cls := "RingWeaver$Rings", name := "addCorners", desc := "(LRingWeaver$Net;III)V" } : Jvm.MethodName)) ∈ dcW := dcW_m 552 (by decide +kernel) (by decide +kernel)
theorem wm_502 : (Jvm.Cond.instanceMethod ({ cls := "RingWeaver$Rings", name := "addCorners", desc := "(LRingWeaver$Net;III)V" } : Jvm.MethodName)) ∈ dcW := dcW_m 554 (by decide +kernel) (by decide +kernel)
theorem wm_503 : (Jvm.Cond.code ({ cls := "RingWeaver$Rings", name := "addCorners", desc := "(LRingWeaver$Net;III)V" } : Jvm.MethodName) prog_6_method_10_code (10 : Nat) (Option.none : Option Jvm.ClassFile.FieldType)) ∈ dcW := dcW_m 555 (by decide +kernel) (by decide +kernel)
theorem wm_504 : (Jvm.Cond.methodLink "RingWeaver$Rings" (110 : Nat) ({ cls := "RingWeaver$Net", name := "isStraight", desc := "(III)Z" } : Jvm.MethodName)) ∈ dcW := dcW_m 556 (by decide +kernel) (by decide +kernel)
theorem wm_505 : (Jvm.Cond.instanceMethod ({ cls := "RingWeaver$Net", name := "isStraight", desc := "(III)Z" } : Jvm.MethodName)) ∈ dcW := dcW_m 557 (by decide +kernel) (by decide +kernel)
theorem wm_506 : (Jvm.Cond.selects "RingWeaver$Net" ({ cls := "RingWeaver$Net", name := "isStraight", desc := "(III)Z" } : Jvm.MethodName) ({ cls := "RingWeaver$Net", name := "isStraight", desc := "(III)Z" } : Jvm.MethodName)) ∈ dcW := dcW_m 558 (by decide +kernel) (by decide +kernel)
theorem wm_507 : (Jvm.Cond.code ({ cls := "RingWeaver$Net", name := "isStraight", desc := "(III)Z" } : Jvm.MethodName) prog_4_method_16_code (4 : Nat) (Option.some Jvm.ClassFile.FieldType.boolean)) ∈ dcW := dcW_m 559 (by decide +kernel) (by decide +kernel)
theorem wm_508 : (Jvm.Cond.methodLink "RingWeaver$Rings" (107 : Nat) ({ cls := "RingWeaver$Row", name := "shorten", desc := "(I)V" } : Jvm.MethodName)) ∈ dcW := dcW_m 560 (by decide +kernel) (by decide +kernel)
theorem wm_509 : (Jvm.Cond.instanceMethod ({ cls := "RingWeaver$Row", name := "shorten", desc := "(I)V" } : Jvm.MethodName)) ∈ dcW := dcW_m 561 (by decide +kernel) (by decide +kernel)
theorem wm_510 : (Jvm.Cond.selects "RingWeaver$Row" ({ cls := "RingWeaver$Row", name := "shorten", desc := "(I)V" } : Jvm.MethodName) ({ cls := "RingWeaver$Row", name := "shorten", desc := "(I)V" } : Jvm.MethodName)) ∈ dcW := dcW_m 562 (by decide +kernel) (by decide +kernel)
theorem wm_511 : (Jvm.Cond.code ({ cls := "RingWeaver$Row", name := "shorten", desc := "(I)V" } : Jvm.MethodName) prog_7_method_3_code (2 : Nat) (Option.none : Option Jvm.ClassFile.FieldType)) ∈ dcW := dcW_m 563 (by decide +kernel) (by decide +kernel)
theorem wm_512 : (Jvm.Cond.methodLink "RingWeaver$Rings" (64 : Nat) ({ cls := "RingWeaver$Rings", name := "putInOrder", desc := "(I)V" } : Jvm.MethodName)) ∈ dcW := dcW_m 564 (by decide +kernel) (by decide +kernel)
theorem wm_514 : (Jvm.Cond.instanceMethod ({ cls := "RingWeaver$Rings", name := "putInOrder", desc := "(I)V" } : Jvm.MethodName)) ∈ dcW := dcW_m 566 (by decide +kernel) (by decide +kernel)
theorem wm_515 : (Jvm.Cond.code ({ cls := "RingWeaver$Rings", name := "putInOrder", desc := "(I)V" } : Jvm.MethodName) prog_6_method_12_code (3 : Nat) (Option.none : Option Jvm.ClassFile.FieldType)) ∈ dcW := dcW_m 567 (by decide +kernel) (by decide +kernel)
theorem wm_516 : (Jvm.Cond.methodLink "RingWeaver$Rings" (122 : Nat) ({ cls := "RingWeaver$Rings", name := "comesBefore", desc := "(II)Z" } : Jvm.MethodName)) ∈ dcW := dcW_m 568 (by decide +kernel) (by decide +kernel)
theorem wm_518 : (Jvm.Cond.instanceMethod ({ cls := "RingWeaver$Rings", name := "comesBefore", desc := "(II)Z" } : Jvm.MethodName)) ∈ dcW := dcW_m 570 (by decide +kernel) (by decide +kernel)
theorem wm_519 : (Jvm.Cond.code ({ cls := "RingWeaver$Rings", name := "comesBefore", desc := "(II)Z" } : Jvm.MethodName) prog_6_method_13_code (5 : Nat) (Option.some Jvm.ClassFile.FieldType.boolean)) ∈ dcW := dcW_m 571 (by decide +kernel) (by decide +kernel)
theorem wm_520 : (Jvm.Cond.methodLink "RingWeaver$Rings" (119 : Nat) ({ cls := "RingWeaver$Rings", name := "startOf", desc := "(I)I" } : Jvm.MethodName)) ∈ dcW := dcW_m 572 (by decide +kernel) (by decide +kernel)
theorem wm_521 : (Jvm.Cond.instanceMethod ({ cls := "RingWeaver$Rings", name := "startOf", desc := "(I)I" } : Jvm.MethodName)) ∈ dcW := dcW_m 573 (by decide +kernel) (by decide +kernel)
theorem wm_522 : (Jvm.Cond.selects "RingWeaver$Rings" ({ cls := "RingWeaver$Rings", name := "startOf", desc := "(I)I" } : Jvm.MethodName) ({ cls := "RingWeaver$Rings", name := "startOf", desc := "(I)I" } : Jvm.MethodName)) ∈ dcW := dcW_m 574 (by decide +kernel) (by decide +kernel)
theorem wm_523 : (Jvm.Cond.code ({ cls := "RingWeaver$Rings", name := "startOf", desc := "(I)I" } : Jvm.MethodName) prog_6_method_4_code (2 : Nat) (Option.some Jvm.ClassFile.FieldType.int)) ∈ dcW := dcW_m 575 (by decide +kernel) (by decide +kernel)
theorem wm_524 : (Jvm.Cond.methodLink "RingWeaver$Rings" (125 : Nat) ({ cls := "RingWeaver$Plane", name := "isLess", desc := "(IIII)Z" } : Jvm.MethodName)) ∈ dcW := dcW_m 576 (by decide +kernel) (by decide +kernel)
theorem wm_525 : (Jvm.Cond.methodLink "RingWeaver$Rings" (68 : Nat) ({ cls := "RingWeaver$Rings", name := "ownerOf", desc := "(I)I" } : Jvm.MethodName)) ∈ dcW := dcW_m 577 (by decide +kernel) (by decide +kernel)
theorem wm_527 : (Jvm.Cond.instanceMethod ({ cls := "RingWeaver$Rings", name := "ownerOf", desc := "(I)I" } : Jvm.MethodName)) ∈ dcW := dcW_m 579 (by decide +kernel) (by decide +kernel)
theorem wm_528 : (Jvm.Cond.code ({ cls := "RingWeaver$Rings", name := "ownerOf", desc := "(I)I" } : Jvm.MethodName) prog_6_method_14_code (11 : Nat) (Option.some Jvm.ClassFile.FieldType.int)) ∈ dcW := dcW_m 580 (by decide +kernel) (by decide +kernel)
theorem wm_529 : (Jvm.Cond.methodLink "RingWeaver$Rings" (131 : Nat) ({ cls := "RingWeaver$Rings", name := "twiceAreaOf", desc := "(I)J" } : Jvm.MethodName)) ∈ dcW := dcW_m 581 (by decide +kernel) (by decide +kernel)
theorem wm_530 : (Jvm.Cond.instanceMethod ({ cls := "RingWeaver$Rings", name := "twiceAreaOf", desc := "(I)J" } : Jvm.MethodName)) ∈ dcW := dcW_m 582 (by decide +kernel) (by decide +kernel)
theorem wm_531 : (Jvm.Cond.selects "RingWeaver$Rings" ({ cls := "RingWeaver$Rings", name := "twiceAreaOf", desc := "(I)J" } : Jvm.MethodName) ({ cls := "RingWeaver$Rings", name := "twiceAreaOf", desc := "(I)J" } : Jvm.MethodName)) ∈ dcW := dcW_m 583 (by decide +kernel) (by decide +kernel)
theorem wm_532 : (Jvm.Cond.code ({ cls := "RingWeaver$Rings", name := "twiceAreaOf", desc := "(I)J" } : Jvm.MethodName) prog_6_method_11_code (7 : Nat) (Option.some Jvm.ClassFile.FieldType.long)) ∈ dcW := dcW_m 584 (by decide +kernel) (by decide +kernel)
theorem wm_533 : (Jvm.Cond.methodLink "RingWeaver$Rings" (116 : Nat) ({ cls := "RingWeaver$Rings", name := "endOf", desc := "(I)I" } : Jvm.MethodName)) ∈ dcW := dcW_m 585 (by decide +kernel) (by decide +kernel)
theorem wm_534 : (Jvm.Cond.instanceMethod ({ cls := "RingWeaver$Rings", name := "endOf", desc := "(I)I" } : Jvm.MethodName)) ∈ dcW := dcW_m 586 (by decide +kernel) (by decide +kernel)
theorem wm_535 : (Jvm.Cond.selects "RingWeaver$Rings" ({ cls := "RingWeaver$Rings", name := "endOf", desc := "(I)I" } : Jvm.MethodName) ({ cls := "RingWeaver$Rings", name := "endOf", desc := "(I)I" } : Jvm.MethodName)) ∈ dcW := dcW_m 587 (by decide +kernel) (by decide +kernel)
theorem wm_536 : (Jvm.Cond.code ({ cls := "RingWeaver$Rings", name := "endOf", desc := "(I)I" } : Jvm.MethodName) prog_6_method_5_code (2 : Nat) (Option.some Jvm.ClassFile.FieldType.int)) ∈ dcW := dcW_m 588 (by decide +kernel) (by decide +kernel)
theorem wm_537 : (Jvm.Cond.methodLink "RingWeaver$Rings" (135 : Nat) ({ cls := "RingWeaver$Rings", name := "liesIn", desc := "(II)Z" } : Jvm.MethodName)) ∈ dcW := dcW_m 589 (by decide +kernel) (by decide +kernel)
theorem wm_539 : (Jvm.Cond.instanceMethod ({ cls := "RingWeaver$Rings", name := "liesIn", desc := "(II)Z" } : Jvm.MethodName)) ∈ dcW := dcW_m 591 (by decide +kernel) (by decide +kernel)
theorem wm_540 : (Jvm.Cond.code ({ cls := "RingWeaver$Rings", name := "liesIn", desc := "(II)Z" } : Jvm.MethodName) prog_6_method_15_code (4 : Nat) (Option.some Jvm.ClassFile.FieldType.boolean)) ∈ dcW := dcW_m 592 (by decide +kernel) (by decide +kernel)
theorem wm_541 : (Jvm.Cond.methodLink "RingWeaver$Rings" (138 : Nat) ({ cls := "RingWeaver$Rings", name := "isOnRing", desc := "(III)Z" } : Jvm.MethodName)) ∈ dcW := dcW_m 593 (by decide +kernel) (by decide +kernel)
theorem wm_543 : (Jvm.Cond.instanceMethod ({ cls := "RingWeaver$Rings", name := "isOnRing", desc := "(III)Z" } : Jvm.MethodName)) ∈ dcW := dcW_m 595 (by decide +kernel) (by decide +kernel)
theorem wm_544 : (Jvm.Cond.code ({ cls := "RingWeaver$Rings", name := "isOnRing", desc := "(III)Z" } : Jvm.MethodName) prog_6_method_16_code (6 : Nat) (Option.some Jvm.ClassFile.FieldType.boolean)) ∈ dcW := dcW_m 596 (by decide +kernel) (by decide +kernel)
theorem wm_545 : (Jvm.Cond.methodLink "RingWeaver$Rings" (144 : Nat) ({ cls := "RingWeaver$Plane", name := "isOn", desc := "(IIIIII)Z" } : Jvm.MethodName)) ∈ dcW := dcW_m 597 (by decide +kernel) (by decide +kernel)
theorem wm_546 : (Jvm.Cond.static ({ cls := "RingWeaver$Plane", name := "isOn", desc := "(IIIIII)Z" } : Jvm.MethodName)) ∈ dcW := dcW_m 598 (by decide +kernel) (by decide +kernel)
theorem wm_547 : (Jvm.Cond.code ({ cls := "RingWeaver$Plane", name := "isOn", desc := "(IIIIII)Z" } : Jvm.MethodName) prog_5_method_5_code (6 : Nat) (Option.some Jvm.ClassFile.FieldType.boolean)) ∈ dcW := dcW_m 599 (by decide +kernel) (by decide +kernel)
theorem wm_548 : (Jvm.Cond.methodLink "RingWeaver$Plane" (16 : Nat) ({ cls := "RingWeaver$Plane", name := "side", desc := "(IIIIII)I" } : Jvm.MethodName)) ∈ dcW := dcW_m 600 (by decide +kernel) (by decide +kernel)
theorem wm_549 : (Jvm.Cond.methodLink "RingWeaver$Plane" (22 : Nat) ({ cls := "RingWeaver$Plane", name := "isBetween", desc := "(IIIIII)Z" } : Jvm.MethodName)) ∈ dcW := dcW_m 601 (by decide +kernel) (by decide +kernel)
theorem wm_550 : (Jvm.Cond.methodLink "RingWeaver$Rings" (141 : Nat) ({ cls := "RingWeaver$Rings", name := "isInRing", desc := "(III)Z" } : Jvm.MethodName)) ∈ dcW := dcW_m 602 (by decide +kernel) (by decide +kernel)
theorem wm_552 : (Jvm.Cond.instanceMethod ({ cls := "RingWeaver$Rings", name := "isInRing", desc := "(III)Z" } : Jvm.MethodName)) ∈ dcW := dcW_m 604 (by decide +kernel) (by decide +kernel)
theorem wm_553 : (Jvm.Cond.code ({ cls := "RingWeaver$Rings", name := "isInRing", desc := "(III)Z" } : Jvm.MethodName) prog_6_method_17_code (7 : Nat) (Option.some Jvm.ClassFile.FieldType.boolean)) ∈ dcW := dcW_m 605 (by decide +kernel) (by decide +kernel)
theorem wm_554 : (Jvm.Cond.constantLong "RingWeaver$Rings" (148 : Nat) (2 : Int64)) ∈ dcW := dcW_m 606 (by decide +kernel) (by decide +kernel)
theorem wm_555 : (Jvm.Cond.methodLink "RingWeaver$Rings" (150 : Nat) ({ cls := "RingWeaver$Plane", name := "isCrossedFrom", desc := "(JJIIII)Z" } : Jvm.MethodName)) ∈ dcW := dcW_m 607 (by decide +kernel) (by decide +kernel)
theorem wm_569 : (Jvm.Cond.methodLink "RingWeaver$Multipolygon" (40 : Nat) ({ cls := "RingWeaver$Row", name := "add", desc := "(I)V" } : Jvm.MethodName)) ∈ dcW := dcW_m 621 (by decide +kernel) (by decide +kernel)
theorem wm_570 : (Jvm.Cond.methodLink "RingWeaver$Multipolygon" (50 : Nat) ({ cls := "RingWeaver$Row", name := "get", desc := "(I)I" } : Jvm.MethodName)) ∈ dcW := dcW_m 622 (by decide +kernel) (by decide +kernel)
theorem wm_571 : (Jvm.Cond.methodLink "RingWeaver$Multipolygon" (57 : Nat) ({ cls := "RingWeaver$Multipolygon", name := "tellPolygon", desc := "(LRingWeaver$Rings;I)V" } : Jvm.MethodName)) ∈ dcW := dcW_m 623 (by decide +kernel) (by decide +kernel)
theorem wm_573 : (Jvm.Cond.instanceMethod ({ cls := "RingWeaver$Multipolygon", name := "tellPolygon", desc := "(LRingWeaver$Rings;I)V" } : Jvm.MethodName)) ∈ dcW := dcW_m 625 (by decide +kernel) (by decide +kernel)
theorem wm_574 : (Jvm.Cond.code ({ cls := "RingWeaver$Multipolygon", name := "tellPolygon", desc := "(LRingWeaver$Rings;I)V" } : Jvm.MethodName) prog_3_method_4_code (6 : Nat) (Option.none : Option Jvm.ClassFile.FieldType)) ∈ dcW := dcW_m 626 (by decide +kernel) (by decide +kernel)
theorem wm_575 : (Jvm.Cond.methodLink "RingWeaver$Multipolygon" (61 : Nat) ({ cls := "RingWeaver$Multipolygon", name := "tellRing", desc := "(LRingWeaver$Rings;I)V" } : Jvm.MethodName)) ∈ dcW := dcW_m 627 (by decide +kernel) (by decide +kernel)
theorem wm_577 : (Jvm.Cond.instanceMethod ({ cls := "RingWeaver$Multipolygon", name := "tellRing", desc := "(LRingWeaver$Rings;I)V" } : Jvm.MethodName)) ∈ dcW := dcW_m 629 (by decide +kernel) (by decide +kernel)
theorem wm_578 : (Jvm.Cond.code ({ cls := "RingWeaver$Multipolygon", name := "tellRing", desc := "(LRingWeaver$Rings;I)V" } : Jvm.MethodName) prog_3_method_5_code (6 : Nat) (Option.none : Option Jvm.ClassFile.FieldType)) ∈ dcW := dcW_m 630 (by decide +kernel) (by decide +kernel)
theorem wm_579 : (Jvm.Cond.methodLink "RingWeaver$Multipolygon" (68 : Nat) ({ cls := "RingWeaver$Rings", name := "startOf", desc := "(I)I" } : Jvm.MethodName)) ∈ dcW := dcW_m 631 (by decide +kernel) (by decide +kernel)
theorem wm_580 : (Jvm.Cond.methodLink "RingWeaver$Multipolygon" (71 : Nat) ({ cls := "RingWeaver$Rings", name := "endOf", desc := "(I)I" } : Jvm.MethodName)) ∈ dcW := dcW_m 632 (by decide +kernel) (by decide +kernel)
theorem wm_581 : (Jvm.Cond.methodLink "RingWeaver$Multipolygon" (76 : Nat) ({ cls := "RingWeaver$Rings", name := "twiceAreaOf", desc := "(I)J" } : Jvm.MethodName)) ∈ dcW := dcW_m 633 (by decide +kernel) (by decide +kernel)
theorem wm_582 : (Jvm.Cond.methodLink "RingWeaver$Multipolygon" (64 : Nat) ({ cls := "RingWeaver$Row", name := "set", desc := "(II)V" } : Jvm.MethodName)) ∈ dcW := dcW_m 634 (by decide +kernel) (by decide +kernel)
theorem wm_622 : (Jvm.Cond.methodLink "RingWeaverModel" (1 : Nat) ({ cls := "java/lang/Object", name := "<init>", desc := "()V" } : Jvm.MethodName)) ∈ dcW := dcW_m 674 (by decide +kernel) (by decide +kernel)
theorem wm_623 : (Jvm.Cond.fieldLink "RingWeaverModel" (66 : Nat) "RingWeaverModel" "thrown" "I") ∈ dcW := dcW_m 675 (by decide +kernel) (by decide +kernel)
theorem wm_624 : (Jvm.Cond.fieldLink "RingWeaverModel" (110 : Nat) "RingWeaverModel" "pieces" "I") ∈ dcW := dcW_m 676 (by decide +kernel) (by decide +kernel)
theorem wm_625 : (Jvm.Cond.fieldLink "RingWeaverModel" (7 : Nat) "RingWeaverModel" "ax" "[I") ∈ dcW := dcW_m 677 (by decide +kernel) (by decide +kernel)
theorem wm_626 : (Jvm.Cond.fieldLink "RingWeaverModel" (13 : Nat) "RingWeaverModel" "ay" "[I") ∈ dcW := dcW_m 678 (by decide +kernel) (by decide +kernel)
theorem wm_627 : (Jvm.Cond.fieldLink "RingWeaverModel" (16 : Nat) "RingWeaverModel" "bx" "[I") ∈ dcW := dcW_m 679 (by decide +kernel) (by decide +kernel)
theorem wm_628 : (Jvm.Cond.fieldLink "RingWeaverModel" (19 : Nat) "RingWeaverModel" "by" "[I") ∈ dcW := dcW_m 680 (by decide +kernel) (by decide +kernel)
theorem wm_629 : (Jvm.Cond.fieldLink "RingWeaverModel" (22 : Nat) "RingWeaverModel" "marks" "[I") ∈ dcW := dcW_m 681 (by decide +kernel) (by decide +kernel)
theorem wm_630 : (Jvm.Cond.fieldLink "RingWeaverModel" (25 : Nat) "RingWeaverModel" "ways" "[I") ∈ dcW := dcW_m 682 (by decide +kernel) (by decide +kernel)
theorem wm_631 : (Jvm.Cond.fieldLink "RingWeaverModel" (28 : Nat) "RingWeaverModel" "gone" "[Z") ∈ dcW := dcW_m 683 (by decide +kernel) (by decide +kernel)
theorem wm_632 : (Jvm.Cond.fieldLink "RingWeaverModel" (76 : Nat) "RingWeaverModel" "planned" "I") ∈ dcW := dcW_m 684 (by decide +kernel) (by decide +kernel)
theorem wm_633 : (Jvm.Cond.fieldLink "RingWeaverModel" (79 : Nat) "RingWeaverModel" "corners" "I") ∈ dcW := dcW_m 685 (by decide +kernel) (by decide +kernel)
theorem wm_634 : (Jvm.Cond.fieldLink "RingWeaverModel" (82 : Nat) "RingWeaverModel" "polygons" "I") ∈ dcW := dcW_m 686 (by decide +kernel) (by decide +kernel)
theorem wm_635 : (Jvm.Cond.fieldLink "RingWeaverModel" (32 : Nat) "RingWeaverModel" "plan" "[I") ∈ dcW := dcW_m 687 (by decide +kernel) (by decide +kernel)
theorem wm_636 : (Jvm.Cond.fieldLink "RingWeaverModel" (35 : Nat) "RingWeaverModel" "xs" "[I") ∈ dcW := dcW_m 688 (by decide +kernel) (by decide +kernel)
theorem wm_637 : (Jvm.Cond.fieldLink "RingWeaverModel" (38 : Nat) "RingWeaverModel" "ys" "[I") ∈ dcW := dcW_m 689 (by decide +kernel) (by decide +kernel)
theorem wm_638 : (Jvm.Cond.fieldLink "RingWeaverModel" (85 : Nat) "RingWeaverModel" "twice" "J") ∈ dcW := dcW_m 690 (by decide +kernel) (by decide +kernel)
theorem wm_639 : (Jvm.Cond.fieldLink "RingWeaverModel" (170 : Nat) "RingWeaverModel" "length" "I") ∈ dcW := dcW_m 691 (by decide +kernel) (by decide +kernel)
theorem wm_640 : (Jvm.Cond.fieldLink "RingWeaverModel" (41 : Nat) "RingWeaverModel" "wayX" "[I") ∈ dcW := dcW_m 692 (by decide +kernel) (by decide +kernel)
theorem wm_641 : (Jvm.Cond.fieldLink "RingWeaverModel" (44 : Nat) "RingWeaverModel" "wayY" "[I") ∈ dcW := dcW_m 693 (by decide +kernel) (by decide +kernel)
theorem wm_642 : (Jvm.Cond.fieldLink "RingWeaverModel" (184 : Nat) "RingWeaverModel" "rings" "I") ∈ dcW := dcW_m 694 (by decide +kernel) (by decide +kernel)
theorem wm_643 : (Jvm.Cond.fieldLink "RingWeaverModel" (47 : Nat) "RingWeaverModel" "first" "[I") ∈ dcW := dcW_m 695 (by decide +kernel) (by decide +kernel)
theorem wm_644 : (Jvm.Cond.fieldLink "RingWeaverModel" (50 : Nat) "RingWeaverModel" "size" "[I") ∈ dcW := dcW_m 696 (by decide +kernel) (by decide +kernel)
theorem wm_645 : (Jvm.Cond.fieldLink "RingWeaverModel" (53 : Nat) "RingWeaverModel" "areas" "[J") ∈ dcW := dcW_m 697 (by decide +kernel) (by decide +kernel)
theorem wm_646 : (Jvm.Cond.fieldLink "RingWeaverModel" (57 : Nat) "RingWeaverModel" "owner" "[I") ∈ dcW := dcW_m 698 (by decide +kernel) (by decide +kernel)
theorem wm_647 : (Jvm.Cond.fieldLink "RingWeaverModel" (187 : Nat) "RingWeaverModel" "places" "I") ∈ dcW := dcW_m 699 (by decide +kernel) (by decide +kernel)
theorem wm_648 : (Jvm.Cond.fieldLink "RingWeaverModel" (60 : Nat) "RingWeaverModel" "rx" "[I") ∈ dcW := dcW_m 700 (by decide +kernel) (by decide +kernel)
theorem wm_649 : (Jvm.Cond.fieldLink "RingWeaverModel" (63 : Nat) "RingWeaverModel" "ry" "[I") ∈ dcW := dcW_m 701 (by decide +kernel) (by decide +kernel)
theorem wm_650 : (Jvm.Cond.lays "RingWeaverModel" "RingWeaverModel" "thrown" "I") ∈ dcW := dcW_m 702 (by decide +kernel) (by decide +kernel)
theorem wm_652 : (Jvm.Cond.lays "RingWeaverModel" "RingWeaverModel" "pieces" "I") ∈ dcW := dcW_m 704 (by decide +kernel) (by decide +kernel)
theorem wm_654 : (Jvm.Cond.laysFinal "RingWeaverModel" "RingWeaverModel" "ax" "[I") ∈ dcW := dcW_m 706 (by decide +kernel) (by decide +kernel)
theorem wm_656 : (Jvm.Cond.laysFinal "RingWeaverModel" "RingWeaverModel" "ay" "[I") ∈ dcW := dcW_m 708 (by decide +kernel) (by decide +kernel)
theorem wm_658 : (Jvm.Cond.laysFinal "RingWeaverModel" "RingWeaverModel" "bx" "[I") ∈ dcW := dcW_m 710 (by decide +kernel) (by decide +kernel)
theorem wm_660 : (Jvm.Cond.laysFinal "RingWeaverModel" "RingWeaverModel" "by" "[I") ∈ dcW := dcW_m 712 (by decide +kernel) (by decide +kernel)
theorem wm_662 : (Jvm.Cond.laysFinal "RingWeaverModel" "RingWeaverModel" "marks" "[I") ∈ dcW := dcW_m 714 (by decide +kernel) (by decide +kernel)
theorem wm_664 : (Jvm.Cond.laysFinal "RingWeaverModel" "RingWeaverModel" "ways" "[I") ∈ dcW := dcW_m 716 (by decide +kernel) (by decide +kernel)
theorem wm_666 : (Jvm.Cond.laysFinal "RingWeaverModel" "RingWeaverModel" "gone" "[Z") ∈ dcW := dcW_m 718 (by decide +kernel) (by decide +kernel)
theorem wm_668 : (Jvm.Cond.lays "RingWeaverModel" "RingWeaverModel" "planned" "I") ∈ dcW := dcW_m 720 (by decide +kernel) (by decide +kernel)
theorem wm_670 : (Jvm.Cond.lays "RingWeaverModel" "RingWeaverModel" "corners" "I") ∈ dcW := dcW_m 722 (by decide +kernel) (by decide +kernel)
theorem wm_672 : (Jvm.Cond.lays "RingWeaverModel" "RingWeaverModel" "polygons" "I") ∈ dcW := dcW_m 724 (by decide +kernel) (by decide +kernel)
theorem wm_674 : (Jvm.Cond.laysFinal "RingWeaverModel" "RingWeaverModel" "plan" "[I") ∈ dcW := dcW_m 726 (by decide +kernel) (by decide +kernel)
theorem wm_676 : (Jvm.Cond.laysFinal "RingWeaverModel" "RingWeaverModel" "xs" "[I") ∈ dcW := dcW_m 728 (by decide +kernel) (by decide +kernel)
theorem wm_678 : (Jvm.Cond.laysFinal "RingWeaverModel" "RingWeaverModel" "ys" "[I") ∈ dcW := dcW_m 730 (by decide +kernel) (by decide +kernel)
theorem wm_680 : (Jvm.Cond.lays "RingWeaverModel" "RingWeaverModel" "twice" "J") ∈ dcW := dcW_m 732 (by decide +kernel) (by decide +kernel)
theorem wm_682 : (Jvm.Cond.lays "RingWeaverModel" "RingWeaverModel" "length" "I") ∈ dcW := dcW_m 734 (by decide +kernel) (by decide +kernel)
theorem wm_684 : (Jvm.Cond.laysFinal "RingWeaverModel" "RingWeaverModel" "wayX" "[I") ∈ dcW := dcW_m 736 (by decide +kernel) (by decide +kernel)
theorem wm_686 : (Jvm.Cond.laysFinal "RingWeaverModel" "RingWeaverModel" "wayY" "[I") ∈ dcW := dcW_m 738 (by decide +kernel) (by decide +kernel)
theorem wm_688 : (Jvm.Cond.lays "RingWeaverModel" "RingWeaverModel" "rings" "I") ∈ dcW := dcW_m 740 (by decide +kernel) (by decide +kernel)
theorem wm_690 : (Jvm.Cond.laysFinal "RingWeaverModel" "RingWeaverModel" "first" "[I") ∈ dcW := dcW_m 742 (by decide +kernel) (by decide +kernel)
theorem wm_692 : (Jvm.Cond.laysFinal "RingWeaverModel" "RingWeaverModel" "size" "[I") ∈ dcW := dcW_m 744 (by decide +kernel) (by decide +kernel)
theorem wm_694 : (Jvm.Cond.laysFinal "RingWeaverModel" "RingWeaverModel" "areas" "[J") ∈ dcW := dcW_m 746 (by decide +kernel) (by decide +kernel)
theorem wm_696 : (Jvm.Cond.laysFinal "RingWeaverModel" "RingWeaverModel" "owner" "[I") ∈ dcW := dcW_m 748 (by decide +kernel) (by decide +kernel)
theorem wm_698 : (Jvm.Cond.lays "RingWeaverModel" "RingWeaverModel" "places" "I") ∈ dcW := dcW_m 750 (by decide +kernel) (by decide +kernel)
theorem wm_700 : (Jvm.Cond.laysFinal "RingWeaverModel" "RingWeaverModel" "rx" "[I") ∈ dcW := dcW_m 752 (by decide +kernel) (by decide +kernel)
theorem wm_702 : (Jvm.Cond.laysFinal "RingWeaverModel" "RingWeaverModel" "ry" "[I") ∈ dcW := dcW_m 754 (by decide +kernel) (by decide +kernel)
theorem wm_705 : (Jvm.Cond.arrayClass Jvm.ClassFile.FieldType.boolean) ∈ dcW := dcW_m 757 (by decide +kernel) (by decide +kernel)
theorem wm_706 : (Jvm.Cond.arrayClass Jvm.ClassFile.FieldType.long) ∈ dcW := dcW_m 758 (by decide +kernel) (by decide +kernel)
theorem wm_715 : (Jvm.Cond.methodLink "RingWeaverModel" (117 : Nat) ({ cls := "RingWeaverModel", name := "isFar", desc := "(I)Z" } : Jvm.MethodName)) ∈ dcW := dcW_m 767 (by decide +kernel) (by decide +kernel)
theorem wm_716 : (Jvm.Cond.static ({ cls := "RingWeaverModel", name := "isFar", desc := "(I)Z" } : Jvm.MethodName)) ∈ dcW := dcW_m 768 (by decide +kernel) (by decide +kernel)
theorem wm_717 : (Jvm.Cond.code ({ cls := "RingWeaverModel", name := "isFar", desc := "(I)Z" } : Jvm.MethodName) prog_9_method_5_code (1 : Nat) (Option.some Jvm.ClassFile.FieldType.boolean)) ∈ dcW := dcW_m 769 (by decide +kernel) (by decide +kernel)
theorem wm_718 : (Jvm.Cond.constant "RingWeaverModel" (70 : Nat) (-500000000 : Int32)) ∈ dcW := dcW_m 770 (by decide +kernel) (by decide +kernel)
theorem wm_719 : (Jvm.Cond.constant "RingWeaverModel" (71 : Nat) (500000000 : Int32)) ∈ dcW := dcW_m 771 (by decide +kernel) (by decide +kernel)
theorem wm_720 : (Jvm.Cond.methodLink "RingWeaverModel" (72 : Nat) ({ cls := "RingWeaverModel", name := "within", desc := "(III)Z" } : Jvm.MethodName)) ∈ dcW := dcW_m 772 (by decide +kernel) (by decide +kernel)
theorem wm_721 : (Jvm.Cond.static ({ cls := "RingWeaverModel", name := "within", desc := "(III)Z" } : Jvm.MethodName)) ∈ dcW := dcW_m 773 (by decide +kernel) (by decide +kernel)
theorem wm_722 : (Jvm.Cond.code ({ cls := "RingWeaverModel", name := "within", desc := "(III)Z" } : Jvm.MethodName) prog_9_method_4_code (3 : Nat) (Option.some Jvm.ClassFile.FieldType.boolean)) ∈ dcW := dcW_m 774 (by decide +kernel) (by decide +kernel)
theorem wm_723 : (Jvm.Cond.methodLink "RingWeaverModel" (121 : Nat) ({ cls := "RingWeaverModel", name := "fail", desc := "(I)I" } : Jvm.MethodName)) ∈ dcW := dcW_m 775 (by decide +kernel) (by decide +kernel)
theorem wm_725 : (Jvm.Cond.instanceMethod ({ cls := "RingWeaverModel", name := "fail", desc := "(I)I" } : Jvm.MethodName)) ∈ dcW := dcW_m 777 (by decide +kernel) (by decide +kernel)
theorem wm_726 : (Jvm.Cond.code ({ cls := "RingWeaverModel", name := "fail", desc := "(I)I" } : Jvm.MethodName) prog_9_method_3_code (2 : Nat) (Option.some Jvm.ClassFile.FieldType.int)) ∈ dcW := dcW_m 778 (by decide +kernel) (by decide +kernel)
theorem wm_727 : (Jvm.Cond.methodLink "RingWeaverModel" (125 : Nat) ({ cls := "RingWeaverModel", name := "find", desc := "(IIII)I" } : Jvm.MethodName)) ∈ dcW := dcW_m 779 (by decide +kernel) (by decide +kernel)
theorem wm_729 : (Jvm.Cond.instanceMethod ({ cls := "RingWeaverModel", name := "find", desc := "(IIII)I" } : Jvm.MethodName)) ∈ dcW := dcW_m 781 (by decide +kernel) (by decide +kernel)
theorem wm_730 : (Jvm.Cond.code ({ cls := "RingWeaverModel", name := "find", desc := "(IIII)I" } : Jvm.MethodName) prog_9_method_14_code (7 : Nat) (Option.some Jvm.ClassFile.FieldType.int)) ∈ dcW := dcW_m 782 (by decide +kernel) (by decide +kernel)
theorem wm_731 : (Jvm.Cond.methodLink "RingWeaverModel" (97 : Nat) ({ cls := "RingWeaverModel", name := "isEnd", desc := "(III)Z" } : Jvm.MethodName)) ∈ dcW := dcW_m 783 (by decide +kernel) (by decide +kernel)
theorem wm_733 : (Jvm.Cond.instanceMethod ({ cls := "RingWeaverModel", name := "isEnd", desc := "(III)Z" } : Jvm.MethodName)) ∈ dcW := dcW_m 785 (by decide +kernel) (by decide +kernel)
theorem wm_734 : (Jvm.Cond.code ({ cls := "RingWeaverModel", name := "isEnd", desc := "(III)Z" } : Jvm.MethodName) prog_9_method_11_code (4 : Nat) (Option.some Jvm.ClassFile.FieldType.boolean)) ∈ dcW := dcW_m 786 (by decide +kernel) (by decide +kernel)
theorem wm_735 : (Jvm.Cond.methodLink "RingWeaverModel" (129 : Nat) ({ cls := "RingWeaverModel", name := "isApart", desc := "(IIII)Z" } : Jvm.MethodName)) ∈ dcW := dcW_m 787 (by decide +kernel) (by decide +kernel)
theorem wm_737 : (Jvm.Cond.instanceMethod ({ cls := "RingWeaverModel", name := "isApart", desc := "(IIII)Z" } : Jvm.MethodName)) ∈ dcW := dcW_m 789 (by decide +kernel) (by decide +kernel)
theorem wm_738 : (Jvm.Cond.code ({ cls := "RingWeaverModel", name := "isApart", desc := "(IIII)Z" } : Jvm.MethodName) prog_9_method_15_code (8 : Nat) (Option.some Jvm.ClassFile.FieldType.boolean)) ∈ dcW := dcW_m 790 (by decide +kernel) (by decide +kernel)
theorem wm_739 : (Jvm.Cond.methodLink "RingWeaverModel" (113 : Nat) ({ cls := "RingWeaverModel", name := "keepsOff", desc := "(II)Z" } : Jvm.MethodName)) ∈ dcW := dcW_m 791 (by decide +kernel) (by decide +kernel)
theorem wm_741 : (Jvm.Cond.instanceMethod ({ cls := "RingWeaverModel", name := "keepsOff", desc := "(II)Z" } : Jvm.MethodName)) ∈ dcW := dcW_m 793 (by decide +kernel) (by decide +kernel)
theorem wm_742 : (Jvm.Cond.code ({ cls := "RingWeaverModel", name := "keepsOff", desc := "(II)Z" } : Jvm.MethodName) prog_9_method_13_code (7 : Nat) (Option.some Jvm.ClassFile.FieldType.boolean)) ∈ dcW := dcW_m 794 (by decide +kernel) (by decide +kernel)
theorem wm_743 : (Jvm.Cond.methodLink "RingWeaverModel" (107 : Nat) ({ cls := "RingWeaverModel", name := "isIn", desc := "(III)Z" } : Jvm.MethodName)) ∈ dcW := dcW_m 795 (by decide +kernel) (by decide +kernel)
theorem wm_745 : (Jvm.Cond.instanceMethod ({ cls := "RingWeaverModel", name := "isIn", desc := "(III)Z" } : Jvm.MethodName)) ∈ dcW := dcW_m 797 (by decide +kernel) (by decide +kernel)
theorem wm_746 : (Jvm.Cond.code ({ cls := "RingWeaverModel", name := "isIn", desc := "(III)Z" } : Jvm.MethodName) prog_9_method_12_code (4 : Nat) (Option.some Jvm.ClassFile.FieldType.boolean)) ∈ dcW := dcW_m 798 (by decide +kernel) (by decide +kernel)
theorem wm_747 : (Jvm.Cond.methodLink "RingWeaverModel" (100 : Nat) ({ cls := "RingWeaverModel", name := "side", desc := "(IIIIII)I" } : Jvm.MethodName)) ∈ dcW := dcW_m 799 (by decide +kernel) (by decide +kernel)
theorem wm_748 : (Jvm.Cond.static ({ cls := "RingWeaverModel", name := "side", desc := "(IIIIII)I" } : Jvm.MethodName)) ∈ dcW := dcW_m 800 (by decide +kernel) (by decide +kernel)
theorem wm_749 : (Jvm.Cond.code ({ cls := "RingWeaverModel", name := "side", desc := "(IIIIII)I" } : Jvm.MethodName) prog_9_method_9_code (6 : Nat) (Option.some Jvm.ClassFile.FieldType.int)) ∈ dcW := dcW_m 801 (by decide +kernel) (by decide +kernel)
theorem wm_750 : (Jvm.Cond.methodLink "RingWeaverModel" (89 : Nat) ({ cls := "RingWeaverModel", name := "cross", desc := "(JJJJ)J" } : Jvm.MethodName)) ∈ dcW := dcW_m 802 (by decide +kernel) (by decide +kernel)
theorem wm_751 : (Jvm.Cond.static ({ cls := "RingWeaverModel", name := "cross", desc := "(JJJJ)J" } : Jvm.MethodName)) ∈ dcW := dcW_m 803 (by decide +kernel) (by decide +kernel)
theorem wm_752 : (Jvm.Cond.code ({ cls := "RingWeaverModel", name := "cross", desc := "(JJJJ)J" } : Jvm.MethodName) prog_9_method_8_code (8 : Nat) (Option.some Jvm.ClassFile.FieldType.long)) ∈ dcW := dcW_m 804 (by decide +kernel) (by decide +kernel)
theorem wm_753 : (Jvm.Cond.methodLink "RingWeaverModel" (93 : Nat) ({ cls := "RingWeaverModel", name := "sign", desc := "(J)I" } : Jvm.MethodName)) ∈ dcW := dcW_m 805 (by decide +kernel) (by decide +kernel)
theorem wm_754 : (Jvm.Cond.static ({ cls := "RingWeaverModel", name := "sign", desc := "(J)I" } : Jvm.MethodName)) ∈ dcW := dcW_m 806 (by decide +kernel) (by decide +kernel)
theorem wm_755 : (Jvm.Cond.code ({ cls := "RingWeaverModel", name := "sign", desc := "(J)I" } : Jvm.MethodName) prog_9_method_7_code (2 : Nat) (Option.some Jvm.ClassFile.FieldType.int)) ∈ dcW := dcW_m 807 (by decide +kernel) (by decide +kernel)
theorem wm_756 : (Jvm.Cond.methodLink "RingWeaverModel" (104 : Nat) ({ cls := "RingWeaverModel", name := "between", desc := "(III)Z" } : Jvm.MethodName)) ∈ dcW := dcW_m 808 (by decide +kernel) (by decide +kernel)
theorem wm_757 : (Jvm.Cond.static ({ cls := "RingWeaverModel", name := "between", desc := "(III)Z" } : Jvm.MethodName)) ∈ dcW := dcW_m 809 (by decide +kernel) (by decide +kernel)
theorem wm_758 : (Jvm.Cond.code ({ cls := "RingWeaverModel", name := "between", desc := "(III)Z" } : Jvm.MethodName) prog_9_method_10_code (3 : Nat) (Option.some Jvm.ClassFile.FieldType.boolean)) ∈ dcW := dcW_m 810 (by decide +kernel) (by decide +kernel)
theorem wm_759 : (Jvm.Cond.methodLink "RingWeaverModel" (133 : Nat) ({ cls := "RingWeaverModel", name := "noResult", desc := "()V" } : Jvm.MethodName)) ∈ dcW := dcW_m 811 (by decide +kernel) (by decide +kernel)
theorem wm_761 : (Jvm.Cond.instanceMethod ({ cls := "RingWeaverModel", name := "noResult", desc := "()V" } : Jvm.MethodName)) ∈ dcW := dcW_m 813 (by decide +kernel) (by decide +kernel)
theorem wm_762 : (Jvm.Cond.code ({ cls := "RingWeaverModel", name := "noResult", desc := "()V" } : Jvm.MethodName) prog_9_method_6_code (1 : Nat) (Option.none : Option Jvm.ClassFile.FieldType)) ∈ dcW := dcW_m 814 (by decide +kernel) (by decide +kernel)
theorem wm_771 : (Jvm.Cond.methodLink "RingWeaverModel" (217 : Nat) ({ cls := "RingWeaverModel", name := "areClosed", desc := "()Z" } : Jvm.MethodName)) ∈ dcW := dcW_m 823 (by decide +kernel) (by decide +kernel)
theorem wm_773 : (Jvm.Cond.instanceMethod ({ cls := "RingWeaverModel", name := "areClosed", desc := "()Z" } : Jvm.MethodName)) ∈ dcW := dcW_m 825 (by decide +kernel) (by decide +kernel)
theorem wm_774 : (Jvm.Cond.code ({ cls := "RingWeaverModel", name := "areClosed", desc := "()Z" } : Jvm.MethodName) prog_9_method_22_code (3 : Nat) (Option.some Jvm.ClassFile.FieldType.boolean)) ∈ dcW := dcW_m 826 (by decide +kernel) (by decide +kernel)
theorem wm_775 : (Jvm.Cond.methodLink "RingWeaverModel" (144 : Nat) ({ cls := "RingWeaverModel", name := "isEven", desc := "(II)Z" } : Jvm.MethodName)) ∈ dcW := dcW_m 827 (by decide +kernel) (by decide +kernel)
theorem wm_777 : (Jvm.Cond.instanceMethod ({ cls := "RingWeaverModel", name := "isEven", desc := "(II)Z" } : Jvm.MethodName)) ∈ dcW := dcW_m 829 (by decide +kernel) (by decide +kernel)
theorem wm_778 : (Jvm.Cond.code ({ cls := "RingWeaverModel", name := "isEven", desc := "(II)Z" } : Jvm.MethodName) prog_9_method_21_code (5 : Nat) (Option.some Jvm.ClassFile.FieldType.boolean)) ∈ dcW := dcW_m 830 (by decide +kernel) (by decide +kernel)
theorem wm_779 : (Jvm.Cond.methodLink "RingWeaverModel" (221 : Nat) ({ cls := "RingWeaverModel", name := "findWays", desc := "(I)V" } : Jvm.MethodName)) ∈ dcW := dcW_m 831 (by decide +kernel) (by decide +kernel)
theorem wm_781 : (Jvm.Cond.instanceMethod ({ cls := "RingWeaverModel", name := "findWays", desc := "(I)V" } : Jvm.MethodName)) ∈ dcW := dcW_m 833 (by decide +kernel) (by decide +kernel)
theorem wm_782 : (Jvm.Cond.code ({ cls := "RingWeaverModel", name := "findWays", desc := "(I)V" } : Jvm.MethodName) prog_9_method_20_code (7 : Nat) (Option.none : Option Jvm.ClassFile.FieldType)) ∈ dcW := dcW_m 834 (by decide +kernel) (by decide +kernel)
theorem wm_783 : (Jvm.Cond.methodLink "RingWeaverModel" (138 : Nat) ({ cls := "RingWeaverModel", name := "right", desc := "(I)I" } : Jvm.MethodName)) ∈ dcW := dcW_m 835 (by decide +kernel) (by decide +kernel)
theorem wm_785 : (Jvm.Cond.instanceMethod ({ cls := "RingWeaverModel", name := "right", desc := "(I)I" } : Jvm.MethodName)) ∈ dcW := dcW_m 837 (by decide +kernel) (by decide +kernel)
theorem wm_786 : (Jvm.Cond.code ({ cls := "RingWeaverModel", name := "right", desc := "(I)I" } : Jvm.MethodName) prog_9_method_18_code (12 : Nat) (Option.some Jvm.ClassFile.FieldType.int)) ∈ dcW := dcW_m 838 (by decide +kernel) (by decide +kernel)
theorem wm_787 : (Jvm.Cond.constantLong "RingWeaverModel" (136 : Nat) (2 : Int64)) ∈ dcW := dcW_m 839 (by decide +kernel) (by decide +kernel)
theorem wm_788 : (Jvm.Cond.methodLink "RingWeaverModel" (141 : Nat) ({ cls := "RingWeaverModel", name := "isResult", desc := "(II)Z" } : Jvm.MethodName)) ∈ dcW := dcW_m 840 (by decide +kernel) (by decide +kernel)
theorem wm_789 : (Jvm.Cond.static ({ cls := "RingWeaverModel", name := "isResult", desc := "(II)Z" } : Jvm.MethodName)) ∈ dcW := dcW_m 841 (by decide +kernel) (by decide +kernel)
theorem wm_790 : (Jvm.Cond.code ({ cls := "RingWeaverModel", name := "isResult", desc := "(II)Z" } : Jvm.MethodName) prog_9_method_19_code (4 : Nat) (Option.some Jvm.ClassFile.FieldType.boolean)) ∈ dcW := dcW_m 842 (by decide +kernel) (by decide +kernel)
theorem wm_791 : (Jvm.Cond.methodLink "RingWeaverModel" (224 : Nat) ({ cls := "RingWeaverModel", name := "go", desc := "(I)V" } : Jvm.MethodName)) ∈ dcW := dcW_m 843 (by decide +kernel) (by decide +kernel)
theorem wm_793 : (Jvm.Cond.instanceMethod ({ cls := "RingWeaverModel", name := "go", desc := "(I)V" } : Jvm.MethodName)) ∈ dcW := dcW_m 845 (by decide +kernel) (by decide +kernel)
theorem wm_794 : (Jvm.Cond.code ({ cls := "RingWeaverModel", name := "go", desc := "(I)V" } : Jvm.MethodName) prog_9_method_32_code (5 : Nat) (Option.none : Option Jvm.ClassFile.FieldType)) ∈ dcW := dcW_m 846 (by decide +kernel) (by decide +kernel)
theorem wm_795 : (Jvm.Cond.methodLink "RingWeaverModel" (153 : Nat) ({ cls := "RingWeaverModel", name := "startX", desc := "(I)I" } : Jvm.MethodName)) ∈ dcW := dcW_m 847 (by decide +kernel) (by decide +kernel)
theorem wm_797 : (Jvm.Cond.instanceMethod ({ cls := "RingWeaverModel", name := "startX", desc := "(I)I" } : Jvm.MethodName)) ∈ dcW := dcW_m 849 (by decide +kernel) (by decide +kernel)
theorem wm_798 : (Jvm.Cond.code ({ cls := "RingWeaverModel", name := "startX", desc := "(I)I" } : Jvm.MethodName) prog_9_method_23_code (2 : Nat) (Option.some Jvm.ClassFile.FieldType.int)) ∈ dcW := dcW_m 850 (by decide +kernel) (by decide +kernel)
theorem wm_799 : (Jvm.Cond.methodLink "RingWeaverModel" (156 : Nat) ({ cls := "RingWeaverModel", name := "startY", desc := "(I)I" } : Jvm.MethodName)) ∈ dcW := dcW_m 851 (by decide +kernel) (by decide +kernel)
theorem wm_801 : (Jvm.Cond.instanceMethod ({ cls := "RingWeaverModel", name := "startY", desc := "(I)I" } : Jvm.MethodName)) ∈ dcW := dcW_m 853 (by decide +kernel) (by decide +kernel)
theorem wm_802 : (Jvm.Cond.code ({ cls := "RingWeaverModel", name := "startY", desc := "(I)I" } : Jvm.MethodName) prog_9_method_24_code (2 : Nat) (Option.some Jvm.ClassFile.FieldType.int)) ∈ dcW := dcW_m 854 (by decide +kernel) (by decide +kernel)
theorem wm_803 : (Jvm.Cond.methodLink "RingWeaverModel" (147 : Nat) ({ cls := "RingWeaverModel", name := "endX", desc := "(I)I" } : Jvm.MethodName)) ∈ dcW := dcW_m 855 (by decide +kernel) (by decide +kernel)
theorem wm_805 : (Jvm.Cond.instanceMethod ({ cls := "RingWeaverModel", name := "endX", desc := "(I)I" } : Jvm.MethodName)) ∈ dcW := dcW_m 857 (by decide +kernel) (by decide +kernel)
theorem wm_806 : (Jvm.Cond.code ({ cls := "RingWeaverModel", name := "endX", desc := "(I)I" } : Jvm.MethodName) prog_9_method_25_code (2 : Nat) (Option.some Jvm.ClassFile.FieldType.int)) ∈ dcW := dcW_m 858 (by decide +kernel) (by decide +kernel)
theorem wm_807 : (Jvm.Cond.methodLink "RingWeaverModel" (150 : Nat) ({ cls := "RingWeaverModel", name := "endY", desc := "(I)I" } : Jvm.MethodName)) ∈ dcW := dcW_m 859 (by decide +kernel) (by decide +kernel)
theorem wm_809 : (Jvm.Cond.instanceMethod ({ cls := "RingWeaverModel", name := "endY", desc := "(I)I" } : Jvm.MethodName)) ∈ dcW := dcW_m 861 (by decide +kernel) (by decide +kernel)
theorem wm_810 : (Jvm.Cond.code ({ cls := "RingWeaverModel", name := "endY", desc := "(I)I" } : Jvm.MethodName) prog_9_method_26_code (2 : Nat) (Option.some Jvm.ClassFile.FieldType.int)) ∈ dcW := dcW_m 862 (by decide +kernel) (by decide +kernel)
theorem wm_811 : (Jvm.Cond.methodLink "RingWeaverModel" (173 : Nat) ({ cls := "RingWeaverModel", name := "placeOf", desc := "(II)I" } : Jvm.MethodName)) ∈ dcW := dcW_m 863 (by decide +kernel) (by decide +kernel)
theorem wm_813 : (Jvm.Cond.instanceMethod ({ cls := "RingWeaverModel", name := "placeOf", desc := "(II)I" } : Jvm.MethodName)) ∈ dcW := dcW_m 865 (by decide +kernel) (by decide +kernel)
theorem wm_814 : (Jvm.Cond.code ({ cls := "RingWeaverModel", name := "placeOf", desc := "(II)I" } : Jvm.MethodName) prog_9_method_31_code (5 : Nat) (Option.some Jvm.ClassFile.FieldType.int)) ∈ dcW := dcW_m 866 (by decide +kernel) (by decide +kernel)
theorem wm_815 : (Jvm.Cond.methodLink "RingWeaverModel" (177 : Nat) ({ cls := "RingWeaverModel", name := "ring", desc := "(I)V" } : Jvm.MethodName)) ∈ dcW := dcW_m 867 (by decide +kernel) (by decide +kernel)
theorem wm_817 : (Jvm.Cond.instanceMethod ({ cls := "RingWeaverModel", name := "ring", desc := "(I)V" } : Jvm.MethodName)) ∈ dcW := dcW_m 869 (by decide +kernel) (by decide +kernel)
theorem wm_818 : (Jvm.Cond.code ({ cls := "RingWeaverModel", name := "ring", desc := "(I)V" } : Jvm.MethodName) prog_9_method_34_code (10 : Nat) (Option.none : Option Jvm.ClassFile.FieldType)) ∈ dcW := dcW_m 870 (by decide +kernel) (by decide +kernel)
theorem wm_819 : (Jvm.Cond.methodLink "RingWeaverModel" (190 : Nat) ({ cls := "RingWeaverModel", name := "isStraight", desc := "(III)Z" } : Jvm.MethodName)) ∈ dcW := dcW_m 871 (by decide +kernel) (by decide +kernel)
theorem wm_821 : (Jvm.Cond.instanceMethod ({ cls := "RingWeaverModel", name := "isStraight", desc := "(III)Z" } : Jvm.MethodName)) ∈ dcW := dcW_m 873 (by decide +kernel) (by decide +kernel)
theorem wm_822 : (Jvm.Cond.code ({ cls := "RingWeaverModel", name := "isStraight", desc := "(III)Z" } : Jvm.MethodName) prog_9_method_33_code (6 : Nat) (Option.some Jvm.ClassFile.FieldType.boolean)) ∈ dcW := dcW_m 874 (by decide +kernel) (by decide +kernel)
theorem wm_823 : (Jvm.Cond.methodLink "RingWeaverModel" (181 : Nat) ({ cls := "RingWeaverModel", name := "next", desc := "(I)I" } : Jvm.MethodName)) ∈ dcW := dcW_m 875 (by decide +kernel) (by decide +kernel)
theorem wm_825 : (Jvm.Cond.instanceMethod ({ cls := "RingWeaverModel", name := "next", desc := "(I)I" } : Jvm.MethodName)) ∈ dcW := dcW_m 877 (by decide +kernel) (by decide +kernel)
theorem wm_826 : (Jvm.Cond.code ({ cls := "RingWeaverModel", name := "next", desc := "(I)I" } : Jvm.MethodName) prog_9_method_28_code (7 : Nat) (Option.some Jvm.ClassFile.FieldType.int)) ∈ dcW := dcW_m 878 (by decide +kernel) (by decide +kernel)
theorem wm_827 : (Jvm.Cond.methodLink "RingWeaverModel" (159 : Nat) ({ cls := "RingWeaverModel", name := "farX", desc := "(III)I" } : Jvm.MethodName)) ∈ dcW := dcW_m 879 (by decide +kernel) (by decide +kernel)
theorem wm_829 : (Jvm.Cond.instanceMethod ({ cls := "RingWeaverModel", name := "farX", desc := "(III)I" } : Jvm.MethodName)) ∈ dcW := dcW_m 881 (by decide +kernel) (by decide +kernel)
theorem wm_830 : (Jvm.Cond.code ({ cls := "RingWeaverModel", name := "farX", desc := "(III)I" } : Jvm.MethodName) prog_9_method_29_code (4 : Nat) (Option.some Jvm.ClassFile.FieldType.int)) ∈ dcW := dcW_m 882 (by decide +kernel) (by decide +kernel)
theorem wm_831 : (Jvm.Cond.methodLink "RingWeaverModel" (163 : Nat) ({ cls := "RingWeaverModel", name := "farY", desc := "(III)I" } : Jvm.MethodName)) ∈ dcW := dcW_m 883 (by decide +kernel) (by decide +kernel)
theorem wm_833 : (Jvm.Cond.instanceMethod ({ cls := "RingWeaverModel", name := "farY", desc := "(III)I" } : Jvm.MethodName)) ∈ dcW := dcW_m 885 (by decide +kernel) (by decide +kernel)
theorem wm_834 : (Jvm.Cond.code ({ cls := "RingWeaverModel", name := "farY", desc := "(III)I" } : Jvm.MethodName) prog_9_method_30_code (4 : Nat) (Option.some Jvm.ClassFile.FieldType.int)) ∈ dcW := dcW_m 886 (by decide +kernel) (by decide +kernel)
theorem wm_835 : (Jvm.Cond.methodLink "RingWeaverModel" (166 : Nat) ({ cls := "RingWeaverModel", name := "isSooner", desc := "(JJJJJJ)Z" } : Jvm.MethodName)) ∈ dcW := dcW_m 887 (by decide +kernel) (by decide +kernel)
theorem wm_836 : (Jvm.Cond.static ({ cls := "RingWeaverModel", name := "isSooner", desc := "(JJJJJJ)Z" } : Jvm.MethodName)) ∈ dcW := dcW_m 888 (by decide +kernel) (by decide +kernel)
theorem wm_837 : (Jvm.Cond.code ({ cls := "RingWeaverModel", name := "isSooner", desc := "(JJJJJJ)Z" } : Jvm.MethodName) prog_9_method_27_code (14 : Nat) (Option.some Jvm.ClassFile.FieldType.boolean)) ∈ dcW := dcW_m 889 (by decide +kernel) (by decide +kernel)
theorem wm_838 : (Jvm.Cond.methodLink "RingWeaverModel" (227 : Nat) ({ cls := "RingWeaverModel", name := "isTooMuch", desc := "()Z" } : Jvm.MethodName)) ∈ dcW := dcW_m 890 (by decide +kernel) (by decide +kernel)
theorem wm_840 : (Jvm.Cond.instanceMethod ({ cls := "RingWeaverModel", name := "isTooMuch", desc := "()Z" } : Jvm.MethodName)) ∈ dcW := dcW_m 892 (by decide +kernel) (by decide +kernel)
theorem wm_841 : (Jvm.Cond.code ({ cls := "RingWeaverModel", name := "isTooMuch", desc := "()Z" } : Jvm.MethodName) prog_9_method_45_code (4 : Nat) (Option.some Jvm.ClassFile.FieldType.boolean)) ∈ dcW := dcW_m 893 (by decide +kernel) (by decide +kernel)
theorem wm_842 : (Jvm.Cond.methodLink "RingWeaverModel" (230 : Nat) ({ cls := "RingWeaverModel", name := "findOwners", desc := "()V" } : Jvm.MethodName)) ∈ dcW := dcW_m 894 (by decide +kernel) (by decide +kernel)
theorem wm_844 : (Jvm.Cond.instanceMethod ({ cls := "RingWeaverModel", name := "findOwners", desc := "()V" } : Jvm.MethodName)) ∈ dcW := dcW_m 896 (by decide +kernel) (by decide +kernel)
theorem wm_845 : (Jvm.Cond.code ({ cls := "RingWeaverModel", name := "findOwners", desc := "()V" } : Jvm.MethodName) prog_9_method_38_code (4 : Nat) (Option.none : Option Jvm.ClassFile.FieldType)) ∈ dcW := dcW_m 897 (by decide +kernel) (by decide +kernel)
theorem wm_846 : (Jvm.Cond.methodLink "RingWeaverModel" (199 : Nat) ({ cls := "RingWeaverModel", name := "liesIn", desc := "(II)Z" } : Jvm.MethodName)) ∈ dcW := dcW_m 898 (by decide +kernel) (by decide +kernel)
theorem wm_848 : (Jvm.Cond.instanceMethod ({ cls := "RingWeaverModel", name := "liesIn", desc := "(II)Z" } : Jvm.MethodName)) ∈ dcW := dcW_m 900 (by decide +kernel) (by decide +kernel)
theorem wm_849 : (Jvm.Cond.code ({ cls := "RingWeaverModel", name := "liesIn", desc := "(II)Z" } : Jvm.MethodName) prog_9_method_37_code (4 : Nat) (Option.some Jvm.ClassFile.FieldType.boolean)) ∈ dcW := dcW_m 901 (by decide +kernel) (by decide +kernel)
theorem wm_850 : (Jvm.Cond.methodLink "RingWeaverModel" (193 : Nat) ({ cls := "RingWeaverModel", name := "isOn", desc := "(III)Z" } : Jvm.MethodName)) ∈ dcW := dcW_m 902 (by decide +kernel) (by decide +kernel)
theorem wm_852 : (Jvm.Cond.instanceMethod ({ cls := "RingWeaverModel", name := "isOn", desc := "(III)Z" } : Jvm.MethodName)) ∈ dcW := dcW_m 904 (by decide +kernel) (by decide +kernel)
theorem wm_853 : (Jvm.Cond.code ({ cls := "RingWeaverModel", name := "isOn", desc := "(III)Z" } : Jvm.MethodName) prog_9_method_35_code (8 : Nat) (Option.some Jvm.ClassFile.FieldType.boolean)) ∈ dcW := dcW_m 905 (by decide +kernel) (by decide +kernel)
theorem wm_854 : (Jvm.Cond.methodLink "RingWeaverModel" (196 : Nat) ({ cls := "RingWeaverModel", name := "isInside", desc := "(III)Z" } : Jvm.MethodName)) ∈ dcW := dcW_m 906 (by decide +kernel) (by decide +kernel)
theorem wm_856 : (Jvm.Cond.instanceMethod ({ cls := "RingWeaverModel", name := "isInside", desc := "(III)Z" } : Jvm.MethodName)) ∈ dcW := dcW_m 908 (by decide +kernel) (by decide +kernel)
theorem wm_857 : (Jvm.Cond.code ({ cls := "RingWeaverModel", name := "isInside", desc := "(III)Z" } : Jvm.MethodName) prog_9_method_36_code (9 : Nat) (Option.some Jvm.ClassFile.FieldType.boolean)) ∈ dcW := dcW_m 909 (by decide +kernel) (by decide +kernel)
theorem wm_858 : (Jvm.Cond.methodLink "RingWeaverModel" (233 : Nat) ({ cls := "RingWeaverModel", name := "tellAll", desc := "()V" } : Jvm.MethodName)) ∈ dcW := dcW_m 910 (by decide +kernel) (by decide +kernel)
theorem wm_860 : (Jvm.Cond.instanceMethod ({ cls := "RingWeaverModel", name := "tellAll", desc := "()V" } : Jvm.MethodName)) ∈ dcW := dcW_m 912 (by decide +kernel) (by decide +kernel)
theorem wm_861 : (Jvm.Cond.code ({ cls := "RingWeaverModel", name := "tellAll", desc := "()V" } : Jvm.MethodName) prog_9_method_44_code (4 : Nat) (Option.none : Option Jvm.ClassFile.FieldType)) ∈ dcW := dcW_m 913 (by decide +kernel) (by decide +kernel)
theorem wm_862 : (Jvm.Cond.methodLink "RingWeaverModel" (211 : Nat) ({ cls := "RingWeaverModel", name := "behind", desc := "(II)I" } : Jvm.MethodName)) ∈ dcW := dcW_m 914 (by decide +kernel) (by decide +kernel)
theorem wm_864 : (Jvm.Cond.instanceMethod ({ cls := "RingWeaverModel", name := "behind", desc := "(II)I" } : Jvm.MethodName)) ∈ dcW := dcW_m 916 (by decide +kernel) (by decide +kernel)
theorem wm_865 : (Jvm.Cond.code ({ cls := "RingWeaverModel", name := "behind", desc := "(II)I" } : Jvm.MethodName) prog_9_method_42_code (6 : Nat) (Option.some Jvm.ClassFile.FieldType.int)) ∈ dcW := dcW_m 917 (by decide +kernel) (by decide +kernel)
theorem wm_866 : (Jvm.Cond.methodLink "RingWeaverModel" (208 : Nat) ({ cls := "RingWeaverModel", name := "isBefore", desc := "(II)Z" } : Jvm.MethodName)) ∈ dcW := dcW_m 918 (by decide +kernel) (by decide +kernel)
theorem wm_868 : (Jvm.Cond.instanceMethod ({ cls := "RingWeaverModel", name := "isBefore", desc := "(II)Z" } : Jvm.MethodName)) ∈ dcW := dcW_m 920 (by decide +kernel) (by decide +kernel)
theorem wm_869 : (Jvm.Cond.code ({ cls := "RingWeaverModel", name := "isBefore", desc := "(II)Z" } : Jvm.MethodName) prog_9_method_41_code (5 : Nat) (Option.some Jvm.ClassFile.FieldType.boolean)) ∈ dcW := dcW_m 921 (by decide +kernel) (by decide +kernel)
theorem wm_870 : (Jvm.Cond.methodLink "RingWeaverModel" (202 : Nat) ({ cls := "RingWeaverModel", name := "same", desc := "(II)Z" } : Jvm.MethodName)) ∈ dcW := dcW_m 922 (by decide +kernel) (by decide +kernel)
theorem wm_872 : (Jvm.Cond.instanceMethod ({ cls := "RingWeaverModel", name := "same", desc := "(II)Z" } : Jvm.MethodName)) ∈ dcW := dcW_m 924 (by decide +kernel) (by decide +kernel)
theorem wm_873 : (Jvm.Cond.code ({ cls := "RingWeaverModel", name := "same", desc := "(II)Z" } : Jvm.MethodName) prog_9_method_40_code (3 : Nat) (Option.some Jvm.ClassFile.FieldType.boolean)) ∈ dcW := dcW_m 925 (by decide +kernel) (by decide +kernel)
theorem wm_874 : (Jvm.Cond.methodLink "RingWeaverModel" (205 : Nat) ({ cls := "RingWeaverModel", name := "isLess", desc := "(II)Z" } : Jvm.MethodName)) ∈ dcW := dcW_m 926 (by decide +kernel) (by decide +kernel)
theorem wm_876 : (Jvm.Cond.instanceMethod ({ cls := "RingWeaverModel", name := "isLess", desc := "(II)Z" } : Jvm.MethodName)) ∈ dcW := dcW_m 928 (by decide +kernel) (by decide +kernel)
theorem wm_877 : (Jvm.Cond.code ({ cls := "RingWeaverModel", name := "isLess", desc := "(II)Z" } : Jvm.MethodName) prog_9_method_39_code (3 : Nat) (Option.some Jvm.ClassFile.FieldType.boolean)) ∈ dcW := dcW_m 929 (by decide +kernel) (by decide +kernel)
theorem wm_878 : (Jvm.Cond.methodLink "RingWeaverModel" (214 : Nat) ({ cls := "RingWeaverModel", name := "tell", desc := "(I)V" } : Jvm.MethodName)) ∈ dcW := dcW_m 930 (by decide +kernel) (by decide +kernel)
theorem wm_880 : (Jvm.Cond.instanceMethod ({ cls := "RingWeaverModel", name := "tell", desc := "(I)V" } : Jvm.MethodName)) ∈ dcW := dcW_m 932 (by decide +kernel) (by decide +kernel)
theorem wm_881 : (Jvm.Cond.code ({ cls := "RingWeaverModel", name := "tell", desc := "(I)V" } : Jvm.MethodName) prog_9_method_43_code (3 : Nat) (Option.none : Option Jvm.ClassFile.FieldType)) ∈ dcW := dcW_m 933 (by decide +kernel) (by decide +kernel)
set_option maxRecDepth 100000 in
theorem nk_Row : ∀ a, a < 2 → ∀ b, b < 2 → a ≠ b → (F_Row a).2.1 ≠ (F_Row b).2.1 := by decide +kernel
set_option maxRecDepth 100000 in
theorem tk_Row : ∀ k, k < 2 → parseFieldDescriptor (F_Row k).2.2.1 = some (t_Row k) := by decide +kernel
set_option maxRecDepth 100000 in
theorem i_Row : ∀ w ∈ u_ws R_Row F_Row 2, w ∈ dcW := List.forall_mem_cons.mpr ⟨wm_47, List.forall_mem_cons.mpr ⟨wm_49, fun _ h => nomatch h⟩⟩
set_option maxRecDepth 100000 in
theorem nk_Net : ∀ a, a < 6 → ∀ b, b < 6 → a ≠ b → (F_Net a).2.1 ≠ (F_Net b).2.1 := by decide +kernel
set_option maxRecDepth 100000 in
theorem tk_Net : ∀ k, k < 6 → parseFieldDescriptor (F_Net k).2.2.1 = some (t_Net k) := by decide +kernel
set_option maxRecDepth 100000 in
theorem i_Net : ∀ w ∈ u_ws R_Net F_Net 6, w ∈ dcW := List.forall_mem_cons.mpr ⟨wm_64, List.forall_mem_cons.mpr ⟨wm_66, List.forall_mem_cons.mpr ⟨wm_68, List.forall_mem_cons.mpr ⟨wm_70, List.forall_mem_cons.mpr ⟨wm_72, List.forall_mem_cons.mpr ⟨wm_74, fun _ h => nomatch h⟩⟩⟩⟩⟩⟩
set_option maxRecDepth 100000 in
theorem nk_Bnd : ∀ a, a < 5 → ∀ b, b < 5 → a ≠ b → (F_Bnd a).2.1 ≠ (F_Bnd b).2.1 := by decide +kernel
set_option maxRecDepth 100000 in
theorem tk_Bnd : ∀ k, k < 5 → parseFieldDescriptor (F_Bnd k).2.2.1 = some (t_Bnd k) := by decide +kernel
set_option maxRecDepth 100000 in
theorem i_Bnd : ∀ w ∈ u_ws R_Bnd F_Bnd 5, w ∈ dcW := List.forall_mem_cons.mpr ⟨wm_93, List.forall_mem_cons.mpr ⟨wm_95, List.forall_mem_cons.mpr ⟨wm_97, List.forall_mem_cons.mpr ⟨wm_99, List.forall_mem_cons.mpr ⟨wm_101, fun _ h => nomatch h⟩⟩⟩⟩⟩
set_option maxRecDepth 100000 in
theorem nk_Rgs : ∀ a, a < 9 → ∀ b, b < 9 → a ≠ b → (F_Rgs a).2.1 ≠ (F_Rgs b).2.1 := by decide +kernel
set_option maxRecDepth 100000 in
theorem tk_Rgs : ∀ k, k < 9 → parseFieldDescriptor (F_Rgs k).2.2.1 = some (t_Rgs k) := by decide +kernel
set_option maxRecDepth 100000 in
theorem i_Rgs : ∀ w ∈ u_ws R_Rgs F_Rgs 9, w ∈ dcW := List.forall_mem_cons.mpr ⟨wm_126, List.forall_mem_cons.mpr ⟨wm_128, List.forall_mem_cons.mpr ⟨wm_130, List.forall_mem_cons.mpr ⟨wm_132, List.forall_mem_cons.mpr ⟨wm_134, List.forall_mem_cons.mpr ⟨wm_136, List.forall_mem_cons.mpr ⟨wm_138, List.forall_mem_cons.mpr ⟨wm_140, List.forall_mem_cons.mpr ⟨wm_142, fun _ h => nomatch h⟩⟩⟩⟩⟩⟩⟩⟩⟩
set_option maxRecDepth 100000 in
theorem nk_Mul : ∀ a, a < 5 → ∀ b, b < 5 → a ≠ b → (F_Mul a).2.1 ≠ (F_Mul b).2.1 := by decide +kernel
set_option maxRecDepth 100000 in
theorem tk_Mul : ∀ k, k < 5 → parseFieldDescriptor (F_Mul k).2.2.1 = some (t_Mul k) := by decide +kernel
set_option maxRecDepth 100000 in
theorem i_Mul : ∀ w ∈ u_ws R_Mul F_Mul 5, w ∈ dcW := List.forall_mem_cons.mpr ⟨wm_163, List.forall_mem_cons.mpr ⟨wm_165, List.forall_mem_cons.mpr ⟨wm_167, List.forall_mem_cons.mpr ⟨wm_169, List.forall_mem_cons.mpr ⟨wm_171, fun _ h => nomatch h⟩⟩⟩⟩⟩
set_option maxRecDepth 100000 in
theorem nk_Wea : ∀ a, a < 4 → ∀ b, b < 4 → a ≠ b → (F_Wea a).2.1 ≠ (F_Wea b).2.1 := by decide +kernel
set_option maxRecDepth 100000 in
theorem tk_Wea : ∀ k, k < 4 → parseFieldDescriptor (F_Wea k).2.2.1 = some (t_Wea k) := by decide +kernel
set_option maxRecDepth 100000 in
theorem i_Wea : ∀ w ∈ u_ws R_Wea F_Wea 4, w ∈ dcW := List.forall_mem_cons.mpr ⟨wm_178, List.forall_mem_cons.mpr ⟨wm_180, List.forall_mem_cons.mpr ⟨wm_182, List.forall_mem_cons.mpr ⟨wm_184, fun _ h => nomatch h⟩⟩⟩⟩
set_option maxRecDepth 100000 in
theorem nk_Mod : ∀ a, a < 27 → ∀ b, b < 27 → a ≠ b → (F_Mod a).2.1 ≠ (F_Mod b).2.1 := by decide +kernel
set_option maxRecDepth 100000 in
theorem tk_Mod : ∀ k, k < 27 → parseFieldDescriptor (F_Mod k).2.2.1 = some (t_Mod k) := by decide +kernel
set_option maxRecDepth 100000 in
theorem i_Mod : ∀ w ∈ u_ws R_Mod F_Mod 27, w ∈ dcW := List.forall_mem_cons.mpr ⟨wm_650, List.forall_mem_cons.mpr ⟨wm_652, List.forall_mem_cons.mpr ⟨wm_654, List.forall_mem_cons.mpr ⟨wm_656, List.forall_mem_cons.mpr ⟨wm_658, List.forall_mem_cons.mpr ⟨wm_660, List.forall_mem_cons.mpr ⟨wm_662, List.forall_mem_cons.mpr ⟨wm_664, List.forall_mem_cons.mpr ⟨wm_666, List.forall_mem_cons.mpr ⟨wm_668, List.forall_mem_cons.mpr ⟨wm_670, List.forall_mem_cons.mpr ⟨wm_672, List.forall_mem_cons.mpr ⟨wm_674, List.forall_mem_cons.mpr ⟨wm_676, List.forall_mem_cons.mpr ⟨wm_678, List.forall_mem_cons.mpr ⟨wm_680, List.forall_mem_cons.mpr ⟨wm_682, List.forall_mem_cons.mpr ⟨wm_684, List.forall_mem_cons.mpr ⟨wm_686, List.forall_mem_cons.mpr ⟨wm_688, List.forall_mem_cons.mpr ⟨wm_690, List.forall_mem_cons.mpr ⟨wm_692, List.forall_mem_cons.mpr ⟨wm_694, List.forall_mem_cons.mpr ⟨wm_696, List.forall_mem_cons.mpr ⟨wm_698, List.forall_mem_cons.mpr ⟨wm_700, List.forall_mem_cons.mpr ⟨wm_702, fun _ h => nomatch h⟩⟩⟩⟩⟩⟩⟩⟩⟩⟩⟩⟩⟩⟩⟩⟩⟩⟩⟩⟩⟩⟩⟩⟩⟩⟩⟩
def y_Bnd_ways : MethodName := ⟨R_Bnd, "ways", "()I"⟩
def w_Bnd_ways : List Cond := .code y_Bnd_ways prog_2_method_2_code 1 (some .int) :: dcW
def y_Row_empty : MethodName := ⟨R_Row, "empty", "()V"⟩
def w_Row_empty : List Cond := .code y_Row_empty prog_7_method_2_code 1 none :: dcW
def y_Net_places : MethodName := ⟨R_Net, "places", "()I"⟩
def w_Net_places : List Cond := .code y_Net_places prog_4_method_3_code 1 (some .int) :: dcW
def y_Net_pieces : MethodName := ⟨R_Net, "pieces", "()I"⟩
def w_Net_pieces : List Cond := .code y_Net_pieces prog_4_method_2_code 1 (some .int) :: dcW
def y_Row_get : MethodName := ⟨R_Row, "get", "(I)I"⟩
def w_Row_get : List Cond := .code y_Row_get prog_7_method_5_code 2 (some .int) :: dcW
def y_Long_compare : MethodName := ⟨R_Long, "compare", "(JJ)I"⟩
def w_Long_compare : List Cond := .code y_Long_compare prog_15_method_42_code 4 (some .int) :: dcW
def y_Pla_turn : MethodName := ⟨R_Pla, "turn", "(IIII)I"⟩
def w_Pla_turn : List Cond := .code y_Pla_turn prog_5_method_8_code 4 (some .int) :: dcW
def y_Pla_isSooner : MethodName := ⟨R_Pla, "isSooner", "(IIIIII)Z"⟩
def w_Pla_isSooner : List Cond := .code y_Pla_isSooner prog_5_method_7_code 8 (some .boolean) :: dcW
def y_Net_isSooner : MethodName := ⟨R_Net, "isSooner", "(IIII)Z"⟩
def w_Net_isSooner : List Cond := .code y_Net_isSooner prog_4_method_17_code 7 (some .boolean) :: dcW
def y_Bnd_wayBehind : MethodName := ⟨R_Bnd, "wayBehind", "(LRingWeaver$Net;I)I"⟩
def w_Bnd_wayBehind : List Cond := .code y_Bnd_wayBehind prog_2_method_6_code 8 (some .int) :: dcW
def y_Pla_isCrossedFrom : MethodName := ⟨R_Pla, "isCrossedFrom", "(JJIIII)Z"⟩
def w_Pla_isCrossedFrom : List Cond := .code y_Pla_isCrossedFrom prog_5_method_6_code 14 (some .boolean) :: dcW
def y_Net_isCrossedFrom : MethodName := ⟨R_Net, "isCrossedFrom", "(JJI)Z"⟩
def w_Net_isCrossedFrom : List Cond := .code y_Net_isCrossedFrom prog_4_method_14_code 8 (some .boolean) :: dcW
def y_Net_insideLeftOf : MethodName := ⟨R_Net, "insideLeftOf", "(I)I"⟩
def w_Net_insideLeftOf : List Cond := .code y_Net_insideLeftOf prog_4_method_13_code 10 (some .int) :: dcW
def y_Bnd_isInResult : MethodName := ⟨R_Bnd, "isInResult", "(II)Z"⟩
def w_Bnd_isInResult : List Cond := .code y_Bnd_isInResult prog_2_method_7_code 2 (some .boolean) :: dcW
def y_Row_set : MethodName := ⟨R_Row, "set", "(II)V"⟩
def w_Row_set : List Cond := .code y_Row_set prog_7_method_6_code 3 none :: dcW
def y_Bnd_addWay : MethodName := ⟨R_Bnd, "addWay", "(II)V"⟩
def w_Bnd_addWay : List Cond := .code y_Bnd_addWay prog_2_method_5_code 3 none :: dcW
def y_Bnd_addIfBoundary : MethodName := ⟨R_Bnd, "addIfBoundary", "(LRingWeaver$Net;II)V"⟩
def w_Bnd_addIfBoundary : List Cond := .code y_Bnd_addIfBoundary prog_2_method_4_code 8 none :: dcW
def y_Bnd_trace : MethodName := ⟨R_Bnd, "trace", "(LRingWeaver$Net;I)V"⟩
def w_Bnd_trace : List Cond := .code y_Bnd_trace prog_2_method_3_code 4 none :: dcW
def y_Mul_forget : MethodName := ⟨R_Mul, "forget", "()V"⟩
def w_Mul_forget : List Cond := .code y_Mul_forget prog_3_method_2_code 1 none :: dcW
def y_Rgs_startOf : MethodName := ⟨R_Rgs, "startOf", "(I)I"⟩
def w_Rgs_startOf : List Cond := .code y_Rgs_startOf prog_6_method_4_code 2 (some .int) :: dcW
def y_Rgs_endOf : MethodName := ⟨R_Rgs, "endOf", "(I)I"⟩
def w_Rgs_endOf : List Cond := .code y_Rgs_endOf prog_6_method_5_code 2 (some .int) :: dcW
def y_Rgs_twiceAreaOf : MethodName := ⟨R_Rgs, "twiceAreaOf", "(I)J"⟩
def w_Rgs_twiceAreaOf : List Cond := .code y_Rgs_twiceAreaOf prog_6_method_11_code 7 (some .long) :: dcW
def y_Mul_tellRing : MethodName := ⟨R_Mul, "tellRing", "(LRingWeaver$Rings;I)V"⟩
def w_Mul_tellRing : List Cond := .code y_Mul_tellRing prog_3_method_5_code 6 none :: dcW
def y_Mul_tellPolygon : MethodName := ⟨R_Mul, "tellPolygon", "(LRingWeaver$Rings;I)V"⟩
def w_Mul_tellPolygon : List Cond := .code y_Mul_tellPolygon prog_3_method_4_code 6 none :: dcW
def y_Mul_tell : MethodName := ⟨R_Mul, "tell", "(LRingWeaver$Rings;)V"⟩
def w_Mul_tell : List Cond := .code y_Mul_tell prog_3_method_3_code 4 none :: dcW
def y_Net_forget : MethodName := ⟨R_Net, "forget", "()V"⟩
def w_Net_forget : List Cond := .code y_Net_forget prog_4_method_4_code 1 none :: dcW
def y_Net_placeAt : MethodName := ⟨R_Net, "placeAt", "(II)I"⟩
def w_Net_placeAt : List Cond := .code y_Net_placeAt prog_4_method_5_code 4 (some .int) :: dcW
def y_Net_pieceBetween : MethodName := ⟨R_Net, "pieceBetween", "(IIII)I"⟩
def w_Net_pieceBetween : List Cond := .code y_Net_pieceBetween prog_4_method_6_code 10 (some .int) :: dcW
def y_Net_knownPlace : MethodName := ⟨R_Net, "knownPlace", "(II)I"⟩
def w_Net_knownPlace : List Cond := .code y_Net_knownPlace prog_4_method_8_code 4 (some .int) :: dcW
def y_Pla_isLess : MethodName := ⟨R_Pla, "isLess", "(IIII)Z"⟩
def w_Pla_isLess : List Cond := .code y_Pla_isLess prog_5_method_2_code 4 (some .boolean) :: dcW
def y_Net_addPiece : MethodName := ⟨R_Net, "addPiece", "(IIII)I"⟩
def w_Net_addPiece : List Cond := .code y_Net_addPiece prog_4_method_7_code 8 (some .int) :: dcW
def y_Net_turnMarks : MethodName := ⟨R_Net, "turnMarks", "(II)V"⟩
def w_Net_turnMarks : List Cond := .code y_Net_turnMarks prog_4_method_9_code 3 none :: dcW
def y_Net_isClosed : MethodName := ⟨R_Net, "isClosed", "()Z"⟩
def w_Net_isClosed : List Cond := .code y_Net_isClosed prog_4_method_10_code 2 (some .boolean) :: dcW
def y_Pla_side : MethodName := ⟨R_Pla, "side", "(IIIIII)I"⟩
def w_Pla_side : List Cond := .code y_Pla_side prog_5_method_3_code 10 (some .int) :: dcW
def y_Pla_isBetween : MethodName := ⟨R_Pla, "isBetween", "(IIIIII)Z"⟩
def w_Pla_isBetween : List Cond := .code y_Pla_isBetween prog_5_method_4_code 6 (some .boolean) :: dcW
def y_Net_clashes : MethodName := ⟨R_Net, "clashes", "(IIIII)Z"⟩
def w_Net_clashes : List Cond := .code y_Net_clashes prog_4_method_12_code 14 (some .boolean) :: dcW
def y_Net_isInTheWayOf : MethodName := ⟨R_Net, "isInTheWayOf", "(IIII)Z"⟩
def w_Net_isInTheWayOf : List Cond := .code y_Net_isInTheWayOf prog_4_method_11_code 6 (some .boolean) :: dcW
def y_Net_isPlaceLess : MethodName := ⟨R_Net, "isPlaceLess", "(II)Z"⟩
def w_Net_isPlaceLess : List Cond := .code y_Net_isPlaceLess prog_4_method_15_code 3 (some .boolean) :: dcW
def y_Net_isStraight : MethodName := ⟨R_Net, "isStraight", "(III)Z"⟩
def w_Net_isStraight : List Cond := .code y_Net_isStraight prog_4_method_16_code 4 (some .boolean) :: dcW
def y_Pla_isOn : MethodName := ⟨R_Pla, "isOn", "(IIIIII)Z"⟩
def w_Pla_isOn : List Cond := .code y_Pla_isOn prog_5_method_5_code 6 (some .boolean) :: dcW
def y_Rgs_toldCorners : MethodName := ⟨R_Rgs, "toldCorners", "()I"⟩
def w_Rgs_toldCorners : List Cond := .code y_Rgs_toldCorners prog_6_method_2_code 1 (some .int) :: dcW
def y_Rgs_toldNumbers : MethodName := ⟨R_Rgs, "toldNumbers", "()I"⟩
def w_Rgs_toldNumbers : List Cond := .code y_Rgs_toldNumbers prog_6_method_3_code 1 (some .int) :: dcW
def y_Rgs_prepare : MethodName := ⟨R_Rgs, "prepare", "(LRingWeaver$Net;LRingWeaver$Boundary;)V"⟩
def w_Rgs_prepare : List Cond := .code y_Rgs_prepare prog_6_method_7_code 4 none :: dcW
def y_Rgs_comesBefore : MethodName := ⟨R_Rgs, "comesBefore", "(II)Z"⟩
def w_Rgs_comesBefore : List Cond := .code y_Rgs_comesBefore prog_6_method_13_code 5 (some .boolean) :: dcW
def y_Rgs_putInOrder : MethodName := ⟨R_Rgs, "putInOrder", "(I)V"⟩
def w_Rgs_putInOrder : List Cond := .code y_Rgs_putInOrder prog_6_method_12_code 3 none :: dcW
def y_Rgs_isOnRing : MethodName := ⟨R_Rgs, "isOnRing", "(III)Z"⟩
def w_Rgs_isOnRing : List Cond := .code y_Rgs_isOnRing prog_6_method_16_code 6 (some .boolean) :: dcW
def y_Rgs_isInRing : MethodName := ⟨R_Rgs, "isInRing", "(III)Z"⟩
def w_Rgs_isInRing : List Cond := .code y_Rgs_isInRing prog_6_method_17_code 7 (some .boolean) :: dcW
def y_Rgs_liesIn : MethodName := ⟨R_Rgs, "liesIn", "(II)Z"⟩
def w_Rgs_liesIn : List Cond := .code y_Rgs_liesIn prog_6_method_15_code 4 (some .boolean) :: dcW
def y_Rgs_ownerOf : MethodName := ⟨R_Rgs, "ownerOf", "(I)I"⟩
def w_Rgs_ownerOf : List Cond := .code y_Rgs_ownerOf prog_6_method_14_code 11 (some .int) :: dcW
def y_Rgs_addCorners : MethodName := ⟨R_Rgs, "addCorners", "(LRingWeaver$Net;III)V"⟩
def w_Rgs_addCorners : List Cond := .code y_Rgs_addCorners prog_6_method_10_code 10 none :: dcW
def y_Row_shorten : MethodName := ⟨R_Row, "shorten", "(I)V"⟩
def w_Row_shorten : List Cond := .code y_Row_shorten prog_7_method_3_code 2 none :: dcW
def y_Rgs_takeRing : MethodName := ⟨R_Rgs, "takeRing", "(LRingWeaver$Net;I)V"⟩
def w_Rgs_takeRing : List Cond := .code y_Rgs_takeRing prog_6_method_9_code 6 none :: dcW
def y_Rgs_walk : MethodName := ⟨R_Rgs, "walk", "(LRingWeaver$Net;LRingWeaver$Boundary;I)V"⟩
def w_Rgs_walk : List Cond := .code y_Rgs_walk prog_6_method_8_code 7 none :: dcW
def y_Rgs_gather : MethodName := ⟨R_Rgs, "gather", "(LRingWeaver$Net;LRingWeaver$Boundary;)V"⟩
def w_Rgs_gather : List Cond := .code y_Rgs_gather prog_6_method_6_code 4 none :: dcW
def y_Wea_isPlace : MethodName := ⟨R_Wea, "isPlace", "(II)Z"⟩
def w_Wea_isPlace : List Cond := .code y_Wea_isPlace prog_1_method_9_code 2 (some .boolean) :: dcW
def y_Wea_clear : MethodName := ⟨R_Wea, "clear", "()I"⟩
def w_Wea_clear : List Cond := .code y_Wea_clear prog_1_method_3_code 2 (some .int) :: dcW
def y_Wea_area : MethodName := ⟨R_Wea, "area", "()J"⟩
def w_Wea_area : List Cond := .code y_Wea_area prog_1_method_7_code 1 (some .long) :: dcW
def y_Wea_count : MethodName := ⟨R_Wea, "count", "(I)I"⟩
def w_Wea_count : List Cond := .code y_Wea_count prog_1_method_8_code 2 (some .int) :: dcW
def y_Mod_thrown : MethodName := ⟨R_Mod, "thrown", "()I"⟩
def w_Mod_thrown : List Cond := .code y_Mod_thrown prog_9_method_2_code 1 (some .int) :: dcW
def y_Mod_fail : MethodName := ⟨R_Mod, "fail", "(I)I"⟩
def w_Mod_fail : List Cond := .code y_Mod_fail prog_9_method_3_code 2 (some .int) :: dcW
def y_Mod_within : MethodName := ⟨R_Mod, "within", "(III)Z"⟩
def w_Mod_within : List Cond := .code y_Mod_within prog_9_method_4_code 3 (some .boolean) :: dcW
def y_Mod_isFar : MethodName := ⟨R_Mod, "isFar", "(I)Z"⟩
def w_Mod_isFar : List Cond := .code y_Mod_isFar prog_9_method_5_code 1 (some .boolean) :: dcW
def y_Mod_noResult : MethodName := ⟨R_Mod, "noResult", "()V"⟩
def w_Mod_noResult : List Cond := .code y_Mod_noResult prog_9_method_6_code 1 none :: dcW
def y_Mod_sign : MethodName := ⟨R_Mod, "sign", "(J)I"⟩
def w_Mod_sign : List Cond := .code y_Mod_sign prog_9_method_7_code 2 (some .int) :: dcW
def y_Mod_cross : MethodName := ⟨R_Mod, "cross", "(JJJJ)J"⟩
def w_Mod_cross : List Cond := .code y_Mod_cross prog_9_method_8_code 8 (some .long) :: dcW
def y_Mod_side : MethodName := ⟨R_Mod, "side", "(IIIIII)I"⟩
def w_Mod_side : List Cond := .code y_Mod_side prog_9_method_9_code 6 (some .int) :: dcW
def y_Mod_between : MethodName := ⟨R_Mod, "between", "(III)Z"⟩
def w_Mod_between : List Cond := .code y_Mod_between prog_9_method_10_code 3 (some .boolean) :: dcW
def y_Mod_isEnd : MethodName := ⟨R_Mod, "isEnd", "(III)Z"⟩
def w_Mod_isEnd : List Cond := .code y_Mod_isEnd prog_9_method_11_code 4 (some .boolean) :: dcW
def y_Mod_isIn : MethodName := ⟨R_Mod, "isIn", "(III)Z"⟩
def w_Mod_isIn : List Cond := .code y_Mod_isIn prog_9_method_12_code 4 (some .boolean) :: dcW
def y_Mod_keepsOff : MethodName := ⟨R_Mod, "keepsOff", "(II)Z"⟩
def w_Mod_keepsOff : List Cond := .code y_Mod_keepsOff prog_9_method_13_code 7 (some .boolean) :: dcW
def y_Mod_find : MethodName := ⟨R_Mod, "find", "(IIII)I"⟩
def w_Mod_find : List Cond := .code y_Mod_find prog_9_method_14_code 7 (some .int) :: dcW
def y_Mod_isApart : MethodName := ⟨R_Mod, "isApart", "(IIII)Z"⟩
def w_Mod_isApart : List Cond := .code y_Mod_isApart prog_9_method_15_code 8 (some .boolean) :: dcW
def y_Mod_piece : MethodName := ⟨R_Mod, "piece", "(IIIII)I"⟩
def w_Mod_piece : List Cond := .code y_Mod_piece prog_9_method_16_code 7 (some .int) :: dcW
def y_Mod_clear : MethodName := ⟨R_Mod, "clear", "()I"⟩
def w_Mod_clear : List Cond := .code y_Mod_clear prog_9_method_17_code 2 (some .int) :: dcW
def y_Mod_right : MethodName := ⟨R_Mod, "right", "(I)I"⟩
def w_Mod_right : List Cond := .code y_Mod_right prog_9_method_18_code 12 (some .int) :: dcW
def y_Mod_isResult : MethodName := ⟨R_Mod, "isResult", "(II)Z"⟩
def w_Mod_isResult : List Cond := .code y_Mod_isResult prog_9_method_19_code 4 (some .boolean) :: dcW
def y_Mod_findWays : MethodName := ⟨R_Mod, "findWays", "(I)V"⟩
def w_Mod_findWays : List Cond := .code y_Mod_findWays prog_9_method_20_code 7 none :: dcW
def y_Mod_isEven : MethodName := ⟨R_Mod, "isEven", "(II)Z"⟩
def w_Mod_isEven : List Cond := .code y_Mod_isEven prog_9_method_21_code 5 (some .boolean) :: dcW
def y_Mod_areClosed : MethodName := ⟨R_Mod, "areClosed", "()Z"⟩
def w_Mod_areClosed : List Cond := .code y_Mod_areClosed prog_9_method_22_code 3 (some .boolean) :: dcW
def y_Mod_startX : MethodName := ⟨R_Mod, "startX", "(I)I"⟩
def w_Mod_startX : List Cond := .code y_Mod_startX prog_9_method_23_code 2 (some .int) :: dcW
def y_Mod_startY : MethodName := ⟨R_Mod, "startY", "(I)I"⟩
def w_Mod_startY : List Cond := .code y_Mod_startY prog_9_method_24_code 2 (some .int) :: dcW
def y_Mod_endX : MethodName := ⟨R_Mod, "endX", "(I)I"⟩
def w_Mod_endX : List Cond := .code y_Mod_endX prog_9_method_25_code 2 (some .int) :: dcW
def y_Mod_endY : MethodName := ⟨R_Mod, "endY", "(I)I"⟩
def w_Mod_endY : List Cond := .code y_Mod_endY prog_9_method_26_code 2 (some .int) :: dcW
def y_Mod_isSooner : MethodName := ⟨R_Mod, "isSooner", "(JJJJJJ)Z"⟩
def w_Mod_isSooner : List Cond := .code y_Mod_isSooner prog_9_method_27_code 14 (some .boolean) :: dcW
def y_Mod_farX : MethodName := ⟨R_Mod, "farX", "(III)I"⟩
def w_Mod_farX : List Cond := .code y_Mod_farX prog_9_method_29_code 4 (some .int) :: dcW
def y_Mod_farY : MethodName := ⟨R_Mod, "farY", "(III)I"⟩
def w_Mod_farY : List Cond := .code y_Mod_farY prog_9_method_30_code 4 (some .int) :: dcW
def y_Mod_next : MethodName := ⟨R_Mod, "next", "(I)I"⟩
def w_Mod_next : List Cond := .code y_Mod_next prog_9_method_28_code 7 (some .int) :: dcW
def y_Mod_placeOf : MethodName := ⟨R_Mod, "placeOf", "(II)I"⟩
def w_Mod_placeOf : List Cond := .code y_Mod_placeOf prog_9_method_31_code 5 (some .int) :: dcW
def y_Mod_isStraight : MethodName := ⟨R_Mod, "isStraight", "(III)Z"⟩
def w_Mod_isStraight : List Cond := .code y_Mod_isStraight prog_9_method_33_code 6 (some .boolean) :: dcW
def y_Mod_ring : MethodName := ⟨R_Mod, "ring", "(I)V"⟩
def w_Mod_ring : List Cond := .code y_Mod_ring prog_9_method_34_code 10 none :: dcW
def y_Mod_go : MethodName := ⟨R_Mod, "go", "(I)V"⟩
def w_Mod_go : List Cond := .code y_Mod_go prog_9_method_32_code 5 none :: dcW
def y_Mod_isOn : MethodName := ⟨R_Mod, "isOn", "(III)Z"⟩
def w_Mod_isOn : List Cond := .code y_Mod_isOn prog_9_method_35_code 8 (some .boolean) :: dcW
def y_Mod_isInside : MethodName := ⟨R_Mod, "isInside", "(III)Z"⟩
def w_Mod_isInside : List Cond := .code y_Mod_isInside prog_9_method_36_code 9 (some .boolean) :: dcW
def y_Mod_liesIn : MethodName := ⟨R_Mod, "liesIn", "(II)Z"⟩
def w_Mod_liesIn : List Cond := .code y_Mod_liesIn prog_9_method_37_code 4 (some .boolean) :: dcW
def y_Mod_findOwners : MethodName := ⟨R_Mod, "findOwners", "()V"⟩
def w_Mod_findOwners : List Cond := .code y_Mod_findOwners prog_9_method_38_code 4 none :: dcW
def y_Mod_isLess : MethodName := ⟨R_Mod, "isLess", "(II)Z"⟩
def w_Mod_isLess : List Cond := .code y_Mod_isLess prog_9_method_39_code 3 (some .boolean) :: dcW
def y_Mod_same : MethodName := ⟨R_Mod, "same", "(II)Z"⟩
def w_Mod_same : List Cond := .code y_Mod_same prog_9_method_40_code 3 (some .boolean) :: dcW
def y_Mod_isBefore : MethodName := ⟨R_Mod, "isBefore", "(II)Z"⟩
def w_Mod_isBefore : List Cond := .code y_Mod_isBefore prog_9_method_41_code 5 (some .boolean) :: dcW
def y_Mod_behind : MethodName := ⟨R_Mod, "behind", "(II)I"⟩
def w_Mod_behind : List Cond := .code y_Mod_behind prog_9_method_42_code 6 (some .int) :: dcW
def y_Mod_tell : MethodName := ⟨R_Mod, "tell", "(I)V"⟩
def w_Mod_tell : List Cond := .code y_Mod_tell prog_9_method_43_code 3 none :: dcW
def y_Mod_tellAll : MethodName := ⟨R_Mod, "tellAll", "()V"⟩
def w_Mod_tellAll : List Cond := .code y_Mod_tellAll prog_9_method_44_code 4 none :: dcW
def y_Mod_isTooMuch : MethodName := ⟨R_Mod, "isTooMuch", "()Z"⟩
def w_Mod_isTooMuch : List Cond := .code y_Mod_isTooMuch prog_9_method_45_code 4 (some .boolean) :: dcW
def y_Mod_overlay : MethodName := ⟨R_Mod, "overlay", "(I)I"⟩
def w_Mod_overlay : List Cond := .code y_Mod_overlay prog_9_method_46_code 3 (some .int) :: dcW
def y_Mod_plan : MethodName := ⟨R_Mod, "plan", "(I)I"⟩
def w_Mod_plan : List Cond := .code y_Mod_plan prog_9_method_47_code 2 (some .int) :: dcW
def y_Mod_ordinate : MethodName := ⟨R_Mod, "ordinate", "(II)I"⟩
def w_Mod_ordinate : List Cond := .code y_Mod_ordinate prog_9_method_48_code 3 (some .int) :: dcW
def y_Mod_area : MethodName := ⟨R_Mod, "area", "()J"⟩
def w_Mod_area : List Cond := .code y_Mod_area prog_9_method_49_code 1 (some .long) :: dcW
def y_Mod_count : MethodName := ⟨R_Mod, "count", "(I)I"⟩
def w_Mod_count : List Cond := .code y_Mod_count prog_9_method_50_code 2 (some .int) :: dcW
def y_Row_add : MethodName := ⟨R_Row, "add", "(I)V"⟩
def w_Row_add : List Cond := .code y_Row_add prog_7_method_4_code 2 none :: dcW
def y_Arrays_copyOf : MethodName := ⟨R_Arrays, "copyOf", "([II)[I"⟩
def w_Arrays_copyOf : List Cond := .code y_Arrays_copyOf prog_22_method_123_code 3 (some (.array .int)) :: dcW
def y_Row_init : MethodName := ⟨R_Row, "<init>", "()V"⟩
def w_Row_init : List Cond := .code y_Row_init prog_7_method_1_code 1 none :: dcW
def y_Net_init : MethodName := ⟨R_Net, "<init>", "()V"⟩
def w_Net_init : List Cond := .code y_Net_init prog_4_method_1_code 1 none :: dcW
def y_Bnd_init : MethodName := ⟨R_Bnd, "<init>", "()V"⟩
def w_Bnd_init : List Cond := .code y_Bnd_init prog_2_method_1_code 1 none :: dcW
def y_Rgs_init : MethodName := ⟨R_Rgs, "<init>", "()V"⟩
def w_Rgs_init : List Cond := .code y_Rgs_init prog_6_method_1_code 1 none :: dcW
def y_Mul_init : MethodName := ⟨R_Mul, "<init>", "()V"⟩
def w_Mul_init : List Cond := .code y_Mul_init prog_3_method_1_code 1 none :: dcW
def y_Wea_init : MethodName := ⟨R_Wea, "<init>", "()V"⟩
def w_Wea_init : List Cond := .code y_Wea_init prog_1_method_1_code 1 none :: dcW
def y_Mod_init : MethodName := ⟨R_Mod, "<init>", "()V"⟩
def w_Mod_init : List Cond := .code y_Mod_init prog_9_method_1_code 1 none :: dcW
