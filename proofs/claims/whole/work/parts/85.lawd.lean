theorem wm_0 : (Jvm.Cond.initialized "RingWeaverLaw") ∈ dcW := dcW_m 52 (by decide +kernel) (by decide +kernel)
theorem wm_8 : (Jvm.Cond.initialized "java/lang/Throwable") ∈ dcW := dcW_m 60 (by decide +kernel) (by decide +kernel)
theorem wm_20 : (Jvm.Cond.classLink "RingWeaverLaw" (8 : Nat) "RingWeaver") ∈ dcW := dcW_m 72 (by decide +kernel) (by decide +kernel)
theorem wm_21 : (Jvm.Cond.instantiable "RingWeaver" (4 : Nat)) ∈ dcW := dcW_m 73 (by decide +kernel) (by decide +kernel)
theorem wm_22 : (Jvm.Cond.methodLink "RingWeaverLaw" (32 : Nat) ({ cls := "RingWeaver", name := "<init>", desc := "()V" } : Jvm.MethodName)) ∈ dcW := dcW_m 74 (by decide +kernel) (by decide +kernel)
theorem wm_23 : (Jvm.Cond.instanceMethod ({ cls := "RingWeaver", name := "<init>", desc := "()V" } : Jvm.MethodName)) ∈ dcW := dcW_m 75 (by decide +kernel) (by decide +kernel)
theorem wm_24 : (Jvm.Cond.code ({ cls := "RingWeaver", name := "<init>", desc := "()V" } : Jvm.MethodName) prog_1_method_1_code (1 : Nat) (Option.none : Option Jvm.ClassFile.FieldType)) ∈ dcW := dcW_m 76 (by decide +kernel) (by decide +kernel)
theorem wm_187 : (Jvm.Cond.methodLink "RingWeaverLaw" (46 : Nat) ({ cls := "RingWeaver", name := "clear", desc := "()I" } : Jvm.MethodName)) ∈ dcW := dcW_m 239 (by decide +kernel) (by decide +kernel)
theorem wm_188 : (Jvm.Cond.instanceMethod ({ cls := "RingWeaver", name := "clear", desc := "()I" } : Jvm.MethodName)) ∈ dcW := dcW_m 240 (by decide +kernel) (by decide +kernel)
theorem wm_189 : (Jvm.Cond.selects "RingWeaver" ({ cls := "RingWeaver", name := "clear", desc := "()I" } : Jvm.MethodName) ({ cls := "RingWeaver", name := "clear", desc := "()I" } : Jvm.MethodName)) ∈ dcW := dcW_m 241 (by decide +kernel) (by decide +kernel)
theorem wm_190 : (Jvm.Cond.code ({ cls := "RingWeaver", name := "clear", desc := "()I" } : Jvm.MethodName) prog_1_method_3_code (2 : Nat) (Option.some Jvm.ClassFile.FieldType.int)) ∈ dcW := dcW_m 242 (by decide +kernel) (by decide +kernel)
theorem wm_208 : (Jvm.Cond.methodLink "RingWeaverLaw" (61 : Nat) ({ cls := "RingWeaver", name := "area", desc := "()J" } : Jvm.MethodName)) ∈ dcW := dcW_m 260 (by decide +kernel) (by decide +kernel)
theorem wm_209 : (Jvm.Cond.instanceMethod ({ cls := "RingWeaver", name := "area", desc := "()J" } : Jvm.MethodName)) ∈ dcW := dcW_m 261 (by decide +kernel) (by decide +kernel)
theorem wm_210 : (Jvm.Cond.selects "RingWeaver" ({ cls := "RingWeaver", name := "area", desc := "()J" } : Jvm.MethodName) ({ cls := "RingWeaver", name := "area", desc := "()J" } : Jvm.MethodName)) ∈ dcW := dcW_m 262 (by decide +kernel) (by decide +kernel)
theorem wm_211 : (Jvm.Cond.code ({ cls := "RingWeaver", name := "area", desc := "()J" } : Jvm.MethodName) prog_1_method_7_code (1 : Nat) (Option.some Jvm.ClassFile.FieldType.long)) ∈ dcW := dcW_m 263 (by decide +kernel) (by decide +kernel)
theorem wm_212 : (Jvm.Cond.methodLink "RingWeaverLaw" (66 : Nat) ({ cls := "RingWeaver", name := "count", desc := "(I)I" } : Jvm.MethodName)) ∈ dcW := dcW_m 264 (by decide +kernel) (by decide +kernel)
theorem wm_213 : (Jvm.Cond.instanceMethod ({ cls := "RingWeaver", name := "count", desc := "(I)I" } : Jvm.MethodName)) ∈ dcW := dcW_m 265 (by decide +kernel) (by decide +kernel)
theorem wm_214 : (Jvm.Cond.selects "RingWeaver" ({ cls := "RingWeaver", name := "count", desc := "(I)I" } : Jvm.MethodName) ({ cls := "RingWeaver", name := "count", desc := "(I)I" } : Jvm.MethodName)) ∈ dcW := dcW_m 266 (by decide +kernel) (by decide +kernel)
theorem wm_215 : (Jvm.Cond.code ({ cls := "RingWeaver", name := "count", desc := "(I)I" } : Jvm.MethodName) prog_1_method_8_code (2 : Nat) (Option.some Jvm.ClassFile.FieldType.int)) ∈ dcW := dcW_m 267 (by decide +kernel) (by decide +kernel)
theorem wm_216 : (Jvm.Cond.methodLink "RingWeaverLaw" (36 : Nat) ({ cls := "RingWeaverLaw", name := "piece", desc := "(LRingWeaver;IIIII[J)I" } : Jvm.MethodName)) ∈ dcW := dcW_m 268 (by decide +kernel) (by decide +kernel)
theorem wm_217 : (Jvm.Cond.static ({ cls := "RingWeaverLaw", name := "piece", desc := "(LRingWeaver;IIIII[J)I" } : Jvm.MethodName)) ∈ dcW := dcW_m 269 (by decide +kernel) (by decide +kernel)
theorem wm_407 : (Jvm.Cond.methodLink "RingWeaverLaw" (50 : Nat) ({ cls := "RingWeaverLaw", name := "overlay", desc := "(LRingWeaver;I[J)I" } : Jvm.MethodName)) ∈ dcW := dcW_m 459 (by decide +kernel) (by decide +kernel)
theorem wm_408 : (Jvm.Cond.static ({ cls := "RingWeaverLaw", name := "overlay", desc := "(LRingWeaver;I[J)I" } : Jvm.MethodName)) ∈ dcW := dcW_m 460 (by decide +kernel) (by decide +kernel)
theorem wm_583 : (Jvm.Cond.methodLink "RingWeaverLaw" (54 : Nat) ({ cls := "RingWeaverLaw", name := "plan", desc := "(LRingWeaver;I[J)I" } : Jvm.MethodName)) ∈ dcW := dcW_m 635 (by decide +kernel) (by decide +kernel)
theorem wm_584 : (Jvm.Cond.static ({ cls := "RingWeaverLaw", name := "plan", desc := "(LRingWeaver;I[J)I" } : Jvm.MethodName)) ∈ dcW := dcW_m 636 (by decide +kernel) (by decide +kernel)
theorem wm_608 : (Jvm.Cond.methodLink "RingWeaverLaw" (57 : Nat) ({ cls := "RingWeaverLaw", name := "ordinate", desc := "(LRingWeaver;II[J)I" } : Jvm.MethodName)) ∈ dcW := dcW_m 660 (by decide +kernel) (by decide +kernel)
theorem wm_609 : (Jvm.Cond.static ({ cls := "RingWeaverLaw", name := "ordinate", desc := "(LRingWeaver;II[J)I" } : Jvm.MethodName)) ∈ dcW := dcW_m 661 (by decide +kernel) (by decide +kernel)
theorem wm_617 : (Jvm.Cond.classLink "RingWeaverLaw" (33 : Nat) "RingWeaverModel") ∈ dcW := dcW_m 669 (by decide +kernel) (by decide +kernel)
theorem wm_618 : (Jvm.Cond.instantiable "RingWeaverModel" (27 : Nat)) ∈ dcW := dcW_m 670 (by decide +kernel) (by decide +kernel)
theorem wm_619 : (Jvm.Cond.methodLink "RingWeaverLaw" (35 : Nat) ({ cls := "RingWeaverModel", name := "<init>", desc := "()V" } : Jvm.MethodName)) ∈ dcW := dcW_m 671 (by decide +kernel) (by decide +kernel)
theorem wm_620 : (Jvm.Cond.instanceMethod ({ cls := "RingWeaverModel", name := "<init>", desc := "()V" } : Jvm.MethodName)) ∈ dcW := dcW_m 672 (by decide +kernel) (by decide +kernel)
theorem wm_621 : (Jvm.Cond.code ({ cls := "RingWeaverModel", name := "<init>", desc := "()V" } : Jvm.MethodName) prog_9_method_1_code (1 : Nat) (Option.none : Option Jvm.ClassFile.FieldType)) ∈ dcW := dcW_m 673 (by decide +kernel) (by decide +kernel)
theorem wm_707 : (Jvm.Cond.methodLink "RingWeaverLaw" (42 : Nat) ({ cls := "RingWeaverModel", name := "thrown", desc := "()I" } : Jvm.MethodName)) ∈ dcW := dcW_m 759 (by decide +kernel) (by decide +kernel)
theorem wm_708 : (Jvm.Cond.instanceMethod ({ cls := "RingWeaverModel", name := "thrown", desc := "()I" } : Jvm.MethodName)) ∈ dcW := dcW_m 760 (by decide +kernel) (by decide +kernel)
theorem wm_709 : (Jvm.Cond.selects "RingWeaverModel" ({ cls := "RingWeaverModel", name := "thrown", desc := "()I" } : Jvm.MethodName) ({ cls := "RingWeaverModel", name := "thrown", desc := "()I" } : Jvm.MethodName)) ∈ dcW := dcW_m 761 (by decide +kernel) (by decide +kernel)
theorem wm_710 : (Jvm.Cond.code ({ cls := "RingWeaverModel", name := "thrown", desc := "()I" } : Jvm.MethodName) prog_9_method_2_code (1 : Nat) (Option.some Jvm.ClassFile.FieldType.int)) ∈ dcW := dcW_m 762 (by decide +kernel) (by decide +kernel)
theorem wm_711 : (Jvm.Cond.methodLink "RingWeaverLaw" (41 : Nat) ({ cls := "RingWeaverModel", name := "piece", desc := "(IIIII)I" } : Jvm.MethodName)) ∈ dcW := dcW_m 763 (by decide +kernel) (by decide +kernel)
theorem wm_712 : (Jvm.Cond.instanceMethod ({ cls := "RingWeaverModel", name := "piece", desc := "(IIIII)I" } : Jvm.MethodName)) ∈ dcW := dcW_m 764 (by decide +kernel) (by decide +kernel)
theorem wm_713 : (Jvm.Cond.selects "RingWeaverModel" ({ cls := "RingWeaverModel", name := "piece", desc := "(IIIII)I" } : Jvm.MethodName) ({ cls := "RingWeaverModel", name := "piece", desc := "(IIIII)I" } : Jvm.MethodName)) ∈ dcW := dcW_m 765 (by decide +kernel) (by decide +kernel)
theorem wm_714 : (Jvm.Cond.code ({ cls := "RingWeaverModel", name := "piece", desc := "(IIIII)I" } : Jvm.MethodName) prog_9_method_16_code (7 : Nat) (Option.some Jvm.ClassFile.FieldType.int)) ∈ dcW := dcW_m 766 (by decide +kernel) (by decide +kernel)
theorem wm_763 : (Jvm.Cond.methodLink "RingWeaverLaw" (49 : Nat) ({ cls := "RingWeaverModel", name := "clear", desc := "()I" } : Jvm.MethodName)) ∈ dcW := dcW_m 815 (by decide +kernel) (by decide +kernel)
theorem wm_764 : (Jvm.Cond.instanceMethod ({ cls := "RingWeaverModel", name := "clear", desc := "()I" } : Jvm.MethodName)) ∈ dcW := dcW_m 816 (by decide +kernel) (by decide +kernel)
theorem wm_765 : (Jvm.Cond.selects "RingWeaverModel" ({ cls := "RingWeaverModel", name := "clear", desc := "()I" } : Jvm.MethodName) ({ cls := "RingWeaverModel", name := "clear", desc := "()I" } : Jvm.MethodName)) ∈ dcW := dcW_m 817 (by decide +kernel) (by decide +kernel)
theorem wm_766 : (Jvm.Cond.code ({ cls := "RingWeaverModel", name := "clear", desc := "()I" } : Jvm.MethodName) prog_9_method_17_code (2 : Nat) (Option.some Jvm.ClassFile.FieldType.int)) ∈ dcW := dcW_m 818 (by decide +kernel) (by decide +kernel)
theorem wm_767 : (Jvm.Cond.methodLink "RingWeaverLaw" (53 : Nat) ({ cls := "RingWeaverModel", name := "overlay", desc := "(I)I" } : Jvm.MethodName)) ∈ dcW := dcW_m 819 (by decide +kernel) (by decide +kernel)
theorem wm_768 : (Jvm.Cond.instanceMethod ({ cls := "RingWeaverModel", name := "overlay", desc := "(I)I" } : Jvm.MethodName)) ∈ dcW := dcW_m 820 (by decide +kernel) (by decide +kernel)
theorem wm_769 : (Jvm.Cond.selects "RingWeaverModel" ({ cls := "RingWeaverModel", name := "overlay", desc := "(I)I" } : Jvm.MethodName) ({ cls := "RingWeaverModel", name := "overlay", desc := "(I)I" } : Jvm.MethodName)) ∈ dcW := dcW_m 821 (by decide +kernel) (by decide +kernel)
theorem wm_770 : (Jvm.Cond.code ({ cls := "RingWeaverModel", name := "overlay", desc := "(I)I" } : Jvm.MethodName) prog_9_method_46_code (3 : Nat) (Option.some Jvm.ClassFile.FieldType.int)) ∈ dcW := dcW_m 822 (by decide +kernel) (by decide +kernel)
theorem wm_882 : (Jvm.Cond.methodLink "RingWeaverLaw" (56 : Nat) ({ cls := "RingWeaverModel", name := "plan", desc := "(I)I" } : Jvm.MethodName)) ∈ dcW := dcW_m 934 (by decide +kernel) (by decide +kernel)
theorem wm_883 : (Jvm.Cond.instanceMethod ({ cls := "RingWeaverModel", name := "plan", desc := "(I)I" } : Jvm.MethodName)) ∈ dcW := dcW_m 935 (by decide +kernel) (by decide +kernel)
theorem wm_884 : (Jvm.Cond.selects "RingWeaverModel" ({ cls := "RingWeaverModel", name := "plan", desc := "(I)I" } : Jvm.MethodName) ({ cls := "RingWeaverModel", name := "plan", desc := "(I)I" } : Jvm.MethodName)) ∈ dcW := dcW_m 936 (by decide +kernel) (by decide +kernel)
theorem wm_885 : (Jvm.Cond.code ({ cls := "RingWeaverModel", name := "plan", desc := "(I)I" } : Jvm.MethodName) prog_9_method_47_code (2 : Nat) (Option.some Jvm.ClassFile.FieldType.int)) ∈ dcW := dcW_m 937 (by decide +kernel) (by decide +kernel)
theorem wm_886 : (Jvm.Cond.methodLink "RingWeaverLaw" (60 : Nat) ({ cls := "RingWeaverModel", name := "ordinate", desc := "(II)I" } : Jvm.MethodName)) ∈ dcW := dcW_m 938 (by decide +kernel) (by decide +kernel)
theorem wm_887 : (Jvm.Cond.instanceMethod ({ cls := "RingWeaverModel", name := "ordinate", desc := "(II)I" } : Jvm.MethodName)) ∈ dcW := dcW_m 939 (by decide +kernel) (by decide +kernel)
theorem wm_888 : (Jvm.Cond.selects "RingWeaverModel" ({ cls := "RingWeaverModel", name := "ordinate", desc := "(II)I" } : Jvm.MethodName) ({ cls := "RingWeaverModel", name := "ordinate", desc := "(II)I" } : Jvm.MethodName)) ∈ dcW := dcW_m 940 (by decide +kernel) (by decide +kernel)
theorem wm_889 : (Jvm.Cond.code ({ cls := "RingWeaverModel", name := "ordinate", desc := "(II)I" } : Jvm.MethodName) prog_9_method_48_code (3 : Nat) (Option.some Jvm.ClassFile.FieldType.int)) ∈ dcW := dcW_m 941 (by decide +kernel) (by decide +kernel)
theorem wm_890 : (Jvm.Cond.methodLink "RingWeaverLaw" (65 : Nat) ({ cls := "RingWeaverModel", name := "area", desc := "()J" } : Jvm.MethodName)) ∈ dcW := dcW_m 942 (by decide +kernel) (by decide +kernel)
theorem wm_891 : (Jvm.Cond.instanceMethod ({ cls := "RingWeaverModel", name := "area", desc := "()J" } : Jvm.MethodName)) ∈ dcW := dcW_m 943 (by decide +kernel) (by decide +kernel)
theorem wm_892 : (Jvm.Cond.selects "RingWeaverModel" ({ cls := "RingWeaverModel", name := "area", desc := "()J" } : Jvm.MethodName) ({ cls := "RingWeaverModel", name := "area", desc := "()J" } : Jvm.MethodName)) ∈ dcW := dcW_m 944 (by decide +kernel) (by decide +kernel)
theorem wm_893 : (Jvm.Cond.code ({ cls := "RingWeaverModel", name := "area", desc := "()J" } : Jvm.MethodName) prog_9_method_49_code (1 : Nat) (Option.some Jvm.ClassFile.FieldType.long)) ∈ dcW := dcW_m 945 (by decide +kernel) (by decide +kernel)
theorem wm_894 : (Jvm.Cond.methodLink "RingWeaverLaw" (69 : Nat) ({ cls := "RingWeaverModel", name := "count", desc := "(I)I" } : Jvm.MethodName)) ∈ dcW := dcW_m 946 (by decide +kernel) (by decide +kernel)
theorem wm_895 : (Jvm.Cond.instanceMethod ({ cls := "RingWeaverModel", name := "count", desc := "(I)I" } : Jvm.MethodName)) ∈ dcW := dcW_m 947 (by decide +kernel) (by decide +kernel)
theorem wm_896 : (Jvm.Cond.selects "RingWeaverModel" ({ cls := "RingWeaverModel", name := "count", desc := "(I)I" } : Jvm.MethodName) ({ cls := "RingWeaverModel", name := "count", desc := "(I)I" } : Jvm.MethodName)) ∈ dcW := dcW_m 948 (by decide +kernel) (by decide +kernel)
theorem wm_897 : (Jvm.Cond.code ({ cls := "RingWeaverModel", name := "count", desc := "(I)I" } : Jvm.MethodName) prog_9_method_50_code (2 : Nat) (Option.some Jvm.ClassFile.FieldType.int)) ∈ dcW := dcW_m 949 (by decide +kernel) (by decide +kernel)
theorem d_Law_law_0 : decode code 0 = .ok (.new 8, 3) := by decide +kernel
theorem d_Law_law_3 : decode code 3 = .ok (.dup, 1) := by decide +kernel
theorem d_Law_law_4 : decode code 4 = .ok (.invokespecial 32, 3) := by decide +kernel
theorem d_Law_law_7 : decode code 7 = .ok (.astore_n 1, 1) := by decide +kernel
theorem d_Law_law_8 : decode code 8 = .ok (.new 33, 3) := by decide +kernel
theorem d_Law_law_11 : decode code 11 = .ok (.dup, 1) := by decide +kernel
theorem d_Law_law_12 : decode code 12 = .ok (.invokespecial 35, 3) := by decide +kernel
theorem d_Law_law_15 : decode code 15 = .ok (.astore_n 2, 1) := by decide +kernel
theorem d_Law_law_16 : decode code 16 = .ok (.iconst 1, 1) := by decide +kernel
theorem d_Law_law_17 : decode code 17 = .ok (.newarray .long, 2) := by decide +kernel
theorem d_Law_law_19 : decode code 19 = .ok (.astore_n 3, 1) := by decide +kernel
theorem d_Law_law_20 : decode code 20 = .ok (.iconst 0, 1) := by decide +kernel
theorem d_Law_law_21 : decode code 21 = .ok (.istore 4, 2) := by decide +kernel
theorem d_Law_law_23 : decode code 23 = .ok (.iload 4, 2) := by decide +kernel
theorem d_Law_law_25 : decode code 25 = .ok (.aload_n 0, 1) := by decide +kernel
theorem d_Law_law_26 : decode code 26 = .ok (.arraylength, 1) := by decide +kernel
theorem d_Law_law_27 : decode code 27 = .ok (.bipush 6, 2) := by decide +kernel
theorem d_Law_law_29 : decode code 29 = .ok (.isub, 1) := by decide +kernel
theorem d_Law_law_30 : decode code 30 = .ok (.if_icmp .gt 396, 3) := by decide +kernel
theorem d_Law_law_33 : decode code 33 = .ok (.aload_n 0, 1) := by decide +kernel
theorem d_Law_law_34 : decode code 34 = .ok (.iload 4, 2) := by decide +kernel
theorem d_Law_law_36 : decode code 36 = .ok (.iaload, 1) := by decide +kernel
theorem d_Law_law_37 : decode code 37 = .ok (.bipush 7, 2) := by decide +kernel
theorem d_Law_law_39 : decode code 39 = .ok (.iand, 1) := by decide +kernel
set_option maxRecDepth 20000 in
theorem d_Law_law_40 : decode code 40 = .ok (.tableswitch 380 0 6 #[44, 148, 161, 217, 273, 341, 355], 44) := by decide +kernel
theorem d_Law_law_84 : decode code 84 = .ok (.aload_n 1, 1) := by decide +kernel
theorem d_Law_law_85 : decode code 85 = .ok (.aload_n 0, 1) := by decide +kernel
theorem d_Law_law_86 : decode code 86 = .ok (.iload 4, 2) := by decide +kernel
theorem d_Law_law_88 : decode code 88 = .ok (.iconst 1, 1) := by decide +kernel
theorem d_Law_law_89 : decode code 89 = .ok (.iadd, 1) := by decide +kernel
theorem d_Law_law_90 : decode code 90 = .ok (.iaload, 1) := by decide +kernel
theorem d_Law_law_91 : decode code 91 = .ok (.aload_n 0, 1) := by decide +kernel
theorem d_Law_law_92 : decode code 92 = .ok (.iload 4, 2) := by decide +kernel
theorem d_Law_law_94 : decode code 94 = .ok (.iconst 2, 1) := by decide +kernel
theorem d_Law_law_95 : decode code 95 = .ok (.iadd, 1) := by decide +kernel
theorem d_Law_law_96 : decode code 96 = .ok (.iaload, 1) := by decide +kernel
theorem d_Law_law_97 : decode code 97 = .ok (.aload_n 0, 1) := by decide +kernel
theorem d_Law_law_98 : decode code 98 = .ok (.iload 4, 2) := by decide +kernel
theorem d_Law_law_100 : decode code 100 = .ok (.iconst 3, 1) := by decide +kernel
theorem d_Law_law_101 : decode code 101 = .ok (.iadd, 1) := by decide +kernel
theorem d_Law_law_102 : decode code 102 = .ok (.iaload, 1) := by decide +kernel
theorem d_Law_law_103 : decode code 103 = .ok (.aload_n 0, 1) := by decide +kernel
theorem d_Law_law_104 : decode code 104 = .ok (.iload 4, 2) := by decide +kernel
theorem d_Law_law_106 : decode code 106 = .ok (.iconst 4, 1) := by decide +kernel
theorem d_Law_law_107 : decode code 107 = .ok (.iadd, 1) := by decide +kernel
theorem d_Law_law_108 : decode code 108 = .ok (.iaload, 1) := by decide +kernel
theorem d_Law_law_109 : decode code 109 = .ok (.aload_n 0, 1) := by decide +kernel
theorem d_Law_law_110 : decode code 110 = .ok (.iload 4, 2) := by decide +kernel
theorem d_Law_law_112 : decode code 112 = .ok (.iconst 5, 1) := by decide +kernel
theorem d_Law_law_113 : decode code 113 = .ok (.iadd, 1) := by decide +kernel
theorem d_Law_law_114 : decode code 114 = .ok (.iaload, 1) := by decide +kernel
theorem d_Law_law_115 : decode code 115 = .ok (.aload_n 3, 1) := by decide +kernel
theorem d_Law_law_116 : decode code 116 = .ok (.invokestatic 36, 3) := by decide +kernel
theorem d_Law_law_119 : decode code 119 = .ok (.istore 5, 2) := by decide +kernel
theorem d_Law_law_121 : decode code 121 = .ok (.aload_n 2, 1) := by decide +kernel
theorem d_Law_law_122 : decode code 122 = .ok (.aload_n 0, 1) := by decide +kernel
theorem d_Law_law_123 : decode code 123 = .ok (.iload 4, 2) := by decide +kernel
theorem d_Law_law_125 : decode code 125 = .ok (.iconst 1, 1) := by decide +kernel
theorem d_Law_law_126 : decode code 126 = .ok (.iadd, 1) := by decide +kernel
theorem d_Law_law_127 : decode code 127 = .ok (.iaload, 1) := by decide +kernel
theorem d_Law_law_128 : decode code 128 = .ok (.aload_n 0, 1) := by decide +kernel
theorem d_Law_law_129 : decode code 129 = .ok (.iload 4, 2) := by decide +kernel
theorem d_Law_law_131 : decode code 131 = .ok (.iconst 2, 1) := by decide +kernel
theorem d_Law_law_132 : decode code 132 = .ok (.iadd, 1) := by decide +kernel
theorem d_Law_law_133 : decode code 133 = .ok (.iaload, 1) := by decide +kernel
theorem d_Law_law_134 : decode code 134 = .ok (.aload_n 0, 1) := by decide +kernel
theorem d_Law_law_135 : decode code 135 = .ok (.iload 4, 2) := by decide +kernel
theorem d_Law_law_137 : decode code 137 = .ok (.iconst 3, 1) := by decide +kernel
theorem d_Law_law_138 : decode code 138 = .ok (.iadd, 1) := by decide +kernel
theorem d_Law_law_139 : decode code 139 = .ok (.iaload, 1) := by decide +kernel
theorem d_Law_law_140 : decode code 140 = .ok (.aload_n 0, 1) := by decide +kernel
theorem d_Law_law_141 : decode code 141 = .ok (.iload 4, 2) := by decide +kernel
theorem d_Law_law_143 : decode code 143 = .ok (.iconst 4, 1) := by decide +kernel
theorem d_Law_law_144 : decode code 144 = .ok (.iadd, 1) := by decide +kernel
theorem d_Law_law_145 : decode code 145 = .ok (.iaload, 1) := by decide +kernel
theorem d_Law_law_146 : decode code 146 = .ok (.aload_n 0, 1) := by decide +kernel
theorem d_Law_law_147 : decode code 147 = .ok (.iload 4, 2) := by decide +kernel
theorem d_Law_law_149 : decode code 149 = .ok (.iconst 5, 1) := by decide +kernel
theorem d_Law_law_150 : decode code 150 = .ok (.iadd, 1) := by decide +kernel
theorem d_Law_law_151 : decode code 151 = .ok (.iaload, 1) := by decide +kernel
theorem d_Law_law_152 : decode code 152 = .ok (.invokevirtual 41, 3) := by decide +kernel
theorem d_Law_law_155 : decode code 155 = .ok (.istore 6, 2) := by decide +kernel
theorem d_Law_law_157 : decode code 157 = .ok (.aload_n 2, 1) := by decide +kernel
theorem d_Law_law_158 : decode code 158 = .ok (.invokevirtual 42, 3) := by decide +kernel
theorem d_Law_law_161 : decode code 161 = .ok (.iload 5, 2) := by decide +kernel
theorem d_Law_law_163 : decode code 163 = .ok (.if_icmp .eq 5, 3) := by decide +kernel
theorem d_Law_law_166 : decode code 166 = .ok (.iconst 0, 1) := by decide +kernel
theorem d_Law_law_167 : decode code 167 = .ok (.ireturn, 1) := by decide +kernel
theorem d_Law_law_168 : decode code 168 = .ok (.iload 5, 2) := by decide +kernel
theorem d_Law_law_170 : decode code 170 = .ok (.ifCond .ne 15, 3) := by decide +kernel
theorem d_Law_law_173 : decode code 173 = .ok (.aload_n 3, 1) := by decide +kernel
theorem d_Law_law_174 : decode code 174 = .ok (.iconst 0, 1) := by decide +kernel
theorem d_Law_law_175 : decode code 175 = .ok (.laload, 1) := by decide +kernel
theorem d_Law_law_176 : decode code 176 = .ok (.iload 6, 2) := by decide +kernel
theorem d_Law_law_178 : decode code 178 = .ok (.i2l, 1) := by decide +kernel
theorem d_Law_law_179 : decode code 179 = .ok (.lcmp, 1) := by decide +kernel
theorem d_Law_law_180 : decode code 180 = .ok (.ifCond .eq 5, 3) := by decide +kernel
theorem d_Law_law_183 : decode code 183 = .ok (.iconst 0, 1) := by decide +kernel
theorem d_Law_law_184 : decode code 184 = .ok (.ireturn, 1) := by decide +kernel
theorem d_Law_law_185 : decode code 185 = .ok (.goto 235, 3) := by decide +kernel
theorem d_Law_law_188 : decode code 188 = .ok (.aload_n 1, 1) := by decide +kernel
theorem d_Law_law_189 : decode code 189 = .ok (.invokevirtual 46, 3) := by decide +kernel
theorem d_Law_law_192 : decode code 192 = .ok (.aload_n 2, 1) := by decide +kernel
theorem d_Law_law_193 : decode code 193 = .ok (.invokevirtual 49, 3) := by decide +kernel
theorem d_Law_law_196 : decode code 196 = .ok (.if_icmp .eq 224, 3) := by decide +kernel
theorem d_Law_law_199 : decode code 199 = .ok (.iconst 0, 1) := by decide +kernel
theorem d_Law_law_200 : decode code 200 = .ok (.ireturn, 1) := by decide +kernel
theorem d_Law_law_201 : decode code 201 = .ok (.aload_n 1, 1) := by decide +kernel
theorem d_Law_law_202 : decode code 202 = .ok (.aload_n 0, 1) := by decide +kernel
theorem d_Law_law_203 : decode code 203 = .ok (.iload 4, 2) := by decide +kernel
theorem d_Law_law_205 : decode code 205 = .ok (.iconst 1, 1) := by decide +kernel
theorem d_Law_law_206 : decode code 206 = .ok (.iadd, 1) := by decide +kernel
theorem d_Law_law_207 : decode code 207 = .ok (.iaload, 1) := by decide +kernel
theorem d_Law_law_208 : decode code 208 = .ok (.aload_n 3, 1) := by decide +kernel
theorem d_Law_law_209 : decode code 209 = .ok (.invokestatic 50, 3) := by decide +kernel
theorem d_Law_law_212 : decode code 212 = .ok (.istore 5, 2) := by decide +kernel
theorem d_Law_law_214 : decode code 214 = .ok (.aload_n 2, 1) := by decide +kernel
theorem d_Law_law_215 : decode code 215 = .ok (.aload_n 0, 1) := by decide +kernel
theorem d_Law_law_216 : decode code 216 = .ok (.iload 4, 2) := by decide +kernel
theorem d_Law_law_218 : decode code 218 = .ok (.iconst 1, 1) := by decide +kernel
theorem d_Law_law_219 : decode code 219 = .ok (.iadd, 1) := by decide +kernel
theorem d_Law_law_220 : decode code 220 = .ok (.iaload, 1) := by decide +kernel
theorem d_Law_law_221 : decode code 221 = .ok (.invokevirtual 53, 3) := by decide +kernel
theorem d_Law_law_224 : decode code 224 = .ok (.istore 6, 2) := by decide +kernel
theorem d_Law_law_226 : decode code 226 = .ok (.aload_n 2, 1) := by decide +kernel
theorem d_Law_law_227 : decode code 227 = .ok (.invokevirtual 42, 3) := by decide +kernel
theorem d_Law_law_230 : decode code 230 = .ok (.iload 5, 2) := by decide +kernel
theorem d_Law_law_232 : decode code 232 = .ok (.if_icmp .eq 5, 3) := by decide +kernel
theorem d_Law_law_235 : decode code 235 = .ok (.iconst 0, 1) := by decide +kernel
theorem d_Law_law_236 : decode code 236 = .ok (.ireturn, 1) := by decide +kernel
theorem d_Law_law_237 : decode code 237 = .ok (.iload 5, 2) := by decide +kernel
theorem d_Law_law_239 : decode code 239 = .ok (.ifCond .ne 15, 3) := by decide +kernel
theorem d_Law_law_242 : decode code 242 = .ok (.aload_n 3, 1) := by decide +kernel
theorem d_Law_law_243 : decode code 243 = .ok (.iconst 0, 1) := by decide +kernel
theorem d_Law_law_244 : decode code 244 = .ok (.laload, 1) := by decide +kernel
theorem d_Law_law_245 : decode code 245 = .ok (.iload 6, 2) := by decide +kernel
theorem d_Law_law_247 : decode code 247 = .ok (.i2l, 1) := by decide +kernel
theorem d_Law_law_248 : decode code 248 = .ok (.lcmp, 1) := by decide +kernel
theorem d_Law_law_249 : decode code 249 = .ok (.ifCond .eq 5, 3) := by decide +kernel
theorem d_Law_law_252 : decode code 252 = .ok (.iconst 0, 1) := by decide +kernel
theorem d_Law_law_253 : decode code 253 = .ok (.ireturn, 1) := by decide +kernel
theorem d_Law_law_254 : decode code 254 = .ok (.goto 166, 3) := by decide +kernel
theorem d_Law_law_257 : decode code 257 = .ok (.aload_n 1, 1) := by decide +kernel
theorem d_Law_law_258 : decode code 258 = .ok (.aload_n 0, 1) := by decide +kernel
theorem d_Law_law_259 : decode code 259 = .ok (.iload 4, 2) := by decide +kernel
theorem d_Law_law_261 : decode code 261 = .ok (.iconst 1, 1) := by decide +kernel
theorem d_Law_law_262 : decode code 262 = .ok (.iadd, 1) := by decide +kernel
theorem d_Law_law_263 : decode code 263 = .ok (.iaload, 1) := by decide +kernel
theorem d_Law_law_264 : decode code 264 = .ok (.aload_n 3, 1) := by decide +kernel
theorem d_Law_law_265 : decode code 265 = .ok (.invokestatic 54, 3) := by decide +kernel
theorem d_Law_law_268 : decode code 268 = .ok (.istore 5, 2) := by decide +kernel
theorem d_Law_law_270 : decode code 270 = .ok (.aload_n 2, 1) := by decide +kernel
theorem d_Law_law_271 : decode code 271 = .ok (.aload_n 0, 1) := by decide +kernel
theorem d_Law_law_272 : decode code 272 = .ok (.iload 4, 2) := by decide +kernel
theorem d_Law_law_274 : decode code 274 = .ok (.iconst 1, 1) := by decide +kernel
theorem d_Law_law_275 : decode code 275 = .ok (.iadd, 1) := by decide +kernel
theorem d_Law_law_276 : decode code 276 = .ok (.iaload, 1) := by decide +kernel
theorem d_Law_law_277 : decode code 277 = .ok (.invokevirtual 56, 3) := by decide +kernel
theorem d_Law_law_280 : decode code 280 = .ok (.istore 6, 2) := by decide +kernel
theorem d_Law_law_282 : decode code 282 = .ok (.aload_n 2, 1) := by decide +kernel
theorem d_Law_law_283 : decode code 283 = .ok (.invokevirtual 42, 3) := by decide +kernel
theorem d_Law_law_286 : decode code 286 = .ok (.iload 5, 2) := by decide +kernel
theorem d_Law_law_288 : decode code 288 = .ok (.if_icmp .eq 5, 3) := by decide +kernel
theorem d_Law_law_291 : decode code 291 = .ok (.iconst 0, 1) := by decide +kernel
theorem d_Law_law_292 : decode code 292 = .ok (.ireturn, 1) := by decide +kernel
theorem d_Law_law_293 : decode code 293 = .ok (.iload 5, 2) := by decide +kernel
theorem d_Law_law_295 : decode code 295 = .ok (.ifCond .ne 15, 3) := by decide +kernel
theorem d_Law_law_298 : decode code 298 = .ok (.aload_n 3, 1) := by decide +kernel
theorem d_Law_law_299 : decode code 299 = .ok (.iconst 0, 1) := by decide +kernel
theorem d_Law_law_300 : decode code 300 = .ok (.laload, 1) := by decide +kernel
theorem d_Law_law_301 : decode code 301 = .ok (.iload 6, 2) := by decide +kernel
theorem d_Law_law_303 : decode code 303 = .ok (.i2l, 1) := by decide +kernel
theorem d_Law_law_304 : decode code 304 = .ok (.lcmp, 1) := by decide +kernel
theorem d_Law_law_305 : decode code 305 = .ok (.ifCond .eq 5, 3) := by decide +kernel
theorem d_Law_law_308 : decode code 308 = .ok (.iconst 0, 1) := by decide +kernel
theorem d_Law_law_309 : decode code 309 = .ok (.ireturn, 1) := by decide +kernel
theorem d_Law_law_310 : decode code 310 = .ok (.goto 110, 3) := by decide +kernel
theorem d_Law_law_313 : decode code 313 = .ok (.aload_n 1, 1) := by decide +kernel
theorem d_Law_law_314 : decode code 314 = .ok (.aload_n 0, 1) := by decide +kernel
theorem d_Law_law_315 : decode code 315 = .ok (.iload 4, 2) := by decide +kernel
theorem d_Law_law_317 : decode code 317 = .ok (.iconst 1, 1) := by decide +kernel
theorem d_Law_law_318 : decode code 318 = .ok (.iadd, 1) := by decide +kernel
theorem d_Law_law_319 : decode code 319 = .ok (.iaload, 1) := by decide +kernel
theorem d_Law_law_320 : decode code 320 = .ok (.aload_n 0, 1) := by decide +kernel
theorem d_Law_law_321 : decode code 321 = .ok (.iload 4, 2) := by decide +kernel
theorem d_Law_law_323 : decode code 323 = .ok (.iconst 2, 1) := by decide +kernel
theorem d_Law_law_324 : decode code 324 = .ok (.iadd, 1) := by decide +kernel
theorem d_Law_law_325 : decode code 325 = .ok (.iaload, 1) := by decide +kernel
theorem d_Law_law_326 : decode code 326 = .ok (.aload_n 3, 1) := by decide +kernel
theorem d_Law_law_327 : decode code 327 = .ok (.invokestatic 57, 3) := by decide +kernel
theorem d_Law_law_330 : decode code 330 = .ok (.istore 5, 2) := by decide +kernel
theorem d_Law_law_332 : decode code 332 = .ok (.aload_n 2, 1) := by decide +kernel
theorem d_Law_law_333 : decode code 333 = .ok (.aload_n 0, 1) := by decide +kernel
theorem d_Law_law_334 : decode code 334 = .ok (.iload 4, 2) := by decide +kernel
theorem d_Law_law_336 : decode code 336 = .ok (.iconst 1, 1) := by decide +kernel
theorem d_Law_law_337 : decode code 337 = .ok (.iadd, 1) := by decide +kernel
theorem d_Law_law_338 : decode code 338 = .ok (.iaload, 1) := by decide +kernel
theorem d_Law_law_339 : decode code 339 = .ok (.aload_n 0, 1) := by decide +kernel
theorem d_Law_law_340 : decode code 340 = .ok (.iload 4, 2) := by decide +kernel
theorem d_Law_law_342 : decode code 342 = .ok (.iconst 2, 1) := by decide +kernel
theorem d_Law_law_343 : decode code 343 = .ok (.iadd, 1) := by decide +kernel
theorem d_Law_law_344 : decode code 344 = .ok (.iaload, 1) := by decide +kernel
theorem d_Law_law_345 : decode code 345 = .ok (.invokevirtual 60, 3) := by decide +kernel
theorem d_Law_law_348 : decode code 348 = .ok (.istore 6, 2) := by decide +kernel
theorem d_Law_law_350 : decode code 350 = .ok (.aload_n 2, 1) := by decide +kernel
theorem d_Law_law_351 : decode code 351 = .ok (.invokevirtual 42, 3) := by decide +kernel
theorem d_Law_law_354 : decode code 354 = .ok (.iload 5, 2) := by decide +kernel
theorem d_Law_law_356 : decode code 356 = .ok (.if_icmp .eq 5, 3) := by decide +kernel
theorem d_Law_law_359 : decode code 359 = .ok (.iconst 0, 1) := by decide +kernel
theorem d_Law_law_360 : decode code 360 = .ok (.ireturn, 1) := by decide +kernel
theorem d_Law_law_361 : decode code 361 = .ok (.iload 5, 2) := by decide +kernel
theorem d_Law_law_363 : decode code 363 = .ok (.ifCond .ne 15, 3) := by decide +kernel
theorem d_Law_law_366 : decode code 366 = .ok (.aload_n 3, 1) := by decide +kernel
theorem d_Law_law_367 : decode code 367 = .ok (.iconst 0, 1) := by decide +kernel
theorem d_Law_law_368 : decode code 368 = .ok (.laload, 1) := by decide +kernel
theorem d_Law_law_369 : decode code 369 = .ok (.iload 6, 2) := by decide +kernel
theorem d_Law_law_371 : decode code 371 = .ok (.i2l, 1) := by decide +kernel
theorem d_Law_law_372 : decode code 372 = .ok (.lcmp, 1) := by decide +kernel
theorem d_Law_law_373 : decode code 373 = .ok (.ifCond .eq 5, 3) := by decide +kernel
theorem d_Law_law_376 : decode code 376 = .ok (.iconst 0, 1) := by decide +kernel
theorem d_Law_law_377 : decode code 377 = .ok (.ireturn, 1) := by decide +kernel
theorem d_Law_law_378 : decode code 378 = .ok (.goto 42, 3) := by decide +kernel
theorem d_Law_law_381 : decode code 381 = .ok (.aload_n 1, 1) := by decide +kernel
theorem d_Law_law_382 : decode code 382 = .ok (.invokevirtual 61, 3) := by decide +kernel
theorem d_Law_law_385 : decode code 385 = .ok (.aload_n 2, 1) := by decide +kernel
theorem d_Law_law_386 : decode code 386 = .ok (.invokevirtual 65, 3) := by decide +kernel
theorem d_Law_law_389 : decode code 389 = .ok (.lcmp, 1) := by decide +kernel
theorem d_Law_law_390 : decode code 390 = .ok (.ifCond .eq 30, 3) := by decide +kernel
theorem d_Law_law_393 : decode code 393 = .ok (.iconst 0, 1) := by decide +kernel
theorem d_Law_law_394 : decode code 394 = .ok (.ireturn, 1) := by decide +kernel
theorem d_Law_law_395 : decode code 395 = .ok (.aload_n 1, 1) := by decide +kernel
theorem d_Law_law_396 : decode code 396 = .ok (.aload_n 0, 1) := by decide +kernel
theorem d_Law_law_397 : decode code 397 = .ok (.iload 4, 2) := by decide +kernel
theorem d_Law_law_399 : decode code 399 = .ok (.iconst 1, 1) := by decide +kernel
theorem d_Law_law_400 : decode code 400 = .ok (.iadd, 1) := by decide +kernel
theorem d_Law_law_401 : decode code 401 = .ok (.iaload, 1) := by decide +kernel
theorem d_Law_law_402 : decode code 402 = .ok (.invokevirtual 66, 3) := by decide +kernel
theorem d_Law_law_405 : decode code 405 = .ok (.aload_n 2, 1) := by decide +kernel
theorem d_Law_law_406 : decode code 406 = .ok (.aload_n 0, 1) := by decide +kernel
theorem d_Law_law_407 : decode code 407 = .ok (.iload 4, 2) := by decide +kernel
theorem d_Law_law_409 : decode code 409 = .ok (.iconst 1, 1) := by decide +kernel
theorem d_Law_law_410 : decode code 410 = .ok (.iadd, 1) := by decide +kernel
theorem d_Law_law_411 : decode code 411 = .ok (.iaload, 1) := by decide +kernel
theorem d_Law_law_412 : decode code 412 = .ok (.invokevirtual 69, 3) := by decide +kernel
theorem d_Law_law_415 : decode code 415 = .ok (.if_icmp .eq 5, 3) := by decide +kernel
theorem d_Law_law_418 : decode code 418 = .ok (.iconst 0, 1) := by decide +kernel
theorem d_Law_law_419 : decode code 419 = .ok (.ireturn, 1) := by decide +kernel
theorem d_Law_law_420 : decode code 420 = .ok (.iinc 4 6, 3) := by decide +kernel
theorem d_Law_law_423 : decode code 423 = .ok (.goto (-400), 3) := by decide +kernel
theorem d_Law_law_426 : decode code 426 = .ok (.iconst 1, 1) := by decide +kernel
theorem d_Law_law_427 : decode code 427 = .ok (.ireturn, 1) := by decide +kernel
