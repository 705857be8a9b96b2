theorem d_Mod_isInside_95 : decode prog_9_method_36_code 95 = .ok (.getfield 63, 3) := by decide +kernel
theorem d_Mod_isInside_98 : decode prog_9_method_36_code 98 = .ok (.iload 6, 2) := by decide +kernel
theorem d_Mod_isInside_100 : decode prog_9_method_36_code 100 = .ok (.iaload, 1) := by decide +kernel
theorem d_Mod_isInside_101 : decode prog_9_method_36_code 101 = .ok (.aload_n 0, 1) := by decide +kernel
theorem d_Mod_isInside_102 : decode prog_9_method_36_code 102 = .ok (.getfield 60, 3) := by decide +kernel
theorem d_Mod_isInside_105 : decode prog_9_method_36_code 105 = .ok (.iload 7, 2) := by decide +kernel
theorem d_Mod_isInside_107 : decode prog_9_method_36_code 107 = .ok (.iaload, 1) := by decide +kernel
theorem d_Mod_isInside_108 : decode prog_9_method_36_code 108 = .ok (.aload_n 0, 1) := by decide +kernel
theorem d_Mod_isInside_109 : decode prog_9_method_36_code 109 = .ok (.getfield 63, 3) := by decide +kernel
theorem d_Mod_isInside_112 : decode prog_9_method_36_code 112 = .ok (.iload 7, 2) := by decide +kernel
theorem d_Mod_isInside_114 : decode prog_9_method_36_code 114 = .ok (.iaload, 1) := by decide +kernel
theorem d_Mod_isInside_115 : decode prog_9_method_36_code 115 = .ok (.iload_n 1, 1) := by decide +kernel
theorem d_Mod_isInside_116 : decode prog_9_method_36_code 116 = .ok (.iload_n 2, 1) := by decide +kernel
theorem d_Mod_isInside_117 : decode prog_9_method_36_code 117 = .ok (.invokestatic 100, 3) := by decide +kernel
theorem d_Mod_isInside_120 : decode prog_9_method_36_code 120 = .ok (.ifCond .le 7, 3) := by decide +kernel
theorem d_Mod_isInside_123 : decode prog_9_method_36_code 123 = .ok (.iconst 1, 1) := by decide +kernel
theorem d_Mod_isInside_124 : decode prog_9_method_36_code 124 = .ok (.goto 4, 3) := by decide +kernel
theorem d_Mod_isInside_127 : decode prog_9_method_36_code 127 = .ok (.iconst 0, 1) := by decide +kernel
theorem d_Mod_isInside_128 : decode prog_9_method_36_code 128 = .ok (.iload 8, 2) := by decide +kernel
theorem d_Mod_isInside_130 : decode prog_9_method_36_code 130 = .ok (.if_icmp .ne 15, 3) := by decide +kernel
theorem d_Mod_isInside_133 : decode prog_9_method_36_code 133 = .ok (.iload 4, 2) := by decide +kernel
theorem d_Mod_isInside_135 : decode prog_9_method_36_code 135 = .ok (.ifCond .ne 7, 3) := by decide +kernel
theorem d_Mod_isInside_138 : decode prog_9_method_36_code 138 = .ok (.iconst 1, 1) := by decide +kernel
theorem d_Mod_isInside_139 : decode prog_9_method_36_code 139 = .ok (.goto 4, 3) := by decide +kernel
theorem d_Mod_isInside_142 : decode prog_9_method_36_code 142 = .ok (.iconst 0, 1) := by decide +kernel
theorem d_Mod_isInside_143 : decode prog_9_method_36_code 143 = .ok (.istore 4, 2) := by decide +kernel
theorem d_Mod_isInside_145 : decode prog_9_method_36_code 145 = .ok (.iinc 5 1, 3) := by decide +kernel
theorem d_Mod_isInside_148 : decode prog_9_method_36_code 148 = .ok (.goto (-142), 3) := by decide +kernel
theorem d_Mod_isInside_151 : decode prog_9_method_36_code 151 = .ok (.iload 4, 2) := by decide +kernel
theorem d_Mod_isInside_153 : decode prog_9_method_36_code 153 = .ok (.ireturn, 1) := by decide +kernel
theorem d_Mod_liesIn_0 : decode prog_9_method_37_code 0 = .ok (.aload_n 0, 1) := by decide +kernel
theorem d_Mod_liesIn_1 : decode prog_9_method_37_code 1 = .ok (.getfield 47, 3) := by decide +kernel
theorem d_Mod_liesIn_4 : decode prog_9_method_37_code 4 = .ok (.iload_n 1, 1) := by decide +kernel
theorem d_Mod_liesIn_5 : decode prog_9_method_37_code 5 = .ok (.iaload, 1) := by decide +kernel
theorem d_Mod_liesIn_6 : decode prog_9_method_37_code 6 = .ok (.istore_n 3, 1) := by decide +kernel
theorem d_Mod_liesIn_7 : decode prog_9_method_37_code 7 = .ok (.iload_n 3, 1) := by decide +kernel
theorem d_Mod_liesIn_8 : decode prog_9_method_37_code 8 = .ok (.aload_n 0, 1) := by decide +kernel
theorem d_Mod_liesIn_9 : decode prog_9_method_37_code 9 = .ok (.getfield 47, 3) := by decide +kernel
theorem d_Mod_liesIn_12 : decode prog_9_method_37_code 12 = .ok (.iload_n 1, 1) := by decide +kernel
theorem d_Mod_liesIn_13 : decode prog_9_method_37_code 13 = .ok (.iaload, 1) := by decide +kernel
theorem d_Mod_liesIn_14 : decode prog_9_method_37_code 14 = .ok (.aload_n 0, 1) := by decide +kernel
theorem d_Mod_liesIn_15 : decode prog_9_method_37_code 15 = .ok (.getfield 50, 3) := by decide +kernel
theorem d_Mod_liesIn_18 : decode prog_9_method_37_code 18 = .ok (.iload_n 1, 1) := by decide +kernel
theorem d_Mod_liesIn_19 : decode prog_9_method_37_code 19 = .ok (.iaload, 1) := by decide +kernel
theorem d_Mod_liesIn_20 : decode prog_9_method_37_code 20 = .ok (.iadd, 1) := by decide +kernel
theorem d_Mod_liesIn_21 : decode prog_9_method_37_code 21 = .ok (.if_icmp .ge 47, 3) := by decide +kernel
theorem d_Mod_liesIn_24 : decode prog_9_method_37_code 24 = .ok (.aload_n 0, 1) := by decide +kernel
theorem d_Mod_liesIn_25 : decode prog_9_method_37_code 25 = .ok (.aload_n 0, 1) := by decide +kernel
theorem d_Mod_liesIn_26 : decode prog_9_method_37_code 26 = .ok (.getfield 60, 3) := by decide +kernel
theorem d_Mod_liesIn_29 : decode prog_9_method_37_code 29 = .ok (.iload_n 3, 1) := by decide +kernel
theorem d_Mod_liesIn_30 : decode prog_9_method_37_code 30 = .ok (.iaload, 1) := by decide +kernel
theorem d_Mod_liesIn_31 : decode prog_9_method_37_code 31 = .ok (.aload_n 0, 1) := by decide +kernel
theorem d_Mod_liesIn_32 : decode prog_9_method_37_code 32 = .ok (.getfield 63, 3) := by decide +kernel
theorem d_Mod_liesIn_35 : decode prog_9_method_37_code 35 = .ok (.iload_n 3, 1) := by decide +kernel
theorem d_Mod_liesIn_36 : decode prog_9_method_37_code 36 = .ok (.iaload, 1) := by decide +kernel
theorem d_Mod_liesIn_37 : decode prog_9_method_37_code 37 = .ok (.iload_n 2, 1) := by decide +kernel
theorem d_Mod_liesIn_38 : decode prog_9_method_37_code 38 = .ok (.invokevirtual 193, 3) := by decide +kernel
theorem d_Mod_liesIn_41 : decode prog_9_method_37_code 41 = .ok (.ifCond .ne 21, 3) := by decide +kernel
theorem d_Mod_liesIn_44 : decode prog_9_method_37_code 44 = .ok (.aload_n 0, 1) := by decide +kernel
theorem d_Mod_liesIn_45 : decode prog_9_method_37_code 45 = .ok (.aload_n 0, 1) := by decide +kernel
theorem d_Mod_liesIn_46 : decode prog_9_method_37_code 46 = .ok (.getfield 60, 3) := by decide +kernel
theorem d_Mod_liesIn_49 : decode prog_9_method_37_code 49 = .ok (.iload_n 3, 1) := by decide +kernel
theorem d_Mod_liesIn_50 : decode prog_9_method_37_code 50 = .ok (.iaload, 1) := by decide +kernel
theorem d_Mod_liesIn_51 : decode prog_9_method_37_code 51 = .ok (.aload_n 0, 1) := by decide +kernel
theorem d_Mod_liesIn_52 : decode prog_9_method_37_code 52 = .ok (.getfield 63, 3) := by decide +kernel
theorem d_Mod_liesIn_55 : decode prog_9_method_37_code 55 = .ok (.iload_n 3, 1) := by decide +kernel
theorem d_Mod_liesIn_56 : decode prog_9_method_37_code 56 = .ok (.iaload, 1) := by decide +kernel
theorem d_Mod_liesIn_57 : decode prog_9_method_37_code 57 = .ok (.iload_n 2, 1) := by decide +kernel
theorem d_Mod_liesIn_58 : decode prog_9_method_37_code 58 = .ok (.invokevirtual 196, 3) := by decide +kernel
theorem d_Mod_liesIn_61 : decode prog_9_method_37_code 61 = .ok (.ireturn, 1) := by decide +kernel
theorem d_Mod_liesIn_62 : decode prog_9_method_37_code 62 = .ok (.iinc 3 1, 3) := by decide +kernel
theorem d_Mod_liesIn_65 : decode prog_9_method_37_code 65 = .ok (.goto (-58), 3) := by decide +kernel
theorem d_Mod_liesIn_68 : decode prog_9_method_37_code 68 = .ok (.iconst 0, 1) := by decide +kernel
theorem d_Mod_liesIn_69 : decode prog_9_method_37_code 69 = .ok (.ireturn, 1) := by decide +kernel
theorem d_Mod_findOwners_0 : decode prog_9_method_38_code 0 = .ok (.iconst 0, 1) := by decide +kernel
theorem d_Mod_findOwners_1 : decode prog_9_method_38_code 1 = .ok (.istore_n 1, 1) := by decide +kernel
theorem d_Mod_findOwners_2 : decode prog_9_method_38_code 2 = .ok (.iload_n 1, 1) := by decide +kernel
theorem d_Mod_findOwners_3 : decode prog_9_method_38_code 3 = .ok (.aload_n 0, 1) := by decide +kernel
theorem d_Mod_findOwners_4 : decode prog_9_method_38_code 4 = .ok (.getfield 184, 3) := by decide +kernel
theorem d_Mod_findOwners_7 : decode prog_9_method_38_code 7 = .ok (.if_icmp .ge 116, 3) := by decide +kernel
theorem d_Mod_findOwners_10 : decode prog_9_method_38_code 10 = .ok (.aload_n 0, 1) := by decide +kernel
theorem d_Mod_findOwners_11 : decode prog_9_method_38_code 11 = .ok (.getfield 57, 3) := by decide +kernel
theorem d_Mod_findOwners_14 : decode prog_9_method_38_code 14 = .ok (.iload_n 1, 1) := by decide +kernel
theorem d_Mod_findOwners_15 : decode prog_9_method_38_code 15 = .ok (.iconst (-1), 1) := by decide +kernel
theorem d_Mod_findOwners_16 : decode prog_9_method_38_code 16 = .ok (.iastore, 1) := by decide +kernel
theorem d_Mod_findOwners_17 : decode prog_9_method_38_code 17 = .ok (.iconst 0, 1) := by decide +kernel
theorem d_Mod_findOwners_18 : decode prog_9_method_38_code 18 = .ok (.istore_n 2, 1) := by decide +kernel
theorem d_Mod_findOwners_19 : decode prog_9_method_38_code 19 = .ok (.iload_n 2, 1) := by decide +kernel
theorem d_Mod_findOwners_20 : decode prog_9_method_38_code 20 = .ok (.aload_n 0, 1) := by decide +kernel
theorem d_Mod_findOwners_21 : decode prog_9_method_38_code 21 = .ok (.getfield 184, 3) := by decide +kernel
theorem d_Mod_findOwners_24 : decode prog_9_method_38_code 24 = .ok (.if_icmp .ge 93, 3) := by decide +kernel
theorem d_Mod_findOwners_27 : decode prog_9_method_38_code 27 = .ok (.aload_n 0, 1) := by decide +kernel
theorem d_Mod_findOwners_28 : decode prog_9_method_38_code 28 = .ok (.getfield 53, 3) := by decide +kernel
theorem d_Mod_findOwners_31 : decode prog_9_method_38_code 31 = .ok (.iload_n 1, 1) := by decide +kernel
theorem d_Mod_findOwners_32 : decode prog_9_method_38_code 32 = .ok (.laload, 1) := by decide +kernel
theorem d_Mod_findOwners_33 : decode prog_9_method_38_code 33 = .ok (.lconst 0, 1) := by decide +kernel
theorem d_Mod_findOwners_34 : decode prog_9_method_38_code 34 = .ok (.lcmp, 1) := by decide +kernel
theorem d_Mod_findOwners_35 : decode prog_9_method_38_code 35 = .ok (.ifCond .ge 82, 3) := by decide +kernel
theorem d_Mod_findOwners_38 : decode prog_9_method_38_code 38 = .ok (.aload_n 0, 1) := by decide +kernel
theorem d_Mod_findOwners_39 : decode prog_9_method_38_code 39 = .ok (.getfield 57, 3) := by decide +kernel
theorem d_Mod_findOwners_42 : decode prog_9_method_38_code 42 = .ok (.iload_n 1, 1) := by decide +kernel
theorem d_Mod_findOwners_43 : decode prog_9_method_38_code 43 = .ok (.iaload, 1) := by decide +kernel
theorem d_Mod_findOwners_44 : decode prog_9_method_38_code 44 = .ok (.ifCond .lt 24, 3) := by decide +kernel
theorem d_Mod_findOwners_47 : decode prog_9_method_38_code 47 = .ok (.aload_n 0, 1) := by decide +kernel
theorem d_Mod_findOwners_48 : decode prog_9_method_38_code 48 = .ok (.getfield 53, 3) := by decide +kernel
theorem d_Mod_findOwners_51 : decode prog_9_method_38_code 51 = .ok (.iload_n 2, 1) := by decide +kernel
theorem d_Mod_findOwners_52 : decode prog_9_method_38_code 52 = .ok (.laload, 1) := by decide +kernel
theorem d_Mod_findOwners_53 : decode prog_9_method_38_code 53 = .ok (.aload_n 0, 1) := by decide +kernel
theorem d_Mod_findOwners_54 : decode prog_9_method_38_code 54 = .ok (.getfield 53, 3) := by decide +kernel
theorem d_Mod_findOwners_57 : decode prog_9_method_38_code 57 = .ok (.aload_n 0, 1) := by decide +kernel
theorem d_Mod_findOwners_58 : decode prog_9_method_38_code 58 = .ok (.getfield 57, 3) := by decide +kernel
theorem d_Mod_findOwners_61 : decode prog_9_method_38_code 61 = .ok (.iload_n 1, 1) := by decide +kernel
theorem d_Mod_findOwners_62 : decode prog_9_method_38_code 62 = .ok (.iaload, 1) := by decide +kernel
theorem d_Mod_findOwners_63 : decode prog_9_method_38_code 63 = .ok (.laload, 1) := by decide +kernel
theorem d_Mod_findOwners_64 : decode prog_9_method_38_code 64 = .ok (.lcmp, 1) := by decide +kernel
theorem d_Mod_findOwners_65 : decode prog_9_method_38_code 65 = .ok (.ifCond .ge 7, 3) := by decide +kernel
theorem d_Mod_findOwners_68 : decode prog_9_method_38_code 68 = .ok (.iconst 1, 1) := by decide +kernel
theorem d_Mod_findOwners_69 : decode prog_9_method_38_code 69 = .ok (.goto 4, 3) := by decide +kernel
theorem d_Mod_findOwners_72 : decode prog_9_method_38_code 72 = .ok (.iconst 0, 1) := by decide +kernel
theorem d_Mod_findOwners_73 : decode prog_9_method_38_code 73 = .ok (.istore_n 3, 1) := by decide +kernel
theorem d_Mod_findOwners_74 : decode prog_9_method_38_code 74 = .ok (.aload_n 0, 1) := by decide +kernel
theorem d_Mod_findOwners_75 : decode prog_9_method_38_code 75 = .ok (.getfield 53, 3) := by decide +kernel
theorem d_Mod_findOwners_78 : decode prog_9_method_38_code 78 = .ok (.iload_n 2, 1) := by decide +kernel
theorem d_Mod_findOwners_79 : decode prog_9_method_38_code 79 = .ok (.laload, 1) := by decide +kernel
theorem d_Mod_findOwners_80 : decode prog_9_method_38_code 80 = .ok (.aload_n 0, 1) := by decide +kernel
theorem d_Mod_findOwners_81 : decode prog_9_method_38_code 81 = .ok (.getfield 53, 3) := by decide +kernel
theorem d_Mod_findOwners_84 : decode prog_9_method_38_code 84 = .ok (.iload_n 1, 1) := by decide +kernel
theorem d_Mod_findOwners_85 : decode prog_9_method_38_code 85 = .ok (.laload, 1) := by decide +kernel
theorem d_Mod_findOwners_86 : decode prog_9_method_38_code 86 = .ok (.lneg, 1) := by decide +kernel
theorem d_Mod_findOwners_87 : decode prog_9_method_38_code 87 = .ok (.lcmp, 1) := by decide +kernel
theorem d_Mod_findOwners_88 : decode prog_9_method_38_code 88 = .ok (.ifCond .le 23, 3) := by decide +kernel
theorem d_Mod_findOwners_91 : decode prog_9_method_38_code 91 = .ok (.iload_n 3, 1) := by decide +kernel
theorem d_Mod_findOwners_92 : decode prog_9_method_38_code 92 = .ok (.ifCond .eq 19, 3) := by decide +kernel
theorem d_Mod_findOwners_95 : decode prog_9_method_38_code 95 = .ok (.aload_n 0, 1) := by decide +kernel
theorem d_Mod_findOwners_96 : decode prog_9_method_38_code 96 = .ok (.iload_n 1, 1) := by decide +kernel
theorem d_Mod_findOwners_97 : decode prog_9_method_38_code 97 = .ok (.iload_n 2, 1) := by decide +kernel
theorem d_Mod_findOwners_98 : decode prog_9_method_38_code 98 = .ok (.invokevirtual 199, 3) := by decide +kernel
theorem d_Mod_findOwners_101 : decode prog_9_method_38_code 101 = .ok (.ifCond .eq 10, 3) := by decide +kernel
theorem d_Mod_findOwners_104 : decode prog_9_method_38_code 104 = .ok (.aload_n 0, 1) := by decide +kernel
theorem d_Mod_findOwners_105 : decode prog_9_method_38_code 105 = .ok (.getfield 57, 3) := by decide +kernel
theorem d_Mod_findOwners_108 : decode prog_9_method_38_code 108 = .ok (.iload_n 1, 1) := by decide +kernel
theorem d_Mod_findOwners_109 : decode prog_9_method_38_code 109 = .ok (.iload_n 2, 1) := by decide +kernel
theorem d_Mod_findOwners_110 : decode prog_9_method_38_code 110 = .ok (.iastore, 1) := by decide +kernel
theorem d_Mod_findOwners_111 : decode prog_9_method_38_code 111 = .ok (.iinc 2 1, 3) := by decide +kernel
theorem d_Mod_findOwners_114 : decode prog_9_method_38_code 114 = .ok (.goto (-95), 3) := by decide +kernel
theorem d_Mod_findOwners_117 : decode prog_9_method_38_code 117 = .ok (.iinc 1 1, 3) := by decide +kernel
theorem d_Mod_findOwners_120 : decode prog_9_method_38_code 120 = .ok (.goto (-118), 3) := by decide +kernel
theorem d_Mod_findOwners_123 : decode prog_9_method_38_code 123 = .ok (.return_, 1) := by decide +kernel
theorem d_Mod_isLess_0 : decode prog_9_method_39_code 0 = .ok (.aload_n 0, 1) := by decide +kernel
theorem d_Mod_isLess_1 : decode prog_9_method_39_code 1 = .ok (.getfield 60, 3) := by decide +kernel
theorem d_Mod_isLess_4 : decode prog_9_method_39_code 4 = .ok (.iload_n 1, 1) := by decide +kernel
theorem d_Mod_isLess_5 : decode prog_9_method_39_code 5 = .ok (.iaload, 1) := by decide +kernel
theorem d_Mod_isLess_6 : decode prog_9_method_39_code 6 = .ok (.aload_n 0, 1) := by decide +kernel
theorem d_Mod_isLess_7 : decode prog_9_method_39_code 7 = .ok (.getfield 60, 3) := by decide +kernel
theorem d_Mod_isLess_10 : decode prog_9_method_39_code 10 = .ok (.iload_n 2, 1) := by decide +kernel
theorem d_Mod_isLess_11 : decode prog_9_method_39_code 11 = .ok (.iaload, 1) := by decide +kernel
theorem d_Mod_isLess_12 : decode prog_9_method_39_code 12 = .ok (.if_icmp .lt 33, 3) := by decide +kernel
theorem d_Mod_isLess_15 : decode prog_9_method_39_code 15 = .ok (.aload_n 0, 1) := by decide +kernel
theorem d_Mod_isLess_16 : decode prog_9_method_39_code 16 = .ok (.getfield 60, 3) := by decide +kernel
theorem d_Mod_isLess_19 : decode prog_9_method_39_code 19 = .ok (.iload_n 1, 1) := by decide +kernel
theorem d_Mod_isLess_20 : decode prog_9_method_39_code 20 = .ok (.iaload, 1) := by decide +kernel
theorem d_Mod_isLess_21 : decode prog_9_method_39_code 21 = .ok (.aload_n 0, 1) := by decide +kernel
theorem d_Mod_isLess_22 : decode prog_9_method_39_code 22 = .ok (.getfield 60, 3) := by decide +kernel
theorem d_Mod_isLess_25 : decode prog_9_method_39_code 25 = .ok (.iload_n 2, 1) := by decide +kernel
theorem d_Mod_isLess_26 : decode prog_9_method_39_code 26 = .ok (.iaload, 1) := by decide +kernel
theorem d_Mod_isLess_27 : decode prog_9_method_39_code 27 = .ok (.if_icmp .ne 22, 3) := by decide +kernel
theorem d_Mod_isLess_30 : decode prog_9_method_39_code 30 = .ok (.aload_n 0, 1) := by decide +kernel
theorem d_Mod_isLess_31 : decode prog_9_method_39_code 31 = .ok (.getfield 63, 3) := by decide +kernel
theorem d_Mod_isLess_34 : decode prog_9_method_39_code 34 = .ok (.iload_n 1, 1) := by decide +kernel
theorem d_Mod_isLess_35 : decode prog_9_method_39_code 35 = .ok (.iaload, 1) := by decide +kernel
theorem d_Mod_isLess_36 : decode prog_9_method_39_code 36 = .ok (.aload_n 0, 1) := by decide +kernel
theorem d_Mod_isLess_37 : decode prog_9_method_39_code 37 = .ok (.getfield 63, 3) := by decide +kernel
theorem d_Mod_isLess_40 : decode prog_9_method_39_code 40 = .ok (.iload_n 2, 1) := by decide +kernel
theorem d_Mod_isLess_41 : decode prog_9_method_39_code 41 = .ok (.iaload, 1) := by decide +kernel
theorem d_Mod_isLess_42 : decode prog_9_method_39_code 42 = .ok (.if_icmp .ge 7, 3) := by decide +kernel
theorem d_Mod_isLess_45 : decode prog_9_method_39_code 45 = .ok (.iconst 1, 1) := by decide +kernel
theorem d_Mod_isLess_46 : decode prog_9_method_39_code 46 = .ok (.goto 4, 3) := by decide +kernel
theorem d_Mod_isLess_49 : decode prog_9_method_39_code 49 = .ok (.iconst 0, 1) := by decide +kernel
theorem d_Mod_isLess_50 : decode prog_9_method_39_code 50 = .ok (.ireturn, 1) := by decide +kernel
theorem d_Mod_same_0 : decode prog_9_method_40_code 0 = .ok (.aload_n 0, 1) := by decide +kernel
theorem d_Mod_same_1 : decode prog_9_method_40_code 1 = .ok (.getfield 60, 3) := by decide +kernel
theorem d_Mod_same_4 : decode prog_9_method_40_code 4 = .ok (.iload_n 1, 1) := by decide +kernel
theorem d_Mod_same_5 : decode prog_9_method_40_code 5 = .ok (.iaload, 1) := by decide +kernel
theorem d_Mod_same_6 : decode prog_9_method_40_code 6 = .ok (.aload_n 0, 1) := by decide +kernel
theorem d_Mod_same_7 : decode prog_9_method_40_code 7 = .ok (.getfield 60, 3) := by decide +kernel
theorem d_Mod_same_10 : decode prog_9_method_40_code 10 = .ok (.iload_n 2, 1) := by decide +kernel
theorem d_Mod_same_11 : decode prog_9_method_40_code 11 = .ok (.iaload, 1) := by decide +kernel
theorem d_Mod_same_12 : decode prog_9_method_40_code 12 = .ok (.if_icmp .ne 22, 3) := by decide +kernel
theorem d_Mod_same_15 : decode prog_9_method_40_code 15 = .ok (.aload_n 0, 1) := by decide +kernel
theorem d_Mod_same_16 : decode prog_9_method_40_code 16 = .ok (.getfield 63, 3) := by decide +kernel
theorem d_Mod_same_19 : decode prog_9_method_40_code 19 = .ok (.iload_n 1, 1) := by decide +kernel
theorem d_Mod_same_20 : decode prog_9_method_40_code 20 = .ok (.iaload, 1) := by decide +kernel
theorem d_Mod_same_21 : decode prog_9_method_40_code 21 = .ok (.aload_n 0, 1) := by decide +kernel
theorem d_Mod_same_22 : decode prog_9_method_40_code 22 = .ok (.getfield 63, 3) := by decide +kernel
theorem d_Mod_same_25 : decode prog_9_method_40_code 25 = .ok (.iload_n 2, 1) := by decide +kernel
theorem d_Mod_same_26 : decode prog_9_method_40_code 26 = .ok (.iaload, 1) := by decide +kernel
theorem d_Mod_same_27 : decode prog_9_method_40_code 27 = .ok (.if_icmp .ne 7, 3) := by decide +kernel
theorem d_Mod_same_30 : decode prog_9_method_40_code 30 = .ok (.iconst 1, 1) := by decide +kernel
theorem d_Mod_same_31 : decode prog_9_method_40_code 31 = .ok (.goto 4, 3) := by decide +kernel
theorem d_Mod_same_34 : decode prog_9_method_40_code 34 = .ok (.iconst 0, 1) := by decide +kernel
theorem d_Mod_same_35 : decode prog_9_method_40_code 35 = .ok (.ireturn, 1) := by decide +kernel
theorem d_Mod_isBefore_0 : decode prog_9_method_41_code 0 = .ok (.aload_n 0, 1) := by decide +kernel
theorem d_Mod_isBefore_1 : decode prog_9_method_41_code 1 = .ok (.getfield 47, 3) := by decide +kernel
theorem d_Mod_isBefore_4 : decode prog_9_method_41_code 4 = .ok (.iload_n 1, 1) := by decide +kernel
theorem d_Mod_isBefore_5 : decode prog_9_method_41_code 5 = .ok (.iaload, 1) := by decide +kernel
theorem d_Mod_isBefore_6 : decode prog_9_method_41_code 6 = .ok (.istore_n 3, 1) := by decide +kernel
theorem d_Mod_isBefore_7 : decode prog_9_method_41_code 7 = .ok (.aload_n 0, 1) := by decide +kernel
theorem d_Mod_isBefore_8 : decode prog_9_method_41_code 8 = .ok (.getfield 47, 3) := by decide +kernel
theorem d_Mod_isBefore_11 : decode prog_9_method_41_code 11 = .ok (.iload_n 2, 1) := by decide +kernel
theorem d_Mod_isBefore_12 : decode prog_9_method_41_code 12 = .ok (.iaload, 1) := by decide +kernel
theorem d_Mod_isBefore_13 : decode prog_9_method_41_code 13 = .ok (.istore 4, 2) := by decide +kernel
theorem d_Mod_isBefore_15 : decode prog_9_method_41_code 15 = .ok (.aload_n 0, 1) := by decide +kernel
theorem d_Mod_isBefore_16 : decode prog_9_method_41_code 16 = .ok (.iload_n 3, 1) := by decide +kernel
theorem d_Mod_isBefore_17 : decode prog_9_method_41_code 17 = .ok (.iload 4, 2) := by decide +kernel
theorem d_Mod_isBefore_19 : decode prog_9_method_41_code 19 = .ok (.invokevirtual 202, 3) := by decide +kernel
theorem d_Mod_isBefore_22 : decode prog_9_method_41_code 22 = .ok (.ifCond .eq 17, 3) := by decide +kernel
theorem d_Mod_isBefore_25 : decode prog_9_method_41_code 25 = .ok (.aload_n 0, 1) := by decide +kernel
theorem d_Mod_isBefore_26 : decode prog_9_method_41_code 26 = .ok (.iload_n 3, 1) := by decide +kernel
theorem d_Mod_isBefore_27 : decode prog_9_method_41_code 27 = .ok (.iconst 1, 1) := by decide +kernel
theorem d_Mod_isBefore_28 : decode prog_9_method_41_code 28 = .ok (.iadd, 1) := by decide +kernel
theorem d_Mod_isBefore_29 : decode prog_9_method_41_code 29 = .ok (.iload 4, 2) := by decide +kernel
theorem d_Mod_isBefore_31 : decode prog_9_method_41_code 31 = .ok (.iconst 1, 1) := by decide +kernel
theorem d_Mod_isBefore_32 : decode prog_9_method_41_code 32 = .ok (.iadd, 1) := by decide +kernel
theorem d_Mod_isBefore_33 : decode prog_9_method_41_code 33 = .ok (.invokevirtual 205, 3) := by decide +kernel
theorem d_Mod_isBefore_36 : decode prog_9_method_41_code 36 = .ok (.goto 10, 3) := by decide +kernel
theorem d_Mod_isBefore_39 : decode prog_9_method_41_code 39 = .ok (.aload_n 0, 1) := by decide +kernel
theorem d_Mod_isBefore_40 : decode prog_9_method_41_code 40 = .ok (.iload_n 3, 1) := by decide +kernel
theorem d_Mod_isBefore_41 : decode prog_9_method_41_code 41 = .ok (.iload 4, 2) := by decide +kernel
theorem d_Mod_isBefore_43 : decode prog_9_method_41_code 43 = .ok (.invokevirtual 205, 3) := by decide +kernel
theorem d_Mod_isBefore_46 : decode prog_9_method_41_code 46 = .ok (.ireturn, 1) := by decide +kernel
theorem d_Mod_behind_0 : decode prog_9_method_42_code 0 = .ok (.iconst (-1), 1) := by decide +kernel
theorem d_Mod_behind_1 : decode prog_9_method_42_code 1 = .ok (.istore_n 3, 1) := by decide +kernel
theorem d_Mod_behind_2 : decode prog_9_method_42_code 2 = .ok (.iconst 0, 1) := by decide +kernel
theorem d_Mod_behind_3 : decode prog_9_method_42_code 3 = .ok (.istore 4, 2) := by decide +kernel
theorem d_Mod_behind_5 : decode prog_9_method_42_code 5 = .ok (.iload 4, 2) := by decide +kernel
theorem d_Mod_behind_7 : decode prog_9_method_42_code 7 = .ok (.aload_n 0, 1) := by decide +kernel
theorem d_Mod_behind_8 : decode prog_9_method_42_code 8 = .ok (.getfield 184, 3) := by decide +kernel
theorem d_Mod_behind_11 : decode prog_9_method_42_code 11 = .ok (.if_icmp .ge 99, 3) := by decide +kernel
theorem d_Mod_behind_14 : decode prog_9_method_42_code 14 = .ok (.iload_n 1, 1) := by decide +kernel
theorem d_Mod_behind_15 : decode prog_9_method_42_code 15 = .ok (.ifCond .ge 23, 3) := by decide +kernel
theorem d_Mod_behind_18 : decode prog_9_method_42_code 18 = .ok (.aload_n 0, 1) := by decide +kernel
theorem d_Mod_behind_19 : decode prog_9_method_42_code 19 = .ok (.getfield 53, 3) := by decide +kernel
theorem d_Mod_behind_22 : decode prog_9_method_42_code 22 = .ok (.iload 4, 2) := by decide +kernel
theorem d_Mod_behind_24 : decode prog_9_method_42_code 24 = .ok (.laload, 1) := by decide +kernel
theorem d_Mod_behind_25 : decode prog_9_method_42_code 25 = .ok (.lconst 0, 1) := by decide +kernel
theorem d_Mod_behind_26 : decode prog_9_method_42_code 26 = .ok (.lcmp, 1) := by decide +kernel
theorem d_Mod_behind_27 : decode prog_9_method_42_code 27 = .ok (.ifCond .le 7, 3) := by decide +kernel
theorem d_Mod_behind_30 : decode prog_9_method_42_code 30 = .ok (.iconst 1, 1) := by decide +kernel
theorem d_Mod_behind_31 : decode prog_9_method_42_code 31 = .ok (.goto 35, 3) := by decide +kernel
theorem d_Mod_behind_34 : decode prog_9_method_42_code 34 = .ok (.iconst 0, 1) := by decide +kernel
theorem d_Mod_behind_35 : decode prog_9_method_42_code 35 = .ok (.goto 31, 3) := by decide +kernel
theorem d_Mod_behind_38 : decode prog_9_method_42_code 38 = .ok (.aload_n 0, 1) := by decide +kernel
theorem d_Mod_behind_39 : decode prog_9_method_42_code 39 = .ok (.getfield 53, 3) := by decide +kernel
theorem d_Mod_behind_42 : decode prog_9_method_42_code 42 = .ok (.iload 4, 2) := by decide +kernel
theorem d_Mod_behind_44 : decode prog_9_method_42_code 44 = .ok (.laload, 1) := by decide +kernel
theorem d_Mod_behind_45 : decode prog_9_method_42_code 45 = .ok (.lconst 0, 1) := by decide +kernel
theorem d_Mod_behind_46 : decode prog_9_method_42_code 46 = .ok (.lcmp, 1) := by decide +kernel
theorem d_Mod_behind_47 : decode prog_9_method_42_code 47 = .ok (.ifCond .ge 18, 3) := by decide +kernel
theorem d_Mod_behind_50 : decode prog_9_method_42_code 50 = .ok (.aload_n 0, 1) := by decide +kernel
theorem d_Mod_behind_51 : decode prog_9_method_42_code 51 = .ok (.getfield 57, 3) := by decide +kernel
theorem d_Mod_behind_54 : decode prog_9_method_42_code 54 = .ok (.iload 4, 2) := by decide +kernel
theorem d_Mod_behind_56 : decode prog_9_method_42_code 56 = .ok (.iaload, 1) := by decide +kernel
theorem d_Mod_behind_57 : decode prog_9_method_42_code 57 = .ok (.iload_n 1, 1) := by decide +kernel
theorem d_Mod_behind_58 : decode prog_9_method_42_code 58 = .ok (.if_icmp .ne 7, 3) := by decide +kernel
theorem d_Mod_behind_61 : decode prog_9_method_42_code 61 = .ok (.iconst 1, 1) := by decide +kernel
theorem d_Mod_behind_62 : decode prog_9_method_42_code 62 = .ok (.goto 4, 3) := by decide +kernel
theorem d_Mod_behind_65 : decode prog_9_method_42_code 65 = .ok (.iconst 0, 1) := by decide +kernel
theorem d_Mod_behind_66 : decode prog_9_method_42_code 66 = .ok (.istore 5, 2) := by decide +kernel
theorem d_Mod_behind_68 : decode prog_9_method_42_code 68 = .ok (.iload 5, 2) := by decide +kernel
theorem d_Mod_behind_70 : decode prog_9_method_42_code 70 = .ok (.ifCond .eq 34, 3) := by decide +kernel
theorem d_Mod_behind_73 : decode prog_9_method_42_code 73 = .ok (.iload_n 2, 1) := by decide +kernel
theorem d_Mod_behind_74 : decode prog_9_method_42_code 74 = .ok (.ifCond .lt 13, 3) := by decide +kernel
theorem d_Mod_behind_77 : decode prog_9_method_42_code 77 = .ok (.aload_n 0, 1) := by decide +kernel
theorem d_Mod_behind_78 : decode prog_9_method_42_code 78 = .ok (.iload_n 2, 1) := by decide +kernel
theorem d_Mod_behind_79 : decode prog_9_method_42_code 79 = .ok (.iload 4, 2) := by decide +kernel
theorem d_Mod_behind_81 : decode prog_9_method_42_code 81 = .ok (.invokevirtual 208, 3) := by decide +kernel
theorem d_Mod_behind_84 : decode prog_9_method_42_code 84 = .ok (.ifCond .eq 20, 3) := by decide +kernel
theorem d_Mod_behind_87 : decode prog_9_method_42_code 87 = .ok (.iload_n 3, 1) := by decide +kernel
theorem d_Mod_behind_88 : decode prog_9_method_42_code 88 = .ok (.ifCond .lt 13, 3) := by decide +kernel
theorem d_Mod_behind_91 : decode prog_9_method_42_code 91 = .ok (.aload_n 0, 1) := by decide +kernel
theorem d_Mod_behind_92 : decode prog_9_method_42_code 92 = .ok (.iload 4, 2) := by decide +kernel
theorem d_Mod_behind_94 : decode prog_9_method_42_code 94 = .ok (.iload_n 3, 1) := by decide +kernel
theorem d_Mod_behind_95 : decode prog_9_method_42_code 95 = .ok (.invokevirtual 208, 3) := by decide +kernel
theorem d_Mod_behind_98 : decode prog_9_method_42_code 98 = .ok (.ifCond .eq 6, 3) := by decide +kernel
theorem d_Mod_behind_101 : decode prog_9_method_42_code 101 = .ok (.iload 4, 2) := by decide +kernel
theorem d_Mod_behind_103 : decode prog_9_method_42_code 103 = .ok (.istore_n 3, 1) := by decide +kernel
theorem d_Mod_behind_104 : decode prog_9_method_42_code 104 = .ok (.iinc 4 1, 3) := by decide +kernel
theorem d_Mod_behind_107 : decode prog_9_method_42_code 107 = .ok (.goto (-102), 3) := by decide +kernel
theorem d_Mod_behind_110 : decode prog_9_method_42_code 110 = .ok (.iload_n 3, 1) := by decide +kernel
theorem d_Mod_behind_111 : decode prog_9_method_42_code 111 = .ok (.ireturn, 1) := by decide +kernel
theorem d_Mod_tell_0 : decode prog_9_method_43_code 0 = .ok (.aload_n 0, 1) := by decide +kernel
theorem d_Mod_tell_1 : decode prog_9_method_43_code 1 = .ok (.getfield 32, 3) := by decide +kernel
theorem d_Mod_tell_4 : decode prog_9_method_43_code 4 = .ok (.aload_n 0, 1) := by decide +kernel
theorem d_Mod_tell_5 : decode prog_9_method_43_code 5 = .ok (.getfield 76, 3) := by decide +kernel
theorem d_Mod_tell_8 : decode prog_9_method_43_code 8 = .ok (.aload_n 0, 1) := by decide +kernel
theorem d_Mod_tell_9 : decode prog_9_method_43_code 9 = .ok (.getfield 50, 3) := by decide +kernel
theorem d_Mod_tell_12 : decode prog_9_method_43_code 12 = .ok (.iload_n 1, 1) := by decide +kernel
theorem d_Mod_tell_13 : decode prog_9_method_43_code 13 = .ok (.iaload, 1) := by decide +kernel
theorem d_Mod_tell_14 : decode prog_9_method_43_code 14 = .ok (.iconst 1, 1) := by decide +kernel
theorem d_Mod_tell_15 : decode prog_9_method_43_code 15 = .ok (.iadd, 1) := by decide +kernel
theorem d_Mod_tell_16 : decode prog_9_method_43_code 16 = .ok (.iastore, 1) := by decide +kernel
theorem d_Mod_tell_17 : decode prog_9_method_43_code 17 = .ok (.aload_n 0, 1) := by decide +kernel
theorem d_Mod_tell_18 : decode prog_9_method_43_code 18 = .ok (.dup, 1) := by decide +kernel
theorem d_Mod_tell_19 : decode prog_9_method_43_code 19 = .ok (.getfield 76, 3) := by decide +kernel
theorem d_Mod_tell_22 : decode prog_9_method_43_code 22 = .ok (.iconst 1, 1) := by decide +kernel
theorem d_Mod_tell_23 : decode prog_9_method_43_code 23 = .ok (.iadd, 1) := by decide +kernel
theorem d_Mod_tell_24 : decode prog_9_method_43_code 24 = .ok (.putfield 76, 3) := by decide +kernel
theorem d_Mod_tell_27 : decode prog_9_method_43_code 27 = .ok (.iconst 0, 1) := by decide +kernel
theorem d_Mod_tell_28 : decode prog_9_method_43_code 28 = .ok (.istore_n 2, 1) := by decide +kernel
theorem d_Mod_tell_29 : decode prog_9_method_43_code 29 = .ok (.iload_n 2, 1) := by decide +kernel
theorem d_Mod_tell_30 : decode prog_9_method_43_code 30 = .ok (.aload_n 0, 1) := by decide +kernel
theorem d_Mod_tell_31 : decode prog_9_method_43_code 31 = .ok (.getfield 50, 3) := by decide +kernel
theorem d_Mod_tell_34 : decode prog_9_method_43_code 34 = .ok (.iload_n 1, 1) := by decide +kernel
theorem d_Mod_tell_35 : decode prog_9_method_43_code 35 = .ok (.iaload, 1) := by decide +kernel
theorem d_Mod_tell_36 : decode prog_9_method_43_code 36 = .ok (.if_icmp .gt 77, 3) := by decide +kernel
theorem d_Mod_tell_39 : decode prog_9_method_43_code 39 = .ok (.aload_n 0, 1) := by decide +kernel
theorem d_Mod_tell_40 : decode prog_9_method_43_code 40 = .ok (.getfield 35, 3) := by decide +kernel
theorem d_Mod_tell_43 : decode prog_9_method_43_code 43 = .ok (.aload_n 0, 1) := by decide +kernel
theorem d_Mod_tell_44 : decode prog_9_method_43_code 44 = .ok (.getfield 79, 3) := by decide +kernel
theorem d_Mod_tell_47 : decode prog_9_method_43_code 47 = .ok (.aload_n 0, 1) := by decide +kernel
theorem d_Mod_tell_48 : decode prog_9_method_43_code 48 = .ok (.getfield 60, 3) := by decide +kernel
theorem d_Mod_tell_51 : decode prog_9_method_43_code 51 = .ok (.aload_n 0, 1) := by decide +kernel
theorem d_Mod_tell_52 : decode prog_9_method_43_code 52 = .ok (.getfield 47, 3) := by decide +kernel
theorem d_Mod_tell_55 : decode prog_9_method_43_code 55 = .ok (.iload_n 1, 1) := by decide +kernel
theorem d_Mod_tell_56 : decode prog_9_method_43_code 56 = .ok (.iaload, 1) := by decide +kernel
theorem d_Mod_tell_57 : decode prog_9_method_43_code 57 = .ok (.iload_n 2, 1) := by decide +kernel
theorem d_Mod_tell_58 : decode prog_9_method_43_code 58 = .ok (.aload_n 0, 1) := by decide +kernel
theorem d_Mod_tell_59 : decode prog_9_method_43_code 59 = .ok (.getfield 50, 3) := by decide +kernel
theorem d_Mod_tell_62 : decode prog_9_method_43_code 62 = .ok (.iload_n 1, 1) := by decide +kernel
theorem d_Mod_tell_63 : decode prog_9_method_43_code 63 = .ok (.iaload, 1) := by decide +kernel
theorem d_Mod_tell_64 : decode prog_9_method_43_code 64 = .ok (.irem, 1) := by decide +kernel
theorem d_Mod_tell_65 : decode prog_9_method_43_code 65 = .ok (.iadd, 1) := by decide +kernel
theorem d_Mod_tell_66 : decode prog_9_method_43_code 66 = .ok (.iaload, 1) := by decide +kernel
theorem d_Mod_tell_67 : decode prog_9_method_43_code 67 = .ok (.iastore, 1) := by decide +kernel
theorem d_Mod_tell_68 : decode prog_9_method_43_code 68 = .ok (.aload_n 0, 1) := by decide +kernel
theorem d_Mod_tell_69 : decode prog_9_method_43_code 69 = .ok (.getfield 38, 3) := by decide +kernel
theorem d_Mod_tell_72 : decode prog_9_method_43_code 72 = .ok (.aload_n 0, 1) := by decide +kernel
theorem d_Mod_tell_73 : decode prog_9_method_43_code 73 = .ok (.getfield 79, 3) := by decide +kernel
theorem d_Mod_tell_76 : decode prog_9_method_43_code 76 = .ok (.aload_n 0, 1) := by decide +kernel
theorem d_Mod_tell_77 : decode prog_9_method_43_code 77 = .ok (.getfield 63, 3) := by decide +kernel
theorem d_Mod_tell_80 : decode prog_9_method_43_code 80 = .ok (.aload_n 0, 1) := by decide +kernel
theorem d_Mod_tell_81 : decode prog_9_method_43_code 81 = .ok (.getfield 47, 3) := by decide +kernel
theorem d_Mod_tell_84 : decode prog_9_method_43_code 84 = .ok (.iload_n 1, 1) := by decide +kernel
theorem d_Mod_tell_85 : decode prog_9_method_43_code 85 = .ok (.iaload, 1) := by decide +kernel
theorem d_Mod_tell_86 : decode prog_9_method_43_code 86 = .ok (.iload_n 2, 1) := by decide +kernel
theorem d_Mod_tell_87 : decode prog_9_method_43_code 87 = .ok (.aload_n 0, 1) := by decide +kernel
theorem d_Mod_tell_88 : decode prog_9_method_43_code 88 = .ok (.getfield 50, 3) := by decide +kernel
theorem d_Mod_tell_91 : decode prog_9_method_43_code 91 = .ok (.iload_n 1, 1) := by decide +kernel
theorem d_Mod_tell_92 : decode prog_9_method_43_code 92 = .ok (.iaload, 1) := by decide +kernel
theorem d_Mod_tell_93 : decode prog_9_method_43_code 93 = .ok (.irem, 1) := by decide +kernel
theorem d_Mod_tell_94 : decode prog_9_method_43_code 94 = .ok (.iadd, 1) := by decide +kernel
theorem d_Mod_tell_95 : decode prog_9_method_43_code 95 = .ok (.iaload, 1) := by decide +kernel
theorem d_Mod_tell_96 : decode prog_9_method_43_code 96 = .ok (.iastore, 1) := by decide +kernel
theorem d_Mod_tell_97 : decode prog_9_method_43_code 97 = .ok (.aload_n 0, 1) := by decide +kernel
theorem d_Mod_tell_98 : decode prog_9_method_43_code 98 = .ok (.dup, 1) := by decide +kernel
theorem d_Mod_tell_99 : decode prog_9_method_43_code 99 = .ok (.getfield 79, 3) := by decide +kernel
theorem d_Mod_tell_102 : decode prog_9_method_43_code 102 = .ok (.iconst 1, 1) := by decide +kernel
theorem d_Mod_tell_103 : decode prog_9_method_43_code 103 = .ok (.iadd, 1) := by decide +kernel
theorem d_Mod_tell_104 : decode prog_9_method_43_code 104 = .ok (.putfield 79, 3) := by decide +kernel
theorem d_Mod_tell_107 : decode prog_9_method_43_code 107 = .ok (.iinc 2 1, 3) := by decide +kernel
theorem d_Mod_tell_110 : decode prog_9_method_43_code 110 = .ok (.goto (-81), 3) := by decide +kernel
theorem d_Mod_tell_113 : decode prog_9_method_43_code 113 = .ok (.aload_n 0, 1) := by decide +kernel
theorem d_Mod_tell_114 : decode prog_9_method_43_code 114 = .ok (.dup, 1) := by decide +kernel
theorem d_Mod_tell_115 : decode prog_9_method_43_code 115 = .ok (.getfield 85, 3) := by decide +kernel
theorem d_Mod_tell_118 : decode prog_9_method_43_code 118 = .ok (.aload_n 0, 1) := by decide +kernel
theorem d_Mod_tell_119 : decode prog_9_method_43_code 119 = .ok (.getfield 53, 3) := by decide +kernel
theorem d_Mod_tell_122 : decode prog_9_method_43_code 122 = .ok (.iload_n 1, 1) := by decide +kernel
theorem d_Mod_tell_123 : decode prog_9_method_43_code 123 = .ok (.laload, 1) := by decide +kernel
theorem d_Mod_tell_124 : decode prog_9_method_43_code 124 = .ok (.ladd, 1) := by decide +kernel
theorem d_Mod_tell_125 : decode prog_9_method_43_code 125 = .ok (.putfield 85, 3) := by decide +kernel
theorem d_Mod_tell_128 : decode prog_9_method_43_code 128 = .ok (.return_, 1) := by decide +kernel
theorem d_Mod_tellAll_0 : decode prog_9_method_44_code 0 = .ok (.aload_n 0, 1) := by decide +kernel
theorem d_Mod_tellAll_1 : decode prog_9_method_44_code 1 = .ok (.getfield 32, 3) := by decide +kernel
theorem d_Mod_tellAll_4 : decode prog_9_method_44_code 4 = .ok (.iconst 0, 1) := by decide +kernel
theorem d_Mod_tellAll_5 : decode prog_9_method_44_code 5 = .ok (.bipush 6, 2) := by decide +kernel
theorem d_Mod_tellAll_7 : decode prog_9_method_44_code 7 = .ok (.iastore, 1) := by decide +kernel
theorem d_Mod_tellAll_8 : decode prog_9_method_44_code 8 = .ok (.aload_n 0, 1) := by decide +kernel
theorem d_Mod_tellAll_9 : decode prog_9_method_44_code 9 = .ok (.iconst 2, 1) := by decide +kernel
theorem d_Mod_tellAll_10 : decode prog_9_method_44_code 10 = .ok (.putfield 76, 3) := by decide +kernel
theorem d_Mod_tellAll_13 : decode prog_9_method_44_code 13 = .ok (.aload_n 0, 1) := by decide +kernel
theorem d_Mod_tellAll_14 : decode prog_9_method_44_code 14 = .ok (.iconst (-1), 1) := by decide +kernel
theorem d_Mod_tellAll_15 : decode prog_9_method_44_code 15 = .ok (.iconst (-1), 1) := by decide +kernel
theorem d_Mod_tellAll_16 : decode prog_9_method_44_code 16 = .ok (.invokevirtual 211, 3) := by decide +kernel
theorem d_Mod_tellAll_19 : decode prog_9_method_44_code 19 = .ok (.istore_n 1, 1) := by decide +kernel
theorem d_Mod_tellAll_20 : decode prog_9_method_44_code 20 = .ok (.iload_n 1, 1) := by decide +kernel
theorem d_Mod_tellAll_21 : decode prog_9_method_44_code 21 = .ok (.ifCond .lt 98, 3) := by decide +kernel
theorem d_Mod_tellAll_24 : decode prog_9_method_44_code 24 = .ok (.aload_n 0, 1) := by decide +kernel
theorem d_Mod_tellAll_25 : decode prog_9_method_44_code 25 = .ok (.getfield 32, 3) := by decide +kernel
theorem d_Mod_tellAll_28 : decode prog_9_method_44_code 28 = .ok (.aload_n 0, 1) := by decide +kernel
theorem d_Mod_tellAll_29 : decode prog_9_method_44_code 29 = .ok (.getfield 76, 3) := by decide +kernel
theorem d_Mod_tellAll_32 : decode prog_9_method_44_code 32 = .ok (.iconst 3, 1) := by decide +kernel
theorem d_Mod_tellAll_33 : decode prog_9_method_44_code 33 = .ok (.iastore, 1) := by decide +kernel
theorem d_Mod_tellAll_34 : decode prog_9_method_44_code 34 = .ok (.aload_n 0, 1) := by decide +kernel
theorem d_Mod_tellAll_35 : decode prog_9_method_44_code 35 = .ok (.getfield 76, 3) := by decide +kernel
theorem d_Mod_tellAll_38 : decode prog_9_method_44_code 38 = .ok (.iconst 1, 1) := by decide +kernel
theorem d_Mod_tellAll_39 : decode prog_9_method_44_code 39 = .ok (.iadd, 1) := by decide +kernel
theorem d_Mod_tellAll_40 : decode prog_9_method_44_code 40 = .ok (.istore_n 2, 1) := by decide +kernel
theorem d_Mod_tellAll_41 : decode prog_9_method_44_code 41 = .ok (.aload_n 0, 1) := by decide +kernel
theorem d_Mod_tellAll_42 : decode prog_9_method_44_code 42 = .ok (.getfield 32, 3) := by decide +kernel
theorem d_Mod_tellAll_45 : decode prog_9_method_44_code 45 = .ok (.iload_n 2, 1) := by decide +kernel
theorem d_Mod_tellAll_46 : decode prog_9_method_44_code 46 = .ok (.iconst 1, 1) := by decide +kernel
theorem d_Mod_tellAll_47 : decode prog_9_method_44_code 47 = .ok (.iastore, 1) := by decide +kernel
theorem d_Mod_tellAll_48 : decode prog_9_method_44_code 48 = .ok (.aload_n 0, 1) := by decide +kernel
theorem d_Mod_tellAll_49 : decode prog_9_method_44_code 49 = .ok (.dup, 1) := by decide +kernel
theorem d_Mod_tellAll_50 : decode prog_9_method_44_code 50 = .ok (.getfield 76, 3) := by decide +kernel
theorem d_Mod_tellAll_53 : decode prog_9_method_44_code 53 = .ok (.iconst 2, 1) := by decide +kernel
theorem d_Mod_tellAll_54 : decode prog_9_method_44_code 54 = .ok (.iadd, 1) := by decide +kernel
theorem d_Mod_tellAll_55 : decode prog_9_method_44_code 55 = .ok (.putfield 76, 3) := by decide +kernel
theorem d_Mod_tellAll_58 : decode prog_9_method_44_code 58 = .ok (.aload_n 0, 1) := by decide +kernel
theorem d_Mod_tellAll_59 : decode prog_9_method_44_code 59 = .ok (.iload_n 1, 1) := by decide +kernel
theorem d_Mod_tellAll_60 : decode prog_9_method_44_code 60 = .ok (.invokevirtual 214, 3) := by decide +kernel
theorem d_Mod_tellAll_63 : decode prog_9_method_44_code 63 = .ok (.aload_n 0, 1) := by decide +kernel
theorem d_Mod_tellAll_64 : decode prog_9_method_44_code 64 = .ok (.iload_n 1, 1) := by decide +kernel
theorem d_Mod_tellAll_65 : decode prog_9_method_44_code 65 = .ok (.iconst (-1), 1) := by decide +kernel
theorem d_Mod_tellAll_66 : decode prog_9_method_44_code 66 = .ok (.invokevirtual 211, 3) := by decide +kernel
theorem d_Mod_tellAll_69 : decode prog_9_method_44_code 69 = .ok (.istore_n 3, 1) := by decide +kernel
theorem d_Mod_tellAll_70 : decode prog_9_method_44_code 70 = .ok (.iload_n 3, 1) := by decide +kernel
theorem d_Mod_tellAll_71 : decode prog_9_method_44_code 71 = .ok (.ifCond .lt 28, 3) := by decide +kernel
theorem d_Mod_tellAll_74 : decode prog_9_method_44_code 74 = .ok (.aload_n 0, 1) := by decide +kernel
theorem d_Mod_tellAll_75 : decode prog_9_method_44_code 75 = .ok (.getfield 32, 3) := by decide +kernel
theorem d_Mod_tellAll_78 : decode prog_9_method_44_code 78 = .ok (.iload_n 2, 1) := by decide +kernel
theorem d_Mod_tellAll_79 : decode prog_9_method_44_code 79 = .ok (.dup2, 1) := by decide +kernel
theorem d_Mod_tellAll_80 : decode prog_9_method_44_code 80 = .ok (.iaload, 1) := by decide +kernel
theorem d_Mod_tellAll_81 : decode prog_9_method_44_code 81 = .ok (.iconst 1, 1) := by decide +kernel
theorem d_Mod_tellAll_82 : decode prog_9_method_44_code 82 = .ok (.iadd, 1) := by decide +kernel
theorem d_Mod_tellAll_83 : decode prog_9_method_44_code 83 = .ok (.iastore, 1) := by decide +kernel
theorem d_Mod_tellAll_84 : decode prog_9_method_44_code 84 = .ok (.aload_n 0, 1) := by decide +kernel
theorem d_Mod_tellAll_85 : decode prog_9_method_44_code 85 = .ok (.iload_n 3, 1) := by decide +kernel
theorem d_Mod_tellAll_86 : decode prog_9_method_44_code 86 = .ok (.invokevirtual 214, 3) := by decide +kernel
theorem d_Mod_tellAll_89 : decode prog_9_method_44_code 89 = .ok (.aload_n 0, 1) := by decide +kernel
theorem d_Mod_tellAll_90 : decode prog_9_method_44_code 90 = .ok (.iload_n 1, 1) := by decide +kernel
theorem d_Mod_tellAll_91 : decode prog_9_method_44_code 91 = .ok (.iload_n 3, 1) := by decide +kernel
theorem d_Mod_tellAll_92 : decode prog_9_method_44_code 92 = .ok (.invokevirtual 211, 3) := by decide +kernel
theorem d_Mod_tellAll_95 : decode prog_9_method_44_code 95 = .ok (.istore_n 3, 1) := by decide +kernel
theorem d_Mod_tellAll_96 : decode prog_9_method_44_code 96 = .ok (.goto (-26), 3) := by decide +kernel
theorem d_Mod_tellAll_99 : decode prog_9_method_44_code 99 = .ok (.aload_n 0, 1) := by decide +kernel
theorem d_Mod_tellAll_100 : decode prog_9_method_44_code 100 = .ok (.dup, 1) := by decide +kernel
theorem d_Mod_tellAll_101 : decode prog_9_method_44_code 101 = .ok (.getfield 82, 3) := by decide +kernel
theorem d_Mod_tellAll_104 : decode prog_9_method_44_code 104 = .ok (.iconst 1, 1) := by decide +kernel
theorem d_Mod_tellAll_105 : decode prog_9_method_44_code 105 = .ok (.iadd, 1) := by decide +kernel
theorem d_Mod_tellAll_106 : decode prog_9_method_44_code 106 = .ok (.putfield 82, 3) := by decide +kernel
theorem d_Mod_tellAll_109 : decode prog_9_method_44_code 109 = .ok (.aload_n 0, 1) := by decide +kernel
theorem d_Mod_tellAll_110 : decode prog_9_method_44_code 110 = .ok (.iconst (-1), 1) := by decide +kernel
theorem d_Mod_tellAll_111 : decode prog_9_method_44_code 111 = .ok (.iload_n 1, 1) := by decide +kernel
theorem d_Mod_tellAll_112 : decode prog_9_method_44_code 112 = .ok (.invokevirtual 211, 3) := by decide +kernel
theorem d_Mod_tellAll_115 : decode prog_9_method_44_code 115 = .ok (.istore_n 1, 1) := by decide +kernel
theorem d_Mod_tellAll_116 : decode prog_9_method_44_code 116 = .ok (.goto (-96), 3) := by decide +kernel
theorem d_Mod_tellAll_119 : decode prog_9_method_44_code 119 = .ok (.aload_n 0, 1) := by decide +kernel
theorem d_Mod_tellAll_120 : decode prog_9_method_44_code 120 = .ok (.getfield 32, 3) := by decide +kernel
theorem d_Mod_tellAll_123 : decode prog_9_method_44_code 123 = .ok (.iconst 1, 1) := by decide +kernel
