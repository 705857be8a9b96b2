theorem d_Mod_isResult_47 : decode prog_9_method_19_code 47 = .ok (.iconst 1, 1) := by decide +kernel
theorem d_Mod_isResult_48 : decode prog_9_method_19_code 48 = .ok (.if_icmp .ne 19, 3) := by decide +kernel
theorem d_Mod_isResult_51 : decode prog_9_method_19_code 51 = .ok (.iload_n 2, 1) := by decide +kernel
theorem d_Mod_isResult_52 : decode prog_9_method_19_code 52 = .ok (.ifCond .ne 7, 3) := by decide +kernel
theorem d_Mod_isResult_55 : decode prog_9_method_19_code 55 = .ok (.iload_n 3, 1) := by decide +kernel
theorem d_Mod_isResult_56 : decode prog_9_method_19_code 56 = .ok (.ifCond .eq 7, 3) := by decide +kernel
theorem d_Mod_isResult_59 : decode prog_9_method_19_code 59 = .ok (.iconst 1, 1) := by decide +kernel
theorem d_Mod_isResult_60 : decode prog_9_method_19_code 60 = .ok (.goto 59, 3) := by decide +kernel
theorem d_Mod_isResult_63 : decode prog_9_method_19_code 63 = .ok (.iconst 0, 1) := by decide +kernel
theorem d_Mod_isResult_64 : decode prog_9_method_19_code 64 = .ok (.goto 55, 3) := by decide +kernel
theorem d_Mod_isResult_67 : decode prog_9_method_19_code 67 = .ok (.iload_n 0, 1) := by decide +kernel
theorem d_Mod_isResult_68 : decode prog_9_method_19_code 68 = .ok (.iconst 2, 1) := by decide +kernel
theorem d_Mod_isResult_69 : decode prog_9_method_19_code 69 = .ok (.if_icmp .ne 19, 3) := by decide +kernel
theorem d_Mod_isResult_72 : decode prog_9_method_19_code 72 = .ok (.iload_n 2, 1) := by decide +kernel
theorem d_Mod_isResult_73 : decode prog_9_method_19_code 73 = .ok (.ifCond .eq 11, 3) := by decide +kernel
theorem d_Mod_isResult_76 : decode prog_9_method_19_code 76 = .ok (.iload_n 3, 1) := by decide +kernel
theorem d_Mod_isResult_77 : decode prog_9_method_19_code 77 = .ok (.ifCond .ne 7, 3) := by decide +kernel
theorem d_Mod_isResult_80 : decode prog_9_method_19_code 80 = .ok (.iconst 1, 1) := by decide +kernel
theorem d_Mod_isResult_81 : decode prog_9_method_19_code 81 = .ok (.goto 38, 3) := by decide +kernel
theorem d_Mod_isResult_84 : decode prog_9_method_19_code 84 = .ok (.iconst 0, 1) := by decide +kernel
theorem d_Mod_isResult_85 : decode prog_9_method_19_code 85 = .ok (.goto 34, 3) := by decide +kernel
theorem d_Mod_isResult_88 : decode prog_9_method_19_code 88 = .ok (.iload_n 0, 1) := by decide +kernel
theorem d_Mod_isResult_89 : decode prog_9_method_19_code 89 = .ok (.iconst 3, 1) := by decide +kernel
theorem d_Mod_isResult_90 : decode prog_9_method_19_code 90 = .ok (.if_icmp .ne 16, 3) := by decide +kernel
theorem d_Mod_isResult_93 : decode prog_9_method_19_code 93 = .ok (.iload_n 2, 1) := by decide +kernel
theorem d_Mod_isResult_94 : decode prog_9_method_19_code 94 = .ok (.iload_n 3, 1) := by decide +kernel
theorem d_Mod_isResult_95 : decode prog_9_method_19_code 95 = .ok (.if_icmp .eq 7, 3) := by decide +kernel
theorem d_Mod_isResult_98 : decode prog_9_method_19_code 98 = .ok (.iconst 1, 1) := by decide +kernel
theorem d_Mod_isResult_99 : decode prog_9_method_19_code 99 = .ok (.goto 20, 3) := by decide +kernel
theorem d_Mod_isResult_102 : decode prog_9_method_19_code 102 = .ok (.iconst 0, 1) := by decide +kernel
theorem d_Mod_isResult_103 : decode prog_9_method_19_code 103 = .ok (.goto 16, 3) := by decide +kernel
theorem d_Mod_isResult_106 : decode prog_9_method_19_code 106 = .ok (.iload_n 3, 1) := by decide +kernel
theorem d_Mod_isResult_107 : decode prog_9_method_19_code 107 = .ok (.ifCond .eq 11, 3) := by decide +kernel
theorem d_Mod_isResult_110 : decode prog_9_method_19_code 110 = .ok (.iload_n 2, 1) := by decide +kernel
theorem d_Mod_isResult_111 : decode prog_9_method_19_code 111 = .ok (.ifCond .ne 7, 3) := by decide +kernel
theorem d_Mod_isResult_114 : decode prog_9_method_19_code 114 = .ok (.iconst 1, 1) := by decide +kernel
theorem d_Mod_isResult_115 : decode prog_9_method_19_code 115 = .ok (.goto 4, 3) := by decide +kernel
theorem d_Mod_isResult_118 : decode prog_9_method_19_code 118 = .ok (.iconst 0, 1) := by decide +kernel
theorem d_Mod_isResult_119 : decode prog_9_method_19_code 119 = .ok (.ireturn, 1) := by decide +kernel
theorem d_Mod_findWays_0 : decode prog_9_method_20_code 0 = .ok (.iconst 0, 1) := by decide +kernel
theorem d_Mod_findWays_1 : decode prog_9_method_20_code 1 = .ok (.istore_n 2, 1) := by decide +kernel
theorem d_Mod_findWays_2 : decode prog_9_method_20_code 2 = .ok (.iload_n 2, 1) := by decide +kernel
theorem d_Mod_findWays_3 : decode prog_9_method_20_code 3 = .ok (.aload_n 0, 1) := by decide +kernel
theorem d_Mod_findWays_4 : decode prog_9_method_20_code 4 = .ok (.getfield 110, 3) := by decide +kernel
theorem d_Mod_findWays_7 : decode prog_9_method_20_code 7 = .ok (.if_icmp .ge 130, 3) := by decide +kernel
theorem d_Mod_findWays_10 : decode prog_9_method_20_code 10 = .ok (.aload_n 0, 1) := by decide +kernel
theorem d_Mod_findWays_11 : decode prog_9_method_20_code 11 = .ok (.iload_n 2, 1) := by decide +kernel
theorem d_Mod_findWays_12 : decode prog_9_method_20_code 12 = .ok (.invokevirtual 138, 3) := by decide +kernel
theorem d_Mod_findWays_15 : decode prog_9_method_20_code 15 = .ok (.istore_n 3, 1) := by decide +kernel
theorem d_Mod_findWays_16 : decode prog_9_method_20_code 16 = .ok (.aload_n 0, 1) := by decide +kernel
theorem d_Mod_findWays_17 : decode prog_9_method_20_code 17 = .ok (.getfield 19, 3) := by decide +kernel
theorem d_Mod_findWays_20 : decode prog_9_method_20_code 20 = .ok (.iload_n 2, 1) := by decide +kernel
theorem d_Mod_findWays_21 : decode prog_9_method_20_code 21 = .ok (.iaload, 1) := by decide +kernel
theorem d_Mod_findWays_22 : decode prog_9_method_20_code 22 = .ok (.aload_n 0, 1) := by decide +kernel
theorem d_Mod_findWays_23 : decode prog_9_method_20_code 23 = .ok (.getfield 13, 3) := by decide +kernel
theorem d_Mod_findWays_26 : decode prog_9_method_20_code 26 = .ok (.iload_n 2, 1) := by decide +kernel
theorem d_Mod_findWays_27 : decode prog_9_method_20_code 27 = .ok (.iaload, 1) := by decide +kernel
theorem d_Mod_findWays_28 : decode prog_9_method_20_code 28 = .ok (.if_icmp .le 7, 3) := by decide +kernel
theorem d_Mod_findWays_31 : decode prog_9_method_20_code 31 = .ok (.iconst 1, 1) := by decide +kernel
theorem d_Mod_findWays_32 : decode prog_9_method_20_code 32 = .ok (.goto 4, 3) := by decide +kernel
theorem d_Mod_findWays_35 : decode prog_9_method_20_code 35 = .ok (.iconst 0, 1) := by decide +kernel
theorem d_Mod_findWays_36 : decode prog_9_method_20_code 36 = .ok (.istore 4, 2) := by decide +kernel
theorem d_Mod_findWays_38 : decode prog_9_method_20_code 38 = .ok (.iload_n 1, 1) := by decide +kernel
theorem d_Mod_findWays_39 : decode prog_9_method_20_code 39 = .ok (.iload 4, 2) := by decide +kernel
theorem d_Mod_findWays_41 : decode prog_9_method_20_code 41 = .ok (.ifCond .eq 14, 3) := by decide +kernel
theorem d_Mod_findWays_44 : decode prog_9_method_20_code 44 = .ok (.iload_n 3, 1) := by decide +kernel
theorem d_Mod_findWays_45 : decode prog_9_method_20_code 45 = .ok (.aload_n 0, 1) := by decide +kernel
theorem d_Mod_findWays_46 : decode prog_9_method_20_code 46 = .ok (.getfield 22, 3) := by decide +kernel
theorem d_Mod_findWays_49 : decode prog_9_method_20_code 49 = .ok (.iload_n 2, 1) := by decide +kernel
theorem d_Mod_findWays_50 : decode prog_9_method_20_code 50 = .ok (.iaload, 1) := by decide +kernel
theorem d_Mod_findWays_51 : decode prog_9_method_20_code 51 = .ok (.ixor, 1) := by decide +kernel
theorem d_Mod_findWays_52 : decode prog_9_method_20_code 52 = .ok (.goto 4, 3) := by decide +kernel
theorem d_Mod_findWays_55 : decode prog_9_method_20_code 55 = .ok (.iload_n 3, 1) := by decide +kernel
theorem d_Mod_findWays_56 : decode prog_9_method_20_code 56 = .ok (.invokestatic 141, 3) := by decide +kernel
theorem d_Mod_findWays_59 : decode prog_9_method_20_code 59 = .ok (.istore 5, 2) := by decide +kernel
theorem d_Mod_findWays_61 : decode prog_9_method_20_code 61 = .ok (.iload_n 1, 1) := by decide +kernel
theorem d_Mod_findWays_62 : decode prog_9_method_20_code 62 = .ok (.iload 4, 2) := by decide +kernel
theorem d_Mod_findWays_64 : decode prog_9_method_20_code 64 = .ok (.ifCond .eq 7, 3) := by decide +kernel
theorem d_Mod_findWays_67 : decode prog_9_method_20_code 67 = .ok (.iload_n 3, 1) := by decide +kernel
theorem d_Mod_findWays_68 : decode prog_9_method_20_code 68 = .ok (.goto 11, 3) := by decide +kernel
theorem d_Mod_findWays_71 : decode prog_9_method_20_code 71 = .ok (.iload_n 3, 1) := by decide +kernel
theorem d_Mod_findWays_72 : decode prog_9_method_20_code 72 = .ok (.aload_n 0, 1) := by decide +kernel
theorem d_Mod_findWays_73 : decode prog_9_method_20_code 73 = .ok (.getfield 22, 3) := by decide +kernel
theorem d_Mod_findWays_76 : decode prog_9_method_20_code 76 = .ok (.iload_n 2, 1) := by decide +kernel
theorem d_Mod_findWays_77 : decode prog_9_method_20_code 77 = .ok (.iaload, 1) := by decide +kernel
theorem d_Mod_findWays_78 : decode prog_9_method_20_code 78 = .ok (.ixor, 1) := by decide +kernel
theorem d_Mod_findWays_79 : decode prog_9_method_20_code 79 = .ok (.invokestatic 141, 3) := by decide +kernel
theorem d_Mod_findWays_82 : decode prog_9_method_20_code 82 = .ok (.istore 6, 2) := by decide +kernel
theorem d_Mod_findWays_84 : decode prog_9_method_20_code 84 = .ok (.aload_n 0, 1) := by decide +kernel
theorem d_Mod_findWays_85 : decode prog_9_method_20_code 85 = .ok (.getfield 25, 3) := by decide +kernel
theorem d_Mod_findWays_88 : decode prog_9_method_20_code 88 = .ok (.iload_n 2, 1) := by decide +kernel
theorem d_Mod_findWays_89 : decode prog_9_method_20_code 89 = .ok (.iload 5, 2) := by decide +kernel
theorem d_Mod_findWays_91 : decode prog_9_method_20_code 91 = .ok (.iload 6, 2) := by decide +kernel
theorem d_Mod_findWays_93 : decode prog_9_method_20_code 93 = .ok (.if_icmp .ne 7, 3) := by decide +kernel
theorem d_Mod_findWays_96 : decode prog_9_method_20_code 96 = .ok (.iconst 0, 1) := by decide +kernel
theorem d_Mod_findWays_97 : decode prog_9_method_20_code 97 = .ok (.goto 13, 3) := by decide +kernel
theorem d_Mod_findWays_100 : decode prog_9_method_20_code 100 = .ok (.iload 5, 2) := by decide +kernel
theorem d_Mod_findWays_102 : decode prog_9_method_20_code 102 = .ok (.ifCond .eq 7, 3) := by decide +kernel
theorem d_Mod_findWays_105 : decode prog_9_method_20_code 105 = .ok (.iconst 1, 1) := by decide +kernel
theorem d_Mod_findWays_106 : decode prog_9_method_20_code 106 = .ok (.goto 4, 3) := by decide +kernel
theorem d_Mod_findWays_109 : decode prog_9_method_20_code 109 = .ok (.iconst 2, 1) := by decide +kernel
theorem d_Mod_findWays_110 : decode prog_9_method_20_code 110 = .ok (.iastore, 1) := by decide +kernel
theorem d_Mod_findWays_111 : decode prog_9_method_20_code 111 = .ok (.aload_n 0, 1) := by decide +kernel
theorem d_Mod_findWays_112 : decode prog_9_method_20_code 112 = .ok (.getfield 28, 3) := by decide +kernel
theorem d_Mod_findWays_115 : decode prog_9_method_20_code 115 = .ok (.iload_n 2, 1) := by decide +kernel
theorem d_Mod_findWays_116 : decode prog_9_method_20_code 116 = .ok (.aload_n 0, 1) := by decide +kernel
theorem d_Mod_findWays_117 : decode prog_9_method_20_code 117 = .ok (.getfield 25, 3) := by decide +kernel
theorem d_Mod_findWays_120 : decode prog_9_method_20_code 120 = .ok (.iload_n 2, 1) := by decide +kernel
theorem d_Mod_findWays_121 : decode prog_9_method_20_code 121 = .ok (.iaload, 1) := by decide +kernel
theorem d_Mod_findWays_122 : decode prog_9_method_20_code 122 = .ok (.ifCond .ne 7, 3) := by decide +kernel
theorem d_Mod_findWays_125 : decode prog_9_method_20_code 125 = .ok (.iconst 1, 1) := by decide +kernel
theorem d_Mod_findWays_126 : decode prog_9_method_20_code 126 = .ok (.goto 4, 3) := by decide +kernel
theorem d_Mod_findWays_129 : decode prog_9_method_20_code 129 = .ok (.iconst 0, 1) := by decide +kernel
theorem d_Mod_findWays_130 : decode prog_9_method_20_code 130 = .ok (.bastore, 1) := by decide +kernel
theorem d_Mod_findWays_131 : decode prog_9_method_20_code 131 = .ok (.iinc 2 1, 3) := by decide +kernel
theorem d_Mod_findWays_134 : decode prog_9_method_20_code 134 = .ok (.goto (-132), 3) := by decide +kernel
theorem d_Mod_findWays_137 : decode prog_9_method_20_code 137 = .ok (.return_, 1) := by decide +kernel
theorem d_Mod_isEven_0 : decode prog_9_method_21_code 0 = .ok (.iconst 0, 1) := by decide +kernel
theorem d_Mod_isEven_1 : decode prog_9_method_21_code 1 = .ok (.istore_n 3, 1) := by decide +kernel
theorem d_Mod_isEven_2 : decode prog_9_method_21_code 2 = .ok (.iconst 0, 1) := by decide +kernel
theorem d_Mod_isEven_3 : decode prog_9_method_21_code 3 = .ok (.istore 4, 2) := by decide +kernel
theorem d_Mod_isEven_5 : decode prog_9_method_21_code 5 = .ok (.iload 4, 2) := by decide +kernel
theorem d_Mod_isEven_7 : decode prog_9_method_21_code 7 = .ok (.aload_n 0, 1) := by decide +kernel
theorem d_Mod_isEven_8 : decode prog_9_method_21_code 8 = .ok (.getfield 110, 3) := by decide +kernel
theorem d_Mod_isEven_11 : decode prog_9_method_21_code 11 = .ok (.if_icmp .ge 34, 3) := by decide +kernel
theorem d_Mod_isEven_14 : decode prog_9_method_21_code 14 = .ok (.aload_n 0, 1) := by decide +kernel
theorem d_Mod_isEven_15 : decode prog_9_method_21_code 15 = .ok (.iload 4, 2) := by decide +kernel
theorem d_Mod_isEven_17 : decode prog_9_method_21_code 17 = .ok (.iload_n 1, 1) := by decide +kernel
theorem d_Mod_isEven_18 : decode prog_9_method_21_code 18 = .ok (.iload_n 2, 1) := by decide +kernel
theorem d_Mod_isEven_19 : decode prog_9_method_21_code 19 = .ok (.invokevirtual 97, 3) := by decide +kernel
theorem d_Mod_isEven_22 : decode prog_9_method_21_code 22 = .ok (.ifCond .eq 15, 3) := by decide +kernel
theorem d_Mod_isEven_25 : decode prog_9_method_21_code 25 = .ok (.iload_n 3, 1) := by decide +kernel
theorem d_Mod_isEven_26 : decode prog_9_method_21_code 26 = .ok (.aload_n 0, 1) := by decide +kernel
theorem d_Mod_isEven_27 : decode prog_9_method_21_code 27 = .ok (.getfield 22, 3) := by decide +kernel
theorem d_Mod_isEven_30 : decode prog_9_method_21_code 30 = .ok (.iload 4, 2) := by decide +kernel
theorem d_Mod_isEven_32 : decode prog_9_method_21_code 32 = .ok (.iaload, 1) := by decide +kernel
theorem d_Mod_isEven_33 : decode prog_9_method_21_code 33 = .ok (.ixor, 1) := by decide +kernel
theorem d_Mod_isEven_34 : decode prog_9_method_21_code 34 = .ok (.goto 4, 3) := by decide +kernel
theorem d_Mod_isEven_37 : decode prog_9_method_21_code 37 = .ok (.iload_n 3, 1) := by decide +kernel
theorem d_Mod_isEven_38 : decode prog_9_method_21_code 38 = .ok (.istore_n 3, 1) := by decide +kernel
theorem d_Mod_isEven_39 : decode prog_9_method_21_code 39 = .ok (.iinc 4 1, 3) := by decide +kernel
theorem d_Mod_isEven_42 : decode prog_9_method_21_code 42 = .ok (.goto (-37), 3) := by decide +kernel
theorem d_Mod_isEven_45 : decode prog_9_method_21_code 45 = .ok (.iload_n 3, 1) := by decide +kernel
theorem d_Mod_isEven_46 : decode prog_9_method_21_code 46 = .ok (.ifCond .ne 7, 3) := by decide +kernel
theorem d_Mod_isEven_49 : decode prog_9_method_21_code 49 = .ok (.iconst 1, 1) := by decide +kernel
theorem d_Mod_isEven_50 : decode prog_9_method_21_code 50 = .ok (.goto 4, 3) := by decide +kernel
theorem d_Mod_isEven_53 : decode prog_9_method_21_code 53 = .ok (.iconst 0, 1) := by decide +kernel
theorem d_Mod_isEven_54 : decode prog_9_method_21_code 54 = .ok (.ireturn, 1) := by decide +kernel
theorem d_Mod_areClosed_0 : decode prog_9_method_22_code 0 = .ok (.iconst 1, 1) := by decide +kernel
theorem d_Mod_areClosed_1 : decode prog_9_method_22_code 1 = .ok (.istore_n 1, 1) := by decide +kernel
theorem d_Mod_areClosed_2 : decode prog_9_method_22_code 2 = .ok (.iconst 0, 1) := by decide +kernel
theorem d_Mod_areClosed_3 : decode prog_9_method_22_code 3 = .ok (.istore_n 2, 1) := by decide +kernel
theorem d_Mod_areClosed_4 : decode prog_9_method_22_code 4 = .ok (.iload_n 2, 1) := by decide +kernel
theorem d_Mod_areClosed_5 : decode prog_9_method_22_code 5 = .ok (.aload_n 0, 1) := by decide +kernel
theorem d_Mod_areClosed_6 : decode prog_9_method_22_code 6 = .ok (.getfield 110, 3) := by decide +kernel
theorem d_Mod_areClosed_9 : decode prog_9_method_22_code 9 = .ok (.if_icmp .ge 57, 3) := by decide +kernel
theorem d_Mod_areClosed_12 : decode prog_9_method_22_code 12 = .ok (.iload_n 1, 1) := by decide +kernel
theorem d_Mod_areClosed_13 : decode prog_9_method_22_code 13 = .ok (.ifCond .eq 53, 3) := by decide +kernel
theorem d_Mod_areClosed_16 : decode prog_9_method_22_code 16 = .ok (.aload_n 0, 1) := by decide +kernel
theorem d_Mod_areClosed_17 : decode prog_9_method_22_code 17 = .ok (.aload_n 0, 1) := by decide +kernel
theorem d_Mod_areClosed_18 : decode prog_9_method_22_code 18 = .ok (.getfield 7, 3) := by decide +kernel
theorem d_Mod_areClosed_21 : decode prog_9_method_22_code 21 = .ok (.iload_n 2, 1) := by decide +kernel
theorem d_Mod_areClosed_22 : decode prog_9_method_22_code 22 = .ok (.iaload, 1) := by decide +kernel
theorem d_Mod_areClosed_23 : decode prog_9_method_22_code 23 = .ok (.aload_n 0, 1) := by decide +kernel
theorem d_Mod_areClosed_24 : decode prog_9_method_22_code 24 = .ok (.getfield 13, 3) := by decide +kernel
theorem d_Mod_areClosed_27 : decode prog_9_method_22_code 27 = .ok (.iload_n 2, 1) := by decide +kernel
theorem d_Mod_areClosed_28 : decode prog_9_method_22_code 28 = .ok (.iaload, 1) := by decide +kernel
theorem d_Mod_areClosed_29 : decode prog_9_method_22_code 29 = .ok (.invokevirtual 144, 3) := by decide +kernel
theorem d_Mod_areClosed_32 : decode prog_9_method_22_code 32 = .ok (.ifCond .eq 26, 3) := by decide +kernel
theorem d_Mod_areClosed_35 : decode prog_9_method_22_code 35 = .ok (.aload_n 0, 1) := by decide +kernel
theorem d_Mod_areClosed_36 : decode prog_9_method_22_code 36 = .ok (.aload_n 0, 1) := by decide +kernel
theorem d_Mod_areClosed_37 : decode prog_9_method_22_code 37 = .ok (.getfield 16, 3) := by decide +kernel
theorem d_Mod_areClosed_40 : decode prog_9_method_22_code 40 = .ok (.iload_n 2, 1) := by decide +kernel
theorem d_Mod_areClosed_41 : decode prog_9_method_22_code 41 = .ok (.iaload, 1) := by decide +kernel
theorem d_Mod_areClosed_42 : decode prog_9_method_22_code 42 = .ok (.aload_n 0, 1) := by decide +kernel
theorem d_Mod_areClosed_43 : decode prog_9_method_22_code 43 = .ok (.getfield 19, 3) := by decide +kernel
theorem d_Mod_areClosed_46 : decode prog_9_method_22_code 46 = .ok (.iload_n 2, 1) := by decide +kernel
theorem d_Mod_areClosed_47 : decode prog_9_method_22_code 47 = .ok (.iaload, 1) := by decide +kernel
theorem d_Mod_areClosed_48 : decode prog_9_method_22_code 48 = .ok (.invokevirtual 144, 3) := by decide +kernel
theorem d_Mod_areClosed_51 : decode prog_9_method_22_code 51 = .ok (.ifCond .eq 7, 3) := by decide +kernel
theorem d_Mod_areClosed_54 : decode prog_9_method_22_code 54 = .ok (.iconst 1, 1) := by decide +kernel
theorem d_Mod_areClosed_55 : decode prog_9_method_22_code 55 = .ok (.goto 4, 3) := by decide +kernel
theorem d_Mod_areClosed_58 : decode prog_9_method_22_code 58 = .ok (.iconst 0, 1) := by decide +kernel
theorem d_Mod_areClosed_59 : decode prog_9_method_22_code 59 = .ok (.istore_n 1, 1) := by decide +kernel
theorem d_Mod_areClosed_60 : decode prog_9_method_22_code 60 = .ok (.iinc 2 1, 3) := by decide +kernel
theorem d_Mod_areClosed_63 : decode prog_9_method_22_code 63 = .ok (.goto (-59), 3) := by decide +kernel
theorem d_Mod_areClosed_66 : decode prog_9_method_22_code 66 = .ok (.iload_n 1, 1) := by decide +kernel
theorem d_Mod_areClosed_67 : decode prog_9_method_22_code 67 = .ok (.ireturn, 1) := by decide +kernel
theorem d_Mod_startX_0 : decode prog_9_method_23_code 0 = .ok (.aload_n 0, 1) := by decide +kernel
theorem d_Mod_startX_1 : decode prog_9_method_23_code 1 = .ok (.getfield 25, 3) := by decide +kernel
theorem d_Mod_startX_4 : decode prog_9_method_23_code 4 = .ok (.iload_n 1, 1) := by decide +kernel
theorem d_Mod_startX_5 : decode prog_9_method_23_code 5 = .ok (.iaload, 1) := by decide +kernel
theorem d_Mod_startX_6 : decode prog_9_method_23_code 6 = .ok (.iconst 1, 1) := by decide +kernel
theorem d_Mod_startX_7 : decode prog_9_method_23_code 7 = .ok (.if_icmp .ne 12, 3) := by decide +kernel
theorem d_Mod_startX_10 : decode prog_9_method_23_code 10 = .ok (.aload_n 0, 1) := by decide +kernel
theorem d_Mod_startX_11 : decode prog_9_method_23_code 11 = .ok (.getfield 7, 3) := by decide +kernel
theorem d_Mod_startX_14 : decode prog_9_method_23_code 14 = .ok (.iload_n 1, 1) := by decide +kernel
theorem d_Mod_startX_15 : decode prog_9_method_23_code 15 = .ok (.iaload, 1) := by decide +kernel
theorem d_Mod_startX_16 : decode prog_9_method_23_code 16 = .ok (.goto 9, 3) := by decide +kernel
theorem d_Mod_startX_19 : decode prog_9_method_23_code 19 = .ok (.aload_n 0, 1) := by decide +kernel
theorem d_Mod_startX_20 : decode prog_9_method_23_code 20 = .ok (.getfield 16, 3) := by decide +kernel
theorem d_Mod_startX_23 : decode prog_9_method_23_code 23 = .ok (.iload_n 1, 1) := by decide +kernel
theorem d_Mod_startX_24 : decode prog_9_method_23_code 24 = .ok (.iaload, 1) := by decide +kernel
theorem d_Mod_startX_25 : decode prog_9_method_23_code 25 = .ok (.ireturn, 1) := by decide +kernel
theorem d_Mod_startY_0 : decode prog_9_method_24_code 0 = .ok (.aload_n 0, 1) := by decide +kernel
theorem d_Mod_startY_1 : decode prog_9_method_24_code 1 = .ok (.getfield 25, 3) := by decide +kernel
theorem d_Mod_startY_4 : decode prog_9_method_24_code 4 = .ok (.iload_n 1, 1) := by decide +kernel
theorem d_Mod_startY_5 : decode prog_9_method_24_code 5 = .ok (.iaload, 1) := by decide +kernel
theorem d_Mod_startY_6 : decode prog_9_method_24_code 6 = .ok (.iconst 1, 1) := by decide +kernel
theorem d_Mod_startY_7 : decode prog_9_method_24_code 7 = .ok (.if_icmp .ne 12, 3) := by decide +kernel
theorem d_Mod_startY_10 : decode prog_9_method_24_code 10 = .ok (.aload_n 0, 1) := by decide +kernel
theorem d_Mod_startY_11 : decode prog_9_method_24_code 11 = .ok (.getfield 13, 3) := by decide +kernel
theorem d_Mod_startY_14 : decode prog_9_method_24_code 14 = .ok (.iload_n 1, 1) := by decide +kernel
theorem d_Mod_startY_15 : decode prog_9_method_24_code 15 = .ok (.iaload, 1) := by decide +kernel
theorem d_Mod_startY_16 : decode prog_9_method_24_code 16 = .ok (.goto 9, 3) := by decide +kernel
theorem d_Mod_startY_19 : decode prog_9_method_24_code 19 = .ok (.aload_n 0, 1) := by decide +kernel
theorem d_Mod_startY_20 : decode prog_9_method_24_code 20 = .ok (.getfield 19, 3) := by decide +kernel
theorem d_Mod_startY_23 : decode prog_9_method_24_code 23 = .ok (.iload_n 1, 1) := by decide +kernel
theorem d_Mod_startY_24 : decode prog_9_method_24_code 24 = .ok (.iaload, 1) := by decide +kernel
theorem d_Mod_startY_25 : decode prog_9_method_24_code 25 = .ok (.ireturn, 1) := by decide +kernel
theorem d_Mod_endX_0 : decode prog_9_method_25_code 0 = .ok (.aload_n 0, 1) := by decide +kernel
theorem d_Mod_endX_1 : decode prog_9_method_25_code 1 = .ok (.getfield 25, 3) := by decide +kernel
theorem d_Mod_endX_4 : decode prog_9_method_25_code 4 = .ok (.iload_n 1, 1) := by decide +kernel
theorem d_Mod_endX_5 : decode prog_9_method_25_code 5 = .ok (.iaload, 1) := by decide +kernel
theorem d_Mod_endX_6 : decode prog_9_method_25_code 6 = .ok (.iconst 1, 1) := by decide +kernel
theorem d_Mod_endX_7 : decode prog_9_method_25_code 7 = .ok (.if_icmp .ne 12, 3) := by decide +kernel
theorem d_Mod_endX_10 : decode prog_9_method_25_code 10 = .ok (.aload_n 0, 1) := by decide +kernel
theorem d_Mod_endX_11 : decode prog_9_method_25_code 11 = .ok (.getfield 16, 3) := by decide +kernel
theorem d_Mod_endX_14 : decode prog_9_method_25_code 14 = .ok (.iload_n 1, 1) := by decide +kernel
theorem d_Mod_endX_15 : decode prog_9_method_25_code 15 = .ok (.iaload, 1) := by decide +kernel
theorem d_Mod_endX_16 : decode prog_9_method_25_code 16 = .ok (.goto 9, 3) := by decide +kernel
theorem d_Mod_endX_19 : decode prog_9_method_25_code 19 = .ok (.aload_n 0, 1) := by decide +kernel
theorem d_Mod_endX_20 : decode prog_9_method_25_code 20 = .ok (.getfield 7, 3) := by decide +kernel
theorem d_Mod_endX_23 : decode prog_9_method_25_code 23 = .ok (.iload_n 1, 1) := by decide +kernel
theorem d_Mod_endX_24 : decode prog_9_method_25_code 24 = .ok (.iaload, 1) := by decide +kernel
theorem d_Mod_endX_25 : decode prog_9_method_25_code 25 = .ok (.ireturn, 1) := by decide +kernel
theorem d_Mod_endY_0 : decode prog_9_method_26_code 0 = .ok (.aload_n 0, 1) := by decide +kernel
theorem d_Mod_endY_1 : decode prog_9_method_26_code 1 = .ok (.getfield 25, 3) := by decide +kernel
theorem d_Mod_endY_4 : decode prog_9_method_26_code 4 = .ok (.iload_n 1, 1) := by decide +kernel
theorem d_Mod_endY_5 : decode prog_9_method_26_code 5 = .ok (.iaload, 1) := by decide +kernel
theorem d_Mod_endY_6 : decode prog_9_method_26_code 6 = .ok (.iconst 1, 1) := by decide +kernel
theorem d_Mod_endY_7 : decode prog_9_method_26_code 7 = .ok (.if_icmp .ne 12, 3) := by decide +kernel
theorem d_Mod_endY_10 : decode prog_9_method_26_code 10 = .ok (.aload_n 0, 1) := by decide +kernel
theorem d_Mod_endY_11 : decode prog_9_method_26_code 11 = .ok (.getfield 19, 3) := by decide +kernel
theorem d_Mod_endY_14 : decode prog_9_method_26_code 14 = .ok (.iload_n 1, 1) := by decide +kernel
theorem d_Mod_endY_15 : decode prog_9_method_26_code 15 = .ok (.iaload, 1) := by decide +kernel
theorem d_Mod_endY_16 : decode prog_9_method_26_code 16 = .ok (.goto 9, 3) := by decide +kernel
theorem d_Mod_endY_19 : decode prog_9_method_26_code 19 = .ok (.aload_n 0, 1) := by decide +kernel
theorem d_Mod_endY_20 : decode prog_9_method_26_code 20 = .ok (.getfield 13, 3) := by decide +kernel
theorem d_Mod_endY_23 : decode prog_9_method_26_code 23 = .ok (.iload_n 1, 1) := by decide +kernel
theorem d_Mod_endY_24 : decode prog_9_method_26_code 24 = .ok (.iaload, 1) := by decide +kernel
theorem d_Mod_endY_25 : decode prog_9_method_26_code 25 = .ok (.ireturn, 1) := by decide +kernel
theorem d_Mod_isSooner_0 : decode prog_9_method_27_code 0 = .ok (.lload_n 0, 1) := by decide +kernel
theorem d_Mod_isSooner_1 : decode prog_9_method_27_code 1 = .ok (.lload_n 2, 1) := by decide +kernel
theorem d_Mod_isSooner_2 : decode prog_9_method_27_code 2 = .ok (.lload 4, 2) := by decide +kernel
theorem d_Mod_isSooner_4 : decode prog_9_method_27_code 4 = .ok (.lload 6, 2) := by decide +kernel
theorem d_Mod_isSooner_6 : decode prog_9_method_27_code 6 = .ok (.invokestatic 89, 3) := by decide +kernel
theorem d_Mod_isSooner_9 : decode prog_9_method_27_code 9 = .ok (.invokestatic 93, 3) := by decide +kernel
theorem d_Mod_isSooner_12 : decode prog_9_method_27_code 12 = .ok (.istore 12, 2) := by decide +kernel
theorem d_Mod_isSooner_14 : decode prog_9_method_27_code 14 = .ok (.lload_n 0, 1) := by decide +kernel
theorem d_Mod_isSooner_15 : decode prog_9_method_27_code 15 = .ok (.lload_n 2, 1) := by decide +kernel
theorem d_Mod_isSooner_16 : decode prog_9_method_27_code 16 = .ok (.lload 8, 2) := by decide +kernel
theorem d_Mod_isSooner_18 : decode prog_9_method_27_code 18 = .ok (.lload 10, 2) := by decide +kernel
theorem d_Mod_isSooner_20 : decode prog_9_method_27_code 20 = .ok (.invokestatic 89, 3) := by decide +kernel
theorem d_Mod_isSooner_23 : decode prog_9_method_27_code 23 = .ok (.invokestatic 93, 3) := by decide +kernel
theorem d_Mod_isSooner_26 : decode prog_9_method_27_code 26 = .ok (.istore 13, 2) := by decide +kernel
theorem d_Mod_isSooner_28 : decode prog_9_method_27_code 28 = .ok (.iload 12, 2) := by decide +kernel
theorem d_Mod_isSooner_30 : decode prog_9_method_27_code 30 = .ok (.iload 13, 2) := by decide +kernel
theorem d_Mod_isSooner_32 : decode prog_9_method_27_code 32 = .ok (.if_icmp .eq 18, 3) := by decide +kernel
theorem d_Mod_isSooner_35 : decode prog_9_method_27_code 35 = .ok (.iload 12, 2) := by decide +kernel
theorem d_Mod_isSooner_37 : decode prog_9_method_27_code 37 = .ok (.iload 13, 2) := by decide +kernel
theorem d_Mod_isSooner_39 : decode prog_9_method_27_code 39 = .ok (.if_icmp .ge 7, 3) := by decide +kernel
theorem d_Mod_isSooner_42 : decode prog_9_method_27_code 42 = .ok (.iconst 1, 1) := by decide +kernel
theorem d_Mod_isSooner_43 : decode prog_9_method_27_code 43 = .ok (.goto 28, 3) := by decide +kernel
theorem d_Mod_isSooner_46 : decode prog_9_method_27_code 46 = .ok (.iconst 0, 1) := by decide +kernel
theorem d_Mod_isSooner_47 : decode prog_9_method_27_code 47 = .ok (.goto 24, 3) := by decide +kernel
theorem d_Mod_isSooner_50 : decode prog_9_method_27_code 50 = .ok (.lload 4, 2) := by decide +kernel
theorem d_Mod_isSooner_52 : decode prog_9_method_27_code 52 = .ok (.lload 6, 2) := by decide +kernel
theorem d_Mod_isSooner_54 : decode prog_9_method_27_code 54 = .ok (.lload 8, 2) := by decide +kernel
theorem d_Mod_isSooner_56 : decode prog_9_method_27_code 56 = .ok (.lload 10, 2) := by decide +kernel
theorem d_Mod_isSooner_58 : decode prog_9_method_27_code 58 = .ok (.invokestatic 89, 3) := by decide +kernel
theorem d_Mod_isSooner_61 : decode prog_9_method_27_code 61 = .ok (.lconst 0, 1) := by decide +kernel
theorem d_Mod_isSooner_62 : decode prog_9_method_27_code 62 = .ok (.lcmp, 1) := by decide +kernel
theorem d_Mod_isSooner_63 : decode prog_9_method_27_code 63 = .ok (.ifCond .ge 7, 3) := by decide +kernel
theorem d_Mod_isSooner_66 : decode prog_9_method_27_code 66 = .ok (.iconst 1, 1) := by decide +kernel
theorem d_Mod_isSooner_67 : decode prog_9_method_27_code 67 = .ok (.goto 4, 3) := by decide +kernel
theorem d_Mod_isSooner_70 : decode prog_9_method_27_code 70 = .ok (.iconst 0, 1) := by decide +kernel
theorem d_Mod_isSooner_71 : decode prog_9_method_27_code 71 = .ok (.ireturn, 1) := by decide +kernel
theorem d_Mod_farX_0 : decode prog_9_method_29_code 0 = .ok (.aload_n 0, 1) := by decide +kernel
theorem d_Mod_farX_1 : decode prog_9_method_29_code 1 = .ok (.getfield 7, 3) := by decide +kernel
theorem d_Mod_farX_4 : decode prog_9_method_29_code 4 = .ok (.iload_n 1, 1) := by decide +kernel
theorem d_Mod_farX_5 : decode prog_9_method_29_code 5 = .ok (.iaload, 1) := by decide +kernel
theorem d_Mod_farX_6 : decode prog_9_method_29_code 6 = .ok (.iload_n 2, 1) := by decide +kernel
theorem d_Mod_farX_7 : decode prog_9_method_29_code 7 = .ok (.if_icmp .ne 22, 3) := by decide +kernel
theorem d_Mod_farX_10 : decode prog_9_method_29_code 10 = .ok (.aload_n 0, 1) := by decide +kernel
theorem d_Mod_farX_11 : decode prog_9_method_29_code 11 = .ok (.getfield 13, 3) := by decide +kernel
theorem d_Mod_farX_14 : decode prog_9_method_29_code 14 = .ok (.iload_n 1, 1) := by decide +kernel
theorem d_Mod_farX_15 : decode prog_9_method_29_code 15 = .ok (.iaload, 1) := by decide +kernel
theorem d_Mod_farX_16 : decode prog_9_method_29_code 16 = .ok (.iload_n 3, 1) := by decide +kernel
theorem d_Mod_farX_17 : decode prog_9_method_29_code 17 = .ok (.if_icmp .ne 12, 3) := by decide +kernel
theorem d_Mod_farX_20 : decode prog_9_method_29_code 20 = .ok (.aload_n 0, 1) := by decide +kernel
theorem d_Mod_farX_21 : decode prog_9_method_29_code 21 = .ok (.getfield 16, 3) := by decide +kernel
theorem d_Mod_farX_24 : decode prog_9_method_29_code 24 = .ok (.iload_n 1, 1) := by decide +kernel
theorem d_Mod_farX_25 : decode prog_9_method_29_code 25 = .ok (.iaload, 1) := by decide +kernel
theorem d_Mod_farX_26 : decode prog_9_method_29_code 26 = .ok (.goto 9, 3) := by decide +kernel
theorem d_Mod_farX_29 : decode prog_9_method_29_code 29 = .ok (.aload_n 0, 1) := by decide +kernel
theorem d_Mod_farX_30 : decode prog_9_method_29_code 30 = .ok (.getfield 7, 3) := by decide +kernel
theorem d_Mod_farX_33 : decode prog_9_method_29_code 33 = .ok (.iload_n 1, 1) := by decide +kernel
theorem d_Mod_farX_34 : decode prog_9_method_29_code 34 = .ok (.iaload, 1) := by decide +kernel
theorem d_Mod_farX_35 : decode prog_9_method_29_code 35 = .ok (.ireturn, 1) := by decide +kernel
theorem d_Mod_farY_0 : decode prog_9_method_30_code 0 = .ok (.aload_n 0, 1) := by decide +kernel
theorem d_Mod_farY_1 : decode prog_9_method_30_code 1 = .ok (.getfield 7, 3) := by decide +kernel
theorem d_Mod_farY_4 : decode prog_9_method_30_code 4 = .ok (.iload_n 1, 1) := by decide +kernel
theorem d_Mod_farY_5 : decode prog_9_method_30_code 5 = .ok (.iaload, 1) := by decide +kernel
theorem d_Mod_farY_6 : decode prog_9_method_30_code 6 = .ok (.iload_n 2, 1) := by decide +kernel
theorem d_Mod_farY_7 : decode prog_9_method_30_code 7 = .ok (.if_icmp .ne 22, 3) := by decide +kernel
theorem d_Mod_farY_10 : decode prog_9_method_30_code 10 = .ok (.aload_n 0, 1) := by decide +kernel
theorem d_Mod_farY_11 : decode prog_9_method_30_code 11 = .ok (.getfield 13, 3) := by decide +kernel
theorem d_Mod_farY_14 : decode prog_9_method_30_code 14 = .ok (.iload_n 1, 1) := by decide +kernel
theorem d_Mod_farY_15 : decode prog_9_method_30_code 15 = .ok (.iaload, 1) := by decide +kernel
theorem d_Mod_farY_16 : decode prog_9_method_30_code 16 = .ok (.iload_n 3, 1) := by decide +kernel
theorem d_Mod_farY_17 : decode prog_9_method_30_code 17 = .ok (.if_icmp .ne 12, 3) := by decide +kernel
theorem d_Mod_farY_20 : decode prog_9_method_30_code 20 = .ok (.aload_n 0, 1) := by decide +kernel
theorem d_Mod_farY_21 : decode prog_9_method_30_code 21 = .ok (.getfield 19, 3) := by decide +kernel
theorem d_Mod_farY_24 : decode prog_9_method_30_code 24 = .ok (.iload_n 1, 1) := by decide +kernel
theorem d_Mod_farY_25 : decode prog_9_method_30_code 25 = .ok (.iaload, 1) := by decide +kernel
theorem d_Mod_farY_26 : decode prog_9_method_30_code 26 = .ok (.goto 9, 3) := by decide +kernel
theorem d_Mod_farY_29 : decode prog_9_method_30_code 29 = .ok (.aload_n 0, 1) := by decide +kernel
theorem d_Mod_farY_30 : decode prog_9_method_30_code 30 = .ok (.getfield 13, 3) := by decide +kernel
theorem d_Mod_farY_33 : decode prog_9_method_30_code 33 = .ok (.iload_n 1, 1) := by decide +kernel
theorem d_Mod_farY_34 : decode prog_9_method_30_code 34 = .ok (.iaload, 1) := by decide +kernel
theorem d_Mod_farY_35 : decode prog_9_method_30_code 35 = .ok (.ireturn, 1) := by decide +kernel
theorem d_Mod_next_0 : decode prog_9_method_28_code 0 = .ok (.aload_n 0, 1) := by decide +kernel
theorem d_Mod_next_1 : decode prog_9_method_28_code 1 = .ok (.iload_n 1, 1) := by decide +kernel
theorem d_Mod_next_2 : decode prog_9_method_28_code 2 = .ok (.invokevirtual 147, 3) := by decide +kernel
theorem d_Mod_next_5 : decode prog_9_method_28_code 5 = .ok (.istore_n 2, 1) := by decide +kernel
theorem d_Mod_next_6 : decode prog_9_method_28_code 6 = .ok (.aload_n 0, 1) := by decide +kernel
theorem d_Mod_next_7 : decode prog_9_method_28_code 7 = .ok (.iload_n 1, 1) := by decide +kernel
theorem d_Mod_next_8 : decode prog_9_method_28_code 8 = .ok (.invokevirtual 150, 3) := by decide +kernel
theorem d_Mod_next_11 : decode prog_9_method_28_code 11 = .ok (.istore_n 3, 1) := by decide +kernel
theorem d_Mod_next_12 : decode prog_9_method_28_code 12 = .ok (.iconst (-1), 1) := by decide +kernel
theorem d_Mod_next_13 : decode prog_9_method_28_code 13 = .ok (.istore 4, 2) := by decide +kernel
theorem d_Mod_next_15 : decode prog_9_method_28_code 15 = .ok (.iconst 0, 1) := by decide +kernel
theorem d_Mod_next_16 : decode prog_9_method_28_code 16 = .ok (.istore 5, 2) := by decide +kernel
theorem d_Mod_next_18 : decode prog_9_method_28_code 18 = .ok (.iload 5, 2) := by decide +kernel
theorem d_Mod_next_20 : decode prog_9_method_28_code 20 = .ok (.aload_n 0, 1) := by decide +kernel
theorem d_Mod_next_21 : decode prog_9_method_28_code 21 = .ok (.getfield 110, 3) := by decide +kernel
theorem d_Mod_next_24 : decode prog_9_method_28_code 24 = .ok (.if_icmp .ge 134, 3) := by decide +kernel
theorem d_Mod_next_27 : decode prog_9_method_28_code 27 = .ok (.iload 5, 2) := by decide +kernel
theorem d_Mod_next_29 : decode prog_9_method_28_code 29 = .ok (.iload_n 1, 1) := by decide +kernel
theorem d_Mod_next_30 : decode prog_9_method_28_code 30 = .ok (.if_icmp .eq 122, 3) := by decide +kernel
theorem d_Mod_next_33 : decode prog_9_method_28_code 33 = .ok (.aload_n 0, 1) := by decide +kernel
theorem d_Mod_next_34 : decode prog_9_method_28_code 34 = .ok (.getfield 25, 3) := by decide +kernel
theorem d_Mod_next_37 : decode prog_9_method_28_code 37 = .ok (.iload 5, 2) := by decide +kernel
theorem d_Mod_next_39 : decode prog_9_method_28_code 39 = .ok (.iaload, 1) := by decide +kernel
theorem d_Mod_next_40 : decode prog_9_method_28_code 40 = .ok (.ifCond .le 112, 3) := by decide +kernel
theorem d_Mod_next_43 : decode prog_9_method_28_code 43 = .ok (.aload_n 0, 1) := by decide +kernel
theorem d_Mod_next_44 : decode prog_9_method_28_code 44 = .ok (.iload 5, 2) := by decide +kernel
theorem d_Mod_next_46 : decode prog_9_method_28_code 46 = .ok (.iload_n 2, 1) := by decide +kernel
theorem d_Mod_next_47 : decode prog_9_method_28_code 47 = .ok (.iload_n 3, 1) := by decide +kernel
theorem d_Mod_next_48 : decode prog_9_method_28_code 48 = .ok (.invokevirtual 97, 3) := by decide +kernel
theorem d_Mod_next_51 : decode prog_9_method_28_code 51 = .ok (.ifCond .eq 101, 3) := by decide +kernel
theorem d_Mod_next_54 : decode prog_9_method_28_code 54 = .ok (.iload 4, 2) := by decide +kernel
theorem d_Mod_next_56 : decode prog_9_method_28_code 56 = .ok (.ifCond .lt 75, 3) := by decide +kernel
theorem d_Mod_next_59 : decode prog_9_method_28_code 59 = .ok (.aload_n 0, 1) := by decide +kernel
theorem d_Mod_next_60 : decode prog_9_method_28_code 60 = .ok (.iload_n 1, 1) := by decide +kernel
theorem d_Mod_next_61 : decode prog_9_method_28_code 61 = .ok (.invokevirtual 153, 3) := by decide +kernel
theorem d_Mod_next_64 : decode prog_9_method_28_code 64 = .ok (.i2l, 1) := by decide +kernel
theorem d_Mod_next_65 : decode prog_9_method_28_code 65 = .ok (.iload_n 2, 1) := by decide +kernel
theorem d_Mod_next_66 : decode prog_9_method_28_code 66 = .ok (.i2l, 1) := by decide +kernel
theorem d_Mod_next_67 : decode prog_9_method_28_code 67 = .ok (.lsub, 1) := by decide +kernel
theorem d_Mod_next_68 : decode prog_9_method_28_code 68 = .ok (.aload_n 0, 1) := by decide +kernel
theorem d_Mod_next_69 : decode prog_9_method_28_code 69 = .ok (.iload_n 1, 1) := by decide +kernel
theorem d_Mod_next_70 : decode prog_9_method_28_code 70 = .ok (.invokevirtual 156, 3) := by decide +kernel
theorem d_Mod_next_73 : decode prog_9_method_28_code 73 = .ok (.i2l, 1) := by decide +kernel
theorem d_Mod_next_74 : decode prog_9_method_28_code 74 = .ok (.iload_n 3, 1) := by decide +kernel
theorem d_Mod_next_75 : decode prog_9_method_28_code 75 = .ok (.i2l, 1) := by decide +kernel
theorem d_Mod_next_76 : decode prog_9_method_28_code 76 = .ok (.lsub, 1) := by decide +kernel
theorem d_Mod_next_77 : decode prog_9_method_28_code 77 = .ok (.aload_n 0, 1) := by decide +kernel
theorem d_Mod_next_78 : decode prog_9_method_28_code 78 = .ok (.iload 5, 2) := by decide +kernel
theorem d_Mod_next_80 : decode prog_9_method_28_code 80 = .ok (.iload_n 2, 1) := by decide +kernel
theorem d_Mod_next_81 : decode prog_9_method_28_code 81 = .ok (.iload_n 3, 1) := by decide +kernel
theorem d_Mod_next_82 : decode prog_9_method_28_code 82 = .ok (.invokevirtual 159, 3) := by decide +kernel
theorem d_Mod_next_85 : decode prog_9_method_28_code 85 = .ok (.i2l, 1) := by decide +kernel
theorem d_Mod_next_86 : decode prog_9_method_28_code 86 = .ok (.iload_n 2, 1) := by decide +kernel
theorem d_Mod_next_87 : decode prog_9_method_28_code 87 = .ok (.i2l, 1) := by decide +kernel
theorem d_Mod_next_88 : decode prog_9_method_28_code 88 = .ok (.lsub, 1) := by decide +kernel
theorem d_Mod_next_89 : decode prog_9_method_28_code 89 = .ok (.aload_n 0, 1) := by decide +kernel
theorem d_Mod_next_90 : decode prog_9_method_28_code 90 = .ok (.iload 5, 2) := by decide +kernel
theorem d_Mod_next_92 : decode prog_9_method_28_code 92 = .ok (.iload_n 2, 1) := by decide +kernel
theorem d_Mod_next_93 : decode prog_9_method_28_code 93 = .ok (.iload_n 3, 1) := by decide +kernel
theorem d_Mod_next_94 : decode prog_9_method_28_code 94 = .ok (.invokevirtual 163, 3) := by decide +kernel
theorem d_Mod_next_97 : decode prog_9_method_28_code 97 = .ok (.i2l, 1) := by decide +kernel
theorem d_Mod_next_98 : decode prog_9_method_28_code 98 = .ok (.iload_n 3, 1) := by decide +kernel
theorem d_Mod_next_99 : decode prog_9_method_28_code 99 = .ok (.i2l, 1) := by decide +kernel
theorem d_Mod_next_100 : decode prog_9_method_28_code 100 = .ok (.lsub, 1) := by decide +kernel
theorem d_Mod_next_101 : decode prog_9_method_28_code 101 = .ok (.aload_n 0, 1) := by decide +kernel
theorem d_Mod_next_102 : decode prog_9_method_28_code 102 = .ok (.iload 4, 2) := by decide +kernel
theorem d_Mod_next_104 : decode prog_9_method_28_code 104 = .ok (.iload_n 2, 1) := by decide +kernel
theorem d_Mod_next_105 : decode prog_9_method_28_code 105 = .ok (.iload_n 3, 1) := by decide +kernel
theorem d_Mod_next_106 : decode prog_9_method_28_code 106 = .ok (.invokevirtual 159, 3) := by decide +kernel
theorem d_Mod_next_109 : decode prog_9_method_28_code 109 = .ok (.i2l, 1) := by decide +kernel
theorem d_Mod_next_110 : decode prog_9_method_28_code 110 = .ok (.iload_n 2, 1) := by decide +kernel
theorem d_Mod_next_111 : decode prog_9_method_28_code 111 = .ok (.i2l, 1) := by decide +kernel
theorem d_Mod_next_112 : decode prog_9_method_28_code 112 = .ok (.lsub, 1) := by decide +kernel
theorem d_Mod_next_113 : decode prog_9_method_28_code 113 = .ok (.aload_n 0, 1) := by decide +kernel
theorem d_Mod_next_114 : decode prog_9_method_28_code 114 = .ok (.iload 4, 2) := by decide +kernel
theorem d_Mod_next_116 : decode prog_9_method_28_code 116 = .ok (.iload_n 2, 1) := by decide +kernel
theorem d_Mod_next_117 : decode prog_9_method_28_code 117 = .ok (.iload_n 3, 1) := by decide +kernel
theorem d_Mod_next_118 : decode prog_9_method_28_code 118 = .ok (.invokevirtual 163, 3) := by decide +kernel
theorem d_Mod_next_121 : decode prog_9_method_28_code 121 = .ok (.i2l, 1) := by decide +kernel
theorem d_Mod_next_122 : decode prog_9_method_28_code 122 = .ok (.iload_n 3, 1) := by decide +kernel
theorem d_Mod_next_123 : decode prog_9_method_28_code 123 = .ok (.i2l, 1) := by decide +kernel
theorem d_Mod_next_124 : decode prog_9_method_28_code 124 = .ok (.lsub, 1) := by decide +kernel
theorem d_Mod_next_125 : decode prog_9_method_28_code 125 = .ok (.invokestatic 166, 3) := by decide +kernel
theorem d_Mod_next_128 : decode prog_9_method_28_code 128 = .ok (.ifCond .eq 7, 3) := by decide +kernel
theorem d_Mod_next_131 : decode prog_9_method_28_code 131 = .ok (.iconst 1, 1) := by decide +kernel
theorem d_Mod_next_132 : decode prog_9_method_28_code 132 = .ok (.goto 4, 3) := by decide +kernel
theorem d_Mod_next_135 : decode prog_9_method_28_code 135 = .ok (.iconst 0, 1) := by decide +kernel
theorem d_Mod_next_136 : decode prog_9_method_28_code 136 = .ok (.istore 6, 2) := by decide +kernel
theorem d_Mod_next_138 : decode prog_9_method_28_code 138 = .ok (.iload 6, 2) := by decide +kernel
theorem d_Mod_next_140 : decode prog_9_method_28_code 140 = .ok (.ifCond .eq 8, 3) := by decide +kernel
theorem d_Mod_next_143 : decode prog_9_method_28_code 143 = .ok (.iload 5, 2) := by decide +kernel
theorem d_Mod_next_145 : decode prog_9_method_28_code 145 = .ok (.goto 5, 3) := by decide +kernel
theorem d_Mod_next_148 : decode prog_9_method_28_code 148 = .ok (.iload 4, 2) := by decide +kernel
theorem d_Mod_next_150 : decode prog_9_method_28_code 150 = .ok (.istore 4, 2) := by decide +kernel
theorem d_Mod_next_152 : decode prog_9_method_28_code 152 = .ok (.iinc 5 1, 3) := by decide +kernel
theorem d_Mod_next_155 : decode prog_9_method_28_code 155 = .ok (.goto (-137), 3) := by decide +kernel
theorem d_Mod_next_158 : decode prog_9_method_28_code 158 = .ok (.iload 4, 2) := by decide +kernel
theorem d_Mod_next_160 : decode prog_9_method_28_code 160 = .ok (.ireturn, 1) := by decide +kernel
theorem d_Mod_placeOf_0 : decode prog_9_method_31_code 0 = .ok (.iconst (-1), 1) := by decide +kernel
theorem d_Mod_placeOf_1 : decode prog_9_method_31_code 1 = .ok (.istore_n 3, 1) := by decide +kernel
theorem d_Mod_placeOf_2 : decode prog_9_method_31_code 2 = .ok (.iconst 0, 1) := by decide +kernel
theorem d_Mod_placeOf_3 : decode prog_9_method_31_code 3 = .ok (.istore 4, 2) := by decide +kernel
theorem d_Mod_placeOf_5 : decode prog_9_method_31_code 5 = .ok (.iload 4, 2) := by decide +kernel
theorem d_Mod_placeOf_7 : decode prog_9_method_31_code 7 = .ok (.aload_n 0, 1) := by decide +kernel
theorem d_Mod_placeOf_8 : decode prog_9_method_31_code 8 = .ok (.getfield 170, 3) := by decide +kernel
theorem d_Mod_placeOf_11 : decode prog_9_method_31_code 11 = .ok (.if_icmp .ge 38, 3) := by decide +kernel
theorem d_Mod_placeOf_14 : decode prog_9_method_31_code 14 = .ok (.aload_n 0, 1) := by decide +kernel
theorem d_Mod_placeOf_15 : decode prog_9_method_31_code 15 = .ok (.getfield 41, 3) := by decide +kernel
theorem d_Mod_placeOf_18 : decode prog_9_method_31_code 18 = .ok (.iload 4, 2) := by decide +kernel
theorem d_Mod_placeOf_20 : decode prog_9_method_31_code 20 = .ok (.iaload, 1) := by decide +kernel
theorem d_Mod_placeOf_21 : decode prog_9_method_31_code 21 = .ok (.iload_n 1, 1) := by decide +kernel
theorem d_Mod_placeOf_22 : decode prog_9_method_31_code 22 = .ok (.if_icmp .ne 19, 3) := by decide +kernel
theorem d_Mod_placeOf_25 : decode prog_9_method_31_code 25 = .ok (.aload_n 0, 1) := by decide +kernel
theorem d_Mod_placeOf_26 : decode prog_9_method_31_code 26 = .ok (.getfield 44, 3) := by decide +kernel
theorem d_Mod_placeOf_29 : decode prog_9_method_31_code 29 = .ok (.iload 4, 2) := by decide +kernel
theorem d_Mod_placeOf_31 : decode prog_9_method_31_code 31 = .ok (.iaload, 1) := by decide +kernel
theorem d_Mod_placeOf_32 : decode prog_9_method_31_code 32 = .ok (.iload_n 2, 1) := by decide +kernel
theorem d_Mod_placeOf_33 : decode prog_9_method_31_code 33 = .ok (.if_icmp .ne 8, 3) := by decide +kernel
