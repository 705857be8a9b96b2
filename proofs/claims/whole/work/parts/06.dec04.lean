theorem d_Rgs_takeRing_56 : decode prog_6_method_9_code 56 = .ok (.invokevirtual 99, 3) := by decide +kernel
theorem d_Rgs_takeRing_59 : decode prog_6_method_9_code 59 = .ok (.ifCond .eq 7, 3) := by decide +kernel
theorem d_Rgs_takeRing_62 : decode prog_6_method_9_code 62 = .ok (.iload 5, 2) := by decide +kernel
theorem d_Rgs_takeRing_64 : decode prog_6_method_9_code 64 = .ok (.istore 4, 2) := by decide +kernel
theorem d_Rgs_takeRing_66 : decode prog_6_method_9_code 66 = .ok (.iinc 5 1, 3) := by decide +kernel
theorem d_Rgs_takeRing_69 : decode prog_6_method_9_code 69 = .ok (.goto (-55), 3) := by decide +kernel
theorem d_Rgs_takeRing_72 : decode prog_6_method_9_code 72 = .ok (.aload_n 0, 1) := by decide +kernel
theorem d_Rgs_takeRing_73 : decode prog_6_method_9_code 73 = .ok (.getfield 21, 3) := by decide +kernel
theorem d_Rgs_takeRing_76 : decode prog_6_method_9_code 76 = .ok (.aload_n 0, 1) := by decide +kernel
theorem d_Rgs_takeRing_77 : decode prog_6_method_9_code 77 = .ok (.getfield 12, 3) := by decide +kernel
theorem d_Rgs_takeRing_80 : decode prog_6_method_9_code 80 = .ok (.getfield 43, 3) := by decide +kernel
theorem d_Rgs_takeRing_83 : decode prog_6_method_9_code 83 = .ok (.invokevirtual 71, 3) := by decide +kernel
theorem d_Rgs_takeRing_86 : decode prog_6_method_9_code 86 = .ok (.aload_n 0, 1) := by decide +kernel
theorem d_Rgs_takeRing_87 : decode prog_6_method_9_code 87 = .ok (.aload_n 1, 1) := by decide +kernel
theorem d_Rgs_takeRing_88 : decode prog_6_method_9_code 88 = .ok (.iload 4, 2) := by decide +kernel
theorem d_Rgs_takeRing_90 : decode prog_6_method_9_code 90 = .ok (.iload_n 2, 1) := by decide +kernel
theorem d_Rgs_takeRing_91 : decode prog_6_method_9_code 91 = .ok (.iload_n 3, 1) := by decide +kernel
theorem d_Rgs_takeRing_92 : decode prog_6_method_9_code 92 = .ok (.invokevirtual 103, 3) := by decide +kernel
theorem d_Rgs_takeRing_95 : decode prog_6_method_9_code 95 = .ok (.aload_n 0, 1) := by decide +kernel
theorem d_Rgs_takeRing_96 : decode prog_6_method_9_code 96 = .ok (.getfield 34, 3) := by decide +kernel
theorem d_Rgs_takeRing_99 : decode prog_6_method_9_code 99 = .ok (.iload_n 2, 1) := by decide +kernel
theorem d_Rgs_takeRing_100 : decode prog_6_method_9_code 100 = .ok (.invokevirtual 107, 3) := by decide +kernel
theorem d_Rgs_takeRing_103 : decode prog_6_method_9_code 103 = .ok (.return_, 1) := by decide +kernel
theorem d_Rgs_walk_0 : decode prog_6_method_8_code 0 = .ok (.iload_n 3, 1) := by decide +kernel
theorem d_Rgs_walk_1 : decode prog_6_method_8_code 1 = .ok (.istore 4, 2) := by decide +kernel
theorem d_Rgs_walk_3 : decode prog_6_method_8_code 3 = .ok (.iconst 0, 1) := by decide +kernel
theorem d_Rgs_walk_4 : decode prog_6_method_8_code 4 = .ok (.istore 5, 2) := by decide +kernel
theorem d_Rgs_walk_6 : decode prog_6_method_8_code 6 = .ok (.iload 5, 2) := by decide +kernel
theorem d_Rgs_walk_8 : decode prog_6_method_8_code 8 = .ok (.aload_n 2, 1) := by decide +kernel
theorem d_Rgs_walk_9 : decode prog_6_method_8_code 9 = .ok (.invokevirtual 54, 3) := by decide +kernel
theorem d_Rgs_walk_12 : decode prog_6_method_8_code 12 = .ok (.if_icmp .ge 119, 3) := by decide +kernel
theorem d_Rgs_walk_15 : decode prog_6_method_8_code 15 = .ok (.aload_n 0, 1) := by decide +kernel
theorem d_Rgs_walk_16 : decode prog_6_method_8_code 16 = .ok (.getfield 40, 3) := by decide +kernel
theorem d_Rgs_walk_19 : decode prog_6_method_8_code 19 = .ok (.iload 4, 2) := by decide +kernel
theorem d_Rgs_walk_21 : decode prog_6_method_8_code 21 = .ok (.invokevirtual 46, 3) := by decide +kernel
theorem d_Rgs_walk_24 : decode prog_6_method_8_code 24 = .ok (.ifCond .ne 107, 3) := by decide +kernel
theorem d_Rgs_walk_27 : decode prog_6_method_8_code 27 = .ok (.aload_n 0, 1) := by decide +kernel
theorem d_Rgs_walk_28 : decode prog_6_method_8_code 28 = .ok (.getfield 40, 3) := by decide +kernel
theorem d_Rgs_walk_31 : decode prog_6_method_8_code 31 = .ok (.iload 4, 2) := by decide +kernel
theorem d_Rgs_walk_33 : decode prog_6_method_8_code 33 = .ok (.iconst 1, 1) := by decide +kernel
theorem d_Rgs_walk_34 : decode prog_6_method_8_code 34 = .ok (.invokevirtual 82, 3) := by decide +kernel
theorem d_Rgs_walk_37 : decode prog_6_method_8_code 37 = .ok (.aload_n 0, 1) := by decide +kernel
theorem d_Rgs_walk_38 : decode prog_6_method_8_code 38 = .ok (.getfield 37, 3) := by decide +kernel
theorem d_Rgs_walk_41 : decode prog_6_method_8_code 41 = .ok (.aload_n 2, 1) := by decide +kernel
theorem d_Rgs_walk_42 : decode prog_6_method_8_code 42 = .ok (.getfield 86, 3) := by decide +kernel
theorem d_Rgs_walk_45 : decode prog_6_method_8_code 45 = .ok (.iload 4, 2) := by decide +kernel
theorem d_Rgs_walk_47 : decode prog_6_method_8_code 47 = .ok (.invokevirtual 46, 3) := by decide +kernel
theorem d_Rgs_walk_50 : decode prog_6_method_8_code 50 = .ok (.aload_n 0, 1) := by decide +kernel
theorem d_Rgs_walk_51 : decode prog_6_method_8_code 51 = .ok (.getfield 34, 3) := by decide +kernel
theorem d_Rgs_walk_54 : decode prog_6_method_8_code 54 = .ok (.getfield 43, 3) := by decide +kernel
theorem d_Rgs_walk_57 : decode prog_6_method_8_code 57 = .ok (.invokevirtual 82, 3) := by decide +kernel
theorem d_Rgs_walk_60 : decode prog_6_method_8_code 60 = .ok (.aload_n 0, 1) := by decide +kernel
theorem d_Rgs_walk_61 : decode prog_6_method_8_code 61 = .ok (.getfield 34, 3) := by decide +kernel
theorem d_Rgs_walk_64 : decode prog_6_method_8_code 64 = .ok (.aload_n 2, 1) := by decide +kernel
theorem d_Rgs_walk_65 : decode prog_6_method_8_code 65 = .ok (.getfield 86, 3) := by decide +kernel
theorem d_Rgs_walk_68 : decode prog_6_method_8_code 68 = .ok (.iload 4, 2) := by decide +kernel
theorem d_Rgs_walk_70 : decode prog_6_method_8_code 70 = .ok (.invokevirtual 46, 3) := by decide +kernel
theorem d_Rgs_walk_73 : decode prog_6_method_8_code 73 = .ok (.invokevirtual 71, 3) := by decide +kernel
theorem d_Rgs_walk_76 : decode prog_6_method_8_code 76 = .ok (.aload_n 2, 1) := by decide +kernel
theorem d_Rgs_walk_77 : decode prog_6_method_8_code 77 = .ok (.getfield 89, 3) := by decide +kernel
theorem d_Rgs_walk_80 : decode prog_6_method_8_code 80 = .ok (.iload 4, 2) := by decide +kernel
theorem d_Rgs_walk_82 : decode prog_6_method_8_code 82 = .ok (.invokevirtual 46, 3) := by decide +kernel
theorem d_Rgs_walk_85 : decode prog_6_method_8_code 85 = .ok (.istore 6, 2) := by decide +kernel
theorem d_Rgs_walk_87 : decode prog_6_method_8_code 87 = .ok (.aload_n 0, 1) := by decide +kernel
theorem d_Rgs_walk_88 : decode prog_6_method_8_code 88 = .ok (.getfield 37, 3) := by decide +kernel
theorem d_Rgs_walk_91 : decode prog_6_method_8_code 91 = .ok (.iload 6, 2) := by decide +kernel
theorem d_Rgs_walk_93 : decode prog_6_method_8_code 93 = .ok (.invokevirtual 46, 3) := by decide +kernel
theorem d_Rgs_walk_96 : decode prog_6_method_8_code 96 = .ok (.iconst (-1), 1) := by decide +kernel
theorem d_Rgs_walk_97 : decode prog_6_method_8_code 97 = .ok (.if_icmp .eq 17, 3) := by decide +kernel
theorem d_Rgs_walk_100 : decode prog_6_method_8_code 100 = .ok (.aload_n 0, 1) := by decide +kernel
theorem d_Rgs_walk_101 : decode prog_6_method_8_code 101 = .ok (.aload_n 1, 1) := by decide +kernel
theorem d_Rgs_walk_102 : decode prog_6_method_8_code 102 = .ok (.aload_n 0, 1) := by decide +kernel
theorem d_Rgs_walk_103 : decode prog_6_method_8_code 103 = .ok (.getfield 37, 3) := by decide +kernel
theorem d_Rgs_walk_106 : decode prog_6_method_8_code 106 = .ok (.iload 6, 2) := by decide +kernel
theorem d_Rgs_walk_108 : decode prog_6_method_8_code 108 = .ok (.invokevirtual 46, 3) := by decide +kernel
theorem d_Rgs_walk_111 : decode prog_6_method_8_code 111 = .ok (.invokevirtual 92, 3) := by decide +kernel
theorem d_Rgs_walk_114 : decode prog_6_method_8_code 114 = .ok (.aload_n 2, 1) := by decide +kernel
theorem d_Rgs_walk_115 : decode prog_6_method_8_code 115 = .ok (.getfield 96, 3) := by decide +kernel
theorem d_Rgs_walk_118 : decode prog_6_method_8_code 118 = .ok (.iload 4, 2) := by decide +kernel
theorem d_Rgs_walk_120 : decode prog_6_method_8_code 120 = .ok (.invokevirtual 46, 3) := by decide +kernel
theorem d_Rgs_walk_123 : decode prog_6_method_8_code 123 = .ok (.istore 4, 2) := by decide +kernel
theorem d_Rgs_walk_125 : decode prog_6_method_8_code 125 = .ok (.iinc 5 1, 3) := by decide +kernel
theorem d_Rgs_walk_128 : decode prog_6_method_8_code 128 = .ok (.goto (-122), 3) := by decide +kernel
theorem d_Rgs_walk_131 : decode prog_6_method_8_code 131 = .ok (.return_, 1) := by decide +kernel
theorem d_Rgs_gather_0 : decode prog_6_method_6_code 0 = .ok (.aload_n 0, 1) := by decide +kernel
theorem d_Rgs_gather_1 : decode prog_6_method_6_code 1 = .ok (.aload_n 1, 1) := by decide +kernel
theorem d_Rgs_gather_2 : decode prog_6_method_6_code 2 = .ok (.aload_n 2, 1) := by decide +kernel
theorem d_Rgs_gather_3 : decode prog_6_method_6_code 3 = .ok (.invokevirtual 50, 3) := by decide +kernel
theorem d_Rgs_gather_6 : decode prog_6_method_6_code 6 = .ok (.iconst 0, 1) := by decide +kernel
theorem d_Rgs_gather_7 : decode prog_6_method_6_code 7 = .ok (.istore_n 3, 1) := by decide +kernel
theorem d_Rgs_gather_8 : decode prog_6_method_6_code 8 = .ok (.iload_n 3, 1) := by decide +kernel
theorem d_Rgs_gather_9 : decode prog_6_method_6_code 9 = .ok (.aload_n 2, 1) := by decide +kernel
theorem d_Rgs_gather_10 : decode prog_6_method_6_code 10 = .ok (.invokevirtual 54, 3) := by decide +kernel
theorem d_Rgs_gather_13 : decode prog_6_method_6_code 13 = .ok (.if_icmp .ge 27, 3) := by decide +kernel
theorem d_Rgs_gather_16 : decode prog_6_method_6_code 16 = .ok (.aload_n 0, 1) := by decide +kernel
theorem d_Rgs_gather_17 : decode prog_6_method_6_code 17 = .ok (.getfield 40, 3) := by decide +kernel
theorem d_Rgs_gather_20 : decode prog_6_method_6_code 20 = .ok (.iload_n 3, 1) := by decide +kernel
theorem d_Rgs_gather_21 : decode prog_6_method_6_code 21 = .ok (.invokevirtual 46, 3) := by decide +kernel
theorem d_Rgs_gather_24 : decode prog_6_method_6_code 24 = .ok (.ifCond .ne 10, 3) := by decide +kernel
theorem d_Rgs_gather_27 : decode prog_6_method_6_code 27 = .ok (.aload_n 0, 1) := by decide +kernel
theorem d_Rgs_gather_28 : decode prog_6_method_6_code 28 = .ok (.aload_n 1, 1) := by decide +kernel
theorem d_Rgs_gather_29 : decode prog_6_method_6_code 29 = .ok (.aload_n 2, 1) := by decide +kernel
theorem d_Rgs_gather_30 : decode prog_6_method_6_code 30 = .ok (.iload_n 3, 1) := by decide +kernel
theorem d_Rgs_gather_31 : decode prog_6_method_6_code 31 = .ok (.invokevirtual 60, 3) := by decide +kernel
theorem d_Rgs_gather_34 : decode prog_6_method_6_code 34 = .ok (.iinc 3 1, 3) := by decide +kernel
theorem d_Rgs_gather_37 : decode prog_6_method_6_code 37 = .ok (.goto (-29), 3) := by decide +kernel
theorem d_Rgs_gather_40 : decode prog_6_method_6_code 40 = .ok (.iconst 0, 1) := by decide +kernel
theorem d_Rgs_gather_41 : decode prog_6_method_6_code 41 = .ok (.istore_n 3, 1) := by decide +kernel
theorem d_Rgs_gather_42 : decode prog_6_method_6_code 42 = .ok (.iload_n 3, 1) := by decide +kernel
theorem d_Rgs_gather_43 : decode prog_6_method_6_code 43 = .ok (.aload_n 0, 1) := by decide +kernel
theorem d_Rgs_gather_44 : decode prog_6_method_6_code 44 = .ok (.getfield 21, 3) := by decide +kernel
theorem d_Rgs_gather_47 : decode prog_6_method_6_code 47 = .ok (.getfield 43, 3) := by decide +kernel
theorem d_Rgs_gather_50 : decode prog_6_method_6_code 50 = .ok (.if_icmp .ge 52, 3) := by decide +kernel
theorem d_Rgs_gather_53 : decode prog_6_method_6_code 53 = .ok (.aload_n 0, 1) := by decide +kernel
theorem d_Rgs_gather_54 : decode prog_6_method_6_code 54 = .ok (.iload_n 3, 1) := by decide +kernel
theorem d_Rgs_gather_55 : decode prog_6_method_6_code 55 = .ok (.invokevirtual 64, 3) := by decide +kernel
theorem d_Rgs_gather_58 : decode prog_6_method_6_code 58 = .ok (.aload_n 0, 1) := by decide +kernel
theorem d_Rgs_gather_59 : decode prog_6_method_6_code 59 = .ok (.getfield 27, 3) := by decide +kernel
theorem d_Rgs_gather_62 : decode prog_6_method_6_code 62 = .ok (.aload_n 0, 1) := by decide +kernel
theorem d_Rgs_gather_63 : decode prog_6_method_6_code 63 = .ok (.iload_n 3, 1) := by decide +kernel
theorem d_Rgs_gather_64 : decode prog_6_method_6_code 64 = .ok (.invokevirtual 68, 3) := by decide +kernel
theorem d_Rgs_gather_67 : decode prog_6_method_6_code 67 = .ok (.invokevirtual 71, 3) := by decide +kernel
theorem d_Rgs_gather_70 : decode prog_6_method_6_code 70 = .ok (.aload_n 0, 1) := by decide +kernel
theorem d_Rgs_gather_71 : decode prog_6_method_6_code 71 = .ok (.dup, 1) := by decide +kernel
theorem d_Rgs_gather_72 : decode prog_6_method_6_code 72 = .ok (.getfield 30, 3) := by decide +kernel
theorem d_Rgs_gather_75 : decode prog_6_method_6_code 75 = .ok (.aload_n 0, 1) := by decide +kernel
theorem d_Rgs_gather_76 : decode prog_6_method_6_code 76 = .ok (.getfield 27, 3) := by decide +kernel
theorem d_Rgs_gather_79 : decode prog_6_method_6_code 79 = .ok (.iload_n 3, 1) := by decide +kernel
theorem d_Rgs_gather_80 : decode prog_6_method_6_code 80 = .ok (.invokevirtual 46, 3) := by decide +kernel
theorem d_Rgs_gather_83 : decode prog_6_method_6_code 83 = .ok (.iload_n 3, 1) := by decide +kernel
theorem d_Rgs_gather_84 : decode prog_6_method_6_code 84 = .ok (.if_icmp .ne 7, 3) := by decide +kernel
theorem d_Rgs_gather_87 : decode prog_6_method_6_code 87 = .ok (.iconst 1, 1) := by decide +kernel
theorem d_Rgs_gather_88 : decode prog_6_method_6_code 88 = .ok (.goto 4, 3) := by decide +kernel
theorem d_Rgs_gather_91 : decode prog_6_method_6_code 91 = .ok (.iconst 0, 1) := by decide +kernel
theorem d_Rgs_gather_92 : decode prog_6_method_6_code 92 = .ok (.iadd, 1) := by decide +kernel
theorem d_Rgs_gather_93 : decode prog_6_method_6_code 93 = .ok (.putfield 30, 3) := by decide +kernel
theorem d_Rgs_gather_96 : decode prog_6_method_6_code 96 = .ok (.iinc 3 1, 3) := by decide +kernel
theorem d_Rgs_gather_99 : decode prog_6_method_6_code 99 = .ok (.goto (-57), 3) := by decide +kernel
theorem d_Rgs_gather_102 : decode prog_6_method_6_code 102 = .ok (.return_, 1) := by decide +kernel
theorem d_Wea_isPlace_0 : decode prog_1_method_9_code 0 = .ok (.iload_n 0, 1) := by decide +kernel
theorem d_Wea_isPlace_1 : decode prog_1_method_9_code 1 = .ok (.ldc 147, 2) := by decide +kernel
theorem d_Wea_isPlace_3 : decode prog_1_method_9_code 3 = .ok (.if_icmp .lt 25, 3) := by decide +kernel
theorem d_Wea_isPlace_6 : decode prog_1_method_9_code 6 = .ok (.iload_n 0, 1) := by decide +kernel
theorem d_Wea_isPlace_7 : decode prog_1_method_9_code 7 = .ok (.ldc 148, 2) := by decide +kernel
theorem d_Wea_isPlace_9 : decode prog_1_method_9_code 9 = .ok (.if_icmp .gt 19, 3) := by decide +kernel
theorem d_Wea_isPlace_12 : decode prog_1_method_9_code 12 = .ok (.iload_n 1, 1) := by decide +kernel
theorem d_Wea_isPlace_13 : decode prog_1_method_9_code 13 = .ok (.ldc 147, 2) := by decide +kernel
theorem d_Wea_isPlace_15 : decode prog_1_method_9_code 15 = .ok (.if_icmp .lt 13, 3) := by decide +kernel
theorem d_Wea_isPlace_18 : decode prog_1_method_9_code 18 = .ok (.iload_n 1, 1) := by decide +kernel
theorem d_Wea_isPlace_19 : decode prog_1_method_9_code 19 = .ok (.ldc 148, 2) := by decide +kernel
theorem d_Wea_isPlace_21 : decode prog_1_method_9_code 21 = .ok (.if_icmp .gt 7, 3) := by decide +kernel
theorem d_Wea_isPlace_24 : decode prog_1_method_9_code 24 = .ok (.iconst 1, 1) := by decide +kernel
theorem d_Wea_isPlace_25 : decode prog_1_method_9_code 25 = .ok (.goto 4, 3) := by decide +kernel
theorem d_Wea_isPlace_28 : decode prog_1_method_9_code 28 = .ok (.iconst 0, 1) := by decide +kernel
theorem d_Wea_isPlace_29 : decode prog_1_method_9_code 29 = .ok (.ireturn, 1) := by decide +kernel
theorem d_Wea_clear_0 : decode prog_1_method_3_code 0 = .ok (.aload_n 0, 1) := by decide +kernel
theorem d_Wea_clear_1 : decode prog_1_method_3_code 1 = .ok (.getfield 12, 3) := by decide +kernel
theorem d_Wea_clear_4 : decode prog_1_method_3_code 4 = .ok (.invokevirtual 63, 3) := by decide +kernel
theorem d_Wea_clear_7 : decode prog_1_method_3_code 7 = .ok (.istore_n 1, 1) := by decide +kernel
theorem d_Wea_clear_8 : decode prog_1_method_3_code 8 = .ok (.aload_n 0, 1) := by decide +kernel
theorem d_Wea_clear_9 : decode prog_1_method_3_code 9 = .ok (.getfield 12, 3) := by decide +kernel
theorem d_Wea_clear_12 : decode prog_1_method_3_code 12 = .ok (.invokevirtual 82, 3) := by decide +kernel
theorem d_Wea_clear_15 : decode prog_1_method_3_code 15 = .ok (.aload_n 0, 1) := by decide +kernel
theorem d_Wea_clear_16 : decode prog_1_method_3_code 16 = .ok (.getfield 33, 3) := by decide +kernel
theorem d_Wea_clear_19 : decode prog_1_method_3_code 19 = .ok (.invokevirtual 79, 3) := by decide +kernel
theorem d_Wea_clear_22 : decode prog_1_method_3_code 22 = .ok (.iload_n 1, 1) := by decide +kernel
theorem d_Wea_clear_23 : decode prog_1_method_3_code 23 = .ok (.ireturn, 1) := by decide +kernel
theorem d_Wea_area_0 : decode prog_1_method_7_code 0 = .ok (.aload_n 0, 1) := by decide +kernel
theorem d_Wea_area_1 : decode prog_1_method_7_code 1 = .ok (.getfield 33, 3) := by decide +kernel
theorem d_Wea_area_4 : decode prog_1_method_7_code 4 = .ok (.getfield 143, 3) := by decide +kernel
theorem d_Wea_area_7 : decode prog_1_method_7_code 7 = .ok (.lreturn, 1) := by decide +kernel
theorem d_Wea_count_0 : decode prog_1_method_8_code 0 = .ok (.iload_n 1, 1) := by decide +kernel
set_option maxRecDepth 20000 in
theorem d_Wea_count_1 : decode prog_1_method_8_code 1 = .ok (.tableswitch 69 0 3 #[31, 39, 50, 61], 31) := by decide +kernel
theorem d_Wea_count_32 : decode prog_1_method_8_code 32 = .ok (.aload_n 0, 1) := by decide +kernel
theorem d_Wea_count_33 : decode prog_1_method_8_code 33 = .ok (.getfield 12, 3) := by decide +kernel
theorem d_Wea_count_36 : decode prog_1_method_8_code 36 = .ok (.invokevirtual 63, 3) := by decide +kernel
theorem d_Wea_count_39 : decode prog_1_method_8_code 39 = .ok (.ireturn, 1) := by decide +kernel
theorem d_Wea_count_40 : decode prog_1_method_8_code 40 = .ok (.aload_n 0, 1) := by decide +kernel
theorem d_Wea_count_41 : decode prog_1_method_8_code 41 = .ok (.getfield 33, 3) := by decide +kernel
theorem d_Wea_count_44 : decode prog_1_method_8_code 44 = .ok (.getfield 115, 3) := by decide +kernel
theorem d_Wea_count_47 : decode prog_1_method_8_code 47 = .ok (.getfield 119, 3) := by decide +kernel
theorem d_Wea_count_50 : decode prog_1_method_8_code 50 = .ok (.ireturn, 1) := by decide +kernel
theorem d_Wea_count_51 : decode prog_1_method_8_code 51 = .ok (.aload_n 0, 1) := by decide +kernel
theorem d_Wea_count_52 : decode prog_1_method_8_code 52 = .ok (.getfield 33, 3) := by decide +kernel
theorem d_Wea_count_55 : decode prog_1_method_8_code 55 = .ok (.getfield 133, 3) := by decide +kernel
theorem d_Wea_count_58 : decode prog_1_method_8_code 58 = .ok (.getfield 119, 3) := by decide +kernel
theorem d_Wea_count_61 : decode prog_1_method_8_code 61 = .ok (.ireturn, 1) := by decide +kernel
theorem d_Wea_count_62 : decode prog_1_method_8_code 62 = .ok (.aload_n 0, 1) := by decide +kernel
theorem d_Wea_count_63 : decode prog_1_method_8_code 63 = .ok (.getfield 33, 3) := by decide +kernel
theorem d_Wea_count_66 : decode prog_1_method_8_code 66 = .ok (.getfield 111, 3) := by decide +kernel
theorem d_Wea_count_69 : decode prog_1_method_8_code 69 = .ok (.ireturn, 1) := by decide +kernel
theorem d_Wea_count_70 : decode prog_1_method_8_code 70 = .ok (.iconst (-1), 1) := by decide +kernel
theorem d_Wea_count_71 : decode prog_1_method_8_code 71 = .ok (.ireturn, 1) := by decide +kernel
theorem d_Mod_thrown_0 : decode prog_9_method_2_code 0 = .ok (.aload_n 0, 1) := by decide +kernel
theorem d_Mod_thrown_1 : decode prog_9_method_2_code 1 = .ok (.getfield 66, 3) := by decide +kernel
theorem d_Mod_thrown_4 : decode prog_9_method_2_code 4 = .ok (.ireturn, 1) := by decide +kernel
theorem d_Mod_fail_0 : decode prog_9_method_3_code 0 = .ok (.aload_n 0, 1) := by decide +kernel
theorem d_Mod_fail_1 : decode prog_9_method_3_code 1 = .ok (.iload_n 1, 1) := by decide +kernel
theorem d_Mod_fail_2 : decode prog_9_method_3_code 2 = .ok (.putfield 66, 3) := by decide +kernel
theorem d_Mod_fail_5 : decode prog_9_method_3_code 5 = .ok (.iconst 0, 1) := by decide +kernel
theorem d_Mod_fail_6 : decode prog_9_method_3_code 6 = .ok (.ireturn, 1) := by decide +kernel
theorem d_Mod_within_0 : decode prog_9_method_4_code 0 = .ok (.iload_n 0, 1) := by decide +kernel
theorem d_Mod_within_1 : decode prog_9_method_4_code 1 = .ok (.iload_n 1, 1) := by decide +kernel
theorem d_Mod_within_2 : decode prog_9_method_4_code 2 = .ok (.if_icmp .lt 12, 3) := by decide +kernel
theorem d_Mod_within_5 : decode prog_9_method_4_code 5 = .ok (.iload_n 0, 1) := by decide +kernel
theorem d_Mod_within_6 : decode prog_9_method_4_code 6 = .ok (.iload_n 2, 1) := by decide +kernel
theorem d_Mod_within_7 : decode prog_9_method_4_code 7 = .ok (.if_icmp .gt 7, 3) := by decide +kernel
theorem d_Mod_within_10 : decode prog_9_method_4_code 10 = .ok (.iconst 1, 1) := by decide +kernel
theorem d_Mod_within_11 : decode prog_9_method_4_code 11 = .ok (.goto 4, 3) := by decide +kernel
theorem d_Mod_within_14 : decode prog_9_method_4_code 14 = .ok (.iconst 0, 1) := by decide +kernel
theorem d_Mod_within_15 : decode prog_9_method_4_code 15 = .ok (.ireturn, 1) := by decide +kernel
theorem d_Mod_isFar_0 : decode prog_9_method_5_code 0 = .ok (.iload_n 0, 1) := by decide +kernel
theorem d_Mod_isFar_1 : decode prog_9_method_5_code 1 = .ok (.ldc 70, 2) := by decide +kernel
theorem d_Mod_isFar_3 : decode prog_9_method_5_code 3 = .ok (.ldc 71, 2) := by decide +kernel
theorem d_Mod_isFar_5 : decode prog_9_method_5_code 5 = .ok (.invokestatic 72, 3) := by decide +kernel
theorem d_Mod_isFar_8 : decode prog_9_method_5_code 8 = .ok (.ifCond .ne 7, 3) := by decide +kernel
theorem d_Mod_isFar_11 : decode prog_9_method_5_code 11 = .ok (.iconst 1, 1) := by decide +kernel
theorem d_Mod_isFar_12 : decode prog_9_method_5_code 12 = .ok (.goto 4, 3) := by decide +kernel
theorem d_Mod_isFar_15 : decode prog_9_method_5_code 15 = .ok (.iconst 0, 1) := by decide +kernel
theorem d_Mod_isFar_16 : decode prog_9_method_5_code 16 = .ok (.ireturn, 1) := by decide +kernel
theorem d_Mod_noResult_0 : decode prog_9_method_6_code 0 = .ok (.aload_n 0, 1) := by decide +kernel
theorem d_Mod_noResult_1 : decode prog_9_method_6_code 1 = .ok (.iconst 0, 1) := by decide +kernel
theorem d_Mod_noResult_2 : decode prog_9_method_6_code 2 = .ok (.putfield 76, 3) := by decide +kernel
theorem d_Mod_noResult_5 : decode prog_9_method_6_code 5 = .ok (.aload_n 0, 1) := by decide +kernel
theorem d_Mod_noResult_6 : decode prog_9_method_6_code 6 = .ok (.iconst 0, 1) := by decide +kernel
theorem d_Mod_noResult_7 : decode prog_9_method_6_code 7 = .ok (.putfield 79, 3) := by decide +kernel
theorem d_Mod_noResult_10 : decode prog_9_method_6_code 10 = .ok (.aload_n 0, 1) := by decide +kernel
theorem d_Mod_noResult_11 : decode prog_9_method_6_code 11 = .ok (.iconst 0, 1) := by decide +kernel
theorem d_Mod_noResult_12 : decode prog_9_method_6_code 12 = .ok (.putfield 82, 3) := by decide +kernel
theorem d_Mod_noResult_15 : decode prog_9_method_6_code 15 = .ok (.aload_n 0, 1) := by decide +kernel
theorem d_Mod_noResult_16 : decode prog_9_method_6_code 16 = .ok (.lconst 0, 1) := by decide +kernel
theorem d_Mod_noResult_17 : decode prog_9_method_6_code 17 = .ok (.putfield 85, 3) := by decide +kernel
theorem d_Mod_noResult_20 : decode prog_9_method_6_code 20 = .ok (.return_, 1) := by decide +kernel
theorem d_Mod_sign_0 : decode prog_9_method_7_code 0 = .ok (.lload_n 0, 1) := by decide +kernel
theorem d_Mod_sign_1 : decode prog_9_method_7_code 1 = .ok (.lconst 0, 1) := by decide +kernel
theorem d_Mod_sign_2 : decode prog_9_method_7_code 2 = .ok (.lcmp, 1) := by decide +kernel
theorem d_Mod_sign_3 : decode prog_9_method_7_code 3 = .ok (.ifCond .le 7, 3) := by decide +kernel
theorem d_Mod_sign_6 : decode prog_9_method_7_code 6 = .ok (.iconst 1, 1) := by decide +kernel
theorem d_Mod_sign_7 : decode prog_9_method_7_code 7 = .ok (.goto 14, 3) := by decide +kernel
theorem d_Mod_sign_10 : decode prog_9_method_7_code 10 = .ok (.lload_n 0, 1) := by decide +kernel
theorem d_Mod_sign_11 : decode prog_9_method_7_code 11 = .ok (.lconst 0, 1) := by decide +kernel
theorem d_Mod_sign_12 : decode prog_9_method_7_code 12 = .ok (.lcmp, 1) := by decide +kernel
theorem d_Mod_sign_13 : decode prog_9_method_7_code 13 = .ok (.ifCond .ge 7, 3) := by decide +kernel
theorem d_Mod_sign_16 : decode prog_9_method_7_code 16 = .ok (.iconst (-1), 1) := by decide +kernel
theorem d_Mod_sign_17 : decode prog_9_method_7_code 17 = .ok (.goto 4, 3) := by decide +kernel
theorem d_Mod_sign_20 : decode prog_9_method_7_code 20 = .ok (.iconst 0, 1) := by decide +kernel
theorem d_Mod_sign_21 : decode prog_9_method_7_code 21 = .ok (.ireturn, 1) := by decide +kernel
theorem d_Mod_cross_0 : decode prog_9_method_8_code 0 = .ok (.lload_n 0, 1) := by decide +kernel
theorem d_Mod_cross_1 : decode prog_9_method_8_code 1 = .ok (.lload 6, 2) := by decide +kernel
theorem d_Mod_cross_3 : decode prog_9_method_8_code 3 = .ok (.lmul, 1) := by decide +kernel
theorem d_Mod_cross_4 : decode prog_9_method_8_code 4 = .ok (.lload_n 2, 1) := by decide +kernel
theorem d_Mod_cross_5 : decode prog_9_method_8_code 5 = .ok (.lload 4, 2) := by decide +kernel
theorem d_Mod_cross_7 : decode prog_9_method_8_code 7 = .ok (.lmul, 1) := by decide +kernel
theorem d_Mod_cross_8 : decode prog_9_method_8_code 8 = .ok (.lsub, 1) := by decide +kernel
theorem d_Mod_cross_9 : decode prog_9_method_8_code 9 = .ok (.lreturn, 1) := by decide +kernel
theorem d_Mod_side_0 : decode prog_9_method_9_code 0 = .ok (.iload_n 2, 1) := by decide +kernel
theorem d_Mod_side_1 : decode prog_9_method_9_code 1 = .ok (.i2l, 1) := by decide +kernel
theorem d_Mod_side_2 : decode prog_9_method_9_code 2 = .ok (.iload_n 0, 1) := by decide +kernel
theorem d_Mod_side_3 : decode prog_9_method_9_code 3 = .ok (.i2l, 1) := by decide +kernel
theorem d_Mod_side_4 : decode prog_9_method_9_code 4 = .ok (.lsub, 1) := by decide +kernel
theorem d_Mod_side_5 : decode prog_9_method_9_code 5 = .ok (.iload_n 3, 1) := by decide +kernel
theorem d_Mod_side_6 : decode prog_9_method_9_code 6 = .ok (.i2l, 1) := by decide +kernel
theorem d_Mod_side_7 : decode prog_9_method_9_code 7 = .ok (.iload_n 1, 1) := by decide +kernel
theorem d_Mod_side_8 : decode prog_9_method_9_code 8 = .ok (.i2l, 1) := by decide +kernel
theorem d_Mod_side_9 : decode prog_9_method_9_code 9 = .ok (.lsub, 1) := by decide +kernel
theorem d_Mod_side_10 : decode prog_9_method_9_code 10 = .ok (.iload 4, 2) := by decide +kernel
theorem d_Mod_side_12 : decode prog_9_method_9_code 12 = .ok (.i2l, 1) := by decide +kernel
theorem d_Mod_side_13 : decode prog_9_method_9_code 13 = .ok (.iload_n 0, 1) := by decide +kernel
theorem d_Mod_side_14 : decode prog_9_method_9_code 14 = .ok (.i2l, 1) := by decide +kernel
theorem d_Mod_side_15 : decode prog_9_method_9_code 15 = .ok (.lsub, 1) := by decide +kernel
theorem d_Mod_side_16 : decode prog_9_method_9_code 16 = .ok (.iload 5, 2) := by decide +kernel
theorem d_Mod_side_18 : decode prog_9_method_9_code 18 = .ok (.i2l, 1) := by decide +kernel
theorem d_Mod_side_19 : decode prog_9_method_9_code 19 = .ok (.iload_n 1, 1) := by decide +kernel
theorem d_Mod_side_20 : decode prog_9_method_9_code 20 = .ok (.i2l, 1) := by decide +kernel
theorem d_Mod_side_21 : decode prog_9_method_9_code 21 = .ok (.lsub, 1) := by decide +kernel
theorem d_Mod_side_22 : decode prog_9_method_9_code 22 = .ok (.invokestatic 89, 3) := by decide +kernel
theorem d_Mod_side_25 : decode prog_9_method_9_code 25 = .ok (.invokestatic 93, 3) := by decide +kernel
theorem d_Mod_side_28 : decode prog_9_method_9_code 28 = .ok (.ireturn, 1) := by decide +kernel
theorem d_Mod_between_0 : decode prog_9_method_10_code 0 = .ok (.iload_n 1, 1) := by decide +kernel
theorem d_Mod_between_1 : decode prog_9_method_10_code 1 = .ok (.iload_n 2, 1) := by decide +kernel
theorem d_Mod_between_2 : decode prog_9_method_10_code 2 = .ok (.if_icmp .ge 12, 3) := by decide +kernel
theorem d_Mod_between_5 : decode prog_9_method_10_code 5 = .ok (.iload_n 0, 1) := by decide +kernel
theorem d_Mod_between_6 : decode prog_9_method_10_code 6 = .ok (.iload_n 1, 1) := by decide +kernel
theorem d_Mod_between_7 : decode prog_9_method_10_code 7 = .ok (.iload_n 2, 1) := by decide +kernel
theorem d_Mod_between_8 : decode prog_9_method_10_code 8 = .ok (.invokestatic 72, 3) := by decide +kernel
theorem d_Mod_between_11 : decode prog_9_method_10_code 11 = .ok (.goto 9, 3) := by decide +kernel
theorem d_Mod_between_14 : decode prog_9_method_10_code 14 = .ok (.iload_n 0, 1) := by decide +kernel
theorem d_Mod_between_15 : decode prog_9_method_10_code 15 = .ok (.iload_n 2, 1) := by decide +kernel
theorem d_Mod_between_16 : decode prog_9_method_10_code 16 = .ok (.iload_n 1, 1) := by decide +kernel
theorem d_Mod_between_17 : decode prog_9_method_10_code 17 = .ok (.invokestatic 72, 3) := by decide +kernel
theorem d_Mod_between_20 : decode prog_9_method_10_code 20 = .ok (.ireturn, 1) := by decide +kernel
theorem d_Mod_isEnd_0 : decode prog_9_method_11_code 0 = .ok (.aload_n 0, 1) := by decide +kernel
theorem d_Mod_isEnd_1 : decode prog_9_method_11_code 1 = .ok (.getfield 7, 3) := by decide +kernel
theorem d_Mod_isEnd_4 : decode prog_9_method_11_code 4 = .ok (.iload_n 1, 1) := by decide +kernel
theorem d_Mod_isEnd_5 : decode prog_9_method_11_code 5 = .ok (.iaload, 1) := by decide +kernel
theorem d_Mod_isEnd_6 : decode prog_9_method_11_code 6 = .ok (.iload_n 2, 1) := by decide +kernel
theorem d_Mod_isEnd_7 : decode prog_9_method_11_code 7 = .ok (.if_icmp .ne 13, 3) := by decide +kernel
theorem d_Mod_isEnd_10 : decode prog_9_method_11_code 10 = .ok (.aload_n 0, 1) := by decide +kernel
theorem d_Mod_isEnd_11 : decode prog_9_method_11_code 11 = .ok (.getfield 13, 3) := by decide +kernel
theorem d_Mod_isEnd_14 : decode prog_9_method_11_code 14 = .ok (.iload_n 1, 1) := by decide +kernel
theorem d_Mod_isEnd_15 : decode prog_9_method_11_code 15 = .ok (.iaload, 1) := by decide +kernel
theorem d_Mod_isEnd_16 : decode prog_9_method_11_code 16 = .ok (.iload_n 3, 1) := by decide +kernel
theorem d_Mod_isEnd_17 : decode prog_9_method_11_code 17 = .ok (.if_icmp .eq 23, 3) := by decide +kernel
theorem d_Mod_isEnd_20 : decode prog_9_method_11_code 20 = .ok (.aload_n 0, 1) := by decide +kernel
theorem d_Mod_isEnd_21 : decode prog_9_method_11_code 21 = .ok (.getfield 16, 3) := by decide +kernel
theorem d_Mod_isEnd_24 : decode prog_9_method_11_code 24 = .ok (.iload_n 1, 1) := by decide +kernel
theorem d_Mod_isEnd_25 : decode prog_9_method_11_code 25 = .ok (.iaload, 1) := by decide +kernel
theorem d_Mod_isEnd_26 : decode prog_9_method_11_code 26 = .ok (.iload_n 2, 1) := by decide +kernel
theorem d_Mod_isEnd_27 : decode prog_9_method_11_code 27 = .ok (.if_icmp .ne 17, 3) := by decide +kernel
theorem d_Mod_isEnd_30 : decode prog_9_method_11_code 30 = .ok (.aload_n 0, 1) := by decide +kernel
theorem d_Mod_isEnd_31 : decode prog_9_method_11_code 31 = .ok (.getfield 19, 3) := by decide +kernel
theorem d_Mod_isEnd_34 : decode prog_9_method_11_code 34 = .ok (.iload_n 1, 1) := by decide +kernel
theorem d_Mod_isEnd_35 : decode prog_9_method_11_code 35 = .ok (.iaload, 1) := by decide +kernel
theorem d_Mod_isEnd_36 : decode prog_9_method_11_code 36 = .ok (.iload_n 3, 1) := by decide +kernel
theorem d_Mod_isEnd_37 : decode prog_9_method_11_code 37 = .ok (.if_icmp .ne 7, 3) := by decide +kernel
theorem d_Mod_isEnd_40 : decode prog_9_method_11_code 40 = .ok (.iconst 1, 1) := by decide +kernel
theorem d_Mod_isEnd_41 : decode prog_9_method_11_code 41 = .ok (.goto 4, 3) := by decide +kernel
theorem d_Mod_isEnd_44 : decode prog_9_method_11_code 44 = .ok (.iconst 0, 1) := by decide +kernel
theorem d_Mod_isEnd_45 : decode prog_9_method_11_code 45 = .ok (.ireturn, 1) := by decide +kernel
theorem d_Mod_isIn_0 : decode prog_9_method_12_code 0 = .ok (.aload_n 0, 1) := by decide +kernel
theorem d_Mod_isIn_1 : decode prog_9_method_12_code 1 = .ok (.iload_n 1, 1) := by decide +kernel
theorem d_Mod_isIn_2 : decode prog_9_method_12_code 2 = .ok (.iload_n 2, 1) := by decide +kernel
theorem d_Mod_isIn_3 : decode prog_9_method_12_code 3 = .ok (.iload_n 3, 1) := by decide +kernel
theorem d_Mod_isIn_4 : decode prog_9_method_12_code 4 = .ok (.invokevirtual 97, 3) := by decide +kernel
theorem d_Mod_isIn_7 : decode prog_9_method_12_code 7 = .ok (.ifCond .ne 77, 3) := by decide +kernel
theorem d_Mod_isIn_10 : decode prog_9_method_12_code 10 = .ok (.aload_n 0, 1) := by decide +kernel
theorem d_Mod_isIn_11 : decode prog_9_method_12_code 11 = .ok (.getfield 7, 3) := by decide +kernel
theorem d_Mod_isIn_14 : decode prog_9_method_12_code 14 = .ok (.iload_n 1, 1) := by decide +kernel
theorem d_Mod_isIn_15 : decode prog_9_method_12_code 15 = .ok (.iaload, 1) := by decide +kernel
theorem d_Mod_isIn_16 : decode prog_9_method_12_code 16 = .ok (.aload_n 0, 1) := by decide +kernel
theorem d_Mod_isIn_17 : decode prog_9_method_12_code 17 = .ok (.getfield 13, 3) := by decide +kernel
theorem d_Mod_isIn_20 : decode prog_9_method_12_code 20 = .ok (.iload_n 1, 1) := by decide +kernel
theorem d_Mod_isIn_21 : decode prog_9_method_12_code 21 = .ok (.iaload, 1) := by decide +kernel
theorem d_Mod_isIn_22 : decode prog_9_method_12_code 22 = .ok (.aload_n 0, 1) := by decide +kernel
theorem d_Mod_isIn_23 : decode prog_9_method_12_code 23 = .ok (.getfield 16, 3) := by decide +kernel
theorem d_Mod_isIn_26 : decode prog_9_method_12_code 26 = .ok (.iload_n 1, 1) := by decide +kernel
theorem d_Mod_isIn_27 : decode prog_9_method_12_code 27 = .ok (.iaload, 1) := by decide +kernel
theorem d_Mod_isIn_28 : decode prog_9_method_12_code 28 = .ok (.aload_n 0, 1) := by decide +kernel
theorem d_Mod_isIn_29 : decode prog_9_method_12_code 29 = .ok (.getfield 19, 3) := by decide +kernel
theorem d_Mod_isIn_32 : decode prog_9_method_12_code 32 = .ok (.iload_n 1, 1) := by decide +kernel
theorem d_Mod_isIn_33 : decode prog_9_method_12_code 33 = .ok (.iaload, 1) := by decide +kernel
theorem d_Mod_isIn_34 : decode prog_9_method_12_code 34 = .ok (.iload_n 2, 1) := by decide +kernel
theorem d_Mod_isIn_35 : decode prog_9_method_12_code 35 = .ok (.iload_n 3, 1) := by decide +kernel
theorem d_Mod_isIn_36 : decode prog_9_method_12_code 36 = .ok (.invokestatic 100, 3) := by decide +kernel
theorem d_Mod_isIn_39 : decode prog_9_method_12_code 39 = .ok (.ifCond .ne 45, 3) := by decide +kernel
theorem d_Mod_isIn_42 : decode prog_9_method_12_code 42 = .ok (.iload_n 2, 1) := by decide +kernel
theorem d_Mod_isIn_43 : decode prog_9_method_12_code 43 = .ok (.aload_n 0, 1) := by decide +kernel
theorem d_Mod_isIn_44 : decode prog_9_method_12_code 44 = .ok (.getfield 7, 3) := by decide +kernel
theorem d_Mod_isIn_47 : decode prog_9_method_12_code 47 = .ok (.iload_n 1, 1) := by decide +kernel
theorem d_Mod_isIn_48 : decode prog_9_method_12_code 48 = .ok (.iaload, 1) := by decide +kernel
theorem d_Mod_isIn_49 : decode prog_9_method_12_code 49 = .ok (.aload_n 0, 1) := by decide +kernel
theorem d_Mod_isIn_50 : decode prog_9_method_12_code 50 = .ok (.getfield 16, 3) := by decide +kernel
theorem d_Mod_isIn_53 : decode prog_9_method_12_code 53 = .ok (.iload_n 1, 1) := by decide +kernel
theorem d_Mod_isIn_54 : decode prog_9_method_12_code 54 = .ok (.iaload, 1) := by decide +kernel
theorem d_Mod_isIn_55 : decode prog_9_method_12_code 55 = .ok (.invokestatic 104, 3) := by decide +kernel
theorem d_Mod_isIn_58 : decode prog_9_method_12_code 58 = .ok (.ifCond .eq 26, 3) := by decide +kernel
theorem d_Mod_isIn_61 : decode prog_9_method_12_code 61 = .ok (.iload_n 3, 1) := by decide +kernel
theorem d_Mod_isIn_62 : decode prog_9_method_12_code 62 = .ok (.aload_n 0, 1) := by decide +kernel
theorem d_Mod_isIn_63 : decode prog_9_method_12_code 63 = .ok (.getfield 13, 3) := by decide +kernel
theorem d_Mod_isIn_66 : decode prog_9_method_12_code 66 = .ok (.iload_n 1, 1) := by decide +kernel
theorem d_Mod_isIn_67 : decode prog_9_method_12_code 67 = .ok (.iaload, 1) := by decide +kernel
theorem d_Mod_isIn_68 : decode prog_9_method_12_code 68 = .ok (.aload_n 0, 1) := by decide +kernel
theorem d_Mod_isIn_69 : decode prog_9_method_12_code 69 = .ok (.getfield 19, 3) := by decide +kernel
theorem d_Mod_isIn_72 : decode prog_9_method_12_code 72 = .ok (.iload_n 1, 1) := by decide +kernel
theorem d_Mod_isIn_73 : decode prog_9_method_12_code 73 = .ok (.iaload, 1) := by decide +kernel
theorem d_Mod_isIn_74 : decode prog_9_method_12_code 74 = .ok (.invokestatic 104, 3) := by decide +kernel
theorem d_Mod_isIn_77 : decode prog_9_method_12_code 77 = .ok (.ifCond .eq 7, 3) := by decide +kernel
theorem d_Mod_isIn_80 : decode prog_9_method_12_code 80 = .ok (.iconst 1, 1) := by decide +kernel
theorem d_Mod_isIn_81 : decode prog_9_method_12_code 81 = .ok (.goto 4, 3) := by decide +kernel
theorem d_Mod_isIn_84 : decode prog_9_method_12_code 84 = .ok (.iconst 0, 1) := by decide +kernel
theorem d_Mod_isIn_85 : decode prog_9_method_12_code 85 = .ok (.ireturn, 1) := by decide +kernel
theorem d_Mod_keepsOff_0 : decode prog_9_method_13_code 0 = .ok (.aload_n 0, 1) := by decide +kernel
theorem d_Mod_keepsOff_1 : decode prog_9_method_13_code 1 = .ok (.iload_n 1, 1) := by decide +kernel
theorem d_Mod_keepsOff_2 : decode prog_9_method_13_code 2 = .ok (.aload_n 0, 1) := by decide +kernel
theorem d_Mod_keepsOff_3 : decode prog_9_method_13_code 3 = .ok (.getfield 7, 3) := by decide +kernel
theorem d_Mod_keepsOff_6 : decode prog_9_method_13_code 6 = .ok (.iload_n 2, 1) := by decide +kernel
theorem d_Mod_keepsOff_7 : decode prog_9_method_13_code 7 = .ok (.iaload, 1) := by decide +kernel
theorem d_Mod_keepsOff_8 : decode prog_9_method_13_code 8 = .ok (.aload_n 0, 1) := by decide +kernel
theorem d_Mod_keepsOff_9 : decode prog_9_method_13_code 9 = .ok (.getfield 13, 3) := by decide +kernel
theorem d_Mod_keepsOff_12 : decode prog_9_method_13_code 12 = .ok (.iload_n 2, 1) := by decide +kernel
theorem d_Mod_keepsOff_13 : decode prog_9_method_13_code 13 = .ok (.iaload, 1) := by decide +kernel
theorem d_Mod_keepsOff_14 : decode prog_9_method_13_code 14 = .ok (.invokevirtual 107, 3) := by decide +kernel
theorem d_Mod_keepsOff_17 : decode prog_9_method_13_code 17 = .ok (.ifCond .ne 63, 3) := by decide +kernel
theorem d_Mod_keepsOff_20 : decode prog_9_method_13_code 20 = .ok (.aload_n 0, 1) := by decide +kernel
theorem d_Mod_keepsOff_21 : decode prog_9_method_13_code 21 = .ok (.iload_n 1, 1) := by decide +kernel
theorem d_Mod_keepsOff_22 : decode prog_9_method_13_code 22 = .ok (.aload_n 0, 1) := by decide +kernel
theorem d_Mod_keepsOff_23 : decode prog_9_method_13_code 23 = .ok (.getfield 16, 3) := by decide +kernel
theorem d_Mod_keepsOff_26 : decode prog_9_method_13_code 26 = .ok (.iload_n 2, 1) := by decide +kernel
theorem d_Mod_keepsOff_27 : decode prog_9_method_13_code 27 = .ok (.iaload, 1) := by decide +kernel
theorem d_Mod_keepsOff_28 : decode prog_9_method_13_code 28 = .ok (.aload_n 0, 1) := by decide +kernel
theorem d_Mod_keepsOff_29 : decode prog_9_method_13_code 29 = .ok (.getfield 19, 3) := by decide +kernel
theorem d_Mod_keepsOff_32 : decode prog_9_method_13_code 32 = .ok (.iload_n 2, 1) := by decide +kernel
theorem d_Mod_keepsOff_33 : decode prog_9_method_13_code 33 = .ok (.iaload, 1) := by decide +kernel
theorem d_Mod_keepsOff_34 : decode prog_9_method_13_code 34 = .ok (.invokevirtual 107, 3) := by decide +kernel
theorem d_Mod_keepsOff_37 : decode prog_9_method_13_code 37 = .ok (.ifCond .ne 43, 3) := by decide +kernel
theorem d_Mod_keepsOff_40 : decode prog_9_method_13_code 40 = .ok (.aload_n 0, 1) := by decide +kernel
theorem d_Mod_keepsOff_41 : decode prog_9_method_13_code 41 = .ok (.iload_n 2, 1) := by decide +kernel
theorem d_Mod_keepsOff_42 : decode prog_9_method_13_code 42 = .ok (.aload_n 0, 1) := by decide +kernel
theorem d_Mod_keepsOff_43 : decode prog_9_method_13_code 43 = .ok (.getfield 7, 3) := by decide +kernel
theorem d_Mod_keepsOff_46 : decode prog_9_method_13_code 46 = .ok (.iload_n 1, 1) := by decide +kernel
theorem d_Mod_keepsOff_47 : decode prog_9_method_13_code 47 = .ok (.iaload, 1) := by decide +kernel
theorem d_Mod_keepsOff_48 : decode prog_9_method_13_code 48 = .ok (.aload_n 0, 1) := by decide +kernel
theorem d_Mod_keepsOff_49 : decode prog_9_method_13_code 49 = .ok (.getfield 13, 3) := by decide +kernel
theorem d_Mod_keepsOff_52 : decode prog_9_method_13_code 52 = .ok (.iload_n 1, 1) := by decide +kernel
theorem d_Mod_keepsOff_53 : decode prog_9_method_13_code 53 = .ok (.iaload, 1) := by decide +kernel
theorem d_Mod_keepsOff_54 : decode prog_9_method_13_code 54 = .ok (.invokevirtual 107, 3) := by decide +kernel
theorem d_Mod_keepsOff_57 : decode prog_9_method_13_code 57 = .ok (.ifCond .ne 23, 3) := by decide +kernel
theorem d_Mod_keepsOff_60 : decode prog_9_method_13_code 60 = .ok (.aload_n 0, 1) := by decide +kernel
theorem d_Mod_keepsOff_61 : decode prog_9_method_13_code 61 = .ok (.iload_n 2, 1) := by decide +kernel
theorem d_Mod_keepsOff_62 : decode prog_9_method_13_code 62 = .ok (.aload_n 0, 1) := by decide +kernel
theorem d_Mod_keepsOff_63 : decode prog_9_method_13_code 63 = .ok (.getfield 16, 3) := by decide +kernel
theorem d_Mod_keepsOff_66 : decode prog_9_method_13_code 66 = .ok (.iload_n 1, 1) := by decide +kernel
theorem d_Mod_keepsOff_67 : decode prog_9_method_13_code 67 = .ok (.iaload, 1) := by decide +kernel
theorem d_Mod_keepsOff_68 : decode prog_9_method_13_code 68 = .ok (.aload_n 0, 1) := by decide +kernel
theorem d_Mod_keepsOff_69 : decode prog_9_method_13_code 69 = .ok (.getfield 19, 3) := by decide +kernel
theorem d_Mod_keepsOff_72 : decode prog_9_method_13_code 72 = .ok (.iload_n 1, 1) := by decide +kernel
theorem d_Mod_keepsOff_73 : decode prog_9_method_13_code 73 = .ok (.iaload, 1) := by decide +kernel
theorem d_Mod_keepsOff_74 : decode prog_9_method_13_code 74 = .ok (.invokevirtual 107, 3) := by decide +kernel
theorem d_Mod_keepsOff_77 : decode prog_9_method_13_code 77 = .ok (.ifCond .eq 5, 3) := by decide +kernel
theorem d_Mod_keepsOff_80 : decode prog_9_method_13_code 80 = .ok (.iconst 1, 1) := by decide +kernel
theorem d_Mod_keepsOff_81 : decode prog_9_method_13_code 81 = .ok (.ireturn, 1) := by decide +kernel
theorem d_Mod_keepsOff_82 : decode prog_9_method_13_code 82 = .ok (.aload_n 0, 1) := by decide +kernel
theorem d_Mod_keepsOff_83 : decode prog_9_method_13_code 83 = .ok (.getfield 7, 3) := by decide +kernel
theorem d_Mod_keepsOff_86 : decode prog_9_method_13_code 86 = .ok (.iload_n 1, 1) := by decide +kernel
theorem d_Mod_keepsOff_87 : decode prog_9_method_13_code 87 = .ok (.iaload, 1) := by decide +kernel
theorem d_Mod_keepsOff_88 : decode prog_9_method_13_code 88 = .ok (.aload_n 0, 1) := by decide +kernel
theorem d_Mod_keepsOff_89 : decode prog_9_method_13_code 89 = .ok (.getfield 13, 3) := by decide +kernel
theorem d_Mod_keepsOff_92 : decode prog_9_method_13_code 92 = .ok (.iload_n 1, 1) := by decide +kernel
theorem d_Mod_keepsOff_93 : decode prog_9_method_13_code 93 = .ok (.iaload, 1) := by decide +kernel
theorem d_Mod_keepsOff_94 : decode prog_9_method_13_code 94 = .ok (.aload_n 0, 1) := by decide +kernel
theorem d_Mod_keepsOff_95 : decode prog_9_method_13_code 95 = .ok (.getfield 16, 3) := by decide +kernel
theorem d_Mod_keepsOff_98 : decode prog_9_method_13_code 98 = .ok (.iload_n 1, 1) := by decide +kernel
theorem d_Mod_keepsOff_99 : decode prog_9_method_13_code 99 = .ok (.iaload, 1) := by decide +kernel
theorem d_Mod_keepsOff_100 : decode prog_9_method_13_code 100 = .ok (.aload_n 0, 1) := by decide +kernel
theorem d_Mod_keepsOff_101 : decode prog_9_method_13_code 101 = .ok (.getfield 19, 3) := by decide +kernel
theorem d_Mod_keepsOff_104 : decode prog_9_method_13_code 104 = .ok (.iload_n 1, 1) := by decide +kernel
theorem d_Mod_keepsOff_105 : decode prog_9_method_13_code 105 = .ok (.iaload, 1) := by decide +kernel
theorem d_Mod_keepsOff_106 : decode prog_9_method_13_code 106 = .ok (.aload_n 0, 1) := by decide +kernel
theorem d_Mod_keepsOff_107 : decode prog_9_method_13_code 107 = .ok (.getfield 7, 3) := by decide +kernel
theorem d_Mod_keepsOff_110 : decode prog_9_method_13_code 110 = .ok (.iload_n 2, 1) := by decide +kernel
theorem d_Mod_keepsOff_111 : decode prog_9_method_13_code 111 = .ok (.iaload, 1) := by decide +kernel
theorem d_Mod_keepsOff_112 : decode prog_9_method_13_code 112 = .ok (.aload_n 0, 1) := by decide +kernel
theorem d_Mod_keepsOff_113 : decode prog_9_method_13_code 113 = .ok (.getfield 13, 3) := by decide +kernel
theorem d_Mod_keepsOff_116 : decode prog_9_method_13_code 116 = .ok (.iload_n 2, 1) := by decide +kernel
theorem d_Mod_keepsOff_117 : decode prog_9_method_13_code 117 = .ok (.iaload, 1) := by decide +kernel
theorem d_Mod_keepsOff_118 : decode prog_9_method_13_code 118 = .ok (.invokestatic 100, 3) := by decide +kernel
theorem d_Mod_keepsOff_121 : decode prog_9_method_13_code 121 = .ok (.istore_n 3, 1) := by decide +kernel
theorem d_Mod_keepsOff_122 : decode prog_9_method_13_code 122 = .ok (.aload_n 0, 1) := by decide +kernel
theorem d_Mod_keepsOff_123 : decode prog_9_method_13_code 123 = .ok (.getfield 7, 3) := by decide +kernel
