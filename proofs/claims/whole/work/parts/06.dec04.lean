theorem d_Rgs_takeRing_56 : decode prog_6_method_9_code 56 = .ok (.invokevirtual 99, 3) := by decide +kernel
theorem d_Rgs_takeRing_59 : decode prog_6_method_9_code 59 = .ok (.ifCond .eq 7, 3) := by decide +kernel
theorem d_Rgs_takeRing_62 : decode prog_6_method_9_code 62 = .ok (.iload 5, 2) := by decide +kernel
theorem d_Rgs_takeRing_64 : decode prog_6_method_9_code 64 = .ok (.istore 4, 2) := by decide +kernel
theorem d_Rgs_takeRing_66 : decode prog_6_method_9_code 66 = .ok (.iinc 5 1, 3) := by decide +kernel
theorem d_Rgs_takeRing_69 : decode prog_6_method_9_code 69 = .ok (.goto (-55), 3) := by decide +kernel
theorem d_Rgs_takeRing_72 : decode prog_6_method_9_code 72 = .ok (.aload_n 0, 1) := by decide +kernel
theorem d_Rgs_takeRing_73 : decode prog_6_method_9_code 73 = .ok (.getfield 21, 3) := by decide +kernel
theorem d_Rgs_takeRing_76 : decode prog_6_method_9_code 76 = .ok (.aload_n 0, 1) := by decide +kernel
theorem d_Rgs_takeRing_77 : decode prog_6_method_9_code 77 = .ok (.getfield 12, 3) := by decide +kernel
theorem d_Rgs_takeRing_80 : decode prog_6_method_9_code 80 = .ok (.getfield 43, 3) := by decide +kernel
theorem d_Rgs_takeRing_83 : decode prog_6_method_9_code 83 = .ok (.invokevirtual 71, 3) := by decide +kernel
theorem d_Rgs_takeRing_86 : decode prog_6_method_9_code 86 = .ok (.aload_n 0, 1) := by decide +kernel
theorem d_Rgs_takeRing_87 : decode prog_6_method_9_code 87 = .ok (.aload_n 1, 1) := by decide +kernel
theorem d_Rgs_takeRing_88 : decode prog_6_method_9_code 88 = .ok (.iload 4, 2) := by decide +kernel
theorem d_Rgs_takeRing_90 : decode prog_6_method_9_code 90 = .ok (.iload_n 2, 1) := by decide +kernel
theorem d_Rgs_takeRing_91 : decode prog_6_method_9_code 91 = .ok (.iload_n 3, 1) := by decide +kernel
theorem d_Rgs_takeRing_92 : decode prog_6_method_9_code 92 = .ok (.invokevirtual 103, 3) := by decide +kernel
theorem d_Rgs_takeRing_95 : decode prog_6_method_9_code 95 = .ok (.aload_n 0, 1) := by decide +kernel
theorem d_Rgs_takeRing_96 : decode prog_6_method_9_code 96 = .ok (.getfield 34, 3) := by decide +kernel
theorem d_Rgs_takeRing_99 : decode prog_6_method_9_code 99 = .ok (.iload_n 2, 1) := by decide +kernel
theorem d_Rgs_takeRing_100 : decode prog_6_method_9_code 100 = .ok (.invokevirtual 107, 3) := by decide +kernel
theorem d_Rgs_takeRing_103 : decode prog_6_method_9_code 103 = .ok (.return_, 1) := by decide +kernel
theorem d_Rgs_walk_0 : decode prog_6_method_8_code 0 = .ok (.iload_n 3, 1) := by decide +kernel
theorem d_Rgs_walk_1 : decode prog_6_method_8_code 1 = .ok (.istore 4, 2) := by decide +kernel
theorem d_Rgs_walk_3 : decode prog_6_method_8_code 3 = .ok (.iconst 0, 1) := by decide +kernel
theorem d_Rgs_walk_4 : decode prog_6_method_8_code 4 = .ok (.istore 5, 2) := by decide +kernel
theorem d_Rgs_walk_6 : decode prog_6_method_8_code 6 = .ok (.iload 5, 2) := by decide +kernel
theorem d_Rgs_walk_8 : decode prog_6_method_8_code 8 = .ok (.aload_n 2, 1) := by decide +kernel
theorem d_Rgs_walk_9 : decode prog_6_method_8_code 9 = .ok (.invokevirtual 54, 3) := by decide +kernel
theorem d_Rgs_walk_12 : decode prog_6_method_8_code 12 = .ok (.if_icmp .ge 119, 3) := by decide +kernel
theorem d_Rgs_walk_15 : decode prog_6_method_8_code 15 = .ok (.aload_n 0, 1) := by decide +kernel
theorem d_Rgs_walk_16 : decode prog_6_method_8_code 16 = .ok (.getfield 40, 3) := by decide +kernel
theorem d_Rgs_walk_19 : decode prog_6_method_8_code 19 = .ok (.iload 4, 2) := by decide +kernel
theorem d_Rgs_walk_21 : decode prog_6_method_8_code 21 = .ok (.invokevirtual 46, 3) := by decide +kernel
theorem d_Rgs_walk_24 : decode prog_6_method_8_code 24 = .ok (.ifCond .ne 107, 3) := by decide +kernel
theorem d_Rgs_walk_27 : decode prog_6_method_8_code 27 = .ok (.aload_n 0, 1) := by decide +kernel
theorem d_Rgs_walk_28 : decode prog_6_method_8_code 28 = .ok (.getfield 40, 3) := by decide +kernel
theorem d_Rgs_walk_31 : decode prog_6_method_8_code 31 = .ok (.iload 4, 2) := by decide +kernel
theorem d_Rgs_walk_33 : decode prog_6_method_8_code 33 = .ok (.iconst 1, 1) := by decide +kernel
theorem d_Rgs_walk_34 : decode prog_6_method_8_code 34 = .ok (.invokevirtual 82, 3) := by decide +kernel
theorem d_Rgs_walk_37 : decode prog_6_method_8_code 37 = .ok (.aload_n 0, 1) := by decide +kernel
theorem d_Rgs_walk_38 : decode prog_6_method_8_code 38 = .ok (.getfield 37, 3) := by decide +kernel
theorem d_Rgs_walk_41 : decode prog_6_method_8_code 41 = .ok (.aload_n 2, 1) := by decide +kernel
theorem d_Rgs_walk_42 : decode prog_6_method_8_code 42 = .ok (.getfield 86, 3) := by decide +kernel
theorem d_Rgs_walk_45 : decode prog_6_method_8_code 45 = .ok (.iload 4, 2) := by decide +kernel
theorem d_Rgs_walk_47 : decode prog_6_method_8_code 47 = .ok (.invokevirtual 46, 3) := by decide +kernel
theorem d_Rgs_walk_50 : decode prog_6_method_8_code 50 = .ok (.aload_n 0, 1) := by decide +kernel
theorem d_Rgs_walk_51 : decode prog_6_method_8_code 51 = .ok (.getfield 34, 3) := by decide +kernel
theorem d_Rgs_walk_54 : decode prog_6_method_8_code 54 = .ok (.getfield 43, 3) := by decide +kernel
theorem d_Rgs_walk_57 : decode prog_6_method_8_code 57 = .ok (.invokevirtual 82, 3) := by decide +kernel
theorem d_Rgs_walk_60 : decode prog_6_method_8_code 60 = .ok (.aload_n 0, 1) := by decide +kernel
theorem d_Rgs_walk_61 : decode prog_6_method_8_code 61 = .ok (.getfield 34, 3) := by decide +kernel
theorem d_Rgs_walk_64 : decode prog_6_method_8_code 64 = .ok (.aload_n 2, 1) := by decide +kernel
theorem d_Rgs_walk_65 : decode prog_6_method_8_code 65 = .ok (.getfield 86, 3) := by decide +kernel
theorem d_Rgs_walk_68 : decode prog_6_method_8_code 68 = .ok (.iload 4, 2) := by decide +kernel
theorem d_Rgs_walk_70 : decode prog_6_method_8_code 70 = .ok (.invokevirtual 46, 3) := by decide +kernel
theorem d_Rgs_walk_73 : decode prog_6_method_8_code 73 = .ok (.invokevirtual 71, 3) := by decide +kernel
theorem d_Rgs_walk_76 : decode prog_6_method_8_code 76 = .ok (.aload_n 2, 1) := by decide +kernel
theorem d_Rgs_walk_77 : decode prog_6_method_8_code 77 = .ok (.getfield 89, 3) := by decide +kernel
theorem d_Rgs_walk_80 : decode prog_6_method_8_code 80 = .ok (.iload 4, 2) := by decide +kernel
theorem d_Rgs_walk_82 : decode prog_6_method_8_code 82 = .ok (.invokevirtual 46, 3) := by decide +kernel
theorem d_Rgs_walk_85 : decode prog_6_method_8_code 85 = .ok (.istore 6, 2) := by decide +kernel
theorem d_Rgs_walk_87 : decode prog_6_method_8_code 87 = .ok (.aload_n 0, 1) := by decide +kernel
theorem d_Rgs_walk_88 : decode prog_6_method_8_code 88 = .ok (.getfield 37, 3) := by decide +kernel
theorem d_Rgs_walk_91 : decode prog_6_method_8_code 91 = .ok (.iload 6, 2) := by decide +kernel
theorem d_Rgs_walk_93 : decode prog_6_method_8_code 93 = .ok (.invokevirtual 46, 3) := by decide +kernel
theorem d_Rgs_walk_96 : decode prog_6_method_8_code 96 = .ok (.iconst (-1), 1) := by decide +kernel
theorem d_Rgs_walk_97 : decode prog_6_method_8_code 97 = .ok (.if_icmp .eq 17, 3) := by decide +kernel
theorem d_Rgs_walk_100 : decode prog_6_method_8_code 100 = .ok (.aload_n 0, 1) := by decide +kernel
theorem d_Rgs_walk_101 : decode prog_6_method_8_code 101 = .ok (.aload_n 1, 1) := by decide +kernel
theorem d_Rgs_walk_102 : decode prog_6_method_8_code 102 = .ok (.aload_n 0, 1) := by decide +kernel
theorem d_Rgs_walk_103 : decode prog_6_method_8_code 103 = .ok (.getfield 37, 3) := by decide +kernel
theorem d_Rgs_walk_106 : decode prog_6_method_8_code 106 = .ok (.iload 6, 2) := by decide +kernel
theorem d_Rgs_walk_108 : decode prog_6_method_8_code 108 = .ok (.invokevirtual 46, 3) := by decide +kernel
theorem d_Rgs_walk_111 : decode prog_6_method_8_code 111 = .ok (.invokevirtual 92, 3) := by decide +kernel
theorem d_Rgs_walk_114 : decode prog_6_method_8_code 114 = .ok (.aload_n 2, 1) := by decide +kernel
theorem d_Rgs_walk_115 : decode prog_6_method_8_code 115 = .ok (.getfield 96, 3) := by decide +kernel
theorem d_Rgs_walk_118 : decode prog_6_method_8_code 118 = .ok (.iload 4, 2) := by decide +kernel
theorem d_Rgs_walk_120 : decode prog_6_method_8_code 120 = .ok (.invokevirtual 46, 3) := by decide +kernel
theorem d_Rgs_walk_123 : decode prog_6_method_8_code 123 = .ok (.istore 4, 2) := by decide +kernel
theorem d_Rgs_walk_125 : decode prog_6_method_8_code 125 = .ok (.iinc 5 1, 3) := by decide +kernel
theorem d_Rgs_walk_128 : decode prog_6_method_8_code 128 = .ok (.goto (-122), 3) := by decide +kernel
theorem d_Rgs_walk_131 : decode prog_6_method_8_code 131 = .ok (.return_, 1) := by decide +kernel
theorem d_Rgs_gather_0 : decode prog_6_method_6_code 0 = .ok (.aload_n 0, 1) := by decide +kernel
theorem d_Rgs_gather_1 : decode prog_6_method_6_code 1 = .ok (.aload_n 1, 1) := by decide +kernel
theorem d_Rgs_gather_2 : decode prog_6_method_6_code 2 = .ok (.aload_n 2, 1) := by decide +kernel
theorem d_Rgs_gather_3 : decode prog_6_method_6_code 3 = .ok (.invokevirtual 50, 3) := by decide +kernel
theorem d_Rgs_gather_6 : decode prog_6_method_6_code 6 = .ok (.iconst 0, 1) := by decide +kernel
theorem d_Rgs_gather_7 : decode prog_6_method_6_code 7 = .ok (.istore_n 3, 1) := by decide +kernel
theorem d_Rgs_gather_8 : decode prog_6_method_6_code 8 = .ok (.iload_n 3, 1) := by decide +kernel
theorem d_Rgs_gather_9 : decode prog_6_method_6_code 9 = .ok (.aload_n 2, 1) := by decide +kernel
theorem d_Rgs_gather_10 : decode prog_6_method_6_code 10 = .ok (.invokevirtual 54, 3) := by decide +kernel
theorem d_Rgs_gather_13 : decode prog_6_method_6_code 13 = .ok (.if_icmp .ge 27, 3) := by decide +kernel
theorem d_Rgs_gather_16 : decode prog_6_method_6_code 16 = .ok (.aload_n 0, 1) := by decide +kernel
theorem d_Rgs_gather_17 : decode prog_6_method_6_code 17 = .ok (.getfield 40, 3) := by decide +kernel
theorem d_Rgs_gather_20 : decode prog_6_method_6_code 20 = .ok (.iload_n 3, 1) := by decide +kernel
theorem d_Rgs_gather_21 : decode prog_6_method_6_code 21 = .ok (.invokevirtual 46, 3) := by decide +kernel
theorem d_Rgs_gather_24 : decode prog_6_method_6_code 24 = .ok (.ifCond .ne 10, 3) := by decide +kernel
theorem d_Rgs_gather_27 : decode prog_6_method_6_code 27 = .ok (.aload_n 0, 1) := by decide +kernel
theorem d_Rgs_gather_28 : decode prog_6_method_6_code 28 = .ok (.aload_n 1, 1) := by decide +kernel
theorem d_Rgs_gather_29 : decode prog_6_method_6_code 29 = .ok (.aload_n 2, 1) := by decide +kernel
theorem d_Rgs_gather_30 : decode prog_6_method_6_code 30 = .ok (.iload_n 3, 1) := by decide +kernel
theorem d_Rgs_gather_31 : decode prog_6_method_6_code 31 = .ok (.invokevirtual 60, 3) := by decide +kernel
theorem d_Rgs_gather_34 : decode prog_6_method_6_code 34 = .ok (.iinc 3 1, 3) := by decide +kernel
theorem d_Rgs_gather_37 : decode prog_6_method_6_code 37 = .ok (.goto (-29), 3) := by decide +kernel
theorem d_Rgs_gather_40 : decode prog_6_method_6_code 40 = .ok (.iconst 0, 1) := by decide +kernel
theorem d_Rgs_gather_41 : decode prog_6_method_6_code 41 = .ok (.istore_n 3, 1) := by decide +kernel
theorem d_Rgs_gather_42 : decode prog_6_method_6_code 42 = .ok (.iload_n 3, 1) := by decide +kernel
theorem d_Rgs_gather_43 : decode prog_6_method_6_code 43 = .ok (.aload_n 0, 1) := by decide +kernel
theorem d_Rgs_gather_44 : decode prog_6_method_6_code 44 = .ok (.getfield 21, 3) := by decide +kernel
theorem d_Rgs_gather_47 : decode prog_6_method_6_code 47 = .ok (.getfield 43, 3) := by decide +kernel
theorem d_Rgs_gather_50 : decode prog_6_method_6_code 50 = .ok (.if_icmp .ge 52, 3) := by decide +kernel
theorem d_Rgs_gather_53 : decode prog_6_method_6_code 53 = .ok (.aload_n 0, 1) := by decide +kernel
theorem d_Rgs_gather_54 : decode prog_6_method_6_code 54 = .ok (.iload_n 3, 1) := by decide +kernel
theorem d_Rgs_gather_55 : decode prog_6_method_6_code 55 = .ok (.invokevirtual 64, 3) := by decide +kernel
theorem d_Rgs_gather_58 : decode prog_6_method_6_code 58 = .ok (.aload_n 0, 1) := by decide +kernel
theorem d_Rgs_gather_59 : decode prog_6_method_6_code 59 = .ok (.getfield 27, 3) := by decide +kernel
theorem d_Rgs_gather_62 : decode prog_6_method_6_code 62 = .ok (.aload_n 0, 1) := by decide +kernel
theorem d_Rgs_gather_63 : decode prog_6_method_6_code 63 = .ok (.iload_n 3, 1) := by decide +kernel
theorem d_Rgs_gather_64 : decode prog_6_method_6_code 64 = .ok (.invokevirtual 68, 3) := by decide +kernel
theorem d_Rgs_gather_67 : decode prog_6_method_6_code 67 = .ok (.invokevirtual 71, 3) := by decide +kernel
theorem d_Rgs_gather_70 : decode prog_6_method_6_code 70 = .ok (.aload_n 0, 1) := by decide +kernel
theorem d_Rgs_gather_71 : decode prog_6_method_6_code 71 = .ok (.dup, 1) := by decide +kernel
theorem d_Rgs_gather_72 : decode prog_6_method_6_code 72 = .ok (.getfield 30, 3) := by decide +kernel
theorem d_Rgs_gather_75 : decode prog_6_method_6_code 75 = .ok (.aload_n 0, 1) := by decide +kernel
theorem d_Rgs_gather_76 : decode prog_6_method_6_code 76 = .ok (.getfield 27, 3) := by decide +kernel
theorem d_Rgs_gather_79 : decode prog_6_method_6_code 79 = .ok (.iload_n 3, 1) := by decide +kernel
theorem d_Rgs_gather_80 : decode prog_6_method_6_code 80 = .ok (.invokevirtual 46, 3) := by decide +kernel
theorem d_Rgs_gather_83 : decode prog_6_method_6_code 83 = .ok (.iload_n 3, 1) := by decide +kernel
theorem d_Rgs_gather_84 : decode prog_6_method_6_code 84 = .ok (.if_icmp .ne 7, 3) := by decide +kernel
theorem d_Rgs_gather_87 : decode prog_6_method_6_code 87 = .ok (.iconst 1, 1) := by decide +kernel
theorem d_Rgs_gather_88 : decode prog_6_method_6_code 88 = .ok (.goto 4, 3) := by decide +kernel
theorem d_Rgs_gather_91 : decode prog_6_method_6_code 91 = .ok (.iconst 0, 1) := by decide +kernel
theorem d_Rgs_gather_92 : decode prog_6_method_6_code 92 = .ok (.iadd, 1) := by decide +kernel
theorem d_Rgs_gather_93 : decode prog_6_method_6_code 93 = .ok (.putfield 30, 3) := by decide +kernel
theorem d_Rgs_gather_96 : decode prog_6_method_6_code 96 = .ok (.iinc 3 1, 3) := by decide +kernel
theorem d_Rgs_gather_99 : decode prog_6_method_6_code 99 = .ok (.goto (-57), 3) := by decide +kernel
theorem d_Rgs_gather_102 : decode prog_6_method_6_code 102 = .ok (.return_, 1) := by decide +kernel
theorem d_Wea_isPlace_0 : decode prog_1_method_9_code 0 = .ok (.iload_n 0, 1) := by decide +kernel
theorem d_Wea_isPlace_1 : decode prog_1_method_9_code 1 = .ok (.ldc 147, 2) := by decide +kernel
theorem d_Wea_isPlace_3 : decode prog_1_method_9_code 3 = .ok (.if_icmp .lt 25, 3) := by decide +kernel
theorem d_Wea_isPlace_6 : decode prog_1_method_9_code 6 = .ok (.iload_n 0, 1) := by decide +kernel
theorem d_Wea_isPlace_7 : decode prog_1_method_9_code 7 = .ok (.ldc 148, 2) := by decide +kernel
theorem d_Wea_isPlace_9 : decode prog_1_method_9_code 9 = .ok (.if_icmp .gt 19, 3) := by decide +kernel
theorem d_Wea_isPlace_12 : decode prog_1_method_9_code 12 = .ok (.iload_n 1, 1) := by decide +kernel
theorem d_Wea_isPlace_13 : decode prog_1_method_9_code 13 = .ok (.ldc 147, 2) := by decide +kernel
theorem d_Wea_isPlace_15 : decode prog_1_method_9_code 15 = .ok (.if_icmp .lt 13, 3) := by decide +kernel
theorem d_Wea_isPlace_18 : decode prog_1_method_9_code 18 = .ok (.iload_n 1, 1) := by decide +kernel
theorem d_Wea_isPlace_19 : decode prog_1_method_9_code 19 = .ok (.ldc 148, 2) := by decide +kernel
theorem d_Wea_isPlace_21 : decode prog_1_method_9_code 21 = .ok (.if_icmp .gt 7, 3) := by decide +kernel
theorem d_Wea_isPlace_24 : decode prog_1_method_9_code 24 = .ok (.iconst 1, 1) := by decide +kernel
theorem d_Wea_isPlace_25 : decode prog_1_method_9_code 25 = .ok (.goto 4, 3) := by decide +kernel
theorem d_Wea_isPlace_28 : decode prog_1_method_9_code 28 = .ok (.iconst 0, 1) := by decide +kernel
theorem d_Wea_isPlace_29 : decode prog_1_method_9_code 29 = .ok (.ireturn, 1) := by decide +kernel
theorem d_Wea_clear_0 : decode prog_1_method_3_code 0 = .ok (.aload_n 0, 1) := by decide +kernel
theorem d_Wea_clear_1 : decode prog_1_method_3_code 1 = .ok (.getfield 10, 3) := by decide +kernel
theorem d_Wea_clear_4 : decode prog_1_method_3_code 4 = .ok (.invokevirtual 63, 3) := by decide +kernel
theorem d_Wea_clear_7 : decode prog_1_method_3_code 7 = .ok (.istore_n 1, 1) := by decide +kernel
theorem d_Wea_clear_8 : decode prog_1_method_3_code 8 = .ok (.aload_n 0, 1) := by decide +kernel
theorem d_Wea_clear_9 : decode prog_1_method_3_code 9 = .ok (.getfield 10, 3) := by decide +kernel
theorem d_Wea_clear_12 : decode prog_1_method_3_code 12 = .ok (.invokevirtual 82, 3) := by decide +kernel
theorem d_Wea_clear_15 : decode prog_1_method_3_code 15 = .ok (.aload_n 0, 1) := by decide +kernel
theorem d_Wea_clear_16 : decode prog_1_method_3_code 16 = .ok (.getfield 33, 3) := by decide +kernel
theorem d_Wea_clear_19 : decode prog_1_method_3_code 19 = .ok (.invokevirtual 79, 3) := by decide +kernel
theorem d_Wea_clear_22 : decode prog_1_method_3_code 22 = .ok (.iload_n 1, 1) := by decide +kernel
theorem d_Wea_clear_23 : decode prog_1_method_3_code 23 = .ok (.ireturn, 1) := by decide +kernel
theorem d_Wea_area_0 : decode prog_1_method_7_code 0 = .ok (.aload_n 0, 1) := by decide +kernel
theorem d_Wea_area_1 : decode prog_1_method_7_code 1 = .ok (.getfield 33, 3) := by decide +kernel
theorem d_Wea_area_4 : decode prog_1_method_7_code 4 = .ok (.getfield 143, 3) := by decide +kernel
theorem d_Wea_area_7 : decode prog_1_method_7_code 7 = .ok (.lreturn, 1) := by decide +kernel
theorem d_Wea_count_0 : decode prog_1_method_8_code 0 = .ok (.iload_n 1, 1) := by decide +kernel
set_option maxRecDepth 20000 in
theorem d_Wea_count_1 : decode prog_1_method_8_code 1 = .ok (.tableswitch 69 0 3 #[31, 39, 50, 61], 31) := by decide +kernel
theorem d_Wea_count_32 : decode prog_1_method_8_code 32 = .ok (.aload_n 0, 1) := by decide +kernel
theorem d_Wea_count_33 : decode prog_1_method_8_code 33 = .ok (.getfield 10, 3) := by decide +kernel
theorem d_Wea_count_36 : decode prog_1_method_8_code 36 = .ok (.invokevirtual 63, 3) := by decide +kernel
theorem d_Wea_count_39 : decode prog_1_method_8_code 39 = .ok (.ireturn, 1) := by decide +kernel
theorem d_Wea_count_40 : decode prog_1_method_8_code 40 = .ok (.aload_n 0, 1) := by decide +kernel
theorem d_Wea_count_41 : decode prog_1_method_8_code 41 = .ok (.getfield 33, 3) := by decide +kernel
theorem d_Wea_count_44 : decode prog_1_method_8_code 44 = .ok (.getfield 115, 3) := by decide +kernel
theorem d_Wea_count_47 : decode prog_1_method_8_code 47 = .ok (.getfield 119, 3) := by decide +kernel
theorem d_Wea_count_50 : decode prog_1_method_8_code 50 = .ok (.ireturn, 1) := by decide +kernel
theorem d_Wea_count_51 : decode prog_1_method_8_code 51 = .ok (.aload_n 0, 1) := by decide +kernel
theorem d_Wea_count_52 : decode prog_1_method_8_code 52 = .ok (.getfield 33, 3) := by decide +kernel
theorem d_Wea_count_55 : decode prog_1_method_8_code 55 = .ok (.getfield 133, 3) := by decide +kernel
theorem d_Wea_count_58 : decode prog_1_method_8_code 58 = .ok (.getfield 119, 3) := by decide +kernel
theorem d_Wea_count_61 : decode prog_1_method_8_code 61 = .ok (.ireturn, 1) := by decide +kernel
theorem d_Wea_count_62 : decode prog_1_method_8_code 62 = .ok (.aload_n 0, 1) := by decide +kernel
theorem d_Wea_count_63 : decode prog_1_method_8_code 63 = .ok (.getfield 33, 3) := by decide +kernel
theorem d_Wea_count_66 : decode prog_1_method_8_code 66 = .ok (.getfield 111, 3) := by decide +kernel
theorem d_Wea_count_69 : decode prog_1_method_8_code 69 = .ok (.ireturn, 1) := by decide +kernel
theorem d_Wea_count_70 : decode prog_1_method_8_code 70 = .ok (.iconst (-1), 1) := by decide +kernel
theorem d_Wea_count_71 : decode prog_1_method_8_code 71 = .ok (.ireturn, 1) := by decide +kernel
theorem d_Row_add_0 : decode prog_7_method_4_code 0 = .ok (.aload_n 0, 1) := by decide +kernel
theorem d_Row_add_1 : decode prog_7_method_4_code 1 = .ok (.getfield 15, 3) := by decide +kernel
theorem d_Row_add_4 : decode prog_7_method_4_code 4 = .ok (.aload_n 0, 1) := by decide +kernel
theorem d_Row_add_5 : decode prog_7_method_4_code 5 = .ok (.getfield 9, 3) := by decide +kernel
theorem d_Row_add_8 : decode prog_7_method_4_code 8 = .ok (.arraylength, 1) := by decide +kernel
theorem d_Row_add_9 : decode prog_7_method_4_code 9 = .ok (.if_icmp .lt 20, 3) := by decide +kernel
theorem d_Row_add_12 : decode prog_7_method_4_code 12 = .ok (.aload_n 0, 1) := by decide +kernel
theorem d_Row_add_13 : decode prog_7_method_4_code 13 = .ok (.aload_n 0, 1) := by decide +kernel
theorem d_Row_add_14 : decode prog_7_method_4_code 14 = .ok (.getfield 9, 3) := by decide +kernel
theorem d_Row_add_17 : decode prog_7_method_4_code 17 = .ok (.iconst 2, 1) := by decide +kernel
theorem d_Row_add_18 : decode prog_7_method_4_code 18 = .ok (.aload_n 0, 1) := by decide +kernel
theorem d_Row_add_19 : decode prog_7_method_4_code 19 = .ok (.getfield 15, 3) := by decide +kernel
theorem d_Row_add_22 : decode prog_7_method_4_code 22 = .ok (.imul, 1) := by decide +kernel
theorem d_Row_add_23 : decode prog_7_method_4_code 23 = .ok (.invokestatic 19, 3) := by decide +kernel
theorem d_Row_add_26 : decode prog_7_method_4_code 26 = .ok (.putfield 9, 3) := by decide +kernel
theorem d_Row_add_29 : decode prog_7_method_4_code 29 = .ok (.aload_n 0, 1) := by decide +kernel
theorem d_Row_add_30 : decode prog_7_method_4_code 30 = .ok (.getfield 9, 3) := by decide +kernel
theorem d_Row_add_33 : decode prog_7_method_4_code 33 = .ok (.aload_n 0, 1) := by decide +kernel
theorem d_Row_add_34 : decode prog_7_method_4_code 34 = .ok (.getfield 15, 3) := by decide +kernel
theorem d_Row_add_37 : decode prog_7_method_4_code 37 = .ok (.iload_n 1, 1) := by decide +kernel
theorem d_Row_add_38 : decode prog_7_method_4_code 38 = .ok (.iastore, 1) := by decide +kernel
theorem d_Row_add_39 : decode prog_7_method_4_code 39 = .ok (.aload_n 0, 1) := by decide +kernel
theorem d_Row_add_40 : decode prog_7_method_4_code 40 = .ok (.dup, 1) := by decide +kernel
theorem d_Row_add_41 : decode prog_7_method_4_code 41 = .ok (.getfield 15, 3) := by decide +kernel
theorem d_Row_add_44 : decode prog_7_method_4_code 44 = .ok (.iconst 1, 1) := by decide +kernel
theorem d_Row_add_45 : decode prog_7_method_4_code 45 = .ok (.iadd, 1) := by decide +kernel
theorem d_Row_add_46 : decode prog_7_method_4_code 46 = .ok (.putfield 15, 3) := by decide +kernel
theorem d_Row_add_49 : decode prog_7_method_4_code 49 = .ok (.return_, 1) := by decide +kernel
theorem d_Arrays_copyOf_0 : decode prog_22_method_123_code 0 = .ok (.iload_n 1, 1) := by decide +kernel
theorem d_Arrays_copyOf_1 : decode prog_22_method_123_code 1 = .ok (.aload_n 0, 1) := by decide +kernel
theorem d_Arrays_copyOf_2 : decode prog_22_method_123_code 2 = .ok (.arraylength, 1) := by decide +kernel
theorem d_Arrays_copyOf_3 : decode prog_22_method_123_code 3 = .ok (.if_icmp .ne 11, 3) := by decide +kernel
theorem d_Arrays_copyOf_6 : decode prog_22_method_123_code 6 = .ok (.aload_n 0, 1) := by decide +kernel
theorem d_Arrays_copyOf_7 : decode prog_22_method_123_code 7 = .ok (.invokevirtual 316, 3) := by decide +kernel
theorem d_Arrays_copyOf_10 : decode prog_22_method_123_code 10 = .ok (.checkcast 317, 3) := by decide +kernel
theorem d_Arrays_copyOf_13 : decode prog_22_method_123_code 13 = .ok (.areturn, 1) := by decide +kernel
theorem d_Arrays_copyOf_14 : decode prog_22_method_123_code 14 = .ok (.iload_n 1, 1) := by decide +kernel
theorem d_Arrays_copyOf_15 : decode prog_22_method_123_code 15 = .ok (.newarray .int, 2) := by decide +kernel
theorem d_Arrays_copyOf_17 : decode prog_22_method_123_code 17 = .ok (.astore_n 2, 1) := by decide +kernel
theorem d_Arrays_copyOf_18 : decode prog_22_method_123_code 18 = .ok (.aload_n 0, 1) := by decide +kernel
theorem d_Arrays_copyOf_19 : decode prog_22_method_123_code 19 = .ok (.iconst 0, 1) := by decide +kernel
theorem d_Arrays_copyOf_20 : decode prog_22_method_123_code 20 = .ok (.aload_n 2, 1) := by decide +kernel
theorem d_Arrays_copyOf_21 : decode prog_22_method_123_code 21 = .ok (.iconst 0, 1) := by decide +kernel
theorem d_Arrays_copyOf_22 : decode prog_22_method_123_code 22 = .ok (.aload_n 0, 1) := by decide +kernel
theorem d_Arrays_copyOf_23 : decode prog_22_method_123_code 23 = .ok (.arraylength, 1) := by decide +kernel
theorem d_Arrays_copyOf_24 : decode prog_22_method_123_code 24 = .ok (.iload_n 1, 1) := by decide +kernel
theorem d_Arrays_copyOf_25 : decode prog_22_method_123_code 25 = .ok (.invokestatic 304, 3) := by decide +kernel
theorem d_Arrays_copyOf_28 : decode prog_22_method_123_code 28 = .ok (.invokestatic 150, 3) := by decide +kernel
theorem d_Arrays_copyOf_31 : decode prog_22_method_123_code 31 = .ok (.aload_n 2, 1) := by decide +kernel
theorem d_Arrays_copyOf_32 : decode prog_22_method_123_code 32 = .ok (.areturn, 1) := by decide +kernel
