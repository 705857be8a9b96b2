theorem d_Bnd_ways_0 : decode prog_2_method_2_code 0 = .ok (.aload_n 0, 1) := by decide +kernel
theorem d_Bnd_ways_1 : decode prog_2_method_2_code 1 = .ok (.getfield 12, 3) := by decide +kernel
theorem d_Bnd_ways_4 : decode prog_2_method_2_code 4 = .ok (.getfield 30, 3) := by decide +kernel
theorem d_Bnd_ways_7 : decode prog_2_method_2_code 7 = .ok (.ireturn, 1) := by decide +kernel
theorem d_Row_empty_0 : decode prog_7_method_2_code 0 = .ok (.aload_n 0, 1) := by decide +kernel
theorem d_Row_empty_1 : decode prog_7_method_2_code 1 = .ok (.iconst 0, 1) := by decide +kernel
theorem d_Row_empty_2 : decode prog_7_method_2_code 2 = .ok (.putfield 15, 3) := by decide +kernel
theorem d_Row_empty_5 : decode prog_7_method_2_code 5 = .ok (.return_, 1) := by decide +kernel
theorem d_Net_places_0 : decode prog_4_method_3_code 0 = .ok (.aload_n 0, 1) := by decide +kernel
theorem d_Net_places_1 : decode prog_4_method_3_code 1 = .ok (.getfield 21, 3) := by decide +kernel
theorem d_Net_places_4 : decode prog_4_method_3_code 4 = .ok (.getfield 33, 3) := by decide +kernel
theorem d_Net_places_7 : decode prog_4_method_3_code 7 = .ok (.ireturn, 1) := by decide +kernel
theorem d_Net_pieces_0 : decode prog_4_method_2_code 0 = .ok (.aload_n 0, 1) := by decide +kernel
theorem d_Net_pieces_1 : decode prog_4_method_2_code 1 = .ok (.getfield 30, 3) := by decide +kernel
theorem d_Net_pieces_4 : decode prog_4_method_2_code 4 = .ok (.getfield 33, 3) := by decide +kernel
theorem d_Net_pieces_7 : decode prog_4_method_2_code 7 = .ok (.ireturn, 1) := by decide +kernel
theorem d_Row_get_0 : decode prog_7_method_5_code 0 = .ok (.iload_n 1, 1) := by decide +kernel
theorem d_Row_get_1 : decode prog_7_method_5_code 1 = .ok (.ifCond .lt 20, 3) := by decide +kernel
theorem d_Row_get_4 : decode prog_7_method_5_code 4 = .ok (.iload_n 1, 1) := by decide +kernel
theorem d_Row_get_5 : decode prog_7_method_5_code 5 = .ok (.aload_n 0, 1) := by decide +kernel
theorem d_Row_get_6 : decode prog_7_method_5_code 6 = .ok (.getfield 15, 3) := by decide +kernel
theorem d_Row_get_9 : decode prog_7_method_5_code 9 = .ok (.if_icmp .ge 12, 3) := by decide +kernel
theorem d_Row_get_12 : decode prog_7_method_5_code 12 = .ok (.aload_n 0, 1) := by decide +kernel
theorem d_Row_get_13 : decode prog_7_method_5_code 13 = .ok (.getfield 9, 3) := by decide +kernel
theorem d_Row_get_16 : decode prog_7_method_5_code 16 = .ok (.iload_n 1, 1) := by decide +kernel
theorem d_Row_get_17 : decode prog_7_method_5_code 17 = .ok (.iaload, 1) := by decide +kernel
theorem d_Row_get_18 : decode prog_7_method_5_code 18 = .ok (.goto 4, 3) := by decide +kernel
theorem d_Row_get_21 : decode prog_7_method_5_code 21 = .ok (.iconst (-1), 1) := by decide +kernel
theorem d_Row_get_22 : decode prog_7_method_5_code 22 = .ok (.ireturn, 1) := by decide +kernel
theorem d_Long_compare_0 : decode prog_15_method_42_code 0 = .ok (.lload_n 0, 1) := by decide +kernel
theorem d_Long_compare_1 : decode prog_15_method_42_code 1 = .ok (.lload_n 2, 1) := by decide +kernel
theorem d_Long_compare_2 : decode prog_15_method_42_code 2 = .ok (.lcmp, 1) := by decide +kernel
theorem d_Long_compare_3 : decode prog_15_method_42_code 3 = .ok (.ifCond .ge 7, 3) := by decide +kernel
theorem d_Long_compare_6 : decode prog_15_method_42_code 6 = .ok (.iconst (-1), 1) := by decide +kernel
theorem d_Long_compare_7 : decode prog_15_method_42_code 7 = .ok (.goto 14, 3) := by decide +kernel
theorem d_Long_compare_10 : decode prog_15_method_42_code 10 = .ok (.lload_n 0, 1) := by decide +kernel
theorem d_Long_compare_11 : decode prog_15_method_42_code 11 = .ok (.lload_n 2, 1) := by decide +kernel
theorem d_Long_compare_12 : decode prog_15_method_42_code 12 = .ok (.lcmp, 1) := by decide +kernel
theorem d_Long_compare_13 : decode prog_15_method_42_code 13 = .ok (.ifCond .ne 7, 3) := by decide +kernel
theorem d_Long_compare_16 : decode prog_15_method_42_code 16 = .ok (.iconst 0, 1) := by decide +kernel
theorem d_Long_compare_17 : decode prog_15_method_42_code 17 = .ok (.goto 4, 3) := by decide +kernel
theorem d_Long_compare_20 : decode prog_15_method_42_code 20 = .ok (.iconst 1, 1) := by decide +kernel
theorem d_Long_compare_21 : decode prog_15_method_42_code 21 = .ok (.ireturn, 1) := by decide +kernel
theorem d_Pla_turn_0 : decode prog_5_method_8_code 0 = .ok (.iconst 1, 1) := by decide +kernel
theorem d_Pla_turn_1 : decode prog_5_method_8_code 1 = .ok (.iload_n 0, 1) := by decide +kernel
theorem d_Pla_turn_2 : decode prog_5_method_8_code 2 = .ok (.i2l, 1) := by decide +kernel
theorem d_Pla_turn_3 : decode prog_5_method_8_code 3 = .ok (.iload_n 3, 1) := by decide +kernel
theorem d_Pla_turn_4 : decode prog_5_method_8_code 4 = .ok (.i2l, 1) := by decide +kernel
theorem d_Pla_turn_5 : decode prog_5_method_8_code 5 = .ok (.lmul, 1) := by decide +kernel
theorem d_Pla_turn_6 : decode prog_5_method_8_code 6 = .ok (.iload_n 1, 1) := by decide +kernel
theorem d_Pla_turn_7 : decode prog_5_method_8_code 7 = .ok (.i2l, 1) := by decide +kernel
theorem d_Pla_turn_8 : decode prog_5_method_8_code 8 = .ok (.iload_n 2, 1) := by decide +kernel
theorem d_Pla_turn_9 : decode prog_5_method_8_code 9 = .ok (.i2l, 1) := by decide +kernel
theorem d_Pla_turn_10 : decode prog_5_method_8_code 10 = .ok (.lmul, 1) := by decide +kernel
theorem d_Pla_turn_11 : decode prog_5_method_8_code 11 = .ok (.invokestatic 32, 3) := by decide +kernel
theorem d_Pla_turn_14 : decode prog_5_method_8_code 14 = .ok (.iadd, 1) := by decide +kernel
theorem d_Pla_turn_15 : decode prog_5_method_8_code 15 = .ok (.ireturn, 1) := by decide +kernel
theorem d_Pla_isSooner_0 : decode prog_5_method_7_code 0 = .ok (.iload_n 0, 1) := by decide +kernel
theorem d_Pla_isSooner_1 : decode prog_5_method_7_code 1 = .ok (.iload_n 1, 1) := by decide +kernel
theorem d_Pla_isSooner_2 : decode prog_5_method_7_code 2 = .ok (.iload_n 2, 1) := by decide +kernel
theorem d_Pla_isSooner_3 : decode prog_5_method_7_code 3 = .ok (.iload_n 3, 1) := by decide +kernel
theorem d_Pla_isSooner_4 : decode prog_5_method_7_code 4 = .ok (.invokestatic 28, 3) := by decide +kernel
theorem d_Pla_isSooner_7 : decode prog_5_method_7_code 7 = .ok (.istore 6, 2) := by decide +kernel
theorem d_Pla_isSooner_9 : decode prog_5_method_7_code 9 = .ok (.iload_n 0, 1) := by decide +kernel
theorem d_Pla_isSooner_10 : decode prog_5_method_7_code 10 = .ok (.iload_n 1, 1) := by decide +kernel
theorem d_Pla_isSooner_11 : decode prog_5_method_7_code 11 = .ok (.iload 4, 2) := by decide +kernel
theorem d_Pla_isSooner_13 : decode prog_5_method_7_code 13 = .ok (.iload 5, 2) := by decide +kernel
theorem d_Pla_isSooner_15 : decode prog_5_method_7_code 15 = .ok (.invokestatic 28, 3) := by decide +kernel
theorem d_Pla_isSooner_18 : decode prog_5_method_7_code 18 = .ok (.istore 7, 2) := by decide +kernel
theorem d_Pla_isSooner_20 : decode prog_5_method_7_code 20 = .ok (.iload 6, 2) := by decide +kernel
theorem d_Pla_isSooner_22 : decode prog_5_method_7_code 22 = .ok (.iload 7, 2) := by decide +kernel
theorem d_Pla_isSooner_24 : decode prog_5_method_7_code 24 = .ok (.if_icmp .eq 16, 3) := by decide +kernel
theorem d_Pla_isSooner_27 : decode prog_5_method_7_code 27 = .ok (.iload 6, 2) := by decide +kernel
theorem d_Pla_isSooner_29 : decode prog_5_method_7_code 29 = .ok (.iload 7, 2) := by decide +kernel
theorem d_Pla_isSooner_31 : decode prog_5_method_7_code 31 = .ok (.if_icmp .ge 7, 3) := by decide +kernel
theorem d_Pla_isSooner_34 : decode prog_5_method_7_code 34 = .ok (.iconst 1, 1) := by decide +kernel
theorem d_Pla_isSooner_35 : decode prog_5_method_7_code 35 = .ok (.goto 4, 3) := by decide +kernel
theorem d_Pla_isSooner_38 : decode prog_5_method_7_code 38 = .ok (.iconst 0, 1) := by decide +kernel
theorem d_Pla_isSooner_39 : decode prog_5_method_7_code 39 = .ok (.ireturn, 1) := by decide +kernel
theorem d_Pla_isSooner_40 : decode prog_5_method_7_code 40 = .ok (.iload_n 2, 1) := by decide +kernel
theorem d_Pla_isSooner_41 : decode prog_5_method_7_code 41 = .ok (.i2l, 1) := by decide +kernel
theorem d_Pla_isSooner_42 : decode prog_5_method_7_code 42 = .ok (.iload 5, 2) := by decide +kernel
theorem d_Pla_isSooner_44 : decode prog_5_method_7_code 44 = .ok (.i2l, 1) := by decide +kernel
theorem d_Pla_isSooner_45 : decode prog_5_method_7_code 45 = .ok (.lmul, 1) := by decide +kernel
theorem d_Pla_isSooner_46 : decode prog_5_method_7_code 46 = .ok (.iload_n 3, 1) := by decide +kernel
theorem d_Pla_isSooner_47 : decode prog_5_method_7_code 47 = .ok (.i2l, 1) := by decide +kernel
theorem d_Pla_isSooner_48 : decode prog_5_method_7_code 48 = .ok (.iload 4, 2) := by decide +kernel
theorem d_Pla_isSooner_50 : decode prog_5_method_7_code 50 = .ok (.i2l, 1) := by decide +kernel
theorem d_Pla_isSooner_51 : decode prog_5_method_7_code 51 = .ok (.lmul, 1) := by decide +kernel
theorem d_Pla_isSooner_52 : decode prog_5_method_7_code 52 = .ok (.lcmp, 1) := by decide +kernel
theorem d_Pla_isSooner_53 : decode prog_5_method_7_code 53 = .ok (.ifCond .ge 7, 3) := by decide +kernel
theorem d_Pla_isSooner_56 : decode prog_5_method_7_code 56 = .ok (.iconst 1, 1) := by decide +kernel
theorem d_Pla_isSooner_57 : decode prog_5_method_7_code 57 = .ok (.goto 4, 3) := by decide +kernel
theorem d_Pla_isSooner_60 : decode prog_5_method_7_code 60 = .ok (.iconst 0, 1) := by decide +kernel
theorem d_Pla_isSooner_61 : decode prog_5_method_7_code 61 = .ok (.ireturn, 1) := by decide +kernel
theorem d_Net_isSooner_0 : decode prog_4_method_17_code 0 = .ok (.aload_n 0, 1) := by decide +kernel
theorem d_Net_isSooner_1 : decode prog_4_method_17_code 1 = .ok (.getfield 12, 3) := by decide +kernel
theorem d_Net_isSooner_4 : decode prog_4_method_17_code 4 = .ok (.iload_n 1, 1) := by decide +kernel
theorem d_Net_isSooner_5 : decode prog_4_method_17_code 5 = .ok (.invokevirtual 44, 3) := by decide +kernel
theorem d_Net_isSooner_8 : decode prog_4_method_17_code 8 = .ok (.istore 5, 2) := by decide +kernel
theorem d_Net_isSooner_10 : decode prog_4_method_17_code 10 = .ok (.aload_n 0, 1) := by decide +kernel
theorem d_Net_isSooner_11 : decode prog_4_method_17_code 11 = .ok (.getfield 18, 3) := by decide +kernel
theorem d_Net_isSooner_14 : decode prog_4_method_17_code 14 = .ok (.iload_n 1, 1) := by decide +kernel
theorem d_Net_isSooner_15 : decode prog_4_method_17_code 15 = .ok (.invokevirtual 44, 3) := by decide +kernel
theorem d_Net_isSooner_18 : decode prog_4_method_17_code 18 = .ok (.istore 6, 2) := by decide +kernel
theorem d_Net_isSooner_20 : decode prog_4_method_17_code 20 = .ok (.aload_n 0, 1) := by decide +kernel
theorem d_Net_isSooner_21 : decode prog_4_method_17_code 21 = .ok (.getfield 12, 3) := by decide +kernel
theorem d_Net_isSooner_24 : decode prog_4_method_17_code 24 = .ok (.iload_n 2, 1) := by decide +kernel
theorem d_Net_isSooner_25 : decode prog_4_method_17_code 25 = .ok (.invokevirtual 44, 3) := by decide +kernel
theorem d_Net_isSooner_28 : decode prog_4_method_17_code 28 = .ok (.iload 5, 2) := by decide +kernel
theorem d_Net_isSooner_30 : decode prog_4_method_17_code 30 = .ok (.isub, 1) := by decide +kernel
theorem d_Net_isSooner_31 : decode prog_4_method_17_code 31 = .ok (.aload_n 0, 1) := by decide +kernel
theorem d_Net_isSooner_32 : decode prog_4_method_17_code 32 = .ok (.getfield 18, 3) := by decide +kernel
theorem d_Net_isSooner_35 : decode prog_4_method_17_code 35 = .ok (.iload_n 2, 1) := by decide +kernel
theorem d_Net_isSooner_36 : decode prog_4_method_17_code 36 = .ok (.invokevirtual 44, 3) := by decide +kernel
theorem d_Net_isSooner_39 : decode prog_4_method_17_code 39 = .ok (.iload 6, 2) := by decide +kernel
theorem d_Net_isSooner_41 : decode prog_4_method_17_code 41 = .ok (.isub, 1) := by decide +kernel
theorem d_Net_isSooner_42 : decode prog_4_method_17_code 42 = .ok (.aload_n 0, 1) := by decide +kernel
theorem d_Net_isSooner_43 : decode prog_4_method_17_code 43 = .ok (.getfield 12, 3) := by decide +kernel
theorem d_Net_isSooner_46 : decode prog_4_method_17_code 46 = .ok (.iload_n 3, 1) := by decide +kernel
theorem d_Net_isSooner_47 : decode prog_4_method_17_code 47 = .ok (.invokevirtual 44, 3) := by decide +kernel
theorem d_Net_isSooner_50 : decode prog_4_method_17_code 50 = .ok (.iload 5, 2) := by decide +kernel
theorem d_Net_isSooner_52 : decode prog_4_method_17_code 52 = .ok (.isub, 1) := by decide +kernel
theorem d_Net_isSooner_53 : decode prog_4_method_17_code 53 = .ok (.aload_n 0, 1) := by decide +kernel
theorem d_Net_isSooner_54 : decode prog_4_method_17_code 54 = .ok (.getfield 18, 3) := by decide +kernel
theorem d_Net_isSooner_57 : decode prog_4_method_17_code 57 = .ok (.iload_n 3, 1) := by decide +kernel
theorem d_Net_isSooner_58 : decode prog_4_method_17_code 58 = .ok (.invokevirtual 44, 3) := by decide +kernel
theorem d_Net_isSooner_61 : decode prog_4_method_17_code 61 = .ok (.iload 6, 2) := by decide +kernel
theorem d_Net_isSooner_63 : decode prog_4_method_17_code 63 = .ok (.isub, 1) := by decide +kernel
theorem d_Net_isSooner_64 : decode prog_4_method_17_code 64 = .ok (.aload_n 0, 1) := by decide +kernel
theorem d_Net_isSooner_65 : decode prog_4_method_17_code 65 = .ok (.getfield 12, 3) := by decide +kernel
theorem d_Net_isSooner_68 : decode prog_4_method_17_code 68 = .ok (.iload 4, 2) := by decide +kernel
theorem d_Net_isSooner_70 : decode prog_4_method_17_code 70 = .ok (.invokevirtual 44, 3) := by decide +kernel
theorem d_Net_isSooner_73 : decode prog_4_method_17_code 73 = .ok (.iload 5, 2) := by decide +kernel
theorem d_Net_isSooner_75 : decode prog_4_method_17_code 75 = .ok (.isub, 1) := by decide +kernel
theorem d_Net_isSooner_76 : decode prog_4_method_17_code 76 = .ok (.aload_n 0, 1) := by decide +kernel
theorem d_Net_isSooner_77 : decode prog_4_method_17_code 77 = .ok (.getfield 18, 3) := by decide +kernel
theorem d_Net_isSooner_80 : decode prog_4_method_17_code 80 = .ok (.iload 4, 2) := by decide +kernel
theorem d_Net_isSooner_82 : decode prog_4_method_17_code 82 = .ok (.invokevirtual 44, 3) := by decide +kernel
theorem d_Net_isSooner_85 : decode prog_4_method_17_code 85 = .ok (.iload 6, 2) := by decide +kernel
theorem d_Net_isSooner_87 : decode prog_4_method_17_code 87 = .ok (.isub, 1) := by decide +kernel
theorem d_Net_isSooner_88 : decode prog_4_method_17_code 88 = .ok (.invokestatic 91, 3) := by decide +kernel
theorem d_Net_isSooner_91 : decode prog_4_method_17_code 91 = .ok (.ireturn, 1) := by decide +kernel
theorem d_Bnd_wayBehind_0 : decode prog_2_method_6_code 0 = .ok (.aload_n 0, 1) := by decide +kernel
theorem d_Bnd_wayBehind_1 : decode prog_2_method_6_code 1 = .ok (.getfield 18, 3) := by decide +kernel
theorem d_Bnd_wayBehind_4 : decode prog_2_method_6_code 4 = .ok (.iload_n 2, 1) := by decide +kernel
theorem d_Bnd_wayBehind_5 : decode prog_2_method_6_code 5 = .ok (.invokevirtual 53, 3) := by decide +kernel
theorem d_Bnd_wayBehind_8 : decode prog_2_method_6_code 8 = .ok (.istore_n 3, 1) := by decide +kernel
theorem d_Bnd_wayBehind_9 : decode prog_2_method_6_code 9 = .ok (.aload_n 0, 1) := by decide +kernel
theorem d_Bnd_wayBehind_10 : decode prog_2_method_6_code 10 = .ok (.getfield 12, 3) := by decide +kernel
theorem d_Bnd_wayBehind_13 : decode prog_2_method_6_code 13 = .ok (.iload_n 2, 1) := by decide +kernel
theorem d_Bnd_wayBehind_14 : decode prog_2_method_6_code 14 = .ok (.invokevirtual 53, 3) := by decide +kernel
theorem d_Bnd_wayBehind_17 : decode prog_2_method_6_code 17 = .ok (.istore 4, 2) := by decide +kernel
theorem d_Bnd_wayBehind_19 : decode prog_2_method_6_code 19 = .ok (.aload_n 0, 1) := by decide +kernel
theorem d_Bnd_wayBehind_20 : decode prog_2_method_6_code 20 = .ok (.getfield 24, 3) := by decide +kernel
theorem d_Bnd_wayBehind_23 : decode prog_2_method_6_code 23 = .ok (.iload_n 3, 1) := by decide +kernel
theorem d_Bnd_wayBehind_24 : decode prog_2_method_6_code 24 = .ok (.invokevirtual 53, 3) := by decide +kernel
theorem d_Bnd_wayBehind_27 : decode prog_2_method_6_code 27 = .ok (.istore 5, 2) := by decide +kernel
theorem d_Bnd_wayBehind_29 : decode prog_2_method_6_code 29 = .ok (.aload_n 0, 1) := by decide +kernel
theorem d_Bnd_wayBehind_30 : decode prog_2_method_6_code 30 = .ok (.getfield 27, 3) := by decide +kernel
theorem d_Bnd_wayBehind_33 : decode prog_2_method_6_code 33 = .ok (.iload 5, 2) := by decide +kernel
theorem d_Bnd_wayBehind_35 : decode prog_2_method_6_code 35 = .ok (.invokevirtual 53, 3) := by decide +kernel
theorem d_Bnd_wayBehind_38 : decode prog_2_method_6_code 38 = .ok (.istore 6, 2) := by decide +kernel
theorem d_Bnd_wayBehind_40 : decode prog_2_method_6_code 40 = .ok (.iconst 0, 1) := by decide +kernel
theorem d_Bnd_wayBehind_41 : decode prog_2_method_6_code 41 = .ok (.istore 7, 2) := by decide +kernel
theorem d_Bnd_wayBehind_43 : decode prog_2_method_6_code 43 = .ok (.iload 7, 2) := by decide +kernel
theorem d_Bnd_wayBehind_45 : decode prog_2_method_6_code 45 = .ok (.aload_n 0, 1) := by decide +kernel
theorem d_Bnd_wayBehind_46 : decode prog_2_method_6_code 46 = .ok (.invokevirtual 61, 3) := by decide +kernel
theorem d_Bnd_wayBehind_49 : decode prog_2_method_6_code 49 = .ok (.if_icmp .ge 58, 3) := by decide +kernel
theorem d_Bnd_wayBehind_52 : decode prog_2_method_6_code 52 = .ok (.iload 6, 2) := by decide +kernel
theorem d_Bnd_wayBehind_54 : decode prog_2_method_6_code 54 = .ok (.iconst (-1), 1) := by decide +kernel
theorem d_Bnd_wayBehind_55 : decode prog_2_method_6_code 55 = .ok (.if_icmp .eq 52, 3) := by decide +kernel
theorem d_Bnd_wayBehind_58 : decode prog_2_method_6_code 58 = .ok (.aload_n 1, 1) := by decide +kernel
theorem d_Bnd_wayBehind_59 : decode prog_2_method_6_code 59 = .ok (.iload_n 3, 1) := by decide +kernel
theorem d_Bnd_wayBehind_60 : decode prog_2_method_6_code 60 = .ok (.iload 4, 2) := by decide +kernel
theorem d_Bnd_wayBehind_62 : decode prog_2_method_6_code 62 = .ok (.aload_n 0, 1) := by decide +kernel
theorem d_Bnd_wayBehind_63 : decode prog_2_method_6_code 63 = .ok (.getfield 18, 3) := by decide +kernel
theorem d_Bnd_wayBehind_66 : decode prog_2_method_6_code 66 = .ok (.iload 6, 2) := by decide +kernel
theorem d_Bnd_wayBehind_68 : decode prog_2_method_6_code 68 = .ok (.invokevirtual 53, 3) := by decide +kernel
theorem d_Bnd_wayBehind_71 : decode prog_2_method_6_code 71 = .ok (.aload_n 0, 1) := by decide +kernel
theorem d_Bnd_wayBehind_72 : decode prog_2_method_6_code 72 = .ok (.getfield 18, 3) := by decide +kernel
theorem d_Bnd_wayBehind_75 : decode prog_2_method_6_code 75 = .ok (.iload 5, 2) := by decide +kernel
theorem d_Bnd_wayBehind_77 : decode prog_2_method_6_code 77 = .ok (.invokevirtual 53, 3) := by decide +kernel
theorem d_Bnd_wayBehind_80 : decode prog_2_method_6_code 80 = .ok (.invokevirtual 84, 3) := by decide +kernel
theorem d_Bnd_wayBehind_83 : decode prog_2_method_6_code 83 = .ok (.ifCond .eq 7, 3) := by decide +kernel
theorem d_Bnd_wayBehind_86 : decode prog_2_method_6_code 86 = .ok (.iload 6, 2) := by decide +kernel
theorem d_Bnd_wayBehind_88 : decode prog_2_method_6_code 88 = .ok (.istore 5, 2) := by decide +kernel
theorem d_Bnd_wayBehind_90 : decode prog_2_method_6_code 90 = .ok (.aload_n 0, 1) := by decide +kernel
theorem d_Bnd_wayBehind_91 : decode prog_2_method_6_code 91 = .ok (.getfield 27, 3) := by decide +kernel
theorem d_Bnd_wayBehind_94 : decode prog_2_method_6_code 94 = .ok (.iload 6, 2) := by decide +kernel
theorem d_Bnd_wayBehind_96 : decode prog_2_method_6_code 96 = .ok (.invokevirtual 53, 3) := by decide +kernel
theorem d_Bnd_wayBehind_99 : decode prog_2_method_6_code 99 = .ok (.istore 6, 2) := by decide +kernel
theorem d_Bnd_wayBehind_101 : decode prog_2_method_6_code 101 = .ok (.iinc 7 1, 3) := by decide +kernel
theorem d_Bnd_wayBehind_104 : decode prog_2_method_6_code 104 = .ok (.goto (-61), 3) := by decide +kernel
theorem d_Bnd_wayBehind_107 : decode prog_2_method_6_code 107 = .ok (.iload 5, 2) := by decide +kernel
theorem d_Bnd_wayBehind_109 : decode prog_2_method_6_code 109 = .ok (.ireturn, 1) := by decide +kernel
theorem d_Pla_isCrossedFrom_0 : decode prog_5_method_6_code 0 = .ok (.ldc2_w 26, 3) := by decide +kernel
theorem d_Pla_isCrossedFrom_3 : decode prog_5_method_6_code 3 = .ok (.iload 5, 2) := by decide +kernel
theorem d_Pla_isCrossedFrom_5 : decode prog_5_method_6_code 5 = .ok (.i2l, 1) := by decide +kernel
theorem d_Pla_isCrossedFrom_6 : decode prog_5_method_6_code 6 = .ok (.lmul, 1) := by decide +kernel
theorem d_Pla_isCrossedFrom_7 : decode prog_5_method_6_code 7 = .ok (.lload_n 2, 1) := by decide +kernel
theorem d_Pla_isCrossedFrom_8 : decode prog_5_method_6_code 8 = .ok (.lcmp, 1) := by decide +kernel
theorem d_Pla_isCrossedFrom_9 : decode prog_5_method_6_code 9 = .ok (.ifCond .le 7, 3) := by decide +kernel
theorem d_Pla_isCrossedFrom_12 : decode prog_5_method_6_code 12 = .ok (.iconst 1, 1) := by decide +kernel
theorem d_Pla_isCrossedFrom_13 : decode prog_5_method_6_code 13 = .ok (.goto 4, 3) := by decide +kernel
theorem d_Pla_isCrossedFrom_16 : decode prog_5_method_6_code 16 = .ok (.iconst 0, 1) := by decide +kernel
theorem d_Pla_isCrossedFrom_17 : decode prog_5_method_6_code 17 = .ok (.istore 8, 2) := by decide +kernel
theorem d_Pla_isCrossedFrom_19 : decode prog_5_method_6_code 19 = .ok (.ldc2_w 26, 3) := by decide +kernel
theorem d_Pla_isCrossedFrom_22 : decode prog_5_method_6_code 22 = .ok (.iload 7, 2) := by decide +kernel
theorem d_Pla_isCrossedFrom_24 : decode prog_5_method_6_code 24 = .ok (.i2l, 1) := by decide +kernel
theorem d_Pla_isCrossedFrom_25 : decode prog_5_method_6_code 25 = .ok (.lmul, 1) := by decide +kernel
theorem d_Pla_isCrossedFrom_26 : decode prog_5_method_6_code 26 = .ok (.lload_n 2, 1) := by decide +kernel
theorem d_Pla_isCrossedFrom_27 : decode prog_5_method_6_code 27 = .ok (.lcmp, 1) := by decide +kernel
theorem d_Pla_isCrossedFrom_28 : decode prog_5_method_6_code 28 = .ok (.ifCond .le 7, 3) := by decide +kernel
theorem d_Pla_isCrossedFrom_31 : decode prog_5_method_6_code 31 = .ok (.iconst 1, 1) := by decide +kernel
theorem d_Pla_isCrossedFrom_32 : decode prog_5_method_6_code 32 = .ok (.goto 4, 3) := by decide +kernel
theorem d_Pla_isCrossedFrom_35 : decode prog_5_method_6_code 35 = .ok (.iconst 0, 1) := by decide +kernel
theorem d_Pla_isCrossedFrom_36 : decode prog_5_method_6_code 36 = .ok (.istore 9, 2) := by decide +kernel
theorem d_Pla_isCrossedFrom_38 : decode prog_5_method_6_code 38 = .ok (.iload 8, 2) := by decide +kernel
theorem d_Pla_isCrossedFrom_40 : decode prog_5_method_6_code 40 = .ok (.iload 9, 2) := by decide +kernel
theorem d_Pla_isCrossedFrom_42 : decode prog_5_method_6_code 42 = .ok (.if_icmp .ne 5, 3) := by decide +kernel
theorem d_Pla_isCrossedFrom_45 : decode prog_5_method_6_code 45 = .ok (.iconst 0, 1) := by decide +kernel
theorem d_Pla_isCrossedFrom_46 : decode prog_5_method_6_code 46 = .ok (.ireturn, 1) := by decide +kernel
theorem d_Pla_isCrossedFrom_47 : decode prog_5_method_6_code 47 = .ok (.iload 6, 2) := by decide +kernel
theorem d_Pla_isCrossedFrom_49 : decode prog_5_method_6_code 49 = .ok (.i2l, 1) := by decide +kernel
theorem d_Pla_isCrossedFrom_50 : decode prog_5_method_6_code 50 = .ok (.iload 4, 2) := by decide +kernel
theorem d_Pla_isCrossedFrom_52 : decode prog_5_method_6_code 52 = .ok (.i2l, 1) := by decide +kernel
theorem d_Pla_isCrossedFrom_53 : decode prog_5_method_6_code 53 = .ok (.lsub, 1) := by decide +kernel
theorem d_Pla_isCrossedFrom_54 : decode prog_5_method_6_code 54 = .ok (.lload_n 2, 1) := by decide +kernel
theorem d_Pla_isCrossedFrom_55 : decode prog_5_method_6_code 55 = .ok (.ldc2_w 26, 3) := by decide +kernel
theorem d_Pla_isCrossedFrom_58 : decode prog_5_method_6_code 58 = .ok (.iload 5, 2) := by decide +kernel
theorem d_Pla_isCrossedFrom_60 : decode prog_5_method_6_code 60 = .ok (.i2l, 1) := by decide +kernel
theorem d_Pla_isCrossedFrom_61 : decode prog_5_method_6_code 61 = .ok (.lmul, 1) := by decide +kernel
theorem d_Pla_isCrossedFrom_62 : decode prog_5_method_6_code 62 = .ok (.lsub, 1) := by decide +kernel
theorem d_Pla_isCrossedFrom_63 : decode prog_5_method_6_code 63 = .ok (.lmul, 1) := by decide +kernel
theorem d_Pla_isCrossedFrom_64 : decode prog_5_method_6_code 64 = .ok (.lstore 10, 2) := by decide +kernel
theorem d_Pla_isCrossedFrom_66 : decode prog_5_method_6_code 66 = .ok (.iload 7, 2) := by decide +kernel
theorem d_Pla_isCrossedFrom_68 : decode prog_5_method_6_code 68 = .ok (.i2l, 1) := by decide +kernel
theorem d_Pla_isCrossedFrom_69 : decode prog_5_method_6_code 69 = .ok (.iload 5, 2) := by decide +kernel
theorem d_Pla_isCrossedFrom_71 : decode prog_5_method_6_code 71 = .ok (.i2l, 1) := by decide +kernel
theorem d_Pla_isCrossedFrom_72 : decode prog_5_method_6_code 72 = .ok (.lsub, 1) := by decide +kernel
theorem d_Pla_isCrossedFrom_73 : decode prog_5_method_6_code 73 = .ok (.lload_n 0, 1) := by decide +kernel
theorem d_Pla_isCrossedFrom_74 : decode prog_5_method_6_code 74 = .ok (.ldc2_w 26, 3) := by decide +kernel
theorem d_Pla_isCrossedFrom_77 : decode prog_5_method_6_code 77 = .ok (.iload 4, 2) := by decide +kernel
theorem d_Pla_isCrossedFrom_79 : decode prog_5_method_6_code 79 = .ok (.i2l, 1) := by decide +kernel
theorem d_Pla_isCrossedFrom_80 : decode prog_5_method_6_code 80 = .ok (.lmul, 1) := by decide +kernel
theorem d_Pla_isCrossedFrom_81 : decode prog_5_method_6_code 81 = .ok (.lsub, 1) := by decide +kernel
theorem d_Pla_isCrossedFrom_82 : decode prog_5_method_6_code 82 = .ok (.lmul, 1) := by decide +kernel
theorem d_Pla_isCrossedFrom_83 : decode prog_5_method_6_code 83 = .ok (.lstore 12, 2) := by decide +kernel
theorem d_Pla_isCrossedFrom_85 : decode prog_5_method_6_code 85 = .ok (.iload 9, 2) := by decide +kernel
theorem d_Pla_isCrossedFrom_87 : decode prog_5_method_6_code 87 = .ok (.ifCond .eq 19, 3) := by decide +kernel
theorem d_Pla_isCrossedFrom_90 : decode prog_5_method_6_code 90 = .ok (.lload 10, 2) := by decide +kernel
theorem d_Pla_isCrossedFrom_92 : decode prog_5_method_6_code 92 = .ok (.lload 12, 2) := by decide +kernel
theorem d_Pla_isCrossedFrom_94 : decode prog_5_method_6_code 94 = .ok (.lcmp, 1) := by decide +kernel
theorem d_Pla_isCrossedFrom_95 : decode prog_5_method_6_code 95 = .ok (.ifCond .le 7, 3) := by decide +kernel
theorem d_Pla_isCrossedFrom_98 : decode prog_5_method_6_code 98 = .ok (.iconst 1, 1) := by decide +kernel
theorem d_Pla_isCrossedFrom_99 : decode prog_5_method_6_code 99 = .ok (.goto 20, 3) := by decide +kernel
theorem d_Pla_isCrossedFrom_102 : decode prog_5_method_6_code 102 = .ok (.iconst 0, 1) := by decide +kernel
theorem d_Pla_isCrossedFrom_103 : decode prog_5_method_6_code 103 = .ok (.goto 16, 3) := by decide +kernel
theorem d_Pla_isCrossedFrom_106 : decode prog_5_method_6_code 106 = .ok (.lload 10, 2) := by decide +kernel
theorem d_Pla_isCrossedFrom_108 : decode prog_5_method_6_code 108 = .ok (.lload 12, 2) := by decide +kernel
theorem d_Pla_isCrossedFrom_110 : decode prog_5_method_6_code 110 = .ok (.lcmp, 1) := by decide +kernel
theorem d_Pla_isCrossedFrom_111 : decode prog_5_method_6_code 111 = .ok (.ifCond .ge 7, 3) := by decide +kernel
theorem d_Pla_isCrossedFrom_114 : decode prog_5_method_6_code 114 = .ok (.iconst 1, 1) := by decide +kernel
theorem d_Pla_isCrossedFrom_115 : decode prog_5_method_6_code 115 = .ok (.goto 4, 3) := by decide +kernel
theorem d_Pla_isCrossedFrom_118 : decode prog_5_method_6_code 118 = .ok (.iconst 0, 1) := by decide +kernel
theorem d_Pla_isCrossedFrom_119 : decode prog_5_method_6_code 119 = .ok (.ireturn, 1) := by decide +kernel
theorem d_Net_isCrossedFrom_0 : decode prog_4_method_14_code 0 = .ok (.aload_n 0, 1) := by decide +kernel
theorem d_Net_isCrossedFrom_1 : decode prog_4_method_14_code 1 = .ok (.getfield 24, 3) := by decide +kernel
theorem d_Net_isCrossedFrom_4 : decode prog_4_method_14_code 4 = .ok (.iload 5, 2) := by decide +kernel
theorem d_Net_isCrossedFrom_6 : decode prog_4_method_14_code 6 = .ok (.invokevirtual 44, 3) := by decide +kernel
theorem d_Net_isCrossedFrom_9 : decode prog_4_method_14_code 9 = .ok (.istore 6, 2) := by decide +kernel
theorem d_Net_isCrossedFrom_11 : decode prog_4_method_14_code 11 = .ok (.aload_n 0, 1) := by decide +kernel
theorem d_Net_isCrossedFrom_12 : decode prog_4_method_14_code 12 = .ok (.getfield 27, 3) := by decide +kernel
theorem d_Net_isCrossedFrom_15 : decode prog_4_method_14_code 15 = .ok (.iload 5, 2) := by decide +kernel
theorem d_Net_isCrossedFrom_17 : decode prog_4_method_14_code 17 = .ok (.invokevirtual 44, 3) := by decide +kernel
theorem d_Net_isCrossedFrom_20 : decode prog_4_method_14_code 20 = .ok (.istore 7, 2) := by decide +kernel
theorem d_Net_isCrossedFrom_22 : decode prog_4_method_14_code 22 = .ok (.lload_n 1, 1) := by decide +kernel
theorem d_Net_isCrossedFrom_23 : decode prog_4_method_14_code 23 = .ok (.lload_n 3, 1) := by decide +kernel
theorem d_Net_isCrossedFrom_24 : decode prog_4_method_14_code 24 = .ok (.aload_n 0, 1) := by decide +kernel
theorem d_Net_isCrossedFrom_25 : decode prog_4_method_14_code 25 = .ok (.getfield 12, 3) := by decide +kernel
theorem d_Net_isCrossedFrom_28 : decode prog_4_method_14_code 28 = .ok (.iload 6, 2) := by decide +kernel
theorem d_Net_isCrossedFrom_30 : decode prog_4_method_14_code 30 = .ok (.invokevirtual 44, 3) := by decide +kernel
theorem d_Net_isCrossedFrom_33 : decode prog_4_method_14_code 33 = .ok (.aload_n 0, 1) := by decide +kernel
theorem d_Net_isCrossedFrom_34 : decode prog_4_method_14_code 34 = .ok (.getfield 18, 3) := by decide +kernel
theorem d_Net_isCrossedFrom_37 : decode prog_4_method_14_code 37 = .ok (.iload 6, 2) := by decide +kernel
theorem d_Net_isCrossedFrom_39 : decode prog_4_method_14_code 39 = .ok (.invokevirtual 44, 3) := by decide +kernel
theorem d_Net_isCrossedFrom_42 : decode prog_4_method_14_code 42 = .ok (.aload_n 0, 1) := by decide +kernel
theorem d_Net_isCrossedFrom_43 : decode prog_4_method_14_code 43 = .ok (.getfield 12, 3) := by decide +kernel
theorem d_Net_isCrossedFrom_46 : decode prog_4_method_14_code 46 = .ok (.iload 7, 2) := by decide +kernel
theorem d_Net_isCrossedFrom_48 : decode prog_4_method_14_code 48 = .ok (.invokevirtual 44, 3) := by decide +kernel
theorem d_Net_isCrossedFrom_51 : decode prog_4_method_14_code 51 = .ok (.aload_n 0, 1) := by decide +kernel
theorem d_Net_isCrossedFrom_52 : decode prog_4_method_14_code 52 = .ok (.getfield 18, 3) := by decide +kernel
theorem d_Net_isCrossedFrom_55 : decode prog_4_method_14_code 55 = .ok (.iload 7, 2) := by decide +kernel
theorem d_Net_isCrossedFrom_57 : decode prog_4_method_14_code 57 = .ok (.invokevirtual 44, 3) := by decide +kernel
theorem d_Net_isCrossedFrom_60 : decode prog_4_method_14_code 60 = .ok (.invokestatic 88, 3) := by decide +kernel
theorem d_Net_isCrossedFrom_63 : decode prog_4_method_14_code 63 = .ok (.ireturn, 1) := by decide +kernel
theorem d_Net_insideLeftOf_0 : decode prog_4_method_13_code 0 = .ok (.aload_n 0, 1) := by decide +kernel
theorem d_Net_insideLeftOf_1 : decode prog_4_method_13_code 1 = .ok (.getfield 24, 3) := by decide +kernel
theorem d_Net_insideLeftOf_4 : decode prog_4_method_13_code 4 = .ok (.iload_n 1, 1) := by decide +kernel
theorem d_Net_insideLeftOf_5 : decode prog_4_method_13_code 5 = .ok (.invokevirtual 44, 3) := by decide +kernel
theorem d_Net_insideLeftOf_8 : decode prog_4_method_13_code 8 = .ok (.istore_n 2, 1) := by decide +kernel
theorem d_Net_insideLeftOf_9 : decode prog_4_method_13_code 9 = .ok (.aload_n 0, 1) := by decide +kernel
theorem d_Net_insideLeftOf_10 : decode prog_4_method_13_code 10 = .ok (.getfield 27, 3) := by decide +kernel
theorem d_Net_insideLeftOf_13 : decode prog_4_method_13_code 13 = .ok (.iload_n 1, 1) := by decide +kernel
theorem d_Net_insideLeftOf_14 : decode prog_4_method_13_code 14 = .ok (.invokevirtual 44, 3) := by decide +kernel
theorem d_Net_insideLeftOf_17 : decode prog_4_method_13_code 17 = .ok (.istore_n 3, 1) := by decide +kernel
theorem d_Net_insideLeftOf_18 : decode prog_4_method_13_code 18 = .ok (.aload_n 0, 1) := by decide +kernel
theorem d_Net_insideLeftOf_19 : decode prog_4_method_13_code 19 = .ok (.getfield 12, 3) := by decide +kernel
theorem d_Net_insideLeftOf_22 : decode prog_4_method_13_code 22 = .ok (.iload_n 2, 1) := by decide +kernel
theorem d_Net_insideLeftOf_23 : decode prog_4_method_13_code 23 = .ok (.invokevirtual 44, 3) := by decide +kernel
theorem d_Net_insideLeftOf_26 : decode prog_4_method_13_code 26 = .ok (.i2l, 1) := by decide +kernel
theorem d_Net_insideLeftOf_27 : decode prog_4_method_13_code 27 = .ok (.aload_n 0, 1) := by decide +kernel
theorem d_Net_insideLeftOf_28 : decode prog_4_method_13_code 28 = .ok (.getfield 12, 3) := by decide +kernel
theorem d_Net_insideLeftOf_31 : decode prog_4_method_13_code 31 = .ok (.iload_n 3, 1) := by decide +kernel
theorem d_Net_insideLeftOf_32 : decode prog_4_method_13_code 32 = .ok (.invokevirtual 44, 3) := by decide +kernel
theorem d_Net_insideLeftOf_35 : decode prog_4_method_13_code 35 = .ok (.i2l, 1) := by decide +kernel
theorem d_Net_insideLeftOf_36 : decode prog_4_method_13_code 36 = .ok (.ladd, 1) := by decide +kernel
theorem d_Net_insideLeftOf_37 : decode prog_4_method_13_code 37 = .ok (.lstore 4, 2) := by decide +kernel
theorem d_Net_insideLeftOf_39 : decode prog_4_method_13_code 39 = .ok (.aload_n 0, 1) := by decide +kernel
theorem d_Net_insideLeftOf_40 : decode prog_4_method_13_code 40 = .ok (.getfield 18, 3) := by decide +kernel
theorem d_Net_insideLeftOf_43 : decode prog_4_method_13_code 43 = .ok (.iload_n 2, 1) := by decide +kernel
theorem d_Net_insideLeftOf_44 : decode prog_4_method_13_code 44 = .ok (.invokevirtual 44, 3) := by decide +kernel
theorem d_Net_insideLeftOf_47 : decode prog_4_method_13_code 47 = .ok (.i2l, 1) := by decide +kernel
theorem d_Net_insideLeftOf_48 : decode prog_4_method_13_code 48 = .ok (.aload_n 0, 1) := by decide +kernel
theorem d_Net_insideLeftOf_49 : decode prog_4_method_13_code 49 = .ok (.getfield 18, 3) := by decide +kernel
theorem d_Net_insideLeftOf_52 : decode prog_4_method_13_code 52 = .ok (.iload_n 3, 1) := by decide +kernel
theorem d_Net_insideLeftOf_53 : decode prog_4_method_13_code 53 = .ok (.invokevirtual 44, 3) := by decide +kernel
theorem d_Net_insideLeftOf_56 : decode prog_4_method_13_code 56 = .ok (.i2l, 1) := by decide +kernel
theorem d_Net_insideLeftOf_57 : decode prog_4_method_13_code 57 = .ok (.ladd, 1) := by decide +kernel
theorem d_Net_insideLeftOf_58 : decode prog_4_method_13_code 58 = .ok (.lstore 6, 2) := by decide +kernel
theorem d_Net_insideLeftOf_60 : decode prog_4_method_13_code 60 = .ok (.iconst 0, 1) := by decide +kernel
theorem d_Net_insideLeftOf_61 : decode prog_4_method_13_code 61 = .ok (.istore 8, 2) := by decide +kernel
theorem d_Net_insideLeftOf_63 : decode prog_4_method_13_code 63 = .ok (.iconst 0, 1) := by decide +kernel
theorem d_Net_insideLeftOf_64 : decode prog_4_method_13_code 64 = .ok (.istore 9, 2) := by decide +kernel
theorem d_Net_insideLeftOf_66 : decode prog_4_method_13_code 66 = .ok (.iload 9, 2) := by decide +kernel
theorem d_Net_insideLeftOf_68 : decode prog_4_method_13_code 68 = .ok (.aload_n 0, 1) := by decide +kernel
theorem d_Net_insideLeftOf_69 : decode prog_4_method_13_code 69 = .ok (.invokevirtual 52, 3) := by decide +kernel
theorem d_Net_insideLeftOf_72 : decode prog_4_method_13_code 72 = .ok (.if_icmp .ge 42, 3) := by decide +kernel
theorem d_Net_insideLeftOf_75 : decode prog_4_method_13_code 75 = .ok (.iload 9, 2) := by decide +kernel
theorem d_Net_insideLeftOf_77 : decode prog_4_method_13_code 77 = .ok (.iload_n 1, 1) := by decide +kernel
theorem d_Net_insideLeftOf_78 : decode prog_4_method_13_code 78 = .ok (.if_icmp .eq 30, 3) := by decide +kernel
theorem d_Net_insideLeftOf_81 : decode prog_4_method_13_code 81 = .ok (.aload_n 0, 1) := by decide +kernel
theorem d_Net_insideLeftOf_82 : decode prog_4_method_13_code 82 = .ok (.lload 4, 2) := by decide +kernel
theorem d_Net_insideLeftOf_84 : decode prog_4_method_13_code 84 = .ok (.lload 6, 2) := by decide +kernel
theorem d_Net_insideLeftOf_86 : decode prog_4_method_13_code 86 = .ok (.iload 9, 2) := by decide +kernel
theorem d_Net_insideLeftOf_88 : decode prog_4_method_13_code 88 = .ok (.invokevirtual 84, 3) := by decide +kernel
theorem d_Net_insideLeftOf_91 : decode prog_4_method_13_code 91 = .ok (.ifCond .eq 17, 3) := by decide +kernel
theorem d_Net_insideLeftOf_94 : decode prog_4_method_13_code 94 = .ok (.iload 8, 2) := by decide +kernel
theorem d_Net_insideLeftOf_96 : decode prog_4_method_13_code 96 = .ok (.aload_n 0, 1) := by decide +kernel
theorem d_Net_insideLeftOf_97 : decode prog_4_method_13_code 97 = .ok (.getfield 30, 3) := by decide +kernel
theorem d_Net_insideLeftOf_100 : decode prog_4_method_13_code 100 = .ok (.iload 9, 2) := by decide +kernel
theorem d_Net_insideLeftOf_102 : decode prog_4_method_13_code 102 = .ok (.invokevirtual 44, 3) := by decide +kernel
theorem d_Net_insideLeftOf_105 : decode prog_4_method_13_code 105 = .ok (.ixor, 1) := by decide +kernel
theorem d_Net_insideLeftOf_106 : decode prog_4_method_13_code 106 = .ok (.istore 8, 2) := by decide +kernel
theorem d_Net_insideLeftOf_108 : decode prog_4_method_13_code 108 = .ok (.iinc 9 1, 3) := by decide +kernel
theorem d_Net_insideLeftOf_111 : decode prog_4_method_13_code 111 = .ok (.goto (-45), 3) := by decide +kernel
theorem d_Net_insideLeftOf_114 : decode prog_4_method_13_code 114 = .ok (.aload_n 0, 1) := by decide +kernel
theorem d_Net_insideLeftOf_115 : decode prog_4_method_13_code 115 = .ok (.getfield 18, 3) := by decide +kernel
theorem d_Net_insideLeftOf_118 : decode prog_4_method_13_code 118 = .ok (.iload_n 3, 1) := by decide +kernel
theorem d_Net_insideLeftOf_119 : decode prog_4_method_13_code 119 = .ok (.invokevirtual 44, 3) := by decide +kernel
theorem d_Net_insideLeftOf_122 : decode prog_4_method_13_code 122 = .ok (.aload_n 0, 1) := by decide +kernel
theorem d_Net_insideLeftOf_123 : decode prog_4_method_13_code 123 = .ok (.getfield 18, 3) := by decide +kernel
theorem d_Net_insideLeftOf_126 : decode prog_4_method_13_code 126 = .ok (.iload_n 2, 1) := by decide +kernel
theorem d_Net_insideLeftOf_127 : decode prog_4_method_13_code 127 = .ok (.invokevirtual 44, 3) := by decide +kernel
theorem d_Net_insideLeftOf_130 : decode prog_4_method_13_code 130 = .ok (.if_icmp .le 7, 3) := by decide +kernel
theorem d_Net_insideLeftOf_133 : decode prog_4_method_13_code 133 = .ok (.iconst 1, 1) := by decide +kernel
theorem d_Net_insideLeftOf_134 : decode prog_4_method_13_code 134 = .ok (.goto 4, 3) := by decide +kernel
theorem d_Net_insideLeftOf_137 : decode prog_4_method_13_code 137 = .ok (.iconst 0, 1) := by decide +kernel
theorem d_Net_insideLeftOf_138 : decode prog_4_method_13_code 138 = .ok (.istore 9, 2) := by decide +kernel
theorem d_Net_insideLeftOf_140 : decode prog_4_method_13_code 140 = .ok (.iload 9, 2) := by decide +kernel
theorem d_Net_insideLeftOf_142 : decode prog_4_method_13_code 142 = .ok (.ifCond .eq 17, 3) := by decide +kernel
theorem d_Net_insideLeftOf_145 : decode prog_4_method_13_code 145 = .ok (.iload 8, 2) := by decide +kernel
theorem d_Net_insideLeftOf_147 : decode prog_4_method_13_code 147 = .ok (.aload_n 0, 1) := by decide +kernel
theorem d_Net_insideLeftOf_148 : decode prog_4_method_13_code 148 = .ok (.getfield 30, 3) := by decide +kernel
theorem d_Net_insideLeftOf_151 : decode prog_4_method_13_code 151 = .ok (.iload_n 1, 1) := by decide +kernel
theorem d_Net_insideLeftOf_152 : decode prog_4_method_13_code 152 = .ok (.invokevirtual 44, 3) := by decide +kernel
theorem d_Net_insideLeftOf_155 : decode prog_4_method_13_code 155 = .ok (.ixor, 1) := by decide +kernel
theorem d_Net_insideLeftOf_156 : decode prog_4_method_13_code 156 = .ok (.goto 5, 3) := by decide +kernel
theorem d_Net_insideLeftOf_159 : decode prog_4_method_13_code 159 = .ok (.iload 8, 2) := by decide +kernel
theorem d_Net_insideLeftOf_161 : decode prog_4_method_13_code 161 = .ok (.ireturn, 1) := by decide +kernel
theorem d_Bnd_isInResult_0 : decode prog_2_method_7_code 0 = .ok (.iload_n 0, 1) := by decide +kernel
set_option maxRecDepth 20000 in
theorem d_Bnd_isInResult_1 : decode prog_2_method_7_code 1 = .ok (.tableswitch 79 0 3 #[31, 42, 52, 63], 31) := by decide +kernel
theorem d_Bnd_isInResult_32 : decode prog_2_method_7_code 32 = .ok (.iload_n 1, 1) := by decide +kernel
theorem d_Bnd_isInResult_33 : decode prog_2_method_7_code 33 = .ok (.iconst 3, 1) := by decide +kernel
theorem d_Bnd_isInResult_34 : decode prog_2_method_7_code 34 = .ok (.if_icmp .ne 7, 3) := by decide +kernel
theorem d_Bnd_isInResult_37 : decode prog_2_method_7_code 37 = .ok (.iconst 1, 1) := by decide +kernel
theorem d_Bnd_isInResult_38 : decode prog_2_method_7_code 38 = .ok (.goto 4, 3) := by decide +kernel
theorem d_Bnd_isInResult_41 : decode prog_2_method_7_code 41 = .ok (.iconst 0, 1) := by decide +kernel
theorem d_Bnd_isInResult_42 : decode prog_2_method_7_code 42 = .ok (.ireturn, 1) := by decide +kernel
theorem d_Bnd_isInResult_43 : decode prog_2_method_7_code 43 = .ok (.iload_n 1, 1) := by decide +kernel
theorem d_Bnd_isInResult_44 : decode prog_2_method_7_code 44 = .ok (.ifCond .eq 7, 3) := by decide +kernel
theorem d_Bnd_isInResult_47 : decode prog_2_method_7_code 47 = .ok (.iconst 1, 1) := by decide +kernel
theorem d_Bnd_isInResult_48 : decode prog_2_method_7_code 48 = .ok (.goto 4, 3) := by decide +kernel
theorem d_Bnd_isInResult_51 : decode prog_2_method_7_code 51 = .ok (.iconst 0, 1) := by decide +kernel
theorem d_Bnd_isInResult_52 : decode prog_2_method_7_code 52 = .ok (.ireturn, 1) := by decide +kernel
theorem d_Bnd_isInResult_53 : decode prog_2_method_7_code 53 = .ok (.iload_n 1, 1) := by decide +kernel
theorem d_Bnd_isInResult_54 : decode prog_2_method_7_code 54 = .ok (.iconst 1, 1) := by decide +kernel
theorem d_Bnd_isInResult_55 : decode prog_2_method_7_code 55 = .ok (.if_icmp .ne 7, 3) := by decide +kernel
theorem d_Bnd_isInResult_58 : decode prog_2_method_7_code 58 = .ok (.iconst 1, 1) := by decide +kernel
theorem d_Bnd_isInResult_59 : decode prog_2_method_7_code 59 = .ok (.goto 4, 3) := by decide +kernel
theorem d_Bnd_isInResult_62 : decode prog_2_method_7_code 62 = .ok (.iconst 0, 1) := by decide +kernel
theorem d_Bnd_isInResult_63 : decode prog_2_method_7_code 63 = .ok (.ireturn, 1) := by decide +kernel
theorem d_Bnd_isInResult_64 : decode prog_2_method_7_code 64 = .ok (.iload_n 1, 1) := by decide +kernel
theorem d_Bnd_isInResult_65 : decode prog_2_method_7_code 65 = .ok (.iconst 1, 1) := by decide +kernel
theorem d_Bnd_isInResult_66 : decode prog_2_method_7_code 66 = .ok (.if_icmp .eq 8, 3) := by decide +kernel
theorem d_Bnd_isInResult_69 : decode prog_2_method_7_code 69 = .ok (.iload_n 1, 1) := by decide +kernel
theorem d_Bnd_isInResult_70 : decode prog_2_method_7_code 70 = .ok (.iconst 2, 1) := by decide +kernel
theorem d_Bnd_isInResult_71 : decode prog_2_method_7_code 71 = .ok (.if_icmp .ne 7, 3) := by decide +kernel
theorem d_Bnd_isInResult_74 : decode prog_2_method_7_code 74 = .ok (.iconst 1, 1) := by decide +kernel
theorem d_Bnd_isInResult_75 : decode prog_2_method_7_code 75 = .ok (.goto 4, 3) := by decide +kernel
theorem d_Bnd_isInResult_78 : decode prog_2_method_7_code 78 = .ok (.iconst 0, 1) := by decide +kernel
theorem d_Bnd_isInResult_79 : decode prog_2_method_7_code 79 = .ok (.ireturn, 1) := by decide +kernel
theorem d_Bnd_isInResult_80 : decode prog_2_method_7_code 80 = .ok (.iload_n 1, 1) := by decide +kernel
theorem d_Bnd_isInResult_81 : decode prog_2_method_7_code 81 = .ok (.iconst 2, 1) := by decide +kernel
theorem d_Bnd_isInResult_82 : decode prog_2_method_7_code 82 = .ok (.if_icmp .ne 7, 3) := by decide +kernel
theorem d_Bnd_isInResult_85 : decode prog_2_method_7_code 85 = .ok (.iconst 1, 1) := by decide +kernel
theorem d_Bnd_isInResult_86 : decode prog_2_method_7_code 86 = .ok (.goto 4, 3) := by decide +kernel
theorem d_Bnd_isInResult_89 : decode prog_2_method_7_code 89 = .ok (.iconst 0, 1) := by decide +kernel
theorem d_Bnd_isInResult_90 : decode prog_2_method_7_code 90 = .ok (.ireturn, 1) := by decide +kernel
theorem d_Row_set_0 : decode prog_7_method_6_code 0 = .ok (.iload_n 1, 1) := by decide +kernel
theorem d_Row_set_1 : decode prog_7_method_6_code 1 = .ok (.ifCond .lt 18, 3) := by decide +kernel
theorem d_Row_set_4 : decode prog_7_method_6_code 4 = .ok (.iload_n 1, 1) := by decide +kernel
theorem d_Row_set_5 : decode prog_7_method_6_code 5 = .ok (.aload_n 0, 1) := by decide +kernel
theorem d_Row_set_6 : decode prog_7_method_6_code 6 = .ok (.getfield 15, 3) := by decide +kernel
theorem d_Row_set_9 : decode prog_7_method_6_code 9 = .ok (.if_icmp .ge 10, 3) := by decide +kernel
theorem d_Row_set_12 : decode prog_7_method_6_code 12 = .ok (.aload_n 0, 1) := by decide +kernel
theorem d_Row_set_13 : decode prog_7_method_6_code 13 = .ok (.getfield 9, 3) := by decide +kernel
theorem d_Row_set_16 : decode prog_7_method_6_code 16 = .ok (.iload_n 1, 1) := by decide +kernel
theorem d_Row_set_17 : decode prog_7_method_6_code 17 = .ok (.iload_n 2, 1) := by decide +kernel
theorem d_Row_set_18 : decode prog_7_method_6_code 18 = .ok (.iastore, 1) := by decide +kernel
theorem d_Row_set_19 : decode prog_7_method_6_code 19 = .ok (.return_, 1) := by decide +kernel
theorem d_Bnd_addWay_0 : decode prog_2_method_5_code 0 = .ok (.aload_n 0, 1) := by decide +kernel
theorem d_Bnd_addWay_1 : decode prog_2_method_5_code 1 = .ok (.getfield 12, 3) := by decide +kernel
theorem d_Bnd_addWay_4 : decode prog_2_method_5_code 4 = .ok (.iload_n 1, 1) := by decide +kernel
theorem d_Bnd_addWay_5 : decode prog_2_method_5_code 5 = .ok (.invokevirtual 43, 3) := by decide +kernel
theorem d_Bnd_addWay_8 : decode prog_2_method_5_code 8 = .ok (.aload_n 0, 1) := by decide +kernel
theorem d_Bnd_addWay_9 : decode prog_2_method_5_code 9 = .ok (.getfield 18, 3) := by decide +kernel
theorem d_Bnd_addWay_12 : decode prog_2_method_5_code 12 = .ok (.iload_n 2, 1) := by decide +kernel
theorem d_Bnd_addWay_13 : decode prog_2_method_5_code 13 = .ok (.invokevirtual 43, 3) := by decide +kernel
theorem d_Bnd_addWay_16 : decode prog_2_method_5_code 16 = .ok (.aload_n 0, 1) := by decide +kernel
theorem d_Bnd_addWay_17 : decode prog_2_method_5_code 17 = .ok (.getfield 27, 3) := by decide +kernel
theorem d_Bnd_addWay_20 : decode prog_2_method_5_code 20 = .ok (.aload_n 0, 1) := by decide +kernel
theorem d_Bnd_addWay_21 : decode prog_2_method_5_code 21 = .ok (.getfield 24, 3) := by decide +kernel
theorem d_Bnd_addWay_24 : decode prog_2_method_5_code 24 = .ok (.iload_n 1, 1) := by decide +kernel
theorem d_Bnd_addWay_25 : decode prog_2_method_5_code 25 = .ok (.invokevirtual 53, 3) := by decide +kernel
theorem d_Bnd_addWay_28 : decode prog_2_method_5_code 28 = .ok (.invokevirtual 43, 3) := by decide +kernel
theorem d_Bnd_addWay_31 : decode prog_2_method_5_code 31 = .ok (.aload_n 0, 1) := by decide +kernel
theorem d_Bnd_addWay_32 : decode prog_2_method_5_code 32 = .ok (.getfield 24, 3) := by decide +kernel
