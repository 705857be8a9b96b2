theorem d_Net_pieceBetween_83 : decode prog_4_method_6_code 83 = .ok (.if_icmp .ne 13, 3) := by decide +kernel
theorem d_Net_pieceBetween_86 : decode prog_4_method_6_code 86 = .ok (.iload 9, 2) := by decide +kernel
theorem d_Net_pieceBetween_88 : decode prog_4_method_6_code 88 = .ok (.iload 5, 2) := by decide +kernel
theorem d_Net_pieceBetween_90 : decode prog_4_method_6_code 90 = .ok (.if_icmp .ne 6, 3) := by decide +kernel
theorem d_Net_pieceBetween_93 : decode prog_4_method_6_code 93 = .ok (.iload 7, 2) := by decide +kernel
theorem d_Net_pieceBetween_95 : decode prog_4_method_6_code 95 = .ok (.ireturn, 1) := by decide +kernel
theorem d_Net_pieceBetween_96 : decode prog_4_method_6_code 96 = .ok (.iinc 7 1, 3) := by decide +kernel
theorem d_Net_pieceBetween_99 : decode prog_4_method_6_code 99 = .ok (.goto (-65), 3) := by decide +kernel
theorem d_Net_pieceBetween_102 : decode prog_4_method_6_code 102 = .ok (.iconst (-1), 1) := by decide +kernel
theorem d_Net_pieceBetween_103 : decode prog_4_method_6_code 103 = .ok (.ireturn, 1) := by decide +kernel
theorem d_Net_knownPlace_0 : decode prog_4_method_8_code 0 = .ok (.aload_n 0, 1) := by decide +kernel
theorem d_Net_knownPlace_1 : decode prog_4_method_8_code 1 = .ok (.iload_n 1, 1) := by decide +kernel
theorem d_Net_knownPlace_2 : decode prog_4_method_8_code 2 = .ok (.iload_n 2, 1) := by decide +kernel
theorem d_Net_knownPlace_3 : decode prog_4_method_8_code 3 = .ok (.invokevirtual 48, 3) := by decide +kernel
theorem d_Net_knownPlace_6 : decode prog_4_method_8_code 6 = .ok (.istore_n 3, 1) := by decide +kernel
theorem d_Net_knownPlace_7 : decode prog_4_method_8_code 7 = .ok (.iload_n 3, 1) := by decide +kernel
theorem d_Net_knownPlace_8 : decode prog_4_method_8_code 8 = .ok (.iconst (-1), 1) := by decide +kernel
theorem d_Net_knownPlace_9 : decode prog_4_method_8_code 9 = .ok (.if_icmp .eq 5, 3) := by decide +kernel
theorem d_Net_knownPlace_12 : decode prog_4_method_8_code 12 = .ok (.iload_n 3, 1) := by decide +kernel
theorem d_Net_knownPlace_13 : decode prog_4_method_8_code 13 = .ok (.ireturn, 1) := by decide +kernel
theorem d_Net_knownPlace_14 : decode prog_4_method_8_code 14 = .ok (.aload_n 0, 1) := by decide +kernel
theorem d_Net_knownPlace_15 : decode prog_4_method_8_code 15 = .ok (.getfield 12, 3) := by decide +kernel
theorem d_Net_knownPlace_18 : decode prog_4_method_8_code 18 = .ok (.iload_n 1, 1) := by decide +kernel
theorem d_Net_knownPlace_19 : decode prog_4_method_8_code 19 = .ok (.invokevirtual 64, 3) := by decide +kernel
theorem d_Net_knownPlace_22 : decode prog_4_method_8_code 22 = .ok (.aload_n 0, 1) := by decide +kernel
theorem d_Net_knownPlace_23 : decode prog_4_method_8_code 23 = .ok (.getfield 18, 3) := by decide +kernel
theorem d_Net_knownPlace_26 : decode prog_4_method_8_code 26 = .ok (.iload_n 2, 1) := by decide +kernel
theorem d_Net_knownPlace_27 : decode prog_4_method_8_code 27 = .ok (.invokevirtual 64, 3) := by decide +kernel
theorem d_Net_knownPlace_30 : decode prog_4_method_8_code 30 = .ok (.aload_n 0, 1) := by decide +kernel
theorem d_Net_knownPlace_31 : decode prog_4_method_8_code 31 = .ok (.getfield 21, 3) := by decide +kernel
theorem d_Net_knownPlace_34 : decode prog_4_method_8_code 34 = .ok (.iconst 0, 1) := by decide +kernel
theorem d_Net_knownPlace_35 : decode prog_4_method_8_code 35 = .ok (.invokevirtual 64, 3) := by decide +kernel
theorem d_Net_knownPlace_38 : decode prog_4_method_8_code 38 = .ok (.aload_n 0, 1) := by decide +kernel
theorem d_Net_knownPlace_39 : decode prog_4_method_8_code 39 = .ok (.getfield 21, 3) := by decide +kernel
theorem d_Net_knownPlace_42 : decode prog_4_method_8_code 42 = .ok (.getfield 33, 3) := by decide +kernel
theorem d_Net_knownPlace_45 : decode prog_4_method_8_code 45 = .ok (.iconst 1, 1) := by decide +kernel
theorem d_Net_knownPlace_46 : decode prog_4_method_8_code 46 = .ok (.isub, 1) := by decide +kernel
theorem d_Net_knownPlace_47 : decode prog_4_method_8_code 47 = .ok (.ireturn, 1) := by decide +kernel
theorem d_Pla_isLess_0 : decode prog_5_method_2_code 0 = .ok (.iload_n 0, 1) := by decide +kernel
theorem d_Pla_isLess_1 : decode prog_5_method_2_code 1 = .ok (.iload_n 2, 1) := by decide +kernel
theorem d_Pla_isLess_2 : decode prog_5_method_2_code 2 = .ok (.if_icmp .lt 13, 3) := by decide +kernel
theorem d_Pla_isLess_5 : decode prog_5_method_2_code 5 = .ok (.iload_n 0, 1) := by decide +kernel
theorem d_Pla_isLess_6 : decode prog_5_method_2_code 6 = .ok (.iload_n 2, 1) := by decide +kernel
theorem d_Pla_isLess_7 : decode prog_5_method_2_code 7 = .ok (.if_icmp .ne 12, 3) := by decide +kernel
theorem d_Pla_isLess_10 : decode prog_5_method_2_code 10 = .ok (.iload_n 1, 1) := by decide +kernel
theorem d_Pla_isLess_11 : decode prog_5_method_2_code 11 = .ok (.iload_n 3, 1) := by decide +kernel
theorem d_Pla_isLess_12 : decode prog_5_method_2_code 12 = .ok (.if_icmp .ge 7, 3) := by decide +kernel
theorem d_Pla_isLess_15 : decode prog_5_method_2_code 15 = .ok (.iconst 1, 1) := by decide +kernel
theorem d_Pla_isLess_16 : decode prog_5_method_2_code 16 = .ok (.goto 4, 3) := by decide +kernel
theorem d_Pla_isLess_19 : decode prog_5_method_2_code 19 = .ok (.iconst 0, 1) := by decide +kernel
theorem d_Pla_isLess_20 : decode prog_5_method_2_code 20 = .ok (.ireturn, 1) := by decide +kernel
theorem d_Net_addPiece_0 : decode prog_4_method_7_code 0 = .ok (.aload_n 0, 1) := by decide +kernel
theorem d_Net_addPiece_1 : decode prog_4_method_7_code 1 = .ok (.iload_n 1, 1) := by decide +kernel
theorem d_Net_addPiece_2 : decode prog_4_method_7_code 2 = .ok (.iload_n 2, 1) := by decide +kernel
theorem d_Net_addPiece_3 : decode prog_4_method_7_code 3 = .ok (.invokevirtual 55, 3) := by decide +kernel
theorem d_Net_addPiece_6 : decode prog_4_method_7_code 6 = .ok (.istore 5, 2) := by decide +kernel
theorem d_Net_addPiece_8 : decode prog_4_method_7_code 8 = .ok (.aload_n 0, 1) := by decide +kernel
theorem d_Net_addPiece_9 : decode prog_4_method_7_code 9 = .ok (.iload_n 3, 1) := by decide +kernel
theorem d_Net_addPiece_10 : decode prog_4_method_7_code 10 = .ok (.iload 4, 2) := by decide +kernel
theorem d_Net_addPiece_12 : decode prog_4_method_7_code 12 = .ok (.invokevirtual 55, 3) := by decide +kernel
theorem d_Net_addPiece_15 : decode prog_4_method_7_code 15 = .ok (.istore 6, 2) := by decide +kernel
theorem d_Net_addPiece_17 : decode prog_4_method_7_code 17 = .ok (.iload_n 1, 1) := by decide +kernel
theorem d_Net_addPiece_18 : decode prog_4_method_7_code 18 = .ok (.iload_n 2, 1) := by decide +kernel
theorem d_Net_addPiece_19 : decode prog_4_method_7_code 19 = .ok (.iload_n 3, 1) := by decide +kernel
theorem d_Net_addPiece_20 : decode prog_4_method_7_code 20 = .ok (.iload 4, 2) := by decide +kernel
theorem d_Net_addPiece_22 : decode prog_4_method_7_code 22 = .ok (.invokestatic 58, 3) := by decide +kernel
theorem d_Net_addPiece_25 : decode prog_4_method_7_code 25 = .ok (.istore 7, 2) := by decide +kernel
theorem d_Net_addPiece_27 : decode prog_4_method_7_code 27 = .ok (.aload_n 0, 1) := by decide +kernel
theorem d_Net_addPiece_28 : decode prog_4_method_7_code 28 = .ok (.getfield 24, 3) := by decide +kernel
theorem d_Net_addPiece_31 : decode prog_4_method_7_code 31 = .ok (.iload 7, 2) := by decide +kernel
theorem d_Net_addPiece_33 : decode prog_4_method_7_code 33 = .ok (.ifCond .eq 8, 3) := by decide +kernel
theorem d_Net_addPiece_36 : decode prog_4_method_7_code 36 = .ok (.iload 5, 2) := by decide +kernel
theorem d_Net_addPiece_38 : decode prog_4_method_7_code 38 = .ok (.goto 5, 3) := by decide +kernel
theorem d_Net_addPiece_41 : decode prog_4_method_7_code 41 = .ok (.iload 6, 2) := by decide +kernel
theorem d_Net_addPiece_43 : decode prog_4_method_7_code 43 = .ok (.invokevirtual 64, 3) := by decide +kernel
theorem d_Net_addPiece_46 : decode prog_4_method_7_code 46 = .ok (.aload_n 0, 1) := by decide +kernel
theorem d_Net_addPiece_47 : decode prog_4_method_7_code 47 = .ok (.getfield 27, 3) := by decide +kernel
theorem d_Net_addPiece_50 : decode prog_4_method_7_code 50 = .ok (.iload 7, 2) := by decide +kernel
theorem d_Net_addPiece_52 : decode prog_4_method_7_code 52 = .ok (.ifCond .eq 8, 3) := by decide +kernel
theorem d_Net_addPiece_55 : decode prog_4_method_7_code 55 = .ok (.iload 6, 2) := by decide +kernel
theorem d_Net_addPiece_57 : decode prog_4_method_7_code 57 = .ok (.goto 5, 3) := by decide +kernel
theorem d_Net_addPiece_60 : decode prog_4_method_7_code 60 = .ok (.iload 5, 2) := by decide +kernel
theorem d_Net_addPiece_62 : decode prog_4_method_7_code 62 = .ok (.invokevirtual 64, 3) := by decide +kernel
theorem d_Net_addPiece_65 : decode prog_4_method_7_code 65 = .ok (.aload_n 0, 1) := by decide +kernel
theorem d_Net_addPiece_66 : decode prog_4_method_7_code 66 = .ok (.getfield 30, 3) := by decide +kernel
theorem d_Net_addPiece_69 : decode prog_4_method_7_code 69 = .ok (.iconst 0, 1) := by decide +kernel
theorem d_Net_addPiece_70 : decode prog_4_method_7_code 70 = .ok (.invokevirtual 64, 3) := by decide +kernel
theorem d_Net_addPiece_73 : decode prog_4_method_7_code 73 = .ok (.aload_n 0, 1) := by decide +kernel
theorem d_Net_addPiece_74 : decode prog_4_method_7_code 74 = .ok (.getfield 30, 3) := by decide +kernel
theorem d_Net_addPiece_77 : decode prog_4_method_7_code 77 = .ok (.getfield 33, 3) := by decide +kernel
theorem d_Net_addPiece_80 : decode prog_4_method_7_code 80 = .ok (.iconst 1, 1) := by decide +kernel
theorem d_Net_addPiece_81 : decode prog_4_method_7_code 81 = .ok (.isub, 1) := by decide +kernel
theorem d_Net_addPiece_82 : decode prog_4_method_7_code 82 = .ok (.ireturn, 1) := by decide +kernel
theorem d_Net_turnMarks_0 : decode prog_4_method_9_code 0 = .ok (.aload_n 0, 1) := by decide +kernel
theorem d_Net_turnMarks_1 : decode prog_4_method_9_code 1 = .ok (.getfield 30, 3) := by decide +kernel
theorem d_Net_turnMarks_4 : decode prog_4_method_9_code 4 = .ok (.iload_n 1, 1) := by decide +kernel
theorem d_Net_turnMarks_5 : decode prog_4_method_9_code 5 = .ok (.aload_n 0, 1) := by decide +kernel
theorem d_Net_turnMarks_6 : decode prog_4_method_9_code 6 = .ok (.getfield 30, 3) := by decide +kernel
theorem d_Net_turnMarks_9 : decode prog_4_method_9_code 9 = .ok (.iload_n 1, 1) := by decide +kernel
theorem d_Net_turnMarks_10 : decode prog_4_method_9_code 10 = .ok (.invokevirtual 44, 3) := by decide +kernel
theorem d_Net_turnMarks_13 : decode prog_4_method_9_code 13 = .ok (.iload_n 2, 1) := by decide +kernel
theorem d_Net_turnMarks_14 : decode prog_4_method_9_code 14 = .ok (.ixor, 1) := by decide +kernel
theorem d_Net_turnMarks_15 : decode prog_4_method_9_code 15 = .ok (.invokevirtual 68, 3) := by decide +kernel
theorem d_Net_turnMarks_18 : decode prog_4_method_9_code 18 = .ok (.aload_n 0, 1) := by decide +kernel
theorem d_Net_turnMarks_19 : decode prog_4_method_9_code 19 = .ok (.getfield 21, 3) := by decide +kernel
theorem d_Net_turnMarks_22 : decode prog_4_method_9_code 22 = .ok (.aload_n 0, 1) := by decide +kernel
theorem d_Net_turnMarks_23 : decode prog_4_method_9_code 23 = .ok (.getfield 24, 3) := by decide +kernel
theorem d_Net_turnMarks_26 : decode prog_4_method_9_code 26 = .ok (.iload_n 1, 1) := by decide +kernel
theorem d_Net_turnMarks_27 : decode prog_4_method_9_code 27 = .ok (.invokevirtual 44, 3) := by decide +kernel
theorem d_Net_turnMarks_30 : decode prog_4_method_9_code 30 = .ok (.aload_n 0, 1) := by decide +kernel
theorem d_Net_turnMarks_31 : decode prog_4_method_9_code 31 = .ok (.getfield 21, 3) := by decide +kernel
theorem d_Net_turnMarks_34 : decode prog_4_method_9_code 34 = .ok (.aload_n 0, 1) := by decide +kernel
theorem d_Net_turnMarks_35 : decode prog_4_method_9_code 35 = .ok (.getfield 24, 3) := by decide +kernel
theorem d_Net_turnMarks_38 : decode prog_4_method_9_code 38 = .ok (.iload_n 1, 1) := by decide +kernel
theorem d_Net_turnMarks_39 : decode prog_4_method_9_code 39 = .ok (.invokevirtual 44, 3) := by decide +kernel
theorem d_Net_turnMarks_42 : decode prog_4_method_9_code 42 = .ok (.invokevirtual 44, 3) := by decide +kernel
theorem d_Net_turnMarks_45 : decode prog_4_method_9_code 45 = .ok (.iload_n 2, 1) := by decide +kernel
theorem d_Net_turnMarks_46 : decode prog_4_method_9_code 46 = .ok (.ixor, 1) := by decide +kernel
theorem d_Net_turnMarks_47 : decode prog_4_method_9_code 47 = .ok (.invokevirtual 68, 3) := by decide +kernel
theorem d_Net_turnMarks_50 : decode prog_4_method_9_code 50 = .ok (.aload_n 0, 1) := by decide +kernel
theorem d_Net_turnMarks_51 : decode prog_4_method_9_code 51 = .ok (.getfield 21, 3) := by decide +kernel
theorem d_Net_turnMarks_54 : decode prog_4_method_9_code 54 = .ok (.aload_n 0, 1) := by decide +kernel
theorem d_Net_turnMarks_55 : decode prog_4_method_9_code 55 = .ok (.getfield 27, 3) := by decide +kernel
theorem d_Net_turnMarks_58 : decode prog_4_method_9_code 58 = .ok (.iload_n 1, 1) := by decide +kernel
theorem d_Net_turnMarks_59 : decode prog_4_method_9_code 59 = .ok (.invokevirtual 44, 3) := by decide +kernel
theorem d_Net_turnMarks_62 : decode prog_4_method_9_code 62 = .ok (.aload_n 0, 1) := by decide +kernel
theorem d_Net_turnMarks_63 : decode prog_4_method_9_code 63 = .ok (.getfield 21, 3) := by decide +kernel
theorem d_Net_turnMarks_66 : decode prog_4_method_9_code 66 = .ok (.aload_n 0, 1) := by decide +kernel
theorem d_Net_turnMarks_67 : decode prog_4_method_9_code 67 = .ok (.getfield 27, 3) := by decide +kernel
theorem d_Net_turnMarks_70 : decode prog_4_method_9_code 70 = .ok (.iload_n 1, 1) := by decide +kernel
theorem d_Net_turnMarks_71 : decode prog_4_method_9_code 71 = .ok (.invokevirtual 44, 3) := by decide +kernel
theorem d_Net_turnMarks_74 : decode prog_4_method_9_code 74 = .ok (.invokevirtual 44, 3) := by decide +kernel
theorem d_Net_turnMarks_77 : decode prog_4_method_9_code 77 = .ok (.iload_n 2, 1) := by decide +kernel
theorem d_Net_turnMarks_78 : decode prog_4_method_9_code 78 = .ok (.ixor, 1) := by decide +kernel
theorem d_Net_turnMarks_79 : decode prog_4_method_9_code 79 = .ok (.invokevirtual 68, 3) := by decide +kernel
theorem d_Net_turnMarks_82 : decode prog_4_method_9_code 82 = .ok (.return_, 1) := by decide +kernel
theorem d_Net_isClosed_0 : decode prog_4_method_10_code 0 = .ok (.iconst 0, 1) := by decide +kernel
theorem d_Net_isClosed_1 : decode prog_4_method_10_code 1 = .ok (.istore_n 1, 1) := by decide +kernel
theorem d_Net_isClosed_2 : decode prog_4_method_10_code 2 = .ok (.iload_n 1, 1) := by decide +kernel
theorem d_Net_isClosed_3 : decode prog_4_method_10_code 3 = .ok (.aload_n 0, 1) := by decide +kernel
theorem d_Net_isClosed_4 : decode prog_4_method_10_code 4 = .ok (.invokevirtual 40, 3) := by decide +kernel
theorem d_Net_isClosed_7 : decode prog_4_method_10_code 7 = .ok (.if_icmp .ge 22, 3) := by decide +kernel
theorem d_Net_isClosed_10 : decode prog_4_method_10_code 10 = .ok (.aload_n 0, 1) := by decide +kernel
theorem d_Net_isClosed_11 : decode prog_4_method_10_code 11 = .ok (.getfield 21, 3) := by decide +kernel
theorem d_Net_isClosed_14 : decode prog_4_method_10_code 14 = .ok (.iload_n 1, 1) := by decide +kernel
theorem d_Net_isClosed_15 : decode prog_4_method_10_code 15 = .ok (.invokevirtual 44, 3) := by decide +kernel
theorem d_Net_isClosed_18 : decode prog_4_method_10_code 18 = .ok (.ifCond .eq 5, 3) := by decide +kernel
theorem d_Net_isClosed_21 : decode prog_4_method_10_code 21 = .ok (.iconst 0, 1) := by decide +kernel
theorem d_Net_isClosed_22 : decode prog_4_method_10_code 22 = .ok (.ireturn, 1) := by decide +kernel
theorem d_Net_isClosed_23 : decode prog_4_method_10_code 23 = .ok (.iinc 1 1, 3) := by decide +kernel
theorem d_Net_isClosed_26 : decode prog_4_method_10_code 26 = .ok (.goto (-24), 3) := by decide +kernel
theorem d_Net_isClosed_29 : decode prog_4_method_10_code 29 = .ok (.iconst 1, 1) := by decide +kernel
theorem d_Net_isClosed_30 : decode prog_4_method_10_code 30 = .ok (.ireturn, 1) := by decide +kernel
theorem d_Pla_side_0 : decode prog_5_method_3_code 0 = .ok (.iload_n 2, 1) := by decide +kernel
theorem d_Pla_side_1 : decode prog_5_method_3_code 1 = .ok (.i2l, 1) := by decide +kernel
theorem d_Pla_side_2 : decode prog_5_method_3_code 2 = .ok (.iload_n 0, 1) := by decide +kernel
theorem d_Pla_side_3 : decode prog_5_method_3_code 3 = .ok (.i2l, 1) := by decide +kernel
theorem d_Pla_side_4 : decode prog_5_method_3_code 4 = .ok (.lsub, 1) := by decide +kernel
theorem d_Pla_side_5 : decode prog_5_method_3_code 5 = .ok (.iload 5, 2) := by decide +kernel
theorem d_Pla_side_7 : decode prog_5_method_3_code 7 = .ok (.i2l, 1) := by decide +kernel
theorem d_Pla_side_8 : decode prog_5_method_3_code 8 = .ok (.iload_n 1, 1) := by decide +kernel
theorem d_Pla_side_9 : decode prog_5_method_3_code 9 = .ok (.i2l, 1) := by decide +kernel
theorem d_Pla_side_10 : decode prog_5_method_3_code 10 = .ok (.lsub, 1) := by decide +kernel
theorem d_Pla_side_11 : decode prog_5_method_3_code 11 = .ok (.lmul, 1) := by decide +kernel
theorem d_Pla_side_12 : decode prog_5_method_3_code 12 = .ok (.lstore 6, 2) := by decide +kernel
theorem d_Pla_side_14 : decode prog_5_method_3_code 14 = .ok (.iload_n 3, 1) := by decide +kernel
theorem d_Pla_side_15 : decode prog_5_method_3_code 15 = .ok (.i2l, 1) := by decide +kernel
theorem d_Pla_side_16 : decode prog_5_method_3_code 16 = .ok (.iload_n 1, 1) := by decide +kernel
theorem d_Pla_side_17 : decode prog_5_method_3_code 17 = .ok (.i2l, 1) := by decide +kernel
theorem d_Pla_side_18 : decode prog_5_method_3_code 18 = .ok (.lsub, 1) := by decide +kernel
theorem d_Pla_side_19 : decode prog_5_method_3_code 19 = .ok (.iload 4, 2) := by decide +kernel
theorem d_Pla_side_21 : decode prog_5_method_3_code 21 = .ok (.i2l, 1) := by decide +kernel
theorem d_Pla_side_22 : decode prog_5_method_3_code 22 = .ok (.iload_n 0, 1) := by decide +kernel
theorem d_Pla_side_23 : decode prog_5_method_3_code 23 = .ok (.i2l, 1) := by decide +kernel
theorem d_Pla_side_24 : decode prog_5_method_3_code 24 = .ok (.lsub, 1) := by decide +kernel
theorem d_Pla_side_25 : decode prog_5_method_3_code 25 = .ok (.lmul, 1) := by decide +kernel
theorem d_Pla_side_26 : decode prog_5_method_3_code 26 = .ok (.lstore 8, 2) := by decide +kernel
theorem d_Pla_side_28 : decode prog_5_method_3_code 28 = .ok (.lload 6, 2) := by decide +kernel
theorem d_Pla_side_30 : decode prog_5_method_3_code 30 = .ok (.lload 8, 2) := by decide +kernel
theorem d_Pla_side_32 : decode prog_5_method_3_code 32 = .ok (.lcmp, 1) := by decide +kernel
theorem d_Pla_side_33 : decode prog_5_method_3_code 33 = .ok (.ifCond .le 7, 3) := by decide +kernel
theorem d_Pla_side_36 : decode prog_5_method_3_code 36 = .ok (.iconst 1, 1) := by decide +kernel
theorem d_Pla_side_37 : decode prog_5_method_3_code 37 = .ok (.goto 16, 3) := by decide +kernel
theorem d_Pla_side_40 : decode prog_5_method_3_code 40 = .ok (.lload 6, 2) := by decide +kernel
theorem d_Pla_side_42 : decode prog_5_method_3_code 42 = .ok (.lload 8, 2) := by decide +kernel
theorem d_Pla_side_44 : decode prog_5_method_3_code 44 = .ok (.lcmp, 1) := by decide +kernel
theorem d_Pla_side_45 : decode prog_5_method_3_code 45 = .ok (.ifCond .ge 7, 3) := by decide +kernel
theorem d_Pla_side_48 : decode prog_5_method_3_code 48 = .ok (.iconst (-1), 1) := by decide +kernel
theorem d_Pla_side_49 : decode prog_5_method_3_code 49 = .ok (.goto 4, 3) := by decide +kernel
theorem d_Pla_side_52 : decode prog_5_method_3_code 52 = .ok (.iconst 0, 1) := by decide +kernel
theorem d_Pla_side_53 : decode prog_5_method_3_code 53 = .ok (.ireturn, 1) := by decide +kernel
theorem d_Pla_isBetween_0 : decode prog_5_method_4_code 0 = .ok (.iload 4, 2) := by decide +kernel
theorem d_Pla_isBetween_2 : decode prog_5_method_4_code 2 = .ok (.iload_n 0, 1) := by decide +kernel
theorem d_Pla_isBetween_3 : decode prog_5_method_4_code 3 = .ok (.if_icmp .ne 9, 3) := by decide +kernel
theorem d_Pla_isBetween_6 : decode prog_5_method_4_code 6 = .ok (.iload 5, 2) := by decide +kernel
theorem d_Pla_isBetween_8 : decode prog_5_method_4_code 8 = .ok (.iload_n 1, 1) := by decide +kernel
theorem d_Pla_isBetween_9 : decode prog_5_method_4_code 9 = .ok (.if_icmp .eq 15, 3) := by decide +kernel
theorem d_Pla_isBetween_12 : decode prog_5_method_4_code 12 = .ok (.iload 4, 2) := by decide +kernel
theorem d_Pla_isBetween_14 : decode prog_5_method_4_code 14 = .ok (.iload_n 2, 1) := by decide +kernel
theorem d_Pla_isBetween_15 : decode prog_5_method_4_code 15 = .ok (.if_icmp .ne 11, 3) := by decide +kernel
theorem d_Pla_isBetween_18 : decode prog_5_method_4_code 18 = .ok (.iload 5, 2) := by decide +kernel
theorem d_Pla_isBetween_20 : decode prog_5_method_4_code 20 = .ok (.iload_n 3, 1) := by decide +kernel
theorem d_Pla_isBetween_21 : decode prog_5_method_4_code 21 = .ok (.if_icmp .ne 5, 3) := by decide +kernel
theorem d_Pla_isBetween_24 : decode prog_5_method_4_code 24 = .ok (.iconst 0, 1) := by decide +kernel
theorem d_Pla_isBetween_25 : decode prog_5_method_4_code 25 = .ok (.ireturn, 1) := by decide +kernel
theorem d_Pla_isBetween_26 : decode prog_5_method_4_code 26 = .ok (.iload 4, 2) := by decide +kernel
theorem d_Pla_isBetween_28 : decode prog_5_method_4_code 28 = .ok (.iload_n 0, 1) := by decide +kernel
theorem d_Pla_isBetween_29 : decode prog_5_method_4_code 29 = .ok (.iload_n 2, 1) := by decide +kernel
theorem d_Pla_isBetween_30 : decode prog_5_method_4_code 30 = .ok (.invokestatic 7, 3) := by decide +kernel
theorem d_Pla_isBetween_33 : decode prog_5_method_4_code 33 = .ok (.if_icmp .lt 37, 3) := by decide +kernel
theorem d_Pla_isBetween_36 : decode prog_5_method_4_code 36 = .ok (.iload 4, 2) := by decide +kernel
theorem d_Pla_isBetween_38 : decode prog_5_method_4_code 38 = .ok (.iload_n 0, 1) := by decide +kernel
theorem d_Pla_isBetween_39 : decode prog_5_method_4_code 39 = .ok (.iload_n 2, 1) := by decide +kernel
theorem d_Pla_isBetween_40 : decode prog_5_method_4_code 40 = .ok (.invokestatic 13, 3) := by decide +kernel
theorem d_Pla_isBetween_43 : decode prog_5_method_4_code 43 = .ok (.if_icmp .gt 27, 3) := by decide +kernel
theorem d_Pla_isBetween_46 : decode prog_5_method_4_code 46 = .ok (.iload 5, 2) := by decide +kernel
theorem d_Pla_isBetween_48 : decode prog_5_method_4_code 48 = .ok (.iload_n 1, 1) := by decide +kernel
theorem d_Pla_isBetween_49 : decode prog_5_method_4_code 49 = .ok (.iload_n 3, 1) := by decide +kernel
theorem d_Pla_isBetween_50 : decode prog_5_method_4_code 50 = .ok (.invokestatic 7, 3) := by decide +kernel
theorem d_Pla_isBetween_53 : decode prog_5_method_4_code 53 = .ok (.if_icmp .lt 17, 3) := by decide +kernel
theorem d_Pla_isBetween_56 : decode prog_5_method_4_code 56 = .ok (.iload 5, 2) := by decide +kernel
theorem d_Pla_isBetween_58 : decode prog_5_method_4_code 58 = .ok (.iload_n 1, 1) := by decide +kernel
theorem d_Pla_isBetween_59 : decode prog_5_method_4_code 59 = .ok (.iload_n 3, 1) := by decide +kernel
theorem d_Pla_isBetween_60 : decode prog_5_method_4_code 60 = .ok (.invokestatic 13, 3) := by decide +kernel
theorem d_Pla_isBetween_63 : decode prog_5_method_4_code 63 = .ok (.if_icmp .gt 7, 3) := by decide +kernel
theorem d_Pla_isBetween_66 : decode prog_5_method_4_code 66 = .ok (.iconst 1, 1) := by decide +kernel
theorem d_Pla_isBetween_67 : decode prog_5_method_4_code 67 = .ok (.goto 4, 3) := by decide +kernel
theorem d_Pla_isBetween_70 : decode prog_5_method_4_code 70 = .ok (.iconst 0, 1) := by decide +kernel
theorem d_Pla_isBetween_71 : decode prog_5_method_4_code 71 = .ok (.ireturn, 1) := by decide +kernel
theorem d_Net_clashes_0 : decode prog_4_method_12_code 0 = .ok (.aload_n 0, 1) := by decide +kernel
theorem d_Net_clashes_1 : decode prog_4_method_12_code 1 = .ok (.getfield 12, 3) := by decide +kernel
theorem d_Net_clashes_4 : decode prog_4_method_12_code 4 = .ok (.aload_n 0, 1) := by decide +kernel
theorem d_Net_clashes_5 : decode prog_4_method_12_code 5 = .ok (.getfield 24, 3) := by decide +kernel
theorem d_Net_clashes_8 : decode prog_4_method_12_code 8 = .ok (.iload_n 1, 1) := by decide +kernel
theorem d_Net_clashes_9 : decode prog_4_method_12_code 9 = .ok (.invokevirtual 44, 3) := by decide +kernel
theorem d_Net_clashes_12 : decode prog_4_method_12_code 12 = .ok (.invokevirtual 44, 3) := by decide +kernel
theorem d_Net_clashes_15 : decode prog_4_method_12_code 15 = .ok (.istore 6, 2) := by decide +kernel
theorem d_Net_clashes_17 : decode prog_4_method_12_code 17 = .ok (.aload_n 0, 1) := by decide +kernel
theorem d_Net_clashes_18 : decode prog_4_method_12_code 18 = .ok (.getfield 18, 3) := by decide +kernel
theorem d_Net_clashes_21 : decode prog_4_method_12_code 21 = .ok (.aload_n 0, 1) := by decide +kernel
theorem d_Net_clashes_22 : decode prog_4_method_12_code 22 = .ok (.getfield 24, 3) := by decide +kernel
theorem d_Net_clashes_25 : decode prog_4_method_12_code 25 = .ok (.iload_n 1, 1) := by decide +kernel
theorem d_Net_clashes_26 : decode prog_4_method_12_code 26 = .ok (.invokevirtual 44, 3) := by decide +kernel
theorem d_Net_clashes_29 : decode prog_4_method_12_code 29 = .ok (.invokevirtual 44, 3) := by decide +kernel
theorem d_Net_clashes_32 : decode prog_4_method_12_code 32 = .ok (.istore 7, 2) := by decide +kernel
theorem d_Net_clashes_34 : decode prog_4_method_12_code 34 = .ok (.aload_n 0, 1) := by decide +kernel
theorem d_Net_clashes_35 : decode prog_4_method_12_code 35 = .ok (.getfield 12, 3) := by decide +kernel
theorem d_Net_clashes_38 : decode prog_4_method_12_code 38 = .ok (.aload_n 0, 1) := by decide +kernel
theorem d_Net_clashes_39 : decode prog_4_method_12_code 39 = .ok (.getfield 27, 3) := by decide +kernel
theorem d_Net_clashes_42 : decode prog_4_method_12_code 42 = .ok (.iload_n 1, 1) := by decide +kernel
theorem d_Net_clashes_43 : decode prog_4_method_12_code 43 = .ok (.invokevirtual 44, 3) := by decide +kernel
theorem d_Net_clashes_46 : decode prog_4_method_12_code 46 = .ok (.invokevirtual 44, 3) := by decide +kernel
theorem d_Net_clashes_49 : decode prog_4_method_12_code 49 = .ok (.istore 8, 2) := by decide +kernel
theorem d_Net_clashes_51 : decode prog_4_method_12_code 51 = .ok (.aload_n 0, 1) := by decide +kernel
theorem d_Net_clashes_52 : decode prog_4_method_12_code 52 = .ok (.getfield 18, 3) := by decide +kernel
theorem d_Net_clashes_55 : decode prog_4_method_12_code 55 = .ok (.aload_n 0, 1) := by decide +kernel
theorem d_Net_clashes_56 : decode prog_4_method_12_code 56 = .ok (.getfield 27, 3) := by decide +kernel
theorem d_Net_clashes_59 : decode prog_4_method_12_code 59 = .ok (.iload_n 1, 1) := by decide +kernel
theorem d_Net_clashes_60 : decode prog_4_method_12_code 60 = .ok (.invokevirtual 44, 3) := by decide +kernel
theorem d_Net_clashes_63 : decode prog_4_method_12_code 63 = .ok (.invokevirtual 44, 3) := by decide +kernel
theorem d_Net_clashes_66 : decode prog_4_method_12_code 66 = .ok (.istore 9, 2) := by decide +kernel
theorem d_Net_clashes_68 : decode prog_4_method_12_code 68 = .ok (.iload 6, 2) := by decide +kernel
theorem d_Net_clashes_70 : decode prog_4_method_12_code 70 = .ok (.iload 7, 2) := by decide +kernel
theorem d_Net_clashes_72 : decode prog_4_method_12_code 72 = .ok (.iload 8, 2) := by decide +kernel
theorem d_Net_clashes_74 : decode prog_4_method_12_code 74 = .ok (.iload 9, 2) := by decide +kernel
theorem d_Net_clashes_76 : decode prog_4_method_12_code 76 = .ok (.iload_n 2, 1) := by decide +kernel
theorem d_Net_clashes_77 : decode prog_4_method_12_code 77 = .ok (.iload_n 3, 1) := by decide +kernel
theorem d_Net_clashes_78 : decode prog_4_method_12_code 78 = .ok (.invokestatic 76, 3) := by decide +kernel
theorem d_Net_clashes_81 : decode prog_4_method_12_code 81 = .ok (.istore 10, 2) := by decide +kernel
theorem d_Net_clashes_83 : decode prog_4_method_12_code 83 = .ok (.iload 6, 2) := by decide +kernel
theorem d_Net_clashes_85 : decode prog_4_method_12_code 85 = .ok (.iload 7, 2) := by decide +kernel
theorem d_Net_clashes_87 : decode prog_4_method_12_code 87 = .ok (.iload 8, 2) := by decide +kernel
theorem d_Net_clashes_89 : decode prog_4_method_12_code 89 = .ok (.iload 9, 2) := by decide +kernel
theorem d_Net_clashes_91 : decode prog_4_method_12_code 91 = .ok (.iload 4, 2) := by decide +kernel
theorem d_Net_clashes_93 : decode prog_4_method_12_code 93 = .ok (.iload 5, 2) := by decide +kernel
theorem d_Net_clashes_95 : decode prog_4_method_12_code 95 = .ok (.invokestatic 76, 3) := by decide +kernel
theorem d_Net_clashes_98 : decode prog_4_method_12_code 98 = .ok (.istore 11, 2) := by decide +kernel
theorem d_Net_clashes_100 : decode prog_4_method_12_code 100 = .ok (.iload_n 2, 1) := by decide +kernel
theorem d_Net_clashes_101 : decode prog_4_method_12_code 101 = .ok (.iload_n 3, 1) := by decide +kernel
theorem d_Net_clashes_102 : decode prog_4_method_12_code 102 = .ok (.iload 4, 2) := by decide +kernel
theorem d_Net_clashes_104 : decode prog_4_method_12_code 104 = .ok (.iload 5, 2) := by decide +kernel
theorem d_Net_clashes_106 : decode prog_4_method_12_code 106 = .ok (.iload 6, 2) := by decide +kernel
theorem d_Net_clashes_108 : decode prog_4_method_12_code 108 = .ok (.iload 7, 2) := by decide +kernel
theorem d_Net_clashes_110 : decode prog_4_method_12_code 110 = .ok (.invokestatic 76, 3) := by decide +kernel
theorem d_Net_clashes_113 : decode prog_4_method_12_code 113 = .ok (.istore 12, 2) := by decide +kernel
theorem d_Net_clashes_115 : decode prog_4_method_12_code 115 = .ok (.iload_n 2, 1) := by decide +kernel
theorem d_Net_clashes_116 : decode prog_4_method_12_code 116 = .ok (.iload_n 3, 1) := by decide +kernel
theorem d_Net_clashes_117 : decode prog_4_method_12_code 117 = .ok (.iload 4, 2) := by decide +kernel
theorem d_Net_clashes_119 : decode prog_4_method_12_code 119 = .ok (.iload 5, 2) := by decide +kernel
theorem d_Net_clashes_121 : decode prog_4_method_12_code 121 = .ok (.iload 8, 2) := by decide +kernel
theorem d_Net_clashes_123 : decode prog_4_method_12_code 123 = .ok (.iload 9, 2) := by decide +kernel
theorem d_Net_clashes_125 : decode prog_4_method_12_code 125 = .ok (.invokestatic 76, 3) := by decide +kernel
theorem d_Net_clashes_128 : decode prog_4_method_12_code 128 = .ok (.istore 13, 2) := by decide +kernel
theorem d_Net_clashes_130 : decode prog_4_method_12_code 130 = .ok (.iload 10, 2) := by decide +kernel
theorem d_Net_clashes_132 : decode prog_4_method_12_code 132 = .ok (.iload 11, 2) := by decide +kernel
theorem d_Net_clashes_134 : decode prog_4_method_12_code 134 = .ok (.imul, 1) := by decide +kernel
theorem d_Net_clashes_135 : decode prog_4_method_12_code 135 = .ok (.ifCond .ge 13, 3) := by decide +kernel
theorem d_Net_clashes_138 : decode prog_4_method_12_code 138 = .ok (.iload 12, 2) := by decide +kernel
theorem d_Net_clashes_140 : decode prog_4_method_12_code 140 = .ok (.iload 13, 2) := by decide +kernel
theorem d_Net_clashes_142 : decode prog_4_method_12_code 142 = .ok (.imul, 1) := by decide +kernel
theorem d_Net_clashes_143 : decode prog_4_method_12_code 143 = .ok (.ifCond .ge 5, 3) := by decide +kernel
theorem d_Net_clashes_146 : decode prog_4_method_12_code 146 = .ok (.iconst 1, 1) := by decide +kernel
theorem d_Net_clashes_147 : decode prog_4_method_12_code 147 = .ok (.ireturn, 1) := by decide +kernel
theorem d_Net_clashes_148 : decode prog_4_method_12_code 148 = .ok (.iload 10, 2) := by decide +kernel
theorem d_Net_clashes_150 : decode prog_4_method_12_code 150 = .ok (.ifCond .ne 19, 3) := by decide +kernel
theorem d_Net_clashes_153 : decode prog_4_method_12_code 153 = .ok (.iload 6, 2) := by decide +kernel
theorem d_Net_clashes_155 : decode prog_4_method_12_code 155 = .ok (.iload 7, 2) := by decide +kernel
theorem d_Net_clashes_157 : decode prog_4_method_12_code 157 = .ok (.iload 8, 2) := by decide +kernel
theorem d_Net_clashes_159 : decode prog_4_method_12_code 159 = .ok (.iload 9, 2) := by decide +kernel
theorem d_Net_clashes_161 : decode prog_4_method_12_code 161 = .ok (.iload_n 2, 1) := by decide +kernel
theorem d_Net_clashes_162 : decode prog_4_method_12_code 162 = .ok (.iload_n 3, 1) := by decide +kernel
theorem d_Net_clashes_163 : decode prog_4_method_12_code 163 = .ok (.invokestatic 80, 3) := by decide +kernel
theorem d_Net_clashes_166 : decode prog_4_method_12_code 166 = .ok (.ifCond .ne 68, 3) := by decide +kernel
theorem d_Net_clashes_169 : decode prog_4_method_12_code 169 = .ok (.iload 11, 2) := by decide +kernel
theorem d_Net_clashes_171 : decode prog_4_method_12_code 171 = .ok (.ifCond .ne 21, 3) := by decide +kernel
theorem d_Net_clashes_174 : decode prog_4_method_12_code 174 = .ok (.iload 6, 2) := by decide +kernel
theorem d_Net_clashes_176 : decode prog_4_method_12_code 176 = .ok (.iload 7, 2) := by decide +kernel
theorem d_Net_clashes_178 : decode prog_4_method_12_code 178 = .ok (.iload 8, 2) := by decide +kernel
theorem d_Net_clashes_180 : decode prog_4_method_12_code 180 = .ok (.iload 9, 2) := by decide +kernel
theorem d_Net_clashes_182 : decode prog_4_method_12_code 182 = .ok (.iload 4, 2) := by decide +kernel
theorem d_Net_clashes_184 : decode prog_4_method_12_code 184 = .ok (.iload 5, 2) := by decide +kernel
theorem d_Net_clashes_186 : decode prog_4_method_12_code 186 = .ok (.invokestatic 80, 3) := by decide +kernel
theorem d_Net_clashes_189 : decode prog_4_method_12_code 189 = .ok (.ifCond .ne 45, 3) := by decide +kernel
theorem d_Net_clashes_192 : decode prog_4_method_12_code 192 = .ok (.iload 12, 2) := by decide +kernel
theorem d_Net_clashes_194 : decode prog_4_method_12_code 194 = .ok (.ifCond .ne 19, 3) := by decide +kernel
theorem d_Net_clashes_197 : decode prog_4_method_12_code 197 = .ok (.iload_n 2, 1) := by decide +kernel
theorem d_Net_clashes_198 : decode prog_4_method_12_code 198 = .ok (.iload_n 3, 1) := by decide +kernel
theorem d_Net_clashes_199 : decode prog_4_method_12_code 199 = .ok (.iload 4, 2) := by decide +kernel
theorem d_Net_clashes_201 : decode prog_4_method_12_code 201 = .ok (.iload 5, 2) := by decide +kernel
theorem d_Net_clashes_203 : decode prog_4_method_12_code 203 = .ok (.iload 6, 2) := by decide +kernel
theorem d_Net_clashes_205 : decode prog_4_method_12_code 205 = .ok (.iload 7, 2) := by decide +kernel
theorem d_Net_clashes_207 : decode prog_4_method_12_code 207 = .ok (.invokestatic 80, 3) := by decide +kernel
theorem d_Net_clashes_210 : decode prog_4_method_12_code 210 = .ok (.ifCond .ne 24, 3) := by decide +kernel
theorem d_Net_clashes_213 : decode prog_4_method_12_code 213 = .ok (.iload 13, 2) := by decide +kernel
theorem d_Net_clashes_215 : decode prog_4_method_12_code 215 = .ok (.ifCond .ne 23, 3) := by decide +kernel
theorem d_Net_clashes_218 : decode prog_4_method_12_code 218 = .ok (.iload_n 2, 1) := by decide +kernel
theorem d_Net_clashes_219 : decode prog_4_method_12_code 219 = .ok (.iload_n 3, 1) := by decide +kernel
theorem d_Net_clashes_220 : decode prog_4_method_12_code 220 = .ok (.iload 4, 2) := by decide +kernel
theorem d_Net_clashes_222 : decode prog_4_method_12_code 222 = .ok (.iload 5, 2) := by decide +kernel
theorem d_Net_clashes_224 : decode prog_4_method_12_code 224 = .ok (.iload 8, 2) := by decide +kernel
theorem d_Net_clashes_226 : decode prog_4_method_12_code 226 = .ok (.iload 9, 2) := by decide +kernel
theorem d_Net_clashes_228 : decode prog_4_method_12_code 228 = .ok (.invokestatic 80, 3) := by decide +kernel
theorem d_Net_clashes_231 : decode prog_4_method_12_code 231 = .ok (.ifCond .eq 7, 3) := by decide +kernel
theorem d_Net_clashes_234 : decode prog_4_method_12_code 234 = .ok (.iconst 1, 1) := by decide +kernel
theorem d_Net_clashes_235 : decode prog_4_method_12_code 235 = .ok (.goto 4, 3) := by decide +kernel
theorem d_Net_clashes_238 : decode prog_4_method_12_code 238 = .ok (.iconst 0, 1) := by decide +kernel
theorem d_Net_clashes_239 : decode prog_4_method_12_code 239 = .ok (.ireturn, 1) := by decide +kernel
theorem d_Net_isInTheWayOf_0 : decode prog_4_method_11_code 0 = .ok (.iconst 0, 1) := by decide +kernel
theorem d_Net_isInTheWayOf_1 : decode prog_4_method_11_code 1 = .ok (.istore 5, 2) := by decide +kernel
theorem d_Net_isInTheWayOf_3 : decode prog_4_method_11_code 3 = .ok (.iload 5, 2) := by decide +kernel
theorem d_Net_isInTheWayOf_5 : decode prog_4_method_11_code 5 = .ok (.aload_n 0, 1) := by decide +kernel
theorem d_Net_isInTheWayOf_6 : decode prog_4_method_11_code 6 = .ok (.invokevirtual 52, 3) := by decide +kernel
theorem d_Net_isInTheWayOf_9 : decode prog_4_method_11_code 9 = .ok (.if_icmp .ge 25, 3) := by decide +kernel
theorem d_Net_isInTheWayOf_12 : decode prog_4_method_11_code 12 = .ok (.aload_n 0, 1) := by decide +kernel
theorem d_Net_isInTheWayOf_13 : decode prog_4_method_11_code 13 = .ok (.iload 5, 2) := by decide +kernel
theorem d_Net_isInTheWayOf_15 : decode prog_4_method_11_code 15 = .ok (.iload_n 1, 1) := by decide +kernel
theorem d_Net_isInTheWayOf_16 : decode prog_4_method_11_code 16 = .ok (.iload_n 2, 1) := by decide +kernel
theorem d_Net_isInTheWayOf_17 : decode prog_4_method_11_code 17 = .ok (.iload_n 3, 1) := by decide +kernel
theorem d_Net_isInTheWayOf_18 : decode prog_4_method_11_code 18 = .ok (.iload 4, 2) := by decide +kernel
theorem d_Net_isInTheWayOf_20 : decode prog_4_method_11_code 20 = .ok (.invokevirtual 72, 3) := by decide +kernel
theorem d_Net_isInTheWayOf_23 : decode prog_4_method_11_code 23 = .ok (.ifCond .eq 5, 3) := by decide +kernel
theorem d_Net_isInTheWayOf_26 : decode prog_4_method_11_code 26 = .ok (.iconst 1, 1) := by decide +kernel
theorem d_Net_isInTheWayOf_27 : decode prog_4_method_11_code 27 = .ok (.ireturn, 1) := by decide +kernel
theorem d_Net_isInTheWayOf_28 : decode prog_4_method_11_code 28 = .ok (.iinc 5 1, 3) := by decide +kernel
theorem d_Net_isInTheWayOf_31 : decode prog_4_method_11_code 31 = .ok (.goto (-28), 3) := by decide +kernel
theorem d_Net_isInTheWayOf_34 : decode prog_4_method_11_code 34 = .ok (.iconst 0, 1) := by decide +kernel
theorem d_Net_isInTheWayOf_35 : decode prog_4_method_11_code 35 = .ok (.ireturn, 1) := by decide +kernel
theorem d_Net_isPlaceLess_0 : decode prog_4_method_15_code 0 = .ok (.aload_n 0, 1) := by decide +kernel
theorem d_Net_isPlaceLess_1 : decode prog_4_method_15_code 1 = .ok (.getfield 12, 3) := by decide +kernel
theorem d_Net_isPlaceLess_4 : decode prog_4_method_15_code 4 = .ok (.iload_n 1, 1) := by decide +kernel
theorem d_Net_isPlaceLess_5 : decode prog_4_method_15_code 5 = .ok (.invokevirtual 44, 3) := by decide +kernel
theorem d_Net_isPlaceLess_8 : decode prog_4_method_15_code 8 = .ok (.aload_n 0, 1) := by decide +kernel
theorem d_Net_isPlaceLess_9 : decode prog_4_method_15_code 9 = .ok (.getfield 18, 3) := by decide +kernel
theorem d_Net_isPlaceLess_12 : decode prog_4_method_15_code 12 = .ok (.iload_n 1, 1) := by decide +kernel
theorem d_Net_isPlaceLess_13 : decode prog_4_method_15_code 13 = .ok (.invokevirtual 44, 3) := by decide +kernel
theorem d_Net_isPlaceLess_16 : decode prog_4_method_15_code 16 = .ok (.aload_n 0, 1) := by decide +kernel
theorem d_Net_isPlaceLess_17 : decode prog_4_method_15_code 17 = .ok (.getfield 12, 3) := by decide +kernel
theorem d_Net_isPlaceLess_20 : decode prog_4_method_15_code 20 = .ok (.iload_n 2, 1) := by decide +kernel
theorem d_Net_isPlaceLess_21 : decode prog_4_method_15_code 21 = .ok (.invokevirtual 44, 3) := by decide +kernel
theorem d_Net_isPlaceLess_24 : decode prog_4_method_15_code 24 = .ok (.aload_n 0, 1) := by decide +kernel
theorem d_Net_isPlaceLess_25 : decode prog_4_method_15_code 25 = .ok (.getfield 18, 3) := by decide +kernel
theorem d_Net_isPlaceLess_28 : decode prog_4_method_15_code 28 = .ok (.iload_n 2, 1) := by decide +kernel
theorem d_Net_isPlaceLess_29 : decode prog_4_method_15_code 29 = .ok (.invokevirtual 44, 3) := by decide +kernel
theorem d_Net_isPlaceLess_32 : decode prog_4_method_15_code 32 = .ok (.invokestatic 58, 3) := by decide +kernel
theorem d_Net_isPlaceLess_35 : decode prog_4_method_15_code 35 = .ok (.ireturn, 1) := by decide +kernel
theorem d_Net_isStraight_0 : decode prog_4_method_16_code 0 = .ok (.aload_n 0, 1) := by decide +kernel
theorem d_Net_isStraight_1 : decode prog_4_method_16_code 1 = .ok (.getfield 12, 3) := by decide +kernel
theorem d_Net_isStraight_4 : decode prog_4_method_16_code 4 = .ok (.iload_n 1, 1) := by decide +kernel
theorem d_Net_isStraight_5 : decode prog_4_method_16_code 5 = .ok (.invokevirtual 44, 3) := by decide +kernel
theorem d_Net_isStraight_8 : decode prog_4_method_16_code 8 = .ok (.aload_n 0, 1) := by decide +kernel
theorem d_Net_isStraight_9 : decode prog_4_method_16_code 9 = .ok (.getfield 18, 3) := by decide +kernel
theorem d_Net_isStraight_12 : decode prog_4_method_16_code 12 = .ok (.iload_n 1, 1) := by decide +kernel
theorem d_Net_isStraight_13 : decode prog_4_method_16_code 13 = .ok (.invokevirtual 44, 3) := by decide +kernel
theorem d_Net_isStraight_16 : decode prog_4_method_16_code 16 = .ok (.aload_n 0, 1) := by decide +kernel
theorem d_Net_isStraight_17 : decode prog_4_method_16_code 17 = .ok (.getfield 12, 3) := by decide +kernel
theorem d_Net_isStraight_20 : decode prog_4_method_16_code 20 = .ok (.iload_n 2, 1) := by decide +kernel
theorem d_Net_isStraight_21 : decode prog_4_method_16_code 21 = .ok (.invokevirtual 44, 3) := by decide +kernel
theorem d_Net_isStraight_24 : decode prog_4_method_16_code 24 = .ok (.aload_n 0, 1) := by decide +kernel
theorem d_Net_isStraight_25 : decode prog_4_method_16_code 25 = .ok (.getfield 18, 3) := by decide +kernel
theorem d_Net_isStraight_28 : decode prog_4_method_16_code 28 = .ok (.iload_n 2, 1) := by decide +kernel
theorem d_Net_isStraight_29 : decode prog_4_method_16_code 29 = .ok (.invokevirtual 44, 3) := by decide +kernel
theorem d_Net_isStraight_32 : decode prog_4_method_16_code 32 = .ok (.aload_n 0, 1) := by decide +kernel
theorem d_Net_isStraight_33 : decode prog_4_method_16_code 33 = .ok (.getfield 12, 3) := by decide +kernel
theorem d_Net_isStraight_36 : decode prog_4_method_16_code 36 = .ok (.iload_n 3, 1) := by decide +kernel
theorem d_Net_isStraight_37 : decode prog_4_method_16_code 37 = .ok (.invokevirtual 44, 3) := by decide +kernel
theorem d_Net_isStraight_40 : decode prog_4_method_16_code 40 = .ok (.aload_n 0, 1) := by decide +kernel
theorem d_Net_isStraight_41 : decode prog_4_method_16_code 41 = .ok (.getfield 18, 3) := by decide +kernel
theorem d_Net_isStraight_44 : decode prog_4_method_16_code 44 = .ok (.iload_n 3, 1) := by decide +kernel
theorem d_Net_isStraight_45 : decode prog_4_method_16_code 45 = .ok (.invokevirtual 44, 3) := by decide +kernel
theorem d_Net_isStraight_48 : decode prog_4_method_16_code 48 = .ok (.invokestatic 76, 3) := by decide +kernel
theorem d_Net_isStraight_51 : decode prog_4_method_16_code 51 = .ok (.ifCond .ne 7, 3) := by decide +kernel
theorem d_Net_isStraight_54 : decode prog_4_method_16_code 54 = .ok (.iconst 1, 1) := by decide +kernel
theorem d_Net_isStraight_55 : decode prog_4_method_16_code 55 = .ok (.goto 4, 3) := by decide +kernel
theorem d_Net_isStraight_58 : decode prog_4_method_16_code 58 = .ok (.iconst 0, 1) := by decide +kernel
theorem d_Net_isStraight_59 : decode prog_4_method_16_code 59 = .ok (.ireturn, 1) := by decide +kernel
theorem d_Pla_isOn_0 : decode prog_5_method_5_code 0 = .ok (.iload_n 0, 1) := by decide +kernel
theorem d_Pla_isOn_1 : decode prog_5_method_5_code 1 = .ok (.iload_n 1, 1) := by decide +kernel
theorem d_Pla_isOn_2 : decode prog_5_method_5_code 2 = .ok (.iload_n 2, 1) := by decide +kernel
theorem d_Pla_isOn_3 : decode prog_5_method_5_code 3 = .ok (.iload_n 3, 1) := by decide +kernel
theorem d_Pla_isOn_4 : decode prog_5_method_5_code 4 = .ok (.iload 4, 2) := by decide +kernel
theorem d_Pla_isOn_6 : decode prog_5_method_5_code 6 = .ok (.iload 5, 2) := by decide +kernel
theorem d_Pla_isOn_8 : decode prog_5_method_5_code 8 = .ok (.invokestatic 16, 3) := by decide +kernel
theorem d_Pla_isOn_11 : decode prog_5_method_5_code 11 = .ok (.ifCond .eq 5, 3) := by decide +kernel
theorem d_Pla_isOn_14 : decode prog_5_method_5_code 14 = .ok (.iconst 0, 1) := by decide +kernel
theorem d_Pla_isOn_15 : decode prog_5_method_5_code 15 = .ok (.ireturn, 1) := by decide +kernel
theorem d_Pla_isOn_16 : decode prog_5_method_5_code 16 = .ok (.iload 4, 2) := by decide +kernel
theorem d_Pla_isOn_18 : decode prog_5_method_5_code 18 = .ok (.iload_n 0, 1) := by decide +kernel
theorem d_Pla_isOn_19 : decode prog_5_method_5_code 19 = .ok (.if_icmp .ne 9, 3) := by decide +kernel
theorem d_Pla_isOn_22 : decode prog_5_method_5_code 22 = .ok (.iload 5, 2) := by decide +kernel
theorem d_Pla_isOn_24 : decode prog_5_method_5_code 24 = .ok (.iload_n 1, 1) := by decide +kernel
theorem d_Pla_isOn_25 : decode prog_5_method_5_code 25 = .ok (.if_icmp .eq 29, 3) := by decide +kernel
theorem d_Pla_isOn_28 : decode prog_5_method_5_code 28 = .ok (.iload 4, 2) := by decide +kernel
theorem d_Pla_isOn_30 : decode prog_5_method_5_code 30 = .ok (.iload_n 2, 1) := by decide +kernel
theorem d_Pla_isOn_31 : decode prog_5_method_5_code 31 = .ok (.if_icmp .ne 9, 3) := by decide +kernel
theorem d_Pla_isOn_34 : decode prog_5_method_5_code 34 = .ok (.iload 5, 2) := by decide +kernel
theorem d_Pla_isOn_36 : decode prog_5_method_5_code 36 = .ok (.iload_n 3, 1) := by decide +kernel
theorem d_Pla_isOn_37 : decode prog_5_method_5_code 37 = .ok (.if_icmp .eq 17, 3) := by decide +kernel
theorem d_Pla_isOn_40 : decode prog_5_method_5_code 40 = .ok (.iload_n 0, 1) := by decide +kernel
theorem d_Pla_isOn_41 : decode prog_5_method_5_code 41 = .ok (.iload_n 1, 1) := by decide +kernel
theorem d_Pla_isOn_42 : decode prog_5_method_5_code 42 = .ok (.iload_n 2, 1) := by decide +kernel
theorem d_Pla_isOn_43 : decode prog_5_method_5_code 43 = .ok (.iload_n 3, 1) := by decide +kernel
theorem d_Pla_isOn_44 : decode prog_5_method_5_code 44 = .ok (.iload 4, 2) := by decide +kernel
theorem d_Pla_isOn_46 : decode prog_5_method_5_code 46 = .ok (.iload 5, 2) := by decide +kernel
theorem d_Pla_isOn_48 : decode prog_5_method_5_code 48 = .ok (.invokestatic 22, 3) := by decide +kernel
theorem d_Pla_isOn_51 : decode prog_5_method_5_code 51 = .ok (.ifCond .eq 7, 3) := by decide +kernel
theorem d_Pla_isOn_54 : decode prog_5_method_5_code 54 = .ok (.iconst 1, 1) := by decide +kernel
theorem d_Pla_isOn_55 : decode prog_5_method_5_code 55 = .ok (.goto 4, 3) := by decide +kernel
theorem d_Pla_isOn_58 : decode prog_5_method_5_code 58 = .ok (.iconst 0, 1) := by decide +kernel
theorem d_Pla_isOn_59 : decode prog_5_method_5_code 59 = .ok (.ireturn, 1) := by decide +kernel
theorem d_Rgs_toldCorners_0 : decode prog_6_method_2_code 0 = .ok (.aload_n 0, 1) := by decide +kernel
