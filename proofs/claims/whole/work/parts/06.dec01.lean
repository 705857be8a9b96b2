theorem d_Bnd_addWay_35 : decode prog_2_method_5_code 35 = .ok (.iload_n 1, 1) := by decide +kernel
theorem d_Bnd_addWay_36 : decode prog_2_method_5_code 36 = .ok (.aload_n 0, 1) := by decide +kernel
theorem d_Bnd_addWay_37 : decode prog_2_method_5_code 37 = .ok (.getfield 12, 3) := by decide +kernel
theorem d_Bnd_addWay_40 : decode prog_2_method_5_code 40 = .ok (.getfield 30, 3) := by decide +kernel
theorem d_Bnd_addWay_43 : decode prog_2_method_5_code 43 = .ok (.iconst 1, 1) := by decide +kernel
theorem d_Bnd_addWay_44 : decode prog_2_method_5_code 44 = .ok (.isub, 1) := by decide +kernel
theorem d_Bnd_addWay_45 : decode prog_2_method_5_code 45 = .ok (.invokevirtual 81, 3) := by decide +kernel
theorem d_Bnd_addWay_48 : decode prog_2_method_5_code 48 = .ok (.return_, 1) := by decide +kernel
theorem d_Bnd_addIfBoundary_0 : decode prog_2_method_4_code 0 = .ok (.aload_n 1, 1) := by decide +kernel
theorem d_Bnd_addIfBoundary_1 : decode prog_2_method_4_code 1 = .ok (.iload_n 2, 1) := by decide +kernel
theorem d_Bnd_addIfBoundary_2 : decode prog_2_method_4_code 2 = .ok (.invokevirtual 68, 3) := by decide +kernel
theorem d_Bnd_addIfBoundary_5 : decode prog_2_method_4_code 5 = .ok (.istore 4, 2) := by decide +kernel
theorem d_Bnd_addIfBoundary_7 : decode prog_2_method_4_code 7 = .ok (.iload 4, 2) := by decide +kernel
theorem d_Bnd_addIfBoundary_9 : decode prog_2_method_4_code 9 = .ok (.aload_n 1, 1) := by decide +kernel
theorem d_Bnd_addIfBoundary_10 : decode prog_2_method_4_code 10 = .ok (.getfield 50, 3) := by decide +kernel
theorem d_Bnd_addIfBoundary_13 : decode prog_2_method_4_code 13 = .ok (.iload_n 2, 1) := by decide +kernel
theorem d_Bnd_addIfBoundary_14 : decode prog_2_method_4_code 14 = .ok (.invokevirtual 53, 3) := by decide +kernel
theorem d_Bnd_addIfBoundary_17 : decode prog_2_method_4_code 17 = .ok (.ixor, 1) := by decide +kernel
theorem d_Bnd_addIfBoundary_18 : decode prog_2_method_4_code 18 = .ok (.istore 5, 2) := by decide +kernel
theorem d_Bnd_addIfBoundary_20 : decode prog_2_method_4_code 20 = .ok (.iload_n 3, 1) := by decide +kernel
theorem d_Bnd_addIfBoundary_21 : decode prog_2_method_4_code 21 = .ok (.iload 4, 2) := by decide +kernel
theorem d_Bnd_addIfBoundary_23 : decode prog_2_method_4_code 23 = .ok (.invokestatic 71, 3) := by decide +kernel
theorem d_Bnd_addIfBoundary_26 : decode prog_2_method_4_code 26 = .ok (.istore 6, 2) := by decide +kernel
theorem d_Bnd_addIfBoundary_28 : decode prog_2_method_4_code 28 = .ok (.iload_n 3, 1) := by decide +kernel
theorem d_Bnd_addIfBoundary_29 : decode prog_2_method_4_code 29 = .ok (.iload 5, 2) := by decide +kernel
theorem d_Bnd_addIfBoundary_31 : decode prog_2_method_4_code 31 = .ok (.invokestatic 71, 3) := by decide +kernel
theorem d_Bnd_addIfBoundary_34 : decode prog_2_method_4_code 34 = .ok (.istore 7, 2) := by decide +kernel
theorem d_Bnd_addIfBoundary_36 : decode prog_2_method_4_code 36 = .ok (.iload 6, 2) := by decide +kernel
theorem d_Bnd_addIfBoundary_38 : decode prog_2_method_4_code 38 = .ok (.ifCond .eq 31, 3) := by decide +kernel
theorem d_Bnd_addIfBoundary_41 : decode prog_2_method_4_code 41 = .ok (.iload 7, 2) := by decide +kernel
theorem d_Bnd_addIfBoundary_43 : decode prog_2_method_4_code 43 = .ok (.ifCond .ne 26, 3) := by decide +kernel
theorem d_Bnd_addIfBoundary_46 : decode prog_2_method_4_code 46 = .ok (.aload_n 0, 1) := by decide +kernel
theorem d_Bnd_addIfBoundary_47 : decode prog_2_method_4_code 47 = .ok (.aload_n 1, 1) := by decide +kernel
theorem d_Bnd_addIfBoundary_48 : decode prog_2_method_4_code 48 = .ok (.getfield 75, 3) := by decide +kernel
theorem d_Bnd_addIfBoundary_51 : decode prog_2_method_4_code 51 = .ok (.iload_n 2, 1) := by decide +kernel
theorem d_Bnd_addIfBoundary_52 : decode prog_2_method_4_code 52 = .ok (.invokevirtual 53, 3) := by decide +kernel
theorem d_Bnd_addIfBoundary_55 : decode prog_2_method_4_code 55 = .ok (.aload_n 1, 1) := by decide +kernel
theorem d_Bnd_addIfBoundary_56 : decode prog_2_method_4_code 56 = .ok (.getfield 76, 3) := by decide +kernel
theorem d_Bnd_addIfBoundary_59 : decode prog_2_method_4_code 59 = .ok (.iload_n 2, 1) := by decide +kernel
theorem d_Bnd_addIfBoundary_60 : decode prog_2_method_4_code 60 = .ok (.invokevirtual 53, 3) := by decide +kernel
theorem d_Bnd_addIfBoundary_63 : decode prog_2_method_4_code 63 = .ok (.invokevirtual 77, 3) := by decide +kernel
theorem d_Bnd_addIfBoundary_66 : decode prog_2_method_4_code 66 = .ok (.goto 33, 3) := by decide +kernel
theorem d_Bnd_addIfBoundary_69 : decode prog_2_method_4_code 69 = .ok (.iload 7, 2) := by decide +kernel
theorem d_Bnd_addIfBoundary_71 : decode prog_2_method_4_code 71 = .ok (.ifCond .eq 28, 3) := by decide +kernel
theorem d_Bnd_addIfBoundary_74 : decode prog_2_method_4_code 74 = .ok (.iload 6, 2) := by decide +kernel
theorem d_Bnd_addIfBoundary_76 : decode prog_2_method_4_code 76 = .ok (.ifCond .ne 23, 3) := by decide +kernel
theorem d_Bnd_addIfBoundary_79 : decode prog_2_method_4_code 79 = .ok (.aload_n 0, 1) := by decide +kernel
theorem d_Bnd_addIfBoundary_80 : decode prog_2_method_4_code 80 = .ok (.aload_n 1, 1) := by decide +kernel
theorem d_Bnd_addIfBoundary_81 : decode prog_2_method_4_code 81 = .ok (.getfield 76, 3) := by decide +kernel
theorem d_Bnd_addIfBoundary_84 : decode prog_2_method_4_code 84 = .ok (.iload_n 2, 1) := by decide +kernel
theorem d_Bnd_addIfBoundary_85 : decode prog_2_method_4_code 85 = .ok (.invokevirtual 53, 3) := by decide +kernel
theorem d_Bnd_addIfBoundary_88 : decode prog_2_method_4_code 88 = .ok (.aload_n 1, 1) := by decide +kernel
theorem d_Bnd_addIfBoundary_89 : decode prog_2_method_4_code 89 = .ok (.getfield 75, 3) := by decide +kernel
theorem d_Bnd_addIfBoundary_92 : decode prog_2_method_4_code 92 = .ok (.iload_n 2, 1) := by decide +kernel
theorem d_Bnd_addIfBoundary_93 : decode prog_2_method_4_code 93 = .ok (.invokevirtual 53, 3) := by decide +kernel
theorem d_Bnd_addIfBoundary_96 : decode prog_2_method_4_code 96 = .ok (.invokevirtual 77, 3) := by decide +kernel
theorem d_Bnd_addIfBoundary_99 : decode prog_2_method_4_code 99 = .ok (.return_, 1) := by decide +kernel
theorem d_Bnd_trace_0 : decode prog_2_method_3_code 0 = .ok (.aload_n 0, 1) := by decide +kernel
theorem d_Bnd_trace_1 : decode prog_2_method_3_code 1 = .ok (.getfield 12, 3) := by decide +kernel
theorem d_Bnd_trace_4 : decode prog_2_method_3_code 4 = .ok (.invokevirtual 34, 3) := by decide +kernel
theorem d_Bnd_trace_7 : decode prog_2_method_3_code 7 = .ok (.aload_n 0, 1) := by decide +kernel
theorem d_Bnd_trace_8 : decode prog_2_method_3_code 8 = .ok (.getfield 18, 3) := by decide +kernel
theorem d_Bnd_trace_11 : decode prog_2_method_3_code 11 = .ok (.invokevirtual 34, 3) := by decide +kernel
theorem d_Bnd_trace_14 : decode prog_2_method_3_code 14 = .ok (.aload_n 0, 1) := by decide +kernel
theorem d_Bnd_trace_15 : decode prog_2_method_3_code 15 = .ok (.getfield 21, 3) := by decide +kernel
theorem d_Bnd_trace_18 : decode prog_2_method_3_code 18 = .ok (.invokevirtual 34, 3) := by decide +kernel
theorem d_Bnd_trace_21 : decode prog_2_method_3_code 21 = .ok (.aload_n 0, 1) := by decide +kernel
theorem d_Bnd_trace_22 : decode prog_2_method_3_code 22 = .ok (.getfield 24, 3) := by decide +kernel
theorem d_Bnd_trace_25 : decode prog_2_method_3_code 25 = .ok (.invokevirtual 34, 3) := by decide +kernel
theorem d_Bnd_trace_28 : decode prog_2_method_3_code 28 = .ok (.aload_n 0, 1) := by decide +kernel
theorem d_Bnd_trace_29 : decode prog_2_method_3_code 29 = .ok (.getfield 27, 3) := by decide +kernel
theorem d_Bnd_trace_32 : decode prog_2_method_3_code 32 = .ok (.invokevirtual 34, 3) := by decide +kernel
theorem d_Bnd_trace_35 : decode prog_2_method_3_code 35 = .ok (.iconst 0, 1) := by decide +kernel
theorem d_Bnd_trace_36 : decode prog_2_method_3_code 36 = .ok (.istore_n 3, 1) := by decide +kernel
theorem d_Bnd_trace_37 : decode prog_2_method_3_code 37 = .ok (.iload_n 3, 1) := by decide +kernel
theorem d_Bnd_trace_38 : decode prog_2_method_3_code 38 = .ok (.aload_n 1, 1) := by decide +kernel
theorem d_Bnd_trace_39 : decode prog_2_method_3_code 39 = .ok (.invokevirtual 37, 3) := by decide +kernel
theorem d_Bnd_trace_42 : decode prog_2_method_3_code 42 = .ok (.if_icmp .ge 17, 3) := by decide +kernel
theorem d_Bnd_trace_45 : decode prog_2_method_3_code 45 = .ok (.aload_n 0, 1) := by decide +kernel
theorem d_Bnd_trace_46 : decode prog_2_method_3_code 46 = .ok (.getfield 24, 3) := by decide +kernel
theorem d_Bnd_trace_49 : decode prog_2_method_3_code 49 = .ok (.iconst (-1), 1) := by decide +kernel
theorem d_Bnd_trace_50 : decode prog_2_method_3_code 50 = .ok (.invokevirtual 43, 3) := by decide +kernel
theorem d_Bnd_trace_53 : decode prog_2_method_3_code 53 = .ok (.iinc 3 1, 3) := by decide +kernel
theorem d_Bnd_trace_56 : decode prog_2_method_3_code 56 = .ok (.goto (-19), 3) := by decide +kernel
theorem d_Bnd_trace_59 : decode prog_2_method_3_code 59 = .ok (.iconst 0, 1) := by decide +kernel
theorem d_Bnd_trace_60 : decode prog_2_method_3_code 60 = .ok (.istore_n 3, 1) := by decide +kernel
theorem d_Bnd_trace_61 : decode prog_2_method_3_code 61 = .ok (.iload_n 3, 1) := by decide +kernel
theorem d_Bnd_trace_62 : decode prog_2_method_3_code 62 = .ok (.aload_n 1, 1) := by decide +kernel
theorem d_Bnd_trace_63 : decode prog_2_method_3_code 63 = .ok (.invokevirtual 47, 3) := by decide +kernel
theorem d_Bnd_trace_66 : decode prog_2_method_3_code 66 = .ok (.if_icmp .ge 27, 3) := by decide +kernel
theorem d_Bnd_trace_69 : decode prog_2_method_3_code 69 = .ok (.aload_n 1, 1) := by decide +kernel
theorem d_Bnd_trace_70 : decode prog_2_method_3_code 70 = .ok (.getfield 50, 3) := by decide +kernel
theorem d_Bnd_trace_73 : decode prog_2_method_3_code 73 = .ok (.iload_n 3, 1) := by decide +kernel
theorem d_Bnd_trace_74 : decode prog_2_method_3_code 74 = .ok (.invokevirtual 53, 3) := by decide +kernel
theorem d_Bnd_trace_77 : decode prog_2_method_3_code 77 = .ok (.ifCond .eq 10, 3) := by decide +kernel
theorem d_Bnd_trace_80 : decode prog_2_method_3_code 80 = .ok (.aload_n 0, 1) := by decide +kernel
theorem d_Bnd_trace_81 : decode prog_2_method_3_code 81 = .ok (.aload_n 1, 1) := by decide +kernel
theorem d_Bnd_trace_82 : decode prog_2_method_3_code 82 = .ok (.iload_n 3, 1) := by decide +kernel
theorem d_Bnd_trace_83 : decode prog_2_method_3_code 83 = .ok (.iload_n 2, 1) := by decide +kernel
theorem d_Bnd_trace_84 : decode prog_2_method_3_code 84 = .ok (.invokevirtual 57, 3) := by decide +kernel
theorem d_Bnd_trace_87 : decode prog_2_method_3_code 87 = .ok (.iinc 3 1, 3) := by decide +kernel
theorem d_Bnd_trace_90 : decode prog_2_method_3_code 90 = .ok (.goto (-29), 3) := by decide +kernel
theorem d_Bnd_trace_93 : decode prog_2_method_3_code 93 = .ok (.iconst 0, 1) := by decide +kernel
theorem d_Bnd_trace_94 : decode prog_2_method_3_code 94 = .ok (.istore_n 3, 1) := by decide +kernel
theorem d_Bnd_trace_95 : decode prog_2_method_3_code 95 = .ok (.iload_n 3, 1) := by decide +kernel
theorem d_Bnd_trace_96 : decode prog_2_method_3_code 96 = .ok (.aload_n 0, 1) := by decide +kernel
theorem d_Bnd_trace_97 : decode prog_2_method_3_code 97 = .ok (.invokevirtual 61, 3) := by decide +kernel
theorem d_Bnd_trace_100 : decode prog_2_method_3_code 100 = .ok (.if_icmp .ge 22, 3) := by decide +kernel
theorem d_Bnd_trace_103 : decode prog_2_method_3_code 103 = .ok (.aload_n 0, 1) := by decide +kernel
theorem d_Bnd_trace_104 : decode prog_2_method_3_code 104 = .ok (.getfield 21, 3) := by decide +kernel
theorem d_Bnd_trace_107 : decode prog_2_method_3_code 107 = .ok (.aload_n 0, 1) := by decide +kernel
theorem d_Bnd_trace_108 : decode prog_2_method_3_code 108 = .ok (.aload_n 1, 1) := by decide +kernel
theorem d_Bnd_trace_109 : decode prog_2_method_3_code 109 = .ok (.iload_n 3, 1) := by decide +kernel
theorem d_Bnd_trace_110 : decode prog_2_method_3_code 110 = .ok (.invokevirtual 64, 3) := by decide +kernel
theorem d_Bnd_trace_113 : decode prog_2_method_3_code 113 = .ok (.invokevirtual 43, 3) := by decide +kernel
theorem d_Bnd_trace_116 : decode prog_2_method_3_code 116 = .ok (.iinc 3 1, 3) := by decide +kernel
theorem d_Bnd_trace_119 : decode prog_2_method_3_code 119 = .ok (.goto (-24), 3) := by decide +kernel
theorem d_Bnd_trace_122 : decode prog_2_method_3_code 122 = .ok (.return_, 1) := by decide +kernel
theorem d_Mul_forget_0 : decode prog_3_method_2_code 0 = .ok (.aload_n 0, 1) := by decide +kernel
theorem d_Mul_forget_1 : decode prog_3_method_2_code 1 = .ok (.getfield 12, 3) := by decide +kernel
theorem d_Mul_forget_4 : decode prog_3_method_2_code 4 = .ok (.invokevirtual 32, 3) := by decide +kernel
theorem d_Mul_forget_7 : decode prog_3_method_2_code 7 = .ok (.aload_n 0, 1) := by decide +kernel
theorem d_Mul_forget_8 : decode prog_3_method_2_code 8 = .ok (.getfield 18, 3) := by decide +kernel
theorem d_Mul_forget_11 : decode prog_3_method_2_code 11 = .ok (.invokevirtual 32, 3) := by decide +kernel
theorem d_Mul_forget_14 : decode prog_3_method_2_code 14 = .ok (.aload_n 0, 1) := by decide +kernel
theorem d_Mul_forget_15 : decode prog_3_method_2_code 15 = .ok (.getfield 21, 3) := by decide +kernel
theorem d_Mul_forget_18 : decode prog_3_method_2_code 18 = .ok (.invokevirtual 32, 3) := by decide +kernel
theorem d_Mul_forget_21 : decode prog_3_method_2_code 21 = .ok (.aload_n 0, 1) := by decide +kernel
theorem d_Mul_forget_22 : decode prog_3_method_2_code 22 = .ok (.iconst 0, 1) := by decide +kernel
theorem d_Mul_forget_23 : decode prog_3_method_2_code 23 = .ok (.putfield 24, 3) := by decide +kernel
theorem d_Mul_forget_26 : decode prog_3_method_2_code 26 = .ok (.aload_n 0, 1) := by decide +kernel
theorem d_Mul_forget_27 : decode prog_3_method_2_code 27 = .ok (.lconst 0, 1) := by decide +kernel
theorem d_Mul_forget_28 : decode prog_3_method_2_code 28 = .ok (.putfield 28, 3) := by decide +kernel
theorem d_Mul_forget_31 : decode prog_3_method_2_code 31 = .ok (.return_, 1) := by decide +kernel
theorem d_Rgs_startOf_0 : decode prog_6_method_4_code 0 = .ok (.aload_n 0, 1) := by decide +kernel
theorem d_Rgs_startOf_1 : decode prog_6_method_4_code 1 = .ok (.getfield 21, 3) := by decide +kernel
theorem d_Rgs_startOf_4 : decode prog_6_method_4_code 4 = .ok (.iload_n 1, 1) := by decide +kernel
theorem d_Rgs_startOf_5 : decode prog_6_method_4_code 5 = .ok (.invokevirtual 46, 3) := by decide +kernel
theorem d_Rgs_startOf_8 : decode prog_6_method_4_code 8 = .ok (.ireturn, 1) := by decide +kernel
theorem d_Rgs_endOf_0 : decode prog_6_method_5_code 0 = .ok (.iload_n 1, 1) := by decide +kernel
theorem d_Rgs_endOf_1 : decode prog_6_method_5_code 1 = .ok (.iconst 1, 1) := by decide +kernel
theorem d_Rgs_endOf_2 : decode prog_6_method_5_code 2 = .ok (.iadd, 1) := by decide +kernel
theorem d_Rgs_endOf_3 : decode prog_6_method_5_code 3 = .ok (.aload_n 0, 1) := by decide +kernel
theorem d_Rgs_endOf_4 : decode prog_6_method_5_code 4 = .ok (.getfield 21, 3) := by decide +kernel
theorem d_Rgs_endOf_7 : decode prog_6_method_5_code 7 = .ok (.getfield 43, 3) := by decide +kernel
theorem d_Rgs_endOf_10 : decode prog_6_method_5_code 10 = .ok (.if_icmp .ge 16, 3) := by decide +kernel
theorem d_Rgs_endOf_13 : decode prog_6_method_5_code 13 = .ok (.aload_n 0, 1) := by decide +kernel
theorem d_Rgs_endOf_14 : decode prog_6_method_5_code 14 = .ok (.getfield 21, 3) := by decide +kernel
theorem d_Rgs_endOf_17 : decode prog_6_method_5_code 17 = .ok (.iload_n 1, 1) := by decide +kernel
theorem d_Rgs_endOf_18 : decode prog_6_method_5_code 18 = .ok (.iconst 1, 1) := by decide +kernel
theorem d_Rgs_endOf_19 : decode prog_6_method_5_code 19 = .ok (.iadd, 1) := by decide +kernel
theorem d_Rgs_endOf_20 : decode prog_6_method_5_code 20 = .ok (.invokevirtual 46, 3) := by decide +kernel
theorem d_Rgs_endOf_23 : decode prog_6_method_5_code 23 = .ok (.goto 10, 3) := by decide +kernel
theorem d_Rgs_endOf_26 : decode prog_6_method_5_code 26 = .ok (.aload_n 0, 1) := by decide +kernel
theorem d_Rgs_endOf_27 : decode prog_6_method_5_code 27 = .ok (.getfield 12, 3) := by decide +kernel
theorem d_Rgs_endOf_30 : decode prog_6_method_5_code 30 = .ok (.getfield 43, 3) := by decide +kernel
theorem d_Rgs_endOf_33 : decode prog_6_method_5_code 33 = .ok (.ireturn, 1) := by decide +kernel
theorem d_Rgs_twiceAreaOf_0 : decode prog_6_method_11_code 0 = .ok (.aload_n 0, 1) := by decide +kernel
theorem d_Rgs_twiceAreaOf_1 : decode prog_6_method_11_code 1 = .ok (.iload_n 1, 1) := by decide +kernel
theorem d_Rgs_twiceAreaOf_2 : decode prog_6_method_11_code 2 = .ok (.invokevirtual 116, 3) := by decide +kernel
theorem d_Rgs_twiceAreaOf_5 : decode prog_6_method_11_code 5 = .ok (.iconst 1, 1) := by decide +kernel
theorem d_Rgs_twiceAreaOf_6 : decode prog_6_method_11_code 6 = .ok (.isub, 1) := by decide +kernel
theorem d_Rgs_twiceAreaOf_7 : decode prog_6_method_11_code 7 = .ok (.istore_n 2, 1) := by decide +kernel
theorem d_Rgs_twiceAreaOf_8 : decode prog_6_method_11_code 8 = .ok (.lconst 0, 1) := by decide +kernel
theorem d_Rgs_twiceAreaOf_9 : decode prog_6_method_11_code 9 = .ok (.lstore_n 3, 1) := by decide +kernel
theorem d_Rgs_twiceAreaOf_10 : decode prog_6_method_11_code 10 = .ok (.aload_n 0, 1) := by decide +kernel
theorem d_Rgs_twiceAreaOf_11 : decode prog_6_method_11_code 11 = .ok (.iload_n 1, 1) := by decide +kernel
theorem d_Rgs_twiceAreaOf_12 : decode prog_6_method_11_code 12 = .ok (.invokevirtual 119, 3) := by decide +kernel
theorem d_Rgs_twiceAreaOf_15 : decode prog_6_method_11_code 15 = .ok (.istore 5, 2) := by decide +kernel
theorem d_Rgs_twiceAreaOf_17 : decode prog_6_method_11_code 17 = .ok (.iload 5, 2) := by decide +kernel
theorem d_Rgs_twiceAreaOf_19 : decode prog_6_method_11_code 19 = .ok (.iload_n 2, 1) := by decide +kernel
theorem d_Rgs_twiceAreaOf_20 : decode prog_6_method_11_code 20 = .ok (.if_icmp .gt 75, 3) := by decide +kernel
theorem d_Rgs_twiceAreaOf_23 : decode prog_6_method_11_code 23 = .ok (.iload 5, 2) := by decide +kernel
theorem d_Rgs_twiceAreaOf_25 : decode prog_6_method_11_code 25 = .ok (.iload_n 2, 1) := by decide +kernel
theorem d_Rgs_twiceAreaOf_26 : decode prog_6_method_11_code 26 = .ok (.if_icmp .ge 10, 3) := by decide +kernel
theorem d_Rgs_twiceAreaOf_29 : decode prog_6_method_11_code 29 = .ok (.iload 5, 2) := by decide +kernel
theorem d_Rgs_twiceAreaOf_31 : decode prog_6_method_11_code 31 = .ok (.iconst 1, 1) := by decide +kernel
theorem d_Rgs_twiceAreaOf_32 : decode prog_6_method_11_code 32 = .ok (.iadd, 1) := by decide +kernel
theorem d_Rgs_twiceAreaOf_33 : decode prog_6_method_11_code 33 = .ok (.goto 8, 3) := by decide +kernel
theorem d_Rgs_twiceAreaOf_36 : decode prog_6_method_11_code 36 = .ok (.aload_n 0, 1) := by decide +kernel
theorem d_Rgs_twiceAreaOf_37 : decode prog_6_method_11_code 37 = .ok (.iload_n 1, 1) := by decide +kernel
theorem d_Rgs_twiceAreaOf_38 : decode prog_6_method_11_code 38 = .ok (.invokevirtual 119, 3) := by decide +kernel
theorem d_Rgs_twiceAreaOf_41 : decode prog_6_method_11_code 41 = .ok (.istore 6, 2) := by decide +kernel
theorem d_Rgs_twiceAreaOf_43 : decode prog_6_method_11_code 43 = .ok (.lload_n 3, 1) := by decide +kernel
theorem d_Rgs_twiceAreaOf_44 : decode prog_6_method_11_code 44 = .ok (.aload_n 0, 1) := by decide +kernel
theorem d_Rgs_twiceAreaOf_45 : decode prog_6_method_11_code 45 = .ok (.getfield 12, 3) := by decide +kernel
theorem d_Rgs_twiceAreaOf_48 : decode prog_6_method_11_code 48 = .ok (.iload 5, 2) := by decide +kernel
theorem d_Rgs_twiceAreaOf_50 : decode prog_6_method_11_code 50 = .ok (.invokevirtual 46, 3) := by decide +kernel
theorem d_Rgs_twiceAreaOf_53 : decode prog_6_method_11_code 53 = .ok (.i2l, 1) := by decide +kernel
theorem d_Rgs_twiceAreaOf_54 : decode prog_6_method_11_code 54 = .ok (.aload_n 0, 1) := by decide +kernel
theorem d_Rgs_twiceAreaOf_55 : decode prog_6_method_11_code 55 = .ok (.getfield 18, 3) := by decide +kernel
theorem d_Rgs_twiceAreaOf_58 : decode prog_6_method_11_code 58 = .ok (.iload 6, 2) := by decide +kernel
theorem d_Rgs_twiceAreaOf_60 : decode prog_6_method_11_code 60 = .ok (.invokevirtual 46, 3) := by decide +kernel
theorem d_Rgs_twiceAreaOf_63 : decode prog_6_method_11_code 63 = .ok (.i2l, 1) := by decide +kernel
theorem d_Rgs_twiceAreaOf_64 : decode prog_6_method_11_code 64 = .ok (.lmul, 1) := by decide +kernel
theorem d_Rgs_twiceAreaOf_65 : decode prog_6_method_11_code 65 = .ok (.aload_n 0, 1) := by decide +kernel
theorem d_Rgs_twiceAreaOf_66 : decode prog_6_method_11_code 66 = .ok (.getfield 12, 3) := by decide +kernel
theorem d_Rgs_twiceAreaOf_69 : decode prog_6_method_11_code 69 = .ok (.iload 6, 2) := by decide +kernel
theorem d_Rgs_twiceAreaOf_71 : decode prog_6_method_11_code 71 = .ok (.invokevirtual 46, 3) := by decide +kernel
theorem d_Rgs_twiceAreaOf_74 : decode prog_6_method_11_code 74 = .ok (.i2l, 1) := by decide +kernel
theorem d_Rgs_twiceAreaOf_75 : decode prog_6_method_11_code 75 = .ok (.aload_n 0, 1) := by decide +kernel
theorem d_Rgs_twiceAreaOf_76 : decode prog_6_method_11_code 76 = .ok (.getfield 18, 3) := by decide +kernel
theorem d_Rgs_twiceAreaOf_79 : decode prog_6_method_11_code 79 = .ok (.iload 5, 2) := by decide +kernel
theorem d_Rgs_twiceAreaOf_81 : decode prog_6_method_11_code 81 = .ok (.invokevirtual 46, 3) := by decide +kernel
theorem d_Rgs_twiceAreaOf_84 : decode prog_6_method_11_code 84 = .ok (.i2l, 1) := by decide +kernel
theorem d_Rgs_twiceAreaOf_85 : decode prog_6_method_11_code 85 = .ok (.lmul, 1) := by decide +kernel
theorem d_Rgs_twiceAreaOf_86 : decode prog_6_method_11_code 86 = .ok (.lsub, 1) := by decide +kernel
theorem d_Rgs_twiceAreaOf_87 : decode prog_6_method_11_code 87 = .ok (.ladd, 1) := by decide +kernel
theorem d_Rgs_twiceAreaOf_88 : decode prog_6_method_11_code 88 = .ok (.lstore_n 3, 1) := by decide +kernel
theorem d_Rgs_twiceAreaOf_89 : decode prog_6_method_11_code 89 = .ok (.iinc 5 1, 3) := by decide +kernel
theorem d_Rgs_twiceAreaOf_92 : decode prog_6_method_11_code 92 = .ok (.goto (-75), 3) := by decide +kernel
theorem d_Rgs_twiceAreaOf_95 : decode prog_6_method_11_code 95 = .ok (.lload_n 3, 1) := by decide +kernel
theorem d_Rgs_twiceAreaOf_96 : decode prog_6_method_11_code 96 = .ok (.lreturn, 1) := by decide +kernel
theorem d_Mul_tellRing_0 : decode prog_3_method_5_code 0 = .ok (.aload_n 1, 1) := by decide +kernel
theorem d_Mul_tellRing_1 : decode prog_3_method_5_code 1 = .ok (.iload_n 2, 1) := by decide +kernel
theorem d_Mul_tellRing_2 : decode prog_3_method_5_code 2 = .ok (.invokevirtual 68, 3) := by decide +kernel
theorem d_Mul_tellRing_5 : decode prog_3_method_5_code 5 = .ok (.istore_n 3, 1) := by decide +kernel
theorem d_Mul_tellRing_6 : decode prog_3_method_5_code 6 = .ok (.aload_n 1, 1) := by decide +kernel
theorem d_Mul_tellRing_7 : decode prog_3_method_5_code 7 = .ok (.iload_n 2, 1) := by decide +kernel
theorem d_Mul_tellRing_8 : decode prog_3_method_5_code 8 = .ok (.invokevirtual 71, 3) := by decide +kernel
theorem d_Mul_tellRing_11 : decode prog_3_method_5_code 11 = .ok (.istore 4, 2) := by decide +kernel
theorem d_Mul_tellRing_13 : decode prog_3_method_5_code 13 = .ok (.iload_n 3, 1) := by decide +kernel
theorem d_Mul_tellRing_14 : decode prog_3_method_5_code 14 = .ok (.istore 5, 2) := by decide +kernel
theorem d_Mul_tellRing_16 : decode prog_3_method_5_code 16 = .ok (.iload 5, 2) := by decide +kernel
theorem d_Mul_tellRing_18 : decode prog_3_method_5_code 18 = .ok (.iload 4, 2) := by decide +kernel
theorem d_Mul_tellRing_20 : decode prog_3_method_5_code 20 = .ok (.if_icmp .ge 41, 3) := by decide +kernel
theorem d_Mul_tellRing_23 : decode prog_3_method_5_code 23 = .ok (.aload_n 0, 1) := by decide +kernel
theorem d_Mul_tellRing_24 : decode prog_3_method_5_code 24 = .ok (.getfield 18, 3) := by decide +kernel
theorem d_Mul_tellRing_27 : decode prog_3_method_5_code 27 = .ok (.aload_n 1, 1) := by decide +kernel
theorem d_Mul_tellRing_28 : decode prog_3_method_5_code 28 = .ok (.getfield 74, 3) := by decide +kernel
theorem d_Mul_tellRing_31 : decode prog_3_method_5_code 31 = .ok (.iload 5, 2) := by decide +kernel
theorem d_Mul_tellRing_33 : decode prog_3_method_5_code 33 = .ok (.invokevirtual 50, 3) := by decide +kernel
theorem d_Mul_tellRing_36 : decode prog_3_method_5_code 36 = .ok (.invokevirtual 40, 3) := by decide +kernel
theorem d_Mul_tellRing_39 : decode prog_3_method_5_code 39 = .ok (.aload_n 0, 1) := by decide +kernel
theorem d_Mul_tellRing_40 : decode prog_3_method_5_code 40 = .ok (.getfield 21, 3) := by decide +kernel
theorem d_Mul_tellRing_43 : decode prog_3_method_5_code 43 = .ok (.aload_n 1, 1) := by decide +kernel
theorem d_Mul_tellRing_44 : decode prog_3_method_5_code 44 = .ok (.getfield 75, 3) := by decide +kernel
theorem d_Mul_tellRing_47 : decode prog_3_method_5_code 47 = .ok (.iload 5, 2) := by decide +kernel
theorem d_Mul_tellRing_49 : decode prog_3_method_5_code 49 = .ok (.invokevirtual 50, 3) := by decide +kernel
theorem d_Mul_tellRing_52 : decode prog_3_method_5_code 52 = .ok (.invokevirtual 40, 3) := by decide +kernel
theorem d_Mul_tellRing_55 : decode prog_3_method_5_code 55 = .ok (.iinc 5 1, 3) := by decide +kernel
theorem d_Mul_tellRing_58 : decode prog_3_method_5_code 58 = .ok (.goto (-42), 3) := by decide +kernel
theorem d_Mul_tellRing_61 : decode prog_3_method_5_code 61 = .ok (.aload_n 0, 1) := by decide +kernel
theorem d_Mul_tellRing_62 : decode prog_3_method_5_code 62 = .ok (.getfield 18, 3) := by decide +kernel
theorem d_Mul_tellRing_65 : decode prog_3_method_5_code 65 = .ok (.aload_n 1, 1) := by decide +kernel
theorem d_Mul_tellRing_66 : decode prog_3_method_5_code 66 = .ok (.getfield 74, 3) := by decide +kernel
theorem d_Mul_tellRing_69 : decode prog_3_method_5_code 69 = .ok (.iload_n 3, 1) := by decide +kernel
theorem d_Mul_tellRing_70 : decode prog_3_method_5_code 70 = .ok (.invokevirtual 50, 3) := by decide +kernel
theorem d_Mul_tellRing_73 : decode prog_3_method_5_code 73 = .ok (.invokevirtual 40, 3) := by decide +kernel
theorem d_Mul_tellRing_76 : decode prog_3_method_5_code 76 = .ok (.aload_n 0, 1) := by decide +kernel
theorem d_Mul_tellRing_77 : decode prog_3_method_5_code 77 = .ok (.getfield 21, 3) := by decide +kernel
theorem d_Mul_tellRing_80 : decode prog_3_method_5_code 80 = .ok (.aload_n 1, 1) := by decide +kernel
theorem d_Mul_tellRing_81 : decode prog_3_method_5_code 81 = .ok (.getfield 75, 3) := by decide +kernel
theorem d_Mul_tellRing_84 : decode prog_3_method_5_code 84 = .ok (.iload_n 3, 1) := by decide +kernel
theorem d_Mul_tellRing_85 : decode prog_3_method_5_code 85 = .ok (.invokevirtual 50, 3) := by decide +kernel
theorem d_Mul_tellRing_88 : decode prog_3_method_5_code 88 = .ok (.invokevirtual 40, 3) := by decide +kernel
theorem d_Mul_tellRing_91 : decode prog_3_method_5_code 91 = .ok (.aload_n 0, 1) := by decide +kernel
theorem d_Mul_tellRing_92 : decode prog_3_method_5_code 92 = .ok (.getfield 12, 3) := by decide +kernel
theorem d_Mul_tellRing_95 : decode prog_3_method_5_code 95 = .ok (.iload 4, 2) := by decide +kernel
theorem d_Mul_tellRing_97 : decode prog_3_method_5_code 97 = .ok (.iload_n 3, 1) := by decide +kernel
theorem d_Mul_tellRing_98 : decode prog_3_method_5_code 98 = .ok (.isub, 1) := by decide +kernel
theorem d_Mul_tellRing_99 : decode prog_3_method_5_code 99 = .ok (.iconst 1, 1) := by decide +kernel
theorem d_Mul_tellRing_100 : decode prog_3_method_5_code 100 = .ok (.iadd, 1) := by decide +kernel
theorem d_Mul_tellRing_101 : decode prog_3_method_5_code 101 = .ok (.invokevirtual 40, 3) := by decide +kernel
theorem d_Mul_tellRing_104 : decode prog_3_method_5_code 104 = .ok (.aload_n 0, 1) := by decide +kernel
theorem d_Mul_tellRing_105 : decode prog_3_method_5_code 105 = .ok (.dup, 1) := by decide +kernel
theorem d_Mul_tellRing_106 : decode prog_3_method_5_code 106 = .ok (.getfield 28, 3) := by decide +kernel
theorem d_Mul_tellRing_109 : decode prog_3_method_5_code 109 = .ok (.aload_n 1, 1) := by decide +kernel
theorem d_Mul_tellRing_110 : decode prog_3_method_5_code 110 = .ok (.iload_n 2, 1) := by decide +kernel
theorem d_Mul_tellRing_111 : decode prog_3_method_5_code 111 = .ok (.invokevirtual 76, 3) := by decide +kernel
theorem d_Mul_tellRing_114 : decode prog_3_method_5_code 114 = .ok (.ladd, 1) := by decide +kernel
theorem d_Mul_tellRing_115 : decode prog_3_method_5_code 115 = .ok (.putfield 28, 3) := by decide +kernel
theorem d_Mul_tellRing_118 : decode prog_3_method_5_code 118 = .ok (.return_, 1) := by decide +kernel
theorem d_Mul_tellPolygon_0 : decode prog_3_method_4_code 0 = .ok (.aload_n 0, 1) := by decide +kernel
theorem d_Mul_tellPolygon_1 : decode prog_3_method_4_code 1 = .ok (.getfield 12, 3) := by decide +kernel
theorem d_Mul_tellPolygon_4 : decode prog_3_method_4_code 4 = .ok (.iconst 3, 1) := by decide +kernel
theorem d_Mul_tellPolygon_5 : decode prog_3_method_4_code 5 = .ok (.invokevirtual 40, 3) := by decide +kernel
theorem d_Mul_tellPolygon_8 : decode prog_3_method_4_code 8 = .ok (.aload_n 0, 1) := by decide +kernel
theorem d_Mul_tellPolygon_9 : decode prog_3_method_4_code 9 = .ok (.getfield 12, 3) := by decide +kernel
theorem d_Mul_tellPolygon_12 : decode prog_3_method_4_code 12 = .ok (.getfield 47, 3) := by decide +kernel
theorem d_Mul_tellPolygon_15 : decode prog_3_method_4_code 15 = .ok (.istore_n 3, 1) := by decide +kernel
theorem d_Mul_tellPolygon_16 : decode prog_3_method_4_code 16 = .ok (.aload_n 0, 1) := by decide +kernel
theorem d_Mul_tellPolygon_17 : decode prog_3_method_4_code 17 = .ok (.getfield 12, 3) := by decide +kernel
theorem d_Mul_tellPolygon_20 : decode prog_3_method_4_code 20 = .ok (.iconst 1, 1) := by decide +kernel
theorem d_Mul_tellPolygon_21 : decode prog_3_method_4_code 21 = .ok (.invokevirtual 40, 3) := by decide +kernel
theorem d_Mul_tellPolygon_24 : decode prog_3_method_4_code 24 = .ok (.aload_n 0, 1) := by decide +kernel
theorem d_Mul_tellPolygon_25 : decode prog_3_method_4_code 25 = .ok (.aload_n 1, 1) := by decide +kernel
theorem d_Mul_tellPolygon_26 : decode prog_3_method_4_code 26 = .ok (.iload_n 2, 1) := by decide +kernel
theorem d_Mul_tellPolygon_27 : decode prog_3_method_4_code 27 = .ok (.invokevirtual 61, 3) := by decide +kernel
theorem d_Mul_tellPolygon_30 : decode prog_3_method_4_code 30 = .ok (.iconst 0, 1) := by decide +kernel
theorem d_Mul_tellPolygon_31 : decode prog_3_method_4_code 31 = .ok (.istore 4, 2) := by decide +kernel
theorem d_Mul_tellPolygon_33 : decode prog_3_method_4_code 33 = .ok (.iload 4, 2) := by decide +kernel
theorem d_Mul_tellPolygon_35 : decode prog_3_method_4_code 35 = .ok (.aload_n 1, 1) := by decide +kernel
theorem d_Mul_tellPolygon_36 : decode prog_3_method_4_code 36 = .ok (.getfield 44, 3) := by decide +kernel
theorem d_Mul_tellPolygon_39 : decode prog_3_method_4_code 39 = .ok (.getfield 47, 3) := by decide +kernel
theorem d_Mul_tellPolygon_42 : decode prog_3_method_4_code 42 = .ok (.if_icmp .ge 64, 3) := by decide +kernel
theorem d_Mul_tellPolygon_45 : decode prog_3_method_4_code 45 = .ok (.aload_n 1, 1) := by decide +kernel
theorem d_Mul_tellPolygon_46 : decode prog_3_method_4_code 46 = .ok (.getfield 44, 3) := by decide +kernel
theorem d_Mul_tellPolygon_49 : decode prog_3_method_4_code 49 = .ok (.iload 4, 2) := by decide +kernel
theorem d_Mul_tellPolygon_51 : decode prog_3_method_4_code 51 = .ok (.invokevirtual 50, 3) := by decide +kernel
theorem d_Mul_tellPolygon_54 : decode prog_3_method_4_code 54 = .ok (.istore 5, 2) := by decide +kernel
theorem d_Mul_tellPolygon_56 : decode prog_3_method_4_code 56 = .ok (.iload 5, 2) := by decide +kernel
theorem d_Mul_tellPolygon_58 : decode prog_3_method_4_code 58 = .ok (.iload_n 2, 1) := by decide +kernel
theorem d_Mul_tellPolygon_59 : decode prog_3_method_4_code 59 = .ok (.if_icmp .eq 41, 3) := by decide +kernel
theorem d_Mul_tellPolygon_62 : decode prog_3_method_4_code 62 = .ok (.aload_n 1, 1) := by decide +kernel
theorem d_Mul_tellPolygon_63 : decode prog_3_method_4_code 63 = .ok (.getfield 54, 3) := by decide +kernel
theorem d_Mul_tellPolygon_66 : decode prog_3_method_4_code 66 = .ok (.iload 5, 2) := by decide +kernel
theorem d_Mul_tellPolygon_68 : decode prog_3_method_4_code 68 = .ok (.invokevirtual 50, 3) := by decide +kernel
theorem d_Mul_tellPolygon_71 : decode prog_3_method_4_code 71 = .ok (.iload_n 2, 1) := by decide +kernel
theorem d_Mul_tellPolygon_72 : decode prog_3_method_4_code 72 = .ok (.if_icmp .ne 28, 3) := by decide +kernel
theorem d_Mul_tellPolygon_75 : decode prog_3_method_4_code 75 = .ok (.aload_n 0, 1) := by decide +kernel
theorem d_Mul_tellPolygon_76 : decode prog_3_method_4_code 76 = .ok (.getfield 12, 3) := by decide +kernel
theorem d_Mul_tellPolygon_79 : decode prog_3_method_4_code 79 = .ok (.iload_n 3, 1) := by decide +kernel
theorem d_Mul_tellPolygon_80 : decode prog_3_method_4_code 80 = .ok (.aload_n 0, 1) := by decide +kernel
theorem d_Mul_tellPolygon_81 : decode prog_3_method_4_code 81 = .ok (.getfield 12, 3) := by decide +kernel
theorem d_Mul_tellPolygon_84 : decode prog_3_method_4_code 84 = .ok (.iload_n 3, 1) := by decide +kernel
theorem d_Mul_tellPolygon_85 : decode prog_3_method_4_code 85 = .ok (.invokevirtual 50, 3) := by decide +kernel
theorem d_Mul_tellPolygon_88 : decode prog_3_method_4_code 88 = .ok (.iconst 1, 1) := by decide +kernel
theorem d_Mul_tellPolygon_89 : decode prog_3_method_4_code 89 = .ok (.iadd, 1) := by decide +kernel
theorem d_Mul_tellPolygon_90 : decode prog_3_method_4_code 90 = .ok (.invokevirtual 64, 3) := by decide +kernel
theorem d_Mul_tellPolygon_93 : decode prog_3_method_4_code 93 = .ok (.aload_n 0, 1) := by decide +kernel
theorem d_Mul_tellPolygon_94 : decode prog_3_method_4_code 94 = .ok (.aload_n 1, 1) := by decide +kernel
theorem d_Mul_tellPolygon_95 : decode prog_3_method_4_code 95 = .ok (.iload 5, 2) := by decide +kernel
theorem d_Mul_tellPolygon_97 : decode prog_3_method_4_code 97 = .ok (.invokevirtual 61, 3) := by decide +kernel
theorem d_Mul_tellPolygon_100 : decode prog_3_method_4_code 100 = .ok (.iinc 4 1, 3) := by decide +kernel
theorem d_Mul_tellPolygon_103 : decode prog_3_method_4_code 103 = .ok (.goto (-70), 3) := by decide +kernel
theorem d_Mul_tellPolygon_106 : decode prog_3_method_4_code 106 = .ok (.return_, 1) := by decide +kernel
theorem d_Mul_tell_0 : decode prog_3_method_3_code 0 = .ok (.aload_n 0, 1) := by decide +kernel
theorem d_Mul_tell_1 : decode prog_3_method_3_code 1 = .ok (.aload_n 1, 1) := by decide +kernel
theorem d_Mul_tell_2 : decode prog_3_method_3_code 2 = .ok (.getfield 35, 3) := by decide +kernel
theorem d_Mul_tell_5 : decode prog_3_method_3_code 5 = .ok (.putfield 24, 3) := by decide +kernel
theorem d_Mul_tell_8 : decode prog_3_method_3_code 8 = .ok (.aload_n 0, 1) := by decide +kernel
theorem d_Mul_tell_9 : decode prog_3_method_3_code 9 = .ok (.getfield 12, 3) := by decide +kernel
theorem d_Mul_tell_12 : decode prog_3_method_3_code 12 = .ok (.bipush 6, 2) := by decide +kernel
theorem d_Mul_tell_14 : decode prog_3_method_3_code 14 = .ok (.invokevirtual 40, 3) := by decide +kernel
theorem d_Mul_tell_17 : decode prog_3_method_3_code 17 = .ok (.aload_n 0, 1) := by decide +kernel
theorem d_Mul_tell_18 : decode prog_3_method_3_code 18 = .ok (.getfield 12, 3) := by decide +kernel
theorem d_Mul_tell_21 : decode prog_3_method_3_code 21 = .ok (.aload_n 0, 1) := by decide +kernel
theorem d_Mul_tell_22 : decode prog_3_method_3_code 22 = .ok (.getfield 24, 3) := by decide +kernel
theorem d_Mul_tell_25 : decode prog_3_method_3_code 25 = .ok (.invokevirtual 40, 3) := by decide +kernel
theorem d_Mul_tell_28 : decode prog_3_method_3_code 28 = .ok (.iconst 0, 1) := by decide +kernel
theorem d_Mul_tell_29 : decode prog_3_method_3_code 29 = .ok (.istore_n 2, 1) := by decide +kernel
theorem d_Mul_tell_30 : decode prog_3_method_3_code 30 = .ok (.iload_n 2, 1) := by decide +kernel
theorem d_Mul_tell_31 : decode prog_3_method_3_code 31 = .ok (.aload_n 1, 1) := by decide +kernel
theorem d_Mul_tell_32 : decode prog_3_method_3_code 32 = .ok (.getfield 44, 3) := by decide +kernel
theorem d_Mul_tell_35 : decode prog_3_method_3_code 35 = .ok (.getfield 47, 3) := by decide +kernel
theorem d_Mul_tell_38 : decode prog_3_method_3_code 38 = .ok (.if_icmp .ge 36, 3) := by decide +kernel
theorem d_Mul_tell_41 : decode prog_3_method_3_code 41 = .ok (.aload_n 1, 1) := by decide +kernel
theorem d_Mul_tell_42 : decode prog_3_method_3_code 42 = .ok (.getfield 44, 3) := by decide +kernel
theorem d_Mul_tell_45 : decode prog_3_method_3_code 45 = .ok (.iload_n 2, 1) := by decide +kernel
theorem d_Mul_tell_46 : decode prog_3_method_3_code 46 = .ok (.invokevirtual 50, 3) := by decide +kernel
theorem d_Mul_tell_49 : decode prog_3_method_3_code 49 = .ok (.istore_n 3, 1) := by decide +kernel
theorem d_Mul_tell_50 : decode prog_3_method_3_code 50 = .ok (.aload_n 1, 1) := by decide +kernel
theorem d_Mul_tell_51 : decode prog_3_method_3_code 51 = .ok (.getfield 54, 3) := by decide +kernel
theorem d_Mul_tell_54 : decode prog_3_method_3_code 54 = .ok (.iload_n 3, 1) := by decide +kernel
theorem d_Mul_tell_55 : decode prog_3_method_3_code 55 = .ok (.invokevirtual 50, 3) := by decide +kernel
theorem d_Mul_tell_58 : decode prog_3_method_3_code 58 = .ok (.iload_n 3, 1) := by decide +kernel
theorem d_Mul_tell_59 : decode prog_3_method_3_code 59 = .ok (.if_icmp .ne 9, 3) := by decide +kernel
theorem d_Mul_tell_62 : decode prog_3_method_3_code 62 = .ok (.aload_n 0, 1) := by decide +kernel
theorem d_Mul_tell_63 : decode prog_3_method_3_code 63 = .ok (.aload_n 1, 1) := by decide +kernel
theorem d_Mul_tell_64 : decode prog_3_method_3_code 64 = .ok (.iload_n 3, 1) := by decide +kernel
theorem d_Mul_tell_65 : decode prog_3_method_3_code 65 = .ok (.invokevirtual 57, 3) := by decide +kernel
theorem d_Mul_tell_68 : decode prog_3_method_3_code 68 = .ok (.iinc 2 1, 3) := by decide +kernel
theorem d_Mul_tell_71 : decode prog_3_method_3_code 71 = .ok (.goto (-41), 3) := by decide +kernel
theorem d_Mul_tell_74 : decode prog_3_method_3_code 74 = .ok (.return_, 1) := by decide +kernel
theorem d_Net_forget_0 : decode prog_4_method_4_code 0 = .ok (.aload_n 0, 1) := by decide +kernel
theorem d_Net_forget_1 : decode prog_4_method_4_code 1 = .ok (.getfield 12, 3) := by decide +kernel
theorem d_Net_forget_4 : decode prog_4_method_4_code 4 = .ok (.invokevirtual 37, 3) := by decide +kernel
theorem d_Net_forget_7 : decode prog_4_method_4_code 7 = .ok (.aload_n 0, 1) := by decide +kernel
theorem d_Net_forget_8 : decode prog_4_method_4_code 8 = .ok (.getfield 18, 3) := by decide +kernel
theorem d_Net_forget_11 : decode prog_4_method_4_code 11 = .ok (.invokevirtual 37, 3) := by decide +kernel
theorem d_Net_forget_14 : decode prog_4_method_4_code 14 = .ok (.aload_n 0, 1) := by decide +kernel
theorem d_Net_forget_15 : decode prog_4_method_4_code 15 = .ok (.getfield 21, 3) := by decide +kernel
theorem d_Net_forget_18 : decode prog_4_method_4_code 18 = .ok (.invokevirtual 37, 3) := by decide +kernel
theorem d_Net_forget_21 : decode prog_4_method_4_code 21 = .ok (.aload_n 0, 1) := by decide +kernel
theorem d_Net_forget_22 : decode prog_4_method_4_code 22 = .ok (.getfield 24, 3) := by decide +kernel
theorem d_Net_forget_25 : decode prog_4_method_4_code 25 = .ok (.invokevirtual 37, 3) := by decide +kernel
theorem d_Net_forget_28 : decode prog_4_method_4_code 28 = .ok (.aload_n 0, 1) := by decide +kernel
theorem d_Net_forget_29 : decode prog_4_method_4_code 29 = .ok (.getfield 27, 3) := by decide +kernel
theorem d_Net_forget_32 : decode prog_4_method_4_code 32 = .ok (.invokevirtual 37, 3) := by decide +kernel
theorem d_Net_forget_35 : decode prog_4_method_4_code 35 = .ok (.aload_n 0, 1) := by decide +kernel
theorem d_Net_forget_36 : decode prog_4_method_4_code 36 = .ok (.getfield 30, 3) := by decide +kernel
theorem d_Net_forget_39 : decode prog_4_method_4_code 39 = .ok (.invokevirtual 37, 3) := by decide +kernel
theorem d_Net_forget_42 : decode prog_4_method_4_code 42 = .ok (.return_, 1) := by decide +kernel
theorem d_Net_placeAt_0 : decode prog_4_method_5_code 0 = .ok (.iconst 0, 1) := by decide +kernel
theorem d_Net_placeAt_1 : decode prog_4_method_5_code 1 = .ok (.istore_n 3, 1) := by decide +kernel
theorem d_Net_placeAt_2 : decode prog_4_method_5_code 2 = .ok (.iload_n 3, 1) := by decide +kernel
theorem d_Net_placeAt_3 : decode prog_4_method_5_code 3 = .ok (.aload_n 0, 1) := by decide +kernel
theorem d_Net_placeAt_4 : decode prog_4_method_5_code 4 = .ok (.invokevirtual 40, 3) := by decide +kernel
theorem d_Net_placeAt_7 : decode prog_4_method_5_code 7 = .ok (.if_icmp .ge 35, 3) := by decide +kernel
theorem d_Net_placeAt_10 : decode prog_4_method_5_code 10 = .ok (.aload_n 0, 1) := by decide +kernel
theorem d_Net_placeAt_11 : decode prog_4_method_5_code 11 = .ok (.getfield 12, 3) := by decide +kernel
theorem d_Net_placeAt_14 : decode prog_4_method_5_code 14 = .ok (.iload_n 3, 1) := by decide +kernel
theorem d_Net_placeAt_15 : decode prog_4_method_5_code 15 = .ok (.invokevirtual 44, 3) := by decide +kernel
theorem d_Net_placeAt_18 : decode prog_4_method_5_code 18 = .ok (.iload_n 1, 1) := by decide +kernel
theorem d_Net_placeAt_19 : decode prog_4_method_5_code 19 = .ok (.if_icmp .ne 17, 3) := by decide +kernel
theorem d_Net_placeAt_22 : decode prog_4_method_5_code 22 = .ok (.aload_n 0, 1) := by decide +kernel
theorem d_Net_placeAt_23 : decode prog_4_method_5_code 23 = .ok (.getfield 18, 3) := by decide +kernel
theorem d_Net_placeAt_26 : decode prog_4_method_5_code 26 = .ok (.iload_n 3, 1) := by decide +kernel
theorem d_Net_placeAt_27 : decode prog_4_method_5_code 27 = .ok (.invokevirtual 44, 3) := by decide +kernel
theorem d_Net_placeAt_30 : decode prog_4_method_5_code 30 = .ok (.iload_n 2, 1) := by decide +kernel
theorem d_Net_placeAt_31 : decode prog_4_method_5_code 31 = .ok (.if_icmp .ne 5, 3) := by decide +kernel
theorem d_Net_placeAt_34 : decode prog_4_method_5_code 34 = .ok (.iload_n 3, 1) := by decide +kernel
theorem d_Net_placeAt_35 : decode prog_4_method_5_code 35 = .ok (.ireturn, 1) := by decide +kernel
theorem d_Net_placeAt_36 : decode prog_4_method_5_code 36 = .ok (.iinc 3 1, 3) := by decide +kernel
theorem d_Net_placeAt_39 : decode prog_4_method_5_code 39 = .ok (.goto (-37), 3) := by decide +kernel
theorem d_Net_placeAt_42 : decode prog_4_method_5_code 42 = .ok (.iconst (-1), 1) := by decide +kernel
theorem d_Net_placeAt_43 : decode prog_4_method_5_code 43 = .ok (.ireturn, 1) := by decide +kernel
theorem d_Net_pieceBetween_0 : decode prog_4_method_6_code 0 = .ok (.aload_n 0, 1) := by decide +kernel
theorem d_Net_pieceBetween_1 : decode prog_4_method_6_code 1 = .ok (.iload_n 1, 1) := by decide +kernel
theorem d_Net_pieceBetween_2 : decode prog_4_method_6_code 2 = .ok (.iload_n 2, 1) := by decide +kernel
theorem d_Net_pieceBetween_3 : decode prog_4_method_6_code 3 = .ok (.invokevirtual 48, 3) := by decide +kernel
theorem d_Net_pieceBetween_6 : decode prog_4_method_6_code 6 = .ok (.istore 5, 2) := by decide +kernel
theorem d_Net_pieceBetween_8 : decode prog_4_method_6_code 8 = .ok (.aload_n 0, 1) := by decide +kernel
theorem d_Net_pieceBetween_9 : decode prog_4_method_6_code 9 = .ok (.iload_n 3, 1) := by decide +kernel
theorem d_Net_pieceBetween_10 : decode prog_4_method_6_code 10 = .ok (.iload 4, 2) := by decide +kernel
theorem d_Net_pieceBetween_12 : decode prog_4_method_6_code 12 = .ok (.invokevirtual 48, 3) := by decide +kernel
theorem d_Net_pieceBetween_15 : decode prog_4_method_6_code 15 = .ok (.istore 6, 2) := by decide +kernel
theorem d_Net_pieceBetween_17 : decode prog_4_method_6_code 17 = .ok (.iload 5, 2) := by decide +kernel
theorem d_Net_pieceBetween_19 : decode prog_4_method_6_code 19 = .ok (.iconst (-1), 1) := by decide +kernel
theorem d_Net_pieceBetween_20 : decode prog_4_method_6_code 20 = .ok (.if_icmp .eq 9, 3) := by decide +kernel
theorem d_Net_pieceBetween_23 : decode prog_4_method_6_code 23 = .ok (.iload 6, 2) := by decide +kernel
theorem d_Net_pieceBetween_25 : decode prog_4_method_6_code 25 = .ok (.iconst (-1), 1) := by decide +kernel
theorem d_Net_pieceBetween_26 : decode prog_4_method_6_code 26 = .ok (.if_icmp .ne 5, 3) := by decide +kernel
theorem d_Net_pieceBetween_29 : decode prog_4_method_6_code 29 = .ok (.iconst (-1), 1) := by decide +kernel
theorem d_Net_pieceBetween_30 : decode prog_4_method_6_code 30 = .ok (.ireturn, 1) := by decide +kernel
theorem d_Net_pieceBetween_31 : decode prog_4_method_6_code 31 = .ok (.iconst 0, 1) := by decide +kernel
theorem d_Net_pieceBetween_32 : decode prog_4_method_6_code 32 = .ok (.istore 7, 2) := by decide +kernel
theorem d_Net_pieceBetween_34 : decode prog_4_method_6_code 34 = .ok (.iload 7, 2) := by decide +kernel
theorem d_Net_pieceBetween_36 : decode prog_4_method_6_code 36 = .ok (.aload_n 0, 1) := by decide +kernel
theorem d_Net_pieceBetween_37 : decode prog_4_method_6_code 37 = .ok (.invokevirtual 52, 3) := by decide +kernel
theorem d_Net_pieceBetween_40 : decode prog_4_method_6_code 40 = .ok (.if_icmp .ge 62, 3) := by decide +kernel
theorem d_Net_pieceBetween_43 : decode prog_4_method_6_code 43 = .ok (.aload_n 0, 1) := by decide +kernel
theorem d_Net_pieceBetween_44 : decode prog_4_method_6_code 44 = .ok (.getfield 24, 3) := by decide +kernel
theorem d_Net_pieceBetween_47 : decode prog_4_method_6_code 47 = .ok (.iload 7, 2) := by decide +kernel
theorem d_Net_pieceBetween_49 : decode prog_4_method_6_code 49 = .ok (.invokevirtual 44, 3) := by decide +kernel
theorem d_Net_pieceBetween_52 : decode prog_4_method_6_code 52 = .ok (.istore 8, 2) := by decide +kernel
theorem d_Net_pieceBetween_54 : decode prog_4_method_6_code 54 = .ok (.aload_n 0, 1) := by decide +kernel
theorem d_Net_pieceBetween_55 : decode prog_4_method_6_code 55 = .ok (.getfield 27, 3) := by decide +kernel
theorem d_Net_pieceBetween_58 : decode prog_4_method_6_code 58 = .ok (.iload 7, 2) := by decide +kernel
theorem d_Net_pieceBetween_60 : decode prog_4_method_6_code 60 = .ok (.invokevirtual 44, 3) := by decide +kernel
theorem d_Net_pieceBetween_63 : decode prog_4_method_6_code 63 = .ok (.istore 9, 2) := by decide +kernel
theorem d_Net_pieceBetween_65 : decode prog_4_method_6_code 65 = .ok (.iload 8, 2) := by decide +kernel
theorem d_Net_pieceBetween_67 : decode prog_4_method_6_code 67 = .ok (.iload 5, 2) := by decide +kernel
theorem d_Net_pieceBetween_69 : decode prog_4_method_6_code 69 = .ok (.if_icmp .ne 10, 3) := by decide +kernel
theorem d_Net_pieceBetween_72 : decode prog_4_method_6_code 72 = .ok (.iload 9, 2) := by decide +kernel
theorem d_Net_pieceBetween_74 : decode prog_4_method_6_code 74 = .ok (.iload 6, 2) := by decide +kernel
theorem d_Net_pieceBetween_76 : decode prog_4_method_6_code 76 = .ok (.if_icmp .eq 17, 3) := by decide +kernel
theorem d_Net_pieceBetween_79 : decode prog_4_method_6_code 79 = .ok (.iload 8, 2) := by decide +kernel
theorem d_Net_pieceBetween_81 : decode prog_4_method_6_code 81 = .ok (.iload 6, 2) := by decide +kernel
