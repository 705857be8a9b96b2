theorem d_Rgs_toldCorners_1 : decode prog_6_method_2_code 1 = .ok (.getfield 12, 3) := by decide +kernel
theorem d_Rgs_toldCorners_4 : decode prog_6_method_2_code 4 = .ok (.getfield 43, 3) := by decide +kernel
theorem d_Rgs_toldCorners_7 : decode prog_6_method_2_code 7 = .ok (.aload_n 0, 1) := by decide +kernel
theorem d_Rgs_toldCorners_8 : decode prog_6_method_2_code 8 = .ok (.getfield 21, 3) := by decide +kernel
theorem d_Rgs_toldCorners_11 : decode prog_6_method_2_code 11 = .ok (.getfield 43, 3) := by decide +kernel
theorem d_Rgs_toldCorners_14 : decode prog_6_method_2_code 14 = .ok (.iadd, 1) := by decide +kernel
theorem d_Rgs_toldCorners_15 : decode prog_6_method_2_code 15 = .ok (.ireturn, 1) := by decide +kernel
theorem d_Rgs_toldNumbers_0 : decode prog_6_method_3_code 0 = .ok (.iconst 2, 1) := by decide +kernel
theorem d_Rgs_toldNumbers_1 : decode prog_6_method_3_code 1 = .ok (.iconst 2, 1) := by decide +kernel
theorem d_Rgs_toldNumbers_2 : decode prog_6_method_3_code 2 = .ok (.aload_n 0, 1) := by decide +kernel
theorem d_Rgs_toldNumbers_3 : decode prog_6_method_3_code 3 = .ok (.getfield 30, 3) := by decide +kernel
theorem d_Rgs_toldNumbers_6 : decode prog_6_method_3_code 6 = .ok (.imul, 1) := by decide +kernel
theorem d_Rgs_toldNumbers_7 : decode prog_6_method_3_code 7 = .ok (.iadd, 1) := by decide +kernel
theorem d_Rgs_toldNumbers_8 : decode prog_6_method_3_code 8 = .ok (.aload_n 0, 1) := by decide +kernel
theorem d_Rgs_toldNumbers_9 : decode prog_6_method_3_code 9 = .ok (.getfield 21, 3) := by decide +kernel
theorem d_Rgs_toldNumbers_12 : decode prog_6_method_3_code 12 = .ok (.getfield 43, 3) := by decide +kernel
theorem d_Rgs_toldNumbers_15 : decode prog_6_method_3_code 15 = .ok (.iadd, 1) := by decide +kernel
theorem d_Rgs_toldNumbers_16 : decode prog_6_method_3_code 16 = .ok (.ireturn, 1) := by decide +kernel
theorem d_Rgs_prepare_0 : decode prog_6_method_7_code 0 = .ok (.aload_n 0, 1) := by decide +kernel
theorem d_Rgs_prepare_1 : decode prog_6_method_7_code 1 = .ok (.getfield 12, 3) := by decide +kernel
theorem d_Rgs_prepare_4 : decode prog_6_method_7_code 4 = .ok (.invokevirtual 74, 3) := by decide +kernel
theorem d_Rgs_prepare_7 : decode prog_6_method_7_code 7 = .ok (.aload_n 0, 1) := by decide +kernel
theorem d_Rgs_prepare_8 : decode prog_6_method_7_code 8 = .ok (.getfield 18, 3) := by decide +kernel
theorem d_Rgs_prepare_11 : decode prog_6_method_7_code 11 = .ok (.invokevirtual 74, 3) := by decide +kernel
theorem d_Rgs_prepare_14 : decode prog_6_method_7_code 14 = .ok (.aload_n 0, 1) := by decide +kernel
theorem d_Rgs_prepare_15 : decode prog_6_method_7_code 15 = .ok (.getfield 21, 3) := by decide +kernel
theorem d_Rgs_prepare_18 : decode prog_6_method_7_code 18 = .ok (.invokevirtual 74, 3) := by decide +kernel
theorem d_Rgs_prepare_21 : decode prog_6_method_7_code 21 = .ok (.aload_n 0, 1) := by decide +kernel
theorem d_Rgs_prepare_22 : decode prog_6_method_7_code 22 = .ok (.getfield 24, 3) := by decide +kernel
theorem d_Rgs_prepare_25 : decode prog_6_method_7_code 25 = .ok (.invokevirtual 74, 3) := by decide +kernel
theorem d_Rgs_prepare_28 : decode prog_6_method_7_code 28 = .ok (.aload_n 0, 1) := by decide +kernel
theorem d_Rgs_prepare_29 : decode prog_6_method_7_code 29 = .ok (.getfield 27, 3) := by decide +kernel
theorem d_Rgs_prepare_32 : decode prog_6_method_7_code 32 = .ok (.invokevirtual 74, 3) := by decide +kernel
theorem d_Rgs_prepare_35 : decode prog_6_method_7_code 35 = .ok (.aload_n 0, 1) := by decide +kernel
theorem d_Rgs_prepare_36 : decode prog_6_method_7_code 36 = .ok (.iconst 0, 1) := by decide +kernel
theorem d_Rgs_prepare_37 : decode prog_6_method_7_code 37 = .ok (.putfield 30, 3) := by decide +kernel
theorem d_Rgs_prepare_40 : decode prog_6_method_7_code 40 = .ok (.aload_n 0, 1) := by decide +kernel
theorem d_Rgs_prepare_41 : decode prog_6_method_7_code 41 = .ok (.getfield 34, 3) := by decide +kernel
theorem d_Rgs_prepare_44 : decode prog_6_method_7_code 44 = .ok (.invokevirtual 74, 3) := by decide +kernel
theorem d_Rgs_prepare_47 : decode prog_6_method_7_code 47 = .ok (.aload_n 0, 1) := by decide +kernel
theorem d_Rgs_prepare_48 : decode prog_6_method_7_code 48 = .ok (.getfield 37, 3) := by decide +kernel
theorem d_Rgs_prepare_51 : decode prog_6_method_7_code 51 = .ok (.invokevirtual 74, 3) := by decide +kernel
theorem d_Rgs_prepare_54 : decode prog_6_method_7_code 54 = .ok (.aload_n 0, 1) := by decide +kernel
theorem d_Rgs_prepare_55 : decode prog_6_method_7_code 55 = .ok (.getfield 40, 3) := by decide +kernel
theorem d_Rgs_prepare_58 : decode prog_6_method_7_code 58 = .ok (.invokevirtual 74, 3) := by decide +kernel
theorem d_Rgs_prepare_61 : decode prog_6_method_7_code 61 = .ok (.iconst 0, 1) := by decide +kernel
theorem d_Rgs_prepare_62 : decode prog_6_method_7_code 62 = .ok (.istore_n 3, 1) := by decide +kernel
theorem d_Rgs_prepare_63 : decode prog_6_method_7_code 63 = .ok (.iload_n 3, 1) := by decide +kernel
theorem d_Rgs_prepare_64 : decode prog_6_method_7_code 64 = .ok (.aload_n 1, 1) := by decide +kernel
theorem d_Rgs_prepare_65 : decode prog_6_method_7_code 65 = .ok (.invokevirtual 77, 3) := by decide +kernel
theorem d_Rgs_prepare_68 : decode prog_6_method_7_code 68 = .ok (.if_icmp .ge 17, 3) := by decide +kernel
theorem d_Rgs_prepare_71 : decode prog_6_method_7_code 71 = .ok (.aload_n 0, 1) := by decide +kernel
theorem d_Rgs_prepare_72 : decode prog_6_method_7_code 72 = .ok (.getfield 37, 3) := by decide +kernel
theorem d_Rgs_prepare_75 : decode prog_6_method_7_code 75 = .ok (.iconst (-1), 1) := by decide +kernel
theorem d_Rgs_prepare_76 : decode prog_6_method_7_code 76 = .ok (.invokevirtual 71, 3) := by decide +kernel
theorem d_Rgs_prepare_79 : decode prog_6_method_7_code 79 = .ok (.iinc 3 1, 3) := by decide +kernel
theorem d_Rgs_prepare_82 : decode prog_6_method_7_code 82 = .ok (.goto (-19), 3) := by decide +kernel
theorem d_Rgs_prepare_85 : decode prog_6_method_7_code 85 = .ok (.iconst 0, 1) := by decide +kernel
theorem d_Rgs_prepare_86 : decode prog_6_method_7_code 86 = .ok (.istore_n 3, 1) := by decide +kernel
theorem d_Rgs_prepare_87 : decode prog_6_method_7_code 87 = .ok (.iload_n 3, 1) := by decide +kernel
theorem d_Rgs_prepare_88 : decode prog_6_method_7_code 88 = .ok (.aload_n 2, 1) := by decide +kernel
theorem d_Rgs_prepare_89 : decode prog_6_method_7_code 89 = .ok (.invokevirtual 54, 3) := by decide +kernel
theorem d_Rgs_prepare_92 : decode prog_6_method_7_code 92 = .ok (.if_icmp .ge 17, 3) := by decide +kernel
theorem d_Rgs_prepare_95 : decode prog_6_method_7_code 95 = .ok (.aload_n 0, 1) := by decide +kernel
theorem d_Rgs_prepare_96 : decode prog_6_method_7_code 96 = .ok (.getfield 40, 3) := by decide +kernel
theorem d_Rgs_prepare_99 : decode prog_6_method_7_code 99 = .ok (.iconst 0, 1) := by decide +kernel
theorem d_Rgs_prepare_100 : decode prog_6_method_7_code 100 = .ok (.invokevirtual 71, 3) := by decide +kernel
theorem d_Rgs_prepare_103 : decode prog_6_method_7_code 103 = .ok (.iinc 3 1, 3) := by decide +kernel
theorem d_Rgs_prepare_106 : decode prog_6_method_7_code 106 = .ok (.goto (-19), 3) := by decide +kernel
theorem d_Rgs_prepare_109 : decode prog_6_method_7_code 109 = .ok (.return_, 1) := by decide +kernel
theorem d_Rgs_comesBefore_0 : decode prog_6_method_13_code 0 = .ok (.aload_n 0, 1) := by decide +kernel
theorem d_Rgs_comesBefore_1 : decode prog_6_method_13_code 1 = .ok (.iload_n 1, 1) := by decide +kernel
theorem d_Rgs_comesBefore_2 : decode prog_6_method_13_code 2 = .ok (.invokevirtual 119, 3) := by decide +kernel
theorem d_Rgs_comesBefore_5 : decode prog_6_method_13_code 5 = .ok (.istore_n 3, 1) := by decide +kernel
theorem d_Rgs_comesBefore_6 : decode prog_6_method_13_code 6 = .ok (.aload_n 0, 1) := by decide +kernel
theorem d_Rgs_comesBefore_7 : decode prog_6_method_13_code 7 = .ok (.iload_n 2, 1) := by decide +kernel
theorem d_Rgs_comesBefore_8 : decode prog_6_method_13_code 8 = .ok (.invokevirtual 119, 3) := by decide +kernel
theorem d_Rgs_comesBefore_11 : decode prog_6_method_13_code 11 = .ok (.istore 4, 2) := by decide +kernel
theorem d_Rgs_comesBefore_13 : decode prog_6_method_13_code 13 = .ok (.aload_n 0, 1) := by decide +kernel
theorem d_Rgs_comesBefore_14 : decode prog_6_method_13_code 14 = .ok (.getfield 12, 3) := by decide +kernel
theorem d_Rgs_comesBefore_17 : decode prog_6_method_13_code 17 = .ok (.iload_n 3, 1) := by decide +kernel
theorem d_Rgs_comesBefore_18 : decode prog_6_method_13_code 18 = .ok (.invokevirtual 46, 3) := by decide +kernel
theorem d_Rgs_comesBefore_21 : decode prog_6_method_13_code 21 = .ok (.aload_n 0, 1) := by decide +kernel
theorem d_Rgs_comesBefore_22 : decode prog_6_method_13_code 22 = .ok (.getfield 12, 3) := by decide +kernel
theorem d_Rgs_comesBefore_25 : decode prog_6_method_13_code 25 = .ok (.iload 4, 2) := by decide +kernel
theorem d_Rgs_comesBefore_27 : decode prog_6_method_13_code 27 = .ok (.invokevirtual 46, 3) := by decide +kernel
theorem d_Rgs_comesBefore_30 : decode prog_6_method_13_code 30 = .ok (.if_icmp .ne 29, 3) := by decide +kernel
theorem d_Rgs_comesBefore_33 : decode prog_6_method_13_code 33 = .ok (.aload_n 0, 1) := by decide +kernel
theorem d_Rgs_comesBefore_34 : decode prog_6_method_13_code 34 = .ok (.getfield 18, 3) := by decide +kernel
theorem d_Rgs_comesBefore_37 : decode prog_6_method_13_code 37 = .ok (.iload_n 3, 1) := by decide +kernel
theorem d_Rgs_comesBefore_38 : decode prog_6_method_13_code 38 = .ok (.invokevirtual 46, 3) := by decide +kernel
theorem d_Rgs_comesBefore_41 : decode prog_6_method_13_code 41 = .ok (.aload_n 0, 1) := by decide +kernel
theorem d_Rgs_comesBefore_42 : decode prog_6_method_13_code 42 = .ok (.getfield 18, 3) := by decide +kernel
theorem d_Rgs_comesBefore_45 : decode prog_6_method_13_code 45 = .ok (.iload 4, 2) := by decide +kernel
theorem d_Rgs_comesBefore_47 : decode prog_6_method_13_code 47 = .ok (.invokevirtual 46, 3) := by decide +kernel
theorem d_Rgs_comesBefore_50 : decode prog_6_method_13_code 50 = .ok (.if_icmp .ne 9, 3) := by decide +kernel
theorem d_Rgs_comesBefore_53 : decode prog_6_method_13_code 53 = .ok (.iinc 3 1, 3) := by decide +kernel
theorem d_Rgs_comesBefore_56 : decode prog_6_method_13_code 56 = .ok (.iinc 4 1, 3) := by decide +kernel
theorem d_Rgs_comesBefore_59 : decode prog_6_method_13_code 59 = .ok (.aload_n 0, 1) := by decide +kernel
theorem d_Rgs_comesBefore_60 : decode prog_6_method_13_code 60 = .ok (.getfield 12, 3) := by decide +kernel
theorem d_Rgs_comesBefore_63 : decode prog_6_method_13_code 63 = .ok (.iload_n 3, 1) := by decide +kernel
theorem d_Rgs_comesBefore_64 : decode prog_6_method_13_code 64 = .ok (.invokevirtual 46, 3) := by decide +kernel
theorem d_Rgs_comesBefore_67 : decode prog_6_method_13_code 67 = .ok (.aload_n 0, 1) := by decide +kernel
theorem d_Rgs_comesBefore_68 : decode prog_6_method_13_code 68 = .ok (.getfield 18, 3) := by decide +kernel
theorem d_Rgs_comesBefore_71 : decode prog_6_method_13_code 71 = .ok (.iload_n 3, 1) := by decide +kernel
theorem d_Rgs_comesBefore_72 : decode prog_6_method_13_code 72 = .ok (.invokevirtual 46, 3) := by decide +kernel
theorem d_Rgs_comesBefore_75 : decode prog_6_method_13_code 75 = .ok (.aload_n 0, 1) := by decide +kernel
theorem d_Rgs_comesBefore_76 : decode prog_6_method_13_code 76 = .ok (.getfield 12, 3) := by decide +kernel
theorem d_Rgs_comesBefore_79 : decode prog_6_method_13_code 79 = .ok (.iload 4, 2) := by decide +kernel
theorem d_Rgs_comesBefore_81 : decode prog_6_method_13_code 81 = .ok (.invokevirtual 46, 3) := by decide +kernel
theorem d_Rgs_comesBefore_84 : decode prog_6_method_13_code 84 = .ok (.aload_n 0, 1) := by decide +kernel
theorem d_Rgs_comesBefore_85 : decode prog_6_method_13_code 85 = .ok (.getfield 18, 3) := by decide +kernel
theorem d_Rgs_comesBefore_88 : decode prog_6_method_13_code 88 = .ok (.iload 4, 2) := by decide +kernel
theorem d_Rgs_comesBefore_90 : decode prog_6_method_13_code 90 = .ok (.invokevirtual 46, 3) := by decide +kernel
theorem d_Rgs_comesBefore_93 : decode prog_6_method_13_code 93 = .ok (.invokestatic 125, 3) := by decide +kernel
theorem d_Rgs_comesBefore_96 : decode prog_6_method_13_code 96 = .ok (.ireturn, 1) := by decide +kernel
theorem d_Rgs_putInOrder_0 : decode prog_6_method_12_code 0 = .ok (.aload_n 0, 1) := by decide +kernel
theorem d_Rgs_putInOrder_1 : decode prog_6_method_12_code 1 = .ok (.getfield 24, 3) := by decide +kernel
theorem d_Rgs_putInOrder_4 : decode prog_6_method_12_code 4 = .ok (.iload_n 1, 1) := by decide +kernel
theorem d_Rgs_putInOrder_5 : decode prog_6_method_12_code 5 = .ok (.invokevirtual 71, 3) := by decide +kernel
theorem d_Rgs_putInOrder_8 : decode prog_6_method_12_code 8 = .ok (.aload_n 0, 1) := by decide +kernel
theorem d_Rgs_putInOrder_9 : decode prog_6_method_12_code 9 = .ok (.getfield 24, 3) := by decide +kernel
theorem d_Rgs_putInOrder_12 : decode prog_6_method_12_code 12 = .ok (.getfield 43, 3) := by decide +kernel
theorem d_Rgs_putInOrder_15 : decode prog_6_method_12_code 15 = .ok (.iconst 1, 1) := by decide +kernel
theorem d_Rgs_putInOrder_16 : decode prog_6_method_12_code 16 = .ok (.isub, 1) := by decide +kernel
theorem d_Rgs_putInOrder_17 : decode prog_6_method_12_code 17 = .ok (.istore_n 2, 1) := by decide +kernel
theorem d_Rgs_putInOrder_18 : decode prog_6_method_12_code 18 = .ok (.iload_n 2, 1) := by decide +kernel
theorem d_Rgs_putInOrder_19 : decode prog_6_method_12_code 19 = .ok (.ifCond .le 45, 3) := by decide +kernel
theorem d_Rgs_putInOrder_22 : decode prog_6_method_12_code 22 = .ok (.aload_n 0, 1) := by decide +kernel
theorem d_Rgs_putInOrder_23 : decode prog_6_method_12_code 23 = .ok (.iload_n 1, 1) := by decide +kernel
theorem d_Rgs_putInOrder_24 : decode prog_6_method_12_code 24 = .ok (.aload_n 0, 1) := by decide +kernel
theorem d_Rgs_putInOrder_25 : decode prog_6_method_12_code 25 = .ok (.getfield 24, 3) := by decide +kernel
theorem d_Rgs_putInOrder_28 : decode prog_6_method_12_code 28 = .ok (.iload_n 2, 1) := by decide +kernel
theorem d_Rgs_putInOrder_29 : decode prog_6_method_12_code 29 = .ok (.iconst 1, 1) := by decide +kernel
theorem d_Rgs_putInOrder_30 : decode prog_6_method_12_code 30 = .ok (.isub, 1) := by decide +kernel
theorem d_Rgs_putInOrder_31 : decode prog_6_method_12_code 31 = .ok (.invokevirtual 46, 3) := by decide +kernel
theorem d_Rgs_putInOrder_34 : decode prog_6_method_12_code 34 = .ok (.invokevirtual 122, 3) := by decide +kernel
theorem d_Rgs_putInOrder_37 : decode prog_6_method_12_code 37 = .ok (.ifCond .eq 27, 3) := by decide +kernel
theorem d_Rgs_putInOrder_40 : decode prog_6_method_12_code 40 = .ok (.aload_n 0, 1) := by decide +kernel
theorem d_Rgs_putInOrder_41 : decode prog_6_method_12_code 41 = .ok (.getfield 24, 3) := by decide +kernel
theorem d_Rgs_putInOrder_44 : decode prog_6_method_12_code 44 = .ok (.iload_n 2, 1) := by decide +kernel
theorem d_Rgs_putInOrder_45 : decode prog_6_method_12_code 45 = .ok (.aload_n 0, 1) := by decide +kernel
theorem d_Rgs_putInOrder_46 : decode prog_6_method_12_code 46 = .ok (.getfield 24, 3) := by decide +kernel
theorem d_Rgs_putInOrder_49 : decode prog_6_method_12_code 49 = .ok (.iload_n 2, 1) := by decide +kernel
theorem d_Rgs_putInOrder_50 : decode prog_6_method_12_code 50 = .ok (.iconst 1, 1) := by decide +kernel
theorem d_Rgs_putInOrder_51 : decode prog_6_method_12_code 51 = .ok (.isub, 1) := by decide +kernel
theorem d_Rgs_putInOrder_52 : decode prog_6_method_12_code 52 = .ok (.invokevirtual 46, 3) := by decide +kernel
theorem d_Rgs_putInOrder_55 : decode prog_6_method_12_code 55 = .ok (.invokevirtual 82, 3) := by decide +kernel
theorem d_Rgs_putInOrder_58 : decode prog_6_method_12_code 58 = .ok (.iinc 2 (-1), 3) := by decide +kernel
theorem d_Rgs_putInOrder_61 : decode prog_6_method_12_code 61 = .ok (.goto (-43), 3) := by decide +kernel
theorem d_Rgs_putInOrder_64 : decode prog_6_method_12_code 64 = .ok (.aload_n 0, 1) := by decide +kernel
theorem d_Rgs_putInOrder_65 : decode prog_6_method_12_code 65 = .ok (.getfield 24, 3) := by decide +kernel
theorem d_Rgs_putInOrder_68 : decode prog_6_method_12_code 68 = .ok (.iload_n 2, 1) := by decide +kernel
theorem d_Rgs_putInOrder_69 : decode prog_6_method_12_code 69 = .ok (.iload_n 1, 1) := by decide +kernel
theorem d_Rgs_putInOrder_70 : decode prog_6_method_12_code 70 = .ok (.invokevirtual 82, 3) := by decide +kernel
theorem d_Rgs_putInOrder_73 : decode prog_6_method_12_code 73 = .ok (.return_, 1) := by decide +kernel
theorem d_Rgs_isOnRing_0 : decode prog_6_method_16_code 0 = .ok (.aload_n 0, 1) := by decide +kernel
theorem d_Rgs_isOnRing_1 : decode prog_6_method_16_code 1 = .ok (.iload_n 1, 1) := by decide +kernel
theorem d_Rgs_isOnRing_2 : decode prog_6_method_16_code 2 = .ok (.invokevirtual 116, 3) := by decide +kernel
theorem d_Rgs_isOnRing_5 : decode prog_6_method_16_code 5 = .ok (.iconst 1, 1) := by decide +kernel
theorem d_Rgs_isOnRing_6 : decode prog_6_method_16_code 6 = .ok (.isub, 1) := by decide +kernel
theorem d_Rgs_isOnRing_7 : decode prog_6_method_16_code 7 = .ok (.istore 4, 2) := by decide +kernel
theorem d_Rgs_isOnRing_9 : decode prog_6_method_16_code 9 = .ok (.aload_n 0, 1) := by decide +kernel
theorem d_Rgs_isOnRing_10 : decode prog_6_method_16_code 10 = .ok (.iload_n 1, 1) := by decide +kernel
theorem d_Rgs_isOnRing_11 : decode prog_6_method_16_code 11 = .ok (.invokevirtual 119, 3) := by decide +kernel
theorem d_Rgs_isOnRing_14 : decode prog_6_method_16_code 14 = .ok (.istore 5, 2) := by decide +kernel
theorem d_Rgs_isOnRing_16 : decode prog_6_method_16_code 16 = .ok (.iload 5, 2) := by decide +kernel
theorem d_Rgs_isOnRing_18 : decode prog_6_method_16_code 18 = .ok (.aload_n 0, 1) := by decide +kernel
theorem d_Rgs_isOnRing_19 : decode prog_6_method_16_code 19 = .ok (.iload_n 1, 1) := by decide +kernel
theorem d_Rgs_isOnRing_20 : decode prog_6_method_16_code 20 = .ok (.invokevirtual 116, 3) := by decide +kernel
theorem d_Rgs_isOnRing_23 : decode prog_6_method_16_code 23 = .ok (.if_icmp .ge 59, 3) := by decide +kernel
theorem d_Rgs_isOnRing_26 : decode prog_6_method_16_code 26 = .ok (.aload_n 0, 1) := by decide +kernel
theorem d_Rgs_isOnRing_27 : decode prog_6_method_16_code 27 = .ok (.getfield 12, 3) := by decide +kernel
theorem d_Rgs_isOnRing_30 : decode prog_6_method_16_code 30 = .ok (.iload 4, 2) := by decide +kernel
theorem d_Rgs_isOnRing_32 : decode prog_6_method_16_code 32 = .ok (.invokevirtual 46, 3) := by decide +kernel
theorem d_Rgs_isOnRing_35 : decode prog_6_method_16_code 35 = .ok (.aload_n 0, 1) := by decide +kernel
theorem d_Rgs_isOnRing_36 : decode prog_6_method_16_code 36 = .ok (.getfield 18, 3) := by decide +kernel
theorem d_Rgs_isOnRing_39 : decode prog_6_method_16_code 39 = .ok (.iload 4, 2) := by decide +kernel
theorem d_Rgs_isOnRing_41 : decode prog_6_method_16_code 41 = .ok (.invokevirtual 46, 3) := by decide +kernel
theorem d_Rgs_isOnRing_44 : decode prog_6_method_16_code 44 = .ok (.aload_n 0, 1) := by decide +kernel
theorem d_Rgs_isOnRing_45 : decode prog_6_method_16_code 45 = .ok (.getfield 12, 3) := by decide +kernel
theorem d_Rgs_isOnRing_48 : decode prog_6_method_16_code 48 = .ok (.iload 5, 2) := by decide +kernel
theorem d_Rgs_isOnRing_50 : decode prog_6_method_16_code 50 = .ok (.invokevirtual 46, 3) := by decide +kernel
theorem d_Rgs_isOnRing_53 : decode prog_6_method_16_code 53 = .ok (.aload_n 0, 1) := by decide +kernel
theorem d_Rgs_isOnRing_54 : decode prog_6_method_16_code 54 = .ok (.getfield 18, 3) := by decide +kernel
theorem d_Rgs_isOnRing_57 : decode prog_6_method_16_code 57 = .ok (.iload 5, 2) := by decide +kernel
theorem d_Rgs_isOnRing_59 : decode prog_6_method_16_code 59 = .ok (.invokevirtual 46, 3) := by decide +kernel
theorem d_Rgs_isOnRing_62 : decode prog_6_method_16_code 62 = .ok (.iload_n 2, 1) := by decide +kernel
theorem d_Rgs_isOnRing_63 : decode prog_6_method_16_code 63 = .ok (.iload_n 3, 1) := by decide +kernel
theorem d_Rgs_isOnRing_64 : decode prog_6_method_16_code 64 = .ok (.invokestatic 144, 3) := by decide +kernel
theorem d_Rgs_isOnRing_67 : decode prog_6_method_16_code 67 = .ok (.ifCond .eq 5, 3) := by decide +kernel
theorem d_Rgs_isOnRing_70 : decode prog_6_method_16_code 70 = .ok (.iconst 1, 1) := by decide +kernel
theorem d_Rgs_isOnRing_71 : decode prog_6_method_16_code 71 = .ok (.ireturn, 1) := by decide +kernel
theorem d_Rgs_isOnRing_72 : decode prog_6_method_16_code 72 = .ok (.iload 5, 2) := by decide +kernel
theorem d_Rgs_isOnRing_74 : decode prog_6_method_16_code 74 = .ok (.istore 4, 2) := by decide +kernel
theorem d_Rgs_isOnRing_76 : decode prog_6_method_16_code 76 = .ok (.iinc 5 1, 3) := by decide +kernel
theorem d_Rgs_isOnRing_79 : decode prog_6_method_16_code 79 = .ok (.goto (-63), 3) := by decide +kernel
theorem d_Rgs_isOnRing_82 : decode prog_6_method_16_code 82 = .ok (.iconst 0, 1) := by decide +kernel
theorem d_Rgs_isOnRing_83 : decode prog_6_method_16_code 83 = .ok (.ireturn, 1) := by decide +kernel
theorem d_Rgs_isInRing_0 : decode prog_6_method_17_code 0 = .ok (.iconst 0, 1) := by decide +kernel
theorem d_Rgs_isInRing_1 : decode prog_6_method_17_code 1 = .ok (.istore 4, 2) := by decide +kernel
theorem d_Rgs_isInRing_3 : decode prog_6_method_17_code 3 = .ok (.aload_n 0, 1) := by decide +kernel
theorem d_Rgs_isInRing_4 : decode prog_6_method_17_code 4 = .ok (.iload_n 1, 1) := by decide +kernel
theorem d_Rgs_isInRing_5 : decode prog_6_method_17_code 5 = .ok (.invokevirtual 116, 3) := by decide +kernel
theorem d_Rgs_isInRing_8 : decode prog_6_method_17_code 8 = .ok (.iconst 1, 1) := by decide +kernel
theorem d_Rgs_isInRing_9 : decode prog_6_method_17_code 9 = .ok (.isub, 1) := by decide +kernel
theorem d_Rgs_isInRing_10 : decode prog_6_method_17_code 10 = .ok (.istore 5, 2) := by decide +kernel
theorem d_Rgs_isInRing_12 : decode prog_6_method_17_code 12 = .ok (.aload_n 0, 1) := by decide +kernel
theorem d_Rgs_isInRing_13 : decode prog_6_method_17_code 13 = .ok (.iload_n 1, 1) := by decide +kernel
theorem d_Rgs_isInRing_14 : decode prog_6_method_17_code 14 = .ok (.invokevirtual 119, 3) := by decide +kernel
theorem d_Rgs_isInRing_17 : decode prog_6_method_17_code 17 = .ok (.istore 6, 2) := by decide +kernel
theorem d_Rgs_isInRing_19 : decode prog_6_method_17_code 19 = .ok (.iload 6, 2) := by decide +kernel
theorem d_Rgs_isInRing_21 : decode prog_6_method_17_code 21 = .ok (.aload_n 0, 1) := by decide +kernel
theorem d_Rgs_isInRing_22 : decode prog_6_method_17_code 22 = .ok (.iload_n 1, 1) := by decide +kernel
theorem d_Rgs_isInRing_23 : decode prog_6_method_17_code 23 = .ok (.invokevirtual 116, 3) := by decide +kernel
theorem d_Rgs_isInRing_26 : decode prog_6_method_17_code 26 = .ok (.if_icmp .ge 79, 3) := by decide +kernel
theorem d_Rgs_isInRing_29 : decode prog_6_method_17_code 29 = .ok (.ldc2_w 148, 3) := by decide +kernel
theorem d_Rgs_isInRing_32 : decode prog_6_method_17_code 32 = .ok (.iload_n 2, 1) := by decide +kernel
theorem d_Rgs_isInRing_33 : decode prog_6_method_17_code 33 = .ok (.i2l, 1) := by decide +kernel
theorem d_Rgs_isInRing_34 : decode prog_6_method_17_code 34 = .ok (.lmul, 1) := by decide +kernel
theorem d_Rgs_isInRing_35 : decode prog_6_method_17_code 35 = .ok (.ldc2_w 148, 3) := by decide +kernel
theorem d_Rgs_isInRing_38 : decode prog_6_method_17_code 38 = .ok (.iload_n 3, 1) := by decide +kernel
theorem d_Rgs_isInRing_39 : decode prog_6_method_17_code 39 = .ok (.i2l, 1) := by decide +kernel
theorem d_Rgs_isInRing_40 : decode prog_6_method_17_code 40 = .ok (.lmul, 1) := by decide +kernel
theorem d_Rgs_isInRing_41 : decode prog_6_method_17_code 41 = .ok (.aload_n 0, 1) := by decide +kernel
theorem d_Rgs_isInRing_42 : decode prog_6_method_17_code 42 = .ok (.getfield 12, 3) := by decide +kernel
theorem d_Rgs_isInRing_45 : decode prog_6_method_17_code 45 = .ok (.iload 5, 2) := by decide +kernel
theorem d_Rgs_isInRing_47 : decode prog_6_method_17_code 47 = .ok (.invokevirtual 46, 3) := by decide +kernel
theorem d_Rgs_isInRing_50 : decode prog_6_method_17_code 50 = .ok (.aload_n 0, 1) := by decide +kernel
theorem d_Rgs_isInRing_51 : decode prog_6_method_17_code 51 = .ok (.getfield 18, 3) := by decide +kernel
theorem d_Rgs_isInRing_54 : decode prog_6_method_17_code 54 = .ok (.iload 5, 2) := by decide +kernel
theorem d_Rgs_isInRing_56 : decode prog_6_method_17_code 56 = .ok (.invokevirtual 46, 3) := by decide +kernel
theorem d_Rgs_isInRing_59 : decode prog_6_method_17_code 59 = .ok (.aload_n 0, 1) := by decide +kernel
theorem d_Rgs_isInRing_60 : decode prog_6_method_17_code 60 = .ok (.getfield 12, 3) := by decide +kernel
theorem d_Rgs_isInRing_63 : decode prog_6_method_17_code 63 = .ok (.iload 6, 2) := by decide +kernel
theorem d_Rgs_isInRing_65 : decode prog_6_method_17_code 65 = .ok (.invokevirtual 46, 3) := by decide +kernel
theorem d_Rgs_isInRing_68 : decode prog_6_method_17_code 68 = .ok (.aload_n 0, 1) := by decide +kernel
theorem d_Rgs_isInRing_69 : decode prog_6_method_17_code 69 = .ok (.getfield 18, 3) := by decide +kernel
theorem d_Rgs_isInRing_72 : decode prog_6_method_17_code 72 = .ok (.iload 6, 2) := by decide +kernel
theorem d_Rgs_isInRing_74 : decode prog_6_method_17_code 74 = .ok (.invokevirtual 46, 3) := by decide +kernel
theorem d_Rgs_isInRing_77 : decode prog_6_method_17_code 77 = .ok (.invokestatic 150, 3) := by decide +kernel
theorem d_Rgs_isInRing_80 : decode prog_6_method_17_code 80 = .ok (.ifCond .eq 15, 3) := by decide +kernel
theorem d_Rgs_isInRing_83 : decode prog_6_method_17_code 83 = .ok (.iload 4, 2) := by decide +kernel
theorem d_Rgs_isInRing_85 : decode prog_6_method_17_code 85 = .ok (.ifCond .ne 7, 3) := by decide +kernel
theorem d_Rgs_isInRing_88 : decode prog_6_method_17_code 88 = .ok (.iconst 1, 1) := by decide +kernel
theorem d_Rgs_isInRing_89 : decode prog_6_method_17_code 89 = .ok (.goto 4, 3) := by decide +kernel
theorem d_Rgs_isInRing_92 : decode prog_6_method_17_code 92 = .ok (.iconst 0, 1) := by decide +kernel
theorem d_Rgs_isInRing_93 : decode prog_6_method_17_code 93 = .ok (.istore 4, 2) := by decide +kernel
theorem d_Rgs_isInRing_95 : decode prog_6_method_17_code 95 = .ok (.iload 6, 2) := by decide +kernel
theorem d_Rgs_isInRing_97 : decode prog_6_method_17_code 97 = .ok (.istore 5, 2) := by decide +kernel
theorem d_Rgs_isInRing_99 : decode prog_6_method_17_code 99 = .ok (.iinc 6 1, 3) := by decide +kernel
theorem d_Rgs_isInRing_102 : decode prog_6_method_17_code 102 = .ok (.goto (-83), 3) := by decide +kernel
theorem d_Rgs_isInRing_105 : decode prog_6_method_17_code 105 = .ok (.iload 4, 2) := by decide +kernel
theorem d_Rgs_isInRing_107 : decode prog_6_method_17_code 107 = .ok (.ireturn, 1) := by decide +kernel
theorem d_Rgs_liesIn_0 : decode prog_6_method_15_code 0 = .ok (.aload_n 0, 1) := by decide +kernel
theorem d_Rgs_liesIn_1 : decode prog_6_method_15_code 1 = .ok (.iload_n 1, 1) := by decide +kernel
theorem d_Rgs_liesIn_2 : decode prog_6_method_15_code 2 = .ok (.invokevirtual 119, 3) := by decide +kernel
theorem d_Rgs_liesIn_5 : decode prog_6_method_15_code 5 = .ok (.istore_n 3, 1) := by decide +kernel
theorem d_Rgs_liesIn_6 : decode prog_6_method_15_code 6 = .ok (.iload_n 3, 1) := by decide +kernel
theorem d_Rgs_liesIn_7 : decode prog_6_method_15_code 7 = .ok (.aload_n 0, 1) := by decide +kernel
theorem d_Rgs_liesIn_8 : decode prog_6_method_15_code 8 = .ok (.iload_n 1, 1) := by decide +kernel
theorem d_Rgs_liesIn_9 : decode prog_6_method_15_code 9 = .ok (.invokevirtual 116, 3) := by decide +kernel
theorem d_Rgs_liesIn_12 : decode prog_6_method_15_code 12 = .ok (.if_icmp .ge 55, 3) := by decide +kernel
theorem d_Rgs_liesIn_15 : decode prog_6_method_15_code 15 = .ok (.aload_n 0, 1) := by decide +kernel
theorem d_Rgs_liesIn_16 : decode prog_6_method_15_code 16 = .ok (.iload_n 2, 1) := by decide +kernel
theorem d_Rgs_liesIn_17 : decode prog_6_method_15_code 17 = .ok (.aload_n 0, 1) := by decide +kernel
theorem d_Rgs_liesIn_18 : decode prog_6_method_15_code 18 = .ok (.getfield 12, 3) := by decide +kernel
theorem d_Rgs_liesIn_21 : decode prog_6_method_15_code 21 = .ok (.iload_n 3, 1) := by decide +kernel
theorem d_Rgs_liesIn_22 : decode prog_6_method_15_code 22 = .ok (.invokevirtual 46, 3) := by decide +kernel
theorem d_Rgs_liesIn_25 : decode prog_6_method_15_code 25 = .ok (.aload_n 0, 1) := by decide +kernel
theorem d_Rgs_liesIn_26 : decode prog_6_method_15_code 26 = .ok (.getfield 18, 3) := by decide +kernel
theorem d_Rgs_liesIn_29 : decode prog_6_method_15_code 29 = .ok (.iload_n 3, 1) := by decide +kernel
theorem d_Rgs_liesIn_30 : decode prog_6_method_15_code 30 = .ok (.invokevirtual 46, 3) := by decide +kernel
theorem d_Rgs_liesIn_33 : decode prog_6_method_15_code 33 = .ok (.invokevirtual 138, 3) := by decide +kernel
theorem d_Rgs_liesIn_36 : decode prog_6_method_15_code 36 = .ok (.ifCond .ne 25, 3) := by decide +kernel
theorem d_Rgs_liesIn_39 : decode prog_6_method_15_code 39 = .ok (.aload_n 0, 1) := by decide +kernel
theorem d_Rgs_liesIn_40 : decode prog_6_method_15_code 40 = .ok (.iload_n 2, 1) := by decide +kernel
theorem d_Rgs_liesIn_41 : decode prog_6_method_15_code 41 = .ok (.aload_n 0, 1) := by decide +kernel
theorem d_Rgs_liesIn_42 : decode prog_6_method_15_code 42 = .ok (.getfield 12, 3) := by decide +kernel
theorem d_Rgs_liesIn_45 : decode prog_6_method_15_code 45 = .ok (.iload_n 3, 1) := by decide +kernel
theorem d_Rgs_liesIn_46 : decode prog_6_method_15_code 46 = .ok (.invokevirtual 46, 3) := by decide +kernel
theorem d_Rgs_liesIn_49 : decode prog_6_method_15_code 49 = .ok (.aload_n 0, 1) := by decide +kernel
theorem d_Rgs_liesIn_50 : decode prog_6_method_15_code 50 = .ok (.getfield 18, 3) := by decide +kernel
theorem d_Rgs_liesIn_53 : decode prog_6_method_15_code 53 = .ok (.iload_n 3, 1) := by decide +kernel
theorem d_Rgs_liesIn_54 : decode prog_6_method_15_code 54 = .ok (.invokevirtual 46, 3) := by decide +kernel
theorem d_Rgs_liesIn_57 : decode prog_6_method_15_code 57 = .ok (.invokevirtual 141, 3) := by decide +kernel
theorem d_Rgs_liesIn_60 : decode prog_6_method_15_code 60 = .ok (.ireturn, 1) := by decide +kernel
theorem d_Rgs_liesIn_61 : decode prog_6_method_15_code 61 = .ok (.iinc 3 1, 3) := by decide +kernel
theorem d_Rgs_liesIn_64 : decode prog_6_method_15_code 64 = .ok (.goto (-58), 3) := by decide +kernel
theorem d_Rgs_liesIn_67 : decode prog_6_method_15_code 67 = .ok (.iconst 0, 1) := by decide +kernel
theorem d_Rgs_liesIn_68 : decode prog_6_method_15_code 68 = .ok (.ireturn, 1) := by decide +kernel
theorem d_Rgs_ownerOf_0 : decode prog_6_method_14_code 0 = .ok (.aload_n 0, 1) := by decide +kernel
theorem d_Rgs_ownerOf_1 : decode prog_6_method_14_code 1 = .ok (.iload_n 1, 1) := by decide +kernel
theorem d_Rgs_ownerOf_2 : decode prog_6_method_14_code 2 = .ok (.invokevirtual 131, 3) := by decide +kernel
theorem d_Rgs_ownerOf_5 : decode prog_6_method_14_code 5 = .ok (.lstore_n 2, 1) := by decide +kernel
theorem d_Rgs_ownerOf_6 : decode prog_6_method_14_code 6 = .ok (.lload_n 2, 1) := by decide +kernel
theorem d_Rgs_ownerOf_7 : decode prog_6_method_14_code 7 = .ok (.lconst 0, 1) := by decide +kernel
theorem d_Rgs_ownerOf_8 : decode prog_6_method_14_code 8 = .ok (.lcmp, 1) := by decide +kernel
theorem d_Rgs_ownerOf_9 : decode prog_6_method_14_code 9 = .ok (.ifCond .le 5, 3) := by decide +kernel
theorem d_Rgs_ownerOf_12 : decode prog_6_method_14_code 12 = .ok (.iload_n 1, 1) := by decide +kernel
theorem d_Rgs_ownerOf_13 : decode prog_6_method_14_code 13 = .ok (.ireturn, 1) := by decide +kernel
theorem d_Rgs_ownerOf_14 : decode prog_6_method_14_code 14 = .ok (.iconst (-1), 1) := by decide +kernel
theorem d_Rgs_ownerOf_15 : decode prog_6_method_14_code 15 = .ok (.istore 4, 2) := by decide +kernel
theorem d_Rgs_ownerOf_17 : decode prog_6_method_14_code 17 = .ok (.lconst 0, 1) := by decide +kernel
theorem d_Rgs_ownerOf_18 : decode prog_6_method_14_code 18 = .ok (.lstore 5, 2) := by decide +kernel
theorem d_Rgs_ownerOf_20 : decode prog_6_method_14_code 20 = .ok (.iconst 0, 1) := by decide +kernel
theorem d_Rgs_ownerOf_21 : decode prog_6_method_14_code 21 = .ok (.istore 7, 2) := by decide +kernel
theorem d_Rgs_ownerOf_23 : decode prog_6_method_14_code 23 = .ok (.iload 7, 2) := by decide +kernel
theorem d_Rgs_ownerOf_25 : decode prog_6_method_14_code 25 = .ok (.aload_n 0, 1) := by decide +kernel
theorem d_Rgs_ownerOf_26 : decode prog_6_method_14_code 26 = .ok (.getfield 21, 3) := by decide +kernel
theorem d_Rgs_ownerOf_29 : decode prog_6_method_14_code 29 = .ok (.getfield 43, 3) := by decide +kernel
theorem d_Rgs_ownerOf_32 : decode prog_6_method_14_code 32 = .ok (.if_icmp .ge 69, 3) := by decide +kernel
theorem d_Rgs_ownerOf_35 : decode prog_6_method_14_code 35 = .ok (.aload_n 0, 1) := by decide +kernel
theorem d_Rgs_ownerOf_36 : decode prog_6_method_14_code 36 = .ok (.iload 7, 2) := by decide +kernel
theorem d_Rgs_ownerOf_38 : decode prog_6_method_14_code 38 = .ok (.invokevirtual 131, 3) := by decide +kernel
theorem d_Rgs_ownerOf_41 : decode prog_6_method_14_code 41 = .ok (.lstore 8, 2) := by decide +kernel
theorem d_Rgs_ownerOf_43 : decode prog_6_method_14_code 43 = .ok (.lload 8, 2) := by decide +kernel
theorem d_Rgs_ownerOf_45 : decode prog_6_method_14_code 45 = .ok (.lload_n 2, 1) := by decide +kernel
theorem d_Rgs_ownerOf_46 : decode prog_6_method_14_code 46 = .ok (.lneg, 1) := by decide +kernel
theorem d_Rgs_ownerOf_47 : decode prog_6_method_14_code 47 = .ok (.lcmp, 1) := by decide +kernel
theorem d_Rgs_ownerOf_48 : decode prog_6_method_14_code 48 = .ok (.ifCond .le 21, 3) := by decide +kernel
theorem d_Rgs_ownerOf_51 : decode prog_6_method_14_code 51 = .ok (.iload 4, 2) := by decide +kernel
theorem d_Rgs_ownerOf_53 : decode prog_6_method_14_code 53 = .ok (.iconst (-1), 1) := by decide +kernel
theorem d_Rgs_ownerOf_54 : decode prog_6_method_14_code 54 = .ok (.if_icmp .eq 11, 3) := by decide +kernel
theorem d_Rgs_ownerOf_57 : decode prog_6_method_14_code 57 = .ok (.lload 8, 2) := by decide +kernel
theorem d_Rgs_ownerOf_59 : decode prog_6_method_14_code 59 = .ok (.lload 5, 2) := by decide +kernel
theorem d_Rgs_ownerOf_61 : decode prog_6_method_14_code 61 = .ok (.lcmp, 1) := by decide +kernel
theorem d_Rgs_ownerOf_62 : decode prog_6_method_14_code 62 = .ok (.ifCond .ge 7, 3) := by decide +kernel
theorem d_Rgs_ownerOf_65 : decode prog_6_method_14_code 65 = .ok (.iconst 1, 1) := by decide +kernel
theorem d_Rgs_ownerOf_66 : decode prog_6_method_14_code 66 = .ok (.goto 4, 3) := by decide +kernel
theorem d_Rgs_ownerOf_69 : decode prog_6_method_14_code 69 = .ok (.iconst 0, 1) := by decide +kernel
theorem d_Rgs_ownerOf_70 : decode prog_6_method_14_code 70 = .ok (.istore 10, 2) := by decide +kernel
theorem d_Rgs_ownerOf_72 : decode prog_6_method_14_code 72 = .ok (.iload 10, 2) := by decide +kernel
theorem d_Rgs_ownerOf_74 : decode prog_6_method_14_code 74 = .ok (.ifCond .eq 21, 3) := by decide +kernel
theorem d_Rgs_ownerOf_77 : decode prog_6_method_14_code 77 = .ok (.aload_n 0, 1) := by decide +kernel
theorem d_Rgs_ownerOf_78 : decode prog_6_method_14_code 78 = .ok (.iload_n 1, 1) := by decide +kernel
theorem d_Rgs_ownerOf_79 : decode prog_6_method_14_code 79 = .ok (.iload 7, 2) := by decide +kernel
theorem d_Rgs_ownerOf_81 : decode prog_6_method_14_code 81 = .ok (.invokevirtual 135, 3) := by decide +kernel
theorem d_Rgs_ownerOf_84 : decode prog_6_method_14_code 84 = .ok (.ifCond .eq 11, 3) := by decide +kernel
theorem d_Rgs_ownerOf_87 : decode prog_6_method_14_code 87 = .ok (.iload 7, 2) := by decide +kernel
theorem d_Rgs_ownerOf_89 : decode prog_6_method_14_code 89 = .ok (.istore 4, 2) := by decide +kernel
theorem d_Rgs_ownerOf_91 : decode prog_6_method_14_code 91 = .ok (.lload 8, 2) := by decide +kernel
theorem d_Rgs_ownerOf_93 : decode prog_6_method_14_code 93 = .ok (.lstore 5, 2) := by decide +kernel
theorem d_Rgs_ownerOf_95 : decode prog_6_method_14_code 95 = .ok (.iinc 7 1, 3) := by decide +kernel
theorem d_Rgs_ownerOf_98 : decode prog_6_method_14_code 98 = .ok (.goto (-75), 3) := by decide +kernel
theorem d_Rgs_ownerOf_101 : decode prog_6_method_14_code 101 = .ok (.iload 4, 2) := by decide +kernel
theorem d_Rgs_ownerOf_103 : decode prog_6_method_14_code 103 = .ok (.ireturn, 1) := by decide +kernel
theorem d_Rgs_addCorners_0 : decode prog_6_method_10_code 0 = .ok (.iload_n 2, 1) := by decide +kernel
theorem d_Rgs_addCorners_1 : decode prog_6_method_10_code 1 = .ok (.istore 5, 2) := by decide +kernel
theorem d_Rgs_addCorners_3 : decode prog_6_method_10_code 3 = .ok (.iload_n 3, 1) := by decide +kernel
theorem d_Rgs_addCorners_4 : decode prog_6_method_10_code 4 = .ok (.istore 6, 2) := by decide +kernel
theorem d_Rgs_addCorners_6 : decode prog_6_method_10_code 6 = .ok (.iload 6, 2) := by decide +kernel
theorem d_Rgs_addCorners_8 : decode prog_6_method_10_code 8 = .ok (.iload 4, 2) := by decide +kernel
theorem d_Rgs_addCorners_10 : decode prog_6_method_10_code 10 = .ok (.if_icmp .ge 121, 3) := by decide +kernel
theorem d_Rgs_addCorners_13 : decode prog_6_method_10_code 13 = .ok (.iload 5, 2) := by decide +kernel
theorem d_Rgs_addCorners_15 : decode prog_6_method_10_code 15 = .ok (.iload_n 3, 1) := by decide +kernel
theorem d_Rgs_addCorners_16 : decode prog_6_method_10_code 16 = .ok (.if_icmp .le 10, 3) := by decide +kernel
theorem d_Rgs_addCorners_19 : decode prog_6_method_10_code 19 = .ok (.iload 5, 2) := by decide +kernel
theorem d_Rgs_addCorners_21 : decode prog_6_method_10_code 21 = .ok (.iconst 1, 1) := by decide +kernel
theorem d_Rgs_addCorners_22 : decode prog_6_method_10_code 22 = .ok (.isub, 1) := by decide +kernel
theorem d_Rgs_addCorners_23 : decode prog_6_method_10_code 23 = .ok (.goto 7, 3) := by decide +kernel
theorem d_Rgs_addCorners_26 : decode prog_6_method_10_code 26 = .ok (.iload 4, 2) := by decide +kernel
theorem d_Rgs_addCorners_28 : decode prog_6_method_10_code 28 = .ok (.iconst 1, 1) := by decide +kernel
theorem d_Rgs_addCorners_29 : decode prog_6_method_10_code 29 = .ok (.isub, 1) := by decide +kernel
theorem d_Rgs_addCorners_30 : decode prog_6_method_10_code 30 = .ok (.istore 7, 2) := by decide +kernel
theorem d_Rgs_addCorners_32 : decode prog_6_method_10_code 32 = .ok (.iload 5, 2) := by decide +kernel
theorem d_Rgs_addCorners_34 : decode prog_6_method_10_code 34 = .ok (.iconst 1, 1) := by decide +kernel
theorem d_Rgs_addCorners_35 : decode prog_6_method_10_code 35 = .ok (.iadd, 1) := by decide +kernel
theorem d_Rgs_addCorners_36 : decode prog_6_method_10_code 36 = .ok (.iload 4, 2) := by decide +kernel
theorem d_Rgs_addCorners_38 : decode prog_6_method_10_code 38 = .ok (.if_icmp .ge 10, 3) := by decide +kernel
theorem d_Rgs_addCorners_41 : decode prog_6_method_10_code 41 = .ok (.iload 5, 2) := by decide +kernel
theorem d_Rgs_addCorners_43 : decode prog_6_method_10_code 43 = .ok (.iconst 1, 1) := by decide +kernel
theorem d_Rgs_addCorners_44 : decode prog_6_method_10_code 44 = .ok (.iadd, 1) := by decide +kernel
theorem d_Rgs_addCorners_45 : decode prog_6_method_10_code 45 = .ok (.goto 4, 3) := by decide +kernel
theorem d_Rgs_addCorners_48 : decode prog_6_method_10_code 48 = .ok (.iload_n 3, 1) := by decide +kernel
theorem d_Rgs_addCorners_49 : decode prog_6_method_10_code 49 = .ok (.istore 8, 2) := by decide +kernel
theorem d_Rgs_addCorners_51 : decode prog_6_method_10_code 51 = .ok (.aload_n 0, 1) := by decide +kernel
theorem d_Rgs_addCorners_52 : decode prog_6_method_10_code 52 = .ok (.getfield 34, 3) := by decide +kernel
theorem d_Rgs_addCorners_55 : decode prog_6_method_10_code 55 = .ok (.iload 5, 2) := by decide +kernel
theorem d_Rgs_addCorners_57 : decode prog_6_method_10_code 57 = .ok (.invokevirtual 46, 3) := by decide +kernel
theorem d_Rgs_addCorners_60 : decode prog_6_method_10_code 60 = .ok (.istore 9, 2) := by decide +kernel
theorem d_Rgs_addCorners_62 : decode prog_6_method_10_code 62 = .ok (.aload_n 1, 1) := by decide +kernel
theorem d_Rgs_addCorners_63 : decode prog_6_method_10_code 63 = .ok (.aload_n 0, 1) := by decide +kernel
theorem d_Rgs_addCorners_64 : decode prog_6_method_10_code 64 = .ok (.getfield 34, 3) := by decide +kernel
theorem d_Rgs_addCorners_67 : decode prog_6_method_10_code 67 = .ok (.iload 7, 2) := by decide +kernel
theorem d_Rgs_addCorners_69 : decode prog_6_method_10_code 69 = .ok (.invokevirtual 46, 3) := by decide +kernel
theorem d_Rgs_addCorners_72 : decode prog_6_method_10_code 72 = .ok (.iload 9, 2) := by decide +kernel
theorem d_Rgs_addCorners_74 : decode prog_6_method_10_code 74 = .ok (.aload_n 0, 1) := by decide +kernel
theorem d_Rgs_addCorners_75 : decode prog_6_method_10_code 75 = .ok (.getfield 34, 3) := by decide +kernel
theorem d_Rgs_addCorners_78 : decode prog_6_method_10_code 78 = .ok (.iload 8, 2) := by decide +kernel
theorem d_Rgs_addCorners_80 : decode prog_6_method_10_code 80 = .ok (.invokevirtual 46, 3) := by decide +kernel
theorem d_Rgs_addCorners_83 : decode prog_6_method_10_code 83 = .ok (.invokevirtual 110, 3) := by decide +kernel
theorem d_Rgs_addCorners_86 : decode prog_6_method_10_code 86 = .ok (.ifCond .ne 35, 3) := by decide +kernel
theorem d_Rgs_addCorners_89 : decode prog_6_method_10_code 89 = .ok (.aload_n 0, 1) := by decide +kernel
theorem d_Rgs_addCorners_90 : decode prog_6_method_10_code 90 = .ok (.getfield 12, 3) := by decide +kernel
theorem d_Rgs_addCorners_93 : decode prog_6_method_10_code 93 = .ok (.aload_n 1, 1) := by decide +kernel
theorem d_Rgs_addCorners_94 : decode prog_6_method_10_code 94 = .ok (.getfield 114, 3) := by decide +kernel
theorem d_Rgs_addCorners_97 : decode prog_6_method_10_code 97 = .ok (.iload 9, 2) := by decide +kernel
theorem d_Rgs_addCorners_99 : decode prog_6_method_10_code 99 = .ok (.invokevirtual 46, 3) := by decide +kernel
theorem d_Rgs_addCorners_102 : decode prog_6_method_10_code 102 = .ok (.invokevirtual 71, 3) := by decide +kernel
theorem d_Rgs_addCorners_105 : decode prog_6_method_10_code 105 = .ok (.aload_n 0, 1) := by decide +kernel
theorem d_Rgs_addCorners_106 : decode prog_6_method_10_code 106 = .ok (.getfield 18, 3) := by decide +kernel
theorem d_Rgs_addCorners_109 : decode prog_6_method_10_code 109 = .ok (.aload_n 1, 1) := by decide +kernel
theorem d_Rgs_addCorners_110 : decode prog_6_method_10_code 110 = .ok (.getfield 115, 3) := by decide +kernel
theorem d_Rgs_addCorners_113 : decode prog_6_method_10_code 113 = .ok (.iload 9, 2) := by decide +kernel
theorem d_Rgs_addCorners_115 : decode prog_6_method_10_code 115 = .ok (.invokevirtual 46, 3) := by decide +kernel
theorem d_Rgs_addCorners_118 : decode prog_6_method_10_code 118 = .ok (.invokevirtual 71, 3) := by decide +kernel
theorem d_Rgs_addCorners_121 : decode prog_6_method_10_code 121 = .ok (.iload 8, 2) := by decide +kernel
theorem d_Rgs_addCorners_123 : decode prog_6_method_10_code 123 = .ok (.istore 5, 2) := by decide +kernel
theorem d_Rgs_addCorners_125 : decode prog_6_method_10_code 125 = .ok (.iinc 6 1, 3) := by decide +kernel
theorem d_Rgs_addCorners_128 : decode prog_6_method_10_code 128 = .ok (.goto (-122), 3) := by decide +kernel
theorem d_Rgs_addCorners_131 : decode prog_6_method_10_code 131 = .ok (.return_, 1) := by decide +kernel
theorem d_Row_shorten_0 : decode prog_7_method_3_code 0 = .ok (.iload_n 1, 1) := by decide +kernel
theorem d_Row_shorten_1 : decode prog_7_method_3_code 1 = .ok (.ifCond .lt 16, 3) := by decide +kernel
theorem d_Row_shorten_4 : decode prog_7_method_3_code 4 = .ok (.iload_n 1, 1) := by decide +kernel
theorem d_Row_shorten_5 : decode prog_7_method_3_code 5 = .ok (.aload_n 0, 1) := by decide +kernel
theorem d_Row_shorten_6 : decode prog_7_method_3_code 6 = .ok (.getfield 15, 3) := by decide +kernel
theorem d_Row_shorten_9 : decode prog_7_method_3_code 9 = .ok (.if_icmp .ge 8, 3) := by decide +kernel
theorem d_Row_shorten_12 : decode prog_7_method_3_code 12 = .ok (.aload_n 0, 1) := by decide +kernel
theorem d_Row_shorten_13 : decode prog_7_method_3_code 13 = .ok (.iload_n 1, 1) := by decide +kernel
theorem d_Row_shorten_14 : decode prog_7_method_3_code 14 = .ok (.putfield 15, 3) := by decide +kernel
theorem d_Row_shorten_17 : decode prog_7_method_3_code 17 = .ok (.return_, 1) := by decide +kernel
theorem d_Rgs_takeRing_0 : decode prog_6_method_9_code 0 = .ok (.aload_n 0, 1) := by decide +kernel
theorem d_Rgs_takeRing_1 : decode prog_6_method_9_code 1 = .ok (.getfield 34, 3) := by decide +kernel
theorem d_Rgs_takeRing_4 : decode prog_6_method_9_code 4 = .ok (.getfield 43, 3) := by decide +kernel
theorem d_Rgs_takeRing_7 : decode prog_6_method_9_code 7 = .ok (.istore_n 3, 1) := by decide +kernel
theorem d_Rgs_takeRing_8 : decode prog_6_method_9_code 8 = .ok (.iload_n 2, 1) := by decide +kernel
theorem d_Rgs_takeRing_9 : decode prog_6_method_9_code 9 = .ok (.istore 4, 2) := by decide +kernel
theorem d_Rgs_takeRing_11 : decode prog_6_method_9_code 11 = .ok (.iload_n 2, 1) := by decide +kernel
theorem d_Rgs_takeRing_12 : decode prog_6_method_9_code 12 = .ok (.istore 5, 2) := by decide +kernel
theorem d_Rgs_takeRing_14 : decode prog_6_method_9_code 14 = .ok (.iload 5, 2) := by decide +kernel
theorem d_Rgs_takeRing_16 : decode prog_6_method_9_code 16 = .ok (.iload_n 3, 1) := by decide +kernel
theorem d_Rgs_takeRing_17 : decode prog_6_method_9_code 17 = .ok (.if_icmp .ge 55, 3) := by decide +kernel
theorem d_Rgs_takeRing_20 : decode prog_6_method_9_code 20 = .ok (.aload_n 0, 1) := by decide +kernel
theorem d_Rgs_takeRing_21 : decode prog_6_method_9_code 21 = .ok (.getfield 37, 3) := by decide +kernel
theorem d_Rgs_takeRing_24 : decode prog_6_method_9_code 24 = .ok (.aload_n 0, 1) := by decide +kernel
theorem d_Rgs_takeRing_25 : decode prog_6_method_9_code 25 = .ok (.getfield 34, 3) := by decide +kernel
theorem d_Rgs_takeRing_28 : decode prog_6_method_9_code 28 = .ok (.iload 5, 2) := by decide +kernel
theorem d_Rgs_takeRing_30 : decode prog_6_method_9_code 30 = .ok (.invokevirtual 46, 3) := by decide +kernel
theorem d_Rgs_takeRing_33 : decode prog_6_method_9_code 33 = .ok (.iconst (-1), 1) := by decide +kernel
theorem d_Rgs_takeRing_34 : decode prog_6_method_9_code 34 = .ok (.invokevirtual 82, 3) := by decide +kernel
theorem d_Rgs_takeRing_37 : decode prog_6_method_9_code 37 = .ok (.aload_n 1, 1) := by decide +kernel
theorem d_Rgs_takeRing_38 : decode prog_6_method_9_code 38 = .ok (.aload_n 0, 1) := by decide +kernel
theorem d_Rgs_takeRing_39 : decode prog_6_method_9_code 39 = .ok (.getfield 34, 3) := by decide +kernel
theorem d_Rgs_takeRing_42 : decode prog_6_method_9_code 42 = .ok (.iload 5, 2) := by decide +kernel
theorem d_Rgs_takeRing_44 : decode prog_6_method_9_code 44 = .ok (.invokevirtual 46, 3) := by decide +kernel
theorem d_Rgs_takeRing_47 : decode prog_6_method_9_code 47 = .ok (.aload_n 0, 1) := by decide +kernel
theorem d_Rgs_takeRing_48 : decode prog_6_method_9_code 48 = .ok (.getfield 34, 3) := by decide +kernel
theorem d_Rgs_takeRing_51 : decode prog_6_method_9_code 51 = .ok (.iload 4, 2) := by decide +kernel
theorem d_Rgs_takeRing_53 : decode prog_6_method_9_code 53 = .ok (.invokevirtual 46, 3) := by decide +kernel
