theorem d_Mod_tellAll_124 : decode prog_9_method_44_code 124 = .ok (.aload_n 0, 1) := by decide +kernel
theorem d_Mod_tellAll_125 : decode prog_9_method_44_code 125 = .ok (.getfield 82, 3) := by decide +kernel
theorem d_Mod_tellAll_128 : decode prog_9_method_44_code 128 = .ok (.iastore, 1) := by decide +kernel
theorem d_Mod_tellAll_129 : decode prog_9_method_44_code 129 = .ok (.return_, 1) := by decide +kernel
theorem d_Mod_isTooMuch_0 : decode prog_9_method_45_code 0 = .ok (.iconst 2, 1) := by decide +kernel
theorem d_Mod_isTooMuch_1 : decode prog_9_method_45_code 1 = .ok (.istore_n 1, 1) := by decide +kernel
theorem d_Mod_isTooMuch_2 : decode prog_9_method_45_code 2 = .ok (.iconst 0, 1) := by decide +kernel
theorem d_Mod_isTooMuch_3 : decode prog_9_method_45_code 3 = .ok (.istore_n 2, 1) := by decide +kernel
theorem d_Mod_isTooMuch_4 : decode prog_9_method_45_code 4 = .ok (.iconst 0, 1) := by decide +kernel
theorem d_Mod_isTooMuch_5 : decode prog_9_method_45_code 5 = .ok (.istore_n 3, 1) := by decide +kernel
theorem d_Mod_isTooMuch_6 : decode prog_9_method_45_code 6 = .ok (.iload_n 3, 1) := by decide +kernel
theorem d_Mod_isTooMuch_7 : decode prog_9_method_45_code 7 = .ok (.aload_n 0, 1) := by decide +kernel
theorem d_Mod_isTooMuch_8 : decode prog_9_method_45_code 8 = .ok (.getfield 184, 3) := by decide +kernel
theorem d_Mod_isTooMuch_11 : decode prog_9_method_45_code 11 = .ok (.if_icmp .ge 39, 3) := by decide +kernel
theorem d_Mod_isTooMuch_14 : decode prog_9_method_45_code 14 = .ok (.iload_n 1, 1) := by decide +kernel
theorem d_Mod_isTooMuch_15 : decode prog_9_method_45_code 15 = .ok (.aload_n 0, 1) := by decide +kernel
theorem d_Mod_isTooMuch_16 : decode prog_9_method_45_code 16 = .ok (.getfield 53, 3) := by decide +kernel
theorem d_Mod_isTooMuch_19 : decode prog_9_method_45_code 19 = .ok (.iload_n 3, 1) := by decide +kernel
theorem d_Mod_isTooMuch_20 : decode prog_9_method_45_code 20 = .ok (.laload, 1) := by decide +kernel
theorem d_Mod_isTooMuch_21 : decode prog_9_method_45_code 21 = .ok (.lconst 0, 1) := by decide +kernel
theorem d_Mod_isTooMuch_22 : decode prog_9_method_45_code 22 = .ok (.lcmp, 1) := by decide +kernel
theorem d_Mod_isTooMuch_23 : decode prog_9_method_45_code 23 = .ok (.ifCond .le 7, 3) := by decide +kernel
theorem d_Mod_isTooMuch_26 : decode prog_9_method_45_code 26 = .ok (.iconst 3, 1) := by decide +kernel
theorem d_Mod_isTooMuch_27 : decode prog_9_method_45_code 27 = .ok (.goto 4, 3) := by decide +kernel
theorem d_Mod_isTooMuch_30 : decode prog_9_method_45_code 30 = .ok (.iconst 1, 1) := by decide +kernel
theorem d_Mod_isTooMuch_31 : decode prog_9_method_45_code 31 = .ok (.iadd, 1) := by decide +kernel
theorem d_Mod_isTooMuch_32 : decode prog_9_method_45_code 32 = .ok (.istore_n 1, 1) := by decide +kernel
theorem d_Mod_isTooMuch_33 : decode prog_9_method_45_code 33 = .ok (.iload_n 2, 1) := by decide +kernel
theorem d_Mod_isTooMuch_34 : decode prog_9_method_45_code 34 = .ok (.aload_n 0, 1) := by decide +kernel
theorem d_Mod_isTooMuch_35 : decode prog_9_method_45_code 35 = .ok (.getfield 50, 3) := by decide +kernel
theorem d_Mod_isTooMuch_38 : decode prog_9_method_45_code 38 = .ok (.iload_n 3, 1) := by decide +kernel
theorem d_Mod_isTooMuch_39 : decode prog_9_method_45_code 39 = .ok (.iaload, 1) := by decide +kernel
theorem d_Mod_isTooMuch_40 : decode prog_9_method_45_code 40 = .ok (.iconst 1, 1) := by decide +kernel
theorem d_Mod_isTooMuch_41 : decode prog_9_method_45_code 41 = .ok (.iadd, 1) := by decide +kernel
theorem d_Mod_isTooMuch_42 : decode prog_9_method_45_code 42 = .ok (.iadd, 1) := by decide +kernel
theorem d_Mod_isTooMuch_43 : decode prog_9_method_45_code 43 = .ok (.istore_n 2, 1) := by decide +kernel
theorem d_Mod_isTooMuch_44 : decode prog_9_method_45_code 44 = .ok (.iinc 3 1, 3) := by decide +kernel
theorem d_Mod_isTooMuch_47 : decode prog_9_method_45_code 47 = .ok (.goto (-41), 3) := by decide +kernel
theorem d_Mod_isTooMuch_50 : decode prog_9_method_45_code 50 = .ok (.iload_n 1, 1) := by decide +kernel
theorem d_Mod_isTooMuch_51 : decode prog_9_method_45_code 51 = .ok (.sipush 2048, 3) := by decide +kernel
theorem d_Mod_isTooMuch_54 : decode prog_9_method_45_code 54 = .ok (.if_icmp .gt 10, 3) := by decide +kernel
theorem d_Mod_isTooMuch_57 : decode prog_9_method_45_code 57 = .ok (.iload_n 2, 1) := by decide +kernel
theorem d_Mod_isTooMuch_58 : decode prog_9_method_45_code 58 = .ok (.sipush 2048, 3) := by decide +kernel
theorem d_Mod_isTooMuch_61 : decode prog_9_method_45_code 61 = .ok (.if_icmp .le 7, 3) := by decide +kernel
theorem d_Mod_isTooMuch_64 : decode prog_9_method_45_code 64 = .ok (.iconst 1, 1) := by decide +kernel
theorem d_Mod_isTooMuch_65 : decode prog_9_method_45_code 65 = .ok (.goto 4, 3) := by decide +kernel
theorem d_Mod_isTooMuch_68 : decode prog_9_method_45_code 68 = .ok (.iconst 0, 1) := by decide +kernel
theorem d_Mod_isTooMuch_69 : decode prog_9_method_45_code 69 = .ok (.ireturn, 1) := by decide +kernel
theorem d_Mod_overlay_0 : decode prog_9_method_46_code 0 = .ok (.aload_n 0, 1) := by decide +kernel
theorem d_Mod_overlay_1 : decode prog_9_method_46_code 1 = .ok (.iconst 0, 1) := by decide +kernel
theorem d_Mod_overlay_2 : decode prog_9_method_46_code 2 = .ok (.putfield 66, 3) := by decide +kernel
theorem d_Mod_overlay_5 : decode prog_9_method_46_code 5 = .ok (.aload_n 0, 1) := by decide +kernel
theorem d_Mod_overlay_6 : decode prog_9_method_46_code 6 = .ok (.invokevirtual 133, 3) := by decide +kernel
theorem d_Mod_overlay_9 : decode prog_9_method_46_code 9 = .ok (.iload_n 1, 1) := by decide +kernel
theorem d_Mod_overlay_10 : decode prog_9_method_46_code 10 = .ok (.iconst 0, 1) := by decide +kernel
theorem d_Mod_overlay_11 : decode prog_9_method_46_code 11 = .ok (.iconst 4, 1) := by decide +kernel
theorem d_Mod_overlay_12 : decode prog_9_method_46_code 12 = .ok (.invokestatic 72, 3) := by decide +kernel
theorem d_Mod_overlay_15 : decode prog_9_method_46_code 15 = .ok (.ifCond .ne 9, 3) := by decide +kernel
theorem d_Mod_overlay_18 : decode prog_9_method_46_code 18 = .ok (.aload_n 0, 1) := by decide +kernel
theorem d_Mod_overlay_19 : decode prog_9_method_46_code 19 = .ok (.iconst 1, 1) := by decide +kernel
theorem d_Mod_overlay_20 : decode prog_9_method_46_code 20 = .ok (.invokevirtual 121, 3) := by decide +kernel
theorem d_Mod_overlay_23 : decode prog_9_method_46_code 23 = .ok (.ireturn, 1) := by decide +kernel
theorem d_Mod_overlay_24 : decode prog_9_method_46_code 24 = .ok (.aload_n 0, 1) := by decide +kernel
theorem d_Mod_overlay_25 : decode prog_9_method_46_code 25 = .ok (.invokevirtual 217, 3) := by decide +kernel
theorem d_Mod_overlay_28 : decode prog_9_method_46_code 28 = .ok (.ifCond .ne 9, 3) := by decide +kernel
theorem d_Mod_overlay_31 : decode prog_9_method_46_code 31 = .ok (.aload_n 0, 1) := by decide +kernel
theorem d_Mod_overlay_32 : decode prog_9_method_46_code 32 = .ok (.iconst 2, 1) := by decide +kernel
theorem d_Mod_overlay_33 : decode prog_9_method_46_code 33 = .ok (.invokevirtual 121, 3) := by decide +kernel
theorem d_Mod_overlay_36 : decode prog_9_method_46_code 36 = .ok (.ireturn, 1) := by decide +kernel
theorem d_Mod_overlay_37 : decode prog_9_method_46_code 37 = .ok (.aload_n 0, 1) := by decide +kernel
theorem d_Mod_overlay_38 : decode prog_9_method_46_code 38 = .ok (.iload_n 1, 1) := by decide +kernel
theorem d_Mod_overlay_39 : decode prog_9_method_46_code 39 = .ok (.invokevirtual 221, 3) := by decide +kernel
theorem d_Mod_overlay_42 : decode prog_9_method_46_code 42 = .ok (.aload_n 0, 1) := by decide +kernel
theorem d_Mod_overlay_43 : decode prog_9_method_46_code 43 = .ok (.iconst 0, 1) := by decide +kernel
theorem d_Mod_overlay_44 : decode prog_9_method_46_code 44 = .ok (.putfield 184, 3) := by decide +kernel
theorem d_Mod_overlay_47 : decode prog_9_method_46_code 47 = .ok (.aload_n 0, 1) := by decide +kernel
theorem d_Mod_overlay_48 : decode prog_9_method_46_code 48 = .ok (.iconst 0, 1) := by decide +kernel
theorem d_Mod_overlay_49 : decode prog_9_method_46_code 49 = .ok (.putfield 187, 3) := by decide +kernel
theorem d_Mod_overlay_52 : decode prog_9_method_46_code 52 = .ok (.iconst 0, 1) := by decide +kernel
theorem d_Mod_overlay_53 : decode prog_9_method_46_code 53 = .ok (.istore_n 2, 1) := by decide +kernel
theorem d_Mod_overlay_54 : decode prog_9_method_46_code 54 = .ok (.iload_n 2, 1) := by decide +kernel
theorem d_Mod_overlay_55 : decode prog_9_method_46_code 55 = .ok (.aload_n 0, 1) := by decide +kernel
theorem d_Mod_overlay_56 : decode prog_9_method_46_code 56 = .ok (.getfield 110, 3) := by decide +kernel
theorem d_Mod_overlay_59 : decode prog_9_method_46_code 59 = .ok (.if_icmp .ge 23, 3) := by decide +kernel
theorem d_Mod_overlay_62 : decode prog_9_method_46_code 62 = .ok (.aload_n 0, 1) := by decide +kernel
theorem d_Mod_overlay_63 : decode prog_9_method_46_code 63 = .ok (.getfield 28, 3) := by decide +kernel
theorem d_Mod_overlay_66 : decode prog_9_method_46_code 66 = .ok (.iload_n 2, 1) := by decide +kernel
theorem d_Mod_overlay_67 : decode prog_9_method_46_code 67 = .ok (.baload, 1) := by decide +kernel
theorem d_Mod_overlay_68 : decode prog_9_method_46_code 68 = .ok (.ifCond .ne 8, 3) := by decide +kernel
theorem d_Mod_overlay_71 : decode prog_9_method_46_code 71 = .ok (.aload_n 0, 1) := by decide +kernel
theorem d_Mod_overlay_72 : decode prog_9_method_46_code 72 = .ok (.iload_n 2, 1) := by decide +kernel
theorem d_Mod_overlay_73 : decode prog_9_method_46_code 73 = .ok (.invokevirtual 224, 3) := by decide +kernel
theorem d_Mod_overlay_76 : decode prog_9_method_46_code 76 = .ok (.iinc 2 1, 3) := by decide +kernel
theorem d_Mod_overlay_79 : decode prog_9_method_46_code 79 = .ok (.goto (-25), 3) := by decide +kernel
theorem d_Mod_overlay_82 : decode prog_9_method_46_code 82 = .ok (.aload_n 0, 1) := by decide +kernel
theorem d_Mod_overlay_83 : decode prog_9_method_46_code 83 = .ok (.invokevirtual 227, 3) := by decide +kernel
theorem d_Mod_overlay_86 : decode prog_9_method_46_code 86 = .ok (.ifCond .eq 9, 3) := by decide +kernel
theorem d_Mod_overlay_89 : decode prog_9_method_46_code 89 = .ok (.aload_n 0, 1) := by decide +kernel
theorem d_Mod_overlay_90 : decode prog_9_method_46_code 90 = .ok (.iconst 3, 1) := by decide +kernel
theorem d_Mod_overlay_91 : decode prog_9_method_46_code 91 = .ok (.invokevirtual 121, 3) := by decide +kernel
theorem d_Mod_overlay_94 : decode prog_9_method_46_code 94 = .ok (.ireturn, 1) := by decide +kernel
theorem d_Mod_overlay_95 : decode prog_9_method_46_code 95 = .ok (.aload_n 0, 1) := by decide +kernel
theorem d_Mod_overlay_96 : decode prog_9_method_46_code 96 = .ok (.invokevirtual 230, 3) := by decide +kernel
theorem d_Mod_overlay_99 : decode prog_9_method_46_code 99 = .ok (.aload_n 0, 1) := by decide +kernel
theorem d_Mod_overlay_100 : decode prog_9_method_46_code 100 = .ok (.invokevirtual 233, 3) := by decide +kernel
theorem d_Mod_overlay_103 : decode prog_9_method_46_code 103 = .ok (.aload_n 0, 1) := by decide +kernel
theorem d_Mod_overlay_104 : decode prog_9_method_46_code 104 = .ok (.getfield 82, 3) := by decide +kernel
theorem d_Mod_overlay_107 : decode prog_9_method_46_code 107 = .ok (.ireturn, 1) := by decide +kernel
theorem d_Mod_plan_0 : decode prog_9_method_47_code 0 = .ok (.aload_n 0, 1) := by decide +kernel
theorem d_Mod_plan_1 : decode prog_9_method_47_code 1 = .ok (.iconst 0, 1) := by decide +kernel
theorem d_Mod_plan_2 : decode prog_9_method_47_code 2 = .ok (.putfield 66, 3) := by decide +kernel
theorem d_Mod_plan_5 : decode prog_9_method_47_code 5 = .ok (.iload_n 1, 1) := by decide +kernel
theorem d_Mod_plan_6 : decode prog_9_method_47_code 6 = .ok (.iconst 0, 1) := by decide +kernel
theorem d_Mod_plan_7 : decode prog_9_method_47_code 7 = .ok (.aload_n 0, 1) := by decide +kernel
theorem d_Mod_plan_8 : decode prog_9_method_47_code 8 = .ok (.getfield 76, 3) := by decide +kernel
theorem d_Mod_plan_11 : decode prog_9_method_47_code 11 = .ok (.iconst 1, 1) := by decide +kernel
theorem d_Mod_plan_12 : decode prog_9_method_47_code 12 = .ok (.isub, 1) := by decide +kernel
theorem d_Mod_plan_13 : decode prog_9_method_47_code 13 = .ok (.invokestatic 72, 3) := by decide +kernel
theorem d_Mod_plan_16 : decode prog_9_method_47_code 16 = .ok (.ifCond .eq 12, 3) := by decide +kernel
theorem d_Mod_plan_19 : decode prog_9_method_47_code 19 = .ok (.aload_n 0, 1) := by decide +kernel
theorem d_Mod_plan_20 : decode prog_9_method_47_code 20 = .ok (.getfield 32, 3) := by decide +kernel
theorem d_Mod_plan_23 : decode prog_9_method_47_code 23 = .ok (.iload_n 1, 1) := by decide +kernel
theorem d_Mod_plan_24 : decode prog_9_method_47_code 24 = .ok (.iaload, 1) := by decide +kernel
theorem d_Mod_plan_25 : decode prog_9_method_47_code 25 = .ok (.goto 8, 3) := by decide +kernel
theorem d_Mod_plan_28 : decode prog_9_method_47_code 28 = .ok (.aload_n 0, 1) := by decide +kernel
theorem d_Mod_plan_29 : decode prog_9_method_47_code 29 = .ok (.iconst 1, 1) := by decide +kernel
theorem d_Mod_plan_30 : decode prog_9_method_47_code 30 = .ok (.invokevirtual 121, 3) := by decide +kernel
theorem d_Mod_plan_33 : decode prog_9_method_47_code 33 = .ok (.ireturn, 1) := by decide +kernel
theorem d_Mod_ordinate_0 : decode prog_9_method_48_code 0 = .ok (.aload_n 0, 1) := by decide +kernel
theorem d_Mod_ordinate_1 : decode prog_9_method_48_code 1 = .ok (.iconst 0, 1) := by decide +kernel
theorem d_Mod_ordinate_2 : decode prog_9_method_48_code 2 = .ok (.putfield 66, 3) := by decide +kernel
theorem d_Mod_ordinate_5 : decode prog_9_method_48_code 5 = .ok (.iload_n 1, 1) := by decide +kernel
theorem d_Mod_ordinate_6 : decode prog_9_method_48_code 6 = .ok (.iconst 0, 1) := by decide +kernel
theorem d_Mod_ordinate_7 : decode prog_9_method_48_code 7 = .ok (.aload_n 0, 1) := by decide +kernel
theorem d_Mod_ordinate_8 : decode prog_9_method_48_code 8 = .ok (.getfield 79, 3) := by decide +kernel
theorem d_Mod_ordinate_11 : decode prog_9_method_48_code 11 = .ok (.iconst 1, 1) := by decide +kernel
theorem d_Mod_ordinate_12 : decode prog_9_method_48_code 12 = .ok (.isub, 1) := by decide +kernel
theorem d_Mod_ordinate_13 : decode prog_9_method_48_code 13 = .ok (.invokestatic 72, 3) := by decide +kernel
theorem d_Mod_ordinate_16 : decode prog_9_method_48_code 16 = .ok (.ifCond .eq 34, 3) := by decide +kernel
theorem d_Mod_ordinate_19 : decode prog_9_method_48_code 19 = .ok (.iload_n 2, 1) := by decide +kernel
theorem d_Mod_ordinate_20 : decode prog_9_method_48_code 20 = .ok (.iconst 0, 1) := by decide +kernel
theorem d_Mod_ordinate_21 : decode prog_9_method_48_code 21 = .ok (.iconst 1, 1) := by decide +kernel
theorem d_Mod_ordinate_22 : decode prog_9_method_48_code 22 = .ok (.invokestatic 72, 3) := by decide +kernel
theorem d_Mod_ordinate_25 : decode prog_9_method_48_code 25 = .ok (.ifCond .eq 25, 3) := by decide +kernel
theorem d_Mod_ordinate_28 : decode prog_9_method_48_code 28 = .ok (.iload_n 2, 1) := by decide +kernel
theorem d_Mod_ordinate_29 : decode prog_9_method_48_code 29 = .ok (.ifCond .ne 12, 3) := by decide +kernel
theorem d_Mod_ordinate_32 : decode prog_9_method_48_code 32 = .ok (.aload_n 0, 1) := by decide +kernel
theorem d_Mod_ordinate_33 : decode prog_9_method_48_code 33 = .ok (.getfield 35, 3) := by decide +kernel
theorem d_Mod_ordinate_36 : decode prog_9_method_48_code 36 = .ok (.iload_n 1, 1) := by decide +kernel
theorem d_Mod_ordinate_37 : decode prog_9_method_48_code 37 = .ok (.iaload, 1) := by decide +kernel
theorem d_Mod_ordinate_38 : decode prog_9_method_48_code 38 = .ok (.goto 17, 3) := by decide +kernel
theorem d_Mod_ordinate_41 : decode prog_9_method_48_code 41 = .ok (.aload_n 0, 1) := by decide +kernel
theorem d_Mod_ordinate_42 : decode prog_9_method_48_code 42 = .ok (.getfield 38, 3) := by decide +kernel
theorem d_Mod_ordinate_45 : decode prog_9_method_48_code 45 = .ok (.iload_n 1, 1) := by decide +kernel
theorem d_Mod_ordinate_46 : decode prog_9_method_48_code 46 = .ok (.iaload, 1) := by decide +kernel
theorem d_Mod_ordinate_47 : decode prog_9_method_48_code 47 = .ok (.goto 8, 3) := by decide +kernel
theorem d_Mod_ordinate_50 : decode prog_9_method_48_code 50 = .ok (.aload_n 0, 1) := by decide +kernel
theorem d_Mod_ordinate_51 : decode prog_9_method_48_code 51 = .ok (.iconst 1, 1) := by decide +kernel
theorem d_Mod_ordinate_52 : decode prog_9_method_48_code 52 = .ok (.invokevirtual 121, 3) := by decide +kernel
theorem d_Mod_ordinate_55 : decode prog_9_method_48_code 55 = .ok (.ireturn, 1) := by decide +kernel
theorem d_Mod_area_0 : decode prog_9_method_49_code 0 = .ok (.aload_n 0, 1) := by decide +kernel
theorem d_Mod_area_1 : decode prog_9_method_49_code 1 = .ok (.iconst 0, 1) := by decide +kernel
theorem d_Mod_area_2 : decode prog_9_method_49_code 2 = .ok (.putfield 66, 3) := by decide +kernel
theorem d_Mod_area_5 : decode prog_9_method_49_code 5 = .ok (.aload_n 0, 1) := by decide +kernel
theorem d_Mod_area_6 : decode prog_9_method_49_code 6 = .ok (.getfield 85, 3) := by decide +kernel
theorem d_Mod_area_9 : decode prog_9_method_49_code 9 = .ok (.lreturn, 1) := by decide +kernel
theorem d_Mod_count_0 : decode prog_9_method_50_code 0 = .ok (.aload_n 0, 1) := by decide +kernel
theorem d_Mod_count_1 : decode prog_9_method_50_code 1 = .ok (.iconst 0, 1) := by decide +kernel
theorem d_Mod_count_2 : decode prog_9_method_50_code 2 = .ok (.putfield 66, 3) := by decide +kernel
theorem d_Mod_count_5 : decode prog_9_method_50_code 5 = .ok (.iload_n 1, 1) := by decide +kernel
theorem d_Mod_count_6 : decode prog_9_method_50_code 6 = .ok (.iconst 0, 1) := by decide +kernel
theorem d_Mod_count_7 : decode prog_9_method_50_code 7 = .ok (.iconst 3, 1) := by decide +kernel
theorem d_Mod_count_8 : decode prog_9_method_50_code 8 = .ok (.invokestatic 72, 3) := by decide +kernel
theorem d_Mod_count_11 : decode prog_9_method_50_code 11 = .ok (.ifCond .ne 5, 3) := by decide +kernel
theorem d_Mod_count_14 : decode prog_9_method_50_code 14 = .ok (.iconst (-1), 1) := by decide +kernel
theorem d_Mod_count_15 : decode prog_9_method_50_code 15 = .ok (.ireturn, 1) := by decide +kernel
theorem d_Mod_count_16 : decode prog_9_method_50_code 16 = .ok (.iload_n 1, 1) := by decide +kernel
theorem d_Mod_count_17 : decode prog_9_method_50_code 17 = .ok (.ifCond .ne 10, 3) := by decide +kernel
theorem d_Mod_count_20 : decode prog_9_method_50_code 20 = .ok (.aload_n 0, 1) := by decide +kernel
theorem d_Mod_count_21 : decode prog_9_method_50_code 21 = .ok (.getfield 110, 3) := by decide +kernel
theorem d_Mod_count_24 : decode prog_9_method_50_code 24 = .ok (.goto 31, 3) := by decide +kernel
theorem d_Mod_count_27 : decode prog_9_method_50_code 27 = .ok (.iload_n 1, 1) := by decide +kernel
theorem d_Mod_count_28 : decode prog_9_method_50_code 28 = .ok (.iconst 1, 1) := by decide +kernel
theorem d_Mod_count_29 : decode prog_9_method_50_code 29 = .ok (.if_icmp .ne 10, 3) := by decide +kernel
theorem d_Mod_count_32 : decode prog_9_method_50_code 32 = .ok (.aload_n 0, 1) := by decide +kernel
theorem d_Mod_count_33 : decode prog_9_method_50_code 33 = .ok (.getfield 76, 3) := by decide +kernel
theorem d_Mod_count_36 : decode prog_9_method_50_code 36 = .ok (.goto 19, 3) := by decide +kernel
theorem d_Mod_count_39 : decode prog_9_method_50_code 39 = .ok (.iload_n 1, 1) := by decide +kernel
theorem d_Mod_count_40 : decode prog_9_method_50_code 40 = .ok (.iconst 2, 1) := by decide +kernel
theorem d_Mod_count_41 : decode prog_9_method_50_code 41 = .ok (.if_icmp .ne 10, 3) := by decide +kernel
theorem d_Mod_count_44 : decode prog_9_method_50_code 44 = .ok (.aload_n 0, 1) := by decide +kernel
theorem d_Mod_count_45 : decode prog_9_method_50_code 45 = .ok (.getfield 79, 3) := by decide +kernel
theorem d_Mod_count_48 : decode prog_9_method_50_code 48 = .ok (.goto 7, 3) := by decide +kernel
theorem d_Mod_count_51 : decode prog_9_method_50_code 51 = .ok (.aload_n 0, 1) := by decide +kernel
theorem d_Mod_count_52 : decode prog_9_method_50_code 52 = .ok (.getfield 82, 3) := by decide +kernel
theorem d_Mod_count_55 : decode prog_9_method_50_code 55 = .ok (.ireturn, 1) := by decide +kernel
theorem d_Row_add_0 : decode prog_7_method_4_code 0 = .ok (.aload_n 0, 1) := by decide +kernel
theorem d_Row_add_1 : decode prog_7_method_4_code 1 = .ok (.getfield 15, 3) := by decide +kernel
theorem d_Row_add_4 : decode prog_7_method_4_code 4 = .ok (.aload_n 0, 1) := by decide +kernel
theorem d_Row_add_5 : decode prog_7_method_4_code 5 = .ok (.getfield 9, 3) := by decide +kernel
theorem d_Row_add_8 : decode prog_7_method_4_code 8 = .ok (.arraylength, 1) := by decide +kernel
theorem d_Row_add_9 : decode prog_7_method_4_code 9 = .ok (.if_icmp .lt 30, 3) := by decide +kernel
theorem d_Row_add_12 : decode prog_7_method_4_code 12 = .ok (.aload_n 0, 1) := by decide +kernel
theorem d_Row_add_13 : decode prog_7_method_4_code 13 = .ok (.getfield 15, 3) := by decide +kernel
theorem d_Row_add_16 : decode prog_7_method_4_code 16 = .ok (.sipush 4096, 3) := by decide +kernel
theorem d_Row_add_19 : decode prog_7_method_4_code 19 = .ok (.if_icmp .ge 20, 3) := by decide +kernel
theorem d_Row_add_22 : decode prog_7_method_4_code 22 = .ok (.aload_n 0, 1) := by decide +kernel
theorem d_Row_add_23 : decode prog_7_method_4_code 23 = .ok (.aload_n 0, 1) := by decide +kernel
theorem d_Row_add_24 : decode prog_7_method_4_code 24 = .ok (.getfield 9, 3) := by decide +kernel
theorem d_Row_add_27 : decode prog_7_method_4_code 27 = .ok (.iconst 2, 1) := by decide +kernel
theorem d_Row_add_28 : decode prog_7_method_4_code 28 = .ok (.aload_n 0, 1) := by decide +kernel
theorem d_Row_add_29 : decode prog_7_method_4_code 29 = .ok (.getfield 15, 3) := by decide +kernel
theorem d_Row_add_32 : decode prog_7_method_4_code 32 = .ok (.imul, 1) := by decide +kernel
theorem d_Row_add_33 : decode prog_7_method_4_code 33 = .ok (.invokestatic 19, 3) := by decide +kernel
theorem d_Row_add_36 : decode prog_7_method_4_code 36 = .ok (.putfield 9, 3) := by decide +kernel
theorem d_Row_add_39 : decode prog_7_method_4_code 39 = .ok (.aload_n 0, 1) := by decide +kernel
theorem d_Row_add_40 : decode prog_7_method_4_code 40 = .ok (.getfield 15, 3) := by decide +kernel
theorem d_Row_add_43 : decode prog_7_method_4_code 43 = .ok (.aload_n 0, 1) := by decide +kernel
theorem d_Row_add_44 : decode prog_7_method_4_code 44 = .ok (.getfield 9, 3) := by decide +kernel
theorem d_Row_add_47 : decode prog_7_method_4_code 47 = .ok (.arraylength, 1) := by decide +kernel
theorem d_Row_add_48 : decode prog_7_method_4_code 48 = .ok (.if_icmp .ge 23, 3) := by decide +kernel
theorem d_Row_add_51 : decode prog_7_method_4_code 51 = .ok (.aload_n 0, 1) := by decide +kernel
theorem d_Row_add_52 : decode prog_7_method_4_code 52 = .ok (.getfield 9, 3) := by decide +kernel
theorem d_Row_add_55 : decode prog_7_method_4_code 55 = .ok (.aload_n 0, 1) := by decide +kernel
theorem d_Row_add_56 : decode prog_7_method_4_code 56 = .ok (.getfield 15, 3) := by decide +kernel
theorem d_Row_add_59 : decode prog_7_method_4_code 59 = .ok (.iload_n 1, 1) := by decide +kernel
theorem d_Row_add_60 : decode prog_7_method_4_code 60 = .ok (.iastore, 1) := by decide +kernel
theorem d_Row_add_61 : decode prog_7_method_4_code 61 = .ok (.aload_n 0, 1) := by decide +kernel
theorem d_Row_add_62 : decode prog_7_method_4_code 62 = .ok (.dup, 1) := by decide +kernel
theorem d_Row_add_63 : decode prog_7_method_4_code 63 = .ok (.getfield 15, 3) := by decide +kernel
theorem d_Row_add_66 : decode prog_7_method_4_code 66 = .ok (.iconst 1, 1) := by decide +kernel
theorem d_Row_add_67 : decode prog_7_method_4_code 67 = .ok (.iadd, 1) := by decide +kernel
theorem d_Row_add_68 : decode prog_7_method_4_code 68 = .ok (.putfield 15, 3) := by decide +kernel
theorem d_Row_add_71 : decode prog_7_method_4_code 71 = .ok (.return_, 1) := by decide +kernel
theorem d_Arrays_copyOf_0 : decode prog_22_method_123_code 0 = .ok (.iload_n 1, 1) := by decide +kernel
theorem d_Arrays_copyOf_1 : decode prog_22_method_123_code 1 = .ok (.aload_n 0, 1) := by decide +kernel
theorem d_Arrays_copyOf_2 : decode prog_22_method_123_code 2 = .ok (.arraylength, 1) := by decide +kernel
theorem d_Arrays_copyOf_3 : decode prog_22_method_123_code 3 = .ok (.if_icmp .ne 11, 3) := by decide +kernel
theorem d_Arrays_copyOf_6 : decode prog_22_method_123_code 6 = .ok (.aload_n 0, 1) := by decide +kernel
theorem d_Arrays_copyOf_7 : decode prog_22_method_123_code 7 = .ok (.invokevirtual 316, 3) := by decide +kernel
theorem d_Arrays_copyOf_10 : decode prog_22_method_123_code 10 = .ok (.checkcast 317, 3) := by decide +kernel
theorem d_Arrays_copyOf_13 : decode prog_22_method_123_code 13 = .ok (.areturn, 1) := by decide +kernel
theorem d_Arrays_copyOf_14 : decode prog_22_method_123_code 14 = .ok (.iload_n 1, 1) := by decide +kernel
theorem d_Arrays_copyOf_15 : decode prog_22_method_123_code 15 = .ok (.newarray .int, 2) := by decide +kernel
theorem d_Arrays_copyOf_17 : decode prog_22_method_123_code 17 = .ok (.astore_n 2, 1) := by decide +kernel
theorem d_Arrays_copyOf_18 : decode prog_22_method_123_code 18 = .ok (.aload_n 0, 1) := by decide +kernel
theorem d_Arrays_copyOf_19 : decode prog_22_method_123_code 19 = .ok (.iconst 0, 1) := by decide +kernel
theorem d_Arrays_copyOf_20 : decode prog_22_method_123_code 20 = .ok (.aload_n 2, 1) := by decide +kernel
theorem d_Arrays_copyOf_21 : decode prog_22_method_123_code 21 = .ok (.iconst 0, 1) := by decide +kernel
theorem d_Arrays_copyOf_22 : decode prog_22_method_123_code 22 = .ok (.aload_n 0, 1) := by decide +kernel
theorem d_Arrays_copyOf_23 : decode prog_22_method_123_code 23 = .ok (.arraylength, 1) := by decide +kernel
theorem d_Arrays_copyOf_24 : decode prog_22_method_123_code 24 = .ok (.iload_n 1, 1) := by decide +kernel
theorem d_Arrays_copyOf_25 : decode prog_22_method_123_code 25 = .ok (.invokestatic 304, 3) := by decide +kernel
theorem d_Arrays_copyOf_28 : decode prog_22_method_123_code 28 = .ok (.invokestatic 150, 3) := by decide +kernel
theorem d_Arrays_copyOf_31 : decode prog_22_method_123_code 31 = .ok (.aload_n 2, 1) := by decide +kernel
theorem d_Arrays_copyOf_32 : decode prog_22_method_123_code 32 = .ok (.areturn, 1) := by decide +kernel
theorem d_Row_init_0 : decode prog_7_method_1_code 0 = .ok (.aload_n 0, 1) := by decide +kernel
theorem d_Row_init_1 : decode prog_7_method_1_code 1 = .ok (.invokespecial 3, 3) := by decide +kernel
theorem d_Row_init_4 : decode prog_7_method_1_code 4 = .ok (.aload_n 0, 1) := by decide +kernel
theorem d_Row_init_5 : decode prog_7_method_1_code 5 = .ok (.bipush 16, 2) := by decide +kernel
theorem d_Row_init_7 : decode prog_7_method_1_code 7 = .ok (.newarray .int, 2) := by decide +kernel
theorem d_Row_init_9 : decode prog_7_method_1_code 9 = .ok (.putfield 9, 3) := by decide +kernel
theorem d_Row_init_12 : decode prog_7_method_1_code 12 = .ok (.aload_n 0, 1) := by decide +kernel
theorem d_Row_init_13 : decode prog_7_method_1_code 13 = .ok (.iconst 0, 1) := by decide +kernel
theorem d_Row_init_14 : decode prog_7_method_1_code 14 = .ok (.putfield 15, 3) := by decide +kernel
theorem d_Row_init_17 : decode prog_7_method_1_code 17 = .ok (.return_, 1) := by decide +kernel
theorem d_Net_init_0 : decode prog_4_method_1_code 0 = .ok (.aload_n 0, 1) := by decide +kernel
theorem d_Net_init_1 : decode prog_4_method_1_code 1 = .ok (.invokespecial 3, 3) := by decide +kernel
theorem d_Net_init_4 : decode prog_4_method_1_code 4 = .ok (.aload_n 0, 1) := by decide +kernel
theorem d_Net_init_5 : decode prog_4_method_1_code 5 = .ok (.new 9, 3) := by decide +kernel
theorem d_Net_init_8 : decode prog_4_method_1_code 8 = .ok (.dup, 1) := by decide +kernel
theorem d_Net_init_9 : decode prog_4_method_1_code 9 = .ok (.invokespecial 11, 3) := by decide +kernel
theorem d_Net_init_12 : decode prog_4_method_1_code 12 = .ok (.putfield 12, 3) := by decide +kernel
theorem d_Net_init_15 : decode prog_4_method_1_code 15 = .ok (.aload_n 0, 1) := by decide +kernel
theorem d_Net_init_16 : decode prog_4_method_1_code 16 = .ok (.new 9, 3) := by decide +kernel
theorem d_Net_init_19 : decode prog_4_method_1_code 19 = .ok (.dup, 1) := by decide +kernel
theorem d_Net_init_20 : decode prog_4_method_1_code 20 = .ok (.invokespecial 11, 3) := by decide +kernel
theorem d_Net_init_23 : decode prog_4_method_1_code 23 = .ok (.putfield 18, 3) := by decide +kernel
theorem d_Net_init_26 : decode prog_4_method_1_code 26 = .ok (.aload_n 0, 1) := by decide +kernel
theorem d_Net_init_27 : decode prog_4_method_1_code 27 = .ok (.new 9, 3) := by decide +kernel
theorem d_Net_init_30 : decode prog_4_method_1_code 30 = .ok (.dup, 1) := by decide +kernel
theorem d_Net_init_31 : decode prog_4_method_1_code 31 = .ok (.invokespecial 11, 3) := by decide +kernel
theorem d_Net_init_34 : decode prog_4_method_1_code 34 = .ok (.putfield 21, 3) := by decide +kernel
theorem d_Net_init_37 : decode prog_4_method_1_code 37 = .ok (.aload_n 0, 1) := by decide +kernel
theorem d_Net_init_38 : decode prog_4_method_1_code 38 = .ok (.new 9, 3) := by decide +kernel
theorem d_Net_init_41 : decode prog_4_method_1_code 41 = .ok (.dup, 1) := by decide +kernel
theorem d_Net_init_42 : decode prog_4_method_1_code 42 = .ok (.invokespecial 11, 3) := by decide +kernel
theorem d_Net_init_45 : decode prog_4_method_1_code 45 = .ok (.putfield 24, 3) := by decide +kernel
theorem d_Net_init_48 : decode prog_4_method_1_code 48 = .ok (.aload_n 0, 1) := by decide +kernel
theorem d_Net_init_49 : decode prog_4_method_1_code 49 = .ok (.new 9, 3) := by decide +kernel
theorem d_Net_init_52 : decode prog_4_method_1_code 52 = .ok (.dup, 1) := by decide +kernel
theorem d_Net_init_53 : decode prog_4_method_1_code 53 = .ok (.invokespecial 11, 3) := by decide +kernel
theorem d_Net_init_56 : decode prog_4_method_1_code 56 = .ok (.putfield 27, 3) := by decide +kernel
theorem d_Net_init_59 : decode prog_4_method_1_code 59 = .ok (.aload_n 0, 1) := by decide +kernel
theorem d_Net_init_60 : decode prog_4_method_1_code 60 = .ok (.new 9, 3) := by decide +kernel
theorem d_Net_init_63 : decode prog_4_method_1_code 63 = .ok (.dup, 1) := by decide +kernel
theorem d_Net_init_64 : decode prog_4_method_1_code 64 = .ok (.invokespecial 11, 3) := by decide +kernel
theorem d_Net_init_67 : decode prog_4_method_1_code 67 = .ok (.putfield 30, 3) := by decide +kernel
theorem d_Net_init_70 : decode prog_4_method_1_code 70 = .ok (.return_, 1) := by decide +kernel
theorem d_Bnd_init_0 : decode prog_2_method_1_code 0 = .ok (.aload_n 0, 1) := by decide +kernel
theorem d_Bnd_init_1 : decode prog_2_method_1_code 1 = .ok (.invokespecial 3, 3) := by decide +kernel
theorem d_Bnd_init_4 : decode prog_2_method_1_code 4 = .ok (.aload_n 0, 1) := by decide +kernel
theorem d_Bnd_init_5 : decode prog_2_method_1_code 5 = .ok (.new 9, 3) := by decide +kernel
theorem d_Bnd_init_8 : decode prog_2_method_1_code 8 = .ok (.dup, 1) := by decide +kernel
theorem d_Bnd_init_9 : decode prog_2_method_1_code 9 = .ok (.invokespecial 11, 3) := by decide +kernel
theorem d_Bnd_init_12 : decode prog_2_method_1_code 12 = .ok (.putfield 12, 3) := by decide +kernel
theorem d_Bnd_init_15 : decode prog_2_method_1_code 15 = .ok (.aload_n 0, 1) := by decide +kernel
theorem d_Bnd_init_16 : decode prog_2_method_1_code 16 = .ok (.new 9, 3) := by decide +kernel
theorem d_Bnd_init_19 : decode prog_2_method_1_code 19 = .ok (.dup, 1) := by decide +kernel
theorem d_Bnd_init_20 : decode prog_2_method_1_code 20 = .ok (.invokespecial 11, 3) := by decide +kernel
theorem d_Bnd_init_23 : decode prog_2_method_1_code 23 = .ok (.putfield 18, 3) := by decide +kernel
theorem d_Bnd_init_26 : decode prog_2_method_1_code 26 = .ok (.aload_n 0, 1) := by decide +kernel
theorem d_Bnd_init_27 : decode prog_2_method_1_code 27 = .ok (.new 9, 3) := by decide +kernel
theorem d_Bnd_init_30 : decode prog_2_method_1_code 30 = .ok (.dup, 1) := by decide +kernel
theorem d_Bnd_init_31 : decode prog_2_method_1_code 31 = .ok (.invokespecial 11, 3) := by decide +kernel
theorem d_Bnd_init_34 : decode prog_2_method_1_code 34 = .ok (.putfield 21, 3) := by decide +kernel
theorem d_Bnd_init_37 : decode prog_2_method_1_code 37 = .ok (.aload_n 0, 1) := by decide +kernel
theorem d_Bnd_init_38 : decode prog_2_method_1_code 38 = .ok (.new 9, 3) := by decide +kernel
theorem d_Bnd_init_41 : decode prog_2_method_1_code 41 = .ok (.dup, 1) := by decide +kernel
theorem d_Bnd_init_42 : decode prog_2_method_1_code 42 = .ok (.invokespecial 11, 3) := by decide +kernel
theorem d_Bnd_init_45 : decode prog_2_method_1_code 45 = .ok (.putfield 24, 3) := by decide +kernel
theorem d_Bnd_init_48 : decode prog_2_method_1_code 48 = .ok (.aload_n 0, 1) := by decide +kernel
theorem d_Bnd_init_49 : decode prog_2_method_1_code 49 = .ok (.new 9, 3) := by decide +kernel
theorem d_Bnd_init_52 : decode prog_2_method_1_code 52 = .ok (.dup, 1) := by decide +kernel
theorem d_Bnd_init_53 : decode prog_2_method_1_code 53 = .ok (.invokespecial 11, 3) := by decide +kernel
theorem d_Bnd_init_56 : decode prog_2_method_1_code 56 = .ok (.putfield 27, 3) := by decide +kernel
theorem d_Bnd_init_59 : decode prog_2_method_1_code 59 = .ok (.return_, 1) := by decide +kernel
theorem d_Rgs_init_0 : decode prog_6_method_1_code 0 = .ok (.aload_n 0, 1) := by decide +kernel
theorem d_Rgs_init_1 : decode prog_6_method_1_code 1 = .ok (.invokespecial 3, 3) := by decide +kernel
theorem d_Rgs_init_4 : decode prog_6_method_1_code 4 = .ok (.aload_n 0, 1) := by decide +kernel
theorem d_Rgs_init_5 : decode prog_6_method_1_code 5 = .ok (.new 9, 3) := by decide +kernel
theorem d_Rgs_init_8 : decode prog_6_method_1_code 8 = .ok (.dup, 1) := by decide +kernel
theorem d_Rgs_init_9 : decode prog_6_method_1_code 9 = .ok (.invokespecial 11, 3) := by decide +kernel
theorem d_Rgs_init_12 : decode prog_6_method_1_code 12 = .ok (.putfield 12, 3) := by decide +kernel
theorem d_Rgs_init_15 : decode prog_6_method_1_code 15 = .ok (.aload_n 0, 1) := by decide +kernel
theorem d_Rgs_init_16 : decode prog_6_method_1_code 16 = .ok (.new 9, 3) := by decide +kernel
theorem d_Rgs_init_19 : decode prog_6_method_1_code 19 = .ok (.dup, 1) := by decide +kernel
theorem d_Rgs_init_20 : decode prog_6_method_1_code 20 = .ok (.invokespecial 11, 3) := by decide +kernel
theorem d_Rgs_init_23 : decode prog_6_method_1_code 23 = .ok (.putfield 18, 3) := by decide +kernel
theorem d_Rgs_init_26 : decode prog_6_method_1_code 26 = .ok (.aload_n 0, 1) := by decide +kernel
theorem d_Rgs_init_27 : decode prog_6_method_1_code 27 = .ok (.new 9, 3) := by decide +kernel
theorem d_Rgs_init_30 : decode prog_6_method_1_code 30 = .ok (.dup, 1) := by decide +kernel
theorem d_Rgs_init_31 : decode prog_6_method_1_code 31 = .ok (.invokespecial 11, 3) := by decide +kernel
theorem d_Rgs_init_34 : decode prog_6_method_1_code 34 = .ok (.putfield 21, 3) := by decide +kernel
theorem d_Rgs_init_37 : decode prog_6_method_1_code 37 = .ok (.aload_n 0, 1) := by decide +kernel
theorem d_Rgs_init_38 : decode prog_6_method_1_code 38 = .ok (.new 9, 3) := by decide +kernel
theorem d_Rgs_init_41 : decode prog_6_method_1_code 41 = .ok (.dup, 1) := by decide +kernel
theorem d_Rgs_init_42 : decode prog_6_method_1_code 42 = .ok (.invokespecial 11, 3) := by decide +kernel
theorem d_Rgs_init_45 : decode prog_6_method_1_code 45 = .ok (.putfield 24, 3) := by decide +kernel
theorem d_Rgs_init_48 : decode prog_6_method_1_code 48 = .ok (.aload_n 0, 1) := by decide +kernel
theorem d_Rgs_init_49 : decode prog_6_method_1_code 49 = .ok (.new 9, 3) := by decide +kernel
theorem d_Rgs_init_52 : decode prog_6_method_1_code 52 = .ok (.dup, 1) := by decide +kernel
theorem d_Rgs_init_53 : decode prog_6_method_1_code 53 = .ok (.invokespecial 11, 3) := by decide +kernel
theorem d_Rgs_init_56 : decode prog_6_method_1_code 56 = .ok (.putfield 27, 3) := by decide +kernel
theorem d_Rgs_init_59 : decode prog_6_method_1_code 59 = .ok (.aload_n 0, 1) := by decide +kernel
theorem d_Rgs_init_60 : decode prog_6_method_1_code 60 = .ok (.iconst 0, 1) := by decide +kernel
theorem d_Rgs_init_61 : decode prog_6_method_1_code 61 = .ok (.putfield 30, 3) := by decide +kernel
theorem d_Rgs_init_64 : decode prog_6_method_1_code 64 = .ok (.aload_n 0, 1) := by decide +kernel
theorem d_Rgs_init_65 : decode prog_6_method_1_code 65 = .ok (.new 9, 3) := by decide +kernel
theorem d_Rgs_init_68 : decode prog_6_method_1_code 68 = .ok (.dup, 1) := by decide +kernel
theorem d_Rgs_init_69 : decode prog_6_method_1_code 69 = .ok (.invokespecial 11, 3) := by decide +kernel
theorem d_Rgs_init_72 : decode prog_6_method_1_code 72 = .ok (.putfield 34, 3) := by decide +kernel
theorem d_Rgs_init_75 : decode prog_6_method_1_code 75 = .ok (.aload_n 0, 1) := by decide +kernel
theorem d_Rgs_init_76 : decode prog_6_method_1_code 76 = .ok (.new 9, 3) := by decide +kernel
theorem d_Rgs_init_79 : decode prog_6_method_1_code 79 = .ok (.dup, 1) := by decide +kernel
theorem d_Rgs_init_80 : decode prog_6_method_1_code 80 = .ok (.invokespecial 11, 3) := by decide +kernel
theorem d_Rgs_init_83 : decode prog_6_method_1_code 83 = .ok (.putfield 37, 3) := by decide +kernel
theorem d_Rgs_init_86 : decode prog_6_method_1_code 86 = .ok (.aload_n 0, 1) := by decide +kernel
theorem d_Rgs_init_87 : decode prog_6_method_1_code 87 = .ok (.new 9, 3) := by decide +kernel
theorem d_Rgs_init_90 : decode prog_6_method_1_code 90 = .ok (.dup, 1) := by decide +kernel
theorem d_Rgs_init_91 : decode prog_6_method_1_code 91 = .ok (.invokespecial 11, 3) := by decide +kernel
theorem d_Rgs_init_94 : decode prog_6_method_1_code 94 = .ok (.putfield 40, 3) := by decide +kernel
theorem d_Rgs_init_97 : decode prog_6_method_1_code 97 = .ok (.return_, 1) := by decide +kernel
theorem d_Mul_init_0 : decode prog_3_method_1_code 0 = .ok (.aload_n 0, 1) := by decide +kernel
theorem d_Mul_init_1 : decode prog_3_method_1_code 1 = .ok (.invokespecial 3, 3) := by decide +kernel
theorem d_Mul_init_4 : decode prog_3_method_1_code 4 = .ok (.aload_n 0, 1) := by decide +kernel
theorem d_Mul_init_5 : decode prog_3_method_1_code 5 = .ok (.new 9, 3) := by decide +kernel
theorem d_Mul_init_8 : decode prog_3_method_1_code 8 = .ok (.dup, 1) := by decide +kernel
theorem d_Mul_init_9 : decode prog_3_method_1_code 9 = .ok (.invokespecial 11, 3) := by decide +kernel
theorem d_Mul_init_12 : decode prog_3_method_1_code 12 = .ok (.putfield 12, 3) := by decide +kernel
theorem d_Mul_init_15 : decode prog_3_method_1_code 15 = .ok (.aload_n 0, 1) := by decide +kernel
theorem d_Mul_init_16 : decode prog_3_method_1_code 16 = .ok (.new 9, 3) := by decide +kernel
theorem d_Mul_init_19 : decode prog_3_method_1_code 19 = .ok (.dup, 1) := by decide +kernel
theorem d_Mul_init_20 : decode prog_3_method_1_code 20 = .ok (.invokespecial 11, 3) := by decide +kernel
theorem d_Mul_init_23 : decode prog_3_method_1_code 23 = .ok (.putfield 18, 3) := by decide +kernel
theorem d_Mul_init_26 : decode prog_3_method_1_code 26 = .ok (.aload_n 0, 1) := by decide +kernel
theorem d_Mul_init_27 : decode prog_3_method_1_code 27 = .ok (.new 9, 3) := by decide +kernel
theorem d_Mul_init_30 : decode prog_3_method_1_code 30 = .ok (.dup, 1) := by decide +kernel
theorem d_Mul_init_31 : decode prog_3_method_1_code 31 = .ok (.invokespecial 11, 3) := by decide +kernel
theorem d_Mul_init_34 : decode prog_3_method_1_code 34 = .ok (.putfield 21, 3) := by decide +kernel
theorem d_Mul_init_37 : decode prog_3_method_1_code 37 = .ok (.aload_n 0, 1) := by decide +kernel
theorem d_Mul_init_38 : decode prog_3_method_1_code 38 = .ok (.iconst 0, 1) := by decide +kernel
theorem d_Mul_init_39 : decode prog_3_method_1_code 39 = .ok (.putfield 24, 3) := by decide +kernel
theorem d_Mul_init_42 : decode prog_3_method_1_code 42 = .ok (.aload_n 0, 1) := by decide +kernel
theorem d_Mul_init_43 : decode prog_3_method_1_code 43 = .ok (.lconst 0, 1) := by decide +kernel
theorem d_Mul_init_44 : decode prog_3_method_1_code 44 = .ok (.putfield 28, 3) := by decide +kernel
theorem d_Mul_init_47 : decode prog_3_method_1_code 47 = .ok (.return_, 1) := by decide +kernel
theorem d_Wea_init_0 : decode prog_1_method_1_code 0 = .ok (.aload_n 0, 1) := by decide +kernel
theorem d_Wea_init_1 : decode prog_1_method_1_code 1 = .ok (.invokespecial 3, 3) := by decide +kernel
theorem d_Wea_init_4 : decode prog_1_method_1_code 4 = .ok (.aload_n 0, 1) := by decide +kernel
theorem d_Wea_init_5 : decode prog_1_method_1_code 5 = .ok (.new 9, 3) := by decide +kernel
theorem d_Wea_init_8 : decode prog_1_method_1_code 8 = .ok (.dup, 1) := by decide +kernel
theorem d_Wea_init_9 : decode prog_1_method_1_code 9 = .ok (.invokespecial 11, 3) := by decide +kernel
theorem d_Wea_init_12 : decode prog_1_method_1_code 12 = .ok (.putfield 12, 3) := by decide +kernel
theorem d_Wea_init_15 : decode prog_1_method_1_code 15 = .ok (.aload_n 0, 1) := by decide +kernel
theorem d_Wea_init_16 : decode prog_1_method_1_code 16 = .ok (.new 16, 3) := by decide +kernel
theorem d_Wea_init_19 : decode prog_1_method_1_code 19 = .ok (.dup, 1) := by decide +kernel
theorem d_Wea_init_20 : decode prog_1_method_1_code 20 = .ok (.invokespecial 18, 3) := by decide +kernel
theorem d_Wea_init_23 : decode prog_1_method_1_code 23 = .ok (.putfield 19, 3) := by decide +kernel
theorem d_Wea_init_26 : decode prog_1_method_1_code 26 = .ok (.aload_n 0, 1) := by decide +kernel
theorem d_Wea_init_27 : decode prog_1_method_1_code 27 = .ok (.new 23, 3) := by decide +kernel
theorem d_Wea_init_30 : decode prog_1_method_1_code 30 = .ok (.dup, 1) := by decide +kernel
theorem d_Wea_init_31 : decode prog_1_method_1_code 31 = .ok (.invokespecial 25, 3) := by decide +kernel
theorem d_Wea_init_34 : decode prog_1_method_1_code 34 = .ok (.putfield 26, 3) := by decide +kernel
theorem d_Wea_init_37 : decode prog_1_method_1_code 37 = .ok (.aload_n 0, 1) := by decide +kernel
theorem d_Wea_init_38 : decode prog_1_method_1_code 38 = .ok (.new 30, 3) := by decide +kernel
theorem d_Wea_init_41 : decode prog_1_method_1_code 41 = .ok (.dup, 1) := by decide +kernel
theorem d_Wea_init_42 : decode prog_1_method_1_code 42 = .ok (.invokespecial 32, 3) := by decide +kernel
theorem d_Wea_init_45 : decode prog_1_method_1_code 45 = .ok (.putfield 33, 3) := by decide +kernel
theorem d_Wea_init_48 : decode prog_1_method_1_code 48 = .ok (.return_, 1) := by decide +kernel
theorem d_Mod_init_0 : decode prog_9_method_1_code 0 = .ok (.aload_n 0, 1) := by decide +kernel
theorem d_Mod_init_1 : decode prog_9_method_1_code 1 = .ok (.invokespecial 1, 3) := by decide +kernel
theorem d_Mod_init_4 : decode prog_9_method_1_code 4 = .ok (.aload_n 0, 1) := by decide +kernel
theorem d_Mod_init_5 : decode prog_9_method_1_code 5 = .ok (.sipush 2049, 3) := by decide +kernel
theorem d_Mod_init_8 : decode prog_9_method_1_code 8 = .ok (.newarray .int, 2) := by decide +kernel
theorem d_Mod_init_10 : decode prog_9_method_1_code 10 = .ok (.putfield 7, 3) := by decide +kernel
theorem d_Mod_init_13 : decode prog_9_method_1_code 13 = .ok (.aload_n 0, 1) := by decide +kernel
theorem d_Mod_init_14 : decode prog_9_method_1_code 14 = .ok (.sipush 2049, 3) := by decide +kernel
theorem d_Mod_init_17 : decode prog_9_method_1_code 17 = .ok (.newarray .int, 2) := by decide +kernel
theorem d_Mod_init_19 : decode prog_9_method_1_code 19 = .ok (.putfield 13, 3) := by decide +kernel
theorem d_Mod_init_22 : decode prog_9_method_1_code 22 = .ok (.aload_n 0, 1) := by decide +kernel
theorem d_Mod_init_23 : decode prog_9_method_1_code 23 = .ok (.sipush 2049, 3) := by decide +kernel
theorem d_Mod_init_26 : decode prog_9_method_1_code 26 = .ok (.newarray .int, 2) := by decide +kernel
theorem d_Mod_init_28 : decode prog_9_method_1_code 28 = .ok (.putfield 16, 3) := by decide +kernel
theorem d_Mod_init_31 : decode prog_9_method_1_code 31 = .ok (.aload_n 0, 1) := by decide +kernel
theorem d_Mod_init_32 : decode prog_9_method_1_code 32 = .ok (.sipush 2049, 3) := by decide +kernel
theorem d_Mod_init_35 : decode prog_9_method_1_code 35 = .ok (.newarray .int, 2) := by decide +kernel
theorem d_Mod_init_37 : decode prog_9_method_1_code 37 = .ok (.putfield 19, 3) := by decide +kernel
theorem d_Mod_init_40 : decode prog_9_method_1_code 40 = .ok (.aload_n 0, 1) := by decide +kernel
theorem d_Mod_init_41 : decode prog_9_method_1_code 41 = .ok (.sipush 2048, 3) := by decide +kernel
theorem d_Mod_init_44 : decode prog_9_method_1_code 44 = .ok (.newarray .int, 2) := by decide +kernel
theorem d_Mod_init_46 : decode prog_9_method_1_code 46 = .ok (.putfield 22, 3) := by decide +kernel
theorem d_Mod_init_49 : decode prog_9_method_1_code 49 = .ok (.aload_n 0, 1) := by decide +kernel
theorem d_Mod_init_50 : decode prog_9_method_1_code 50 = .ok (.sipush 2048, 3) := by decide +kernel
theorem d_Mod_init_53 : decode prog_9_method_1_code 53 = .ok (.newarray .int, 2) := by decide +kernel
theorem d_Mod_init_55 : decode prog_9_method_1_code 55 = .ok (.putfield 25, 3) := by decide +kernel
theorem d_Mod_init_58 : decode prog_9_method_1_code 58 = .ok (.aload_n 0, 1) := by decide +kernel
theorem d_Mod_init_59 : decode prog_9_method_1_code 59 = .ok (.sipush 2048, 3) := by decide +kernel
theorem d_Mod_init_62 : decode prog_9_method_1_code 62 = .ok (.newarray .boolean, 2) := by decide +kernel
theorem d_Mod_init_64 : decode prog_9_method_1_code 64 = .ok (.putfield 28, 3) := by decide +kernel
