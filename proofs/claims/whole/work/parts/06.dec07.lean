theorem d_Mod_placeOf_36 : decode prog_9_method_31_code 36 = .ok (.iload 4, 2) := by decide +kernel
theorem d_Mod_placeOf_38 : decode prog_9_method_31_code 38 = .ok (.goto 4, 3) := by decide +kernel
theorem d_Mod_placeOf_41 : decode prog_9_method_31_code 41 = .ok (.iload_n 3, 1) := by decide +kernel
theorem d_Mod_placeOf_42 : decode prog_9_method_31_code 42 = .ok (.istore_n 3, 1) := by decide +kernel
theorem d_Mod_placeOf_43 : decode prog_9_method_31_code 43 = .ok (.iinc 4 1, 3) := by decide +kernel
theorem d_Mod_placeOf_46 : decode prog_9_method_31_code 46 = .ok (.goto (-41), 3) := by decide +kernel
theorem d_Mod_placeOf_49 : decode prog_9_method_31_code 49 = .ok (.iload_n 3, 1) := by decide +kernel
theorem d_Mod_placeOf_50 : decode prog_9_method_31_code 50 = .ok (.ireturn, 1) := by decide +kernel
theorem d_Mod_isStraight_0 : decode prog_9_method_33_code 0 = .ok (.iload_n 1, 1) := by decide +kernel
theorem d_Mod_isStraight_1 : decode prog_9_method_33_code 1 = .ok (.iload_n 3, 1) := by decide +kernel
theorem d_Mod_isStraight_2 : decode prog_9_method_33_code 2 = .ok (.iload_n 2, 1) := by decide +kernel
theorem d_Mod_isStraight_3 : decode prog_9_method_33_code 3 = .ok (.iadd, 1) := by decide +kernel
theorem d_Mod_isStraight_4 : decode prog_9_method_33_code 4 = .ok (.iconst 1, 1) := by decide +kernel
theorem d_Mod_isStraight_5 : decode prog_9_method_33_code 5 = .ok (.isub, 1) := by decide +kernel
theorem d_Mod_isStraight_6 : decode prog_9_method_33_code 6 = .ok (.iload_n 2, 1) := by decide +kernel
theorem d_Mod_isStraight_7 : decode prog_9_method_33_code 7 = .ok (.irem, 1) := by decide +kernel
theorem d_Mod_isStraight_8 : decode prog_9_method_33_code 8 = .ok (.iadd, 1) := by decide +kernel
theorem d_Mod_isStraight_9 : decode prog_9_method_33_code 9 = .ok (.istore 4, 2) := by decide +kernel
theorem d_Mod_isStraight_11 : decode prog_9_method_33_code 11 = .ok (.iload_n 1, 1) := by decide +kernel
theorem d_Mod_isStraight_12 : decode prog_9_method_33_code 12 = .ok (.iload_n 3, 1) := by decide +kernel
theorem d_Mod_isStraight_13 : decode prog_9_method_33_code 13 = .ok (.iconst 1, 1) := by decide +kernel
theorem d_Mod_isStraight_14 : decode prog_9_method_33_code 14 = .ok (.iadd, 1) := by decide +kernel
theorem d_Mod_isStraight_15 : decode prog_9_method_33_code 15 = .ok (.iload_n 2, 1) := by decide +kernel
theorem d_Mod_isStraight_16 : decode prog_9_method_33_code 16 = .ok (.irem, 1) := by decide +kernel
theorem d_Mod_isStraight_17 : decode prog_9_method_33_code 17 = .ok (.iadd, 1) := by decide +kernel
theorem d_Mod_isStraight_18 : decode prog_9_method_33_code 18 = .ok (.istore 5, 2) := by decide +kernel
theorem d_Mod_isStraight_20 : decode prog_9_method_33_code 20 = .ok (.aload_n 0, 1) := by decide +kernel
theorem d_Mod_isStraight_21 : decode prog_9_method_33_code 21 = .ok (.getfield 41, 3) := by decide +kernel
theorem d_Mod_isStraight_24 : decode prog_9_method_33_code 24 = .ok (.iload 4, 2) := by decide +kernel
theorem d_Mod_isStraight_26 : decode prog_9_method_33_code 26 = .ok (.iaload, 1) := by decide +kernel
theorem d_Mod_isStraight_27 : decode prog_9_method_33_code 27 = .ok (.aload_n 0, 1) := by decide +kernel
theorem d_Mod_isStraight_28 : decode prog_9_method_33_code 28 = .ok (.getfield 44, 3) := by decide +kernel
theorem d_Mod_isStraight_31 : decode prog_9_method_33_code 31 = .ok (.iload 4, 2) := by decide +kernel
theorem d_Mod_isStraight_33 : decode prog_9_method_33_code 33 = .ok (.iaload, 1) := by decide +kernel
theorem d_Mod_isStraight_34 : decode prog_9_method_33_code 34 = .ok (.aload_n 0, 1) := by decide +kernel
theorem d_Mod_isStraight_35 : decode prog_9_method_33_code 35 = .ok (.getfield 41, 3) := by decide +kernel
theorem d_Mod_isStraight_38 : decode prog_9_method_33_code 38 = .ok (.iload 5, 2) := by decide +kernel
theorem d_Mod_isStraight_40 : decode prog_9_method_33_code 40 = .ok (.iaload, 1) := by decide +kernel
theorem d_Mod_isStraight_41 : decode prog_9_method_33_code 41 = .ok (.aload_n 0, 1) := by decide +kernel
theorem d_Mod_isStraight_42 : decode prog_9_method_33_code 42 = .ok (.getfield 44, 3) := by decide +kernel
theorem d_Mod_isStraight_45 : decode prog_9_method_33_code 45 = .ok (.iload 5, 2) := by decide +kernel
theorem d_Mod_isStraight_47 : decode prog_9_method_33_code 47 = .ok (.iaload, 1) := by decide +kernel
theorem d_Mod_isStraight_48 : decode prog_9_method_33_code 48 = .ok (.aload_n 0, 1) := by decide +kernel
theorem d_Mod_isStraight_49 : decode prog_9_method_33_code 49 = .ok (.getfield 41, 3) := by decide +kernel
theorem d_Mod_isStraight_52 : decode prog_9_method_33_code 52 = .ok (.iload_n 1, 1) := by decide +kernel
theorem d_Mod_isStraight_53 : decode prog_9_method_33_code 53 = .ok (.iload_n 3, 1) := by decide +kernel
theorem d_Mod_isStraight_54 : decode prog_9_method_33_code 54 = .ok (.iadd, 1) := by decide +kernel
theorem d_Mod_isStraight_55 : decode prog_9_method_33_code 55 = .ok (.iaload, 1) := by decide +kernel
theorem d_Mod_isStraight_56 : decode prog_9_method_33_code 56 = .ok (.aload_n 0, 1) := by decide +kernel
theorem d_Mod_isStraight_57 : decode prog_9_method_33_code 57 = .ok (.getfield 44, 3) := by decide +kernel
theorem d_Mod_isStraight_60 : decode prog_9_method_33_code 60 = .ok (.iload_n 1, 1) := by decide +kernel
theorem d_Mod_isStraight_61 : decode prog_9_method_33_code 61 = .ok (.iload_n 3, 1) := by decide +kernel
theorem d_Mod_isStraight_62 : decode prog_9_method_33_code 62 = .ok (.iadd, 1) := by decide +kernel
theorem d_Mod_isStraight_63 : decode prog_9_method_33_code 63 = .ok (.iaload, 1) := by decide +kernel
theorem d_Mod_isStraight_64 : decode prog_9_method_33_code 64 = .ok (.invokestatic 100, 3) := by decide +kernel
theorem d_Mod_isStraight_67 : decode prog_9_method_33_code 67 = .ok (.ifCond .ne 7, 3) := by decide +kernel
theorem d_Mod_isStraight_70 : decode prog_9_method_33_code 70 = .ok (.iconst 1, 1) := by decide +kernel
theorem d_Mod_isStraight_71 : decode prog_9_method_33_code 71 = .ok (.goto 4, 3) := by decide +kernel
theorem d_Mod_isStraight_74 : decode prog_9_method_33_code 74 = .ok (.iconst 0, 1) := by decide +kernel
theorem d_Mod_isStraight_75 : decode prog_9_method_33_code 75 = .ok (.ireturn, 1) := by decide +kernel
theorem d_Mod_ring_0 : decode prog_9_method_34_code 0 = .ok (.aload_n 0, 1) := by decide +kernel
theorem d_Mod_ring_1 : decode prog_9_method_34_code 1 = .ok (.getfield 170, 3) := by decide +kernel
theorem d_Mod_ring_4 : decode prog_9_method_34_code 4 = .ok (.iload_n 1, 1) := by decide +kernel
theorem d_Mod_ring_5 : decode prog_9_method_34_code 5 = .ok (.isub, 1) := by decide +kernel
theorem d_Mod_ring_6 : decode prog_9_method_34_code 6 = .ok (.istore_n 2, 1) := by decide +kernel
theorem d_Mod_ring_7 : decode prog_9_method_34_code 7 = .ok (.iconst 0, 1) := by decide +kernel
theorem d_Mod_ring_8 : decode prog_9_method_34_code 8 = .ok (.istore_n 3, 1) := by decide +kernel
theorem d_Mod_ring_9 : decode prog_9_method_34_code 9 = .ok (.lconst 0, 1) := by decide +kernel
theorem d_Mod_ring_10 : decode prog_9_method_34_code 10 = .ok (.lstore 4, 2) := by decide +kernel
theorem d_Mod_ring_12 : decode prog_9_method_34_code 12 = .ok (.iconst 0, 1) := by decide +kernel
theorem d_Mod_ring_13 : decode prog_9_method_34_code 13 = .ok (.istore 6, 2) := by decide +kernel
theorem d_Mod_ring_15 : decode prog_9_method_34_code 15 = .ok (.iload 6, 2) := by decide +kernel
theorem d_Mod_ring_17 : decode prog_9_method_34_code 17 = .ok (.iload_n 2, 1) := by decide +kernel
theorem d_Mod_ring_18 : decode prog_9_method_34_code 18 = .ok (.if_icmp .ge 128, 3) := by decide +kernel
theorem d_Mod_ring_21 : decode prog_9_method_34_code 21 = .ok (.iload_n 1, 1) := by decide +kernel
theorem d_Mod_ring_22 : decode prog_9_method_34_code 22 = .ok (.iload 6, 2) := by decide +kernel
theorem d_Mod_ring_24 : decode prog_9_method_34_code 24 = .ok (.iadd, 1) := by decide +kernel
theorem d_Mod_ring_25 : decode prog_9_method_34_code 25 = .ok (.istore 7, 2) := by decide +kernel
theorem d_Mod_ring_27 : decode prog_9_method_34_code 27 = .ok (.iload_n 1, 1) := by decide +kernel
theorem d_Mod_ring_28 : decode prog_9_method_34_code 28 = .ok (.iload 6, 2) := by decide +kernel
theorem d_Mod_ring_30 : decode prog_9_method_34_code 30 = .ok (.iconst 1, 1) := by decide +kernel
theorem d_Mod_ring_31 : decode prog_9_method_34_code 31 = .ok (.iadd, 1) := by decide +kernel
theorem d_Mod_ring_32 : decode prog_9_method_34_code 32 = .ok (.iload_n 2, 1) := by decide +kernel
theorem d_Mod_ring_33 : decode prog_9_method_34_code 33 = .ok (.irem, 1) := by decide +kernel
theorem d_Mod_ring_34 : decode prog_9_method_34_code 34 = .ok (.iadd, 1) := by decide +kernel
theorem d_Mod_ring_35 : decode prog_9_method_34_code 35 = .ok (.istore 8, 2) := by decide +kernel
theorem d_Mod_ring_37 : decode prog_9_method_34_code 37 = .ok (.lload 4, 2) := by decide +kernel
theorem d_Mod_ring_39 : decode prog_9_method_34_code 39 = .ok (.aload_n 0, 1) := by decide +kernel
theorem d_Mod_ring_40 : decode prog_9_method_34_code 40 = .ok (.getfield 41, 3) := by decide +kernel
theorem d_Mod_ring_43 : decode prog_9_method_34_code 43 = .ok (.iload 7, 2) := by decide +kernel
theorem d_Mod_ring_45 : decode prog_9_method_34_code 45 = .ok (.iaload, 1) := by decide +kernel
theorem d_Mod_ring_46 : decode prog_9_method_34_code 46 = .ok (.i2l, 1) := by decide +kernel
theorem d_Mod_ring_47 : decode prog_9_method_34_code 47 = .ok (.aload_n 0, 1) := by decide +kernel
theorem d_Mod_ring_48 : decode prog_9_method_34_code 48 = .ok (.getfield 44, 3) := by decide +kernel
theorem d_Mod_ring_51 : decode prog_9_method_34_code 51 = .ok (.iload 7, 2) := by decide +kernel
theorem d_Mod_ring_53 : decode prog_9_method_34_code 53 = .ok (.iaload, 1) := by decide +kernel
theorem d_Mod_ring_54 : decode prog_9_method_34_code 54 = .ok (.i2l, 1) := by decide +kernel
theorem d_Mod_ring_55 : decode prog_9_method_34_code 55 = .ok (.aload_n 0, 1) := by decide +kernel
theorem d_Mod_ring_56 : decode prog_9_method_34_code 56 = .ok (.getfield 41, 3) := by decide +kernel
theorem d_Mod_ring_59 : decode prog_9_method_34_code 59 = .ok (.iload 8, 2) := by decide +kernel
theorem d_Mod_ring_61 : decode prog_9_method_34_code 61 = .ok (.iaload, 1) := by decide +kernel
theorem d_Mod_ring_62 : decode prog_9_method_34_code 62 = .ok (.i2l, 1) := by decide +kernel
theorem d_Mod_ring_63 : decode prog_9_method_34_code 63 = .ok (.aload_n 0, 1) := by decide +kernel
theorem d_Mod_ring_64 : decode prog_9_method_34_code 64 = .ok (.getfield 44, 3) := by decide +kernel
theorem d_Mod_ring_67 : decode prog_9_method_34_code 67 = .ok (.iload 8, 2) := by decide +kernel
theorem d_Mod_ring_69 : decode prog_9_method_34_code 69 = .ok (.iaload, 1) := by decide +kernel
theorem d_Mod_ring_70 : decode prog_9_method_34_code 70 = .ok (.i2l, 1) := by decide +kernel
theorem d_Mod_ring_71 : decode prog_9_method_34_code 71 = .ok (.invokestatic 89, 3) := by decide +kernel
theorem d_Mod_ring_74 : decode prog_9_method_34_code 74 = .ok (.ladd, 1) := by decide +kernel
theorem d_Mod_ring_75 : decode prog_9_method_34_code 75 = .ok (.lstore 4, 2) := by decide +kernel
theorem d_Mod_ring_77 : decode prog_9_method_34_code 77 = .ok (.iload_n 1, 1) := by decide +kernel
theorem d_Mod_ring_78 : decode prog_9_method_34_code 78 = .ok (.iload_n 3, 1) := by decide +kernel
theorem d_Mod_ring_79 : decode prog_9_method_34_code 79 = .ok (.iadd, 1) := by decide +kernel
theorem d_Mod_ring_80 : decode prog_9_method_34_code 80 = .ok (.istore 9, 2) := by decide +kernel
theorem d_Mod_ring_82 : decode prog_9_method_34_code 82 = .ok (.aload_n 0, 1) := by decide +kernel
theorem d_Mod_ring_83 : decode prog_9_method_34_code 83 = .ok (.getfield 41, 3) := by decide +kernel
theorem d_Mod_ring_86 : decode prog_9_method_34_code 86 = .ok (.iload 7, 2) := by decide +kernel
theorem d_Mod_ring_88 : decode prog_9_method_34_code 88 = .ok (.iaload, 1) := by decide +kernel
theorem d_Mod_ring_89 : decode prog_9_method_34_code 89 = .ok (.aload_n 0, 1) := by decide +kernel
theorem d_Mod_ring_90 : decode prog_9_method_34_code 90 = .ok (.getfield 41, 3) := by decide +kernel
theorem d_Mod_ring_93 : decode prog_9_method_34_code 93 = .ok (.iload 9, 2) := by decide +kernel
theorem d_Mod_ring_95 : decode prog_9_method_34_code 95 = .ok (.iaload, 1) := by decide +kernel
theorem d_Mod_ring_96 : decode prog_9_method_34_code 96 = .ok (.if_icmp .lt 37, 3) := by decide +kernel
theorem d_Mod_ring_99 : decode prog_9_method_34_code 99 = .ok (.aload_n 0, 1) := by decide +kernel
theorem d_Mod_ring_100 : decode prog_9_method_34_code 100 = .ok (.getfield 41, 3) := by decide +kernel
theorem d_Mod_ring_103 : decode prog_9_method_34_code 103 = .ok (.iload 7, 2) := by decide +kernel
theorem d_Mod_ring_105 : decode prog_9_method_34_code 105 = .ok (.iaload, 1) := by decide +kernel
theorem d_Mod_ring_106 : decode prog_9_method_34_code 106 = .ok (.aload_n 0, 1) := by decide +kernel
theorem d_Mod_ring_107 : decode prog_9_method_34_code 107 = .ok (.getfield 41, 3) := by decide +kernel
theorem d_Mod_ring_110 : decode prog_9_method_34_code 110 = .ok (.iload 9, 2) := by decide +kernel
theorem d_Mod_ring_112 : decode prog_9_method_34_code 112 = .ok (.iaload, 1) := by decide +kernel
theorem d_Mod_ring_113 : decode prog_9_method_34_code 113 = .ok (.if_icmp .ne 25, 3) := by decide +kernel
theorem d_Mod_ring_116 : decode prog_9_method_34_code 116 = .ok (.aload_n 0, 1) := by decide +kernel
theorem d_Mod_ring_117 : decode prog_9_method_34_code 117 = .ok (.getfield 44, 3) := by decide +kernel
theorem d_Mod_ring_120 : decode prog_9_method_34_code 120 = .ok (.iload 7, 2) := by decide +kernel
theorem d_Mod_ring_122 : decode prog_9_method_34_code 122 = .ok (.iaload, 1) := by decide +kernel
theorem d_Mod_ring_123 : decode prog_9_method_34_code 123 = .ok (.aload_n 0, 1) := by decide +kernel
theorem d_Mod_ring_124 : decode prog_9_method_34_code 124 = .ok (.getfield 44, 3) := by decide +kernel
theorem d_Mod_ring_127 : decode prog_9_method_34_code 127 = .ok (.iload 9, 2) := by decide +kernel
theorem d_Mod_ring_129 : decode prog_9_method_34_code 129 = .ok (.iaload, 1) := by decide +kernel
theorem d_Mod_ring_130 : decode prog_9_method_34_code 130 = .ok (.if_icmp .ge 8, 3) := by decide +kernel
theorem d_Mod_ring_133 : decode prog_9_method_34_code 133 = .ok (.iload 6, 2) := by decide +kernel
theorem d_Mod_ring_135 : decode prog_9_method_34_code 135 = .ok (.goto 4, 3) := by decide +kernel
theorem d_Mod_ring_138 : decode prog_9_method_34_code 138 = .ok (.iload_n 3, 1) := by decide +kernel
theorem d_Mod_ring_139 : decode prog_9_method_34_code 139 = .ok (.istore_n 3, 1) := by decide +kernel
theorem d_Mod_ring_140 : decode prog_9_method_34_code 140 = .ok (.iinc 6 1, 3) := by decide +kernel
theorem d_Mod_ring_143 : decode prog_9_method_34_code 143 = .ok (.goto (-128), 3) := by decide +kernel
theorem d_Mod_ring_146 : decode prog_9_method_34_code 146 = .ok (.aload_n 0, 1) := by decide +kernel
theorem d_Mod_ring_147 : decode prog_9_method_34_code 147 = .ok (.getfield 47, 3) := by decide +kernel
theorem d_Mod_ring_150 : decode prog_9_method_34_code 150 = .ok (.aload_n 0, 1) := by decide +kernel
theorem d_Mod_ring_151 : decode prog_9_method_34_code 151 = .ok (.getfield 184, 3) := by decide +kernel
theorem d_Mod_ring_154 : decode prog_9_method_34_code 154 = .ok (.aload_n 0, 1) := by decide +kernel
theorem d_Mod_ring_155 : decode prog_9_method_34_code 155 = .ok (.getfield 187, 3) := by decide +kernel
theorem d_Mod_ring_158 : decode prog_9_method_34_code 158 = .ok (.iastore, 1) := by decide +kernel
theorem d_Mod_ring_159 : decode prog_9_method_34_code 159 = .ok (.aload_n 0, 1) := by decide +kernel
theorem d_Mod_ring_160 : decode prog_9_method_34_code 160 = .ok (.getfield 53, 3) := by decide +kernel
theorem d_Mod_ring_163 : decode prog_9_method_34_code 163 = .ok (.aload_n 0, 1) := by decide +kernel
theorem d_Mod_ring_164 : decode prog_9_method_34_code 164 = .ok (.getfield 184, 3) := by decide +kernel
theorem d_Mod_ring_167 : decode prog_9_method_34_code 167 = .ok (.lload 4, 2) := by decide +kernel
theorem d_Mod_ring_169 : decode prog_9_method_34_code 169 = .ok (.lastore, 1) := by decide +kernel
theorem d_Mod_ring_170 : decode prog_9_method_34_code 170 = .ok (.iconst 0, 1) := by decide +kernel
theorem d_Mod_ring_171 : decode prog_9_method_34_code 171 = .ok (.istore 6, 2) := by decide +kernel
theorem d_Mod_ring_173 : decode prog_9_method_34_code 173 = .ok (.iload 6, 2) := by decide +kernel
theorem d_Mod_ring_175 : decode prog_9_method_34_code 175 = .ok (.iload_n 2, 1) := by decide +kernel
theorem d_Mod_ring_176 : decode prog_9_method_34_code 176 = .ok (.if_icmp .ge 74, 3) := by decide +kernel
theorem d_Mod_ring_179 : decode prog_9_method_34_code 179 = .ok (.iload_n 3, 1) := by decide +kernel
theorem d_Mod_ring_180 : decode prog_9_method_34_code 180 = .ok (.iload 6, 2) := by decide +kernel
theorem d_Mod_ring_182 : decode prog_9_method_34_code 182 = .ok (.iadd, 1) := by decide +kernel
theorem d_Mod_ring_183 : decode prog_9_method_34_code 183 = .ok (.iload_n 2, 1) := by decide +kernel
theorem d_Mod_ring_184 : decode prog_9_method_34_code 184 = .ok (.irem, 1) := by decide +kernel
theorem d_Mod_ring_185 : decode prog_9_method_34_code 185 = .ok (.istore 7, 2) := by decide +kernel
theorem d_Mod_ring_187 : decode prog_9_method_34_code 187 = .ok (.aload_n 0, 1) := by decide +kernel
theorem d_Mod_ring_188 : decode prog_9_method_34_code 188 = .ok (.iload_n 1, 1) := by decide +kernel
theorem d_Mod_ring_189 : decode prog_9_method_34_code 189 = .ok (.iload_n 2, 1) := by decide +kernel
theorem d_Mod_ring_190 : decode prog_9_method_34_code 190 = .ok (.iload 7, 2) := by decide +kernel
theorem d_Mod_ring_192 : decode prog_9_method_34_code 192 = .ok (.invokevirtual 190, 3) := by decide +kernel
theorem d_Mod_ring_195 : decode prog_9_method_34_code 195 = .ok (.ifCond .ne 49, 3) := by decide +kernel
theorem d_Mod_ring_198 : decode prog_9_method_34_code 198 = .ok (.aload_n 0, 1) := by decide +kernel
theorem d_Mod_ring_199 : decode prog_9_method_34_code 199 = .ok (.getfield 60, 3) := by decide +kernel
theorem d_Mod_ring_202 : decode prog_9_method_34_code 202 = .ok (.aload_n 0, 1) := by decide +kernel
theorem d_Mod_ring_203 : decode prog_9_method_34_code 203 = .ok (.getfield 187, 3) := by decide +kernel
theorem d_Mod_ring_206 : decode prog_9_method_34_code 206 = .ok (.aload_n 0, 1) := by decide +kernel
theorem d_Mod_ring_207 : decode prog_9_method_34_code 207 = .ok (.getfield 41, 3) := by decide +kernel
theorem d_Mod_ring_210 : decode prog_9_method_34_code 210 = .ok (.iload_n 1, 1) := by decide +kernel
theorem d_Mod_ring_211 : decode prog_9_method_34_code 211 = .ok (.iload 7, 2) := by decide +kernel
theorem d_Mod_ring_213 : decode prog_9_method_34_code 213 = .ok (.iadd, 1) := by decide +kernel
theorem d_Mod_ring_214 : decode prog_9_method_34_code 214 = .ok (.iaload, 1) := by decide +kernel
theorem d_Mod_ring_215 : decode prog_9_method_34_code 215 = .ok (.iastore, 1) := by decide +kernel
theorem d_Mod_ring_216 : decode prog_9_method_34_code 216 = .ok (.aload_n 0, 1) := by decide +kernel
theorem d_Mod_ring_217 : decode prog_9_method_34_code 217 = .ok (.getfield 63, 3) := by decide +kernel
theorem d_Mod_ring_220 : decode prog_9_method_34_code 220 = .ok (.aload_n 0, 1) := by decide +kernel
theorem d_Mod_ring_221 : decode prog_9_method_34_code 221 = .ok (.getfield 187, 3) := by decide +kernel
theorem d_Mod_ring_224 : decode prog_9_method_34_code 224 = .ok (.aload_n 0, 1) := by decide +kernel
theorem d_Mod_ring_225 : decode prog_9_method_34_code 225 = .ok (.getfield 44, 3) := by decide +kernel
theorem d_Mod_ring_228 : decode prog_9_method_34_code 228 = .ok (.iload_n 1, 1) := by decide +kernel
theorem d_Mod_ring_229 : decode prog_9_method_34_code 229 = .ok (.iload 7, 2) := by decide +kernel
theorem d_Mod_ring_231 : decode prog_9_method_34_code 231 = .ok (.iadd, 1) := by decide +kernel
theorem d_Mod_ring_232 : decode prog_9_method_34_code 232 = .ok (.iaload, 1) := by decide +kernel
theorem d_Mod_ring_233 : decode prog_9_method_34_code 233 = .ok (.iastore, 1) := by decide +kernel
theorem d_Mod_ring_234 : decode prog_9_method_34_code 234 = .ok (.aload_n 0, 1) := by decide +kernel
theorem d_Mod_ring_235 : decode prog_9_method_34_code 235 = .ok (.dup, 1) := by decide +kernel
theorem d_Mod_ring_236 : decode prog_9_method_34_code 236 = .ok (.getfield 187, 3) := by decide +kernel
theorem d_Mod_ring_239 : decode prog_9_method_34_code 239 = .ok (.iconst 1, 1) := by decide +kernel
theorem d_Mod_ring_240 : decode prog_9_method_34_code 240 = .ok (.iadd, 1) := by decide +kernel
theorem d_Mod_ring_241 : decode prog_9_method_34_code 241 = .ok (.putfield 187, 3) := by decide +kernel
theorem d_Mod_ring_244 : decode prog_9_method_34_code 244 = .ok (.iinc 6 1, 3) := by decide +kernel
theorem d_Mod_ring_247 : decode prog_9_method_34_code 247 = .ok (.goto (-74), 3) := by decide +kernel
theorem d_Mod_ring_250 : decode prog_9_method_34_code 250 = .ok (.aload_n 0, 1) := by decide +kernel
theorem d_Mod_ring_251 : decode prog_9_method_34_code 251 = .ok (.getfield 50, 3) := by decide +kernel
theorem d_Mod_ring_254 : decode prog_9_method_34_code 254 = .ok (.aload_n 0, 1) := by decide +kernel
theorem d_Mod_ring_255 : decode prog_9_method_34_code 255 = .ok (.getfield 184, 3) := by decide +kernel
theorem d_Mod_ring_258 : decode prog_9_method_34_code 258 = .ok (.aload_n 0, 1) := by decide +kernel
theorem d_Mod_ring_259 : decode prog_9_method_34_code 259 = .ok (.getfield 187, 3) := by decide +kernel
theorem d_Mod_ring_262 : decode prog_9_method_34_code 262 = .ok (.aload_n 0, 1) := by decide +kernel
theorem d_Mod_ring_263 : decode prog_9_method_34_code 263 = .ok (.getfield 47, 3) := by decide +kernel
theorem d_Mod_ring_266 : decode prog_9_method_34_code 266 = .ok (.aload_n 0, 1) := by decide +kernel
theorem d_Mod_ring_267 : decode prog_9_method_34_code 267 = .ok (.getfield 184, 3) := by decide +kernel
theorem d_Mod_ring_270 : decode prog_9_method_34_code 270 = .ok (.iaload, 1) := by decide +kernel
theorem d_Mod_ring_271 : decode prog_9_method_34_code 271 = .ok (.isub, 1) := by decide +kernel
theorem d_Mod_ring_272 : decode prog_9_method_34_code 272 = .ok (.iastore, 1) := by decide +kernel
theorem d_Mod_ring_273 : decode prog_9_method_34_code 273 = .ok (.aload_n 0, 1) := by decide +kernel
theorem d_Mod_ring_274 : decode prog_9_method_34_code 274 = .ok (.dup, 1) := by decide +kernel
theorem d_Mod_ring_275 : decode prog_9_method_34_code 275 = .ok (.getfield 184, 3) := by decide +kernel
theorem d_Mod_ring_278 : decode prog_9_method_34_code 278 = .ok (.iconst 1, 1) := by decide +kernel
theorem d_Mod_ring_279 : decode prog_9_method_34_code 279 = .ok (.iadd, 1) := by decide +kernel
theorem d_Mod_ring_280 : decode prog_9_method_34_code 280 = .ok (.putfield 184, 3) := by decide +kernel
theorem d_Mod_ring_283 : decode prog_9_method_34_code 283 = .ok (.return_, 1) := by decide +kernel
theorem d_Mod_go_0 : decode prog_9_method_32_code 0 = .ok (.aload_n 0, 1) := by decide +kernel
theorem d_Mod_go_1 : decode prog_9_method_32_code 1 = .ok (.iconst 1, 1) := by decide +kernel
theorem d_Mod_go_2 : decode prog_9_method_32_code 2 = .ok (.putfield 170, 3) := by decide +kernel
theorem d_Mod_go_5 : decode prog_9_method_32_code 5 = .ok (.aload_n 0, 1) := by decide +kernel
theorem d_Mod_go_6 : decode prog_9_method_32_code 6 = .ok (.getfield 41, 3) := by decide +kernel
theorem d_Mod_go_9 : decode prog_9_method_32_code 9 = .ok (.iconst 0, 1) := by decide +kernel
theorem d_Mod_go_10 : decode prog_9_method_32_code 10 = .ok (.aload_n 0, 1) := by decide +kernel
theorem d_Mod_go_11 : decode prog_9_method_32_code 11 = .ok (.iload_n 1, 1) := by decide +kernel
theorem d_Mod_go_12 : decode prog_9_method_32_code 12 = .ok (.invokevirtual 153, 3) := by decide +kernel
theorem d_Mod_go_15 : decode prog_9_method_32_code 15 = .ok (.iastore, 1) := by decide +kernel
theorem d_Mod_go_16 : decode prog_9_method_32_code 16 = .ok (.aload_n 0, 1) := by decide +kernel
theorem d_Mod_go_17 : decode prog_9_method_32_code 17 = .ok (.getfield 44, 3) := by decide +kernel
theorem d_Mod_go_20 : decode prog_9_method_32_code 20 = .ok (.iconst 0, 1) := by decide +kernel
theorem d_Mod_go_21 : decode prog_9_method_32_code 21 = .ok (.aload_n 0, 1) := by decide +kernel
theorem d_Mod_go_22 : decode prog_9_method_32_code 22 = .ok (.iload_n 1, 1) := by decide +kernel
theorem d_Mod_go_23 : decode prog_9_method_32_code 23 = .ok (.invokevirtual 156, 3) := by decide +kernel
theorem d_Mod_go_26 : decode prog_9_method_32_code 26 = .ok (.iastore, 1) := by decide +kernel
theorem d_Mod_go_27 : decode prog_9_method_32_code 27 = .ok (.iload_n 1, 1) := by decide +kernel
theorem d_Mod_go_28 : decode prog_9_method_32_code 28 = .ok (.istore_n 2, 1) := by decide +kernel
theorem d_Mod_go_29 : decode prog_9_method_32_code 29 = .ok (.iconst 1, 1) := by decide +kernel
theorem d_Mod_go_30 : decode prog_9_method_32_code 30 = .ok (.istore_n 3, 1) := by decide +kernel
theorem d_Mod_go_31 : decode prog_9_method_32_code 31 = .ok (.iload_n 3, 1) := by decide +kernel
theorem d_Mod_go_32 : decode prog_9_method_32_code 32 = .ok (.ifCond .eq 106, 3) := by decide +kernel
theorem d_Mod_go_35 : decode prog_9_method_32_code 35 = .ok (.aload_n 0, 1) := by decide +kernel
theorem d_Mod_go_36 : decode prog_9_method_32_code 36 = .ok (.getfield 28, 3) := by decide +kernel
theorem d_Mod_go_39 : decode prog_9_method_32_code 39 = .ok (.iload_n 2, 1) := by decide +kernel
theorem d_Mod_go_40 : decode prog_9_method_32_code 40 = .ok (.iconst 1, 1) := by decide +kernel
theorem d_Mod_go_41 : decode prog_9_method_32_code 41 = .ok (.bastore, 1) := by decide +kernel
theorem d_Mod_go_42 : decode prog_9_method_32_code 42 = .ok (.aload_n 0, 1) := by decide +kernel
theorem d_Mod_go_43 : decode prog_9_method_32_code 43 = .ok (.aload_n 0, 1) := by decide +kernel
theorem d_Mod_go_44 : decode prog_9_method_32_code 44 = .ok (.iload_n 2, 1) := by decide +kernel
theorem d_Mod_go_45 : decode prog_9_method_32_code 45 = .ok (.invokevirtual 147, 3) := by decide +kernel
theorem d_Mod_go_48 : decode prog_9_method_32_code 48 = .ok (.aload_n 0, 1) := by decide +kernel
theorem d_Mod_go_49 : decode prog_9_method_32_code 49 = .ok (.iload_n 2, 1) := by decide +kernel
theorem d_Mod_go_50 : decode prog_9_method_32_code 50 = .ok (.invokevirtual 150, 3) := by decide +kernel
theorem d_Mod_go_53 : decode prog_9_method_32_code 53 = .ok (.invokevirtual 173, 3) := by decide +kernel
theorem d_Mod_go_56 : decode prog_9_method_32_code 56 = .ok (.istore 4, 2) := by decide +kernel
theorem d_Mod_go_58 : decode prog_9_method_32_code 58 = .ok (.iload 4, 2) := by decide +kernel
theorem d_Mod_go_60 : decode prog_9_method_32_code 60 = .ok (.ifCond .lt 20, 3) := by decide +kernel
theorem d_Mod_go_63 : decode prog_9_method_32_code 63 = .ok (.aload_n 0, 1) := by decide +kernel
theorem d_Mod_go_64 : decode prog_9_method_32_code 64 = .ok (.iload 4, 2) := by decide +kernel
theorem d_Mod_go_66 : decode prog_9_method_32_code 66 = .ok (.invokevirtual 177, 3) := by decide +kernel
theorem d_Mod_go_69 : decode prog_9_method_32_code 69 = .ok (.aload_n 0, 1) := by decide +kernel
theorem d_Mod_go_70 : decode prog_9_method_32_code 70 = .ok (.iload 4, 2) := by decide +kernel
theorem d_Mod_go_72 : decode prog_9_method_32_code 72 = .ok (.iconst 1, 1) := by decide +kernel
theorem d_Mod_go_73 : decode prog_9_method_32_code 73 = .ok (.iadd, 1) := by decide +kernel
theorem d_Mod_go_74 : decode prog_9_method_32_code 74 = .ok (.putfield 170, 3) := by decide +kernel
theorem d_Mod_go_77 : decode prog_9_method_32_code 77 = .ok (.goto 41, 3) := by decide +kernel
theorem d_Mod_go_80 : decode prog_9_method_32_code 80 = .ok (.aload_n 0, 1) := by decide +kernel
theorem d_Mod_go_81 : decode prog_9_method_32_code 81 = .ok (.getfield 41, 3) := by decide +kernel
theorem d_Mod_go_84 : decode prog_9_method_32_code 84 = .ok (.aload_n 0, 1) := by decide +kernel
theorem d_Mod_go_85 : decode prog_9_method_32_code 85 = .ok (.getfield 170, 3) := by decide +kernel
theorem d_Mod_go_88 : decode prog_9_method_32_code 88 = .ok (.aload_n 0, 1) := by decide +kernel
theorem d_Mod_go_89 : decode prog_9_method_32_code 89 = .ok (.iload_n 2, 1) := by decide +kernel
theorem d_Mod_go_90 : decode prog_9_method_32_code 90 = .ok (.invokevirtual 147, 3) := by decide +kernel
theorem d_Mod_go_93 : decode prog_9_method_32_code 93 = .ok (.iastore, 1) := by decide +kernel
theorem d_Mod_go_94 : decode prog_9_method_32_code 94 = .ok (.aload_n 0, 1) := by decide +kernel
theorem d_Mod_go_95 : decode prog_9_method_32_code 95 = .ok (.getfield 44, 3) := by decide +kernel
theorem d_Mod_go_98 : decode prog_9_method_32_code 98 = .ok (.aload_n 0, 1) := by decide +kernel
theorem d_Mod_go_99 : decode prog_9_method_32_code 99 = .ok (.getfield 170, 3) := by decide +kernel
theorem d_Mod_go_102 : decode prog_9_method_32_code 102 = .ok (.aload_n 0, 1) := by decide +kernel
theorem d_Mod_go_103 : decode prog_9_method_32_code 103 = .ok (.iload_n 2, 1) := by decide +kernel
theorem d_Mod_go_104 : decode prog_9_method_32_code 104 = .ok (.invokevirtual 150, 3) := by decide +kernel
theorem d_Mod_go_107 : decode prog_9_method_32_code 107 = .ok (.iastore, 1) := by decide +kernel
theorem d_Mod_go_108 : decode prog_9_method_32_code 108 = .ok (.aload_n 0, 1) := by decide +kernel
theorem d_Mod_go_109 : decode prog_9_method_32_code 109 = .ok (.dup, 1) := by decide +kernel
theorem d_Mod_go_110 : decode prog_9_method_32_code 110 = .ok (.getfield 170, 3) := by decide +kernel
theorem d_Mod_go_113 : decode prog_9_method_32_code 113 = .ok (.iconst 1, 1) := by decide +kernel
theorem d_Mod_go_114 : decode prog_9_method_32_code 114 = .ok (.iadd, 1) := by decide +kernel
theorem d_Mod_go_115 : decode prog_9_method_32_code 115 = .ok (.putfield 170, 3) := by decide +kernel
theorem d_Mod_go_118 : decode prog_9_method_32_code 118 = .ok (.aload_n 0, 1) := by decide +kernel
theorem d_Mod_go_119 : decode prog_9_method_32_code 119 = .ok (.iload_n 2, 1) := by decide +kernel
theorem d_Mod_go_120 : decode prog_9_method_32_code 120 = .ok (.invokevirtual 181, 3) := by decide +kernel
theorem d_Mod_go_123 : decode prog_9_method_32_code 123 = .ok (.istore_n 2, 1) := by decide +kernel
theorem d_Mod_go_124 : decode prog_9_method_32_code 124 = .ok (.iload_n 2, 1) := by decide +kernel
theorem d_Mod_go_125 : decode prog_9_method_32_code 125 = .ok (.iload_n 1, 1) := by decide +kernel
theorem d_Mod_go_126 : decode prog_9_method_32_code 126 = .ok (.if_icmp .eq 7, 3) := by decide +kernel
theorem d_Mod_go_129 : decode prog_9_method_32_code 129 = .ok (.iconst 1, 1) := by decide +kernel
theorem d_Mod_go_130 : decode prog_9_method_32_code 130 = .ok (.goto 4, 3) := by decide +kernel
theorem d_Mod_go_133 : decode prog_9_method_32_code 133 = .ok (.iconst 0, 1) := by decide +kernel
theorem d_Mod_go_134 : decode prog_9_method_32_code 134 = .ok (.istore_n 3, 1) := by decide +kernel
theorem d_Mod_go_135 : decode prog_9_method_32_code 135 = .ok (.goto (-104), 3) := by decide +kernel
theorem d_Mod_go_138 : decode prog_9_method_32_code 138 = .ok (.return_, 1) := by decide +kernel
theorem d_Mod_isOn_0 : decode prog_9_method_35_code 0 = .ok (.iconst 0, 1) := by decide +kernel
theorem d_Mod_isOn_1 : decode prog_9_method_35_code 1 = .ok (.istore 4, 2) := by decide +kernel
theorem d_Mod_isOn_3 : decode prog_9_method_35_code 3 = .ok (.iconst 0, 1) := by decide +kernel
theorem d_Mod_isOn_4 : decode prog_9_method_35_code 4 = .ok (.istore 5, 2) := by decide +kernel
theorem d_Mod_isOn_6 : decode prog_9_method_35_code 6 = .ok (.iload 5, 2) := by decide +kernel
theorem d_Mod_isOn_8 : decode prog_9_method_35_code 8 = .ok (.aload_n 0, 1) := by decide +kernel
theorem d_Mod_isOn_9 : decode prog_9_method_35_code 9 = .ok (.getfield 50, 3) := by decide +kernel
theorem d_Mod_isOn_12 : decode prog_9_method_35_code 12 = .ok (.iload_n 3, 1) := by decide +kernel
theorem d_Mod_isOn_13 : decode prog_9_method_35_code 13 = .ok (.iaload, 1) := by decide +kernel
theorem d_Mod_isOn_14 : decode prog_9_method_35_code 14 = .ok (.if_icmp .ge 130, 3) := by decide +kernel
theorem d_Mod_isOn_17 : decode prog_9_method_35_code 17 = .ok (.iload 4, 2) := by decide +kernel
theorem d_Mod_isOn_19 : decode prog_9_method_35_code 19 = .ok (.ifCond .ne 125, 3) := by decide +kernel
theorem d_Mod_isOn_22 : decode prog_9_method_35_code 22 = .ok (.aload_n 0, 1) := by decide +kernel
theorem d_Mod_isOn_23 : decode prog_9_method_35_code 23 = .ok (.getfield 47, 3) := by decide +kernel
theorem d_Mod_isOn_26 : decode prog_9_method_35_code 26 = .ok (.iload_n 3, 1) := by decide +kernel
theorem d_Mod_isOn_27 : decode prog_9_method_35_code 27 = .ok (.iaload, 1) := by decide +kernel
theorem d_Mod_isOn_28 : decode prog_9_method_35_code 28 = .ok (.iload 5, 2) := by decide +kernel
theorem d_Mod_isOn_30 : decode prog_9_method_35_code 30 = .ok (.iadd, 1) := by decide +kernel
theorem d_Mod_isOn_31 : decode prog_9_method_35_code 31 = .ok (.istore 6, 2) := by decide +kernel
theorem d_Mod_isOn_33 : decode prog_9_method_35_code 33 = .ok (.aload_n 0, 1) := by decide +kernel
theorem d_Mod_isOn_34 : decode prog_9_method_35_code 34 = .ok (.getfield 47, 3) := by decide +kernel
theorem d_Mod_isOn_37 : decode prog_9_method_35_code 37 = .ok (.iload_n 3, 1) := by decide +kernel
theorem d_Mod_isOn_38 : decode prog_9_method_35_code 38 = .ok (.iaload, 1) := by decide +kernel
theorem d_Mod_isOn_39 : decode prog_9_method_35_code 39 = .ok (.iload 5, 2) := by decide +kernel
theorem d_Mod_isOn_41 : decode prog_9_method_35_code 41 = .ok (.iconst 1, 1) := by decide +kernel
theorem d_Mod_isOn_42 : decode prog_9_method_35_code 42 = .ok (.iadd, 1) := by decide +kernel
theorem d_Mod_isOn_43 : decode prog_9_method_35_code 43 = .ok (.aload_n 0, 1) := by decide +kernel
theorem d_Mod_isOn_44 : decode prog_9_method_35_code 44 = .ok (.getfield 50, 3) := by decide +kernel
theorem d_Mod_isOn_47 : decode prog_9_method_35_code 47 = .ok (.iload_n 3, 1) := by decide +kernel
theorem d_Mod_isOn_48 : decode prog_9_method_35_code 48 = .ok (.iaload, 1) := by decide +kernel
theorem d_Mod_isOn_49 : decode prog_9_method_35_code 49 = .ok (.irem, 1) := by decide +kernel
theorem d_Mod_isOn_50 : decode prog_9_method_35_code 50 = .ok (.iadd, 1) := by decide +kernel
theorem d_Mod_isOn_51 : decode prog_9_method_35_code 51 = .ok (.istore 7, 2) := by decide +kernel
theorem d_Mod_isOn_53 : decode prog_9_method_35_code 53 = .ok (.aload_n 0, 1) := by decide +kernel
theorem d_Mod_isOn_54 : decode prog_9_method_35_code 54 = .ok (.getfield 60, 3) := by decide +kernel
theorem d_Mod_isOn_57 : decode prog_9_method_35_code 57 = .ok (.iload 6, 2) := by decide +kernel
theorem d_Mod_isOn_59 : decode prog_9_method_35_code 59 = .ok (.iaload, 1) := by decide +kernel
theorem d_Mod_isOn_60 : decode prog_9_method_35_code 60 = .ok (.aload_n 0, 1) := by decide +kernel
theorem d_Mod_isOn_61 : decode prog_9_method_35_code 61 = .ok (.getfield 63, 3) := by decide +kernel
theorem d_Mod_isOn_64 : decode prog_9_method_35_code 64 = .ok (.iload 6, 2) := by decide +kernel
theorem d_Mod_isOn_66 : decode prog_9_method_35_code 66 = .ok (.iaload, 1) := by decide +kernel
theorem d_Mod_isOn_67 : decode prog_9_method_35_code 67 = .ok (.aload_n 0, 1) := by decide +kernel
theorem d_Mod_isOn_68 : decode prog_9_method_35_code 68 = .ok (.getfield 60, 3) := by decide +kernel
theorem d_Mod_isOn_71 : decode prog_9_method_35_code 71 = .ok (.iload 7, 2) := by decide +kernel
theorem d_Mod_isOn_73 : decode prog_9_method_35_code 73 = .ok (.iaload, 1) := by decide +kernel
theorem d_Mod_isOn_74 : decode prog_9_method_35_code 74 = .ok (.aload_n 0, 1) := by decide +kernel
theorem d_Mod_isOn_75 : decode prog_9_method_35_code 75 = .ok (.getfield 63, 3) := by decide +kernel
theorem d_Mod_isOn_78 : decode prog_9_method_35_code 78 = .ok (.iload 7, 2) := by decide +kernel
theorem d_Mod_isOn_80 : decode prog_9_method_35_code 80 = .ok (.iaload, 1) := by decide +kernel
theorem d_Mod_isOn_81 : decode prog_9_method_35_code 81 = .ok (.iload_n 1, 1) := by decide +kernel
theorem d_Mod_isOn_82 : decode prog_9_method_35_code 82 = .ok (.iload_n 2, 1) := by decide +kernel
theorem d_Mod_isOn_83 : decode prog_9_method_35_code 83 = .ok (.invokestatic 100, 3) := by decide +kernel
theorem d_Mod_isOn_86 : decode prog_9_method_35_code 86 = .ok (.ifCond .ne 49, 3) := by decide +kernel
theorem d_Mod_isOn_89 : decode prog_9_method_35_code 89 = .ok (.iload_n 1, 1) := by decide +kernel
theorem d_Mod_isOn_90 : decode prog_9_method_35_code 90 = .ok (.aload_n 0, 1) := by decide +kernel
theorem d_Mod_isOn_91 : decode prog_9_method_35_code 91 = .ok (.getfield 60, 3) := by decide +kernel
theorem d_Mod_isOn_94 : decode prog_9_method_35_code 94 = .ok (.iload 6, 2) := by decide +kernel
theorem d_Mod_isOn_96 : decode prog_9_method_35_code 96 = .ok (.iaload, 1) := by decide +kernel
theorem d_Mod_isOn_97 : decode prog_9_method_35_code 97 = .ok (.aload_n 0, 1) := by decide +kernel
theorem d_Mod_isOn_98 : decode prog_9_method_35_code 98 = .ok (.getfield 60, 3) := by decide +kernel
theorem d_Mod_isOn_101 : decode prog_9_method_35_code 101 = .ok (.iload 7, 2) := by decide +kernel
theorem d_Mod_isOn_103 : decode prog_9_method_35_code 103 = .ok (.iaload, 1) := by decide +kernel
theorem d_Mod_isOn_104 : decode prog_9_method_35_code 104 = .ok (.invokestatic 104, 3) := by decide +kernel
theorem d_Mod_isOn_107 : decode prog_9_method_35_code 107 = .ok (.ifCond .eq 28, 3) := by decide +kernel
theorem d_Mod_isOn_110 : decode prog_9_method_35_code 110 = .ok (.iload_n 2, 1) := by decide +kernel
theorem d_Mod_isOn_111 : decode prog_9_method_35_code 111 = .ok (.aload_n 0, 1) := by decide +kernel
theorem d_Mod_isOn_112 : decode prog_9_method_35_code 112 = .ok (.getfield 63, 3) := by decide +kernel
theorem d_Mod_isOn_115 : decode prog_9_method_35_code 115 = .ok (.iload 6, 2) := by decide +kernel
theorem d_Mod_isOn_117 : decode prog_9_method_35_code 117 = .ok (.iaload, 1) := by decide +kernel
theorem d_Mod_isOn_118 : decode prog_9_method_35_code 118 = .ok (.aload_n 0, 1) := by decide +kernel
theorem d_Mod_isOn_119 : decode prog_9_method_35_code 119 = .ok (.getfield 63, 3) := by decide +kernel
theorem d_Mod_isOn_122 : decode prog_9_method_35_code 122 = .ok (.iload 7, 2) := by decide +kernel
theorem d_Mod_isOn_124 : decode prog_9_method_35_code 124 = .ok (.iaload, 1) := by decide +kernel
theorem d_Mod_isOn_125 : decode prog_9_method_35_code 125 = .ok (.invokestatic 104, 3) := by decide +kernel
theorem d_Mod_isOn_128 : decode prog_9_method_35_code 128 = .ok (.ifCond .eq 7, 3) := by decide +kernel
theorem d_Mod_isOn_131 : decode prog_9_method_35_code 131 = .ok (.iconst 1, 1) := by decide +kernel
theorem d_Mod_isOn_132 : decode prog_9_method_35_code 132 = .ok (.goto 4, 3) := by decide +kernel
theorem d_Mod_isOn_135 : decode prog_9_method_35_code 135 = .ok (.iconst 0, 1) := by decide +kernel
theorem d_Mod_isOn_136 : decode prog_9_method_35_code 136 = .ok (.istore 4, 2) := by decide +kernel
theorem d_Mod_isOn_138 : decode prog_9_method_35_code 138 = .ok (.iinc 5 1, 3) := by decide +kernel
theorem d_Mod_isOn_141 : decode prog_9_method_35_code 141 = .ok (.goto (-135), 3) := by decide +kernel
theorem d_Mod_isOn_144 : decode prog_9_method_35_code 144 = .ok (.iload 4, 2) := by decide +kernel
theorem d_Mod_isOn_146 : decode prog_9_method_35_code 146 = .ok (.ireturn, 1) := by decide +kernel
theorem d_Mod_isInside_0 : decode prog_9_method_36_code 0 = .ok (.iconst 0, 1) := by decide +kernel
theorem d_Mod_isInside_1 : decode prog_9_method_36_code 1 = .ok (.istore 4, 2) := by decide +kernel
theorem d_Mod_isInside_3 : decode prog_9_method_36_code 3 = .ok (.iconst 0, 1) := by decide +kernel
theorem d_Mod_isInside_4 : decode prog_9_method_36_code 4 = .ok (.istore 5, 2) := by decide +kernel
theorem d_Mod_isInside_6 : decode prog_9_method_36_code 6 = .ok (.iload 5, 2) := by decide +kernel
theorem d_Mod_isInside_8 : decode prog_9_method_36_code 8 = .ok (.aload_n 0, 1) := by decide +kernel
theorem d_Mod_isInside_9 : decode prog_9_method_36_code 9 = .ok (.getfield 50, 3) := by decide +kernel
theorem d_Mod_isInside_12 : decode prog_9_method_36_code 12 = .ok (.iload_n 3, 1) := by decide +kernel
theorem d_Mod_isInside_13 : decode prog_9_method_36_code 13 = .ok (.iaload, 1) := by decide +kernel
theorem d_Mod_isInside_14 : decode prog_9_method_36_code 14 = .ok (.if_icmp .ge 137, 3) := by decide +kernel
theorem d_Mod_isInside_17 : decode prog_9_method_36_code 17 = .ok (.aload_n 0, 1) := by decide +kernel
theorem d_Mod_isInside_18 : decode prog_9_method_36_code 18 = .ok (.getfield 47, 3) := by decide +kernel
theorem d_Mod_isInside_21 : decode prog_9_method_36_code 21 = .ok (.iload_n 3, 1) := by decide +kernel
theorem d_Mod_isInside_22 : decode prog_9_method_36_code 22 = .ok (.iaload, 1) := by decide +kernel
theorem d_Mod_isInside_23 : decode prog_9_method_36_code 23 = .ok (.iload 5, 2) := by decide +kernel
theorem d_Mod_isInside_25 : decode prog_9_method_36_code 25 = .ok (.iadd, 1) := by decide +kernel
theorem d_Mod_isInside_26 : decode prog_9_method_36_code 26 = .ok (.istore 6, 2) := by decide +kernel
theorem d_Mod_isInside_28 : decode prog_9_method_36_code 28 = .ok (.aload_n 0, 1) := by decide +kernel
theorem d_Mod_isInside_29 : decode prog_9_method_36_code 29 = .ok (.getfield 47, 3) := by decide +kernel
theorem d_Mod_isInside_32 : decode prog_9_method_36_code 32 = .ok (.iload_n 3, 1) := by decide +kernel
theorem d_Mod_isInside_33 : decode prog_9_method_36_code 33 = .ok (.iaload, 1) := by decide +kernel
theorem d_Mod_isInside_34 : decode prog_9_method_36_code 34 = .ok (.iload 5, 2) := by decide +kernel
theorem d_Mod_isInside_36 : decode prog_9_method_36_code 36 = .ok (.iconst 1, 1) := by decide +kernel
theorem d_Mod_isInside_37 : decode prog_9_method_36_code 37 = .ok (.iadd, 1) := by decide +kernel
theorem d_Mod_isInside_38 : decode prog_9_method_36_code 38 = .ok (.aload_n 0, 1) := by decide +kernel
theorem d_Mod_isInside_39 : decode prog_9_method_36_code 39 = .ok (.getfield 50, 3) := by decide +kernel
theorem d_Mod_isInside_42 : decode prog_9_method_36_code 42 = .ok (.iload_n 3, 1) := by decide +kernel
theorem d_Mod_isInside_43 : decode prog_9_method_36_code 43 = .ok (.iaload, 1) := by decide +kernel
theorem d_Mod_isInside_44 : decode prog_9_method_36_code 44 = .ok (.irem, 1) := by decide +kernel
theorem d_Mod_isInside_45 : decode prog_9_method_36_code 45 = .ok (.iadd, 1) := by decide +kernel
theorem d_Mod_isInside_46 : decode prog_9_method_36_code 46 = .ok (.istore 7, 2) := by decide +kernel
theorem d_Mod_isInside_48 : decode prog_9_method_36_code 48 = .ok (.aload_n 0, 1) := by decide +kernel
theorem d_Mod_isInside_49 : decode prog_9_method_36_code 49 = .ok (.getfield 63, 3) := by decide +kernel
theorem d_Mod_isInside_52 : decode prog_9_method_36_code 52 = .ok (.iload 7, 2) := by decide +kernel
theorem d_Mod_isInside_54 : decode prog_9_method_36_code 54 = .ok (.iaload, 1) := by decide +kernel
theorem d_Mod_isInside_55 : decode prog_9_method_36_code 55 = .ok (.iload_n 2, 1) := by decide +kernel
theorem d_Mod_isInside_56 : decode prog_9_method_36_code 56 = .ok (.if_icmp .le 7, 3) := by decide +kernel
theorem d_Mod_isInside_59 : decode prog_9_method_36_code 59 = .ok (.iconst 1, 1) := by decide +kernel
theorem d_Mod_isInside_60 : decode prog_9_method_36_code 60 = .ok (.goto 4, 3) := by decide +kernel
theorem d_Mod_isInside_63 : decode prog_9_method_36_code 63 = .ok (.iconst 0, 1) := by decide +kernel
theorem d_Mod_isInside_64 : decode prog_9_method_36_code 64 = .ok (.istore 8, 2) := by decide +kernel
theorem d_Mod_isInside_66 : decode prog_9_method_36_code 66 = .ok (.aload_n 0, 1) := by decide +kernel
theorem d_Mod_isInside_67 : decode prog_9_method_36_code 67 = .ok (.getfield 63, 3) := by decide +kernel
theorem d_Mod_isInside_70 : decode prog_9_method_36_code 70 = .ok (.iload 6, 2) := by decide +kernel
theorem d_Mod_isInside_72 : decode prog_9_method_36_code 72 = .ok (.iaload, 1) := by decide +kernel
theorem d_Mod_isInside_73 : decode prog_9_method_36_code 73 = .ok (.iload_n 2, 1) := by decide +kernel
theorem d_Mod_isInside_74 : decode prog_9_method_36_code 74 = .ok (.if_icmp .le 7, 3) := by decide +kernel
theorem d_Mod_isInside_77 : decode prog_9_method_36_code 77 = .ok (.iconst 1, 1) := by decide +kernel
theorem d_Mod_isInside_78 : decode prog_9_method_36_code 78 = .ok (.goto 4, 3) := by decide +kernel
theorem d_Mod_isInside_81 : decode prog_9_method_36_code 81 = .ok (.iconst 0, 1) := by decide +kernel
theorem d_Mod_isInside_82 : decode prog_9_method_36_code 82 = .ok (.iload 8, 2) := by decide +kernel
theorem d_Mod_isInside_84 : decode prog_9_method_36_code 84 = .ok (.if_icmp .eq 61, 3) := by decide +kernel
theorem d_Mod_isInside_87 : decode prog_9_method_36_code 87 = .ok (.aload_n 0, 1) := by decide +kernel
theorem d_Mod_isInside_88 : decode prog_9_method_36_code 88 = .ok (.getfield 60, 3) := by decide +kernel
theorem d_Mod_isInside_91 : decode prog_9_method_36_code 91 = .ok (.iload 6, 2) := by decide +kernel
theorem d_Mod_isInside_93 : decode prog_9_method_36_code 93 = .ok (.iaload, 1) := by decide +kernel
theorem d_Mod_isInside_94 : decode prog_9_method_36_code 94 = .ok (.aload_n 0, 1) := by decide +kernel
