theorem d_Mod_keepsOff_126 : decode prog_9_method_13_code 126 = .ok (.iload_n 1, 1) := by decide +kernel
theorem d_Mod_keepsOff_127 : decode prog_9_method_13_code 127 = .ok (.iaload, 1) := by decide +kernel
theorem d_Mod_keepsOff_128 : decode prog_9_method_13_code 128 = .ok (.aload_n 0, 1) := by decide +kernel
theorem d_Mod_keepsOff_129 : decode prog_9_method_13_code 129 = .ok (.getfield 13, 3) := by decide +kernel
theorem d_Mod_keepsOff_132 : decode prog_9_method_13_code 132 = .ok (.iload_n 1, 1) := by decide +kernel
theorem d_Mod_keepsOff_133 : decode prog_9_method_13_code 133 = .ok (.iaload, 1) := by decide +kernel
theorem d_Mod_keepsOff_134 : decode prog_9_method_13_code 134 = .ok (.aload_n 0, 1) := by decide +kernel
theorem d_Mod_keepsOff_135 : decode prog_9_method_13_code 135 = .ok (.getfield 16, 3) := by decide +kernel
theorem d_Mod_keepsOff_138 : decode prog_9_method_13_code 138 = .ok (.iload_n 1, 1) := by decide +kernel
theorem d_Mod_keepsOff_139 : decode prog_9_method_13_code 139 = .ok (.iaload, 1) := by decide +kernel
theorem d_Mod_keepsOff_140 : decode prog_9_method_13_code 140 = .ok (.aload_n 0, 1) := by decide +kernel
theorem d_Mod_keepsOff_141 : decode prog_9_method_13_code 141 = .ok (.getfield 19, 3) := by decide +kernel
theorem d_Mod_keepsOff_144 : decode prog_9_method_13_code 144 = .ok (.iload_n 1, 1) := by decide +kernel
theorem d_Mod_keepsOff_145 : decode prog_9_method_13_code 145 = .ok (.iaload, 1) := by decide +kernel
theorem d_Mod_keepsOff_146 : decode prog_9_method_13_code 146 = .ok (.aload_n 0, 1) := by decide +kernel
theorem d_Mod_keepsOff_147 : decode prog_9_method_13_code 147 = .ok (.getfield 16, 3) := by decide +kernel
theorem d_Mod_keepsOff_150 : decode prog_9_method_13_code 150 = .ok (.iload_n 2, 1) := by decide +kernel
theorem d_Mod_keepsOff_151 : decode prog_9_method_13_code 151 = .ok (.iaload, 1) := by decide +kernel
theorem d_Mod_keepsOff_152 : decode prog_9_method_13_code 152 = .ok (.aload_n 0, 1) := by decide +kernel
theorem d_Mod_keepsOff_153 : decode prog_9_method_13_code 153 = .ok (.getfield 19, 3) := by decide +kernel
theorem d_Mod_keepsOff_156 : decode prog_9_method_13_code 156 = .ok (.iload_n 2, 1) := by decide +kernel
theorem d_Mod_keepsOff_157 : decode prog_9_method_13_code 157 = .ok (.iaload, 1) := by decide +kernel
theorem d_Mod_keepsOff_158 : decode prog_9_method_13_code 158 = .ok (.invokestatic 100, 3) := by decide +kernel
theorem d_Mod_keepsOff_161 : decode prog_9_method_13_code 161 = .ok (.istore 4, 2) := by decide +kernel
theorem d_Mod_keepsOff_163 : decode prog_9_method_13_code 163 = .ok (.aload_n 0, 1) := by decide +kernel
theorem d_Mod_keepsOff_164 : decode prog_9_method_13_code 164 = .ok (.getfield 7, 3) := by decide +kernel
theorem d_Mod_keepsOff_167 : decode prog_9_method_13_code 167 = .ok (.iload_n 2, 1) := by decide +kernel
theorem d_Mod_keepsOff_168 : decode prog_9_method_13_code 168 = .ok (.iaload, 1) := by decide +kernel
theorem d_Mod_keepsOff_169 : decode prog_9_method_13_code 169 = .ok (.aload_n 0, 1) := by decide +kernel
theorem d_Mod_keepsOff_170 : decode prog_9_method_13_code 170 = .ok (.getfield 13, 3) := by decide +kernel
theorem d_Mod_keepsOff_173 : decode prog_9_method_13_code 173 = .ok (.iload_n 2, 1) := by decide +kernel
theorem d_Mod_keepsOff_174 : decode prog_9_method_13_code 174 = .ok (.iaload, 1) := by decide +kernel
theorem d_Mod_keepsOff_175 : decode prog_9_method_13_code 175 = .ok (.aload_n 0, 1) := by decide +kernel
theorem d_Mod_keepsOff_176 : decode prog_9_method_13_code 176 = .ok (.getfield 16, 3) := by decide +kernel
theorem d_Mod_keepsOff_179 : decode prog_9_method_13_code 179 = .ok (.iload_n 2, 1) := by decide +kernel
theorem d_Mod_keepsOff_180 : decode prog_9_method_13_code 180 = .ok (.iaload, 1) := by decide +kernel
theorem d_Mod_keepsOff_181 : decode prog_9_method_13_code 181 = .ok (.aload_n 0, 1) := by decide +kernel
theorem d_Mod_keepsOff_182 : decode prog_9_method_13_code 182 = .ok (.getfield 19, 3) := by decide +kernel
theorem d_Mod_keepsOff_185 : decode prog_9_method_13_code 185 = .ok (.iload_n 2, 1) := by decide +kernel
theorem d_Mod_keepsOff_186 : decode prog_9_method_13_code 186 = .ok (.iaload, 1) := by decide +kernel
theorem d_Mod_keepsOff_187 : decode prog_9_method_13_code 187 = .ok (.aload_n 0, 1) := by decide +kernel
theorem d_Mod_keepsOff_188 : decode prog_9_method_13_code 188 = .ok (.getfield 7, 3) := by decide +kernel
theorem d_Mod_keepsOff_191 : decode prog_9_method_13_code 191 = .ok (.iload_n 1, 1) := by decide +kernel
theorem d_Mod_keepsOff_192 : decode prog_9_method_13_code 192 = .ok (.iaload, 1) := by decide +kernel
theorem d_Mod_keepsOff_193 : decode prog_9_method_13_code 193 = .ok (.aload_n 0, 1) := by decide +kernel
theorem d_Mod_keepsOff_194 : decode prog_9_method_13_code 194 = .ok (.getfield 13, 3) := by decide +kernel
theorem d_Mod_keepsOff_197 : decode prog_9_method_13_code 197 = .ok (.iload_n 1, 1) := by decide +kernel
theorem d_Mod_keepsOff_198 : decode prog_9_method_13_code 198 = .ok (.iaload, 1) := by decide +kernel
theorem d_Mod_keepsOff_199 : decode prog_9_method_13_code 199 = .ok (.invokestatic 100, 3) := by decide +kernel
theorem d_Mod_keepsOff_202 : decode prog_9_method_13_code 202 = .ok (.istore 5, 2) := by decide +kernel
theorem d_Mod_keepsOff_204 : decode prog_9_method_13_code 204 = .ok (.aload_n 0, 1) := by decide +kernel
theorem d_Mod_keepsOff_205 : decode prog_9_method_13_code 205 = .ok (.getfield 7, 3) := by decide +kernel
theorem d_Mod_keepsOff_208 : decode prog_9_method_13_code 208 = .ok (.iload_n 2, 1) := by decide +kernel
theorem d_Mod_keepsOff_209 : decode prog_9_method_13_code 209 = .ok (.iaload, 1) := by decide +kernel
theorem d_Mod_keepsOff_210 : decode prog_9_method_13_code 210 = .ok (.aload_n 0, 1) := by decide +kernel
theorem d_Mod_keepsOff_211 : decode prog_9_method_13_code 211 = .ok (.getfield 13, 3) := by decide +kernel
theorem d_Mod_keepsOff_214 : decode prog_9_method_13_code 214 = .ok (.iload_n 2, 1) := by decide +kernel
theorem d_Mod_keepsOff_215 : decode prog_9_method_13_code 215 = .ok (.iaload, 1) := by decide +kernel
theorem d_Mod_keepsOff_216 : decode prog_9_method_13_code 216 = .ok (.aload_n 0, 1) := by decide +kernel
theorem d_Mod_keepsOff_217 : decode prog_9_method_13_code 217 = .ok (.getfield 16, 3) := by decide +kernel
theorem d_Mod_keepsOff_220 : decode prog_9_method_13_code 220 = .ok (.iload_n 2, 1) := by decide +kernel
theorem d_Mod_keepsOff_221 : decode prog_9_method_13_code 221 = .ok (.iaload, 1) := by decide +kernel
theorem d_Mod_keepsOff_222 : decode prog_9_method_13_code 222 = .ok (.aload_n 0, 1) := by decide +kernel
theorem d_Mod_keepsOff_223 : decode prog_9_method_13_code 223 = .ok (.getfield 19, 3) := by decide +kernel
theorem d_Mod_keepsOff_226 : decode prog_9_method_13_code 226 = .ok (.iload_n 2, 1) := by decide +kernel
theorem d_Mod_keepsOff_227 : decode prog_9_method_13_code 227 = .ok (.iaload, 1) := by decide +kernel
theorem d_Mod_keepsOff_228 : decode prog_9_method_13_code 228 = .ok (.aload_n 0, 1) := by decide +kernel
theorem d_Mod_keepsOff_229 : decode prog_9_method_13_code 229 = .ok (.getfield 16, 3) := by decide +kernel
theorem d_Mod_keepsOff_232 : decode prog_9_method_13_code 232 = .ok (.iload_n 1, 1) := by decide +kernel
theorem d_Mod_keepsOff_233 : decode prog_9_method_13_code 233 = .ok (.iaload, 1) := by decide +kernel
theorem d_Mod_keepsOff_234 : decode prog_9_method_13_code 234 = .ok (.aload_n 0, 1) := by decide +kernel
theorem d_Mod_keepsOff_235 : decode prog_9_method_13_code 235 = .ok (.getfield 19, 3) := by decide +kernel
theorem d_Mod_keepsOff_238 : decode prog_9_method_13_code 238 = .ok (.iload_n 1, 1) := by decide +kernel
theorem d_Mod_keepsOff_239 : decode prog_9_method_13_code 239 = .ok (.iaload, 1) := by decide +kernel
theorem d_Mod_keepsOff_240 : decode prog_9_method_13_code 240 = .ok (.invokestatic 100, 3) := by decide +kernel
theorem d_Mod_keepsOff_243 : decode prog_9_method_13_code 243 = .ok (.istore 6, 2) := by decide +kernel
theorem d_Mod_keepsOff_245 : decode prog_9_method_13_code 245 = .ok (.iload_n 3, 1) := by decide +kernel
theorem d_Mod_keepsOff_246 : decode prog_9_method_13_code 246 = .ok (.iload 4, 2) := by decide +kernel
theorem d_Mod_keepsOff_248 : decode prog_9_method_13_code 248 = .ok (.imul, 1) := by decide +kernel
theorem d_Mod_keepsOff_249 : decode prog_9_method_13_code 249 = .ok (.ifCond .ge 15, 3) := by decide +kernel
theorem d_Mod_keepsOff_252 : decode prog_9_method_13_code 252 = .ok (.iload 5, 2) := by decide +kernel
theorem d_Mod_keepsOff_254 : decode prog_9_method_13_code 254 = .ok (.iload 6, 2) := by decide +kernel
theorem d_Mod_keepsOff_256 : decode prog_9_method_13_code 256 = .ok (.imul, 1) := by decide +kernel
theorem d_Mod_keepsOff_257 : decode prog_9_method_13_code 257 = .ok (.ifCond .ge 7, 3) := by decide +kernel
theorem d_Mod_keepsOff_260 : decode prog_9_method_13_code 260 = .ok (.iconst 1, 1) := by decide +kernel
theorem d_Mod_keepsOff_261 : decode prog_9_method_13_code 261 = .ok (.goto 4, 3) := by decide +kernel
theorem d_Mod_keepsOff_264 : decode prog_9_method_13_code 264 = .ok (.iconst 0, 1) := by decide +kernel
theorem d_Mod_keepsOff_265 : decode prog_9_method_13_code 265 = .ok (.ireturn, 1) := by decide +kernel
theorem d_Mod_find_0 : decode prog_9_method_14_code 0 = .ok (.iconst (-1), 1) := by decide +kernel
theorem d_Mod_find_1 : decode prog_9_method_14_code 1 = .ok (.istore 5, 2) := by decide +kernel
theorem d_Mod_find_3 : decode prog_9_method_14_code 3 = .ok (.iconst 0, 1) := by decide +kernel
theorem d_Mod_find_4 : decode prog_9_method_14_code 4 = .ok (.istore 6, 2) := by decide +kernel
theorem d_Mod_find_6 : decode prog_9_method_14_code 6 = .ok (.iload 6, 2) := by decide +kernel
theorem d_Mod_find_8 : decode prog_9_method_14_code 8 = .ok (.aload_n 0, 1) := by decide +kernel
theorem d_Mod_find_9 : decode prog_9_method_14_code 9 = .ok (.getfield 110, 3) := by decide +kernel
theorem d_Mod_find_12 : decode prog_9_method_14_code 12 = .ok (.if_icmp .ge 41, 3) := by decide +kernel
theorem d_Mod_find_15 : decode prog_9_method_14_code 15 = .ok (.aload_n 0, 1) := by decide +kernel
theorem d_Mod_find_16 : decode prog_9_method_14_code 16 = .ok (.iload 6, 2) := by decide +kernel
theorem d_Mod_find_18 : decode prog_9_method_14_code 18 = .ok (.iload_n 1, 1) := by decide +kernel
theorem d_Mod_find_19 : decode prog_9_method_14_code 19 = .ok (.iload_n 2, 1) := by decide +kernel
theorem d_Mod_find_20 : decode prog_9_method_14_code 20 = .ok (.invokevirtual 97, 3) := by decide +kernel
theorem d_Mod_find_23 : decode prog_9_method_14_code 23 = .ok (.ifCond .eq 20, 3) := by decide +kernel
theorem d_Mod_find_26 : decode prog_9_method_14_code 26 = .ok (.aload_n 0, 1) := by decide +kernel
theorem d_Mod_find_27 : decode prog_9_method_14_code 27 = .ok (.iload 6, 2) := by decide +kernel
theorem d_Mod_find_29 : decode prog_9_method_14_code 29 = .ok (.iload_n 3, 1) := by decide +kernel
theorem d_Mod_find_30 : decode prog_9_method_14_code 30 = .ok (.iload 4, 2) := by decide +kernel
theorem d_Mod_find_32 : decode prog_9_method_14_code 32 = .ok (.invokevirtual 97, 3) := by decide +kernel
theorem d_Mod_find_35 : decode prog_9_method_14_code 35 = .ok (.ifCond .eq 8, 3) := by decide +kernel
theorem d_Mod_find_38 : decode prog_9_method_14_code 38 = .ok (.iload 6, 2) := by decide +kernel
theorem d_Mod_find_40 : decode prog_9_method_14_code 40 = .ok (.goto 5, 3) := by decide +kernel
theorem d_Mod_find_43 : decode prog_9_method_14_code 43 = .ok (.iload 5, 2) := by decide +kernel
theorem d_Mod_find_45 : decode prog_9_method_14_code 45 = .ok (.istore 5, 2) := by decide +kernel
theorem d_Mod_find_47 : decode prog_9_method_14_code 47 = .ok (.iinc 6 1, 3) := by decide +kernel
theorem d_Mod_find_50 : decode prog_9_method_14_code 50 = .ok (.goto (-44), 3) := by decide +kernel
theorem d_Mod_find_53 : decode prog_9_method_14_code 53 = .ok (.iload 5, 2) := by decide +kernel
theorem d_Mod_find_55 : decode prog_9_method_14_code 55 = .ok (.ireturn, 1) := by decide +kernel
theorem d_Mod_isApart_0 : decode prog_9_method_15_code 0 = .ok (.iload_n 1, 1) := by decide +kernel
theorem d_Mod_isApart_1 : decode prog_9_method_15_code 1 = .ok (.iload_n 3, 1) := by decide +kernel
theorem d_Mod_isApart_2 : decode prog_9_method_15_code 2 = .ok (.if_icmp .lt 14, 3) := by decide +kernel
theorem d_Mod_isApart_5 : decode prog_9_method_15_code 5 = .ok (.iload_n 1, 1) := by decide +kernel
theorem d_Mod_isApart_6 : decode prog_9_method_15_code 6 = .ok (.iload_n 3, 1) := by decide +kernel
theorem d_Mod_isApart_7 : decode prog_9_method_15_code 7 = .ok (.if_icmp .ne 13, 3) := by decide +kernel
theorem d_Mod_isApart_10 : decode prog_9_method_15_code 10 = .ok (.iload_n 2, 1) := by decide +kernel
theorem d_Mod_isApart_11 : decode prog_9_method_15_code 11 = .ok (.iload 4, 2) := by decide +kernel
theorem d_Mod_isApart_13 : decode prog_9_method_15_code 13 = .ok (.if_icmp .ge 7, 3) := by decide +kernel
theorem d_Mod_isApart_16 : decode prog_9_method_15_code 16 = .ok (.iconst 1, 1) := by decide +kernel
theorem d_Mod_isApart_17 : decode prog_9_method_15_code 17 = .ok (.goto 4, 3) := by decide +kernel
theorem d_Mod_isApart_20 : decode prog_9_method_15_code 20 = .ok (.iconst 0, 1) := by decide +kernel
theorem d_Mod_isApart_21 : decode prog_9_method_15_code 21 = .ok (.istore 5, 2) := by decide +kernel
theorem d_Mod_isApart_23 : decode prog_9_method_15_code 23 = .ok (.aload_n 0, 1) := by decide +kernel
theorem d_Mod_isApart_24 : decode prog_9_method_15_code 24 = .ok (.getfield 7, 3) := by decide +kernel
theorem d_Mod_isApart_27 : decode prog_9_method_15_code 27 = .ok (.aload_n 0, 1) := by decide +kernel
theorem d_Mod_isApart_28 : decode prog_9_method_15_code 28 = .ok (.getfield 110, 3) := by decide +kernel
theorem d_Mod_isApart_31 : decode prog_9_method_15_code 31 = .ok (.iload 5, 2) := by decide +kernel
theorem d_Mod_isApart_33 : decode prog_9_method_15_code 33 = .ok (.ifCond .eq 7, 3) := by decide +kernel
theorem d_Mod_isApart_36 : decode prog_9_method_15_code 36 = .ok (.iload_n 1, 1) := by decide +kernel
theorem d_Mod_isApart_37 : decode prog_9_method_15_code 37 = .ok (.goto 4, 3) := by decide +kernel
theorem d_Mod_isApart_40 : decode prog_9_method_15_code 40 = .ok (.iload_n 3, 1) := by decide +kernel
theorem d_Mod_isApart_41 : decode prog_9_method_15_code 41 = .ok (.iastore, 1) := by decide +kernel
theorem d_Mod_isApart_42 : decode prog_9_method_15_code 42 = .ok (.aload_n 0, 1) := by decide +kernel
theorem d_Mod_isApart_43 : decode prog_9_method_15_code 43 = .ok (.getfield 13, 3) := by decide +kernel
theorem d_Mod_isApart_46 : decode prog_9_method_15_code 46 = .ok (.aload_n 0, 1) := by decide +kernel
theorem d_Mod_isApart_47 : decode prog_9_method_15_code 47 = .ok (.getfield 110, 3) := by decide +kernel
theorem d_Mod_isApart_50 : decode prog_9_method_15_code 50 = .ok (.iload 5, 2) := by decide +kernel
theorem d_Mod_isApart_52 : decode prog_9_method_15_code 52 = .ok (.ifCond .eq 7, 3) := by decide +kernel
theorem d_Mod_isApart_55 : decode prog_9_method_15_code 55 = .ok (.iload_n 2, 1) := by decide +kernel
theorem d_Mod_isApart_56 : decode prog_9_method_15_code 56 = .ok (.goto 5, 3) := by decide +kernel
theorem d_Mod_isApart_59 : decode prog_9_method_15_code 59 = .ok (.iload 4, 2) := by decide +kernel
theorem d_Mod_isApart_61 : decode prog_9_method_15_code 61 = .ok (.iastore, 1) := by decide +kernel
theorem d_Mod_isApart_62 : decode prog_9_method_15_code 62 = .ok (.aload_n 0, 1) := by decide +kernel
theorem d_Mod_isApart_63 : decode prog_9_method_15_code 63 = .ok (.getfield 16, 3) := by decide +kernel
theorem d_Mod_isApart_66 : decode prog_9_method_15_code 66 = .ok (.aload_n 0, 1) := by decide +kernel
theorem d_Mod_isApart_67 : decode prog_9_method_15_code 67 = .ok (.getfield 110, 3) := by decide +kernel
theorem d_Mod_isApart_70 : decode prog_9_method_15_code 70 = .ok (.iload 5, 2) := by decide +kernel
theorem d_Mod_isApart_72 : decode prog_9_method_15_code 72 = .ok (.ifCond .eq 7, 3) := by decide +kernel
theorem d_Mod_isApart_75 : decode prog_9_method_15_code 75 = .ok (.iload_n 3, 1) := by decide +kernel
theorem d_Mod_isApart_76 : decode prog_9_method_15_code 76 = .ok (.goto 4, 3) := by decide +kernel
theorem d_Mod_isApart_79 : decode prog_9_method_15_code 79 = .ok (.iload_n 1, 1) := by decide +kernel
theorem d_Mod_isApart_80 : decode prog_9_method_15_code 80 = .ok (.iastore, 1) := by decide +kernel
theorem d_Mod_isApart_81 : decode prog_9_method_15_code 81 = .ok (.aload_n 0, 1) := by decide +kernel
theorem d_Mod_isApart_82 : decode prog_9_method_15_code 82 = .ok (.getfield 19, 3) := by decide +kernel
theorem d_Mod_isApart_85 : decode prog_9_method_15_code 85 = .ok (.aload_n 0, 1) := by decide +kernel
theorem d_Mod_isApart_86 : decode prog_9_method_15_code 86 = .ok (.getfield 110, 3) := by decide +kernel
theorem d_Mod_isApart_89 : decode prog_9_method_15_code 89 = .ok (.iload 5, 2) := by decide +kernel
theorem d_Mod_isApart_91 : decode prog_9_method_15_code 91 = .ok (.ifCond .eq 8, 3) := by decide +kernel
theorem d_Mod_isApart_94 : decode prog_9_method_15_code 94 = .ok (.iload 4, 2) := by decide +kernel
theorem d_Mod_isApart_96 : decode prog_9_method_15_code 96 = .ok (.goto 4, 3) := by decide +kernel
theorem d_Mod_isApart_99 : decode prog_9_method_15_code 99 = .ok (.iload_n 2, 1) := by decide +kernel
theorem d_Mod_isApart_100 : decode prog_9_method_15_code 100 = .ok (.iastore, 1) := by decide +kernel
theorem d_Mod_isApart_101 : decode prog_9_method_15_code 101 = .ok (.iconst 1, 1) := by decide +kernel
theorem d_Mod_isApart_102 : decode prog_9_method_15_code 102 = .ok (.istore 6, 2) := by decide +kernel
theorem d_Mod_isApart_104 : decode prog_9_method_15_code 104 = .ok (.iconst 0, 1) := by decide +kernel
theorem d_Mod_isApart_105 : decode prog_9_method_15_code 105 = .ok (.istore 7, 2) := by decide +kernel
theorem d_Mod_isApart_107 : decode prog_9_method_15_code 107 = .ok (.iload 7, 2) := by decide +kernel
theorem d_Mod_isApart_109 : decode prog_9_method_15_code 109 = .ok (.aload_n 0, 1) := by decide +kernel
theorem d_Mod_isApart_110 : decode prog_9_method_15_code 110 = .ok (.getfield 110, 3) := by decide +kernel
theorem d_Mod_isApart_113 : decode prog_9_method_15_code 113 = .ok (.if_icmp .ge 34, 3) := by decide +kernel
theorem d_Mod_isApart_116 : decode prog_9_method_15_code 116 = .ok (.iload 6, 2) := by decide +kernel
theorem d_Mod_isApart_118 : decode prog_9_method_15_code 118 = .ok (.ifCond .eq 29, 3) := by decide +kernel
theorem d_Mod_isApart_121 : decode prog_9_method_15_code 121 = .ok (.aload_n 0, 1) := by decide +kernel
theorem d_Mod_isApart_122 : decode prog_9_method_15_code 122 = .ok (.iload 7, 2) := by decide +kernel
theorem d_Mod_isApart_124 : decode prog_9_method_15_code 124 = .ok (.aload_n 0, 1) := by decide +kernel
theorem d_Mod_isApart_125 : decode prog_9_method_15_code 125 = .ok (.getfield 110, 3) := by decide +kernel
theorem d_Mod_isApart_128 : decode prog_9_method_15_code 128 = .ok (.invokevirtual 113, 3) := by decide +kernel
theorem d_Mod_isApart_131 : decode prog_9_method_15_code 131 = .ok (.ifCond .ne 7, 3) := by decide +kernel
theorem d_Mod_isApart_134 : decode prog_9_method_15_code 134 = .ok (.iconst 1, 1) := by decide +kernel
theorem d_Mod_isApart_135 : decode prog_9_method_15_code 135 = .ok (.goto 4, 3) := by decide +kernel
theorem d_Mod_isApart_138 : decode prog_9_method_15_code 138 = .ok (.iconst 0, 1) := by decide +kernel
theorem d_Mod_isApart_139 : decode prog_9_method_15_code 139 = .ok (.istore 6, 2) := by decide +kernel
theorem d_Mod_isApart_141 : decode prog_9_method_15_code 141 = .ok (.iinc 7 1, 3) := by decide +kernel
theorem d_Mod_isApart_144 : decode prog_9_method_15_code 144 = .ok (.goto (-37), 3) := by decide +kernel
theorem d_Mod_isApart_147 : decode prog_9_method_15_code 147 = .ok (.iload 6, 2) := by decide +kernel
theorem d_Mod_isApart_149 : decode prog_9_method_15_code 149 = .ok (.ireturn, 1) := by decide +kernel
theorem d_Mod_piece_0 : decode prog_9_method_16_code 0 = .ok (.aload_n 0, 1) := by decide +kernel
theorem d_Mod_piece_1 : decode prog_9_method_16_code 1 = .ok (.iconst 0, 1) := by decide +kernel
theorem d_Mod_piece_2 : decode prog_9_method_16_code 2 = .ok (.putfield 66, 3) := by decide +kernel
theorem d_Mod_piece_5 : decode prog_9_method_16_code 5 = .ok (.iload_n 1, 1) := by decide +kernel
theorem d_Mod_piece_6 : decode prog_9_method_16_code 6 = .ok (.invokestatic 117, 3) := by decide +kernel
theorem d_Mod_piece_9 : decode prog_9_method_16_code 9 = .ok (.ifCond .ne 46, 3) := by decide +kernel
theorem d_Mod_piece_12 : decode prog_9_method_16_code 12 = .ok (.iload_n 2, 1) := by decide +kernel
theorem d_Mod_piece_13 : decode prog_9_method_16_code 13 = .ok (.invokestatic 117, 3) := by decide +kernel
theorem d_Mod_piece_16 : decode prog_9_method_16_code 16 = .ok (.ifCond .ne 39, 3) := by decide +kernel
theorem d_Mod_piece_19 : decode prog_9_method_16_code 19 = .ok (.iload_n 3, 1) := by decide +kernel
theorem d_Mod_piece_20 : decode prog_9_method_16_code 20 = .ok (.invokestatic 117, 3) := by decide +kernel
theorem d_Mod_piece_23 : decode prog_9_method_16_code 23 = .ok (.ifCond .ne 32, 3) := by decide +kernel
theorem d_Mod_piece_26 : decode prog_9_method_16_code 26 = .ok (.iload 4, 2) := by decide +kernel
theorem d_Mod_piece_28 : decode prog_9_method_16_code 28 = .ok (.invokestatic 117, 3) := by decide +kernel
theorem d_Mod_piece_31 : decode prog_9_method_16_code 31 = .ok (.ifCond .ne 24, 3) := by decide +kernel
theorem d_Mod_piece_34 : decode prog_9_method_16_code 34 = .ok (.iload_n 1, 1) := by decide +kernel
theorem d_Mod_piece_35 : decode prog_9_method_16_code 35 = .ok (.iload_n 3, 1) := by decide +kernel
theorem d_Mod_piece_36 : decode prog_9_method_16_code 36 = .ok (.if_icmp .ne 9, 3) := by decide +kernel
theorem d_Mod_piece_39 : decode prog_9_method_16_code 39 = .ok (.iload_n 2, 1) := by decide +kernel
theorem d_Mod_piece_40 : decode prog_9_method_16_code 40 = .ok (.iload 4, 2) := by decide +kernel
theorem d_Mod_piece_42 : decode prog_9_method_16_code 42 = .ok (.if_icmp .eq 13, 3) := by decide +kernel
theorem d_Mod_piece_45 : decode prog_9_method_16_code 45 = .ok (.iload 5, 2) := by decide +kernel
theorem d_Mod_piece_47 : decode prog_9_method_16_code 47 = .ok (.iconst 1, 1) := by decide +kernel
theorem d_Mod_piece_48 : decode prog_9_method_16_code 48 = .ok (.iconst 3, 1) := by decide +kernel
theorem d_Mod_piece_49 : decode prog_9_method_16_code 49 = .ok (.invokestatic 72, 3) := by decide +kernel
theorem d_Mod_piece_52 : decode prog_9_method_16_code 52 = .ok (.ifCond .ne 9, 3) := by decide +kernel
theorem d_Mod_piece_55 : decode prog_9_method_16_code 55 = .ok (.aload_n 0, 1) := by decide +kernel
theorem d_Mod_piece_56 : decode prog_9_method_16_code 56 = .ok (.iconst 1, 1) := by decide +kernel
theorem d_Mod_piece_57 : decode prog_9_method_16_code 57 = .ok (.invokevirtual 121, 3) := by decide +kernel
theorem d_Mod_piece_60 : decode prog_9_method_16_code 60 = .ok (.ireturn, 1) := by decide +kernel
theorem d_Mod_piece_61 : decode prog_9_method_16_code 61 = .ok (.aload_n 0, 1) := by decide +kernel
theorem d_Mod_piece_62 : decode prog_9_method_16_code 62 = .ok (.iload_n 1, 1) := by decide +kernel
theorem d_Mod_piece_63 : decode prog_9_method_16_code 63 = .ok (.iload_n 2, 1) := by decide +kernel
theorem d_Mod_piece_64 : decode prog_9_method_16_code 64 = .ok (.iload_n 3, 1) := by decide +kernel
theorem d_Mod_piece_65 : decode prog_9_method_16_code 65 = .ok (.iload 4, 2) := by decide +kernel
theorem d_Mod_piece_67 : decode prog_9_method_16_code 67 = .ok (.invokevirtual 125, 3) := by decide +kernel
theorem d_Mod_piece_70 : decode prog_9_method_16_code 70 = .ok (.istore 6, 2) := by decide +kernel
theorem d_Mod_piece_72 : decode prog_9_method_16_code 72 = .ok (.iload 6, 2) := by decide +kernel
theorem d_Mod_piece_74 : decode prog_9_method_16_code 74 = .ok (.ifCond .ge 61, 3) := by decide +kernel
theorem d_Mod_piece_77 : decode prog_9_method_16_code 77 = .ok (.aload_n 0, 1) := by decide +kernel
theorem d_Mod_piece_78 : decode prog_9_method_16_code 78 = .ok (.iload_n 1, 1) := by decide +kernel
theorem d_Mod_piece_79 : decode prog_9_method_16_code 79 = .ok (.iload_n 2, 1) := by decide +kernel
theorem d_Mod_piece_80 : decode prog_9_method_16_code 80 = .ok (.iload_n 3, 1) := by decide +kernel
theorem d_Mod_piece_81 : decode prog_9_method_16_code 81 = .ok (.iload 4, 2) := by decide +kernel
theorem d_Mod_piece_83 : decode prog_9_method_16_code 83 = .ok (.invokevirtual 129, 3) := by decide +kernel
theorem d_Mod_piece_86 : decode prog_9_method_16_code 86 = .ok (.ifCond .ne 9, 3) := by decide +kernel
theorem d_Mod_piece_89 : decode prog_9_method_16_code 89 = .ok (.aload_n 0, 1) := by decide +kernel
theorem d_Mod_piece_90 : decode prog_9_method_16_code 90 = .ok (.iconst 2, 1) := by decide +kernel
theorem d_Mod_piece_91 : decode prog_9_method_16_code 91 = .ok (.invokevirtual 121, 3) := by decide +kernel
theorem d_Mod_piece_94 : decode prog_9_method_16_code 94 = .ok (.ireturn, 1) := by decide +kernel
theorem d_Mod_piece_95 : decode prog_9_method_16_code 95 = .ok (.aload_n 0, 1) := by decide +kernel
theorem d_Mod_piece_96 : decode prog_9_method_16_code 96 = .ok (.getfield 110, 3) := by decide +kernel
theorem d_Mod_piece_99 : decode prog_9_method_16_code 99 = .ok (.sipush 2048, 3) := by decide +kernel
theorem d_Mod_piece_102 : decode prog_9_method_16_code 102 = .ok (.if_icmp .ne 9, 3) := by decide +kernel
theorem d_Mod_piece_105 : decode prog_9_method_16_code 105 = .ok (.aload_n 0, 1) := by decide +kernel
theorem d_Mod_piece_106 : decode prog_9_method_16_code 106 = .ok (.iconst 3, 1) := by decide +kernel
theorem d_Mod_piece_107 : decode prog_9_method_16_code 107 = .ok (.invokevirtual 121, 3) := by decide +kernel
theorem d_Mod_piece_110 : decode prog_9_method_16_code 110 = .ok (.ireturn, 1) := by decide +kernel
theorem d_Mod_piece_111 : decode prog_9_method_16_code 111 = .ok (.aload_n 0, 1) := by decide +kernel
theorem d_Mod_piece_112 : decode prog_9_method_16_code 112 = .ok (.getfield 110, 3) := by decide +kernel
theorem d_Mod_piece_115 : decode prog_9_method_16_code 115 = .ok (.istore 6, 2) := by decide +kernel
theorem d_Mod_piece_117 : decode prog_9_method_16_code 117 = .ok (.aload_n 0, 1) := by decide +kernel
theorem d_Mod_piece_118 : decode prog_9_method_16_code 118 = .ok (.getfield 22, 3) := by decide +kernel
theorem d_Mod_piece_121 : decode prog_9_method_16_code 121 = .ok (.iload 6, 2) := by decide +kernel
theorem d_Mod_piece_123 : decode prog_9_method_16_code 123 = .ok (.iconst 0, 1) := by decide +kernel
theorem d_Mod_piece_124 : decode prog_9_method_16_code 124 = .ok (.iastore, 1) := by decide +kernel
theorem d_Mod_piece_125 : decode prog_9_method_16_code 125 = .ok (.aload_n 0, 1) := by decide +kernel
theorem d_Mod_piece_126 : decode prog_9_method_16_code 126 = .ok (.dup, 1) := by decide +kernel
theorem d_Mod_piece_127 : decode prog_9_method_16_code 127 = .ok (.getfield 110, 3) := by decide +kernel
theorem d_Mod_piece_130 : decode prog_9_method_16_code 130 = .ok (.iconst 1, 1) := by decide +kernel
theorem d_Mod_piece_131 : decode prog_9_method_16_code 131 = .ok (.iadd, 1) := by decide +kernel
theorem d_Mod_piece_132 : decode prog_9_method_16_code 132 = .ok (.putfield 110, 3) := by decide +kernel
theorem d_Mod_piece_135 : decode prog_9_method_16_code 135 = .ok (.aload_n 0, 1) := by decide +kernel
theorem d_Mod_piece_136 : decode prog_9_method_16_code 136 = .ok (.getfield 22, 3) := by decide +kernel
theorem d_Mod_piece_139 : decode prog_9_method_16_code 139 = .ok (.iload 6, 2) := by decide +kernel
theorem d_Mod_piece_141 : decode prog_9_method_16_code 141 = .ok (.aload_n 0, 1) := by decide +kernel
theorem d_Mod_piece_142 : decode prog_9_method_16_code 142 = .ok (.getfield 22, 3) := by decide +kernel
theorem d_Mod_piece_145 : decode prog_9_method_16_code 145 = .ok (.iload 6, 2) := by decide +kernel
theorem d_Mod_piece_147 : decode prog_9_method_16_code 147 = .ok (.iaload, 1) := by decide +kernel
theorem d_Mod_piece_148 : decode prog_9_method_16_code 148 = .ok (.iload 5, 2) := by decide +kernel
theorem d_Mod_piece_150 : decode prog_9_method_16_code 150 = .ok (.ixor, 1) := by decide +kernel
theorem d_Mod_piece_151 : decode prog_9_method_16_code 151 = .ok (.iastore, 1) := by decide +kernel
theorem d_Mod_piece_152 : decode prog_9_method_16_code 152 = .ok (.aload_n 0, 1) := by decide +kernel
theorem d_Mod_piece_153 : decode prog_9_method_16_code 153 = .ok (.invokevirtual 133, 3) := by decide +kernel
theorem d_Mod_piece_156 : decode prog_9_method_16_code 156 = .ok (.aload_n 0, 1) := by decide +kernel
theorem d_Mod_piece_157 : decode prog_9_method_16_code 157 = .ok (.getfield 110, 3) := by decide +kernel
theorem d_Mod_piece_160 : decode prog_9_method_16_code 160 = .ok (.ireturn, 1) := by decide +kernel
theorem d_Mod_clear_0 : decode prog_9_method_17_code 0 = .ok (.aload_n 0, 1) := by decide +kernel
theorem d_Mod_clear_1 : decode prog_9_method_17_code 1 = .ok (.iconst 0, 1) := by decide +kernel
theorem d_Mod_clear_2 : decode prog_9_method_17_code 2 = .ok (.putfield 66, 3) := by decide +kernel
theorem d_Mod_clear_5 : decode prog_9_method_17_code 5 = .ok (.aload_n 0, 1) := by decide +kernel
theorem d_Mod_clear_6 : decode prog_9_method_17_code 6 = .ok (.getfield 110, 3) := by decide +kernel
theorem d_Mod_clear_9 : decode prog_9_method_17_code 9 = .ok (.istore_n 1, 1) := by decide +kernel
theorem d_Mod_clear_10 : decode prog_9_method_17_code 10 = .ok (.aload_n 0, 1) := by decide +kernel
theorem d_Mod_clear_11 : decode prog_9_method_17_code 11 = .ok (.iconst 0, 1) := by decide +kernel
theorem d_Mod_clear_12 : decode prog_9_method_17_code 12 = .ok (.putfield 110, 3) := by decide +kernel
theorem d_Mod_clear_15 : decode prog_9_method_17_code 15 = .ok (.aload_n 0, 1) := by decide +kernel
theorem d_Mod_clear_16 : decode prog_9_method_17_code 16 = .ok (.invokevirtual 133, 3) := by decide +kernel
theorem d_Mod_clear_19 : decode prog_9_method_17_code 19 = .ok (.iload_n 1, 1) := by decide +kernel
theorem d_Mod_clear_20 : decode prog_9_method_17_code 20 = .ok (.ireturn, 1) := by decide +kernel
theorem d_Mod_right_0 : decode prog_9_method_18_code 0 = .ok (.aload_n 0, 1) := by decide +kernel
theorem d_Mod_right_1 : decode prog_9_method_18_code 1 = .ok (.getfield 7, 3) := by decide +kernel
theorem d_Mod_right_4 : decode prog_9_method_18_code 4 = .ok (.iload_n 1, 1) := by decide +kernel
theorem d_Mod_right_5 : decode prog_9_method_18_code 5 = .ok (.iaload, 1) := by decide +kernel
theorem d_Mod_right_6 : decode prog_9_method_18_code 6 = .ok (.i2l, 1) := by decide +kernel
theorem d_Mod_right_7 : decode prog_9_method_18_code 7 = .ok (.aload_n 0, 1) := by decide +kernel
theorem d_Mod_right_8 : decode prog_9_method_18_code 8 = .ok (.getfield 16, 3) := by decide +kernel
theorem d_Mod_right_11 : decode prog_9_method_18_code 11 = .ok (.iload_n 1, 1) := by decide +kernel
theorem d_Mod_right_12 : decode prog_9_method_18_code 12 = .ok (.iaload, 1) := by decide +kernel
theorem d_Mod_right_13 : decode prog_9_method_18_code 13 = .ok (.i2l, 1) := by decide +kernel
theorem d_Mod_right_14 : decode prog_9_method_18_code 14 = .ok (.ladd, 1) := by decide +kernel
theorem d_Mod_right_15 : decode prog_9_method_18_code 15 = .ok (.lstore_n 2, 1) := by decide +kernel
theorem d_Mod_right_16 : decode prog_9_method_18_code 16 = .ok (.aload_n 0, 1) := by decide +kernel
theorem d_Mod_right_17 : decode prog_9_method_18_code 17 = .ok (.getfield 13, 3) := by decide +kernel
theorem d_Mod_right_20 : decode prog_9_method_18_code 20 = .ok (.iload_n 1, 1) := by decide +kernel
theorem d_Mod_right_21 : decode prog_9_method_18_code 21 = .ok (.iaload, 1) := by decide +kernel
theorem d_Mod_right_22 : decode prog_9_method_18_code 22 = .ok (.i2l, 1) := by decide +kernel
theorem d_Mod_right_23 : decode prog_9_method_18_code 23 = .ok (.aload_n 0, 1) := by decide +kernel
theorem d_Mod_right_24 : decode prog_9_method_18_code 24 = .ok (.getfield 19, 3) := by decide +kernel
theorem d_Mod_right_27 : decode prog_9_method_18_code 27 = .ok (.iload_n 1, 1) := by decide +kernel
theorem d_Mod_right_28 : decode prog_9_method_18_code 28 = .ok (.iaload, 1) := by decide +kernel
theorem d_Mod_right_29 : decode prog_9_method_18_code 29 = .ok (.i2l, 1) := by decide +kernel
theorem d_Mod_right_30 : decode prog_9_method_18_code 30 = .ok (.ladd, 1) := by decide +kernel
theorem d_Mod_right_31 : decode prog_9_method_18_code 31 = .ok (.lstore 4, 2) := by decide +kernel
theorem d_Mod_right_33 : decode prog_9_method_18_code 33 = .ok (.iconst 0, 1) := by decide +kernel
theorem d_Mod_right_34 : decode prog_9_method_18_code 34 = .ok (.istore 6, 2) := by decide +kernel
theorem d_Mod_right_36 : decode prog_9_method_18_code 36 = .ok (.iconst 0, 1) := by decide +kernel
theorem d_Mod_right_37 : decode prog_9_method_18_code 37 = .ok (.istore 7, 2) := by decide +kernel
theorem d_Mod_right_39 : decode prog_9_method_18_code 39 = .ok (.iload 7, 2) := by decide +kernel
theorem d_Mod_right_41 : decode prog_9_method_18_code 41 = .ok (.aload_n 0, 1) := by decide +kernel
theorem d_Mod_right_42 : decode prog_9_method_18_code 42 = .ok (.getfield 110, 3) := by decide +kernel
theorem d_Mod_right_45 : decode prog_9_method_18_code 45 = .ok (.if_icmp .ge 169, 3) := by decide +kernel
theorem d_Mod_right_48 : decode prog_9_method_18_code 48 = .ok (.ldc2_w 136, 3) := by decide +kernel
theorem d_Mod_right_51 : decode prog_9_method_18_code 51 = .ok (.aload_n 0, 1) := by decide +kernel
theorem d_Mod_right_52 : decode prog_9_method_18_code 52 = .ok (.getfield 13, 3) := by decide +kernel
theorem d_Mod_right_55 : decode prog_9_method_18_code 55 = .ok (.iload 7, 2) := by decide +kernel
theorem d_Mod_right_57 : decode prog_9_method_18_code 57 = .ok (.iaload, 1) := by decide +kernel
theorem d_Mod_right_58 : decode prog_9_method_18_code 58 = .ok (.i2l, 1) := by decide +kernel
theorem d_Mod_right_59 : decode prog_9_method_18_code 59 = .ok (.lmul, 1) := by decide +kernel
theorem d_Mod_right_60 : decode prog_9_method_18_code 60 = .ok (.lload 4, 2) := by decide +kernel
theorem d_Mod_right_62 : decode prog_9_method_18_code 62 = .ok (.lcmp, 1) := by decide +kernel
theorem d_Mod_right_63 : decode prog_9_method_18_code 63 = .ok (.ifCond .le 7, 3) := by decide +kernel
theorem d_Mod_right_66 : decode prog_9_method_18_code 66 = .ok (.iconst 1, 1) := by decide +kernel
theorem d_Mod_right_67 : decode prog_9_method_18_code 67 = .ok (.goto 4, 3) := by decide +kernel
theorem d_Mod_right_70 : decode prog_9_method_18_code 70 = .ok (.iconst 0, 1) := by decide +kernel
theorem d_Mod_right_71 : decode prog_9_method_18_code 71 = .ok (.istore 8, 2) := by decide +kernel
theorem d_Mod_right_73 : decode prog_9_method_18_code 73 = .ok (.ldc2_w 136, 3) := by decide +kernel
theorem d_Mod_right_76 : decode prog_9_method_18_code 76 = .ok (.aload_n 0, 1) := by decide +kernel
theorem d_Mod_right_77 : decode prog_9_method_18_code 77 = .ok (.getfield 19, 3) := by decide +kernel
theorem d_Mod_right_80 : decode prog_9_method_18_code 80 = .ok (.iload 7, 2) := by decide +kernel
theorem d_Mod_right_82 : decode prog_9_method_18_code 82 = .ok (.iaload, 1) := by decide +kernel
theorem d_Mod_right_83 : decode prog_9_method_18_code 83 = .ok (.i2l, 1) := by decide +kernel
theorem d_Mod_right_84 : decode prog_9_method_18_code 84 = .ok (.lmul, 1) := by decide +kernel
theorem d_Mod_right_85 : decode prog_9_method_18_code 85 = .ok (.lload 4, 2) := by decide +kernel
theorem d_Mod_right_87 : decode prog_9_method_18_code 87 = .ok (.lcmp, 1) := by decide +kernel
theorem d_Mod_right_88 : decode prog_9_method_18_code 88 = .ok (.ifCond .le 7, 3) := by decide +kernel
theorem d_Mod_right_91 : decode prog_9_method_18_code 91 = .ok (.iconst 1, 1) := by decide +kernel
theorem d_Mod_right_92 : decode prog_9_method_18_code 92 = .ok (.goto 4, 3) := by decide +kernel
theorem d_Mod_right_95 : decode prog_9_method_18_code 95 = .ok (.iconst 0, 1) := by decide +kernel
theorem d_Mod_right_96 : decode prog_9_method_18_code 96 = .ok (.istore 9, 2) := by decide +kernel
theorem d_Mod_right_98 : decode prog_9_method_18_code 98 = .ok (.iload 7, 2) := by decide +kernel
theorem d_Mod_right_100 : decode prog_9_method_18_code 100 = .ok (.iload_n 1, 1) := by decide +kernel
theorem d_Mod_right_101 : decode prog_9_method_18_code 101 = .ok (.if_icmp .eq 107, 3) := by decide +kernel
theorem d_Mod_right_104 : decode prog_9_method_18_code 104 = .ok (.iload 8, 2) := by decide +kernel
theorem d_Mod_right_106 : decode prog_9_method_18_code 106 = .ok (.iload 9, 2) := by decide +kernel
theorem d_Mod_right_108 : decode prog_9_method_18_code 108 = .ok (.if_icmp .eq 100, 3) := by decide +kernel
theorem d_Mod_right_111 : decode prog_9_method_18_code 111 = .ok (.aload_n 0, 1) := by decide +kernel
theorem d_Mod_right_112 : decode prog_9_method_18_code 112 = .ok (.getfield 16, 3) := by decide +kernel
theorem d_Mod_right_115 : decode prog_9_method_18_code 115 = .ok (.iload 7, 2) := by decide +kernel
theorem d_Mod_right_117 : decode prog_9_method_18_code 117 = .ok (.iaload, 1) := by decide +kernel
theorem d_Mod_right_118 : decode prog_9_method_18_code 118 = .ok (.i2l, 1) := by decide +kernel
theorem d_Mod_right_119 : decode prog_9_method_18_code 119 = .ok (.aload_n 0, 1) := by decide +kernel
theorem d_Mod_right_120 : decode prog_9_method_18_code 120 = .ok (.getfield 7, 3) := by decide +kernel
theorem d_Mod_right_123 : decode prog_9_method_18_code 123 = .ok (.iload 7, 2) := by decide +kernel
theorem d_Mod_right_125 : decode prog_9_method_18_code 125 = .ok (.iaload, 1) := by decide +kernel
theorem d_Mod_right_126 : decode prog_9_method_18_code 126 = .ok (.i2l, 1) := by decide +kernel
theorem d_Mod_right_127 : decode prog_9_method_18_code 127 = .ok (.lsub, 1) := by decide +kernel
theorem d_Mod_right_128 : decode prog_9_method_18_code 128 = .ok (.aload_n 0, 1) := by decide +kernel
theorem d_Mod_right_129 : decode prog_9_method_18_code 129 = .ok (.getfield 19, 3) := by decide +kernel
theorem d_Mod_right_132 : decode prog_9_method_18_code 132 = .ok (.iload 7, 2) := by decide +kernel
theorem d_Mod_right_134 : decode prog_9_method_18_code 134 = .ok (.iaload, 1) := by decide +kernel
theorem d_Mod_right_135 : decode prog_9_method_18_code 135 = .ok (.i2l, 1) := by decide +kernel
theorem d_Mod_right_136 : decode prog_9_method_18_code 136 = .ok (.aload_n 0, 1) := by decide +kernel
theorem d_Mod_right_137 : decode prog_9_method_18_code 137 = .ok (.getfield 13, 3) := by decide +kernel
theorem d_Mod_right_140 : decode prog_9_method_18_code 140 = .ok (.iload 7, 2) := by decide +kernel
theorem d_Mod_right_142 : decode prog_9_method_18_code 142 = .ok (.iaload, 1) := by decide +kernel
theorem d_Mod_right_143 : decode prog_9_method_18_code 143 = .ok (.i2l, 1) := by decide +kernel
theorem d_Mod_right_144 : decode prog_9_method_18_code 144 = .ok (.lsub, 1) := by decide +kernel
theorem d_Mod_right_145 : decode prog_9_method_18_code 145 = .ok (.lload_n 2, 1) := by decide +kernel
theorem d_Mod_right_146 : decode prog_9_method_18_code 146 = .ok (.ldc2_w 136, 3) := by decide +kernel
theorem d_Mod_right_149 : decode prog_9_method_18_code 149 = .ok (.aload_n 0, 1) := by decide +kernel
theorem d_Mod_right_150 : decode prog_9_method_18_code 150 = .ok (.getfield 7, 3) := by decide +kernel
theorem d_Mod_right_153 : decode prog_9_method_18_code 153 = .ok (.iload 7, 2) := by decide +kernel
theorem d_Mod_right_155 : decode prog_9_method_18_code 155 = .ok (.iaload, 1) := by decide +kernel
theorem d_Mod_right_156 : decode prog_9_method_18_code 156 = .ok (.i2l, 1) := by decide +kernel
theorem d_Mod_right_157 : decode prog_9_method_18_code 157 = .ok (.lmul, 1) := by decide +kernel
theorem d_Mod_right_158 : decode prog_9_method_18_code 158 = .ok (.lsub, 1) := by decide +kernel
theorem d_Mod_right_159 : decode prog_9_method_18_code 159 = .ok (.lload 4, 2) := by decide +kernel
theorem d_Mod_right_161 : decode prog_9_method_18_code 161 = .ok (.ldc2_w 136, 3) := by decide +kernel
theorem d_Mod_right_164 : decode prog_9_method_18_code 164 = .ok (.aload_n 0, 1) := by decide +kernel
theorem d_Mod_right_165 : decode prog_9_method_18_code 165 = .ok (.getfield 13, 3) := by decide +kernel
theorem d_Mod_right_168 : decode prog_9_method_18_code 168 = .ok (.iload 7, 2) := by decide +kernel
theorem d_Mod_right_170 : decode prog_9_method_18_code 170 = .ok (.iaload, 1) := by decide +kernel
theorem d_Mod_right_171 : decode prog_9_method_18_code 171 = .ok (.i2l, 1) := by decide +kernel
theorem d_Mod_right_172 : decode prog_9_method_18_code 172 = .ok (.lmul, 1) := by decide +kernel
theorem d_Mod_right_173 : decode prog_9_method_18_code 173 = .ok (.lsub, 1) := by decide +kernel
theorem d_Mod_right_174 : decode prog_9_method_18_code 174 = .ok (.invokestatic 89, 3) := by decide +kernel
theorem d_Mod_right_177 : decode prog_9_method_18_code 177 = .ok (.lstore 10, 2) := by decide +kernel
theorem d_Mod_right_179 : decode prog_9_method_18_code 179 = .ok (.lload 10, 2) := by decide +kernel
theorem d_Mod_right_181 : decode prog_9_method_18_code 181 = .ok (.lconst 0, 1) := by decide +kernel
theorem d_Mod_right_182 : decode prog_9_method_18_code 182 = .ok (.lcmp, 1) := by decide +kernel
theorem d_Mod_right_183 : decode prog_9_method_18_code 183 = .ok (.ifCond .le 7, 3) := by decide +kernel
theorem d_Mod_right_186 : decode prog_9_method_18_code 186 = .ok (.iconst 1, 1) := by decide +kernel
theorem d_Mod_right_187 : decode prog_9_method_18_code 187 = .ok (.goto 4, 3) := by decide +kernel
theorem d_Mod_right_190 : decode prog_9_method_18_code 190 = .ok (.iconst 0, 1) := by decide +kernel
theorem d_Mod_right_191 : decode prog_9_method_18_code 191 = .ok (.iload 9, 2) := by decide +kernel
theorem d_Mod_right_193 : decode prog_9_method_18_code 193 = .ok (.if_icmp .ne 15, 3) := by decide +kernel
theorem d_Mod_right_196 : decode prog_9_method_18_code 196 = .ok (.iload 6, 2) := by decide +kernel
theorem d_Mod_right_198 : decode prog_9_method_18_code 198 = .ok (.aload_n 0, 1) := by decide +kernel
theorem d_Mod_right_199 : decode prog_9_method_18_code 199 = .ok (.getfield 22, 3) := by decide +kernel
theorem d_Mod_right_202 : decode prog_9_method_18_code 202 = .ok (.iload 7, 2) := by decide +kernel
theorem d_Mod_right_204 : decode prog_9_method_18_code 204 = .ok (.iaload, 1) := by decide +kernel
theorem d_Mod_right_205 : decode prog_9_method_18_code 205 = .ok (.ixor, 1) := by decide +kernel
theorem d_Mod_right_206 : decode prog_9_method_18_code 206 = .ok (.istore 6, 2) := by decide +kernel
theorem d_Mod_right_208 : decode prog_9_method_18_code 208 = .ok (.iinc 7 1, 3) := by decide +kernel
theorem d_Mod_right_211 : decode prog_9_method_18_code 211 = .ok (.goto (-172), 3) := by decide +kernel
theorem d_Mod_right_214 : decode prog_9_method_18_code 214 = .ok (.iload 6, 2) := by decide +kernel
theorem d_Mod_right_216 : decode prog_9_method_18_code 216 = .ok (.ireturn, 1) := by decide +kernel
theorem d_Mod_isResult_0 : decode prog_9_method_19_code 0 = .ok (.iload_n 1, 1) := by decide +kernel
theorem d_Mod_isResult_1 : decode prog_9_method_19_code 1 = .ok (.iconst 1, 1) := by decide +kernel
theorem d_Mod_isResult_2 : decode prog_9_method_19_code 2 = .ok (.iand, 1) := by decide +kernel
theorem d_Mod_isResult_3 : decode prog_9_method_19_code 3 = .ok (.iconst 1, 1) := by decide +kernel
theorem d_Mod_isResult_4 : decode prog_9_method_19_code 4 = .ok (.if_icmp .ne 7, 3) := by decide +kernel
theorem d_Mod_isResult_7 : decode prog_9_method_19_code 7 = .ok (.iconst 1, 1) := by decide +kernel
theorem d_Mod_isResult_8 : decode prog_9_method_19_code 8 = .ok (.goto 4, 3) := by decide +kernel
theorem d_Mod_isResult_11 : decode prog_9_method_19_code 11 = .ok (.iconst 0, 1) := by decide +kernel
theorem d_Mod_isResult_12 : decode prog_9_method_19_code 12 = .ok (.istore_n 2, 1) := by decide +kernel
theorem d_Mod_isResult_13 : decode prog_9_method_19_code 13 = .ok (.iload_n 1, 1) := by decide +kernel
theorem d_Mod_isResult_14 : decode prog_9_method_19_code 14 = .ok (.iconst 2, 1) := by decide +kernel
theorem d_Mod_isResult_15 : decode prog_9_method_19_code 15 = .ok (.iand, 1) := by decide +kernel
theorem d_Mod_isResult_16 : decode prog_9_method_19_code 16 = .ok (.iconst 2, 1) := by decide +kernel
theorem d_Mod_isResult_17 : decode prog_9_method_19_code 17 = .ok (.if_icmp .ne 7, 3) := by decide +kernel
theorem d_Mod_isResult_20 : decode prog_9_method_19_code 20 = .ok (.iconst 1, 1) := by decide +kernel
theorem d_Mod_isResult_21 : decode prog_9_method_19_code 21 = .ok (.goto 4, 3) := by decide +kernel
theorem d_Mod_isResult_24 : decode prog_9_method_19_code 24 = .ok (.iconst 0, 1) := by decide +kernel
theorem d_Mod_isResult_25 : decode prog_9_method_19_code 25 = .ok (.istore_n 3, 1) := by decide +kernel
theorem d_Mod_isResult_26 : decode prog_9_method_19_code 26 = .ok (.iload_n 0, 1) := by decide +kernel
theorem d_Mod_isResult_27 : decode prog_9_method_19_code 27 = .ok (.ifCond .ne 19, 3) := by decide +kernel
theorem d_Mod_isResult_30 : decode prog_9_method_19_code 30 = .ok (.iload_n 2, 1) := by decide +kernel
theorem d_Mod_isResult_31 : decode prog_9_method_19_code 31 = .ok (.ifCond .eq 11, 3) := by decide +kernel
theorem d_Mod_isResult_34 : decode prog_9_method_19_code 34 = .ok (.iload_n 3, 1) := by decide +kernel
theorem d_Mod_isResult_35 : decode prog_9_method_19_code 35 = .ok (.ifCond .eq 7, 3) := by decide +kernel
theorem d_Mod_isResult_38 : decode prog_9_method_19_code 38 = .ok (.iconst 1, 1) := by decide +kernel
theorem d_Mod_isResult_39 : decode prog_9_method_19_code 39 = .ok (.goto 80, 3) := by decide +kernel
theorem d_Mod_isResult_42 : decode prog_9_method_19_code 42 = .ok (.iconst 0, 1) := by decide +kernel
theorem d_Mod_isResult_43 : decode prog_9_method_19_code 43 = .ok (.goto 76, 3) := by decide +kernel
theorem d_Mod_isResult_46 : decode prog_9_method_19_code 46 = .ok (.iload_n 0, 1) := by decide +kernel
