theorem d_m1176_29 : decode prog_14_method_50_code 29 = .ok (.iload_n 1, 1) := by decide +kernel
theorem d_m1176_30 : decode prog_14_method_50_code 30 = .ok (.ishl, 1) := by decide +kernel
theorem d_m1176_31 : decode prog_14_method_50_code 31 = .ok (.isub, 1) := by decide +kernel
theorem d_m1176_32 : decode prog_14_method_50_code 32 = .ok (.iconst 1, 1) := by decide +kernel
theorem d_m1176_33 : decode prog_14_method_50_code 33 = .ok (.iadd, 1) := by decide +kernel
theorem d_m1176_34 : decode prog_14_method_50_code 34 = .ok (.ireturn, 1) := by decide +kernel
theorem d_m1180_0 : decode prog_14_method_48_code 0 = .ok (.iconst 0, 1) := by decide +kernel
theorem d_m1180_1 : decode prog_14_method_48_code 1 = .ok (.istore_n 2, 1) := by decide +kernel
theorem d_m1180_2 : decode prog_14_method_48_code 2 = .ok (.iconst 0, 1) := by decide +kernel
theorem d_m1180_3 : decode prog_14_method_48_code 3 = .ok (.istore_n 3, 1) := by decide +kernel
theorem d_m1180_4 : decode prog_14_method_48_code 4 = .ok (.iload_n 3, 1) := by decide +kernel
theorem d_m1180_5 : decode prog_14_method_48_code 5 = .ok (.iload_n 1, 1) := by decide +kernel
theorem d_m1180_6 : decode prog_14_method_48_code 6 = .ok (.if_icmp .ge 18, 3) := by decide +kernel
theorem d_m1180_9 : decode prog_14_method_48_code 9 = .ok (.iconst 2, 1) := by decide +kernel
theorem d_m1180_10 : decode prog_14_method_48_code 10 = .ok (.iload_n 2, 1) := by decide +kernel
theorem d_m1180_11 : decode prog_14_method_48_code 11 = .ok (.imul, 1) := by decide +kernel
theorem d_m1180_12 : decode prog_14_method_48_code 12 = .ok (.aload_n 0, 1) := by decide +kernel
theorem d_m1180_13 : decode prog_14_method_48_code 13 = .ok (.invokevirtual 262, 3) := by decide +kernel
theorem d_m1180_16 : decode prog_14_method_48_code 16 = .ok (.iadd, 1) := by decide +kernel
theorem d_m1180_17 : decode prog_14_method_48_code 17 = .ok (.istore_n 2, 1) := by decide +kernel
theorem d_m1180_18 : decode prog_14_method_48_code 18 = .ok (.iinc 3 1, 3) := by decide +kernel
theorem d_m1180_21 : decode prog_14_method_48_code 21 = .ok (.goto (-17), 3) := by decide +kernel
theorem d_m1180_24 : decode prog_14_method_48_code 24 = .ok (.iload_n 2, 1) := by decide +kernel
theorem d_m1180_25 : decode prog_14_method_48_code 25 = .ok (.ireturn, 1) := by decide +kernel
theorem d_m1184_0 : decode prog_14_method_51_code 0 = .ok (.aload_n 0, 1) := by decide +kernel
theorem d_m1184_1 : decode prog_14_method_51_code 1 = .ok (.getfield 244, 3) := by decide +kernel
theorem d_m1184_4 : decode prog_14_method_51_code 4 = .ok (.ifCond .ne 19, 3) := by decide +kernel
theorem d_m1184_7 : decode prog_14_method_51_code 7 = .ok (.iload_n 3, 1) := by decide +kernel
theorem d_m1184_8 : decode prog_14_method_51_code 8 = .ok (.iload 4, 2) := by decide +kernel
theorem d_m1184_10 : decode prog_14_method_51_code 10 = .ok (.invokestatic 148, 3) := by decide +kernel
theorem d_m1184_13 : decode prog_14_method_51_code 13 = .ok (.ifCond .ne 10, 3) := by decide +kernel
theorem d_m1184_16 : decode prog_14_method_51_code 16 = .ok (.aload_n 0, 1) := by decide +kernel
theorem d_m1184_17 : decode prog_14_method_51_code 17 = .ok (.iconst 4, 1) := by decide +kernel
theorem d_m1184_18 : decode prog_14_method_51_code 18 = .ok (.invokevirtual 256, 3) := by decide +kernel
theorem d_m1184_21 : decode prog_14_method_51_code 21 = .ok (.istore 5, 2) := by decide +kernel
theorem d_m1184_23 : decode prog_14_method_51_code 23 = .ok (.aload_n 0, 1) := by decide +kernel
theorem d_m1184_24 : decode prog_14_method_51_code 24 = .ok (.getfield 244, 3) := by decide +kernel
theorem d_m1184_27 : decode prog_14_method_51_code 27 = .ok (.ifCond .ne 24, 3) := by decide +kernel
theorem d_m1184_30 : decode prog_14_method_51_code 30 = .ok (.aload_n 0, 1) := by decide +kernel
theorem d_m1184_31 : decode prog_14_method_51_code 31 = .ok (.getfield 31, 3) := by decide +kernel
theorem d_m1184_34 : decode prog_14_method_51_code 34 = .ok (.bipush 64, 2) := by decide +kernel
theorem d_m1184_36 : decode prog_14_method_51_code 36 = .ok (.aload_n 0, 1) := by decide +kernel
theorem d_m1184_37 : decode prog_14_method_51_code 37 = .ok (.getfield 28, 3) := by decide +kernel
theorem d_m1184_40 : decode prog_14_method_51_code 40 = .ok (.iload_n 1, 1) := by decide +kernel
theorem d_m1184_41 : decode prog_14_method_51_code 41 = .ok (.iaload, 1) := by decide +kernel
theorem d_m1184_42 : decode prog_14_method_51_code 42 = .ok (.iload_n 2, 1) := by decide +kernel
theorem d_m1184_43 : decode prog_14_method_51_code 43 = .ok (.iadd, 1) := by decide +kernel
theorem d_m1184_44 : decode prog_14_method_51_code 44 = .ok (.imul, 1) := by decide +kernel
theorem d_m1184_45 : decode prog_14_method_51_code 45 = .ok (.iload_n 3, 1) := by decide +kernel
theorem d_m1184_46 : decode prog_14_method_51_code 46 = .ok (.iadd, 1) := by decide +kernel
theorem d_m1184_47 : decode prog_14_method_51_code 47 = .ok (.iload 4, 2) := by decide +kernel
theorem d_m1184_49 : decode prog_14_method_51_code 49 = .ok (.i2s, 1) := by decide +kernel
theorem d_m1184_50 : decode prog_14_method_51_code 50 = .ok (.sastore, 1) := by decide +kernel
theorem d_m1184_51 : decode prog_14_method_51_code 51 = .ok (.return_, 1) := by decide +kernel
theorem d_m1188_0 : decode prog_14_method_53_code 0 = .ok (.aload_n 0, 1) := by decide +kernel
theorem d_m1188_1 : decode prog_14_method_53_code 1 = .ok (.getfield 113, 3) := by decide +kernel
theorem d_m1188_4 : decode prog_14_method_53_code 4 = .ok (.ifCond .le 7, 3) := by decide +kernel
theorem d_m1188_7 : decode prog_14_method_53_code 7 = .ok (.iconst 1, 1) := by decide +kernel
theorem d_m1188_8 : decode prog_14_method_53_code 8 = .ok (.goto 4, 3) := by decide +kernel
theorem d_m1188_11 : decode prog_14_method_53_code 11 = .ok (.iconst 0, 1) := by decide +kernel
theorem d_m1188_12 : decode prog_14_method_53_code 12 = .ok (.istore 4, 2) := by decide +kernel
theorem d_m1188_14 : decode prog_14_method_53_code 14 = .ok (.iload_n 3, 1) := by decide +kernel
theorem d_m1188_15 : decode prog_14_method_53_code 15 = .ok (.istore 5, 2) := by decide +kernel
theorem d_m1188_17 : decode prog_14_method_53_code 17 = .ok (.iload 5, 2) := by decide +kernel
theorem d_m1188_19 : decode prog_14_method_53_code 19 = .ok (.aload_n 0, 1) := by decide +kernel
theorem d_m1188_20 : decode prog_14_method_53_code 20 = .ok (.getfield 116, 3) := by decide +kernel
theorem d_m1188_23 : decode prog_14_method_53_code 23 = .ok (.if_icmp .gt 29, 3) := by decide +kernel
theorem d_m1188_26 : decode prog_14_method_53_code 26 = .ok (.aload_n 0, 1) := by decide +kernel
theorem d_m1188_27 : decode prog_14_method_53_code 27 = .ok (.getfield 31, 3) := by decide +kernel
theorem d_m1188_30 : decode prog_14_method_53_code 30 = .ok (.bipush 64, 2) := by decide +kernel
theorem d_m1188_32 : decode prog_14_method_53_code 32 = .ok (.aload_n 0, 1) := by decide +kernel
theorem d_m1188_33 : decode prog_14_method_53_code 33 = .ok (.getfield 28, 3) := by decide +kernel
theorem d_m1188_36 : decode prog_14_method_53_code 36 = .ok (.iload_n 1, 1) := by decide +kernel
theorem d_m1188_37 : decode prog_14_method_53_code 37 = .ok (.iaload, 1) := by decide +kernel
theorem d_m1188_38 : decode prog_14_method_53_code 38 = .ok (.iload_n 2, 1) := by decide +kernel
theorem d_m1188_39 : decode prog_14_method_53_code 39 = .ok (.iadd, 1) := by decide +kernel
theorem d_m1188_40 : decode prog_14_method_53_code 40 = .ok (.imul, 1) := by decide +kernel
theorem d_m1188_41 : decode prog_14_method_53_code 41 = .ok (.iload 5, 2) := by decide +kernel
theorem d_m1188_43 : decode prog_14_method_53_code 43 = .ok (.iadd, 1) := by decide +kernel
theorem d_m1188_44 : decode prog_14_method_53_code 44 = .ok (.iconst 0, 1) := by decide +kernel
theorem d_m1188_45 : decode prog_14_method_53_code 45 = .ok (.sastore, 1) := by decide +kernel
theorem d_m1188_46 : decode prog_14_method_53_code 46 = .ok (.iinc 5 1, 3) := by decide +kernel
theorem d_m1188_49 : decode prog_14_method_53_code 49 = .ok (.goto (-32), 3) := by decide +kernel
theorem d_m1188_52 : decode prog_14_method_53_code 52 = .ok (.iload 4, 2) := by decide +kernel
theorem d_m1188_54 : decode prog_14_method_53_code 54 = .ok (.ifCond .eq 21, 3) := by decide +kernel
theorem d_m1188_57 : decode prog_14_method_53_code 57 = .ok (.aload_n 0, 1) := by decide +kernel
theorem d_m1188_58 : decode prog_14_method_53_code 58 = .ok (.getfield 185, 3) := by decide +kernel
theorem d_m1188_61 : decode prog_14_method_53_code 61 = .ok (.ifCond .le 14, 3) := by decide +kernel
theorem d_m1188_64 : decode prog_14_method_53_code 64 = .ok (.aload_n 0, 1) := by decide +kernel
theorem d_m1188_65 : decode prog_14_method_53_code 65 = .ok (.dup, 1) := by decide +kernel
theorem d_m1188_66 : decode prog_14_method_53_code 66 = .ok (.getfield 185, 3) := by decide +kernel
theorem d_m1188_69 : decode prog_14_method_53_code 69 = .ok (.iconst 1, 1) := by decide +kernel
theorem d_m1188_70 : decode prog_14_method_53_code 70 = .ok (.isub, 1) := by decide +kernel
theorem d_m1188_71 : decode prog_14_method_53_code 71 = .ok (.putfield 185, 3) := by decide +kernel
theorem d_m1188_74 : decode prog_14_method_53_code 74 = .ok (.return_, 1) := by decide +kernel
theorem d_m1188_75 : decode prog_14_method_53_code 75 = .ok (.iload_n 3, 1) := by decide +kernel
theorem d_m1188_76 : decode prog_14_method_53_code 76 = .ok (.istore 5, 2) := by decide +kernel
theorem d_m1188_78 : decode prog_14_method_53_code 78 = .ok (.iload 5, 2) := by decide +kernel
theorem d_m1188_80 : decode prog_14_method_53_code 80 = .ok (.aload_n 0, 1) := by decide +kernel
theorem d_m1188_81 : decode prog_14_method_53_code 81 = .ok (.getfield 116, 3) := by decide +kernel
theorem d_m1188_84 : decode prog_14_method_53_code 84 = .ok (.if_icmp .gt 198, 3) := by decide +kernel
theorem d_m1188_87 : decode prog_14_method_53_code 87 = .ok (.aload_n 0, 1) := by decide +kernel
theorem d_m1188_88 : decode prog_14_method_53_code 88 = .ok (.getfield 244, 3) := by decide +kernel
theorem d_m1188_91 : decode prog_14_method_53_code 91 = .ok (.ifCond .ne 191, 3) := by decide +kernel
theorem d_m1188_94 : decode prog_14_method_53_code 94 = .ok (.aload_n 0, 1) := by decide +kernel
theorem d_m1188_95 : decode prog_14_method_53_code 95 = .ok (.aload_n 0, 1) := by decide +kernel
theorem d_m1188_96 : decode prog_14_method_53_code 96 = .ok (.getfield 56, 3) := by decide +kernel
theorem d_m1188_99 : decode prog_14_method_53_code 99 = .ok (.iload_n 1, 1) := by decide +kernel
theorem d_m1188_100 : decode prog_14_method_53_code 100 = .ok (.iaload, 1) := by decide +kernel
theorem d_m1188_101 : decode prog_14_method_53_code 101 = .ok (.invokevirtual 268, 3) := by decide +kernel
theorem d_m1188_104 : decode prog_14_method_53_code 104 = .ok (.istore 6, 2) := by decide +kernel
theorem d_m1188_106 : decode prog_14_method_53_code 106 = .ok (.iload 6, 2) := by decide +kernel
theorem d_m1188_108 : decode prog_14_method_53_code 108 = .ok (.bipush 16, 2) := by decide +kernel
theorem d_m1188_110 : decode prog_14_method_53_code 110 = .ok (.idiv, 1) := by decide +kernel
theorem d_m1188_111 : decode prog_14_method_53_code 111 = .ok (.istore 7, 2) := by decide +kernel
theorem d_m1188_113 : decode prog_14_method_53_code 113 = .ok (.iload 6, 2) := by decide +kernel
theorem d_m1188_115 : decode prog_14_method_53_code 115 = .ok (.bipush 16, 2) := by decide +kernel
theorem d_m1188_117 : decode prog_14_method_53_code 117 = .ok (.irem, 1) := by decide +kernel
theorem d_m1188_118 : decode prog_14_method_53_code 118 = .ok (.istore 8, 2) := by decide +kernel
theorem d_m1188_120 : decode prog_14_method_53_code 120 = .ok (.aload_n 0, 1) := by decide +kernel
theorem d_m1188_121 : decode prog_14_method_53_code 121 = .ok (.getfield 244, 3) := by decide +kernel
theorem d_m1188_124 : decode prog_14_method_53_code 124 = .ok (.ifCond .le 4, 3) := by decide +kernel
theorem d_m1188_127 : decode prog_14_method_53_code 127 = .ok (.return_, 1) := by decide +kernel
theorem d_m1188_128 : decode prog_14_method_53_code 128 = .ok (.iload 8, 2) := by decide +kernel
theorem d_m1188_130 : decode prog_14_method_53_code 130 = .ok (.ifCond .ne 48, 3) := by decide +kernel
theorem d_m1188_133 : decode prog_14_method_53_code 133 = .ok (.iload 7, 2) := by decide +kernel
theorem d_m1188_135 : decode prog_14_method_53_code 135 = .ok (.bipush 15, 2) := by decide +kernel
theorem d_m1188_137 : decode prog_14_method_53_code 137 = .ok (.if_icmp .ge 41, 3) := by decide +kernel
theorem d_m1188_140 : decode prog_14_method_53_code 140 = .ok (.iload 4, 2) := by decide +kernel
theorem d_m1188_142 : decode prog_14_method_53_code 142 = .ok (.ifCond .eq 23, 3) := by decide +kernel
theorem d_m1188_145 : decode prog_14_method_53_code 145 = .ok (.aload_n 0, 1) := by decide +kernel
theorem d_m1188_146 : decode prog_14_method_53_code 146 = .ok (.iconst 1, 1) := by decide +kernel
theorem d_m1188_147 : decode prog_14_method_53_code 147 = .ok (.iload 7, 2) := by decide +kernel
theorem d_m1188_149 : decode prog_14_method_53_code 149 = .ok (.ishl, 1) := by decide +kernel
theorem d_m1188_150 : decode prog_14_method_53_code 150 = .ok (.aload_n 0, 1) := by decide +kernel
theorem d_m1188_151 : decode prog_14_method_53_code 151 = .ok (.iload 7, 2) := by decide +kernel
theorem d_m1188_153 : decode prog_14_method_53_code 153 = .ok (.invokevirtual 265, 3) := by decide +kernel
theorem d_m1188_156 : decode prog_14_method_53_code 156 = .ok (.iadd, 1) := by decide +kernel
theorem d_m1188_157 : decode prog_14_method_53_code 157 = .ok (.iconst 1, 1) := by decide +kernel
theorem d_m1188_158 : decode prog_14_method_53_code 158 = .ok (.isub, 1) := by decide +kernel
theorem d_m1188_159 : decode prog_14_method_53_code 159 = .ok (.putfield 185, 3) := by decide +kernel
theorem d_m1188_162 : decode prog_14_method_53_code 162 = .ok (.goto 15, 3) := by decide +kernel
theorem d_m1188_165 : decode prog_14_method_53_code 165 = .ok (.iload 7, 2) := by decide +kernel
theorem d_m1188_167 : decode prog_14_method_53_code 167 = .ok (.ifCond .le 10, 3) := by decide +kernel
theorem d_m1188_170 : decode prog_14_method_53_code 170 = .ok (.aload_n 0, 1) := by decide +kernel
theorem d_m1188_171 : decode prog_14_method_53_code 171 = .ok (.iconst 3, 1) := by decide +kernel
theorem d_m1188_172 : decode prog_14_method_53_code 172 = .ok (.invokevirtual 256, 3) := by decide +kernel
theorem d_m1188_175 : decode prog_14_method_53_code 175 = .ok (.istore 9, 2) := by decide +kernel
theorem d_m1188_177 : decode prog_14_method_53_code 177 = .ok (.return_, 1) := by decide +kernel
theorem d_m1188_178 : decode prog_14_method_53_code 178 = .ok (.iload 8, 2) := by decide +kernel
theorem d_m1188_180 : decode prog_14_method_53_code 180 = .ok (.bipush 10, 2) := by decide +kernel
theorem d_m1188_182 : decode prog_14_method_53_code 182 = .ok (.if_icmp .gt 15, 3) := by decide +kernel
theorem d_m1188_185 : decode prog_14_method_53_code 185 = .ok (.iload 5, 2) := by decide +kernel
theorem d_m1188_187 : decode prog_14_method_53_code 187 = .ok (.iload 7, 2) := by decide +kernel
theorem d_m1188_189 : decode prog_14_method_53_code 189 = .ok (.iadd, 1) := by decide +kernel
theorem d_m1188_190 : decode prog_14_method_53_code 190 = .ok (.aload_n 0, 1) := by decide +kernel
theorem d_m1188_191 : decode prog_14_method_53_code 191 = .ok (.getfield 116, 3) := by decide +kernel
theorem d_m1188_194 : decode prog_14_method_53_code 194 = .ok (.if_icmp .le 11, 3) := by decide +kernel
theorem d_m1188_197 : decode prog_14_method_53_code 197 = .ok (.aload_n 0, 1) := by decide +kernel
theorem d_m1188_198 : decode prog_14_method_53_code 198 = .ok (.iconst 3, 1) := by decide +kernel
theorem d_m1188_199 : decode prog_14_method_53_code 199 = .ok (.invokevirtual 256, 3) := by decide +kernel
theorem d_m1188_202 : decode prog_14_method_53_code 202 = .ok (.istore 9, 2) := by decide +kernel
theorem d_m1188_204 : decode prog_14_method_53_code 204 = .ok (.return_, 1) := by decide +kernel
theorem d_m1188_205 : decode prog_14_method_53_code 205 = .ok (.iload 5, 2) := by decide +kernel
theorem d_m1188_207 : decode prog_14_method_53_code 207 = .ok (.iload 7, 2) := by decide +kernel
theorem d_m1188_209 : decode prog_14_method_53_code 209 = .ok (.iadd, 1) := by decide +kernel
theorem d_m1188_210 : decode prog_14_method_53_code 210 = .ok (.istore 5, 2) := by decide +kernel
theorem d_m1188_212 : decode prog_14_method_53_code 212 = .ok (.iload 8, 2) := by decide +kernel
theorem d_m1188_214 : decode prog_14_method_53_code 214 = .ok (.ifCond .le 62, 3) := by decide +kernel
theorem d_m1188_217 : decode prog_14_method_53_code 217 = .ok (.aload_n 0, 1) := by decide +kernel
theorem d_m1188_218 : decode prog_14_method_53_code 218 = .ok (.iload 8, 2) := by decide +kernel
theorem d_m1188_220 : decode prog_14_method_53_code 220 = .ok (.invokevirtual 271, 3) := by decide +kernel
theorem d_m1188_223 : decode prog_14_method_53_code 223 = .ok (.istore 9, 2) := by decide +kernel
theorem d_m1188_225 : decode prog_14_method_53_code 225 = .ok (.iload 9, 2) := by decide +kernel
theorem d_m1188_227 : decode prog_14_method_53_code 227 = .ok (.ifCond .ge 9, 3) := by decide +kernel
theorem d_m1188_230 : decode prog_14_method_53_code 230 = .ok (.iload 9, 2) := by decide +kernel
theorem d_m1188_232 : decode prog_14_method_53_code 232 = .ok (.ineg, 1) := by decide +kernel
theorem d_m1188_233 : decode prog_14_method_53_code 233 = .ok (.goto 5, 3) := by decide +kernel
theorem d_m1188_236 : decode prog_14_method_53_code 236 = .ok (.iload 9, 2) := by decide +kernel
theorem d_m1188_238 : decode prog_14_method_53_code 238 = .ok (.istore 10, 2) := by decide +kernel
theorem d_m1188_240 : decode prog_14_method_53_code 240 = .ok (.aload_n 0, 1) := by decide +kernel
theorem d_m1188_241 : decode prog_14_method_53_code 241 = .ok (.iload_n 1, 1) := by decide +kernel
theorem d_m1188_242 : decode prog_14_method_53_code 242 = .ok (.iload_n 2, 1) := by decide +kernel
theorem d_m1188_243 : decode prog_14_method_53_code 243 = .ok (.iload 5, 2) := by decide +kernel
theorem d_m1188_245 : decode prog_14_method_53_code 245 = .ok (.iload 10, 2) := by decide +kernel
theorem d_m1188_247 : decode prog_14_method_53_code 247 = .ok (.sipush 1023, 3) := by decide +kernel
theorem d_m1188_250 : decode prog_14_method_53_code 250 = .ok (.aload_n 0, 1) := by decide +kernel
theorem d_m1188_251 : decode prog_14_method_53_code 251 = .ok (.getfield 122, 3) := by decide +kernel
theorem d_m1188_254 : decode prog_14_method_53_code 254 = .ok (.ishr, 1) := by decide +kernel
theorem d_m1188_255 : decode prog_14_method_53_code 255 = .ok (.if_icmp .le 9, 3) := by decide +kernel
theorem d_m1188_258 : decode prog_14_method_53_code 258 = .ok (.sipush 9999, 3) := by decide +kernel
theorem d_m1188_261 : decode prog_14_method_53_code 261 = .ok (.goto 12, 3) := by decide +kernel
theorem d_m1188_264 : decode prog_14_method_53_code 264 = .ok (.iload 9, 2) := by decide +kernel
theorem d_m1188_266 : decode prog_14_method_53_code 266 = .ok (.iconst 1, 1) := by decide +kernel
theorem d_m1188_267 : decode prog_14_method_53_code 267 = .ok (.aload_n 0, 1) := by decide +kernel
theorem d_m1188_268 : decode prog_14_method_53_code 268 = .ok (.getfield 122, 3) := by decide +kernel
theorem d_m1188_271 : decode prog_14_method_53_code 271 = .ok (.ishl, 1) := by decide +kernel
theorem d_m1188_272 : decode prog_14_method_53_code 272 = .ok (.imul, 1) := by decide +kernel
theorem d_m1188_273 : decode prog_14_method_53_code 273 = .ok (.invokevirtual 274, 3) := by decide +kernel
theorem d_m1188_276 : decode prog_14_method_53_code 276 = .ok (.iinc 5 1, 3) := by decide +kernel
theorem d_m1188_279 : decode prog_14_method_53_code 279 = .ok (.goto (-201), 3) := by decide +kernel
theorem d_m1188_282 : decode prog_14_method_53_code 282 = .ok (.return_, 1) := by decide +kernel
theorem d_m1192_0 : decode prog_14_method_55_code 0 = .ok (.aload_n 0, 1) := by decide +kernel
theorem d_m1192_1 : decode prog_14_method_55_code 1 = .ok (.getfield 113, 3) := by decide +kernel
theorem d_m1192_4 : decode prog_14_method_55_code 4 = .ok (.istore_n 3, 1) := by decide +kernel
theorem d_m1192_5 : decode prog_14_method_55_code 5 = .ok (.iload_n 3, 1) := by decide +kernel
theorem d_m1192_6 : decode prog_14_method_55_code 6 = .ok (.aload_n 0, 1) := by decide +kernel
theorem d_m1192_7 : decode prog_14_method_55_code 7 = .ok (.getfield 116, 3) := by decide +kernel
theorem d_m1192_10 : decode prog_14_method_55_code 10 = .ok (.if_icmp .gt 187, 3) := by decide +kernel
theorem d_m1192_13 : decode prog_14_method_55_code 13 = .ok (.aload_n 0, 1) := by decide +kernel
theorem d_m1192_14 : decode prog_14_method_55_code 14 = .ok (.getfield 185, 3) := by decide +kernel
theorem d_m1192_17 : decode prog_14_method_55_code 17 = .ok (.ifCond .ne 180, 3) := by decide +kernel
theorem d_m1192_20 : decode prog_14_method_55_code 20 = .ok (.aload_n 0, 1) := by decide +kernel
theorem d_m1192_21 : decode prog_14_method_55_code 21 = .ok (.getfield 244, 3) := by decide +kernel
theorem d_m1192_24 : decode prog_14_method_55_code 24 = .ok (.ifCond .ne 173, 3) := by decide +kernel
theorem d_m1192_27 : decode prog_14_method_55_code 27 = .ok (.aload_n 0, 1) := by decide +kernel
theorem d_m1192_28 : decode prog_14_method_55_code 28 = .ok (.aload_n 0, 1) := by decide +kernel
theorem d_m1192_29 : decode prog_14_method_55_code 29 = .ok (.getfield 56, 3) := by decide +kernel
theorem d_m1192_32 : decode prog_14_method_55_code 32 = .ok (.iload_n 1, 1) := by decide +kernel
theorem d_m1192_33 : decode prog_14_method_55_code 33 = .ok (.iaload, 1) := by decide +kernel
theorem d_m1192_34 : decode prog_14_method_55_code 34 = .ok (.invokevirtual 268, 3) := by decide +kernel
theorem d_m1192_37 : decode prog_14_method_55_code 37 = .ok (.istore 4, 2) := by decide +kernel
theorem d_m1192_39 : decode prog_14_method_55_code 39 = .ok (.iload 4, 2) := by decide +kernel
theorem d_m1192_41 : decode prog_14_method_55_code 41 = .ok (.bipush 16, 2) := by decide +kernel
theorem d_m1192_43 : decode prog_14_method_55_code 43 = .ok (.idiv, 1) := by decide +kernel
theorem d_m1192_44 : decode prog_14_method_55_code 44 = .ok (.istore 5, 2) := by decide +kernel
theorem d_m1192_46 : decode prog_14_method_55_code 46 = .ok (.iload 4, 2) := by decide +kernel
theorem d_m1192_48 : decode prog_14_method_55_code 48 = .ok (.bipush 16, 2) := by decide +kernel
theorem d_m1192_50 : decode prog_14_method_55_code 50 = .ok (.irem, 1) := by decide +kernel
theorem d_m1192_51 : decode prog_14_method_55_code 51 = .ok (.istore 6, 2) := by decide +kernel
theorem d_m1192_53 : decode prog_14_method_55_code 53 = .ok (.aload_n 0, 1) := by decide +kernel
theorem d_m1192_54 : decode prog_14_method_55_code 54 = .ok (.getfield 244, 3) := by decide +kernel
theorem d_m1192_57 : decode prog_14_method_55_code 57 = .ok (.ifCond .ne 16, 3) := by decide +kernel
theorem d_m1192_60 : decode prog_14_method_55_code 60 = .ok (.iload 6, 2) := by decide +kernel
theorem d_m1192_62 : decode prog_14_method_55_code 62 = .ok (.iconst 1, 1) := by decide +kernel
theorem d_m1192_63 : decode prog_14_method_55_code 63 = .ok (.if_icmp .le 10, 3) := by decide +kernel
theorem d_m1192_66 : decode prog_14_method_55_code 66 = .ok (.aload_n 0, 1) := by decide +kernel
theorem d_m1192_67 : decode prog_14_method_55_code 67 = .ok (.iconst 3, 1) := by decide +kernel
theorem d_m1192_68 : decode prog_14_method_55_code 68 = .ok (.invokevirtual 256, 3) := by decide +kernel
theorem d_m1192_71 : decode prog_14_method_55_code 71 = .ok (.istore 7, 2) := by decide +kernel
theorem d_m1192_73 : decode prog_14_method_55_code 73 = .ok (.aload_n 0, 1) := by decide +kernel
theorem d_m1192_74 : decode prog_14_method_55_code 74 = .ok (.getfield 244, 3) := by decide +kernel
theorem d_m1192_77 : decode prog_14_method_55_code 77 = .ok (.ifCond .le 4, 3) := by decide +kernel
theorem d_m1192_80 : decode prog_14_method_55_code 80 = .ok (.return_, 1) := by decide +kernel
theorem d_m1192_81 : decode prog_14_method_55_code 81 = .ok (.iload 6, 2) := by decide +kernel
theorem d_m1192_83 : decode prog_14_method_55_code 83 = .ok (.ifCond .ne 28, 3) := by decide +kernel
theorem d_m1192_86 : decode prog_14_method_55_code 86 = .ok (.iload 5, 2) := by decide +kernel
theorem d_m1192_88 : decode prog_14_method_55_code 88 = .ok (.bipush 15, 2) := by decide +kernel
theorem d_m1192_90 : decode prog_14_method_55_code 90 = .ok (.if_icmp .ge 21, 3) := by decide +kernel
theorem d_m1192_93 : decode prog_14_method_55_code 93 = .ok (.aload_n 0, 1) := by decide +kernel
theorem d_m1192_94 : decode prog_14_method_55_code 94 = .ok (.iconst 1, 1) := by decide +kernel
theorem d_m1192_95 : decode prog_14_method_55_code 95 = .ok (.iload 5, 2) := by decide +kernel
theorem d_m1192_97 : decode prog_14_method_55_code 97 = .ok (.ishl, 1) := by decide +kernel
theorem d_m1192_98 : decode prog_14_method_55_code 98 = .ok (.aload_n 0, 1) := by decide +kernel
theorem d_m1192_99 : decode prog_14_method_55_code 99 = .ok (.iload 5, 2) := by decide +kernel
theorem d_m1192_101 : decode prog_14_method_55_code 101 = .ok (.invokevirtual 265, 3) := by decide +kernel
theorem d_m1192_104 : decode prog_14_method_55_code 104 = .ok (.iadd, 1) := by decide +kernel
theorem d_m1192_105 : decode prog_14_method_55_code 105 = .ok (.putfield 185, 3) := by decide +kernel
theorem d_m1192_108 : decode prog_14_method_55_code 108 = .ok (.goto 86, 3) := by decide +kernel
theorem d_m1192_111 : decode prog_14_method_55_code 111 = .ok (.iload 6, 2) := by decide +kernel
theorem d_m1192_113 : decode prog_14_method_55_code 113 = .ok (.iconst 1, 1) := by decide +kernel
theorem d_m1192_114 : decode prog_14_method_55_code 114 = .ok (.if_icmp .ne 10, 3) := by decide +kernel
theorem d_m1192_117 : decode prog_14_method_55_code 117 = .ok (.aload_n 0, 1) := by decide +kernel
theorem d_m1192_118 : decode prog_14_method_55_code 118 = .ok (.invokevirtual 262, 3) := by decide +kernel
theorem d_m1192_121 : decode prog_14_method_55_code 121 = .ok (.goto 4, 3) := by decide +kernel
theorem d_m1192_124 : decode prog_14_method_55_code 124 = .ok (.iconst 0, 1) := by decide +kernel
theorem d_m1192_125 : decode prog_14_method_55_code 125 = .ok (.istore 7, 2) := by decide +kernel
theorem d_m1192_127 : decode prog_14_method_55_code 127 = .ok (.aload_n 0, 1) := by decide +kernel
theorem d_m1192_128 : decode prog_14_method_55_code 128 = .ok (.iload_n 1, 1) := by decide +kernel
theorem d_m1192_129 : decode prog_14_method_55_code 129 = .ok (.iload_n 2, 1) := by decide +kernel
theorem d_m1192_130 : decode prog_14_method_55_code 130 = .ok (.iload_n 3, 1) := by decide +kernel
theorem d_m1192_131 : decode prog_14_method_55_code 131 = .ok (.iload 5, 2) := by decide +kernel
theorem d_m1192_133 : decode prog_14_method_55_code 133 = .ok (.invokevirtual 278, 3) := by decide +kernel
theorem d_m1192_136 : decode prog_14_method_55_code 136 = .ok (.istore_n 3, 1) := by decide +kernel
theorem d_m1192_137 : decode prog_14_method_55_code 137 = .ok (.aload_n 0, 1) := by decide +kernel
theorem d_m1192_138 : decode prog_14_method_55_code 138 = .ok (.getfield 244, 3) := by decide +kernel
theorem d_m1192_141 : decode prog_14_method_55_code 141 = .ok (.ifCond .ne 50, 3) := by decide +kernel
theorem d_m1192_144 : decode prog_14_method_55_code 144 = .ok (.iload 6, 2) := by decide +kernel
theorem d_m1192_146 : decode prog_14_method_55_code 146 = .ok (.iconst 1, 1) := by decide +kernel
theorem d_m1192_147 : decode prog_14_method_55_code 147 = .ok (.if_icmp .ne 44, 3) := by decide +kernel
theorem d_m1192_150 : decode prog_14_method_55_code 150 = .ok (.aload_n 0, 1) := by decide +kernel
theorem d_m1192_151 : decode prog_14_method_55_code 151 = .ok (.getfield 31, 3) := by decide +kernel
theorem d_m1192_154 : decode prog_14_method_55_code 154 = .ok (.bipush 64, 2) := by decide +kernel
theorem d_m1192_156 : decode prog_14_method_55_code 156 = .ok (.aload_n 0, 1) := by decide +kernel
theorem d_m1192_157 : decode prog_14_method_55_code 157 = .ok (.getfield 28, 3) := by decide +kernel
theorem d_m1192_160 : decode prog_14_method_55_code 160 = .ok (.iload_n 1, 1) := by decide +kernel
theorem d_m1192_161 : decode prog_14_method_55_code 161 = .ok (.iaload, 1) := by decide +kernel
theorem d_m1192_162 : decode prog_14_method_55_code 162 = .ok (.iload_n 2, 1) := by decide +kernel
theorem d_m1192_163 : decode prog_14_method_55_code 163 = .ok (.iadd, 1) := by decide +kernel
theorem d_m1192_164 : decode prog_14_method_55_code 164 = .ok (.imul, 1) := by decide +kernel
theorem d_m1192_165 : decode prog_14_method_55_code 165 = .ok (.iload_n 3, 1) := by decide +kernel
theorem d_m1192_166 : decode prog_14_method_55_code 166 = .ok (.iadd, 1) := by decide +kernel
theorem d_m1192_167 : decode prog_14_method_55_code 167 = .ok (.iload 7, 2) := by decide +kernel
theorem d_m1192_169 : decode prog_14_method_55_code 169 = .ok (.iconst 1, 1) := by decide +kernel
theorem d_m1192_170 : decode prog_14_method_55_code 170 = .ok (.if_icmp .ne 12, 3) := by decide +kernel
theorem d_m1192_173 : decode prog_14_method_55_code 173 = .ok (.iconst 1, 1) := by decide +kernel
theorem d_m1192_174 : decode prog_14_method_55_code 174 = .ok (.aload_n 0, 1) := by decide +kernel
theorem d_m1192_175 : decode prog_14_method_55_code 175 = .ok (.getfield 122, 3) := by decide +kernel
theorem d_m1192_178 : decode prog_14_method_55_code 178 = .ok (.ishl, 1) := by decide +kernel
theorem d_m1192_179 : decode prog_14_method_55_code 179 = .ok (.goto 10, 3) := by decide +kernel
theorem d_m1192_182 : decode prog_14_method_55_code 182 = .ok (.iconst 1, 1) := by decide +kernel
theorem d_m1192_183 : decode prog_14_method_55_code 183 = .ok (.aload_n 0, 1) := by decide +kernel
theorem d_m1192_184 : decode prog_14_method_55_code 184 = .ok (.getfield 122, 3) := by decide +kernel
theorem d_m1192_187 : decode prog_14_method_55_code 187 = .ok (.ishl, 1) := by decide +kernel
theorem d_m1192_188 : decode prog_14_method_55_code 188 = .ok (.ineg, 1) := by decide +kernel
theorem d_m1192_189 : decode prog_14_method_55_code 189 = .ok (.i2s, 1) := by decide +kernel
theorem d_m1192_190 : decode prog_14_method_55_code 190 = .ok (.sastore, 1) := by decide +kernel
theorem d_m1192_191 : decode prog_14_method_55_code 191 = .ok (.iinc 3 1, 3) := by decide +kernel
theorem d_m1192_194 : decode prog_14_method_55_code 194 = .ok (.goto (-189), 3) := by decide +kernel
theorem d_m1192_197 : decode prog_14_method_55_code 197 = .ok (.aload_n 0, 1) := by decide +kernel
theorem d_m1192_198 : decode prog_14_method_55_code 198 = .ok (.getfield 185, 3) := by decide +kernel
theorem d_m1192_201 : decode prog_14_method_55_code 201 = .ok (.ifCond .le 62, 3) := by decide +kernel
theorem d_m1192_204 : decode prog_14_method_55_code 204 = .ok (.iload_n 3, 1) := by decide +kernel
theorem d_m1192_205 : decode prog_14_method_55_code 205 = .ok (.aload_n 0, 1) := by decide +kernel
theorem d_m1192_206 : decode prog_14_method_55_code 206 = .ok (.getfield 116, 3) := by decide +kernel
theorem d_m1192_209 : decode prog_14_method_55_code 209 = .ok (.if_icmp .gt 44, 3) := by decide +kernel
theorem d_m1192_212 : decode prog_14_method_55_code 212 = .ok (.aload_n 0, 1) := by decide +kernel
theorem d_m1192_213 : decode prog_14_method_55_code 213 = .ok (.getfield 244, 3) := by decide +kernel
theorem d_m1192_216 : decode prog_14_method_55_code 216 = .ok (.ifCond .ne 37, 3) := by decide +kernel
theorem d_m1192_219 : decode prog_14_method_55_code 219 = .ok (.aload_n 0, 1) := by decide +kernel
theorem d_m1192_220 : decode prog_14_method_55_code 220 = .ok (.getfield 31, 3) := by decide +kernel
theorem d_m1192_223 : decode prog_14_method_55_code 223 = .ok (.bipush 64, 2) := by decide +kernel
theorem d_m1192_225 : decode prog_14_method_55_code 225 = .ok (.aload_n 0, 1) := by decide +kernel
theorem d_m1192_226 : decode prog_14_method_55_code 226 = .ok (.getfield 28, 3) := by decide +kernel
theorem d_m1192_229 : decode prog_14_method_55_code 229 = .ok (.iload_n 1, 1) := by decide +kernel
theorem d_m1192_230 : decode prog_14_method_55_code 230 = .ok (.iaload, 1) := by decide +kernel
theorem d_m1192_231 : decode prog_14_method_55_code 231 = .ok (.iload_n 2, 1) := by decide +kernel
theorem d_m1192_232 : decode prog_14_method_55_code 232 = .ok (.iadd, 1) := by decide +kernel
theorem d_m1192_233 : decode prog_14_method_55_code 233 = .ok (.imul, 1) := by decide +kernel
theorem d_m1192_234 : decode prog_14_method_55_code 234 = .ok (.iload_n 3, 1) := by decide +kernel
theorem d_m1192_235 : decode prog_14_method_55_code 235 = .ok (.iadd, 1) := by decide +kernel
theorem d_m1192_236 : decode prog_14_method_55_code 236 = .ok (.saload, 1) := by decide +kernel
theorem d_m1192_237 : decode prog_14_method_55_code 237 = .ok (.ifCond .eq 10, 3) := by decide +kernel
theorem d_m1192_240 : decode prog_14_method_55_code 240 = .ok (.aload_n 0, 1) := by decide +kernel
theorem d_m1192_241 : decode prog_14_method_55_code 241 = .ok (.iload_n 1, 1) := by decide +kernel
theorem d_m1192_242 : decode prog_14_method_55_code 242 = .ok (.iload_n 2, 1) := by decide +kernel
theorem d_m1192_243 : decode prog_14_method_55_code 243 = .ok (.iload_n 3, 1) := by decide +kernel
theorem d_m1192_244 : decode prog_14_method_55_code 244 = .ok (.invokevirtual 281, 3) := by decide +kernel
theorem d_m1192_247 : decode prog_14_method_55_code 247 = .ok (.iinc 3 1, 3) := by decide +kernel
theorem d_m1192_250 : decode prog_14_method_55_code 250 = .ok (.goto (-46), 3) := by decide +kernel
theorem d_m1192_253 : decode prog_14_method_55_code 253 = .ok (.aload_n 0, 1) := by decide +kernel
theorem d_m1192_254 : decode prog_14_method_55_code 254 = .ok (.dup, 1) := by decide +kernel
theorem d_m1192_255 : decode prog_14_method_55_code 255 = .ok (.getfield 185, 3) := by decide +kernel
theorem d_m1192_258 : decode prog_14_method_55_code 258 = .ok (.iconst 1, 1) := by decide +kernel
theorem d_m1192_259 : decode prog_14_method_55_code 259 = .ok (.isub, 1) := by decide +kernel
theorem d_m1192_260 : decode prog_14_method_55_code 260 = .ok (.putfield 185, 3) := by decide +kernel
theorem d_m1192_263 : decode prog_14_method_55_code 263 = .ok (.return_, 1) := by decide +kernel
theorem d_m1196_0 : decode prog_14_method_56_code 0 = .ok (.iload_n 3, 1) := by decide +kernel
theorem d_m1196_1 : decode prog_14_method_56_code 1 = .ok (.istore 5, 2) := by decide +kernel
theorem d_m1196_3 : decode prog_14_method_56_code 3 = .ok (.iload 4, 2) := by decide +kernel
theorem d_m1196_5 : decode prog_14_method_56_code 5 = .ok (.istore 6, 2) := by decide +kernel
theorem d_m1196_7 : decode prog_14_method_56_code 7 = .ok (.aload_n 0, 1) := by decide +kernel
theorem d_m1196_8 : decode prog_14_method_56_code 8 = .ok (.getfield 244, 3) := by decide +kernel
theorem d_m1196_11 : decode prog_14_method_56_code 11 = .ok (.ifCond .ne 68, 3) := by decide +kernel
theorem d_m1196_14 : decode prog_14_method_56_code 14 = .ok (.iload 5, 2) := by decide +kernel
theorem d_m1196_16 : decode prog_14_method_56_code 16 = .ok (.aload_n 0, 1) := by decide +kernel
theorem d_m1196_17 : decode prog_14_method_56_code 17 = .ok (.getfield 116, 3) := by decide +kernel
theorem d_m1196_20 : decode prog_14_method_56_code 20 = .ok (.if_icmp .le 9, 3) := by decide +kernel
theorem d_m1196_23 : decode prog_14_method_56_code 23 = .ok (.aload_n 0, 1) := by decide +kernel
theorem d_m1196_24 : decode prog_14_method_56_code 24 = .ok (.iconst 3, 1) := by decide +kernel
theorem d_m1196_25 : decode prog_14_method_56_code 25 = .ok (.invokevirtual 256, 3) := by decide +kernel
theorem d_m1196_28 : decode prog_14_method_56_code 28 = .ok (.ireturn, 1) := by decide +kernel
theorem d_m1196_29 : decode prog_14_method_56_code 29 = .ok (.aload_n 0, 1) := by decide +kernel
theorem d_m1196_30 : decode prog_14_method_56_code 30 = .ok (.getfield 31, 3) := by decide +kernel
theorem d_m1196_33 : decode prog_14_method_56_code 33 = .ok (.bipush 64, 2) := by decide +kernel
theorem d_m1196_35 : decode prog_14_method_56_code 35 = .ok (.aload_n 0, 1) := by decide +kernel
theorem d_m1196_36 : decode prog_14_method_56_code 36 = .ok (.getfield 28, 3) := by decide +kernel
theorem d_m1196_39 : decode prog_14_method_56_code 39 = .ok (.iload_n 1, 1) := by decide +kernel
theorem d_m1196_40 : decode prog_14_method_56_code 40 = .ok (.iaload, 1) := by decide +kernel
theorem d_m1196_41 : decode prog_14_method_56_code 41 = .ok (.iload_n 2, 1) := by decide +kernel
theorem d_m1196_42 : decode prog_14_method_56_code 42 = .ok (.iadd, 1) := by decide +kernel
theorem d_m1196_43 : decode prog_14_method_56_code 43 = .ok (.imul, 1) := by decide +kernel
theorem d_m1196_44 : decode prog_14_method_56_code 44 = .ok (.iload 5, 2) := by decide +kernel
theorem d_m1196_46 : decode prog_14_method_56_code 46 = .ok (.iadd, 1) := by decide +kernel
theorem d_m1196_47 : decode prog_14_method_56_code 47 = .ok (.saload, 1) := by decide +kernel
theorem d_m1196_48 : decode prog_14_method_56_code 48 = .ok (.ifCond .eq 14, 3) := by decide +kernel
theorem d_m1196_51 : decode prog_14_method_56_code 51 = .ok (.aload_n 0, 1) := by decide +kernel
theorem d_m1196_52 : decode prog_14_method_56_code 52 = .ok (.iload_n 1, 1) := by decide +kernel
theorem d_m1196_53 : decode prog_14_method_56_code 53 = .ok (.iload_n 2, 1) := by decide +kernel
theorem d_m1196_54 : decode prog_14_method_56_code 54 = .ok (.iload 5, 2) := by decide +kernel
theorem d_m1196_56 : decode prog_14_method_56_code 56 = .ok (.invokevirtual 281, 3) := by decide +kernel
theorem d_m1196_59 : decode prog_14_method_56_code 59 = .ok (.goto 14, 3) := by decide +kernel
theorem d_m1196_62 : decode prog_14_method_56_code 62 = .ok (.iload 6, 2) := by decide +kernel
theorem d_m1196_64 : decode prog_14_method_56_code 64 = .ok (.ifCond .ne 6, 3) := by decide +kernel
theorem d_m1196_67 : decode prog_14_method_56_code 67 = .ok (.iload 5, 2) := by decide +kernel
theorem d_m1196_69 : decode prog_14_method_56_code 69 = .ok (.ireturn, 1) := by decide +kernel
theorem d_m1196_70 : decode prog_14_method_56_code 70 = .ok (.iinc 6 (-1), 3) := by decide +kernel
theorem d_m1196_73 : decode prog_14_method_56_code 73 = .ok (.iinc 5 1, 3) := by decide +kernel
theorem d_m1196_76 : decode prog_14_method_56_code 76 = .ok (.goto (-69), 3) := by decide +kernel
theorem d_m1196_79 : decode prog_14_method_56_code 79 = .ok (.iconst 0, 1) := by decide +kernel
theorem d_m1196_80 : decode prog_14_method_56_code 80 = .ok (.ireturn, 1) := by decide +kernel
theorem d_m1200_0 : decode prog_14_method_54_code 0 = .ok (.bipush 64, 2) := by decide +kernel
theorem d_m1200_2 : decode prog_14_method_54_code 2 = .ok (.aload_n 0, 1) := by decide +kernel
theorem d_m1200_3 : decode prog_14_method_54_code 3 = .ok (.getfield 28, 3) := by decide +kernel
theorem d_m1200_6 : decode prog_14_method_54_code 6 = .ok (.iload_n 1, 1) := by decide +kernel
theorem d_m1200_7 : decode prog_14_method_54_code 7 = .ok (.iaload, 1) := by decide +kernel
theorem d_m1200_8 : decode prog_14_method_54_code 8 = .ok (.iload_n 2, 1) := by decide +kernel
theorem d_m1200_9 : decode prog_14_method_54_code 9 = .ok (.iadd, 1) := by decide +kernel
theorem d_m1200_10 : decode prog_14_method_54_code 10 = .ok (.imul, 1) := by decide +kernel
theorem d_m1200_11 : decode prog_14_method_54_code 11 = .ok (.iload_n 3, 1) := by decide +kernel
