theorem d_m1042_5 : decode prog_14_method_38_code 5 = .ok (.aload_n 0, 1) := by decide +kernel
theorem d_m1042_6 : decode prog_14_method_38_code 6 = .ok (.iconst 0, 1) := by decide +kernel
theorem d_m1042_7 : decode prog_14_method_38_code 7 = .ok (.putfield 159, 3) := by decide +kernel
theorem d_m1042_10 : decode prog_14_method_38_code 10 = .ok (.aload_n 0, 1) := by decide +kernel
theorem d_m1042_11 : decode prog_14_method_38_code 11 = .ok (.iconst 0, 1) := by decide +kernel
theorem d_m1042_12 : decode prog_14_method_38_code 12 = .ok (.putfield 162, 3) := by decide +kernel
theorem d_m1042_15 : decode prog_14_method_38_code 15 = .ok (.aload_n 0, 1) := by decide +kernel
theorem d_m1042_16 : decode prog_14_method_38_code 16 = .ok (.iconst 0, 1) := by decide +kernel
theorem d_m1042_17 : decode prog_14_method_38_code 17 = .ok (.putfield 172, 3) := by decide +kernel
theorem d_m1042_20 : decode prog_14_method_38_code 20 = .ok (.aload_n 0, 1) := by decide +kernel
theorem d_m1042_21 : decode prog_14_method_38_code 21 = .ok (.iconst 0, 1) := by decide +kernel
theorem d_m1042_22 : decode prog_14_method_38_code 22 = .ok (.putfield 185, 3) := by decide +kernel
theorem d_m1042_25 : decode prog_14_method_38_code 25 = .ok (.aload_n 0, 1) := by decide +kernel
theorem d_m1042_26 : decode prog_14_method_38_code 26 = .ok (.iconst 0, 1) := by decide +kernel
theorem d_m1042_27 : decode prog_14_method_38_code 27 = .ok (.putfield 191, 3) := by decide +kernel
theorem d_m1042_30 : decode prog_14_method_38_code 30 = .ok (.iconst 0, 1) := by decide +kernel
theorem d_m1042_31 : decode prog_14_method_38_code 31 = .ok (.istore_n 1, 1) := by decide +kernel
theorem d_m1042_32 : decode prog_14_method_38_code 32 = .ok (.iload_n 1, 1) := by decide +kernel
theorem d_m1042_33 : decode prog_14_method_38_code 33 = .ok (.sipush 2048, 3) := by decide +kernel
theorem d_m1042_36 : decode prog_14_method_38_code 36 = .ok (.if_icmp .ge 32, 3) := by decide +kernel
theorem d_m1042_39 : decode prog_14_method_38_code 39 = .ok (.aload_n 0, 1) := by decide +kernel
theorem d_m1042_40 : decode prog_14_method_38_code 40 = .ok (.getfield 66, 3) := by decide +kernel
theorem d_m1042_43 : decode prog_14_method_38_code 43 = .ok (.iload_n 1, 1) := by decide +kernel
theorem d_m1042_44 : decode prog_14_method_38_code 44 = .ok (.aload_n 0, 1) := by decide +kernel
theorem d_m1042_45 : decode prog_14_method_38_code 45 = .ok (.getfield 155, 3) := by decide +kernel
theorem d_m1042_48 : decode prog_14_method_38_code 48 = .ok (.ifCond .eq 7, 3) := by decide +kernel
theorem d_m1042_51 : decode prog_14_method_38_code 51 = .ok (.iconst 0, 1) := by decide +kernel
theorem d_m1042_52 : decode prog_14_method_38_code 52 = .ok (.goto 9, 3) := by decide +kernel
theorem d_m1042_55 : decode prog_14_method_38_code 55 = .ok (.aload_n 0, 1) := by decide +kernel
theorem d_m1042_56 : decode prog_14_method_38_code 56 = .ok (.getfield 66, 3) := by decide +kernel
theorem d_m1042_59 : decode prog_14_method_38_code 59 = .ok (.iload_n 1, 1) := by decide +kernel
theorem d_m1042_60 : decode prog_14_method_38_code 60 = .ok (.iaload, 1) := by decide +kernel
theorem d_m1042_61 : decode prog_14_method_38_code 61 = .ok (.iastore, 1) := by decide +kernel
theorem d_m1042_62 : decode prog_14_method_38_code 62 = .ok (.iinc 1 1, 3) := by decide +kernel
theorem d_m1042_65 : decode prog_14_method_38_code 65 = .ok (.goto (-33), 3) := by decide +kernel
theorem d_m1042_68 : decode prog_14_method_38_code 68 = .ok (.aload_n 0, 1) := by decide +kernel
theorem d_m1042_69 : decode prog_14_method_38_code 69 = .ok (.getfield 56, 3) := by decide +kernel
theorem d_m1042_72 : decode prog_14_method_38_code 72 = .ok (.aload_n 0, 1) := by decide +kernel
theorem d_m1042_73 : decode prog_14_method_38_code 73 = .ok (.invokevirtual 151, 3) := by decide +kernel
theorem d_m1042_76 : decode prog_14_method_38_code 76 = .ok (.iaload, 1) := by decide +kernel
theorem d_m1042_77 : decode prog_14_method_38_code 77 = .ok (.istore_n 1, 1) := by decide +kernel
theorem d_m1042_78 : decode prog_14_method_38_code 78 = .ok (.iconst 0, 1) := by decide +kernel
theorem d_m1042_79 : decode prog_14_method_38_code 79 = .ok (.istore_n 2, 1) := by decide +kernel
theorem d_m1042_80 : decode prog_14_method_38_code 80 = .ok (.iconst 0, 1) := by decide +kernel
theorem d_m1042_81 : decode prog_14_method_38_code 81 = .ok (.istore_n 3, 1) := by decide +kernel
theorem d_m1042_82 : decode prog_14_method_38_code 82 = .ok (.iload_n 3, 1) := by decide +kernel
theorem d_m1042_83 : decode prog_14_method_38_code 83 = .ok (.aload_n 0, 1) := by decide +kernel
theorem d_m1042_84 : decode prog_14_method_38_code 84 = .ok (.invokevirtual 223, 3) := by decide +kernel
theorem d_m1042_87 : decode prog_14_method_38_code 87 = .ok (.if_icmp .ge 174, 3) := by decide +kernel
theorem d_m1042_90 : decode prog_14_method_38_code 90 = .ok (.aload_n 0, 1) := by decide +kernel
theorem d_m1042_91 : decode prog_14_method_38_code 91 = .ok (.getfield 125, 3) := by decide +kernel
theorem d_m1042_94 : decode prog_14_method_38_code 94 = .ok (.ifCond .le 20, 3) := by decide +kernel
theorem d_m1042_97 : decode prog_14_method_38_code 97 = .ok (.iload_n 3, 1) := by decide +kernel
theorem d_m1042_98 : decode prog_14_method_38_code 98 = .ok (.ifCond .le 16, 3) := by decide +kernel
theorem d_m1042_101 : decode prog_14_method_38_code 101 = .ok (.iload_n 3, 1) := by decide +kernel
theorem d_m1042_102 : decode prog_14_method_38_code 102 = .ok (.aload_n 0, 1) := by decide +kernel
theorem d_m1042_103 : decode prog_14_method_38_code 103 = .ok (.getfield 125, 3) := by decide +kernel
theorem d_m1042_106 : decode prog_14_method_38_code 106 = .ok (.irem, 1) := by decide +kernel
theorem d_m1042_107 : decode prog_14_method_38_code 107 = .ok (.ifCond .ne 7, 3) := by decide +kernel
theorem d_m1042_110 : decode prog_14_method_38_code 110 = .ok (.iconst 1, 1) := by decide +kernel
theorem d_m1042_111 : decode prog_14_method_38_code 111 = .ok (.goto 4, 3) := by decide +kernel
theorem d_m1042_114 : decode prog_14_method_38_code 114 = .ok (.iconst 0, 1) := by decide +kernel
theorem d_m1042_115 : decode prog_14_method_38_code 115 = .ok (.istore 4, 2) := by decide +kernel
theorem d_m1042_117 : decode prog_14_method_38_code 117 = .ok (.iload 4, 2) := by decide +kernel
theorem d_m1042_119 : decode prog_14_method_38_code 119 = .ok (.ifCond .eq 41, 3) := by decide +kernel
theorem d_m1042_122 : decode prog_14_method_38_code 122 = .ok (.aload_n 0, 1) := by decide +kernel
theorem d_m1042_123 : decode prog_14_method_38_code 123 = .ok (.iload_n 1, 1) := by decide +kernel
theorem d_m1042_124 : decode prog_14_method_38_code 124 = .ok (.invokevirtual 203, 3) := by decide +kernel
theorem d_m1042_127 : decode prog_14_method_38_code 127 = .ok (.aload_n 0, 1) := by decide +kernel
theorem d_m1042_128 : decode prog_14_method_38_code 128 = .ok (.getfield 155, 3) := by decide +kernel
theorem d_m1042_131 : decode prog_14_method_38_code 131 = .ok (.ifCond .ne 26, 3) := by decide +kernel
theorem d_m1042_134 : decode prog_14_method_38_code 134 = .ok (.aload_n 0, 1) := by decide +kernel
theorem d_m1042_135 : decode prog_14_method_38_code 135 = .ok (.invokevirtual 226, 3) := by decide +kernel
theorem d_m1042_138 : decode prog_14_method_38_code 138 = .ok (.aload_n 0, 1) := by decide +kernel
theorem d_m1042_139 : decode prog_14_method_38_code 139 = .ok (.sipush 255, 3) := by decide +kernel
theorem d_m1042_142 : decode prog_14_method_38_code 142 = .ok (.invokevirtual 165, 3) := by decide +kernel
theorem d_m1042_145 : decode prog_14_method_38_code 145 = .ok (.aload_n 0, 1) := by decide +kernel
theorem d_m1042_146 : decode prog_14_method_38_code 146 = .ok (.sipush 208, 3) := by decide +kernel
theorem d_m1042_149 : decode prog_14_method_38_code 149 = .ok (.iload_n 2, 1) := by decide +kernel
theorem d_m1042_150 : decode prog_14_method_38_code 150 = .ok (.bipush 8, 2) := by decide +kernel
theorem d_m1042_152 : decode prog_14_method_38_code 152 = .ok (.irem, 1) := by decide +kernel
theorem d_m1042_153 : decode prog_14_method_38_code 153 = .ok (.iadd, 1) := by decide +kernel
theorem d_m1042_154 : decode prog_14_method_38_code 154 = .ok (.invokevirtual 165, 3) := by decide +kernel
theorem d_m1042_157 : decode prog_14_method_38_code 157 = .ok (.iinc 2 1, 3) := by decide +kernel
theorem d_m1042_160 : decode prog_14_method_38_code 160 = .ok (.iconst 0, 1) := by decide +kernel
theorem d_m1042_161 : decode prog_14_method_38_code 161 = .ok (.istore 5, 2) := by decide +kernel
theorem d_m1042_163 : decode prog_14_method_38_code 163 = .ok (.iload 5, 2) := by decide +kernel
theorem d_m1042_165 : decode prog_14_method_38_code 165 = .ok (.iconst 4, 1) := by decide +kernel
theorem d_m1042_166 : decode prog_14_method_38_code 166 = .ok (.if_icmp .ge 36, 3) := by decide +kernel
theorem d_m1042_169 : decode prog_14_method_38_code 169 = .ok (.aload_n 0, 1) := by decide +kernel
theorem d_m1042_170 : decode prog_14_method_38_code 170 = .ok (.getfield 69, 3) := by decide +kernel
theorem d_m1042_173 : decode prog_14_method_38_code 173 = .ok (.iload 5, 2) := by decide +kernel
theorem d_m1042_175 : decode prog_14_method_38_code 175 = .ok (.iload_n 3, 1) := by decide +kernel
theorem d_m1042_176 : decode prog_14_method_38_code 176 = .ok (.ifCond .eq 8, 3) := by decide +kernel
theorem d_m1042_179 : decode prog_14_method_38_code 179 = .ok (.iload 4, 2) := by decide +kernel
theorem d_m1042_181 : decode prog_14_method_38_code 181 = .ok (.ifCond .eq 7, 3) := by decide +kernel
theorem d_m1042_184 : decode prog_14_method_38_code 184 = .ok (.iconst 0, 1) := by decide +kernel
theorem d_m1042_185 : decode prog_14_method_38_code 185 = .ok (.goto 10, 3) := by decide +kernel
theorem d_m1042_188 : decode prog_14_method_38_code 188 = .ok (.aload_n 0, 1) := by decide +kernel
theorem d_m1042_189 : decode prog_14_method_38_code 189 = .ok (.getfield 69, 3) := by decide +kernel
theorem d_m1042_192 : decode prog_14_method_38_code 192 = .ok (.iload 5, 2) := by decide +kernel
theorem d_m1042_194 : decode prog_14_method_38_code 194 = .ok (.iaload, 1) := by decide +kernel
theorem d_m1042_195 : decode prog_14_method_38_code 195 = .ok (.iastore, 1) := by decide +kernel
theorem d_m1042_196 : decode prog_14_method_38_code 196 = .ok (.iinc 5 1, 3) := by decide +kernel
theorem d_m1042_199 : decode prog_14_method_38_code 199 = .ok (.goto (-36), 3) := by decide +kernel
theorem d_m1042_202 : decode prog_14_method_38_code 202 = .ok (.iconst 0, 1) := by decide +kernel
theorem d_m1042_203 : decode prog_14_method_38_code 203 = .ok (.istore 5, 2) := by decide +kernel
theorem d_m1042_205 : decode prog_14_method_38_code 205 = .ok (.iload 5, 2) := by decide +kernel
theorem d_m1042_207 : decode prog_14_method_38_code 207 = .ok (.aload_n 0, 1) := by decide +kernel
theorem d_m1042_208 : decode prog_14_method_38_code 208 = .ok (.getfield 101, 3) := by decide +kernel
theorem d_m1042_211 : decode prog_14_method_38_code 211 = .ok (.if_icmp .ge 44, 3) := by decide +kernel
theorem d_m1042_214 : decode prog_14_method_38_code 214 = .ok (.iconst 0, 1) := by decide +kernel
theorem d_m1042_215 : decode prog_14_method_38_code 215 = .ok (.istore 6, 2) := by decide +kernel
theorem d_m1042_217 : decode prog_14_method_38_code 217 = .ok (.iload 6, 2) := by decide +kernel
theorem d_m1042_219 : decode prog_14_method_38_code 219 = .ok (.aload_n 0, 1) := by decide +kernel
theorem d_m1042_220 : decode prog_14_method_38_code 220 = .ok (.iload 5, 2) := by decide +kernel
theorem d_m1042_222 : decode prog_14_method_38_code 222 = .ok (.invokevirtual 229, 3) := by decide +kernel
theorem d_m1042_225 : decode prog_14_method_38_code 225 = .ok (.if_icmp .ge 24, 3) := by decide +kernel
theorem d_m1042_228 : decode prog_14_method_38_code 228 = .ok (.aload_n 0, 1) := by decide +kernel
theorem d_m1042_229 : decode prog_14_method_38_code 229 = .ok (.iload 5, 2) := by decide +kernel
theorem d_m1042_231 : decode prog_14_method_38_code 231 = .ok (.aload_n 0, 1) := by decide +kernel
theorem d_m1042_232 : decode prog_14_method_38_code 232 = .ok (.iload 5, 2) := by decide +kernel
theorem d_m1042_234 : decode prog_14_method_38_code 234 = .ok (.iload_n 3, 1) := by decide +kernel
theorem d_m1042_235 : decode prog_14_method_38_code 235 = .ok (.iload 6, 2) := by decide +kernel
theorem d_m1042_237 : decode prog_14_method_38_code 237 = .ok (.invokevirtual 232, 3) := by decide +kernel
theorem d_m1042_240 : decode prog_14_method_38_code 240 = .ok (.invokevirtual 235, 3) := by decide +kernel
theorem d_m1042_243 : decode prog_14_method_38_code 243 = .ok (.iinc 6 1, 3) := by decide +kernel
theorem d_m1042_246 : decode prog_14_method_38_code 246 = .ok (.goto (-29), 3) := by decide +kernel
theorem d_m1042_249 : decode prog_14_method_38_code 249 = .ok (.iinc 5 1, 3) := by decide +kernel
theorem d_m1042_252 : decode prog_14_method_38_code 252 = .ok (.goto (-47), 3) := by decide +kernel
theorem d_m1042_255 : decode prog_14_method_38_code 255 = .ok (.iinc 3 1, 3) := by decide +kernel
theorem d_m1042_258 : decode prog_14_method_38_code 258 = .ok (.goto (-176), 3) := by decide +kernel
theorem d_m1042_261 : decode prog_14_method_38_code 261 = .ok (.aload_n 0, 1) := by decide +kernel
theorem d_m1042_262 : decode prog_14_method_38_code 262 = .ok (.iload_n 1, 1) := by decide +kernel
theorem d_m1042_263 : decode prog_14_method_38_code 263 = .ok (.invokevirtual 203, 3) := by decide +kernel
theorem d_m1042_266 : decode prog_14_method_38_code 266 = .ok (.aload_n 0, 1) := by decide +kernel
theorem d_m1042_267 : decode prog_14_method_38_code 267 = .ok (.invokevirtual 226, 3) := by decide +kernel
theorem d_m1042_270 : decode prog_14_method_38_code 270 = .ok (.return_, 1) := by decide +kernel
theorem d_m1046_0 : decode prog_14_method_19_code 0 = .ok (.iconst 0, 1) := by decide +kernel
theorem d_m1046_1 : decode prog_14_method_19_code 1 = .ok (.istore_n 1, 1) := by decide +kernel
theorem d_m1046_2 : decode prog_14_method_19_code 2 = .ok (.aload_n 0, 1) := by decide +kernel
theorem d_m1046_3 : decode prog_14_method_19_code 3 = .ok (.getfield 110, 3) := by decide +kernel
theorem d_m1046_6 : decode prog_14_method_19_code 6 = .ok (.iload_n 1, 1) := by decide +kernel
theorem d_m1046_7 : decode prog_14_method_19_code 7 = .ok (.ishr, 1) := by decide +kernel
theorem d_m1046_8 : decode prog_14_method_19_code 8 = .ok (.iconst 1, 1) := by decide +kernel
theorem d_m1046_9 : decode prog_14_method_19_code 9 = .ok (.iand, 1) := by decide +kernel
theorem d_m1046_10 : decode prog_14_method_19_code 10 = .ok (.ifCond .ne 9, 3) := by decide +kernel
theorem d_m1046_13 : decode prog_14_method_19_code 13 = .ok (.iinc 1 1, 3) := by decide +kernel
theorem d_m1046_16 : decode prog_14_method_19_code 16 = .ok (.goto (-14), 3) := by decide +kernel
theorem d_m1046_19 : decode prog_14_method_19_code 19 = .ok (.iload_n 1, 1) := by decide +kernel
theorem d_m1046_20 : decode prog_14_method_19_code 20 = .ok (.ireturn, 1) := by decide +kernel
theorem d_m1050_0 : decode prog_14_method_20_code 0 = .ok (.aload_n 0, 1) := by decide +kernel
theorem d_m1050_1 : decode prog_14_method_20_code 1 = .ok (.invokevirtual 151, 3) := by decide +kernel
theorem d_m1050_4 : decode prog_14_method_20_code 4 = .ok (.istore_n 1, 1) := by decide +kernel
theorem d_m1050_5 : decode prog_14_method_20_code 5 = .ok (.aload_n 0, 1) := by decide +kernel
theorem d_m1050_6 : decode prog_14_method_20_code 6 = .ok (.getfield 110, 3) := by decide +kernel
theorem d_m1050_9 : decode prog_14_method_20_code 9 = .ok (.invokestatic 139, 3) := by decide +kernel
theorem d_m1050_12 : decode prog_14_method_20_code 12 = .ok (.iconst 1, 1) := by decide +kernel
theorem d_m1050_13 : decode prog_14_method_20_code 13 = .ok (.if_icmp .ne 19, 3) := by decide +kernel
theorem d_m1050_16 : decode prog_14_method_20_code 16 = .ok (.aload_n 0, 1) := by decide +kernel
theorem d_m1050_17 : decode prog_14_method_20_code 17 = .ok (.getfield 22, 3) := by decide +kernel
theorem d_m1050_20 : decode prog_14_method_20_code 20 = .ok (.iload_n 1, 1) := by decide +kernel
theorem d_m1050_21 : decode prog_14_method_20_code 21 = .ok (.iaload, 1) := by decide +kernel
theorem d_m1050_22 : decode prog_14_method_20_code 22 = .ok (.aload_n 0, 1) := by decide +kernel
theorem d_m1050_23 : decode prog_14_method_20_code 23 = .ok (.getfield 25, 3) := by decide +kernel
theorem d_m1050_26 : decode prog_14_method_20_code 26 = .ok (.iload_n 1, 1) := by decide +kernel
theorem d_m1050_27 : decode prog_14_method_20_code 27 = .ok (.iaload, 1) := by decide +kernel
theorem d_m1050_28 : decode prog_14_method_20_code 28 = .ok (.imul, 1) := by decide +kernel
theorem d_m1050_29 : decode prog_14_method_20_code 29 = .ok (.goto 12, 3) := by decide +kernel
theorem d_m1050_32 : decode prog_14_method_20_code 32 = .ok (.aload_n 0, 1) := by decide +kernel
theorem d_m1050_33 : decode prog_14_method_20_code 33 = .ok (.getfield 104, 3) := by decide +kernel
theorem d_m1050_36 : decode prog_14_method_20_code 36 = .ok (.aload_n 0, 1) := by decide +kernel
theorem d_m1050_37 : decode prog_14_method_20_code 37 = .ok (.getfield 107, 3) := by decide +kernel
theorem d_m1050_40 : decode prog_14_method_20_code 40 = .ok (.imul, 1) := by decide +kernel
theorem d_m1050_41 : decode prog_14_method_20_code 41 = .ok (.ireturn, 1) := by decide +kernel
theorem d_m1054_0 : decode prog_14_method_27_code 0 = .ok (.aload_n 0, 1) := by decide +kernel
theorem d_m1054_1 : decode prog_14_method_27_code 1 = .ok (.getfield 185, 3) := by decide +kernel
theorem d_m1054_4 : decode prog_14_method_27_code 4 = .ok (.ifCond .le 67, 3) := by decide +kernel
theorem d_m1054_7 : decode prog_14_method_27_code 7 = .ok (.aload_n 0, 1) := by decide +kernel
theorem d_m1054_8 : decode prog_14_method_27_code 8 = .ok (.getfield 185, 3) := by decide +kernel
theorem d_m1054_11 : decode prog_14_method_27_code 11 = .ok (.invokestatic 182, 3) := by decide +kernel
theorem d_m1054_14 : decode prog_14_method_27_code 14 = .ok (.iconst 1, 1) := by decide +kernel
theorem d_m1054_15 : decode prog_14_method_27_code 15 = .ok (.isub, 1) := by decide +kernel
theorem d_m1054_16 : decode prog_14_method_27_code 16 = .ok (.istore_n 2, 1) := by decide +kernel
theorem d_m1054_17 : decode prog_14_method_27_code 17 = .ok (.aload_n 0, 1) := by decide +kernel
theorem d_m1054_18 : decode prog_14_method_27_code 18 = .ok (.iload_n 1, 1) := by decide +kernel
theorem d_m1054_19 : decode prog_14_method_27_code 19 = .ok (.bipush 16, 2) := by decide +kernel
theorem d_m1054_21 : decode prog_14_method_27_code 21 = .ok (.iload_n 2, 1) := by decide +kernel
theorem d_m1054_22 : decode prog_14_method_27_code 22 = .ok (.imul, 1) := by decide +kernel
theorem d_m1054_23 : decode prog_14_method_27_code 23 = .ok (.invokevirtual 188, 3) := by decide +kernel
theorem d_m1054_26 : decode prog_14_method_27_code 26 = .ok (.aload_n 0, 1) := by decide +kernel
theorem d_m1054_27 : decode prog_14_method_27_code 27 = .ok (.aload_n 0, 1) := by decide +kernel
theorem d_m1054_28 : decode prog_14_method_27_code 28 = .ok (.getfield 185, 3) := by decide +kernel
theorem d_m1054_31 : decode prog_14_method_27_code 31 = .ok (.iload_n 2, 1) := by decide +kernel
theorem d_m1054_32 : decode prog_14_method_27_code 32 = .ok (.invokevirtual 178, 3) := by decide +kernel
theorem d_m1054_35 : decode prog_14_method_27_code 35 = .ok (.iconst 0, 1) := by decide +kernel
theorem d_m1054_36 : decode prog_14_method_27_code 36 = .ok (.istore_n 3, 1) := by decide +kernel
theorem d_m1054_37 : decode prog_14_method_27_code 37 = .ok (.iload_n 3, 1) := by decide +kernel
theorem d_m1054_38 : decode prog_14_method_27_code 38 = .ok (.aload_n 0, 1) := by decide +kernel
theorem d_m1054_39 : decode prog_14_method_27_code 39 = .ok (.getfield 191, 3) := by decide +kernel
theorem d_m1054_42 : decode prog_14_method_27_code 42 = .ok (.if_icmp .ge 19, 3) := by decide +kernel
theorem d_m1054_45 : decode prog_14_method_27_code 45 = .ok (.aload_n 0, 1) := by decide +kernel
theorem d_m1054_46 : decode prog_14_method_27_code 46 = .ok (.aload_n 0, 1) := by decide +kernel
theorem d_m1054_47 : decode prog_14_method_27_code 47 = .ok (.getfield 72, 3) := by decide +kernel
theorem d_m1054_50 : decode prog_14_method_27_code 50 = .ok (.iload_n 3, 1) := by decide +kernel
theorem d_m1054_51 : decode prog_14_method_27_code 51 = .ok (.baload, 1) := by decide +kernel
theorem d_m1054_52 : decode prog_14_method_27_code 52 = .ok (.invokevirtual 175, 3) := by decide +kernel
theorem d_m1054_55 : decode prog_14_method_27_code 55 = .ok (.iinc 3 1, 3) := by decide +kernel
theorem d_m1054_58 : decode prog_14_method_27_code 58 = .ok (.goto (-21), 3) := by decide +kernel
theorem d_m1054_61 : decode prog_14_method_27_code 61 = .ok (.aload_n 0, 1) := by decide +kernel
theorem d_m1054_62 : decode prog_14_method_27_code 62 = .ok (.iconst 0, 1) := by decide +kernel
theorem d_m1054_63 : decode prog_14_method_27_code 63 = .ok (.putfield 185, 3) := by decide +kernel
theorem d_m1054_66 : decode prog_14_method_27_code 66 = .ok (.aload_n 0, 1) := by decide +kernel
theorem d_m1054_67 : decode prog_14_method_27_code 67 = .ok (.iconst 0, 1) := by decide +kernel
theorem d_m1054_68 : decode prog_14_method_27_code 68 = .ok (.putfield 191, 3) := by decide +kernel
theorem d_m1054_71 : decode prog_14_method_27_code 71 = .ok (.return_, 1) := by decide +kernel
theorem d_m1057_0 : decode prog_14_method_21_code 0 = .ok (.iconst 0, 1) := by decide +kernel
theorem d_m1057_1 : decode prog_14_method_21_code 1 = .ok (.istore_n 1, 1) := by decide +kernel
theorem d_m1057_2 : decode prog_14_method_21_code 2 = .ok (.iload_n 0, 1) := by decide +kernel
theorem d_m1057_3 : decode prog_14_method_21_code 3 = .ok (.ifCond .ge 8, 3) := by decide +kernel
theorem d_m1057_6 : decode prog_14_method_21_code 6 = .ok (.iload_n 0, 1) := by decide +kernel
theorem d_m1057_7 : decode prog_14_method_21_code 7 = .ok (.ineg, 1) := by decide +kernel
theorem d_m1057_8 : decode prog_14_method_21_code 8 = .ok (.goto 4, 3) := by decide +kernel
theorem d_m1057_11 : decode prog_14_method_21_code 11 = .ok (.iload_n 0, 1) := by decide +kernel
theorem d_m1057_12 : decode prog_14_method_21_code 12 = .ok (.istore_n 2, 1) := by decide +kernel
theorem d_m1057_13 : decode prog_14_method_21_code 13 = .ok (.iload_n 2, 1) := by decide +kernel
theorem d_m1057_14 : decode prog_14_method_21_code 14 = .ok (.ifCond .le 13, 3) := by decide +kernel
theorem d_m1057_17 : decode prog_14_method_21_code 17 = .ok (.iinc 1 1, 3) := by decide +kernel
theorem d_m1057_20 : decode prog_14_method_21_code 20 = .ok (.iload_n 2, 1) := by decide +kernel
theorem d_m1057_21 : decode prog_14_method_21_code 21 = .ok (.iconst 2, 1) := by decide +kernel
theorem d_m1057_22 : decode prog_14_method_21_code 22 = .ok (.idiv, 1) := by decide +kernel
theorem d_m1057_23 : decode prog_14_method_21_code 23 = .ok (.istore_n 2, 1) := by decide +kernel
theorem d_m1057_24 : decode prog_14_method_21_code 24 = .ok (.goto (-11), 3) := by decide +kernel
theorem d_m1057_27 : decode prog_14_method_21_code 27 = .ok (.iload_n 1, 1) := by decide +kernel
theorem d_m1057_28 : decode prog_14_method_21_code 28 = .ok (.ireturn, 1) := by decide +kernel
theorem d_m1061_0 : decode prog_14_method_25_code 0 = .ok (.sipush 256, 3) := by decide +kernel
theorem d_m1061_3 : decode prog_14_method_25_code 3 = .ok (.iload_n 1, 1) := by decide +kernel
theorem d_m1061_4 : decode prog_14_method_25_code 4 = .ok (.imul, 1) := by decide +kernel
theorem d_m1061_5 : decode prog_14_method_25_code 5 = .ok (.iload_n 2, 1) := by decide +kernel
theorem d_m1061_6 : decode prog_14_method_25_code 6 = .ok (.iadd, 1) := by decide +kernel
theorem d_m1061_7 : decode prog_14_method_25_code 7 = .ok (.istore_n 3, 1) := by decide +kernel
theorem d_m1061_8 : decode prog_14_method_25_code 8 = .ok (.aload_n 0, 1) := by decide +kernel
theorem d_m1061_9 : decode prog_14_method_25_code 9 = .ok (.getfield 66, 3) := by decide +kernel
theorem d_m1061_12 : decode prog_14_method_25_code 12 = .ok (.iload_n 3, 1) := by decide +kernel
theorem d_m1061_13 : decode prog_14_method_25_code 13 = .ok (.dup2, 1) := by decide +kernel
theorem d_m1061_14 : decode prog_14_method_25_code 14 = .ok (.iaload, 1) := by decide +kernel
theorem d_m1061_15 : decode prog_14_method_25_code 15 = .ok (.iconst 1, 1) := by decide +kernel
theorem d_m1061_16 : decode prog_14_method_25_code 16 = .ok (.iadd, 1) := by decide +kernel
theorem d_m1061_17 : decode prog_14_method_25_code 17 = .ok (.iastore, 1) := by decide +kernel
theorem d_m1061_18 : decode prog_14_method_25_code 18 = .ok (.aload_n 0, 1) := by decide +kernel
theorem d_m1061_19 : decode prog_14_method_25_code 19 = .ok (.getfield 155, 3) := by decide +kernel
theorem d_m1061_22 : decode prog_14_method_25_code 22 = .ok (.ifCond .ne 44, 3) := by decide +kernel
theorem d_m1061_25 : decode prog_14_method_25_code 25 = .ok (.aload_n 0, 1) := by decide +kernel
theorem d_m1061_26 : decode prog_14_method_25_code 26 = .ok (.aload_n 0, 1) := by decide +kernel
theorem d_m1061_27 : decode prog_14_method_25_code 27 = .ok (.getfield 172, 3) := by decide +kernel
theorem d_m1061_30 : decode prog_14_method_25_code 30 = .ok (.ifCond .ne 12, 3) := by decide +kernel
theorem d_m1061_33 : decode prog_14_method_25_code 33 = .ok (.aload_n 0, 1) := by decide +kernel
theorem d_m1061_34 : decode prog_14_method_25_code 34 = .ok (.getfield 47, 3) := by decide +kernel
theorem d_m1061_37 : decode prog_14_method_25_code 37 = .ok (.iload_n 3, 1) := by decide +kernel
theorem d_m1061_38 : decode prog_14_method_25_code 38 = .ok (.iaload, 1) := by decide +kernel
theorem d_m1061_39 : decode prog_14_method_25_code 39 = .ok (.ifCond .ne 7, 3) := by decide +kernel
theorem d_m1061_42 : decode prog_14_method_25_code 42 = .ok (.iconst 1, 1) := by decide +kernel
theorem d_m1061_43 : decode prog_14_method_25_code 43 = .ok (.goto 4, 3) := by decide +kernel
theorem d_m1061_46 : decode prog_14_method_25_code 46 = .ok (.iconst 0, 1) := by decide +kernel
theorem d_m1061_47 : decode prog_14_method_25_code 47 = .ok (.putfield 172, 3) := by decide +kernel
theorem d_m1061_50 : decode prog_14_method_25_code 50 = .ok (.aload_n 0, 1) := by decide +kernel
theorem d_m1061_51 : decode prog_14_method_25_code 51 = .ok (.aload_n 0, 1) := by decide +kernel
theorem d_m1061_52 : decode prog_14_method_25_code 52 = .ok (.getfield 50, 3) := by decide +kernel
theorem d_m1061_55 : decode prog_14_method_25_code 55 = .ok (.iload_n 3, 1) := by decide +kernel
theorem d_m1061_56 : decode prog_14_method_25_code 56 = .ok (.iaload, 1) := by decide +kernel
theorem d_m1061_57 : decode prog_14_method_25_code 57 = .ok (.aload_n 0, 1) := by decide +kernel
theorem d_m1061_58 : decode prog_14_method_25_code 58 = .ok (.getfield 47, 3) := by decide +kernel
theorem d_m1061_61 : decode prog_14_method_25_code 61 = .ok (.iload_n 3, 1) := by decide +kernel
theorem d_m1061_62 : decode prog_14_method_25_code 62 = .ok (.iaload, 1) := by decide +kernel
theorem d_m1061_63 : decode prog_14_method_25_code 63 = .ok (.invokevirtual 178, 3) := by decide +kernel
theorem d_m1061_66 : decode prog_14_method_25_code 66 = .ok (.return_, 1) := by decide +kernel
theorem d_m1065_0 : decode prog_14_method_24_code 0 = .ok (.iload_n 2, 1) := by decide +kernel
theorem d_m1065_1 : decode prog_14_method_24_code 1 = .ok (.iconst 1, 1) := by decide +kernel
theorem d_m1065_2 : decode prog_14_method_24_code 2 = .ok (.isub, 1) := by decide +kernel
theorem d_m1065_3 : decode prog_14_method_24_code 3 = .ok (.istore_n 3, 1) := by decide +kernel
theorem d_m1065_4 : decode prog_14_method_24_code 4 = .ok (.iload_n 3, 1) := by decide +kernel
theorem d_m1065_5 : decode prog_14_method_24_code 5 = .ok (.ifCond .lt 18, 3) := by decide +kernel
theorem d_m1065_8 : decode prog_14_method_24_code 8 = .ok (.aload_n 0, 1) := by decide +kernel
theorem d_m1065_9 : decode prog_14_method_24_code 9 = .ok (.iload_n 1, 1) := by decide +kernel
theorem d_m1065_10 : decode prog_14_method_24_code 10 = .ok (.iload_n 3, 1) := by decide +kernel
theorem d_m1065_11 : decode prog_14_method_24_code 11 = .ok (.ishr, 1) := by decide +kernel
theorem d_m1065_12 : decode prog_14_method_24_code 12 = .ok (.iconst 1, 1) := by decide +kernel
theorem d_m1065_13 : decode prog_14_method_24_code 13 = .ok (.iand, 1) := by decide +kernel
theorem d_m1065_14 : decode prog_14_method_24_code 14 = .ok (.invokevirtual 175, 3) := by decide +kernel
theorem d_m1065_17 : decode prog_14_method_24_code 17 = .ok (.iinc 3 (-1), 3) := by decide +kernel
theorem d_m1065_20 : decode prog_14_method_24_code 20 = .ok (.goto (-16), 3) := by decide +kernel
theorem d_m1065_23 : decode prog_14_method_24_code 23 = .ok (.return_, 1) := by decide +kernel
theorem d_m1069_0 : decode prog_14_method_22_code 0 = .ok (.aload_n 0, 1) := by decide +kernel
theorem d_m1069_1 : decode prog_14_method_22_code 1 = .ok (.getfield 155, 3) := by decide +kernel
theorem d_m1069_4 : decode prog_14_method_22_code 4 = .ok (.ifCond .eq 4, 3) := by decide +kernel
theorem d_m1069_7 : decode prog_14_method_22_code 7 = .ok (.return_, 1) := by decide +kernel
theorem d_m1069_8 : decode prog_14_method_22_code 8 = .ok (.aload_n 0, 1) := by decide +kernel
theorem d_m1069_9 : decode prog_14_method_22_code 9 = .ok (.iconst 2, 1) := by decide +kernel
theorem d_m1069_10 : decode prog_14_method_22_code 10 = .ok (.aload_n 0, 1) := by decide +kernel
theorem d_m1069_11 : decode prog_14_method_22_code 11 = .ok (.getfield 159, 3) := by decide +kernel
theorem d_m1069_14 : decode prog_14_method_22_code 14 = .ok (.imul, 1) := by decide +kernel
theorem d_m1069_15 : decode prog_14_method_22_code 15 = .ok (.iload_n 1, 1) := by decide +kernel
theorem d_m1069_16 : decode prog_14_method_22_code 16 = .ok (.iadd, 1) := by decide +kernel
theorem d_m1069_17 : decode prog_14_method_22_code 17 = .ok (.putfield 159, 3) := by decide +kernel
theorem d_m1069_20 : decode prog_14_method_22_code 20 = .ok (.aload_n 0, 1) := by decide +kernel
theorem d_m1069_21 : decode prog_14_method_22_code 21 = .ok (.dup, 1) := by decide +kernel
theorem d_m1069_22 : decode prog_14_method_22_code 22 = .ok (.getfield 162, 3) := by decide +kernel
theorem d_m1069_25 : decode prog_14_method_22_code 25 = .ok (.iconst 1, 1) := by decide +kernel
theorem d_m1069_26 : decode prog_14_method_22_code 26 = .ok (.iadd, 1) := by decide +kernel
theorem d_m1069_27 : decode prog_14_method_22_code 27 = .ok (.putfield 162, 3) := by decide +kernel
theorem d_m1069_30 : decode prog_14_method_22_code 30 = .ok (.aload_n 0, 1) := by decide +kernel
theorem d_m1069_31 : decode prog_14_method_22_code 31 = .ok (.getfield 162, 3) := by decide +kernel
theorem d_m1069_34 : decode prog_14_method_22_code 34 = .ok (.bipush 8, 2) := by decide +kernel
theorem d_m1069_36 : decode prog_14_method_22_code 36 = .ok (.if_icmp .ne 36, 3) := by decide +kernel
theorem d_m1069_39 : decode prog_14_method_22_code 39 = .ok (.aload_n 0, 1) := by decide +kernel
theorem d_m1069_40 : decode prog_14_method_22_code 40 = .ok (.aload_n 0, 1) := by decide +kernel
theorem d_m1069_41 : decode prog_14_method_22_code 41 = .ok (.getfield 159, 3) := by decide +kernel
theorem d_m1069_44 : decode prog_14_method_22_code 44 = .ok (.invokevirtual 165, 3) := by decide +kernel
theorem d_m1069_47 : decode prog_14_method_22_code 47 = .ok (.aload_n 0, 1) := by decide +kernel
theorem d_m1069_48 : decode prog_14_method_22_code 48 = .ok (.getfield 159, 3) := by decide +kernel
theorem d_m1069_51 : decode prog_14_method_22_code 51 = .ok (.sipush 255, 3) := by decide +kernel
theorem d_m1069_54 : decode prog_14_method_22_code 54 = .ok (.if_icmp .ne 8, 3) := by decide +kernel
theorem d_m1069_57 : decode prog_14_method_22_code 57 = .ok (.aload_n 0, 1) := by decide +kernel
theorem d_m1069_58 : decode prog_14_method_22_code 58 = .ok (.iconst 0, 1) := by decide +kernel
theorem d_m1069_59 : decode prog_14_method_22_code 59 = .ok (.invokevirtual 165, 3) := by decide +kernel
theorem d_m1069_62 : decode prog_14_method_22_code 62 = .ok (.aload_n 0, 1) := by decide +kernel
theorem d_m1069_63 : decode prog_14_method_22_code 63 = .ok (.iconst 0, 1) := by decide +kernel
theorem d_m1069_64 : decode prog_14_method_22_code 64 = .ok (.putfield 159, 3) := by decide +kernel
theorem d_m1069_67 : decode prog_14_method_22_code 67 = .ok (.aload_n 0, 1) := by decide +kernel
theorem d_m1069_68 : decode prog_14_method_22_code 68 = .ok (.iconst 0, 1) := by decide +kernel
theorem d_m1069_69 : decode prog_14_method_22_code 69 = .ok (.putfield 162, 3) := by decide +kernel
theorem d_m1069_72 : decode prog_14_method_22_code 72 = .ok (.return_, 1) := by decide +kernel
theorem d_m1073_0 : decode prog_14_method_23_code 0 = .ok (.aload_n 0, 1) := by decide +kernel
theorem d_m1073_1 : decode prog_14_method_23_code 1 = .ok (.getfield 169, 3) := by decide +kernel
theorem d_m1073_4 : decode prog_14_method_23_code 4 = .ok (.sipush 16384, 3) := by decide +kernel
theorem d_m1073_7 : decode prog_14_method_23_code 7 = .ok (.if_icmp .ne 9, 3) := by decide +kernel
theorem d_m1073_10 : decode prog_14_method_23_code 10 = .ok (.aload_n 0, 1) := by decide +kernel
theorem d_m1073_11 : decode prog_14_method_23_code 11 = .ok (.iconst 1, 1) := by decide +kernel
theorem d_m1073_12 : decode prog_14_method_23_code 12 = .ok (.putfield 172, 3) := by decide +kernel
theorem d_m1073_15 : decode prog_14_method_23_code 15 = .ok (.return_, 1) := by decide +kernel
theorem d_m1073_16 : decode prog_14_method_23_code 16 = .ok (.aload_n 0, 1) := by decide +kernel
theorem d_m1073_17 : decode prog_14_method_23_code 17 = .ok (.getfield 63, 3) := by decide +kernel
theorem d_m1073_20 : decode prog_14_method_23_code 20 = .ok (.aload_n 0, 1) := by decide +kernel
theorem d_m1073_21 : decode prog_14_method_23_code 21 = .ok (.getfield 169, 3) := by decide +kernel
theorem d_m1073_24 : decode prog_14_method_23_code 24 = .ok (.iload_n 1, 1) := by decide +kernel
theorem d_m1073_25 : decode prog_14_method_23_code 25 = .ok (.i2b, 1) := by decide +kernel
theorem d_m1073_26 : decode prog_14_method_23_code 26 = .ok (.bastore, 1) := by decide +kernel
theorem d_m1073_27 : decode prog_14_method_23_code 27 = .ok (.aload_n 0, 1) := by decide +kernel
theorem d_m1073_28 : decode prog_14_method_23_code 28 = .ok (.dup, 1) := by decide +kernel
theorem d_m1073_29 : decode prog_14_method_23_code 29 = .ok (.getfield 169, 3) := by decide +kernel
theorem d_m1073_32 : decode prog_14_method_23_code 32 = .ok (.iconst 1, 1) := by decide +kernel
theorem d_m1073_33 : decode prog_14_method_23_code 33 = .ok (.iadd, 1) := by decide +kernel
theorem d_m1073_34 : decode prog_14_method_23_code 34 = .ok (.putfield 169, 3) := by decide +kernel
theorem d_m1073_37 : decode prog_14_method_23_code 37 = .ok (.return_, 1) := by decide +kernel
theorem d_m1077_0 : decode prog_14_method_37_code 0 = .ok (.aload_n 0, 1) := by decide +kernel
theorem d_m1077_1 : decode prog_14_method_37_code 1 = .ok (.getfield 162, 3) := by decide +kernel
theorem d_m1077_4 : decode prog_14_method_37_code 4 = .ok (.ifCond .le 11, 3) := by decide +kernel
theorem d_m1077_7 : decode prog_14_method_37_code 7 = .ok (.aload_n 0, 1) := by decide +kernel
theorem d_m1077_8 : decode prog_14_method_37_code 8 = .ok (.iconst 1, 1) := by decide +kernel
theorem d_m1077_9 : decode prog_14_method_37_code 9 = .ok (.invokevirtual 175, 3) := by decide +kernel
theorem d_m1077_12 : decode prog_14_method_37_code 12 = .ok (.goto (-12), 3) := by decide +kernel
theorem d_m1077_15 : decode prog_14_method_37_code 15 = .ok (.return_, 1) := by decide +kernel
theorem d_m1081_0 : decode prog_14_method_36_code 0 = .ok (.aload_n 0, 1) := by decide +kernel
theorem d_m1081_1 : decode prog_14_method_36_code 1 = .ok (.getfield 110, 3) := by decide +kernel
theorem d_m1081_4 : decode prog_14_method_36_code 4 = .ok (.iload_n 1, 1) := by decide +kernel
theorem d_m1081_5 : decode prog_14_method_36_code 5 = .ok (.ishr, 1) := by decide +kernel
theorem d_m1081_6 : decode prog_14_method_36_code 6 = .ok (.iconst 1, 1) := by decide +kernel
theorem d_m1081_7 : decode prog_14_method_36_code 7 = .ok (.iand, 1) := by decide +kernel
theorem d_m1081_8 : decode prog_14_method_36_code 8 = .ok (.ifCond .ne 7, 3) := by decide +kernel
theorem d_m1081_11 : decode prog_14_method_36_code 11 = .ok (.iconst 0, 1) := by decide +kernel
theorem d_m1081_12 : decode prog_14_method_36_code 12 = .ok (.goto 31, 3) := by decide +kernel
theorem d_m1081_15 : decode prog_14_method_36_code 15 = .ok (.aload_n 0, 1) := by decide +kernel
theorem d_m1081_16 : decode prog_14_method_36_code 16 = .ok (.getfield 110, 3) := by decide +kernel
theorem d_m1081_19 : decode prog_14_method_36_code 19 = .ok (.invokestatic 139, 3) := by decide +kernel
theorem d_m1081_22 : decode prog_14_method_36_code 22 = .ok (.iconst 1, 1) := by decide +kernel
theorem d_m1081_23 : decode prog_14_method_36_code 23 = .ok (.if_icmp .ne 7, 3) := by decide +kernel
theorem d_m1081_26 : decode prog_14_method_36_code 26 = .ok (.iconst 1, 1) := by decide +kernel
theorem d_m1081_27 : decode prog_14_method_36_code 27 = .ok (.goto 16, 3) := by decide +kernel
theorem d_m1081_30 : decode prog_14_method_36_code 30 = .ok (.aload_n 0, 1) := by decide +kernel
theorem d_m1081_31 : decode prog_14_method_36_code 31 = .ok (.getfield 7, 3) := by decide +kernel
theorem d_m1081_34 : decode prog_14_method_36_code 34 = .ok (.iload_n 1, 1) := by decide +kernel
theorem d_m1081_35 : decode prog_14_method_36_code 35 = .ok (.iaload, 1) := by decide +kernel
theorem d_m1081_36 : decode prog_14_method_36_code 36 = .ok (.aload_n 0, 1) := by decide +kernel
theorem d_m1081_37 : decode prog_14_method_36_code 37 = .ok (.getfield 13, 3) := by decide +kernel
theorem d_m1081_40 : decode prog_14_method_36_code 40 = .ok (.iload_n 1, 1) := by decide +kernel
theorem d_m1081_41 : decode prog_14_method_36_code 41 = .ok (.iaload, 1) := by decide +kernel
theorem d_m1081_42 : decode prog_14_method_36_code 42 = .ok (.imul, 1) := by decide +kernel
theorem d_m1081_43 : decode prog_14_method_36_code 43 = .ok (.ireturn, 1) := by decide +kernel
theorem d_m1085_0 : decode prog_14_method_35_code 0 = .ok (.aload_n 0, 1) := by decide +kernel
theorem d_m1085_1 : decode prog_14_method_35_code 1 = .ok (.getfield 110, 3) := by decide +kernel
theorem d_m1085_4 : decode prog_14_method_35_code 4 = .ok (.invokestatic 139, 3) := by decide +kernel
theorem d_m1085_7 : decode prog_14_method_35_code 7 = .ok (.iconst 1, 1) := by decide +kernel
theorem d_m1085_8 : decode prog_14_method_35_code 8 = .ok (.if_icmp .ne 28, 3) := by decide +kernel
theorem d_m1085_11 : decode prog_14_method_35_code 11 = .ok (.iload_n 2, 1) := by decide +kernel
theorem d_m1085_12 : decode prog_14_method_35_code 12 = .ok (.aload_n 0, 1) := by decide +kernel
theorem d_m1085_13 : decode prog_14_method_35_code 13 = .ok (.getfield 22, 3) := by decide +kernel
theorem d_m1085_16 : decode prog_14_method_35_code 16 = .ok (.iload_n 1, 1) := by decide +kernel
theorem d_m1085_17 : decode prog_14_method_35_code 17 = .ok (.iaload, 1) := by decide +kernel
theorem d_m1085_18 : decode prog_14_method_35_code 18 = .ok (.idiv, 1) := by decide +kernel
theorem d_m1085_19 : decode prog_14_method_35_code 19 = .ok (.aload_n 0, 1) := by decide +kernel
