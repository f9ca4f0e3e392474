theorem d_m1200_12 : decode prog_14_method_54_code 12 = .ok (.iadd, 1) := by decide +kernel
theorem d_m1200_13 : decode prog_14_method_54_code 13 = .ok (.istore 4, 2) := by decide +kernel
theorem d_m1200_15 : decode prog_14_method_54_code 15 = .ok (.iconst 1, 1) := by decide +kernel
theorem d_m1200_16 : decode prog_14_method_54_code 16 = .ok (.aload_n 0, 1) := by decide +kernel
theorem d_m1200_17 : decode prog_14_method_54_code 17 = .ok (.getfield 122, 3) := by decide +kernel
theorem d_m1200_20 : decode prog_14_method_54_code 20 = .ok (.ishl, 1) := by decide +kernel
theorem d_m1200_21 : decode prog_14_method_54_code 21 = .ok (.istore 5, 2) := by decide +kernel
theorem d_m1200_23 : decode prog_14_method_54_code 23 = .ok (.aload_n 0, 1) := by decide +kernel
theorem d_m1200_24 : decode prog_14_method_54_code 24 = .ok (.getfield 31, 3) := by decide +kernel
theorem d_m1200_27 : decode prog_14_method_54_code 27 = .ok (.iload 4, 2) := by decide +kernel
theorem d_m1200_29 : decode prog_14_method_54_code 29 = .ok (.saload, 1) := by decide +kernel
theorem d_m1200_30 : decode prog_14_method_54_code 30 = .ok (.ifCond .ge 14, 3) := by decide +kernel
theorem d_m1200_33 : decode prog_14_method_54_code 33 = .ok (.aload_n 0, 1) := by decide +kernel
theorem d_m1200_34 : decode prog_14_method_54_code 34 = .ok (.getfield 31, 3) := by decide +kernel
theorem d_m1200_37 : decode prog_14_method_54_code 37 = .ok (.iload 4, 2) := by decide +kernel
theorem d_m1200_39 : decode prog_14_method_54_code 39 = .ok (.saload, 1) := by decide +kernel
theorem d_m1200_40 : decode prog_14_method_54_code 40 = .ok (.ineg, 1) := by decide +kernel
theorem d_m1200_41 : decode prog_14_method_54_code 41 = .ok (.goto 10, 3) := by decide +kernel
theorem d_m1200_44 : decode prog_14_method_54_code 44 = .ok (.aload_n 0, 1) := by decide +kernel
theorem d_m1200_45 : decode prog_14_method_54_code 45 = .ok (.getfield 31, 3) := by decide +kernel
theorem d_m1200_48 : decode prog_14_method_54_code 48 = .ok (.iload 4, 2) := by decide +kernel
theorem d_m1200_50 : decode prog_14_method_54_code 50 = .ok (.saload, 1) := by decide +kernel
theorem d_m1200_51 : decode prog_14_method_54_code 51 = .ok (.istore 6, 2) := by decide +kernel
theorem d_m1200_53 : decode prog_14_method_54_code 53 = .ok (.aload_n 0, 1) := by decide +kernel
theorem d_m1200_54 : decode prog_14_method_54_code 54 = .ok (.invokevirtual 262, 3) := by decide +kernel
theorem d_m1200_57 : decode prog_14_method_54_code 57 = .ok (.iconst 1, 1) := by decide +kernel
theorem d_m1200_58 : decode prog_14_method_54_code 58 = .ok (.if_icmp .ne 52, 3) := by decide +kernel
theorem d_m1200_61 : decode prog_14_method_54_code 61 = .ok (.iload 6, 2) := by decide +kernel
theorem d_m1200_63 : decode prog_14_method_54_code 63 = .ok (.iload 5, 2) := by decide +kernel
theorem d_m1200_65 : decode prog_14_method_54_code 65 = .ok (.iand, 1) := by decide +kernel
theorem d_m1200_66 : decode prog_14_method_54_code 66 = .ok (.ifCond .ne 44, 3) := by decide +kernel
theorem d_m1200_69 : decode prog_14_method_54_code 69 = .ok (.aload_n 0, 1) := by decide +kernel
theorem d_m1200_70 : decode prog_14_method_54_code 70 = .ok (.getfield 31, 3) := by decide +kernel
theorem d_m1200_73 : decode prog_14_method_54_code 73 = .ok (.iload 4, 2) := by decide +kernel
theorem d_m1200_75 : decode prog_14_method_54_code 75 = .ok (.aload_n 0, 1) := by decide +kernel
theorem d_m1200_76 : decode prog_14_method_54_code 76 = .ok (.getfield 31, 3) := by decide +kernel
theorem d_m1200_79 : decode prog_14_method_54_code 79 = .ok (.iload 4, 2) := by decide +kernel
theorem d_m1200_81 : decode prog_14_method_54_code 81 = .ok (.saload, 1) := by decide +kernel
theorem d_m1200_82 : decode prog_14_method_54_code 82 = .ok (.ifCond .ge 16, 3) := by decide +kernel
theorem d_m1200_85 : decode prog_14_method_54_code 85 = .ok (.aload_n 0, 1) := by decide +kernel
theorem d_m1200_86 : decode prog_14_method_54_code 86 = .ok (.getfield 31, 3) := by decide +kernel
theorem d_m1200_89 : decode prog_14_method_54_code 89 = .ok (.iload 4, 2) := by decide +kernel
theorem d_m1200_91 : decode prog_14_method_54_code 91 = .ok (.saload, 1) := by decide +kernel
theorem d_m1200_92 : decode prog_14_method_54_code 92 = .ok (.iload 5, 2) := by decide +kernel
theorem d_m1200_94 : decode prog_14_method_54_code 94 = .ok (.isub, 1) := by decide +kernel
theorem d_m1200_95 : decode prog_14_method_54_code 95 = .ok (.goto 13, 3) := by decide +kernel
theorem d_m1200_98 : decode prog_14_method_54_code 98 = .ok (.aload_n 0, 1) := by decide +kernel
theorem d_m1200_99 : decode prog_14_method_54_code 99 = .ok (.getfield 31, 3) := by decide +kernel
theorem d_m1200_102 : decode prog_14_method_54_code 102 = .ok (.iload 4, 2) := by decide +kernel
theorem d_m1200_104 : decode prog_14_method_54_code 104 = .ok (.saload, 1) := by decide +kernel
theorem d_m1200_105 : decode prog_14_method_54_code 105 = .ok (.iload 5, 2) := by decide +kernel
theorem d_m1200_107 : decode prog_14_method_54_code 107 = .ok (.iadd, 1) := by decide +kernel
theorem d_m1200_108 : decode prog_14_method_54_code 108 = .ok (.i2s, 1) := by decide +kernel
theorem d_m1200_109 : decode prog_14_method_54_code 109 = .ok (.sastore, 1) := by decide +kernel
theorem d_m1200_110 : decode prog_14_method_54_code 110 = .ok (.return_, 1) := by decide +kernel
theorem d_m1204_0 : decode prog_14_method_61_code 0 = .ok (.aload_n 0, 1) := by decide +kernel
theorem d_m1204_1 : decode prog_14_method_61_code 1 = .ok (.iconst 0, 1) := by decide +kernel
theorem d_m1204_2 : decode prog_14_method_61_code 2 = .ok (.putfield 87, 3) := by decide +kernel
theorem d_m1204_5 : decode prog_14_method_61_code 5 = .ok (.iconst 0, 1) := by decide +kernel
theorem d_m1204_6 : decode prog_14_method_61_code 6 = .ok (.istore_n 2, 1) := by decide +kernel
theorem d_m1204_7 : decode prog_14_method_61_code 7 = .ok (.iconst 0, 1) := by decide +kernel
theorem d_m1204_8 : decode prog_14_method_61_code 8 = .ok (.istore_n 3, 1) := by decide +kernel
theorem d_m1204_9 : decode prog_14_method_61_code 9 = .ok (.iload_n 3, 1) := by decide +kernel
theorem d_m1204_10 : decode prog_14_method_61_code 10 = .ok (.aload_n 0, 1) := by decide +kernel
theorem d_m1204_11 : decode prog_14_method_61_code 11 = .ok (.getfield 101, 3) := by decide +kernel
theorem d_m1204_14 : decode prog_14_method_61_code 14 = .ok (.if_icmp .ge 25, 3) := by decide +kernel
theorem d_m1204_17 : decode prog_14_method_61_code 17 = .ok (.iload_n 2, 1) := by decide +kernel
theorem d_m1204_18 : decode prog_14_method_61_code 18 = .ok (.aload_n 0, 1) := by decide +kernel
theorem d_m1204_19 : decode prog_14_method_61_code 19 = .ok (.getfield 16, 3) := by decide +kernel
theorem d_m1204_22 : decode prog_14_method_61_code 22 = .ok (.iload_n 3, 1) := by decide +kernel
theorem d_m1204_23 : decode prog_14_method_61_code 23 = .ok (.iaload, 1) := by decide +kernel
theorem d_m1204_24 : decode prog_14_method_61_code 24 = .ok (.aload_n 0, 1) := by decide +kernel
theorem d_m1204_25 : decode prog_14_method_61_code 25 = .ok (.getfield 19, 3) := by decide +kernel
theorem d_m1204_28 : decode prog_14_method_61_code 28 = .ok (.iload_n 3, 1) := by decide +kernel
theorem d_m1204_29 : decode prog_14_method_61_code 29 = .ok (.iaload, 1) := by decide +kernel
theorem d_m1204_30 : decode prog_14_method_61_code 30 = .ok (.imul, 1) := by decide +kernel
theorem d_m1204_31 : decode prog_14_method_61_code 31 = .ok (.iadd, 1) := by decide +kernel
theorem d_m1204_32 : decode prog_14_method_61_code 32 = .ok (.istore_n 2, 1) := by decide +kernel
theorem d_m1204_33 : decode prog_14_method_61_code 33 = .ok (.iinc 3 1, 3) := by decide +kernel
theorem d_m1204_36 : decode prog_14_method_61_code 36 = .ok (.goto (-27), 3) := by decide +kernel
theorem d_m1204_39 : decode prog_14_method_61_code 39 = .ok (.iconst 0, 1) := by decide +kernel
theorem d_m1204_40 : decode prog_14_method_61_code 40 = .ok (.istore_n 3, 1) := by decide +kernel
theorem d_m1204_41 : decode prog_14_method_61_code 41 = .ok (.iconst 0, 1) := by decide +kernel
theorem d_m1204_42 : decode prog_14_method_61_code 42 = .ok (.istore 4, 2) := by decide +kernel
theorem d_m1204_44 : decode prog_14_method_61_code 44 = .ok (.iload 4, 2) := by decide +kernel
theorem d_m1204_46 : decode prog_14_method_61_code 46 = .ok (.bipush 64, 2) := by decide +kernel
theorem d_m1204_48 : decode prog_14_method_61_code 48 = .ok (.iload_n 2, 1) := by decide +kernel
theorem d_m1204_49 : decode prog_14_method_61_code 49 = .ok (.imul, 1) := by decide +kernel
theorem d_m1204_50 : decode prog_14_method_61_code 50 = .ok (.if_icmp .ge 27, 3) := by decide +kernel
theorem d_m1204_53 : decode prog_14_method_61_code 53 = .ok (.iload_n 3, 1) := by decide +kernel
theorem d_m1204_54 : decode prog_14_method_61_code 54 = .ok (.aload_n 0, 1) := by decide +kernel
theorem d_m1204_55 : decode prog_14_method_61_code 55 = .ok (.getfield 31, 3) := by decide +kernel
theorem d_m1204_58 : decode prog_14_method_61_code 58 = .ok (.iload 4, 2) := by decide +kernel
theorem d_m1204_60 : decode prog_14_method_61_code 60 = .ok (.saload, 1) := by decide +kernel
theorem d_m1204_61 : decode prog_14_method_61_code 61 = .ok (.ifCond .eq 7, 3) := by decide +kernel
theorem d_m1204_64 : decode prog_14_method_61_code 64 = .ok (.iconst 1, 1) := by decide +kernel
theorem d_m1204_65 : decode prog_14_method_61_code 65 = .ok (.goto 4, 3) := by decide +kernel
theorem d_m1204_68 : decode prog_14_method_61_code 68 = .ok (.iconst 0, 1) := by decide +kernel
theorem d_m1204_69 : decode prog_14_method_61_code 69 = .ok (.iadd, 1) := by decide +kernel
theorem d_m1204_70 : decode prog_14_method_61_code 70 = .ok (.istore_n 3, 1) := by decide +kernel
theorem d_m1204_71 : decode prog_14_method_61_code 71 = .ok (.iinc 4 1, 3) := by decide +kernel
theorem d_m1204_74 : decode prog_14_method_61_code 74 = .ok (.goto (-30), 3) := by decide +kernel
theorem d_m1204_77 : decode prog_14_method_61_code 77 = .ok (.iconst 0, 1) := by decide +kernel
theorem d_m1204_78 : decode prog_14_method_61_code 78 = .ok (.istore 4, 2) := by decide +kernel
theorem d_m1204_80 : decode prog_14_method_61_code 80 = .ok (.iconst 0, 1) := by decide +kernel
theorem d_m1204_81 : decode prog_14_method_61_code 81 = .ok (.istore 5, 2) := by decide +kernel
theorem d_m1204_83 : decode prog_14_method_61_code 83 = .ok (.iload 5, 2) := by decide +kernel
theorem d_m1204_85 : decode prog_14_method_61_code 85 = .ok (.bipush 8, 2) := by decide +kernel
theorem d_m1204_87 : decode prog_14_method_61_code 87 = .ok (.if_icmp .ge 21, 3) := by decide +kernel
theorem d_m1204_90 : decode prog_14_method_61_code 90 = .ok (.iload 4, 2) := by decide +kernel
theorem d_m1204_92 : decode prog_14_method_61_code 92 = .ok (.aload_n 0, 1) := by decide +kernel
theorem d_m1204_93 : decode prog_14_method_61_code 93 = .ok (.getfield 44, 3) := by decide +kernel
theorem d_m1204_96 : decode prog_14_method_61_code 96 = .ok (.iload 5, 2) := by decide +kernel
theorem d_m1204_98 : decode prog_14_method_61_code 98 = .ok (.iaload, 1) := by decide +kernel
theorem d_m1204_99 : decode prog_14_method_61_code 99 = .ok (.iadd, 1) := by decide +kernel
theorem d_m1204_100 : decode prog_14_method_61_code 100 = .ok (.istore 4, 2) := by decide +kernel
theorem d_m1204_102 : decode prog_14_method_61_code 102 = .ok (.iinc 5 1, 3) := by decide +kernel
theorem d_m1204_105 : decode prog_14_method_61_code 105 = .ok (.goto (-22), 3) := by decide +kernel
theorem d_m1204_108 : decode prog_14_method_61_code 108 = .ok (.iload_n 1, 1) := by decide +kernel
theorem d_m1204_109 : decode prog_14_method_61_code 109 = .ok (.bipush 8, 2) := by decide +kernel
theorem d_m1204_111 : decode prog_14_method_61_code 111 = .ok (.if_icmp .lt 84, 3) := by decide +kernel
theorem d_m1204_114 : decode prog_14_method_61_code 114 = .ok (.iload_n 1, 1) := by decide +kernel
theorem d_m1204_115 : decode prog_14_method_61_code 115 = .ok (.bipush 8, 2) := by decide +kernel
theorem d_m1204_117 : decode prog_14_method_61_code 117 = .ok (.iconst 4, 1) := by decide +kernel
theorem d_m1204_118 : decode prog_14_method_61_code 118 = .ok (.aload_n 0, 1) := by decide +kernel
theorem d_m1204_119 : decode prog_14_method_61_code 119 = .ok (.getfield 101, 3) := by decide +kernel
theorem d_m1204_122 : decode prog_14_method_61_code 122 = .ok (.imul, 1) := by decide +kernel
theorem d_m1204_123 : decode prog_14_method_61_code 123 = .ok (.iadd, 1) := by decide +kernel
theorem d_m1204_124 : decode prog_14_method_61_code 124 = .ok (.if_icmp .ge 71, 3) := by decide +kernel
theorem d_m1204_127 : decode prog_14_method_61_code 127 = .ok (.iload_n 1, 1) := by decide +kernel
theorem d_m1204_128 : decode prog_14_method_61_code 128 = .ok (.bipush 8, 2) := by decide +kernel
theorem d_m1204_130 : decode prog_14_method_61_code 130 = .ok (.isub, 1) := by decide +kernel
theorem d_m1204_131 : decode prog_14_method_61_code 131 = .ok (.iconst 4, 1) := by decide +kernel
theorem d_m1204_132 : decode prog_14_method_61_code 132 = .ok (.idiv, 1) := by decide +kernel
theorem d_m1204_133 : decode prog_14_method_61_code 133 = .ok (.istore 5, 2) := by decide +kernel
theorem d_m1204_135 : decode prog_14_method_61_code 135 = .ok (.iload_n 1, 1) := by decide +kernel
theorem d_m1204_136 : decode prog_14_method_61_code 136 = .ok (.iconst 4, 1) := by decide +kernel
theorem d_m1204_137 : decode prog_14_method_61_code 137 = .ok (.irem, 1) := by decide +kernel
theorem d_m1204_138 : decode prog_14_method_61_code 138 = .ok (.istore 6, 2) := by decide +kernel
theorem d_m1204_140 : decode prog_14_method_61_code 140 = .ok (.iload 6, 2) := by decide +kernel
theorem d_m1204_142 : decode prog_14_method_61_code 142 = .ok (.ifCond .ne 13, 3) := by decide +kernel
theorem d_m1204_145 : decode prog_14_method_61_code 145 = .ok (.aload_n 0, 1) := by decide +kernel
theorem d_m1204_146 : decode prog_14_method_61_code 146 = .ok (.getfield 16, 3) := by decide +kernel
theorem d_m1204_149 : decode prog_14_method_61_code 149 = .ok (.iload 5, 2) := by decide +kernel
theorem d_m1204_151 : decode prog_14_method_61_code 151 = .ok (.iaload, 1) := by decide +kernel
theorem d_m1204_152 : decode prog_14_method_61_code 152 = .ok (.goto 42, 3) := by decide +kernel
theorem d_m1204_155 : decode prog_14_method_61_code 155 = .ok (.iload 6, 2) := by decide +kernel
theorem d_m1204_157 : decode prog_14_method_61_code 157 = .ok (.iconst 1, 1) := by decide +kernel
theorem d_m1204_158 : decode prog_14_method_61_code 158 = .ok (.if_icmp .ne 13, 3) := by decide +kernel
theorem d_m1204_161 : decode prog_14_method_61_code 161 = .ok (.aload_n 0, 1) := by decide +kernel
theorem d_m1204_162 : decode prog_14_method_61_code 162 = .ok (.getfield 19, 3) := by decide +kernel
theorem d_m1204_165 : decode prog_14_method_61_code 165 = .ok (.iload 5, 2) := by decide +kernel
theorem d_m1204_167 : decode prog_14_method_61_code 167 = .ok (.iaload, 1) := by decide +kernel
theorem d_m1204_168 : decode prog_14_method_61_code 168 = .ok (.goto 26, 3) := by decide +kernel
theorem d_m1204_171 : decode prog_14_method_61_code 171 = .ok (.iload 6, 2) := by decide +kernel
theorem d_m1204_173 : decode prog_14_method_61_code 173 = .ok (.iconst 2, 1) := by decide +kernel
theorem d_m1204_174 : decode prog_14_method_61_code 174 = .ok (.if_icmp .ne 13, 3) := by decide +kernel
theorem d_m1204_177 : decode prog_14_method_61_code 177 = .ok (.aload_n 0, 1) := by decide +kernel
theorem d_m1204_178 : decode prog_14_method_61_code 178 = .ok (.getfield 22, 3) := by decide +kernel
theorem d_m1204_181 : decode prog_14_method_61_code 181 = .ok (.iload 5, 2) := by decide +kernel
theorem d_m1204_183 : decode prog_14_method_61_code 183 = .ok (.iaload, 1) := by decide +kernel
theorem d_m1204_184 : decode prog_14_method_61_code 184 = .ok (.goto 10, 3) := by decide +kernel
theorem d_m1204_187 : decode prog_14_method_61_code 187 = .ok (.aload_n 0, 1) := by decide +kernel
theorem d_m1204_188 : decode prog_14_method_61_code 188 = .ok (.getfield 25, 3) := by decide +kernel
theorem d_m1204_191 : decode prog_14_method_61_code 191 = .ok (.iload 5, 2) := by decide +kernel
theorem d_m1204_193 : decode prog_14_method_61_code 193 = .ok (.iaload, 1) := by decide +kernel
theorem d_m1204_194 : decode prog_14_method_61_code 194 = .ok (.ireturn, 1) := by decide +kernel
theorem d_m1204_195 : decode prog_14_method_61_code 195 = .ok (.iload_n 1, 1) := by decide +kernel
theorem d_m1204_196 : decode prog_14_method_61_code 196 = .ok (.ifCond .ne 10, 3) := by decide +kernel
theorem d_m1204_199 : decode prog_14_method_61_code 199 = .ok (.aload_n 0, 1) := by decide +kernel
theorem d_m1204_200 : decode prog_14_method_61_code 200 = .ok (.getfield 241, 3) := by decide +kernel
theorem d_m1204_203 : decode prog_14_method_61_code 203 = .ok (.goto 56, 3) := by decide +kernel
theorem d_m1204_206 : decode prog_14_method_61_code 206 = .ok (.iload_n 1, 1) := by decide +kernel
theorem d_m1204_207 : decode prog_14_method_61_code 207 = .ok (.iconst 1, 1) := by decide +kernel
theorem d_m1204_208 : decode prog_14_method_61_code 208 = .ok (.if_icmp .ne 7, 3) := by decide +kernel
theorem d_m1204_211 : decode prog_14_method_61_code 211 = .ok (.iload_n 2, 1) := by decide +kernel
theorem d_m1204_212 : decode prog_14_method_61_code 212 = .ok (.goto 47, 3) := by decide +kernel
theorem d_m1204_215 : decode prog_14_method_61_code 215 = .ok (.iload_n 1, 1) := by decide +kernel
theorem d_m1204_216 : decode prog_14_method_61_code 216 = .ok (.iconst 2, 1) := by decide +kernel
theorem d_m1204_217 : decode prog_14_method_61_code 217 = .ok (.if_icmp .ne 10, 3) := by decide +kernel
theorem d_m1204_220 : decode prog_14_method_61_code 220 = .ok (.aload_n 0, 1) := by decide +kernel
theorem d_m1204_221 : decode prog_14_method_61_code 221 = .ok (.invokevirtual 223, 3) := by decide +kernel
theorem d_m1204_224 : decode prog_14_method_61_code 224 = .ok (.goto 35, 3) := by decide +kernel
theorem d_m1204_227 : decode prog_14_method_61_code 227 = .ok (.iload_n 1, 1) := by decide +kernel
theorem d_m1204_228 : decode prog_14_method_61_code 228 = .ok (.iconst 3, 1) := by decide +kernel
theorem d_m1204_229 : decode prog_14_method_61_code 229 = .ok (.if_icmp .ne 10, 3) := by decide +kernel
theorem d_m1204_232 : decode prog_14_method_61_code 232 = .ok (.aload_n 0, 1) := by decide +kernel
theorem d_m1204_233 : decode prog_14_method_61_code 233 = .ok (.getfield 125, 3) := by decide +kernel
theorem d_m1204_236 : decode prog_14_method_61_code 236 = .ok (.goto 23, 3) := by decide +kernel
theorem d_m1204_239 : decode prog_14_method_61_code 239 = .ok (.iload_n 1, 1) := by decide +kernel
theorem d_m1204_240 : decode prog_14_method_61_code 240 = .ok (.iconst 4, 1) := by decide +kernel
theorem d_m1204_241 : decode prog_14_method_61_code 241 = .ok (.if_icmp .ne 7, 3) := by decide +kernel
theorem d_m1204_244 : decode prog_14_method_61_code 244 = .ok (.iload_n 3, 1) := by decide +kernel
theorem d_m1204_245 : decode prog_14_method_61_code 245 = .ok (.goto 14, 3) := by decide +kernel
theorem d_m1204_248 : decode prog_14_method_61_code 248 = .ok (.iload_n 1, 1) := by decide +kernel
theorem d_m1204_249 : decode prog_14_method_61_code 249 = .ok (.iconst 5, 1) := by decide +kernel
theorem d_m1204_250 : decode prog_14_method_61_code 250 = .ok (.if_icmp .ne 8, 3) := by decide +kernel
theorem d_m1204_253 : decode prog_14_method_61_code 253 = .ok (.iload 4, 2) := by decide +kernel
theorem d_m1204_255 : decode prog_14_method_61_code 255 = .ok (.goto 4, 3) := by decide +kernel
theorem d_m1204_258 : decode prog_14_method_61_code 258 = .ok (.iconst (-1), 1) := by decide +kernel
theorem d_m1204_259 : decode prog_14_method_61_code 259 = .ok (.ireturn, 1) := by decide +kernel
