theorem d_m629_45 : decode prog_8_method_9_code 45 = .ok (.land, 1) := by decide +kernel
theorem d_m629_46 : decode prog_8_method_9_code 46 = .ok (.l2i, 1) := by decide +kernel
theorem d_m629_47 : decode prog_8_method_9_code 47 = .ok (.i2b, 1) := by decide +kernel
theorem d_m629_48 : decode prog_8_method_9_code 48 = .ok (.bastore, 1) := by decide +kernel
theorem d_m629_49 : decode prog_8_method_9_code 49 = .ok (.aload_n 0, 1) := by decide +kernel
theorem d_m629_50 : decode prog_8_method_9_code 50 = .ok (.dup, 1) := by decide +kernel
theorem d_m629_51 : decode prog_8_method_9_code 51 = .ok (.getfield 104, 3) := by decide +kernel
theorem d_m629_54 : decode prog_8_method_9_code 54 = .ok (.iconst 1, 1) := by decide +kernel
theorem d_m629_55 : decode prog_8_method_9_code 55 = .ok (.iadd, 1) := by decide +kernel
theorem d_m629_56 : decode prog_8_method_9_code 56 = .ok (.putfield 104, 3) := by decide +kernel
theorem d_m629_59 : decode prog_8_method_9_code 59 = .ok (.iinc 4 (-1), 3) := by decide +kernel
theorem d_m629_62 : decode prog_8_method_9_code 62 = .ok (.goto (-47), 3) := by decide +kernel
theorem d_m629_65 : decode prog_8_method_9_code 65 = .ok (.return_, 1) := by decide +kernel
theorem d_m633_0 : decode prog_8_method_7_code 0 = .ok (.aload_n 0, 1) := by decide +kernel
theorem d_m633_1 : decode prog_8_method_7_code 1 = .ok (.iload_n 1, 1) := by decide +kernel
theorem d_m633_2 : decode prog_8_method_7_code 2 = .ok (.invokevirtual 139, 3) := by decide +kernel
theorem d_m633_5 : decode prog_8_method_7_code 5 = .ok (.istore_n 2, 1) := by decide +kernel
theorem d_m633_6 : decode prog_8_method_7_code 6 = .ok (.iconst 0, 1) := by decide +kernel
theorem d_m633_7 : decode prog_8_method_7_code 7 = .ok (.istore_n 3, 1) := by decide +kernel
theorem d_m633_8 : decode prog_8_method_7_code 8 = .ok (.lconst 0, 1) := by decide +kernel
theorem d_m633_9 : decode prog_8_method_7_code 9 = .ok (.lstore 4, 2) := by decide +kernel
theorem d_m633_11 : decode prog_8_method_7_code 11 = .ok (.iconst 0, 1) := by decide +kernel
theorem d_m633_12 : decode prog_8_method_7_code 12 = .ok (.istore 6, 2) := by decide +kernel
theorem d_m633_14 : decode prog_8_method_7_code 14 = .ok (.aload_n 0, 1) := by decide +kernel
theorem d_m633_15 : decode prog_8_method_7_code 15 = .ok (.getfield 23, 3) := by decide +kernel
theorem d_m633_18 : decode prog_8_method_7_code 18 = .ok (.getfield 95, 3) := by decide +kernel
theorem d_m633_21 : decode prog_8_method_7_code 21 = .ok (.istore 7, 2) := by decide +kernel
theorem d_m633_23 : decode prog_8_method_7_code 23 = .ok (.iload 7, 2) := by decide +kernel
theorem d_m633_25 : decode prog_8_method_7_code 25 = .ok (.aload_n 0, 1) := by decide +kernel
theorem d_m633_26 : decode prog_8_method_7_code 26 = .ok (.getfield 23, 3) := by decide +kernel
theorem d_m633_29 : decode prog_8_method_7_code 29 = .ok (.getfield 128, 3) := by decide +kernel
theorem d_m633_32 : decode prog_8_method_7_code 32 = .ok (.if_icmp .gt 178, 3) := by decide +kernel
theorem d_m633_35 : decode prog_8_method_7_code 35 = .ok (.aload_n 0, 1) := by decide +kernel
theorem d_m633_36 : decode prog_8_method_7_code 36 = .ok (.getfield 19, 3) := by decide +kernel
theorem d_m633_39 : decode prog_8_method_7_code 39 = .ok (.getfield 82, 3) := by decide +kernel
theorem d_m633_42 : decode prog_8_method_7_code 42 = .ok (.iload_n 1, 1) := by decide +kernel
theorem d_m633_43 : decode prog_8_method_7_code 43 = .ok (.iload 7, 2) := by decide +kernel
theorem d_m633_45 : decode prog_8_method_7_code 45 = .ok (.iadd, 1) := by decide +kernel
theorem d_m633_46 : decode prog_8_method_7_code 46 = .ok (.saload, 1) := by decide +kernel
theorem d_m633_47 : decode prog_8_method_7_code 47 = .ok (.istore 8, 2) := by decide +kernel
theorem d_m633_49 : decode prog_8_method_7_code 49 = .ok (.iload 8, 2) := by decide +kernel
theorem d_m633_51 : decode prog_8_method_7_code 51 = .ok (.invokestatic 131, 3) := by decide +kernel
theorem d_m633_54 : decode prog_8_method_7_code 54 = .ok (.aload_n 0, 1) := by decide +kernel
theorem d_m633_55 : decode prog_8_method_7_code 55 = .ok (.getfield 23, 3) := by decide +kernel
theorem d_m633_58 : decode prog_8_method_7_code 58 = .ok (.getfield 88, 3) := by decide +kernel
theorem d_m633_61 : decode prog_8_method_7_code 61 = .ok (.ishr, 1) := by decide +kernel
theorem d_m633_62 : decode prog_8_method_7_code 62 = .ok (.istore 9, 2) := by decide +kernel
theorem d_m633_64 : decode prog_8_method_7_code 64 = .ok (.iload 9, 2) := by decide +kernel
theorem d_m633_66 : decode prog_8_method_7_code 66 = .ok (.ifCond .ne 9, 3) := by decide +kernel
theorem d_m633_69 : decode prog_8_method_7_code 69 = .ok (.iinc 3 1, 3) := by decide +kernel
theorem d_m633_72 : decode prog_8_method_7_code 72 = .ok (.goto 132, 3) := by decide +kernel
theorem d_m633_75 : decode prog_8_method_7_code 75 = .ok (.iload_n 3, 1) := by decide +kernel
theorem d_m633_76 : decode prog_8_method_7_code 76 = .ok (.bipush 15, 2) := by decide +kernel
theorem d_m633_78 : decode prog_8_method_7_code 78 = .ok (.if_icmp .le 47, 3) := by decide +kernel
theorem d_m633_81 : decode prog_8_method_7_code 81 = .ok (.iload 7, 2) := by decide +kernel
theorem d_m633_83 : decode prog_8_method_7_code 83 = .ok (.iload_n 2, 1) := by decide +kernel
theorem d_m633_84 : decode prog_8_method_7_code 84 = .ok (.if_icmp .gt 41, 3) := by decide +kernel
theorem d_m633_87 : decode prog_8_method_7_code 87 = .ok (.aload_n 0, 1) := by decide +kernel
theorem d_m633_88 : decode prog_8_method_7_code 88 = .ok (.invokevirtual 107, 3) := by decide +kernel
theorem d_m633_91 : decode prog_8_method_7_code 91 = .ok (.aload_n 0, 1) := by decide +kernel
theorem d_m633_92 : decode prog_8_method_7_code 92 = .ok (.getfield 27, 3) := by decide +kernel
theorem d_m633_95 : decode prog_8_method_7_code 95 = .ok (.aload_n 0, 1) := by decide +kernel
theorem d_m633_96 : decode prog_8_method_7_code 96 = .ok (.getfield 69, 3) := by decide +kernel
theorem d_m633_99 : decode prog_8_method_7_code 99 = .ok (.sipush 240, 3) := by decide +kernel
theorem d_m633_102 : decode prog_8_method_7_code 102 = .ok (.invokevirtual 125, 3) := by decide +kernel
theorem d_m633_105 : decode prog_8_method_7_code 105 = .ok (.aload_n 0, 1) := by decide +kernel
theorem d_m633_106 : decode prog_8_method_7_code 106 = .ok (.getfield 27, 3) := by decide +kernel
theorem d_m633_109 : decode prog_8_method_7_code 109 = .ok (.lload 4, 2) := by decide +kernel
theorem d_m633_111 : decode prog_8_method_7_code 111 = .ok (.iload 6, 2) := by decide +kernel
theorem d_m633_113 : decode prog_8_method_7_code 113 = .ok (.invokevirtual 91, 3) := by decide +kernel
theorem d_m633_116 : decode prog_8_method_7_code 116 = .ok (.iconst 0, 1) := by decide +kernel
theorem d_m633_117 : decode prog_8_method_7_code 117 = .ok (.istore 6, 2) := by decide +kernel
theorem d_m633_119 : decode prog_8_method_7_code 119 = .ok (.iinc 3 (-16), 3) := by decide +kernel
theorem d_m633_122 : decode prog_8_method_7_code 122 = .ok (.goto (-47), 3) := by decide +kernel
theorem d_m633_125 : decode prog_8_method_7_code 125 = .ok (.iload 9, 2) := by decide +kernel
theorem d_m633_127 : decode prog_8_method_7_code 127 = .ok (.iconst 1, 1) := by decide +kernel
theorem d_m633_128 : decode prog_8_method_7_code 128 = .ok (.if_icmp .le 21, 3) := by decide +kernel
theorem d_m633_131 : decode prog_8_method_7_code 131 = .ok (.lload 4, 2) := by decide +kernel
theorem d_m633_133 : decode prog_8_method_7_code 133 = .ok (.iconst 1, 1) := by decide +kernel
theorem d_m633_134 : decode prog_8_method_7_code 134 = .ok (.lshl, 1) := by decide +kernel
theorem d_m633_135 : decode prog_8_method_7_code 135 = .ok (.iload 9, 2) := by decide +kernel
theorem d_m633_137 : decode prog_8_method_7_code 137 = .ok (.iconst 1, 1) := by decide +kernel
theorem d_m633_138 : decode prog_8_method_7_code 138 = .ok (.iand, 1) := by decide +kernel
theorem d_m633_139 : decode prog_8_method_7_code 139 = .ok (.i2l, 1) := by decide +kernel
theorem d_m633_140 : decode prog_8_method_7_code 140 = .ok (.lor, 1) := by decide +kernel
theorem d_m633_141 : decode prog_8_method_7_code 141 = .ok (.lstore 4, 2) := by decide +kernel
theorem d_m633_143 : decode prog_8_method_7_code 143 = .ok (.iinc 6 1, 3) := by decide +kernel
theorem d_m633_146 : decode prog_8_method_7_code 146 = .ok (.goto 58, 3) := by decide +kernel
theorem d_m633_149 : decode prog_8_method_7_code 149 = .ok (.aload_n 0, 1) := by decide +kernel
theorem d_m633_150 : decode prog_8_method_7_code 150 = .ok (.invokevirtual 107, 3) := by decide +kernel
theorem d_m633_153 : decode prog_8_method_7_code 153 = .ok (.aload_n 0, 1) := by decide +kernel
theorem d_m633_154 : decode prog_8_method_7_code 154 = .ok (.getfield 27, 3) := by decide +kernel
theorem d_m633_157 : decode prog_8_method_7_code 157 = .ok (.aload_n 0, 1) := by decide +kernel
theorem d_m633_158 : decode prog_8_method_7_code 158 = .ok (.getfield 69, 3) := by decide +kernel
theorem d_m633_161 : decode prog_8_method_7_code 161 = .ok (.bipush 16, 2) := by decide +kernel
theorem d_m633_163 : decode prog_8_method_7_code 163 = .ok (.iload_n 3, 1) := by decide +kernel
theorem d_m633_164 : decode prog_8_method_7_code 164 = .ok (.imul, 1) := by decide +kernel
theorem d_m633_165 : decode prog_8_method_7_code 165 = .ok (.iconst 1, 1) := by decide +kernel
theorem d_m633_166 : decode prog_8_method_7_code 166 = .ok (.iadd, 1) := by decide +kernel
theorem d_m633_167 : decode prog_8_method_7_code 167 = .ok (.invokevirtual 125, 3) := by decide +kernel
theorem d_m633_170 : decode prog_8_method_7_code 170 = .ok (.aload_n 0, 1) := by decide +kernel
theorem d_m633_171 : decode prog_8_method_7_code 171 = .ok (.getfield 27, 3) := by decide +kernel
theorem d_m633_174 : decode prog_8_method_7_code 174 = .ok (.iload 8, 2) := by decide +kernel
theorem d_m633_176 : decode prog_8_method_7_code 176 = .ok (.ifCond .ge 7, 3) := by decide +kernel
theorem d_m633_179 : decode prog_8_method_7_code 179 = .ok (.lconst 0, 1) := by decide +kernel
theorem d_m633_180 : decode prog_8_method_7_code 180 = .ok (.goto 4, 3) := by decide +kernel
theorem d_m633_183 : decode prog_8_method_7_code 183 = .ok (.lconst 1, 1) := by decide +kernel
theorem d_m633_184 : decode prog_8_method_7_code 184 = .ok (.iconst 1, 1) := by decide +kernel
theorem d_m633_185 : decode prog_8_method_7_code 185 = .ok (.invokevirtual 91, 3) := by decide +kernel
theorem d_m633_188 : decode prog_8_method_7_code 188 = .ok (.aload_n 0, 1) := by decide +kernel
theorem d_m633_189 : decode prog_8_method_7_code 189 = .ok (.getfield 27, 3) := by decide +kernel
theorem d_m633_192 : decode prog_8_method_7_code 192 = .ok (.lload 4, 2) := by decide +kernel
theorem d_m633_194 : decode prog_8_method_7_code 194 = .ok (.iload 6, 2) := by decide +kernel
theorem d_m633_196 : decode prog_8_method_7_code 196 = .ok (.invokevirtual 91, 3) := by decide +kernel
theorem d_m633_199 : decode prog_8_method_7_code 199 = .ok (.iconst 0, 1) := by decide +kernel
theorem d_m633_200 : decode prog_8_method_7_code 200 = .ok (.istore 6, 2) := by decide +kernel
theorem d_m633_202 : decode prog_8_method_7_code 202 = .ok (.iconst 0, 1) := by decide +kernel
theorem d_m633_203 : decode prog_8_method_7_code 203 = .ok (.istore_n 3, 1) := by decide +kernel
theorem d_m633_204 : decode prog_8_method_7_code 204 = .ok (.iinc 7 1, 3) := by decide +kernel
theorem d_m633_207 : decode prog_8_method_7_code 207 = .ok (.goto (-184), 3) := by decide +kernel
theorem d_m633_210 : decode prog_8_method_7_code 210 = .ok (.iload_n 3, 1) := by decide +kernel
theorem d_m633_211 : decode prog_8_method_7_code 211 = .ok (.ifCond .gt 8, 3) := by decide +kernel
theorem d_m633_214 : decode prog_8_method_7_code 214 = .ok (.iload 6, 2) := by decide +kernel
theorem d_m633_216 : decode prog_8_method_7_code 216 = .ok (.ifCond .le 11, 3) := by decide +kernel
theorem d_m633_219 : decode prog_8_method_7_code 219 = .ok (.aload_n 0, 1) := by decide +kernel
theorem d_m633_220 : decode prog_8_method_7_code 220 = .ok (.lload 4, 2) := by decide +kernel
theorem d_m633_222 : decode prog_8_method_7_code 222 = .ok (.iload 6, 2) := by decide +kernel
theorem d_m633_224 : decode prog_8_method_7_code 224 = .ok (.invokevirtual 136, 3) := by decide +kernel
theorem d_m633_227 : decode prog_8_method_7_code 227 = .ok (.return_, 1) := by decide +kernel
theorem d_m637_0 : decode prog_8_method_8_code 0 = .ok (.aload_n 0, 1) := by decide +kernel
theorem d_m637_1 : decode prog_8_method_8_code 1 = .ok (.getfield 23, 3) := by decide +kernel
theorem d_m637_4 : decode prog_8_method_8_code 4 = .ok (.getfield 128, 3) := by decide +kernel
theorem d_m637_7 : decode prog_8_method_8_code 7 = .ok (.istore_n 2, 1) := by decide +kernel
theorem d_m637_8 : decode prog_8_method_8_code 8 = .ok (.iload_n 2, 1) := by decide +kernel
theorem d_m637_9 : decode prog_8_method_8_code 9 = .ok (.aload_n 0, 1) := by decide +kernel
theorem d_m637_10 : decode prog_8_method_8_code 10 = .ok (.getfield 23, 3) := by decide +kernel
theorem d_m637_13 : decode prog_8_method_8_code 13 = .ok (.getfield 95, 3) := by decide +kernel
theorem d_m637_16 : decode prog_8_method_8_code 16 = .ok (.if_icmp .lt 37, 3) := by decide +kernel
theorem d_m637_19 : decode prog_8_method_8_code 19 = .ok (.aload_n 0, 1) := by decide +kernel
theorem d_m637_20 : decode prog_8_method_8_code 20 = .ok (.getfield 19, 3) := by decide +kernel
theorem d_m637_23 : decode prog_8_method_8_code 23 = .ok (.getfield 82, 3) := by decide +kernel
theorem d_m637_26 : decode prog_8_method_8_code 26 = .ok (.iload_n 1, 1) := by decide +kernel
theorem d_m637_27 : decode prog_8_method_8_code 27 = .ok (.iload_n 2, 1) := by decide +kernel
theorem d_m637_28 : decode prog_8_method_8_code 28 = .ok (.iadd, 1) := by decide +kernel
theorem d_m637_29 : decode prog_8_method_8_code 29 = .ok (.saload, 1) := by decide +kernel
theorem d_m637_30 : decode prog_8_method_8_code 30 = .ok (.invokestatic 131, 3) := by decide +kernel
theorem d_m637_33 : decode prog_8_method_8_code 33 = .ok (.aload_n 0, 1) := by decide +kernel
theorem d_m637_34 : decode prog_8_method_8_code 34 = .ok (.getfield 23, 3) := by decide +kernel
theorem d_m637_37 : decode prog_8_method_8_code 37 = .ok (.getfield 88, 3) := by decide +kernel
theorem d_m637_40 : decode prog_8_method_8_code 40 = .ok (.ishr, 1) := by decide +kernel
theorem d_m637_41 : decode prog_8_method_8_code 41 = .ok (.iconst 1, 1) := by decide +kernel
theorem d_m637_42 : decode prog_8_method_8_code 42 = .ok (.if_icmp .ne 5, 3) := by decide +kernel
theorem d_m637_45 : decode prog_8_method_8_code 45 = .ok (.iload_n 2, 1) := by decide +kernel
theorem d_m637_46 : decode prog_8_method_8_code 46 = .ok (.ireturn, 1) := by decide +kernel
theorem d_m637_47 : decode prog_8_method_8_code 47 = .ok (.iinc 2 (-1), 3) := by decide +kernel
theorem d_m637_50 : decode prog_8_method_8_code 50 = .ok (.goto (-42), 3) := by decide +kernel
theorem d_m637_53 : decode prog_8_method_8_code 53 = .ok (.iconst (-1), 1) := by decide +kernel
theorem d_m637_54 : decode prog_8_method_8_code 54 = .ok (.ireturn, 1) := by decide +kernel
theorem d_m641_0 : decode prog_11_method_3_code 0 = .ok (.iload_n 1, 1) := by decide +kernel
theorem d_m641_1 : decode prog_11_method_3_code 1 = .ok (.aload_n 0, 1) := by decide +kernel
theorem d_m641_2 : decode prog_11_method_3_code 2 = .ok (.getfield 9, 3) := by decide +kernel
theorem d_m641_5 : decode prog_11_method_3_code 5 = .ok (.arraylength, 1) := by decide +kernel
theorem d_m641_6 : decode prog_11_method_3_code 6 = .ok (.if_icmp .le 31, 3) := by decide +kernel
theorem d_m641_9 : decode prog_11_method_3_code 9 = .ok (.aload_n 0, 1) := by decide +kernel
theorem d_m641_10 : decode prog_11_method_3_code 10 = .ok (.aload_n 0, 1) := by decide +kernel
theorem d_m641_11 : decode prog_11_method_3_code 11 = .ok (.getfield 9, 3) := by decide +kernel
theorem d_m641_14 : decode prog_11_method_3_code 14 = .ok (.iload_n 1, 1) := by decide +kernel
theorem d_m641_15 : decode prog_11_method_3_code 15 = .ok (.iconst 2, 1) := by decide +kernel
theorem d_m641_16 : decode prog_11_method_3_code 16 = .ok (.aload_n 0, 1) := by decide +kernel
theorem d_m641_17 : decode prog_11_method_3_code 17 = .ok (.getfield 9, 3) := by decide +kernel
theorem d_m641_20 : decode prog_11_method_3_code 20 = .ok (.arraylength, 1) := by decide +kernel
theorem d_m641_21 : decode prog_11_method_3_code 21 = .ok (.imul, 1) := by decide +kernel
theorem d_m641_22 : decode prog_11_method_3_code 22 = .ok (.sipush 16384, 3) := by decide +kernel
theorem d_m641_25 : decode prog_11_method_3_code 25 = .ok (.invokestatic 19, 3) := by decide +kernel
theorem d_m641_28 : decode prog_11_method_3_code 28 = .ok (.invokestatic 25, 3) := by decide +kernel
theorem d_m641_31 : decode prog_11_method_3_code 31 = .ok (.invokestatic 28, 3) := by decide +kernel
theorem d_m641_34 : decode prog_11_method_3_code 34 = .ok (.putfield 9, 3) := by decide +kernel
theorem d_m641_37 : decode prog_11_method_3_code 37 = .ok (.return_, 1) := by decide +kernel
theorem d_m646_0 : decode prog_19_method_121_code 0 = .ok (.iload_n 1, 1) := by decide +kernel
theorem d_m646_1 : decode prog_19_method_121_code 1 = .ok (.aload_n 0, 1) := by decide +kernel
theorem d_m646_2 : decode prog_19_method_121_code 2 = .ok (.arraylength, 1) := by decide +kernel
theorem d_m646_3 : decode prog_19_method_121_code 3 = .ok (.if_icmp .ne 11, 3) := by decide +kernel
theorem d_m646_6 : decode prog_19_method_121_code 6 = .ok (.aload_n 0, 1) := by decide +kernel
theorem d_m646_7 : decode prog_19_method_121_code 7 = .ok (.invokevirtual 310, 3) := by decide +kernel
theorem d_m646_10 : decode prog_19_method_121_code 10 = .ok (.checkcast 311, 3) := by decide +kernel
theorem d_m646_13 : decode prog_19_method_121_code 13 = .ok (.areturn, 1) := by decide +kernel
theorem d_m646_14 : decode prog_19_method_121_code 14 = .ok (.iload_n 1, 1) := by decide +kernel
theorem d_m646_15 : decode prog_19_method_121_code 15 = .ok (.newarray .byte, 2) := by decide +kernel
theorem d_m646_17 : decode prog_19_method_121_code 17 = .ok (.astore_n 2, 1) := by decide +kernel
theorem d_m646_18 : decode prog_19_method_121_code 18 = .ok (.aload_n 0, 1) := by decide +kernel
theorem d_m646_19 : decode prog_19_method_121_code 19 = .ok (.iconst 0, 1) := by decide +kernel
theorem d_m646_20 : decode prog_19_method_121_code 20 = .ok (.aload_n 2, 1) := by decide +kernel
theorem d_m646_21 : decode prog_19_method_121_code 21 = .ok (.iconst 0, 1) := by decide +kernel
theorem d_m646_22 : decode prog_19_method_121_code 22 = .ok (.aload_n 0, 1) := by decide +kernel
theorem d_m646_23 : decode prog_19_method_121_code 23 = .ok (.arraylength, 1) := by decide +kernel
theorem d_m646_24 : decode prog_19_method_121_code 24 = .ok (.iload_n 1, 1) := by decide +kernel
theorem d_m646_25 : decode prog_19_method_121_code 25 = .ok (.invokestatic 304, 3) := by decide +kernel
theorem d_m646_28 : decode prog_19_method_121_code 28 = .ok (.invokestatic 150, 3) := by decide +kernel
theorem d_m646_31 : decode prog_19_method_121_code 31 = .ok (.aload_n 2, 1) := by decide +kernel
theorem d_m646_32 : decode prog_19_method_121_code 32 = .ok (.areturn, 1) := by decide +kernel
theorem d_m659_0 : decode prog_1_method_12_code 0 = .ok (.aload_n 0, 1) := by decide +kernel
theorem d_m659_1 : decode prog_1_method_12_code 1 = .ok (.getfield 81, 3) := by decide +kernel
theorem d_m659_4 : decode prog_1_method_12_code 4 = .ok (.iconst 0, 1) := by decide +kernel
theorem d_m659_5 : decode prog_1_method_12_code 5 = .ok (.invokevirtual 170, 3) := by decide +kernel
theorem d_m659_8 : decode prog_1_method_12_code 8 = .ok (.istore_n 1, 1) := by decide +kernel
theorem d_m659_9 : decode prog_1_method_12_code 9 = .ok (.iload_n 1, 1) := by decide +kernel
theorem d_m659_10 : decode prog_1_method_12_code 10 = .ok (.ifCond .ne 14, 3) := by decide +kernel
theorem d_m659_13 : decode prog_1_method_12_code 13 = .ok (.aload_n 0, 1) := by decide +kernel
theorem d_m659_14 : decode prog_1_method_12_code 14 = .ok (.getfield 81, 3) := by decide +kernel
theorem d_m659_17 : decode prog_1_method_12_code 17 = .ok (.iconst 1, 1) := by decide +kernel
theorem d_m659_18 : decode prog_1_method_12_code 18 = .ok (.invokevirtual 170, 3) := by decide +kernel
theorem d_m659_21 : decode prog_1_method_12_code 21 = .ok (.goto 4, 3) := by decide +kernel
theorem d_m659_24 : decode prog_1_method_12_code 24 = .ok (.iload_n 1, 1) := by decide +kernel
theorem d_m659_25 : decode prog_1_method_12_code 25 = .ok (.ireturn, 1) := by decide +kernel
theorem d_m663_0 : decode prog_6_method_2_code 0 = .ok (.aload_n 0, 1) := by decide +kernel
theorem d_m663_1 : decode prog_6_method_2_code 1 = .ok (.iload_n 1, 1) := by decide +kernel
theorem d_m663_2 : decode prog_6_method_2_code 2 = .ok (.putfield 31, 3) := by decide +kernel
theorem d_m663_5 : decode prog_6_method_2_code 5 = .ok (.aload_n 0, 1) := by decide +kernel
theorem d_m663_6 : decode prog_6_method_2_code 6 = .ok (.getfield 27, 3) := by decide +kernel
theorem d_m663_9 : decode prog_6_method_2_code 9 = .ok (.invokevirtual 35, 3) := by decide +kernel
theorem d_m663_12 : decode prog_6_method_2_code 12 = .ok (.aload_n 0, 1) := by decide +kernel
theorem d_m663_13 : decode prog_6_method_2_code 13 = .ok (.invokevirtual 40, 3) := by decide +kernel
theorem d_m663_16 : decode prog_6_method_2_code 16 = .ok (.iconst 0, 1) := by decide +kernel
theorem d_m663_17 : decode prog_6_method_2_code 17 = .ok (.istore_n 2, 1) := by decide +kernel
theorem d_m663_18 : decode prog_6_method_2_code 18 = .ok (.iload_n 2, 1) := by decide +kernel
theorem d_m663_19 : decode prog_6_method_2_code 19 = .ok (.aload_n 0, 1) := by decide +kernel
theorem d_m663_20 : decode prog_6_method_2_code 20 = .ok (.getfield 19, 3) := by decide +kernel
theorem d_m663_23 : decode prog_6_method_2_code 23 = .ok (.getfield 43, 3) := by decide +kernel
theorem d_m663_26 : decode prog_6_method_2_code 26 = .ok (.if_icmp .ge 247, 3) := by decide +kernel
theorem d_m663_29 : decode prog_6_method_2_code 29 = .ok (.aload_n 0, 1) := by decide +kernel
theorem d_m663_30 : decode prog_6_method_2_code 30 = .ok (.getfield 27, 3) := by decide +kernel
theorem d_m663_33 : decode prog_6_method_2_code 33 = .ok (.getfield 49, 3) := by decide +kernel
theorem d_m663_36 : decode prog_6_method_2_code 36 = .ok (.ifCond .ne 237, 3) := by decide +kernel
theorem d_m663_39 : decode prog_6_method_2_code 39 = .ok (.aload_n 0, 1) := by decide +kernel
theorem d_m663_40 : decode prog_6_method_2_code 40 = .ok (.getfield 19, 3) := by decide +kernel
theorem d_m663_43 : decode prog_6_method_2_code 43 = .ok (.iload_n 2, 1) := by decide +kernel
theorem d_m663_44 : decode prog_6_method_2_code 44 = .ok (.invokevirtual 52, 3) := by decide +kernel
theorem d_m663_47 : decode prog_6_method_2_code 47 = .ok (.ifCond .eq 36, 3) := by decide +kernel
theorem d_m663_50 : decode prog_6_method_2_code 50 = .ok (.aload_n 0, 1) := by decide +kernel
theorem d_m663_51 : decode prog_6_method_2_code 51 = .ok (.invokevirtual 56, 3) := by decide +kernel
theorem d_m663_54 : decode prog_6_method_2_code 54 = .ok (.aload_n 0, 1) := by decide +kernel
theorem d_m663_55 : decode prog_6_method_2_code 55 = .ok (.getfield 27, 3) := by decide +kernel
theorem d_m663_58 : decode prog_6_method_2_code 58 = .ok (.getfield 49, 3) := by decide +kernel
theorem d_m663_61 : decode prog_6_method_2_code 61 = .ok (.ifCond .ne 18, 3) := by decide +kernel
theorem d_m663_64 : decode prog_6_method_2_code 64 = .ok (.aload_n 0, 1) := by decide +kernel
theorem d_m663_65 : decode prog_6_method_2_code 65 = .ok (.getfield 27, 3) := by decide +kernel
theorem d_m663_68 : decode prog_6_method_2_code 68 = .ok (.aload_n 0, 1) := by decide +kernel
theorem d_m663_69 : decode prog_6_method_2_code 69 = .ok (.getfield 19, 3) := by decide +kernel
theorem d_m663_72 : decode prog_6_method_2_code 72 = .ok (.iload_n 2, 1) := by decide +kernel
theorem d_m663_73 : decode prog_6_method_2_code 73 = .ok (.invokevirtual 59, 3) := by decide +kernel
theorem d_m663_76 : decode prog_6_method_2_code 76 = .ok (.invokevirtual 63, 3) := by decide +kernel
theorem d_m663_79 : decode prog_6_method_2_code 79 = .ok (.aload_n 0, 1) := by decide +kernel
theorem d_m663_80 : decode prog_6_method_2_code 80 = .ok (.invokevirtual 40, 3) := by decide +kernel
theorem d_m663_83 : decode prog_6_method_2_code 83 = .ok (.iload_n 2, 1) := by decide +kernel
theorem d_m663_84 : decode prog_6_method_2_code 84 = .ok (.aload_n 0, 1) := by decide +kernel
theorem d_m663_85 : decode prog_6_method_2_code 85 = .ok (.getfield 19, 3) := by decide +kernel
theorem d_m663_88 : decode prog_6_method_2_code 88 = .ok (.getfield 67, 3) := by decide +kernel
theorem d_m663_91 : decode prog_6_method_2_code 91 = .ok (.imul, 1) := by decide +kernel
theorem d_m663_92 : decode prog_6_method_2_code 92 = .ok (.istore_n 3, 1) := by decide +kernel
theorem d_m663_93 : decode prog_6_method_2_code 93 = .ok (.iload_n 3, 1) := by decide +kernel
theorem d_m663_94 : decode prog_6_method_2_code 94 = .ok (.istore 4, 2) := by decide +kernel
theorem d_m663_96 : decode prog_6_method_2_code 96 = .ok (.iload 4, 2) := by decide +kernel
theorem d_m663_98 : decode prog_6_method_2_code 98 = .ok (.iload_n 3, 1) := by decide +kernel
theorem d_m663_99 : decode prog_6_method_2_code 99 = .ok (.aload_n 0, 1) := by decide +kernel
theorem d_m663_100 : decode prog_6_method_2_code 100 = .ok (.getfield 19, 3) := by decide +kernel
theorem d_m663_103 : decode prog_6_method_2_code 103 = .ok (.getfield 67, 3) := by decide +kernel
theorem d_m663_106 : decode prog_6_method_2_code 106 = .ok (.iadd, 1) := by decide +kernel
theorem d_m663_107 : decode prog_6_method_2_code 107 = .ok (.if_icmp .ge 160, 3) := by decide +kernel
theorem d_m663_110 : decode prog_6_method_2_code 110 = .ok (.aload_n 0, 1) := by decide +kernel
theorem d_m663_111 : decode prog_6_method_2_code 111 = .ok (.getfield 27, 3) := by decide +kernel
theorem d_m663_114 : decode prog_6_method_2_code 114 = .ok (.getfield 49, 3) := by decide +kernel
theorem d_m663_117 : decode prog_6_method_2_code 117 = .ok (.ifCond .ne 150, 3) := by decide +kernel
theorem d_m663_120 : decode prog_6_method_2_code 120 = .ok (.aload_n 0, 1) := by decide +kernel
theorem d_m663_121 : decode prog_6_method_2_code 121 = .ok (.getfield 19, 3) := by decide +kernel
theorem d_m663_124 : decode prog_6_method_2_code 124 = .ok (.getfield 70, 3) := by decide +kernel
theorem d_m663_127 : decode prog_6_method_2_code 127 = .ok (.iload 4, 2) := by decide +kernel
theorem d_m663_129 : decode prog_6_method_2_code 129 = .ok (.iaload, 1) := by decide +kernel
theorem d_m663_130 : decode prog_6_method_2_code 130 = .ok (.istore 5, 2) := by decide +kernel
theorem d_m663_132 : decode prog_6_method_2_code 132 = .ok (.aload_n 0, 1) := by decide +kernel
theorem d_m663_133 : decode prog_6_method_2_code 133 = .ok (.getfield 19, 3) := by decide +kernel
theorem d_m663_136 : decode prog_6_method_2_code 136 = .ok (.getfield 73, 3) := by decide +kernel
theorem d_m663_139 : decode prog_6_method_2_code 139 = .ok (.iload 4, 2) := by decide +kernel
theorem d_m663_141 : decode prog_6_method_2_code 141 = .ok (.iaload, 1) := by decide +kernel
theorem d_m663_142 : decode prog_6_method_2_code 142 = .ok (.istore 6, 2) := by decide +kernel
theorem d_m663_144 : decode prog_6_method_2_code 144 = .ok (.aload_n 0, 1) := by decide +kernel
theorem d_m663_145 : decode prog_6_method_2_code 145 = .ok (.getfield 23, 3) := by decide +kernel
theorem d_m663_148 : decode prog_6_method_2_code 148 = .ok (.aload_n 0, 1) := by decide +kernel
theorem d_m663_149 : decode prog_6_method_2_code 149 = .ok (.getfield 19, 3) := by decide +kernel
theorem d_m663_152 : decode prog_6_method_2_code 152 = .ok (.getfield 76, 3) := by decide +kernel
theorem d_m663_155 : decode prog_6_method_2_code 155 = .ok (.iload 5, 2) := by decide +kernel
theorem d_m663_157 : decode prog_6_method_2_code 157 = .ok (.iaload, 1) := by decide +kernel
theorem d_m663_158 : decode prog_6_method_2_code 158 = .ok (.aaload, 1) := by decide +kernel
theorem d_m663_159 : decode prog_6_method_2_code 159 = .ok (.astore 7, 2) := by decide +kernel
theorem d_m663_161 : decode prog_6_method_2_code 161 = .ok (.aload_n 0, 1) := by decide +kernel
theorem d_m663_162 : decode prog_6_method_2_code 162 = .ok (.getfield 19, 3) := by decide +kernel
theorem d_m663_165 : decode prog_6_method_2_code 165 = .ok (.getfield 79, 3) := by decide +kernel
theorem d_m663_168 : decode prog_6_method_2_code 168 = .ok (.tableswitch 78 0 2 #[28, 58, 69], 28) := by decide +kernel
theorem d_m663_196 : decode prog_6_method_2_code 196 = .ok (.aload_n 0, 1) := by decide +kernel
theorem d_m663_197 : decode prog_6_method_2_code 197 = .ok (.iload 5, 2) := by decide +kernel
theorem d_m663_199 : decode prog_6_method_2_code 199 = .ok (.iload 6, 2) := by decide +kernel
theorem d_m663_201 : decode prog_6_method_2_code 201 = .ok (.invokevirtual 82, 3) := by decide +kernel
theorem d_m663_204 : decode prog_6_method_2_code 204 = .ok (.aload_n 0, 1) := by decide +kernel
theorem d_m663_205 : decode prog_6_method_2_code 205 = .ok (.getfield 27, 3) := by decide +kernel
theorem d_m663_208 : decode prog_6_method_2_code 208 = .ok (.getfield 49, 3) := by decide +kernel
theorem d_m663_211 : decode prog_6_method_2_code 211 = .ok (.ifCond .ne 50, 3) := by decide +kernel
theorem d_m663_214 : decode prog_6_method_2_code 214 = .ok (.aload_n 0, 1) := by decide +kernel
theorem d_m663_215 : decode prog_6_method_2_code 215 = .ok (.aload 7, 2) := by decide +kernel
theorem d_m663_217 : decode prog_6_method_2_code 217 = .ok (.iload 6, 2) := by decide +kernel
theorem d_m663_219 : decode prog_6_method_2_code 219 = .ok (.iconst 1, 1) := by decide +kernel
theorem d_m663_220 : decode prog_6_method_2_code 220 = .ok (.invokevirtual 86, 3) := by decide +kernel
theorem d_m663_223 : decode prog_6_method_2_code 223 = .ok (.goto 38, 3) := by decide +kernel
theorem d_m663_226 : decode prog_6_method_2_code 226 = .ok (.aload_n 0, 1) := by decide +kernel
theorem d_m663_227 : decode prog_6_method_2_code 227 = .ok (.iload 5, 2) := by decide +kernel
theorem d_m663_229 : decode prog_6_method_2_code 229 = .ok (.iload 6, 2) := by decide +kernel
theorem d_m663_231 : decode prog_6_method_2_code 231 = .ok (.invokevirtual 82, 3) := by decide +kernel
theorem d_m663_234 : decode prog_6_method_2_code 234 = .ok (.goto 27, 3) := by decide +kernel
theorem d_m663_237 : decode prog_6_method_2_code 237 = .ok (.aload_n 0, 1) := by decide +kernel
theorem d_m663_238 : decode prog_6_method_2_code 238 = .ok (.iload 6, 2) := by decide +kernel
theorem d_m663_240 : decode prog_6_method_2_code 240 = .ok (.invokevirtual 90, 3) := by decide +kernel
theorem d_m663_243 : decode prog_6_method_2_code 243 = .ok (.goto 18, 3) := by decide +kernel
theorem d_m663_246 : decode prog_6_method_2_code 246 = .ok (.aload_n 0, 1) := by decide +kernel
theorem d_m663_247 : decode prog_6_method_2_code 247 = .ok (.aload 7, 2) := by decide +kernel
theorem d_m663_249 : decode prog_6_method_2_code 249 = .ok (.iload 6, 2) := by decide +kernel
theorem d_m663_251 : decode prog_6_method_2_code 251 = .ok (.aload_n 0, 1) := by decide +kernel
theorem d_m663_252 : decode prog_6_method_2_code 252 = .ok (.getfield 19, 3) := by decide +kernel
theorem d_m663_255 : decode prog_6_method_2_code 255 = .ok (.getfield 93, 3) := by decide +kernel
theorem d_m663_258 : decode prog_6_method_2_code 258 = .ok (.invokevirtual 86, 3) := by decide +kernel
theorem d_m663_261 : decode prog_6_method_2_code 261 = .ok (.iinc 4 1, 3) := by decide +kernel
theorem d_m663_264 : decode prog_6_method_2_code 264 = .ok (.goto (-168), 3) := by decide +kernel
theorem d_m663_267 : decode prog_6_method_2_code 267 = .ok (.iinc 2 1, 3) := by decide +kernel
theorem d_m663_270 : decode prog_6_method_2_code 270 = .ok (.goto (-252), 3) := by decide +kernel
theorem d_m663_273 : decode prog_6_method_2_code 273 = .ok (.aload_n 0, 1) := by decide +kernel
theorem d_m663_274 : decode prog_6_method_2_code 274 = .ok (.getfield 27, 3) := by decide +kernel
theorem d_m663_277 : decode prog_6_method_2_code 277 = .ok (.getfield 49, 3) := by decide +kernel
theorem d_m663_280 : decode prog_6_method_2_code 280 = .ok (.ifCond .ne 7, 3) := by decide +kernel
theorem d_m663_283 : decode prog_6_method_2_code 283 = .ok (.aload_n 0, 1) := by decide +kernel
theorem d_m663_284 : decode prog_6_method_2_code 284 = .ok (.invokevirtual 56, 3) := by decide +kernel
theorem d_m663_287 : decode prog_6_method_2_code 287 = .ok (.aload_n 0, 1) := by decide +kernel
theorem d_m663_288 : decode prog_6_method_2_code 288 = .ok (.getfield 27, 3) := by decide +kernel
theorem d_m663_291 : decode prog_6_method_2_code 291 = .ok (.getfield 49, 3) := by decide +kernel
theorem d_m663_294 : decode prog_6_method_2_code 294 = .ok (.ifCond .ne 10, 3) := by decide +kernel
theorem d_m663_297 : decode prog_6_method_2_code 297 = .ok (.aload_n 0, 1) := by decide +kernel
theorem d_m663_298 : decode prog_6_method_2_code 298 = .ok (.getfield 27, 3) := by decide +kernel
theorem d_m663_301 : decode prog_6_method_2_code 301 = .ok (.invokevirtual 96, 3) := by decide +kernel
theorem d_m663_304 : decode prog_6_method_2_code 304 = .ok (.aload_n 0, 1) := by decide +kernel
theorem d_m663_305 : decode prog_6_method_2_code 305 = .ok (.getfield 27, 3) := by decide +kernel
theorem d_m663_308 : decode prog_6_method_2_code 308 = .ok (.getfield 49, 3) := by decide +kernel
theorem d_m663_311 : decode prog_6_method_2_code 311 = .ok (.ireturn, 1) := by decide +kernel
theorem d_m667_0 : decode prog_2_method_2_code 0 = .ok (.aload_n 0, 1) := by decide +kernel
theorem d_m667_1 : decode prog_2_method_2_code 1 = .ok (.iconst 0, 1) := by decide +kernel
theorem d_m667_2 : decode prog_2_method_2_code 2 = .ok (.putfield 15, 3) := by decide +kernel
theorem d_m667_5 : decode prog_2_method_2_code 5 = .ok (.aload_n 0, 1) := by decide +kernel
theorem d_m667_6 : decode prog_2_method_2_code 6 = .ok (.iconst 0, 1) := by decide +kernel
theorem d_m667_7 : decode prog_2_method_2_code 7 = .ok (.putfield 19, 3) := by decide +kernel
theorem d_m667_10 : decode prog_2_method_2_code 10 = .ok (.aload_n 0, 1) := by decide +kernel
theorem d_m667_11 : decode prog_2_method_2_code 11 = .ok (.iconst 0, 1) := by decide +kernel
theorem d_m667_12 : decode prog_2_method_2_code 12 = .ok (.putfield 22, 3) := by decide +kernel
theorem d_m667_15 : decode prog_2_method_2_code 15 = .ok (.aload_n 0, 1) := by decide +kernel
theorem d_m667_16 : decode prog_2_method_2_code 16 = .ok (.iconst 0, 1) := by decide +kernel
theorem d_m667_17 : decode prog_2_method_2_code 17 = .ok (.putfield 25, 3) := by decide +kernel
theorem d_m667_20 : decode prog_2_method_2_code 20 = .ok (.return_, 1) := by decide +kernel
theorem d_m671_0 : decode prog_6_method_3_code 0 = .ok (.aload_n 0, 1) := by decide +kernel
theorem d_m671_1 : decode prog_6_method_3_code 1 = .ok (.getfield 9, 3) := by decide +kernel
theorem d_m671_4 : decode prog_6_method_3_code 4 = .ok (.iconst 0, 1) := by decide +kernel
theorem d_m671_5 : decode prog_6_method_3_code 5 = .ok (.invokestatic 99, 3) := by decide +kernel
theorem d_m671_8 : decode prog_6_method_3_code 8 = .ok (.aload_n 0, 1) := by decide +kernel
theorem d_m671_9 : decode prog_6_method_3_code 9 = .ok (.iconst 0, 1) := by decide +kernel
theorem d_m671_10 : decode prog_6_method_3_code 10 = .ok (.putfield 105, 3) := by decide +kernel
theorem d_m671_13 : decode prog_6_method_3_code 13 = .ok (.return_, 1) := by decide +kernel
theorem d_m677_0 : decode prog_6_method_4_code 0 = .ok (.aload_n 0, 1) := by decide +kernel
theorem d_m677_1 : decode prog_6_method_4_code 1 = .ok (.getfield 105, 3) := by decide +kernel
theorem d_m677_4 : decode prog_6_method_4_code 4 = .ok (.ifCond .le 14, 3) := by decide +kernel
theorem d_m677_7 : decode prog_6_method_4_code 7 = .ok (.aload_n 0, 1) := by decide +kernel
theorem d_m677_8 : decode prog_6_method_4_code 8 = .ok (.getfield 27, 3) := by decide +kernel
theorem d_m677_11 : decode prog_6_method_4_code 11 = .ok (.iconst 5, 1) := by decide +kernel
theorem d_m677_12 : decode prog_6_method_4_code 12 = .ok (.putfield 49, 3) := by decide +kernel
theorem d_m677_15 : decode prog_6_method_4_code 15 = .ok (.goto 10, 3) := by decide +kernel
theorem d_m677_18 : decode prog_6_method_4_code 18 = .ok (.aload_n 0, 1) := by decide +kernel
theorem d_m677_19 : decode prog_6_method_4_code 19 = .ok (.getfield 27, 3) := by decide +kernel
theorem d_m677_22 : decode prog_6_method_4_code 22 = .ok (.invokevirtual 108, 3) := by decide +kernel
theorem d_m677_25 : decode prog_6_method_4_code 25 = .ok (.return_, 1) := by decide +kernel
theorem d_m681_0 : decode prog_2_method_6_code 0 = .ok (.iconst 1, 1) := by decide +kernel
theorem d_m681_1 : decode prog_2_method_6_code 1 = .ok (.aload_n 0, 1) := by decide +kernel
theorem d_m681_2 : decode prog_2_method_6_code 2 = .ok (.getfield 22, 3) := by decide +kernel
theorem d_m681_5 : decode prog_2_method_6_code 5 = .ok (.ishl, 1) := by decide +kernel
theorem d_m681_6 : decode prog_2_method_6_code 6 = .ok (.iconst 1, 1) := by decide +kernel
theorem d_m681_7 : decode prog_2_method_6_code 7 = .ok (.isub, 1) := by decide +kernel
theorem d_m681_8 : decode prog_2_method_6_code 8 = .ok (.istore_n 1, 1) := by decide +kernel
theorem d_m681_9 : decode prog_2_method_6_code 9 = .ok (.aload_n 0, 1) := by decide +kernel
theorem d_m681_10 : decode prog_2_method_6_code 10 = .ok (.getfield 19, 3) := by decide +kernel
theorem d_m681_13 : decode prog_2_method_6_code 13 = .ok (.iload_n 1, 1) := by decide +kernel
theorem d_m681_14 : decode prog_2_method_6_code 14 = .ok (.iand, 1) := by decide +kernel
theorem d_m681_15 : decode prog_2_method_6_code 15 = .ok (.iload_n 1, 1) := by decide +kernel
theorem d_m681_16 : decode prog_2_method_6_code 16 = .ok (.if_icmp .eq 8, 3) := by decide +kernel
theorem d_m681_19 : decode prog_2_method_6_code 19 = .ok (.aload_n 0, 1) := by decide +kernel
theorem d_m681_20 : decode prog_2_method_6_code 20 = .ok (.iconst 5, 1) := by decide +kernel
theorem d_m681_21 : decode prog_2_method_6_code 21 = .ok (.putfield 25, 3) := by decide +kernel
theorem d_m681_24 : decode prog_2_method_6_code 24 = .ok (.aload_n 0, 1) := by decide +kernel
theorem d_m681_25 : decode prog_2_method_6_code 25 = .ok (.iconst 0, 1) := by decide +kernel
theorem d_m681_26 : decode prog_2_method_6_code 26 = .ok (.putfield 22, 3) := by decide +kernel
