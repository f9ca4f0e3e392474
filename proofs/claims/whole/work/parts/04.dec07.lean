theorem d_m732_73 : decode prog_6_method_10_code 73 = .ok (.iconst (-1), 1) := by decide +kernel
theorem d_m732_74 : decode prog_6_method_10_code 74 = .ok (.if_icmp .eq 18, 3) := by decide +kernel
theorem d_m732_77 : decode prog_6_method_10_code 77 = .ok (.iload 7, 2) := by decide +kernel
theorem d_m732_79 : decode prog_6_method_10_code 79 = .ok (.ifCond .ne 14, 3) := by decide +kernel
theorem d_m732_82 : decode prog_6_method_10_code 82 = .ok (.aload_n 0, 1) := by decide +kernel
theorem d_m732_83 : decode prog_6_method_10_code 83 = .ok (.getfield 19, 3) := by decide +kernel
theorem d_m732_86 : decode prog_6_method_10_code 86 = .ok (.getfield 79, 3) := by decide +kernel
theorem d_m732_89 : decode prog_6_method_10_code 89 = .ok (.ifCond .ne 4, 3) := by decide +kernel
theorem d_m732_92 : decode prog_6_method_10_code 92 = .ok (.return_, 1) := by decide +kernel
theorem d_m732_93 : decode prog_6_method_10_code 93 = .ok (.aload_n 0, 1) := by decide +kernel
theorem d_m732_94 : decode prog_6_method_10_code 94 = .ok (.iload 7, 2) := by decide +kernel
theorem d_m732_96 : decode prog_6_method_10_code 96 = .ok (.invokevirtual 150, 3) := by decide +kernel
theorem d_m732_99 : decode prog_6_method_10_code 99 = .ok (.ifCond .eq 14, 3) := by decide +kernel
theorem d_m732_102 : decode prog_6_method_10_code 102 = .ok (.aload_n 0, 1) := by decide +kernel
theorem d_m732_103 : decode prog_6_method_10_code 103 = .ok (.iload 7, 2) := by decide +kernel
theorem d_m732_105 : decode prog_6_method_10_code 105 = .ok (.iconst 4, 1) := by decide +kernel
theorem d_m732_106 : decode prog_6_method_10_code 106 = .ok (.ishr, 1) := by decide +kernel
theorem d_m732_107 : decode prog_6_method_10_code 107 = .ok (.invokevirtual 153, 3) := by decide +kernel
theorem d_m732_110 : decode prog_6_method_10_code 110 = .ok (.goto 33, 3) := by decide +kernel
theorem d_m732_113 : decode prog_6_method_10_code 113 = .ok (.iload 4, 2) := by decide +kernel
theorem d_m732_115 : decode prog_6_method_10_code 115 = .ok (.ifCond .eq 17, 3) := by decide +kernel
theorem d_m732_118 : decode prog_6_method_10_code 118 = .ok (.aload_n 0, 1) := by decide +kernel
theorem d_m732_119 : decode prog_6_method_10_code 119 = .ok (.iload 7, 2) := by decide +kernel
theorem d_m732_121 : decode prog_6_method_10_code 121 = .ok (.iload_n 2, 1) := by decide +kernel
theorem d_m732_122 : decode prog_6_method_10_code 122 = .ok (.iload 5, 2) := by decide +kernel
theorem d_m732_124 : decode prog_6_method_10_code 124 = .ok (.invokevirtual 156, 3) := by decide +kernel
theorem d_m732_127 : decode prog_6_method_10_code 127 = .ok (.istore 5, 2) := by decide +kernel
theorem d_m732_129 : decode prog_6_method_10_code 129 = .ok (.goto 14, 3) := by decide +kernel
theorem d_m732_132 : decode prog_6_method_10_code 132 = .ok (.aload_n 0, 1) := by decide +kernel
theorem d_m732_133 : decode prog_6_method_10_code 133 = .ok (.iload 7, 2) := by decide +kernel
theorem d_m732_135 : decode prog_6_method_10_code 135 = .ok (.iload_n 2, 1) := by decide +kernel
theorem d_m732_136 : decode prog_6_method_10_code 136 = .ok (.iload 5, 2) := by decide +kernel
theorem d_m732_138 : decode prog_6_method_10_code 138 = .ok (.invokevirtual 160, 3) := by decide +kernel
theorem d_m732_141 : decode prog_6_method_10_code 141 = .ok (.istore 5, 2) := by decide +kernel
theorem d_m732_143 : decode prog_6_method_10_code 143 = .ok (.aload_n 0, 1) := by decide +kernel
theorem d_m732_144 : decode prog_6_method_10_code 144 = .ok (.getfield 27, 3) := by decide +kernel
theorem d_m732_147 : decode prog_6_method_10_code 147 = .ok (.getfield 49, 3) := by decide +kernel
theorem d_m732_150 : decode prog_6_method_10_code 150 = .ok (.ifCond .eq 4, 3) := by decide +kernel
theorem d_m732_153 : decode prog_6_method_10_code 153 = .ok (.return_, 1) := by decide +kernel
theorem d_m732_154 : decode prog_6_method_10_code 154 = .ok (.iinc 6 1, 3) := by decide +kernel
theorem d_m732_157 : decode prog_6_method_10_code 157 = .ok (.goto (-122), 3) := by decide +kernel
theorem d_m732_160 : decode prog_6_method_10_code 160 = .ok (.aload_n 0, 1) := by decide +kernel
theorem d_m732_161 : decode prog_6_method_10_code 161 = .ok (.getfield 105, 3) := by decide +kernel
theorem d_m732_164 : decode prog_6_method_10_code 164 = .ok (.ifCond .le 25, 3) := by decide +kernel
theorem d_m732_167 : decode prog_6_method_10_code 167 = .ok (.aload_n 0, 1) := by decide +kernel
theorem d_m732_168 : decode prog_6_method_10_code 168 = .ok (.dup, 1) := by decide +kernel
theorem d_m732_169 : decode prog_6_method_10_code 169 = .ok (.getfield 105, 3) := by decide +kernel
theorem d_m732_172 : decode prog_6_method_10_code 172 = .ok (.iconst 1, 1) := by decide +kernel
theorem d_m732_173 : decode prog_6_method_10_code 173 = .ok (.isub, 1) := by decide +kernel
theorem d_m732_174 : decode prog_6_method_10_code 174 = .ok (.putfield 105, 3) := by decide +kernel
theorem d_m732_177 : decode prog_6_method_10_code 177 = .ok (.iload 4, 2) := by decide +kernel
theorem d_m732_179 : decode prog_6_method_10_code 179 = .ok (.ifCond .eq 10, 3) := by decide +kernel
theorem d_m732_182 : decode prog_6_method_10_code 182 = .ok (.aload_n 0, 1) := by decide +kernel
theorem d_m732_183 : decode prog_6_method_10_code 183 = .ok (.iload_n 2, 1) := by decide +kernel
theorem d_m732_184 : decode prog_6_method_10_code 184 = .ok (.iload 5, 2) := by decide +kernel
theorem d_m732_186 : decode prog_6_method_10_code 186 = .ok (.invokevirtual 163, 3) := by decide +kernel
theorem d_m732_189 : decode prog_6_method_10_code 189 = .ok (.return_, 1) := by decide +kernel
theorem d_m736_0 : decode prog_6_method_11_code 0 = .ok (.iload_n 2, 1) := by decide +kernel
theorem d_m736_1 : decode prog_6_method_11_code 1 = .ok (.istore_n 3, 1) := by decide +kernel
theorem d_m736_2 : decode prog_6_method_11_code 2 = .ok (.iload_n 3, 1) := by decide +kernel
theorem d_m736_3 : decode prog_6_method_11_code 3 = .ok (.aload_n 0, 1) := by decide +kernel
theorem d_m736_4 : decode prog_6_method_11_code 4 = .ok (.getfield 19, 3) := by decide +kernel
theorem d_m736_7 : decode prog_6_method_11_code 7 = .ok (.getfield 147, 3) := by decide +kernel
theorem d_m736_10 : decode prog_6_method_11_code 10 = .ok (.if_icmp .gt 17, 3) := by decide +kernel
theorem d_m736_13 : decode prog_6_method_11_code 13 = .ok (.aload_n 0, 1) := by decide +kernel
theorem d_m736_14 : decode prog_6_method_11_code 14 = .ok (.iload_n 1, 1) := by decide +kernel
theorem d_m736_15 : decode prog_6_method_11_code 15 = .ok (.iload_n 3, 1) := by decide +kernel
theorem d_m736_16 : decode prog_6_method_11_code 16 = .ok (.iadd, 1) := by decide +kernel
theorem d_m736_17 : decode prog_6_method_11_code 17 = .ok (.iconst 0, 1) := by decide +kernel
theorem d_m736_18 : decode prog_6_method_11_code 18 = .ok (.invokevirtual 141, 3) := by decide +kernel
theorem d_m736_21 : decode prog_6_method_11_code 21 = .ok (.iinc 3 1, 3) := by decide +kernel
theorem d_m736_24 : decode prog_6_method_11_code 24 = .ok (.goto (-22), 3) := by decide +kernel
theorem d_m736_27 : decode prog_6_method_11_code 27 = .ok (.return_, 1) := by decide +kernel
theorem d_m740_0 : decode prog_6_method_12_code 0 = .ok (.aload_n 0, 1) := by decide +kernel
theorem d_m740_1 : decode prog_6_method_12_code 1 = .ok (.getfield 19, 3) := by decide +kernel
theorem d_m740_4 : decode prog_6_method_12_code 4 = .ok (.getfield 79, 3) := by decide +kernel
theorem d_m740_7 : decode prog_6_method_12_code 7 = .ok (.ifCond .eq 21, 3) := by decide +kernel
theorem d_m740_10 : decode prog_6_method_12_code 10 = .ok (.iload_n 1, 1) := by decide +kernel
theorem d_m740_11 : decode prog_6_method_12_code 11 = .ok (.bipush 15, 2) := by decide +kernel
theorem d_m740_13 : decode prog_6_method_12_code 13 = .ok (.iand, 1) := by decide +kernel
theorem d_m740_14 : decode prog_6_method_12_code 14 = .ok (.ifCond .ne 14, 3) := by decide +kernel
theorem d_m740_17 : decode prog_6_method_12_code 17 = .ok (.iload_n 1, 1) := by decide +kernel
theorem d_m740_18 : decode prog_6_method_12_code 18 = .ok (.sipush 240, 3) := by decide +kernel
theorem d_m740_21 : decode prog_6_method_12_code 21 = .ok (.if_icmp .eq 7, 3) := by decide +kernel
theorem d_m740_24 : decode prog_6_method_12_code 24 = .ok (.iconst 1, 1) := by decide +kernel
theorem d_m740_25 : decode prog_6_method_12_code 25 = .ok (.goto 4, 3) := by decide +kernel
theorem d_m740_28 : decode prog_6_method_12_code 28 = .ok (.iconst 0, 1) := by decide +kernel
theorem d_m740_29 : decode prog_6_method_12_code 29 = .ok (.ireturn, 1) := by decide +kernel
theorem d_m744_0 : decode prog_6_method_13_code 0 = .ok (.aload_n 0, 1) := by decide +kernel
theorem d_m744_1 : decode prog_6_method_13_code 1 = .ok (.getfield 27, 3) := by decide +kernel
theorem d_m744_4 : decode prog_6_method_13_code 4 = .ok (.iload_n 1, 1) := by decide +kernel
theorem d_m744_5 : decode prog_6_method_13_code 5 = .ok (.invokevirtual 134, 3) := by decide +kernel
theorem d_m744_8 : decode prog_6_method_13_code 8 = .ok (.istore_n 2, 1) := by decide +kernel
theorem d_m744_9 : decode prog_6_method_13_code 9 = .ok (.iload_n 2, 1) := by decide +kernel
theorem d_m744_10 : decode prog_6_method_13_code 10 = .ok (.iconst (-1), 1) := by decide +kernel
theorem d_m744_11 : decode prog_6_method_13_code 11 = .ok (.if_icmp .eq 12, 3) := by decide +kernel
theorem d_m744_14 : decode prog_6_method_13_code 14 = .ok (.aload_n 0, 1) := by decide +kernel
theorem d_m744_15 : decode prog_6_method_13_code 15 = .ok (.iconst 1, 1) := by decide +kernel
theorem d_m744_16 : decode prog_6_method_13_code 16 = .ok (.iload_n 1, 1) := by decide +kernel
theorem d_m744_17 : decode prog_6_method_13_code 17 = .ok (.ishl, 1) := by decide +kernel
theorem d_m744_18 : decode prog_6_method_13_code 18 = .ok (.iload_n 2, 1) := by decide +kernel
theorem d_m744_19 : decode prog_6_method_13_code 19 = .ok (.iadd, 1) := by decide +kernel
theorem d_m744_20 : decode prog_6_method_13_code 20 = .ok (.putfield 105, 3) := by decide +kernel
theorem d_m744_23 : decode prog_6_method_13_code 23 = .ok (.return_, 1) := by decide +kernel
theorem d_m748_0 : decode prog_6_method_15_code 0 = .ok (.iload_n 1, 1) := by decide +kernel
theorem d_m748_1 : decode prog_6_method_15_code 1 = .ok (.bipush 15, 2) := by decide +kernel
theorem d_m748_3 : decode prog_6_method_15_code 3 = .ok (.iand, 1) := by decide +kernel
theorem d_m748_4 : decode prog_6_method_15_code 4 = .ok (.iconst 1, 1) := by decide +kernel
theorem d_m748_5 : decode prog_6_method_15_code 5 = .ok (.if_icmp .le 13, 3) := by decide +kernel
theorem d_m748_8 : decode prog_6_method_15_code 8 = .ok (.aload_n 0, 1) := by decide +kernel
theorem d_m748_9 : decode prog_6_method_15_code 9 = .ok (.getfield 27, 3) := by decide +kernel
theorem d_m748_12 : decode prog_6_method_15_code 12 = .ok (.iconst 3, 1) := by decide +kernel
theorem d_m748_13 : decode prog_6_method_15_code 13 = .ok (.putfield 49, 3) := by decide +kernel
theorem d_m748_16 : decode prog_6_method_15_code 16 = .ok (.iload_n 3, 1) := by decide +kernel
theorem d_m748_17 : decode prog_6_method_15_code 17 = .ok (.ireturn, 1) := by decide +kernel
theorem d_m748_18 : decode prog_6_method_15_code 18 = .ok (.iconst 0, 1) := by decide +kernel
theorem d_m748_19 : decode prog_6_method_15_code 19 = .ok (.istore 4, 2) := by decide +kernel
theorem d_m748_21 : decode prog_6_method_15_code 21 = .ok (.iload_n 1, 1) := by decide +kernel
theorem d_m748_22 : decode prog_6_method_15_code 22 = .ok (.bipush 15, 2) := by decide +kernel
theorem d_m748_24 : decode prog_6_method_15_code 24 = .ok (.iand, 1) := by decide +kernel
theorem d_m748_25 : decode prog_6_method_15_code 25 = .ok (.iconst 1, 1) := by decide +kernel
theorem d_m748_26 : decode prog_6_method_15_code 26 = .ok (.if_icmp .ne 39, 3) := by decide +kernel
theorem d_m748_29 : decode prog_6_method_15_code 29 = .ok (.aload_n 0, 1) := by decide +kernel
theorem d_m748_30 : decode prog_6_method_15_code 30 = .ok (.getfield 27, 3) := by decide +kernel
theorem d_m748_33 : decode prog_6_method_15_code 33 = .ok (.iconst 1, 1) := by decide +kernel
theorem d_m748_34 : decode prog_6_method_15_code 34 = .ok (.invokevirtual 134, 3) := by decide +kernel
theorem d_m748_37 : decode prog_6_method_15_code 37 = .ok (.iconst 1, 1) := by decide +kernel
theorem d_m748_38 : decode prog_6_method_15_code 38 = .ok (.if_icmp .ne 15, 3) := by decide +kernel
theorem d_m748_41 : decode prog_6_method_15_code 41 = .ok (.iconst 1, 1) := by decide +kernel
theorem d_m748_42 : decode prog_6_method_15_code 42 = .ok (.aload_n 0, 1) := by decide +kernel
theorem d_m748_43 : decode prog_6_method_15_code 43 = .ok (.getfield 19, 3) := by decide +kernel
theorem d_m748_46 : decode prog_6_method_15_code 46 = .ok (.getfield 127, 3) := by decide +kernel
theorem d_m748_49 : decode prog_6_method_15_code 49 = .ok (.ishl, 1) := by decide +kernel
theorem d_m748_50 : decode prog_6_method_15_code 50 = .ok (.goto 13, 3) := by decide +kernel
theorem d_m748_53 : decode prog_6_method_15_code 53 = .ok (.iconst 1, 1) := by decide +kernel
theorem d_m748_54 : decode prog_6_method_15_code 54 = .ok (.aload_n 0, 1) := by decide +kernel
theorem d_m748_55 : decode prog_6_method_15_code 55 = .ok (.getfield 19, 3) := by decide +kernel
theorem d_m748_58 : decode prog_6_method_15_code 58 = .ok (.getfield 127, 3) := by decide +kernel
theorem d_m748_61 : decode prog_6_method_15_code 61 = .ok (.ishl, 1) := by decide +kernel
theorem d_m748_62 : decode prog_6_method_15_code 62 = .ok (.ineg, 1) := by decide +kernel
theorem d_m748_63 : decode prog_6_method_15_code 63 = .ok (.istore 4, 2) := by decide +kernel
theorem d_m748_65 : decode prog_6_method_15_code 65 = .ok (.iload_n 1, 1) := by decide +kernel
theorem d_m748_66 : decode prog_6_method_15_code 66 = .ok (.iconst 4, 1) := by decide +kernel
theorem d_m748_67 : decode prog_6_method_15_code 67 = .ok (.ishr, 1) := by decide +kernel
theorem d_m748_68 : decode prog_6_method_15_code 68 = .ok (.istore 5, 2) := by decide +kernel
theorem d_m748_70 : decode prog_6_method_15_code 70 = .ok (.iload_n 3, 1) := by decide +kernel
theorem d_m748_71 : decode prog_6_method_15_code 71 = .ok (.istore 6, 2) := by decide +kernel
theorem d_m748_73 : decode prog_6_method_15_code 73 = .ok (.iload 6, 2) := by decide +kernel
theorem d_m748_75 : decode prog_6_method_15_code 75 = .ok (.aload_n 0, 1) := by decide +kernel
theorem d_m748_76 : decode prog_6_method_15_code 76 = .ok (.getfield 19, 3) := by decide +kernel
theorem d_m748_79 : decode prog_6_method_15_code 79 = .ok (.getfield 147, 3) := by decide +kernel
theorem d_m748_82 : decode prog_6_method_15_code 82 = .ok (.if_icmp .gt 68, 3) := by decide +kernel
theorem d_m748_85 : decode prog_6_method_15_code 85 = .ok (.aload_n 0, 1) := by decide +kernel
theorem d_m748_86 : decode prog_6_method_15_code 86 = .ok (.getfield 27, 3) := by decide +kernel
theorem d_m748_89 : decode prog_6_method_15_code 89 = .ok (.getfield 49, 3) := by decide +kernel
theorem d_m748_92 : decode prog_6_method_15_code 92 = .ok (.ifCond .ne 58, 3) := by decide +kernel
theorem d_m748_95 : decode prog_6_method_15_code 95 = .ok (.aload_n 0, 1) := by decide +kernel
theorem d_m748_96 : decode prog_6_method_15_code 96 = .ok (.getfield 15, 3) := by decide +kernel
theorem d_m748_99 : decode prog_6_method_15_code 99 = .ok (.getfield 111, 3) := by decide +kernel
theorem d_m748_102 : decode prog_6_method_15_code 102 = .ok (.iload_n 2, 1) := by decide +kernel
theorem d_m748_103 : decode prog_6_method_15_code 103 = .ok (.iload 6, 2) := by decide +kernel
theorem d_m748_105 : decode prog_6_method_15_code 105 = .ok (.iadd, 1) := by decide +kernel
theorem d_m748_106 : decode prog_6_method_15_code 106 = .ok (.saload, 1) := by decide +kernel
theorem d_m748_107 : decode prog_6_method_15_code 107 = .ok (.ifCond .eq 14, 3) := by decide +kernel
theorem d_m748_110 : decode prog_6_method_15_code 110 = .ok (.aload_n 0, 1) := by decide +kernel
theorem d_m748_111 : decode prog_6_method_15_code 111 = .ok (.iload_n 2, 1) := by decide +kernel
theorem d_m748_112 : decode prog_6_method_15_code 112 = .ok (.iload 6, 2) := by decide +kernel
theorem d_m748_114 : decode prog_6_method_15_code 114 = .ok (.iadd, 1) := by decide +kernel
theorem d_m748_115 : decode prog_6_method_15_code 115 = .ok (.invokevirtual 166, 3) := by decide +kernel
theorem d_m748_118 : decode prog_6_method_15_code 118 = .ok (.goto 26, 3) := by decide +kernel
theorem d_m748_121 : decode prog_6_method_15_code 121 = .ok (.iload 5, 2) := by decide +kernel
theorem d_m748_123 : decode prog_6_method_15_code 123 = .ok (.ifCond .ne 18, 3) := by decide +kernel
theorem d_m748_126 : decode prog_6_method_15_code 126 = .ok (.aload_n 0, 1) := by decide +kernel
theorem d_m748_127 : decode prog_6_method_15_code 127 = .ok (.iload_n 2, 1) := by decide +kernel
theorem d_m748_128 : decode prog_6_method_15_code 128 = .ok (.iload 6, 2) := by decide +kernel
theorem d_m748_130 : decode prog_6_method_15_code 130 = .ok (.iadd, 1) := by decide +kernel
theorem d_m748_131 : decode prog_6_method_15_code 131 = .ok (.iload 4, 2) := by decide +kernel
theorem d_m748_133 : decode prog_6_method_15_code 133 = .ok (.invokevirtual 141, 3) := by decide +kernel
theorem d_m748_136 : decode prog_6_method_15_code 136 = .ok (.iload 6, 2) := by decide +kernel
theorem d_m748_138 : decode prog_6_method_15_code 138 = .ok (.iconst 1, 1) := by decide +kernel
theorem d_m748_139 : decode prog_6_method_15_code 139 = .ok (.iadd, 1) := by decide +kernel
theorem d_m748_140 : decode prog_6_method_15_code 140 = .ok (.ireturn, 1) := by decide +kernel
theorem d_m748_141 : decode prog_6_method_15_code 141 = .ok (.iinc 5 (-1), 3) := by decide +kernel
theorem d_m748_144 : decode prog_6_method_15_code 144 = .ok (.iinc 6 1, 3) := by decide +kernel
theorem d_m748_147 : decode prog_6_method_15_code 147 = .ok (.goto (-74), 3) := by decide +kernel
theorem d_m748_150 : decode prog_6_method_15_code 150 = .ok (.aload_n 0, 1) := by decide +kernel
theorem d_m748_151 : decode prog_6_method_15_code 151 = .ok (.getfield 27, 3) := by decide +kernel
theorem d_m748_154 : decode prog_6_method_15_code 154 = .ok (.getfield 49, 3) := by decide +kernel
theorem d_m748_157 : decode prog_6_method_15_code 157 = .ok (.ifCond .ne 11, 3) := by decide +kernel
theorem d_m748_160 : decode prog_6_method_15_code 160 = .ok (.aload_n 0, 1) := by decide +kernel
theorem d_m748_161 : decode prog_6_method_15_code 161 = .ok (.getfield 27, 3) := by decide +kernel
theorem d_m748_164 : decode prog_6_method_15_code 164 = .ok (.iconst 3, 1) := by decide +kernel
theorem d_m748_165 : decode prog_6_method_15_code 165 = .ok (.putfield 49, 3) := by decide +kernel
theorem d_m748_168 : decode prog_6_method_15_code 168 = .ok (.iload_n 3, 1) := by decide +kernel
theorem d_m748_169 : decode prog_6_method_15_code 169 = .ok (.ireturn, 1) := by decide +kernel
theorem d_m752_0 : decode prog_6_method_17_code 0 = .ok (.aload_n 0, 1) := by decide +kernel
theorem d_m752_1 : decode prog_6_method_17_code 1 = .ok (.getfield 27, 3) := by decide +kernel
theorem d_m752_4 : decode prog_6_method_17_code 4 = .ok (.iconst 1, 1) := by decide +kernel
theorem d_m752_5 : decode prog_6_method_17_code 5 = .ok (.invokevirtual 134, 3) := by decide +kernel
theorem d_m752_8 : decode prog_6_method_17_code 8 = .ok (.istore_n 2, 1) := by decide +kernel
theorem d_m752_9 : decode prog_6_method_17_code 9 = .ok (.aload_n 0, 1) := by decide +kernel
theorem d_m752_10 : decode prog_6_method_17_code 10 = .ok (.getfield 15, 3) := by decide +kernel
theorem d_m752_13 : decode prog_6_method_17_code 13 = .ok (.getfield 111, 3) := by decide +kernel
theorem d_m752_16 : decode prog_6_method_17_code 16 = .ok (.iload_n 1, 1) := by decide +kernel
theorem d_m752_17 : decode prog_6_method_17_code 17 = .ok (.saload, 1) := by decide +kernel
theorem d_m752_18 : decode prog_6_method_17_code 18 = .ok (.istore_n 3, 1) := by decide +kernel
theorem d_m752_19 : decode prog_6_method_17_code 19 = .ok (.iconst 1, 1) := by decide +kernel
theorem d_m752_20 : decode prog_6_method_17_code 20 = .ok (.aload_n 0, 1) := by decide +kernel
theorem d_m752_21 : decode prog_6_method_17_code 21 = .ok (.getfield 19, 3) := by decide +kernel
theorem d_m752_24 : decode prog_6_method_17_code 24 = .ok (.getfield 127, 3) := by decide +kernel
theorem d_m752_27 : decode prog_6_method_17_code 27 = .ok (.ishl, 1) := by decide +kernel
theorem d_m752_28 : decode prog_6_method_17_code 28 = .ok (.istore 4, 2) := by decide +kernel
theorem d_m752_30 : decode prog_6_method_17_code 30 = .ok (.iload_n 2, 1) := by decide +kernel
theorem d_m752_31 : decode prog_6_method_17_code 31 = .ok (.iconst 1, 1) := by decide +kernel
theorem d_m752_32 : decode prog_6_method_17_code 32 = .ok (.if_icmp .ne 33, 3) := by decide +kernel
theorem d_m752_35 : decode prog_6_method_17_code 35 = .ok (.iload_n 3, 1) := by decide +kernel
theorem d_m752_36 : decode prog_6_method_17_code 36 = .ok (.invokestatic 169, 3) := by decide +kernel
theorem d_m752_39 : decode prog_6_method_17_code 39 = .ok (.iload 4, 2) := by decide +kernel
theorem d_m752_41 : decode prog_6_method_17_code 41 = .ok (.iand, 1) := by decide +kernel
theorem d_m752_42 : decode prog_6_method_17_code 42 = .ok (.ifCond .ne 23, 3) := by decide +kernel
theorem d_m752_45 : decode prog_6_method_17_code 45 = .ok (.aload_n 0, 1) := by decide +kernel
theorem d_m752_46 : decode prog_6_method_17_code 46 = .ok (.iload_n 1, 1) := by decide +kernel
theorem d_m752_47 : decode prog_6_method_17_code 47 = .ok (.iload_n 3, 1) := by decide +kernel
theorem d_m752_48 : decode prog_6_method_17_code 48 = .ok (.ifCond .le 10, 3) := by decide +kernel
theorem d_m752_51 : decode prog_6_method_17_code 51 = .ok (.iload_n 3, 1) := by decide +kernel
theorem d_m752_52 : decode prog_6_method_17_code 52 = .ok (.iload 4, 2) := by decide +kernel
theorem d_m752_54 : decode prog_6_method_17_code 54 = .ok (.iadd, 1) := by decide +kernel
theorem d_m752_55 : decode prog_6_method_17_code 55 = .ok (.goto 7, 3) := by decide +kernel
theorem d_m752_58 : decode prog_6_method_17_code 58 = .ok (.iload_n 3, 1) := by decide +kernel
theorem d_m752_59 : decode prog_6_method_17_code 59 = .ok (.iload 4, 2) := by decide +kernel
theorem d_m752_61 : decode prog_6_method_17_code 61 = .ok (.isub, 1) := by decide +kernel
theorem d_m752_62 : decode prog_6_method_17_code 62 = .ok (.invokevirtual 141, 3) := by decide +kernel
theorem d_m752_65 : decode prog_6_method_17_code 65 = .ok (.return_, 1) := by decide +kernel
theorem d_m757_0 : decode prog_6_method_14_code 0 = .ok (.iload_n 3, 1) := by decide +kernel
theorem d_m757_1 : decode prog_6_method_14_code 1 = .ok (.iload_n 1, 1) := by decide +kernel
theorem d_m757_2 : decode prog_6_method_14_code 2 = .ok (.iconst 4, 1) := by decide +kernel
theorem d_m757_3 : decode prog_6_method_14_code 3 = .ok (.ishr, 1) := by decide +kernel
theorem d_m757_4 : decode prog_6_method_14_code 4 = .ok (.iadd, 1) := by decide +kernel
theorem d_m757_5 : decode prog_6_method_14_code 5 = .ok (.istore 4, 2) := by decide +kernel
theorem d_m757_7 : decode prog_6_method_14_code 7 = .ok (.iload_n 1, 1) := by decide +kernel
theorem d_m757_8 : decode prog_6_method_14_code 8 = .ok (.bipush 15, 2) := by decide +kernel
theorem d_m757_10 : decode prog_6_method_14_code 10 = .ok (.iand, 1) := by decide +kernel
theorem d_m757_11 : decode prog_6_method_14_code 11 = .ok (.istore 5, 2) := by decide +kernel
theorem d_m757_13 : decode prog_6_method_14_code 13 = .ok (.iload 5, 2) := by decide +kernel
theorem d_m757_15 : decode prog_6_method_14_code 15 = .ok (.bipush 10, 2) := by decide +kernel
theorem d_m757_17 : decode prog_6_method_14_code 17 = .ok (.if_icmp .gt 27, 3) := by decide +kernel
theorem d_m757_20 : decode prog_6_method_14_code 20 = .ok (.iload 5, 2) := by decide +kernel
theorem d_m757_22 : decode prog_6_method_14_code 22 = .ok (.ifCond .ne 10, 3) := by decide +kernel
theorem d_m757_25 : decode prog_6_method_14_code 25 = .ok (.iload_n 1, 1) := by decide +kernel
theorem d_m757_26 : decode prog_6_method_14_code 26 = .ok (.sipush 240, 3) := by decide +kernel
theorem d_m757_29 : decode prog_6_method_14_code 29 = .ok (.if_icmp .ne 15, 3) := by decide +kernel
theorem d_m757_32 : decode prog_6_method_14_code 32 = .ok (.iload 4, 2) := by decide +kernel
theorem d_m757_34 : decode prog_6_method_14_code 34 = .ok (.aload_n 0, 1) := by decide +kernel
theorem d_m757_35 : decode prog_6_method_14_code 35 = .ok (.getfield 19, 3) := by decide +kernel
theorem d_m757_38 : decode prog_6_method_14_code 38 = .ok (.getfield 147, 3) := by decide +kernel
theorem d_m757_41 : decode prog_6_method_14_code 41 = .ok (.if_icmp .le 14, 3) := by decide +kernel
theorem d_m757_44 : decode prog_6_method_14_code 44 = .ok (.aload_n 0, 1) := by decide +kernel
theorem d_m757_45 : decode prog_6_method_14_code 45 = .ok (.getfield 27, 3) := by decide +kernel
theorem d_m757_48 : decode prog_6_method_14_code 48 = .ok (.iconst 3, 1) := by decide +kernel
theorem d_m757_49 : decode prog_6_method_14_code 49 = .ok (.putfield 49, 3) := by decide +kernel
theorem d_m757_52 : decode prog_6_method_14_code 52 = .ok (.iload 4, 2) := by decide +kernel
theorem d_m757_54 : decode prog_6_method_14_code 54 = .ok (.ireturn, 1) := by decide +kernel
theorem d_m757_55 : decode prog_6_method_14_code 55 = .ok (.iload 5, 2) := by decide +kernel
theorem d_m757_57 : decode prog_6_method_14_code 57 = .ok (.ifCond .le 40, 3) := by decide +kernel
theorem d_m757_60 : decode prog_6_method_14_code 60 = .ok (.aload_n 0, 1) := by decide +kernel
theorem d_m757_61 : decode prog_6_method_14_code 61 = .ok (.iload 5, 2) := by decide +kernel
theorem d_m757_63 : decode prog_6_method_14_code 63 = .ok (.invokevirtual 124, 3) := by decide +kernel
theorem d_m757_66 : decode prog_6_method_14_code 66 = .ok (.istore 6, 2) := by decide +kernel
theorem d_m757_68 : decode prog_6_method_14_code 68 = .ok (.aload_n 0, 1) := by decide +kernel
theorem d_m757_69 : decode prog_6_method_14_code 69 = .ok (.getfield 27, 3) := by decide +kernel
theorem d_m757_72 : decode prog_6_method_14_code 72 = .ok (.getfield 49, 3) := by decide +kernel
theorem d_m757_75 : decode prog_6_method_14_code 75 = .ok (.ifCond .ne 22, 3) := by decide +kernel
theorem d_m757_78 : decode prog_6_method_14_code 78 = .ok (.aload_n 0, 1) := by decide +kernel
theorem d_m757_79 : decode prog_6_method_14_code 79 = .ok (.iload_n 2, 1) := by decide +kernel
theorem d_m757_80 : decode prog_6_method_14_code 80 = .ok (.iload 4, 2) := by decide +kernel
theorem d_m757_82 : decode prog_6_method_14_code 82 = .ok (.iload 6, 2) := by decide +kernel
theorem d_m757_84 : decode prog_6_method_14_code 84 = .ok (.iconst 1, 1) := by decide +kernel
theorem d_m757_85 : decode prog_6_method_14_code 85 = .ok (.aload_n 0, 1) := by decide +kernel
theorem d_m757_86 : decode prog_6_method_14_code 86 = .ok (.getfield 19, 3) := by decide +kernel
theorem d_m757_89 : decode prog_6_method_14_code 89 = .ok (.getfield 127, 3) := by decide +kernel
theorem d_m757_92 : decode prog_6_method_14_code 92 = .ok (.ishl, 1) := by decide +kernel
theorem d_m757_93 : decode prog_6_method_14_code 93 = .ok (.imul, 1) := by decide +kernel
theorem d_m757_94 : decode prog_6_method_14_code 94 = .ok (.invokevirtual 130, 3) := by decide +kernel
theorem d_m757_97 : decode prog_6_method_14_code 97 = .ok (.iload 4, 2) := by decide +kernel
theorem d_m757_99 : decode prog_6_method_14_code 99 = .ok (.iconst 1, 1) := by decide +kernel
theorem d_m757_100 : decode prog_6_method_14_code 100 = .ok (.iadd, 1) := by decide +kernel
theorem d_m757_101 : decode prog_6_method_14_code 101 = .ok (.ireturn, 1) := by decide +kernel
theorem d_m761_0 : decode prog_6_method_16_code 0 = .ok (.iload_n 2, 1) := by decide +kernel
theorem d_m761_1 : decode prog_6_method_16_code 1 = .ok (.istore_n 3, 1) := by decide +kernel
theorem d_m761_2 : decode prog_6_method_16_code 2 = .ok (.iload_n 3, 1) := by decide +kernel
theorem d_m761_3 : decode prog_6_method_16_code 3 = .ok (.aload_n 0, 1) := by decide +kernel
theorem d_m761_4 : decode prog_6_method_16_code 4 = .ok (.getfield 19, 3) := by decide +kernel
theorem d_m761_7 : decode prog_6_method_16_code 7 = .ok (.getfield 147, 3) := by decide +kernel
theorem d_m761_10 : decode prog_6_method_16_code 10 = .ok (.if_icmp .gt 40, 3) := by decide +kernel
theorem d_m761_13 : decode prog_6_method_16_code 13 = .ok (.aload_n 0, 1) := by decide +kernel
theorem d_m761_14 : decode prog_6_method_16_code 14 = .ok (.getfield 27, 3) := by decide +kernel
theorem d_m761_17 : decode prog_6_method_16_code 17 = .ok (.getfield 49, 3) := by decide +kernel
theorem d_m761_20 : decode prog_6_method_16_code 20 = .ok (.ifCond .ne 30, 3) := by decide +kernel
theorem d_m761_23 : decode prog_6_method_16_code 23 = .ok (.aload_n 0, 1) := by decide +kernel
theorem d_m761_24 : decode prog_6_method_16_code 24 = .ok (.getfield 15, 3) := by decide +kernel
theorem d_m761_27 : decode prog_6_method_16_code 27 = .ok (.getfield 111, 3) := by decide +kernel
theorem d_m761_30 : decode prog_6_method_16_code 30 = .ok (.iload_n 1, 1) := by decide +kernel
theorem d_m761_31 : decode prog_6_method_16_code 31 = .ok (.iload_n 3, 1) := by decide +kernel
theorem d_m761_32 : decode prog_6_method_16_code 32 = .ok (.iadd, 1) := by decide +kernel
theorem d_m761_33 : decode prog_6_method_16_code 33 = .ok (.saload, 1) := by decide +kernel
theorem d_m761_34 : decode prog_6_method_16_code 34 = .ok (.ifCond .eq 10, 3) := by decide +kernel
theorem d_m761_37 : decode prog_6_method_16_code 37 = .ok (.aload_n 0, 1) := by decide +kernel
theorem d_m761_38 : decode prog_6_method_16_code 38 = .ok (.iload_n 1, 1) := by decide +kernel
theorem d_m761_39 : decode prog_6_method_16_code 39 = .ok (.iload_n 3, 1) := by decide +kernel
theorem d_m761_40 : decode prog_6_method_16_code 40 = .ok (.iadd, 1) := by decide +kernel
theorem d_m761_41 : decode prog_6_method_16_code 41 = .ok (.invokevirtual 166, 3) := by decide +kernel
theorem d_m761_44 : decode prog_6_method_16_code 44 = .ok (.iinc 3 1, 3) := by decide +kernel
theorem d_m761_47 : decode prog_6_method_16_code 47 = .ok (.goto (-45), 3) := by decide +kernel
theorem d_m761_50 : decode prog_6_method_16_code 50 = .ok (.return_, 1) := by decide +kernel
theorem d_m765_0 : decode prog_6_method_9_code 0 = .ok (.aload_n 0, 1) := by decide +kernel
theorem d_m765_1 : decode prog_6_method_9_code 1 = .ok (.getfield 27, 3) := by decide +kernel
theorem d_m765_4 : decode prog_6_method_9_code 4 = .ok (.iconst 1, 1) := by decide +kernel
theorem d_m765_5 : decode prog_6_method_9_code 5 = .ok (.invokevirtual 134, 3) := by decide +kernel
theorem d_m765_8 : decode prog_6_method_9_code 8 = .ok (.istore_n 2, 1) := by decide +kernel
theorem d_m765_9 : decode prog_6_method_9_code 9 = .ok (.iload_n 2, 1) := by decide +kernel
theorem d_m765_10 : decode prog_6_method_9_code 10 = .ok (.iconst 1, 1) := by decide +kernel
theorem d_m765_11 : decode prog_6_method_9_code 11 = .ok (.if_icmp .ne 27, 3) := by decide +kernel
theorem d_m765_14 : decode prog_6_method_9_code 14 = .ok (.aload_n 0, 1) := by decide +kernel
theorem d_m765_15 : decode prog_6_method_9_code 15 = .ok (.iload_n 1, 1) := by decide +kernel
theorem d_m765_16 : decode prog_6_method_9_code 16 = .ok (.aload_n 0, 1) := by decide +kernel
theorem d_m765_17 : decode prog_6_method_9_code 17 = .ok (.getfield 15, 3) := by decide +kernel
theorem d_m765_20 : decode prog_6_method_9_code 20 = .ok (.getfield 111, 3) := by decide +kernel
theorem d_m765_23 : decode prog_6_method_9_code 23 = .ok (.iload_n 1, 1) := by decide +kernel
theorem d_m765_24 : decode prog_6_method_9_code 24 = .ok (.saload, 1) := by decide +kernel
theorem d_m765_25 : decode prog_6_method_9_code 25 = .ok (.iconst 1, 1) := by decide +kernel
theorem d_m765_26 : decode prog_6_method_9_code 26 = .ok (.aload_n 0, 1) := by decide +kernel
theorem d_m765_27 : decode prog_6_method_9_code 27 = .ok (.getfield 19, 3) := by decide +kernel
theorem d_m765_30 : decode prog_6_method_9_code 30 = .ok (.getfield 127, 3) := by decide +kernel
theorem d_m765_33 : decode prog_6_method_9_code 33 = .ok (.ishl, 1) := by decide +kernel
theorem d_m765_34 : decode prog_6_method_9_code 34 = .ok (.ior, 1) := by decide +kernel
theorem d_m765_35 : decode prog_6_method_9_code 35 = .ok (.invokevirtual 141, 3) := by decide +kernel
theorem d_m765_38 : decode prog_6_method_9_code 38 = .ok (.return_, 1) := by decide +kernel
theorem d_m769_0 : decode prog_2_method_8_code 0 = .ok (.aload_n 0, 1) := by decide +kernel
theorem d_m769_1 : decode prog_2_method_8_code 1 = .ok (.getfield 15, 3) := by decide +kernel
theorem d_m769_4 : decode prog_2_method_8_code 4 = .ok (.aload_n 0, 1) := by decide +kernel
theorem d_m769_5 : decode prog_2_method_8_code 5 = .ok (.getfield 9, 3) := by decide +kernel
theorem d_m769_8 : decode prog_2_method_8_code 8 = .ok (.getfield 31, 3) := by decide +kernel
theorem d_m769_11 : decode prog_2_method_8_code 11 = .ok (.if_icmp .eq 8, 3) := by decide +kernel
theorem d_m769_14 : decode prog_2_method_8_code 14 = .ok (.aload_n 0, 1) := by decide +kernel
theorem d_m769_15 : decode prog_2_method_8_code 15 = .ok (.iconst 5, 1) := by decide +kernel
theorem d_m769_16 : decode prog_2_method_8_code 16 = .ok (.putfield 25, 3) := by decide +kernel
theorem d_m769_19 : decode prog_2_method_8_code 19 = .ok (.return_, 1) := by decide +kernel
theorem d_m773_0 : decode prog_1_method_13_code 0 = .ok (.aload_n 0, 1) := by decide +kernel
theorem d_m773_1 : decode prog_1_method_13_code 1 = .ok (.getfield 49, 3) := by decide +kernel
theorem d_m773_4 : decode prog_1_method_13_code 4 = .ok (.invokevirtual 174, 3) := by decide +kernel
theorem d_m773_7 : decode prog_1_method_13_code 7 = .ok (.aload_n 0, 1) := by decide +kernel
theorem d_m773_8 : decode prog_1_method_13_code 8 = .ok (.getfield 67, 3) := by decide +kernel
theorem d_m773_11 : decode prog_1_method_13_code 11 = .ok (.aload_n 0, 1) := by decide +kernel
theorem d_m773_12 : decode prog_1_method_13_code 12 = .ok (.getfield 49, 3) := by decide +kernel
theorem d_m773_15 : decode prog_1_method_13_code 15 = .ok (.invokevirtual 155, 3) := by decide +kernel
theorem d_m773_18 : decode prog_1_method_13_code 18 = .ok (.aload_n 0, 1) := by decide +kernel
theorem d_m773_19 : decode prog_1_method_13_code 19 = .ok (.getfield 49, 3) := by decide +kernel
theorem d_m773_22 : decode prog_1_method_13_code 22 = .ok (.getfield 176, 3) := by decide +kernel
theorem d_m773_25 : decode prog_1_method_13_code 25 = .ok (.ireturn, 1) := by decide +kernel
theorem d_m777_0 : decode prog_4_method_2_code 0 = .ok (.aload_n 0, 1) := by decide +kernel
theorem d_m777_1 : decode prog_4_method_2_code 1 = .ok (.getfield 9, 3) := by decide +kernel
theorem d_m777_4 : decode prog_4_method_2_code 4 = .ok (.iconst 0, 1) := by decide +kernel
theorem d_m777_5 : decode prog_4_method_2_code 5 = .ok (.invokestatic 15, 3) := by decide +kernel
theorem d_m777_8 : decode prog_4_method_2_code 8 = .ok (.aload_n 0, 1) := by decide +kernel
theorem d_m777_9 : decode prog_4_method_2_code 9 = .ok (.iconst 0, 1) := by decide +kernel
theorem d_m777_10 : decode prog_4_method_2_code 10 = .ok (.putfield 21, 3) := by decide +kernel
theorem d_m777_13 : decode prog_4_method_2_code 13 = .ok (.return_, 1) := by decide +kernel
theorem d_m782_0 : decode prog_1_method_14_code 0 = .ok (.iload_n 1, 1) := by decide +kernel
theorem d_m782_1 : decode prog_1_method_14_code 1 = .ok (.ifCond .lt 20, 3) := by decide +kernel
theorem d_m782_4 : decode prog_1_method_14_code 4 = .ok (.iload_n 1, 1) := by decide +kernel
theorem d_m782_5 : decode prog_1_method_14_code 5 = .ok (.bipush 8, 2) := by decide +kernel
theorem d_m782_7 : decode prog_1_method_14_code 7 = .ok (.if_icmp .ge 14, 3) := by decide +kernel
theorem d_m782_10 : decode prog_1_method_14_code 10 = .ok (.iload_n 2, 1) := by decide +kernel
theorem d_m782_11 : decode prog_1_method_14_code 11 = .ok (.ifCond .lt 10, 3) := by decide +kernel
theorem d_m782_14 : decode prog_1_method_14_code 14 = .ok (.iload_n 2, 1) := by decide +kernel
theorem d_m782_15 : decode prog_1_method_14_code 15 = .ok (.sipush 256, 3) := by decide +kernel
theorem d_m782_18 : decode prog_1_method_14_code 18 = .ok (.if_icmp .lt 5, 3) := by decide +kernel
theorem d_m782_21 : decode prog_1_method_14_code 21 = .ok (.iconst 0, 1) := by decide +kernel
theorem d_m782_22 : decode prog_1_method_14_code 22 = .ok (.ireturn, 1) := by decide +kernel
theorem d_m782_23 : decode prog_1_method_14_code 23 = .ok (.aload_n 0, 1) := by decide +kernel
theorem d_m782_24 : decode prog_1_method_14_code 24 = .ok (.getfield 49, 3) := by decide +kernel
theorem d_m782_27 : decode prog_1_method_14_code 27 = .ok (.getfield 179, 3) := by decide +kernel
theorem d_m782_30 : decode prog_1_method_14_code 30 = .ok (.iload_n 1, 1) := by decide +kernel
theorem d_m782_31 : decode prog_1_method_14_code 31 = .ok (.sipush 256, 3) := by decide +kernel
theorem d_m782_34 : decode prog_1_method_14_code 34 = .ok (.imul, 1) := by decide +kernel
theorem d_m782_35 : decode prog_1_method_14_code 35 = .ok (.iload_n 2, 1) := by decide +kernel
theorem d_m782_36 : decode prog_1_method_14_code 36 = .ok (.iadd, 1) := by decide +kernel
theorem d_m782_37 : decode prog_1_method_14_code 37 = .ok (.iaload, 1) := by decide +kernel
theorem d_m782_38 : decode prog_1_method_14_code 38 = .ok (.ireturn, 1) := by decide +kernel
theorem d_m786_0 : decode prog_1_method_15_code 0 = .ok (.aload_n 0, 1) := by decide +kernel
theorem d_m786_1 : decode prog_1_method_15_code 1 = .ok (.getfield 42, 3) := by decide +kernel
theorem d_m786_4 : decode prog_1_method_15_code 4 = .ok (.lload_n 1, 1) := by decide +kernel
theorem d_m786_5 : decode prog_1_method_15_code 5 = .ok (.iload_n 3, 1) := by decide +kernel
theorem d_m786_6 : decode prog_1_method_15_code 6 = .ok (.invokevirtual 182, 3) := by decide +kernel
theorem d_m786_9 : decode prog_1_method_15_code 9 = .ok (.ireturn, 1) := by decide +kernel
theorem d_m790_0 : decode prog_11_method_4_code 0 = .ok (.iload_n 3, 1) := by decide +kernel
theorem d_m790_1 : decode prog_11_method_4_code 1 = .ok (.iconst 1, 1) := by decide +kernel
theorem d_m790_2 : decode prog_11_method_4_code 2 = .ok (.if_icmp .lt 21, 3) := by decide +kernel
theorem d_m790_5 : decode prog_11_method_4_code 5 = .ok (.iload_n 3, 1) := by decide +kernel
theorem d_m790_6 : decode prog_11_method_4_code 6 = .ok (.bipush 8, 2) := by decide +kernel
