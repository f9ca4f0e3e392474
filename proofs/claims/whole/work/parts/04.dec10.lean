theorem d_m1002_49 : decode prog_14_method_9_code 49 = .ok (.iload 5, 2) := by decide +kernel
theorem d_m1002_51 : decode prog_14_method_9_code 51 = .ok (.lshl, 1) := by decide +kernel
theorem d_m1002_52 : decode prog_14_method_9_code 52 = .ok (.lcmp, 1) := by decide +kernel
theorem d_m1002_53 : decode prog_14_method_9_code 53 = .ok (.ifCond .ge 7, 3) := by decide +kernel
theorem d_m1002_56 : decode prog_14_method_9_code 56 = .ok (.iconst 1, 1) := by decide +kernel
theorem d_m1002_57 : decode prog_14_method_9_code 57 = .ok (.goto 4, 3) := by decide +kernel
theorem d_m1002_60 : decode prog_14_method_9_code 60 = .ok (.iconst 0, 1) := by decide +kernel
theorem d_m1002_61 : decode prog_14_method_9_code 61 = .ok (.istore 4, 2) := by decide +kernel
theorem d_m1002_63 : decode prog_14_method_9_code 63 = .ok (.iinc 5 1, 3) := by decide +kernel
theorem d_m1002_66 : decode prog_14_method_9_code 66 = .ok (.goto (-56), 3) := by decide +kernel
theorem d_m1002_69 : decode prog_14_method_9_code 69 = .ok (.iconst 0, 1) := by decide +kernel
theorem d_m1002_70 : decode prog_14_method_9_code 70 = .ok (.istore 5, 2) := by decide +kernel
theorem d_m1002_72 : decode prog_14_method_9_code 72 = .ok (.iload 5, 2) := by decide +kernel
theorem d_m1002_74 : decode prog_14_method_9_code 74 = .ok (.aload_n 0, 1) := by decide +kernel
theorem d_m1002_75 : decode prog_14_method_9_code 75 = .ok (.getfield 130, 3) := by decide +kernel
theorem d_m1002_78 : decode prog_14_method_9_code 78 = .ok (.if_icmp .ge 54, 3) := by decide +kernel
theorem d_m1002_81 : decode prog_14_method_9_code 81 = .ok (.iconst 0, 1) := by decide +kernel
theorem d_m1002_82 : decode prog_14_method_9_code 82 = .ok (.istore 6, 2) := by decide +kernel
theorem d_m1002_84 : decode prog_14_method_9_code 84 = .ok (.iload 6, 2) := by decide +kernel
theorem d_m1002_86 : decode prog_14_method_9_code 86 = .ok (.iload 5, 2) := by decide +kernel
theorem d_m1002_88 : decode prog_14_method_9_code 88 = .ok (.if_icmp .ge 38, 3) := by decide +kernel
theorem d_m1002_91 : decode prog_14_method_9_code 91 = .ok (.iload 4, 2) := by decide +kernel
theorem d_m1002_93 : decode prog_14_method_9_code 93 = .ok (.ifCond .eq 24, 3) := by decide +kernel
theorem d_m1002_96 : decode prog_14_method_9_code 96 = .ok (.aload_n 0, 1) := by decide +kernel
theorem d_m1002_97 : decode prog_14_method_9_code 97 = .ok (.getfield 41, 3) := by decide +kernel
theorem d_m1002_100 : decode prog_14_method_9_code 100 = .ok (.iload 5, 2) := by decide +kernel
theorem d_m1002_102 : decode prog_14_method_9_code 102 = .ok (.iaload, 1) := by decide +kernel
theorem d_m1002_103 : decode prog_14_method_9_code 103 = .ok (.aload_n 0, 1) := by decide +kernel
theorem d_m1002_104 : decode prog_14_method_9_code 104 = .ok (.getfield 41, 3) := by decide +kernel
theorem d_m1002_107 : decode prog_14_method_9_code 107 = .ok (.iload 6, 2) := by decide +kernel
theorem d_m1002_109 : decode prog_14_method_9_code 109 = .ok (.iaload, 1) := by decide +kernel
theorem d_m1002_110 : decode prog_14_method_9_code 110 = .ok (.if_icmp .eq 7, 3) := by decide +kernel
theorem d_m1002_113 : decode prog_14_method_9_code 113 = .ok (.iconst 1, 1) := by decide +kernel
theorem d_m1002_114 : decode prog_14_method_9_code 114 = .ok (.goto 4, 3) := by decide +kernel
theorem d_m1002_117 : decode prog_14_method_9_code 117 = .ok (.iconst 0, 1) := by decide +kernel
theorem d_m1002_118 : decode prog_14_method_9_code 118 = .ok (.istore 4, 2) := by decide +kernel
theorem d_m1002_120 : decode prog_14_method_9_code 120 = .ok (.iinc 6 1, 3) := by decide +kernel
theorem d_m1002_123 : decode prog_14_method_9_code 123 = .ok (.goto (-39), 3) := by decide +kernel
theorem d_m1002_126 : decode prog_14_method_9_code 126 = .ok (.iinc 5 1, 3) := by decide +kernel
theorem d_m1002_129 : decode prog_14_method_9_code 129 = .ok (.goto (-57), 3) := by decide +kernel
theorem d_m1002_132 : decode prog_14_method_9_code 132 = .ok (.iload 4, 2) := by decide +kernel
theorem d_m1002_134 : decode prog_14_method_9_code 134 = .ok (.ifCond .eq 15, 3) := by decide +kernel
theorem d_m1002_137 : decode prog_14_method_9_code 137 = .ok (.iload_n 1, 1) := by decide +kernel
theorem d_m1002_138 : decode prog_14_method_9_code 138 = .ok (.aload_n 0, 1) := by decide +kernel
theorem d_m1002_139 : decode prog_14_method_9_code 139 = .ok (.getfield 130, 3) := by decide +kernel
theorem d_m1002_142 : decode prog_14_method_9_code 142 = .ok (.if_icmp .ne 7, 3) := by decide +kernel
theorem d_m1002_145 : decode prog_14_method_9_code 145 = .ok (.iconst 1, 1) := by decide +kernel
theorem d_m1002_146 : decode prog_14_method_9_code 146 = .ok (.goto 4, 3) := by decide +kernel
theorem d_m1002_149 : decode prog_14_method_9_code 149 = .ok (.iconst 0, 1) := by decide +kernel
theorem d_m1002_150 : decode prog_14_method_9_code 150 = .ok (.ireturn, 1) := by decide +kernel
theorem d_m1007_0 : decode prog_14_method_12_code 0 = .ok (.aload_n 0, 1) := by decide +kernel
theorem d_m1007_1 : decode prog_14_method_12_code 1 = .ok (.iconst 0, 1) := by decide +kernel
theorem d_m1007_2 : decode prog_14_method_12_code 2 = .ok (.putfield 87, 3) := by decide +kernel
theorem d_m1007_5 : decode prog_14_method_12_code 5 = .ok (.iload_n 1, 1) := by decide +kernel
theorem d_m1007_6 : decode prog_14_method_12_code 6 = .ok (.ifCond .le 43, 3) := by decide +kernel
theorem d_m1007_9 : decode prog_14_method_12_code 9 = .ok (.iload_n 1, 1) := by decide +kernel
theorem d_m1007_10 : decode prog_14_method_12_code 10 = .ok (.iconst 1, 1) := by decide +kernel
theorem d_m1007_11 : decode prog_14_method_12_code 11 = .ok (.aload_n 0, 1) := by decide +kernel
theorem d_m1007_12 : decode prog_14_method_12_code 12 = .ok (.getfield 101, 3) := by decide +kernel
theorem d_m1007_15 : decode prog_14_method_12_code 15 = .ok (.ishl, 1) := by decide +kernel
theorem d_m1007_16 : decode prog_14_method_12_code 16 = .ok (.if_icmp .ge 33, 3) := by decide +kernel
theorem d_m1007_19 : decode prog_14_method_12_code 19 = .ok (.iload 5, 2) := by decide +kernel
theorem d_m1007_21 : decode prog_14_method_12_code 21 = .ok (.ifCond .lt 28, 3) := by decide +kernel
theorem d_m1007_24 : decode prog_14_method_12_code 24 = .ok (.iload 5, 2) := by decide +kernel
theorem d_m1007_26 : decode prog_14_method_12_code 26 = .ok (.bipush 9, 2) := by decide +kernel
theorem d_m1007_28 : decode prog_14_method_12_code 28 = .ok (.if_icmp .gt 21, 3) := by decide +kernel
theorem d_m1007_31 : decode prog_14_method_12_code 31 = .ok (.iload 4, 2) := by decide +kernel
theorem d_m1007_33 : decode prog_14_method_12_code 33 = .ok (.ifCond .eq 12, 3) := by decide +kernel
theorem d_m1007_36 : decode prog_14_method_12_code 36 = .ok (.iload 4, 2) := by decide +kernel
theorem d_m1007_38 : decode prog_14_method_12_code 38 = .ok (.iload 5, 2) := by decide +kernel
theorem d_m1007_40 : decode prog_14_method_12_code 40 = .ok (.iconst 1, 1) := by decide +kernel
theorem d_m1007_41 : decode prog_14_method_12_code 41 = .ok (.iadd, 1) := by decide +kernel
theorem d_m1007_42 : decode prog_14_method_12_code 42 = .ok (.if_icmp .ne 7, 3) := by decide +kernel
theorem d_m1007_45 : decode prog_14_method_12_code 45 = .ok (.iconst 1, 1) := by decide +kernel
theorem d_m1007_46 : decode prog_14_method_12_code 46 = .ok (.goto 4, 3) := by decide +kernel
theorem d_m1007_49 : decode prog_14_method_12_code 49 = .ok (.iconst 0, 1) := by decide +kernel
theorem d_m1007_50 : decode prog_14_method_12_code 50 = .ok (.istore 6, 2) := by decide +kernel
theorem d_m1007_52 : decode prog_14_method_12_code 52 = .ok (.iload_n 2, 1) := by decide +kernel
theorem d_m1007_53 : decode prog_14_method_12_code 53 = .ok (.ifCond .ne 23, 3) := by decide +kernel
theorem d_m1007_56 : decode prog_14_method_12_code 56 = .ok (.iload_n 3, 1) := by decide +kernel
theorem d_m1007_57 : decode prog_14_method_12_code 57 = .ok (.bipush 63, 2) := by decide +kernel
theorem d_m1007_59 : decode prog_14_method_12_code 59 = .ok (.if_icmp .ne 17, 3) := by decide +kernel
theorem d_m1007_62 : decode prog_14_method_12_code 62 = .ok (.iload 4, 2) := by decide +kernel
theorem d_m1007_64 : decode prog_14_method_12_code 64 = .ok (.ifCond .ne 12, 3) := by decide +kernel
theorem d_m1007_67 : decode prog_14_method_12_code 67 = .ok (.iload 5, 2) := by decide +kernel
theorem d_m1007_69 : decode prog_14_method_12_code 69 = .ok (.ifCond .ne 7, 3) := by decide +kernel
theorem d_m1007_72 : decode prog_14_method_12_code 72 = .ok (.iconst 1, 1) := by decide +kernel
theorem d_m1007_73 : decode prog_14_method_12_code 73 = .ok (.goto 4, 3) := by decide +kernel
theorem d_m1007_76 : decode prog_14_method_12_code 76 = .ok (.iconst 0, 1) := by decide +kernel
theorem d_m1007_77 : decode prog_14_method_12_code 77 = .ok (.istore 7, 2) := by decide +kernel
theorem d_m1007_79 : decode prog_14_method_12_code 79 = .ok (.iload_n 2, 1) := by decide +kernel
theorem d_m1007_80 : decode prog_14_method_12_code 80 = .ok (.ifCond .ne 11, 3) := by decide +kernel
theorem d_m1007_83 : decode prog_14_method_12_code 83 = .ok (.iload_n 3, 1) := by decide +kernel
theorem d_m1007_84 : decode prog_14_method_12_code 84 = .ok (.ifCond .ne 7, 3) := by decide +kernel
theorem d_m1007_87 : decode prog_14_method_12_code 87 = .ok (.iconst 1, 1) := by decide +kernel
theorem d_m1007_88 : decode prog_14_method_12_code 88 = .ok (.goto 4, 3) := by decide +kernel
theorem d_m1007_91 : decode prog_14_method_12_code 91 = .ok (.iconst 0, 1) := by decide +kernel
theorem d_m1007_92 : decode prog_14_method_12_code 92 = .ok (.istore 8, 2) := by decide +kernel
theorem d_m1007_94 : decode prog_14_method_12_code 94 = .ok (.iload_n 2, 1) := by decide +kernel
theorem d_m1007_95 : decode prog_14_method_12_code 95 = .ok (.iconst 1, 1) := by decide +kernel
theorem d_m1007_96 : decode prog_14_method_12_code 96 = .ok (.if_icmp .lt 32, 3) := by decide +kernel
theorem d_m1007_99 : decode prog_14_method_12_code 99 = .ok (.iload_n 2, 1) := by decide +kernel
theorem d_m1007_100 : decode prog_14_method_12_code 100 = .ok (.bipush 63, 2) := by decide +kernel
theorem d_m1007_102 : decode prog_14_method_12_code 102 = .ok (.if_icmp .gt 26, 3) := by decide +kernel
theorem d_m1007_105 : decode prog_14_method_12_code 105 = .ok (.iload_n 3, 1) := by decide +kernel
theorem d_m1007_106 : decode prog_14_method_12_code 106 = .ok (.iload_n 2, 1) := by decide +kernel
theorem d_m1007_107 : decode prog_14_method_12_code 107 = .ok (.if_icmp .lt 21, 3) := by decide +kernel
theorem d_m1007_110 : decode prog_14_method_12_code 110 = .ok (.iload_n 3, 1) := by decide +kernel
theorem d_m1007_111 : decode prog_14_method_12_code 111 = .ok (.bipush 63, 2) := by decide +kernel
theorem d_m1007_113 : decode prog_14_method_12_code 113 = .ok (.if_icmp .gt 15, 3) := by decide +kernel
theorem d_m1007_116 : decode prog_14_method_12_code 116 = .ok (.iload_n 1, 1) := by decide +kernel
theorem d_m1007_117 : decode prog_14_method_12_code 117 = .ok (.invokestatic 139, 3) := by decide +kernel
theorem d_m1007_120 : decode prog_14_method_12_code 120 = .ok (.iconst 1, 1) := by decide +kernel
theorem d_m1007_121 : decode prog_14_method_12_code 121 = .ok (.if_icmp .ne 7, 3) := by decide +kernel
theorem d_m1007_124 : decode prog_14_method_12_code 124 = .ok (.iconst 1, 1) := by decide +kernel
theorem d_m1007_125 : decode prog_14_method_12_code 125 = .ok (.goto 4, 3) := by decide +kernel
theorem d_m1007_128 : decode prog_14_method_12_code 128 = .ok (.iconst 0, 1) := by decide +kernel
theorem d_m1007_129 : decode prog_14_method_12_code 129 = .ok (.istore 9, 2) := by decide +kernel
theorem d_m1007_131 : decode prog_14_method_12_code 131 = .ok (.iload 6, 2) := by decide +kernel
theorem d_m1007_133 : decode prog_14_method_12_code 133 = .ok (.ifCond .eq 18, 3) := by decide +kernel
theorem d_m1007_136 : decode prog_14_method_12_code 136 = .ok (.iload 7, 2) := by decide +kernel
theorem d_m1007_138 : decode prog_14_method_12_code 138 = .ok (.ifCond .ne 15, 3) := by decide +kernel
theorem d_m1007_141 : decode prog_14_method_12_code 141 = .ok (.iload 8, 2) := by decide +kernel
theorem d_m1007_143 : decode prog_14_method_12_code 143 = .ok (.ifCond .ne 10, 3) := by decide +kernel
theorem d_m1007_146 : decode prog_14_method_12_code 146 = .ok (.iload 9, 2) := by decide +kernel
theorem d_m1007_148 : decode prog_14_method_12_code 148 = .ok (.ifCond .ne 5, 3) := by decide +kernel
theorem d_m1007_151 : decode prog_14_method_12_code 151 = .ok (.iconst 0, 1) := by decide +kernel
theorem d_m1007_152 : decode prog_14_method_12_code 152 = .ok (.ireturn, 1) := by decide +kernel
theorem d_m1007_153 : decode prog_14_method_12_code 153 = .ok (.aload_n 0, 1) := by decide +kernel
theorem d_m1007_154 : decode prog_14_method_12_code 154 = .ok (.iload_n 1, 1) := by decide +kernel
theorem d_m1007_155 : decode prog_14_method_12_code 155 = .ok (.putfield 110, 3) := by decide +kernel
theorem d_m1007_158 : decode prog_14_method_12_code 158 = .ok (.aload_n 0, 1) := by decide +kernel
theorem d_m1007_159 : decode prog_14_method_12_code 159 = .ok (.iload_n 2, 1) := by decide +kernel
theorem d_m1007_160 : decode prog_14_method_12_code 160 = .ok (.putfield 113, 3) := by decide +kernel
theorem d_m1007_163 : decode prog_14_method_12_code 163 = .ok (.aload_n 0, 1) := by decide +kernel
theorem d_m1007_164 : decode prog_14_method_12_code 164 = .ok (.iload_n 3, 1) := by decide +kernel
theorem d_m1007_165 : decode prog_14_method_12_code 165 = .ok (.putfield 116, 3) := by decide +kernel
theorem d_m1007_168 : decode prog_14_method_12_code 168 = .ok (.aload_n 0, 1) := by decide +kernel
theorem d_m1007_169 : decode prog_14_method_12_code 169 = .ok (.iload 4, 2) := by decide +kernel
theorem d_m1007_171 : decode prog_14_method_12_code 171 = .ok (.putfield 119, 3) := by decide +kernel
theorem d_m1007_174 : decode prog_14_method_12_code 174 = .ok (.aload_n 0, 1) := by decide +kernel
theorem d_m1007_175 : decode prog_14_method_12_code 175 = .ok (.iload 5, 2) := by decide +kernel
theorem d_m1007_177 : decode prog_14_method_12_code 177 = .ok (.putfield 122, 3) := by decide +kernel
theorem d_m1007_180 : decode prog_14_method_12_code 180 = .ok (.iconst 1, 1) := by decide +kernel
theorem d_m1007_181 : decode prog_14_method_12_code 181 = .ok (.ireturn, 1) := by decide +kernel
theorem d_m1010_0 : decode prog_14_method_11_code 0 = .ok (.iconst 0, 1) := by decide +kernel
theorem d_m1010_1 : decode prog_14_method_11_code 1 = .ok (.istore_n 1, 1) := by decide +kernel
theorem d_m1010_2 : decode prog_14_method_11_code 2 = .ok (.iconst 0, 1) := by decide +kernel
theorem d_m1010_3 : decode prog_14_method_11_code 3 = .ok (.istore_n 2, 1) := by decide +kernel
theorem d_m1010_4 : decode prog_14_method_11_code 4 = .ok (.iload_n 2, 1) := by decide +kernel
theorem d_m1010_5 : decode prog_14_method_11_code 5 = .ok (.iconst 4, 1) := by decide +kernel
theorem d_m1010_6 : decode prog_14_method_11_code 6 = .ok (.if_icmp .ge 17, 3) := by decide +kernel
theorem d_m1010_9 : decode prog_14_method_11_code 9 = .ok (.iload_n 1, 1) := by decide +kernel
theorem d_m1010_10 : decode prog_14_method_11_code 10 = .ok (.iload_n 0, 1) := by decide +kernel
theorem d_m1010_11 : decode prog_14_method_11_code 11 = .ok (.iload_n 2, 1) := by decide +kernel
theorem d_m1010_12 : decode prog_14_method_11_code 12 = .ok (.ishr, 1) := by decide +kernel
theorem d_m1010_13 : decode prog_14_method_11_code 13 = .ok (.iconst 1, 1) := by decide +kernel
theorem d_m1010_14 : decode prog_14_method_11_code 14 = .ok (.iand, 1) := by decide +kernel
theorem d_m1010_15 : decode prog_14_method_11_code 15 = .ok (.iadd, 1) := by decide +kernel
theorem d_m1010_16 : decode prog_14_method_11_code 16 = .ok (.istore_n 1, 1) := by decide +kernel
theorem d_m1010_17 : decode prog_14_method_11_code 17 = .ok (.iinc 2 1, 3) := by decide +kernel
theorem d_m1010_20 : decode prog_14_method_11_code 20 = .ok (.goto (-16), 3) := by decide +kernel
theorem d_m1010_23 : decode prog_14_method_11_code 23 = .ok (.iload_n 1, 1) := by decide +kernel
theorem d_m1010_24 : decode prog_14_method_11_code 24 = .ok (.ireturn, 1) := by decide +kernel
theorem d_m1014_0 : decode prog_14_method_13_code 0 = .ok (.aload_n 0, 1) := by decide +kernel
theorem d_m1014_1 : decode prog_14_method_13_code 1 = .ok (.iconst 0, 1) := by decide +kernel
theorem d_m1014_2 : decode prog_14_method_13_code 2 = .ok (.putfield 87, 3) := by decide +kernel
theorem d_m1014_5 : decode prog_14_method_13_code 5 = .ok (.iload_n 1, 1) := by decide +kernel
theorem d_m1014_6 : decode prog_14_method_13_code 6 = .ok (.ifCond .lt 31, 3) := by decide +kernel
theorem d_m1014_9 : decode prog_14_method_13_code 9 = .ok (.iload_n 1, 1) := by decide +kernel
theorem d_m1014_10 : decode prog_14_method_13_code 10 = .ok (.aload_n 0, 1) := by decide +kernel
theorem d_m1014_11 : decode prog_14_method_13_code 11 = .ok (.getfield 101, 3) := by decide +kernel
theorem d_m1014_14 : decode prog_14_method_13_code 14 = .ok (.if_icmp .ge 23, 3) := by decide +kernel
theorem d_m1014_17 : decode prog_14_method_13_code 17 = .ok (.iload_n 2, 1) := by decide +kernel
theorem d_m1014_18 : decode prog_14_method_13_code 18 = .ok (.ifCond .lt 19, 3) := by decide +kernel
theorem d_m1014_21 : decode prog_14_method_13_code 21 = .ok (.iload_n 2, 1) := by decide +kernel
theorem d_m1014_22 : decode prog_14_method_13_code 22 = .ok (.iconst 3, 1) := by decide +kernel
theorem d_m1014_23 : decode prog_14_method_13_code 23 = .ok (.if_icmp .gt 14, 3) := by decide +kernel
theorem d_m1014_26 : decode prog_14_method_13_code 26 = .ok (.iload_n 3, 1) := by decide +kernel
theorem d_m1014_27 : decode prog_14_method_13_code 27 = .ok (.iconst 4, 1) := by decide +kernel
theorem d_m1014_28 : decode prog_14_method_13_code 28 = .ok (.if_icmp .lt 9, 3) := by decide +kernel
theorem d_m1014_31 : decode prog_14_method_13_code 31 = .ok (.iload_n 3, 1) := by decide +kernel
theorem d_m1014_32 : decode prog_14_method_13_code 32 = .ok (.bipush 7, 2) := by decide +kernel
theorem d_m1014_34 : decode prog_14_method_13_code 34 = .ok (.if_icmp .le 5, 3) := by decide +kernel
theorem d_m1014_37 : decode prog_14_method_13_code 37 = .ok (.iconst 0, 1) := by decide +kernel
theorem d_m1014_38 : decode prog_14_method_13_code 38 = .ok (.ireturn, 1) := by decide +kernel
theorem d_m1014_39 : decode prog_14_method_13_code 39 = .ok (.aload_n 0, 1) := by decide +kernel
theorem d_m1014_40 : decode prog_14_method_13_code 40 = .ok (.getfield 53, 3) := by decide +kernel
theorem d_m1014_43 : decode prog_14_method_13_code 43 = .ok (.iload_n 1, 1) := by decide +kernel
theorem d_m1014_44 : decode prog_14_method_13_code 44 = .ok (.iload_n 2, 1) := by decide +kernel
theorem d_m1014_45 : decode prog_14_method_13_code 45 = .ok (.iastore, 1) := by decide +kernel
theorem d_m1014_46 : decode prog_14_method_13_code 46 = .ok (.aload_n 0, 1) := by decide +kernel
theorem d_m1014_47 : decode prog_14_method_13_code 47 = .ok (.getfield 56, 3) := by decide +kernel
theorem d_m1014_50 : decode prog_14_method_13_code 50 = .ok (.iload_n 1, 1) := by decide +kernel
theorem d_m1014_51 : decode prog_14_method_13_code 51 = .ok (.iload_n 3, 1) := by decide +kernel
theorem d_m1014_52 : decode prog_14_method_13_code 52 = .ok (.iastore, 1) := by decide +kernel
theorem d_m1014_53 : decode prog_14_method_13_code 53 = .ok (.iconst 1, 1) := by decide +kernel
theorem d_m1014_54 : decode prog_14_method_13_code 54 = .ok (.ireturn, 1) := by decide +kernel
theorem d_m1018_0 : decode prog_14_method_14_code 0 = .ok (.aload_n 0, 1) := by decide +kernel
theorem d_m1018_1 : decode prog_14_method_14_code 1 = .ok (.iconst 0, 1) := by decide +kernel
theorem d_m1018_2 : decode prog_14_method_14_code 2 = .ok (.putfield 87, 3) := by decide +kernel
theorem d_m1018_5 : decode prog_14_method_14_code 5 = .ok (.iload_n 1, 1) := by decide +kernel
theorem d_m1018_6 : decode prog_14_method_14_code 6 = .ok (.ifCond .lt 9, 3) := by decide +kernel
theorem d_m1018_9 : decode prog_14_method_14_code 9 = .ok (.iload_n 1, 1) := by decide +kernel
theorem d_m1018_10 : decode prog_14_method_14_code 10 = .ok (.ldc 143, 2) := by decide +kernel
theorem d_m1018_12 : decode prog_14_method_14_code 12 = .ok (.if_icmp .le 5, 3) := by decide +kernel
theorem d_m1018_15 : decode prog_14_method_14_code 15 = .ok (.iconst 0, 1) := by decide +kernel
theorem d_m1018_16 : decode prog_14_method_14_code 16 = .ok (.ireturn, 1) := by decide +kernel
theorem d_m1018_17 : decode prog_14_method_14_code 17 = .ok (.aload_n 0, 1) := by decide +kernel
theorem d_m1018_18 : decode prog_14_method_14_code 18 = .ok (.iload_n 1, 1) := by decide +kernel
theorem d_m1018_19 : decode prog_14_method_14_code 19 = .ok (.putfield 125, 3) := by decide +kernel
theorem d_m1018_22 : decode prog_14_method_14_code 22 = .ok (.iconst 1, 1) := by decide +kernel
theorem d_m1018_23 : decode prog_14_method_14_code 23 = .ok (.ireturn, 1) := by decide +kernel
theorem d_m1023_0 : decode prog_14_method_17_code 0 = .ok (.aload_n 0, 1) := by decide +kernel
theorem d_m1023_1 : decode prog_14_method_17_code 1 = .ok (.iconst 0, 1) := by decide +kernel
theorem d_m1023_2 : decode prog_14_method_17_code 2 = .ok (.putfield 87, 3) := by decide +kernel
theorem d_m1023_5 : decode prog_14_method_17_code 5 = .ok (.aload_n 0, 1) := by decide +kernel
theorem d_m1023_6 : decode prog_14_method_17_code 6 = .ok (.iload_n 1, 1) := by decide +kernel
theorem d_m1023_7 : decode prog_14_method_17_code 7 = .ok (.iload_n 2, 1) := by decide +kernel
theorem d_m1023_8 : decode prog_14_method_17_code 8 = .ok (.invokevirtual 144, 3) := by decide +kernel
theorem d_m1023_11 : decode prog_14_method_17_code 11 = .ok (.ifCond .eq 22, 3) := by decide +kernel
theorem d_m1023_14 : decode prog_14_method_17_code 14 = .ok (.iload_n 3, 1) := by decide +kernel
theorem d_m1023_15 : decode prog_14_method_17_code 15 = .ok (.ifCond .lt 18, 3) := by decide +kernel
theorem d_m1023_18 : decode prog_14_method_17_code 18 = .ok (.iload_n 3, 1) := by decide +kernel
theorem d_m1023_19 : decode prog_14_method_17_code 19 = .ok (.bipush 63, 2) := by decide +kernel
theorem d_m1023_21 : decode prog_14_method_17_code 21 = .ok (.if_icmp .gt 12, 3) := by decide +kernel
theorem d_m1023_24 : decode prog_14_method_17_code 24 = .ok (.iload_n 3, 1) := by decide +kernel
theorem d_m1023_25 : decode prog_14_method_17_code 25 = .ok (.iload 4, 2) := by decide +kernel
theorem d_m1023_27 : decode prog_14_method_17_code 27 = .ok (.invokestatic 148, 3) := by decide +kernel
theorem d_m1023_30 : decode prog_14_method_17_code 30 = .ok (.ifCond .ne 5, 3) := by decide +kernel
theorem d_m1023_33 : decode prog_14_method_17_code 33 = .ok (.iconst 0, 1) := by decide +kernel
theorem d_m1023_34 : decode prog_14_method_17_code 34 = .ok (.ireturn, 1) := by decide +kernel
theorem d_m1023_35 : decode prog_14_method_17_code 35 = .ok (.aload_n 0, 1) := by decide +kernel
theorem d_m1023_36 : decode prog_14_method_17_code 36 = .ok (.getfield 31, 3) := by decide +kernel
theorem d_m1023_39 : decode prog_14_method_17_code 39 = .ok (.bipush 64, 2) := by decide +kernel
theorem d_m1023_41 : decode prog_14_method_17_code 41 = .ok (.aload_n 0, 1) := by decide +kernel
theorem d_m1023_42 : decode prog_14_method_17_code 42 = .ok (.getfield 28, 3) := by decide +kernel
theorem d_m1023_45 : decode prog_14_method_17_code 45 = .ok (.iload_n 1, 1) := by decide +kernel
theorem d_m1023_46 : decode prog_14_method_17_code 46 = .ok (.iaload, 1) := by decide +kernel
theorem d_m1023_47 : decode prog_14_method_17_code 47 = .ok (.iload_n 2, 1) := by decide +kernel
theorem d_m1023_48 : decode prog_14_method_17_code 48 = .ok (.iadd, 1) := by decide +kernel
theorem d_m1023_49 : decode prog_14_method_17_code 49 = .ok (.imul, 1) := by decide +kernel
theorem d_m1023_50 : decode prog_14_method_17_code 50 = .ok (.iload_n 3, 1) := by decide +kernel
theorem d_m1023_51 : decode prog_14_method_17_code 51 = .ok (.iadd, 1) := by decide +kernel
theorem d_m1023_52 : decode prog_14_method_17_code 52 = .ok (.iload 4, 2) := by decide +kernel
theorem d_m1023_54 : decode prog_14_method_17_code 54 = .ok (.i2s, 1) := by decide +kernel
theorem d_m1023_55 : decode prog_14_method_17_code 55 = .ok (.sastore, 1) := by decide +kernel
theorem d_m1023_56 : decode prog_14_method_17_code 56 = .ok (.iconst 1, 1) := by decide +kernel
theorem d_m1023_57 : decode prog_14_method_17_code 57 = .ok (.ireturn, 1) := by decide +kernel
theorem d_m1027_0 : decode prog_14_method_15_code 0 = .ok (.iload_n 1, 1) := by decide +kernel
theorem d_m1027_1 : decode prog_14_method_15_code 1 = .ok (.ifCond .lt 68, 3) := by decide +kernel
theorem d_m1027_4 : decode prog_14_method_15_code 4 = .ok (.iload_n 1, 1) := by decide +kernel
theorem d_m1027_5 : decode prog_14_method_15_code 5 = .ok (.aload_n 0, 1) := by decide +kernel
theorem d_m1027_6 : decode prog_14_method_15_code 6 = .ok (.getfield 101, 3) := by decide +kernel
theorem d_m1027_9 : decode prog_14_method_15_code 9 = .ok (.if_icmp .ge 60, 3) := by decide +kernel
theorem d_m1027_12 : decode prog_14_method_15_code 12 = .ok (.iload_n 2, 1) := by decide +kernel
theorem d_m1027_13 : decode prog_14_method_15_code 13 = .ok (.ifCond .lt 56, 3) := by decide +kernel
theorem d_m1027_16 : decode prog_14_method_15_code 16 = .ok (.iload_n 2, 1) := by decide +kernel
theorem d_m1027_17 : decode prog_14_method_15_code 17 = .ok (.aload_n 0, 1) := by decide +kernel
theorem d_m1027_18 : decode prog_14_method_15_code 18 = .ok (.getfield 16, 3) := by decide +kernel
theorem d_m1027_21 : decode prog_14_method_15_code 21 = .ok (.iload_n 1, 1) := by decide +kernel
theorem d_m1027_22 : decode prog_14_method_15_code 22 = .ok (.ifCond .lt 15, 3) := by decide +kernel
theorem d_m1027_25 : decode prog_14_method_15_code 25 = .ok (.iload_n 1, 1) := by decide +kernel
theorem d_m1027_26 : decode prog_14_method_15_code 26 = .ok (.aload_n 0, 1) := by decide +kernel
theorem d_m1027_27 : decode prog_14_method_15_code 27 = .ok (.getfield 101, 3) := by decide +kernel
theorem d_m1027_30 : decode prog_14_method_15_code 30 = .ok (.if_icmp .ge 7, 3) := by decide +kernel
theorem d_m1027_33 : decode prog_14_method_15_code 33 = .ok (.iload_n 1, 1) := by decide +kernel
theorem d_m1027_34 : decode prog_14_method_15_code 34 = .ok (.goto 4, 3) := by decide +kernel
theorem d_m1027_37 : decode prog_14_method_15_code 37 = .ok (.iconst 0, 1) := by decide +kernel
theorem d_m1027_38 : decode prog_14_method_15_code 38 = .ok (.iaload, 1) := by decide +kernel
theorem d_m1027_39 : decode prog_14_method_15_code 39 = .ok (.aload_n 0, 1) := by decide +kernel
theorem d_m1027_40 : decode prog_14_method_15_code 40 = .ok (.getfield 19, 3) := by decide +kernel
theorem d_m1027_43 : decode prog_14_method_15_code 43 = .ok (.iload_n 1, 1) := by decide +kernel
theorem d_m1027_44 : decode prog_14_method_15_code 44 = .ok (.ifCond .lt 15, 3) := by decide +kernel
theorem d_m1027_47 : decode prog_14_method_15_code 47 = .ok (.iload_n 1, 1) := by decide +kernel
theorem d_m1027_48 : decode prog_14_method_15_code 48 = .ok (.aload_n 0, 1) := by decide +kernel
theorem d_m1027_49 : decode prog_14_method_15_code 49 = .ok (.getfield 101, 3) := by decide +kernel
theorem d_m1027_52 : decode prog_14_method_15_code 52 = .ok (.if_icmp .ge 7, 3) := by decide +kernel
theorem d_m1027_55 : decode prog_14_method_15_code 55 = .ok (.iload_n 1, 1) := by decide +kernel
theorem d_m1027_56 : decode prog_14_method_15_code 56 = .ok (.goto 4, 3) := by decide +kernel
theorem d_m1027_59 : decode prog_14_method_15_code 59 = .ok (.iconst 0, 1) := by decide +kernel
theorem d_m1027_60 : decode prog_14_method_15_code 60 = .ok (.iaload, 1) := by decide +kernel
theorem d_m1027_61 : decode prog_14_method_15_code 61 = .ok (.imul, 1) := by decide +kernel
theorem d_m1027_62 : decode prog_14_method_15_code 62 = .ok (.if_icmp .ge 7, 3) := by decide +kernel
theorem d_m1027_65 : decode prog_14_method_15_code 65 = .ok (.iconst 1, 1) := by decide +kernel
theorem d_m1027_66 : decode prog_14_method_15_code 66 = .ok (.goto 4, 3) := by decide +kernel
theorem d_m1027_69 : decode prog_14_method_15_code 69 = .ok (.iconst 0, 1) := by decide +kernel
theorem d_m1027_70 : decode prog_14_method_15_code 70 = .ok (.ireturn, 1) := by decide +kernel
theorem d_m1030_0 : decode prog_14_method_16_code 0 = .ok (.iload_n 1, 1) := by decide +kernel
theorem d_m1030_1 : decode prog_14_method_16_code 1 = .ok (.iload_n 0, 1) := by decide +kernel
theorem d_m1030_2 : decode prog_14_method_16_code 2 = .ok (.ifCond .ne 9, 3) := by decide +kernel
theorem d_m1030_5 : decode prog_14_method_16_code 5 = .ok (.sipush (-1024), 3) := by decide +kernel
theorem d_m1030_8 : decode prog_14_method_16_code 8 = .ok (.goto 6, 3) := by decide +kernel
theorem d_m1030_11 : decode prog_14_method_16_code 11 = .ok (.sipush (-1023), 3) := by decide +kernel
theorem d_m1030_14 : decode prog_14_method_16_code 14 = .ok (.if_icmp .lt 14, 3) := by decide +kernel
theorem d_m1030_17 : decode prog_14_method_16_code 17 = .ok (.iload_n 1, 1) := by decide +kernel
theorem d_m1030_18 : decode prog_14_method_16_code 18 = .ok (.sipush 1023, 3) := by decide +kernel
theorem d_m1030_21 : decode prog_14_method_16_code 21 = .ok (.if_icmp .gt 7, 3) := by decide +kernel
theorem d_m1030_24 : decode prog_14_method_16_code 24 = .ok (.iconst 1, 1) := by decide +kernel
theorem d_m1030_25 : decode prog_14_method_16_code 25 = .ok (.goto 4, 3) := by decide +kernel
theorem d_m1030_28 : decode prog_14_method_16_code 28 = .ok (.iconst 0, 1) := by decide +kernel
theorem d_m1030_29 : decode prog_14_method_16_code 29 = .ok (.ireturn, 1) := by decide +kernel
theorem d_m1034_0 : decode prog_14_method_18_code 0 = .ok (.aload_n 0, 1) := by decide +kernel
theorem d_m1034_1 : decode prog_14_method_18_code 1 = .ok (.iconst 0, 1) := by decide +kernel
theorem d_m1034_2 : decode prog_14_method_18_code 2 = .ok (.putfield 87, 3) := by decide +kernel
theorem d_m1034_5 : decode prog_14_method_18_code 5 = .ok (.aload_n 0, 1) := by decide +kernel
theorem d_m1034_6 : decode prog_14_method_18_code 6 = .ok (.iload_n 1, 1) := by decide +kernel
theorem d_m1034_7 : decode prog_14_method_18_code 7 = .ok (.iload_n 2, 1) := by decide +kernel
theorem d_m1034_8 : decode prog_14_method_18_code 8 = .ok (.invokevirtual 144, 3) := by decide +kernel
theorem d_m1034_11 : decode prog_14_method_18_code 11 = .ok (.ifCond .eq 13, 3) := by decide +kernel
theorem d_m1034_14 : decode prog_14_method_18_code 14 = .ok (.iload_n 3, 1) := by decide +kernel
theorem d_m1034_15 : decode prog_14_method_18_code 15 = .ok (.ifCond .lt 9, 3) := by decide +kernel
theorem d_m1034_18 : decode prog_14_method_18_code 18 = .ok (.iload_n 3, 1) := by decide +kernel
theorem d_m1034_19 : decode prog_14_method_18_code 19 = .ok (.bipush 63, 2) := by decide +kernel
theorem d_m1034_21 : decode prog_14_method_18_code 21 = .ok (.if_icmp .le 7, 3) := by decide +kernel
theorem d_m1034_24 : decode prog_14_method_18_code 24 = .ok (.iconst 0, 1) := by decide +kernel
theorem d_m1034_25 : decode prog_14_method_18_code 25 = .ok (.goto 21, 3) := by decide +kernel
theorem d_m1034_28 : decode prog_14_method_18_code 28 = .ok (.aload_n 0, 1) := by decide +kernel
theorem d_m1034_29 : decode prog_14_method_18_code 29 = .ok (.getfield 31, 3) := by decide +kernel
theorem d_m1034_32 : decode prog_14_method_18_code 32 = .ok (.bipush 64, 2) := by decide +kernel
theorem d_m1034_34 : decode prog_14_method_18_code 34 = .ok (.aload_n 0, 1) := by decide +kernel
theorem d_m1034_35 : decode prog_14_method_18_code 35 = .ok (.getfield 28, 3) := by decide +kernel
theorem d_m1034_38 : decode prog_14_method_18_code 38 = .ok (.iload_n 1, 1) := by decide +kernel
theorem d_m1034_39 : decode prog_14_method_18_code 39 = .ok (.iaload, 1) := by decide +kernel
theorem d_m1034_40 : decode prog_14_method_18_code 40 = .ok (.iload_n 2, 1) := by decide +kernel
theorem d_m1034_41 : decode prog_14_method_18_code 41 = .ok (.iadd, 1) := by decide +kernel
theorem d_m1034_42 : decode prog_14_method_18_code 42 = .ok (.imul, 1) := by decide +kernel
theorem d_m1034_43 : decode prog_14_method_18_code 43 = .ok (.iload_n 3, 1) := by decide +kernel
theorem d_m1034_44 : decode prog_14_method_18_code 44 = .ok (.iadd, 1) := by decide +kernel
theorem d_m1034_45 : decode prog_14_method_18_code 45 = .ok (.saload, 1) := by decide +kernel
theorem d_m1034_46 : decode prog_14_method_18_code 46 = .ok (.ireturn, 1) := by decide +kernel
theorem d_m1038_0 : decode prog_14_method_39_code 0 = .ok (.aload_n 0, 1) := by decide +kernel
theorem d_m1038_1 : decode prog_14_method_39_code 1 = .ok (.iconst 0, 1) := by decide +kernel
theorem d_m1038_2 : decode prog_14_method_39_code 2 = .ok (.putfield 87, 3) := by decide +kernel
theorem d_m1038_5 : decode prog_14_method_39_code 5 = .ok (.aload_n 0, 1) := by decide +kernel
theorem d_m1038_6 : decode prog_14_method_39_code 6 = .ok (.iconst 0, 1) := by decide +kernel
theorem d_m1038_7 : decode prog_14_method_39_code 7 = .ok (.putfield 155, 3) := by decide +kernel
theorem d_m1038_10 : decode prog_14_method_39_code 10 = .ok (.iconst 0, 1) := by decide +kernel
theorem d_m1038_11 : decode prog_14_method_39_code 11 = .ok (.istore_n 1, 1) := by decide +kernel
theorem d_m1038_12 : decode prog_14_method_39_code 12 = .ok (.iload_n 1, 1) := by decide +kernel
theorem d_m1038_13 : decode prog_14_method_39_code 13 = .ok (.sipush 2048, 3) := by decide +kernel
theorem d_m1038_16 : decode prog_14_method_39_code 16 = .ok (.if_icmp .ge 21, 3) := by decide +kernel
theorem d_m1038_19 : decode prog_14_method_39_code 19 = .ok (.aload_n 0, 1) := by decide +kernel
theorem d_m1038_20 : decode prog_14_method_39_code 20 = .ok (.getfield 78, 3) := by decide +kernel
theorem d_m1038_23 : decode prog_14_method_39_code 23 = .ok (.iload_n 1, 1) := by decide +kernel
theorem d_m1038_24 : decode prog_14_method_39_code 24 = .ok (.aload_n 0, 1) := by decide +kernel
theorem d_m1038_25 : decode prog_14_method_39_code 25 = .ok (.getfield 66, 3) := by decide +kernel
theorem d_m1038_28 : decode prog_14_method_39_code 28 = .ok (.iload_n 1, 1) := by decide +kernel
theorem d_m1038_29 : decode prog_14_method_39_code 29 = .ok (.iaload, 1) := by decide +kernel
theorem d_m1038_30 : decode prog_14_method_39_code 30 = .ok (.iastore, 1) := by decide +kernel
theorem d_m1038_31 : decode prog_14_method_39_code 31 = .ok (.iinc 1 1, 3) := by decide +kernel
theorem d_m1038_34 : decode prog_14_method_39_code 34 = .ok (.goto (-22), 3) := by decide +kernel
theorem d_m1038_37 : decode prog_14_method_39_code 37 = .ok (.aload_n 0, 1) := by decide +kernel
theorem d_m1038_38 : decode prog_14_method_39_code 38 = .ok (.invokevirtual 238, 3) := by decide +kernel
theorem d_m1038_41 : decode prog_14_method_39_code 41 = .ok (.iconst 0, 1) := by decide +kernel
theorem d_m1038_42 : decode prog_14_method_39_code 42 = .ok (.istore_n 1, 1) := by decide +kernel
theorem d_m1038_43 : decode prog_14_method_39_code 43 = .ok (.iload_n 1, 1) := by decide +kernel
theorem d_m1038_44 : decode prog_14_method_39_code 44 = .ok (.sipush 2048, 3) := by decide +kernel
theorem d_m1038_47 : decode prog_14_method_39_code 47 = .ok (.if_icmp .ge 21, 3) := by decide +kernel
theorem d_m1038_50 : decode prog_14_method_39_code 50 = .ok (.aload_n 0, 1) := by decide +kernel
theorem d_m1038_51 : decode prog_14_method_39_code 51 = .ok (.getfield 66, 3) := by decide +kernel
theorem d_m1038_54 : decode prog_14_method_39_code 54 = .ok (.iload_n 1, 1) := by decide +kernel
theorem d_m1038_55 : decode prog_14_method_39_code 55 = .ok (.aload_n 0, 1) := by decide +kernel
theorem d_m1038_56 : decode prog_14_method_39_code 56 = .ok (.getfield 78, 3) := by decide +kernel
theorem d_m1038_59 : decode prog_14_method_39_code 59 = .ok (.iload_n 1, 1) := by decide +kernel
theorem d_m1038_60 : decode prog_14_method_39_code 60 = .ok (.iaload, 1) := by decide +kernel
theorem d_m1038_61 : decode prog_14_method_39_code 61 = .ok (.iastore, 1) := by decide +kernel
theorem d_m1038_62 : decode prog_14_method_39_code 62 = .ok (.iinc 1 1, 3) := by decide +kernel
theorem d_m1038_65 : decode prog_14_method_39_code 65 = .ok (.goto (-22), 3) := by decide +kernel
theorem d_m1038_68 : decode prog_14_method_39_code 68 = .ok (.aload_n 0, 1) := by decide +kernel
theorem d_m1038_69 : decode prog_14_method_39_code 69 = .ok (.getfield 172, 3) := by decide +kernel
theorem d_m1038_72 : decode prog_14_method_39_code 72 = .ok (.ifCond .eq 5, 3) := by decide +kernel
theorem d_m1038_75 : decode prog_14_method_39_code 75 = .ok (.iconst (-1), 1) := by decide +kernel
theorem d_m1038_76 : decode prog_14_method_39_code 76 = .ok (.ireturn, 1) := by decide +kernel
theorem d_m1038_77 : decode prog_14_method_39_code 77 = .ok (.aload_n 0, 1) := by decide +kernel
theorem d_m1038_78 : decode prog_14_method_39_code 78 = .ok (.aload_n 0, 1) := by decide +kernel
theorem d_m1038_79 : decode prog_14_method_39_code 79 = .ok (.getfield 169, 3) := by decide +kernel
theorem d_m1038_82 : decode prog_14_method_39_code 82 = .ok (.putfield 241, 3) := by decide +kernel
theorem d_m1038_85 : decode prog_14_method_39_code 85 = .ok (.iconst 0, 1) := by decide +kernel
theorem d_m1038_86 : decode prog_14_method_39_code 86 = .ok (.istore_n 1, 1) := by decide +kernel
theorem d_m1038_87 : decode prog_14_method_39_code 87 = .ok (.iload_n 1, 1) := by decide +kernel
theorem d_m1038_88 : decode prog_14_method_39_code 88 = .ok (.aload_n 0, 1) := by decide +kernel
theorem d_m1038_89 : decode prog_14_method_39_code 89 = .ok (.getfield 169, 3) := by decide +kernel
theorem d_m1038_92 : decode prog_14_method_39_code 92 = .ok (.if_icmp .ge 21, 3) := by decide +kernel
theorem d_m1038_95 : decode prog_14_method_39_code 95 = .ok (.aload_n 0, 1) := by decide +kernel
theorem d_m1038_96 : decode prog_14_method_39_code 96 = .ok (.getfield 59, 3) := by decide +kernel
theorem d_m1038_99 : decode prog_14_method_39_code 99 = .ok (.iload_n 1, 1) := by decide +kernel
theorem d_m1038_100 : decode prog_14_method_39_code 100 = .ok (.aload_n 0, 1) := by decide +kernel
theorem d_m1038_101 : decode prog_14_method_39_code 101 = .ok (.getfield 63, 3) := by decide +kernel
theorem d_m1038_104 : decode prog_14_method_39_code 104 = .ok (.iload_n 1, 1) := by decide +kernel
theorem d_m1038_105 : decode prog_14_method_39_code 105 = .ok (.baload, 1) := by decide +kernel
theorem d_m1038_106 : decode prog_14_method_39_code 106 = .ok (.bastore, 1) := by decide +kernel
theorem d_m1038_107 : decode prog_14_method_39_code 107 = .ok (.iinc 1 1, 3) := by decide +kernel
theorem d_m1038_110 : decode prog_14_method_39_code 110 = .ok (.goto (-23), 3) := by decide +kernel
theorem d_m1038_113 : decode prog_14_method_39_code 113 = .ok (.aload_n 0, 1) := by decide +kernel
theorem d_m1038_114 : decode prog_14_method_39_code 114 = .ok (.getfield 241, 3) := by decide +kernel
theorem d_m1038_117 : decode prog_14_method_39_code 117 = .ok (.ireturn, 1) := by decide +kernel
theorem d_m1042_0 : decode prog_14_method_38_code 0 = .ok (.aload_n 0, 1) := by decide +kernel
theorem d_m1042_1 : decode prog_14_method_38_code 1 = .ok (.iconst 0, 1) := by decide +kernel
theorem d_m1042_2 : decode prog_14_method_38_code 2 = .ok (.putfield 169, 3) := by decide +kernel
