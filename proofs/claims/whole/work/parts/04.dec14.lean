theorem d_m1148_90 : decode prog_14_method_58_code 90 = .ok (.baload, 1) := by decide +kernel
theorem d_m1148_91 : decode prog_14_method_58_code 91 = .ok (.sipush 255, 3) := by decide +kernel
theorem d_m1148_94 : decode prog_14_method_58_code 94 = .ok (.iand, 1) := by decide +kernel
theorem d_m1148_95 : decode prog_14_method_58_code 95 = .ok (.iload_n 1, 1) := by decide +kernel
theorem d_m1148_96 : decode prog_14_method_58_code 96 = .ok (.if_icmp .ne 7, 3) := by decide +kernel
theorem d_m1148_99 : decode prog_14_method_58_code 99 = .ok (.iconst 1, 1) := by decide +kernel
theorem d_m1148_100 : decode prog_14_method_58_code 100 = .ok (.goto 4, 3) := by decide +kernel
theorem d_m1148_103 : decode prog_14_method_58_code 103 = .ok (.iconst 0, 1) := by decide +kernel
theorem d_m1148_104 : decode prog_14_method_58_code 104 = .ok (.istore_n 2, 1) := by decide +kernel
theorem d_m1148_105 : decode prog_14_method_58_code 105 = .ok (.iload_n 2, 1) := by decide +kernel
theorem d_m1148_106 : decode prog_14_method_58_code 106 = .ok (.ifCond .ne 16, 3) := by decide +kernel
theorem d_m1148_109 : decode prog_14_method_58_code 109 = .ok (.aload_n 0, 1) := by decide +kernel
theorem d_m1148_110 : decode prog_14_method_58_code 110 = .ok (.getfield 244, 3) := by decide +kernel
theorem d_m1148_113 : decode prog_14_method_58_code 113 = .ok (.ifCond .ne 9, 3) := by decide +kernel
theorem d_m1148_116 : decode prog_14_method_58_code 116 = .ok (.aload_n 0, 1) := by decide +kernel
theorem d_m1148_117 : decode prog_14_method_58_code 117 = .ok (.iconst 5, 1) := by decide +kernel
theorem d_m1148_118 : decode prog_14_method_58_code 118 = .ok (.invokevirtual 256, 3) := by decide +kernel
theorem d_m1148_121 : decode prog_14_method_58_code 121 = .ok (.istore_n 3, 1) := by decide +kernel
theorem d_m1148_122 : decode prog_14_method_58_code 122 = .ok (.aload_n 0, 1) := by decide +kernel
theorem d_m1148_123 : decode prog_14_method_58_code 123 = .ok (.iconst 0, 1) := by decide +kernel
theorem d_m1148_124 : decode prog_14_method_58_code 124 = .ok (.putfield 250, 3) := by decide +kernel
theorem d_m1148_127 : decode prog_14_method_58_code 127 = .ok (.aload_n 0, 1) := by decide +kernel
theorem d_m1148_128 : decode prog_14_method_58_code 128 = .ok (.dup, 1) := by decide +kernel
theorem d_m1148_129 : decode prog_14_method_58_code 129 = .ok (.getfield 247, 3) := by decide +kernel
theorem d_m1148_132 : decode prog_14_method_58_code 132 = .ok (.iload_n 1, 1) := by decide +kernel
theorem d_m1148_133 : decode prog_14_method_58_code 133 = .ok (.ifCond .ne 7, 3) := by decide +kernel
theorem d_m1148_136 : decode prog_14_method_58_code 136 = .ok (.iconst 0, 1) := by decide +kernel
theorem d_m1148_137 : decode prog_14_method_58_code 137 = .ok (.goto 4, 3) := by decide +kernel
theorem d_m1148_140 : decode prog_14_method_58_code 140 = .ok (.iconst 2, 1) := by decide +kernel
theorem d_m1148_141 : decode prog_14_method_58_code 141 = .ok (.iadd, 1) := by decide +kernel
theorem d_m1148_142 : decode prog_14_method_58_code 142 = .ok (.putfield 247, 3) := by decide +kernel
theorem d_m1148_145 : decode prog_14_method_58_code 145 = .ok (.return_, 1) := by decide +kernel
theorem d_m1152_0 : decode prog_14_method_46_code 0 = .ok (.aload_n 0, 1) := by decide +kernel
theorem d_m1152_1 : decode prog_14_method_46_code 1 = .ok (.getfield 247, 3) := by decide +kernel
theorem d_m1152_4 : decode prog_14_method_46_code 4 = .ok (.iconst 1, 1) := by decide +kernel
theorem d_m1152_5 : decode prog_14_method_46_code 5 = .ok (.iadd, 1) := by decide +kernel
theorem d_m1152_6 : decode prog_14_method_46_code 6 = .ok (.aload_n 0, 1) := by decide +kernel
theorem d_m1152_7 : decode prog_14_method_46_code 7 = .ok (.getfield 241, 3) := by decide +kernel
theorem d_m1152_10 : decode prog_14_method_46_code 10 = .ok (.if_icmp .ge 68, 3) := by decide +kernel
theorem d_m1152_13 : decode prog_14_method_46_code 13 = .ok (.aload_n 0, 1) := by decide +kernel
theorem d_m1152_14 : decode prog_14_method_46_code 14 = .ok (.getfield 59, 3) := by decide +kernel
theorem d_m1152_17 : decode prog_14_method_46_code 17 = .ok (.aload_n 0, 1) := by decide +kernel
theorem d_m1152_18 : decode prog_14_method_46_code 18 = .ok (.getfield 247, 3) := by decide +kernel
theorem d_m1152_21 : decode prog_14_method_46_code 21 = .ok (.baload, 1) := by decide +kernel
theorem d_m1152_22 : decode prog_14_method_46_code 22 = .ok (.sipush 255, 3) := by decide +kernel
theorem d_m1152_25 : decode prog_14_method_46_code 25 = .ok (.iand, 1) := by decide +kernel
theorem d_m1152_26 : decode prog_14_method_46_code 26 = .ok (.sipush 255, 3) := by decide +kernel
theorem d_m1152_29 : decode prog_14_method_46_code 29 = .ok (.if_icmp .ne 49, 3) := by decide +kernel
theorem d_m1152_32 : decode prog_14_method_46_code 32 = .ok (.aload_n 0, 1) := by decide +kernel
theorem d_m1152_33 : decode prog_14_method_46_code 33 = .ok (.getfield 59, 3) := by decide +kernel
theorem d_m1152_36 : decode prog_14_method_46_code 36 = .ok (.aload_n 0, 1) := by decide +kernel
theorem d_m1152_37 : decode prog_14_method_46_code 37 = .ok (.getfield 247, 3) := by decide +kernel
theorem d_m1152_40 : decode prog_14_method_46_code 40 = .ok (.iconst 1, 1) := by decide +kernel
theorem d_m1152_41 : decode prog_14_method_46_code 41 = .ok (.iadd, 1) := by decide +kernel
theorem d_m1152_42 : decode prog_14_method_46_code 42 = .ok (.baload, 1) := by decide +kernel
theorem d_m1152_43 : decode prog_14_method_46_code 43 = .ok (.sipush 255, 3) := by decide +kernel
theorem d_m1152_46 : decode prog_14_method_46_code 46 = .ok (.iand, 1) := by decide +kernel
theorem d_m1152_47 : decode prog_14_method_46_code 47 = .ok (.sipush 208, 3) := by decide +kernel
theorem d_m1152_50 : decode prog_14_method_46_code 50 = .ok (.if_icmp .lt 28, 3) := by decide +kernel
theorem d_m1152_53 : decode prog_14_method_46_code 53 = .ok (.aload_n 0, 1) := by decide +kernel
theorem d_m1152_54 : decode prog_14_method_46_code 54 = .ok (.getfield 59, 3) := by decide +kernel
theorem d_m1152_57 : decode prog_14_method_46_code 57 = .ok (.aload_n 0, 1) := by decide +kernel
theorem d_m1152_58 : decode prog_14_method_46_code 58 = .ok (.getfield 247, 3) := by decide +kernel
theorem d_m1152_61 : decode prog_14_method_46_code 61 = .ok (.iconst 1, 1) := by decide +kernel
theorem d_m1152_62 : decode prog_14_method_46_code 62 = .ok (.iadd, 1) := by decide +kernel
theorem d_m1152_63 : decode prog_14_method_46_code 63 = .ok (.baload, 1) := by decide +kernel
theorem d_m1152_64 : decode prog_14_method_46_code 64 = .ok (.sipush 255, 3) := by decide +kernel
theorem d_m1152_67 : decode prog_14_method_46_code 67 = .ok (.iand, 1) := by decide +kernel
theorem d_m1152_68 : decode prog_14_method_46_code 68 = .ok (.sipush 215, 3) := by decide +kernel
theorem d_m1152_71 : decode prog_14_method_46_code 71 = .ok (.if_icmp .gt 7, 3) := by decide +kernel
theorem d_m1152_74 : decode prog_14_method_46_code 74 = .ok (.iconst 1, 1) := by decide +kernel
theorem d_m1152_75 : decode prog_14_method_46_code 75 = .ok (.goto 4, 3) := by decide +kernel
theorem d_m1152_78 : decode prog_14_method_46_code 78 = .ok (.iconst 0, 1) := by decide +kernel
theorem d_m1152_79 : decode prog_14_method_46_code 79 = .ok (.ireturn, 1) := by decide +kernel
theorem d_m1156_0 : decode prog_14_method_45_code 0 = .ok (.aload_n 0, 1) := by decide +kernel
theorem d_m1156_1 : decode prog_14_method_45_code 1 = .ok (.aload_n 0, 1) := by decide +kernel
theorem d_m1156_2 : decode prog_14_method_45_code 2 = .ok (.getfield 244, 3) := by decide +kernel
theorem d_m1156_5 : decode prog_14_method_45_code 5 = .ok (.ifCond .ne 7, 3) := by decide +kernel
theorem d_m1156_8 : decode prog_14_method_45_code 8 = .ok (.iload_n 1, 1) := by decide +kernel
theorem d_m1156_9 : decode prog_14_method_45_code 9 = .ok (.goto 7, 3) := by decide +kernel
theorem d_m1156_12 : decode prog_14_method_45_code 12 = .ok (.aload_n 0, 1) := by decide +kernel
theorem d_m1156_13 : decode prog_14_method_45_code 13 = .ok (.getfield 244, 3) := by decide +kernel
theorem d_m1156_16 : decode prog_14_method_45_code 16 = .ok (.putfield 244, 3) := by decide +kernel
theorem d_m1156_19 : decode prog_14_method_45_code 19 = .ok (.iconst 0, 1) := by decide +kernel
theorem d_m1156_20 : decode prog_14_method_45_code 20 = .ok (.ireturn, 1) := by decide +kernel
theorem d_m1160_0 : decode prog_14_method_57_code 0 = .ok (.aload_n 0, 1) := by decide +kernel
theorem d_m1160_1 : decode prog_14_method_57_code 1 = .ok (.getfield 113, 3) := by decide +kernel
theorem d_m1160_4 : decode prog_14_method_57_code 4 = .ok (.ifCond .ne 9, 3) := by decide +kernel
theorem d_m1160_7 : decode prog_14_method_57_code 7 = .ok (.aload_n 0, 1) := by decide +kernel
theorem d_m1160_8 : decode prog_14_method_57_code 8 = .ok (.iload_n 1, 1) := by decide +kernel
theorem d_m1160_9 : decode prog_14_method_57_code 9 = .ok (.iload_n 2, 1) := by decide +kernel
theorem d_m1160_10 : decode prog_14_method_57_code 10 = .ok (.invokevirtual 284, 3) := by decide +kernel
theorem d_m1160_13 : decode prog_14_method_57_code 13 = .ok (.aload_n 0, 1) := by decide +kernel
theorem d_m1160_14 : decode prog_14_method_57_code 14 = .ok (.getfield 116, 3) := by decide +kernel
theorem d_m1160_17 : decode prog_14_method_57_code 17 = .ok (.ifCond .le 41, 3) := by decide +kernel
theorem d_m1160_20 : decode prog_14_method_57_code 20 = .ok (.aload_n 0, 1) := by decide +kernel
theorem d_m1160_21 : decode prog_14_method_57_code 21 = .ok (.getfield 119, 3) := by decide +kernel
theorem d_m1160_24 : decode prog_14_method_57_code 24 = .ok (.ifCond .ne 34, 3) := by decide +kernel
theorem d_m1160_27 : decode prog_14_method_57_code 27 = .ok (.aload_n 0, 1) := by decide +kernel
theorem d_m1160_28 : decode prog_14_method_57_code 28 = .ok (.getfield 244, 3) := by decide +kernel
theorem d_m1160_31 : decode prog_14_method_57_code 31 = .ok (.ifCond .ne 27, 3) := by decide +kernel
theorem d_m1160_34 : decode prog_14_method_57_code 34 = .ok (.aload_n 0, 1) := by decide +kernel
theorem d_m1160_35 : decode prog_14_method_57_code 35 = .ok (.iload_n 1, 1) := by decide +kernel
theorem d_m1160_36 : decode prog_14_method_57_code 36 = .ok (.iload_n 2, 1) := by decide +kernel
theorem d_m1160_37 : decode prog_14_method_57_code 37 = .ok (.aload_n 0, 1) := by decide +kernel
theorem d_m1160_38 : decode prog_14_method_57_code 38 = .ok (.getfield 113, 3) := by decide +kernel
theorem d_m1160_41 : decode prog_14_method_57_code 41 = .ok (.ifCond .ne 7, 3) := by decide +kernel
theorem d_m1160_44 : decode prog_14_method_57_code 44 = .ok (.iconst 1, 1) := by decide +kernel
theorem d_m1160_45 : decode prog_14_method_57_code 45 = .ok (.goto 7, 3) := by decide +kernel
theorem d_m1160_48 : decode prog_14_method_57_code 48 = .ok (.aload_n 0, 1) := by decide +kernel
theorem d_m1160_49 : decode prog_14_method_57_code 49 = .ok (.getfield 113, 3) := by decide +kernel
theorem d_m1160_52 : decode prog_14_method_57_code 52 = .ok (.invokevirtual 287, 3) := by decide +kernel
theorem d_m1160_55 : decode prog_14_method_57_code 55 = .ok (.goto 23, 3) := by decide +kernel
theorem d_m1160_58 : decode prog_14_method_57_code 58 = .ok (.aload_n 0, 1) := by decide +kernel
theorem d_m1160_59 : decode prog_14_method_57_code 59 = .ok (.getfield 116, 3) := by decide +kernel
theorem d_m1160_62 : decode prog_14_method_57_code 62 = .ok (.ifCond .le 16, 3) := by decide +kernel
theorem d_m1160_65 : decode prog_14_method_57_code 65 = .ok (.aload_n 0, 1) := by decide +kernel
theorem d_m1160_66 : decode prog_14_method_57_code 66 = .ok (.getfield 244, 3) := by decide +kernel
theorem d_m1160_69 : decode prog_14_method_57_code 69 = .ok (.ifCond .ne 9, 3) := by decide +kernel
theorem d_m1160_72 : decode prog_14_method_57_code 72 = .ok (.aload_n 0, 1) := by decide +kernel
theorem d_m1160_73 : decode prog_14_method_57_code 73 = .ok (.iload_n 1, 1) := by decide +kernel
theorem d_m1160_74 : decode prog_14_method_57_code 74 = .ok (.iload_n 2, 1) := by decide +kernel
theorem d_m1160_75 : decode prog_14_method_57_code 75 = .ok (.invokevirtual 290, 3) := by decide +kernel
theorem d_m1160_78 : decode prog_14_method_57_code 78 = .ok (.return_, 1) := by decide +kernel
theorem d_m1164_0 : decode prog_14_method_52_code 0 = .ok (.bipush 64, 2) := by decide +kernel
theorem d_m1164_2 : decode prog_14_method_52_code 2 = .ok (.aload_n 0, 1) := by decide +kernel
theorem d_m1164_3 : decode prog_14_method_52_code 3 = .ok (.getfield 28, 3) := by decide +kernel
theorem d_m1164_6 : decode prog_14_method_52_code 6 = .ok (.iload_n 1, 1) := by decide +kernel
theorem d_m1164_7 : decode prog_14_method_52_code 7 = .ok (.iaload, 1) := by decide +kernel
theorem d_m1164_8 : decode prog_14_method_52_code 8 = .ok (.iload_n 2, 1) := by decide +kernel
theorem d_m1164_9 : decode prog_14_method_52_code 9 = .ok (.iadd, 1) := by decide +kernel
theorem d_m1164_10 : decode prog_14_method_52_code 10 = .ok (.imul, 1) := by decide +kernel
theorem d_m1164_11 : decode prog_14_method_52_code 11 = .ok (.istore_n 3, 1) := by decide +kernel
theorem d_m1164_12 : decode prog_14_method_52_code 12 = .ok (.aload_n 0, 1) := by decide +kernel
theorem d_m1164_13 : decode prog_14_method_52_code 13 = .ok (.getfield 119, 3) := by decide +kernel
theorem d_m1164_16 : decode prog_14_method_52_code 16 = .ok (.ifCond .le 41, 3) := by decide +kernel
theorem d_m1164_19 : decode prog_14_method_52_code 19 = .ok (.aload_n 0, 1) := by decide +kernel
theorem d_m1164_20 : decode prog_14_method_52_code 20 = .ok (.getfield 31, 3) := by decide +kernel
theorem d_m1164_23 : decode prog_14_method_52_code 23 = .ok (.iload_n 3, 1) := by decide +kernel
theorem d_m1164_24 : decode prog_14_method_52_code 24 = .ok (.aload_n 0, 1) := by decide +kernel
theorem d_m1164_25 : decode prog_14_method_52_code 25 = .ok (.invokevirtual 262, 3) := by decide +kernel
theorem d_m1164_28 : decode prog_14_method_52_code 28 = .ok (.iconst 1, 1) := by decide +kernel
theorem d_m1164_29 : decode prog_14_method_52_code 29 = .ok (.if_icmp .ne 19, 3) := by decide +kernel
theorem d_m1164_32 : decode prog_14_method_52_code 32 = .ok (.aload_n 0, 1) := by decide +kernel
theorem d_m1164_33 : decode prog_14_method_52_code 33 = .ok (.getfield 31, 3) := by decide +kernel
theorem d_m1164_36 : decode prog_14_method_52_code 36 = .ok (.iload_n 3, 1) := by decide +kernel
theorem d_m1164_37 : decode prog_14_method_52_code 37 = .ok (.saload, 1) := by decide +kernel
theorem d_m1164_38 : decode prog_14_method_52_code 38 = .ok (.iconst 1, 1) := by decide +kernel
theorem d_m1164_39 : decode prog_14_method_52_code 39 = .ok (.aload_n 0, 1) := by decide +kernel
theorem d_m1164_40 : decode prog_14_method_52_code 40 = .ok (.getfield 122, 3) := by decide +kernel
theorem d_m1164_43 : decode prog_14_method_52_code 43 = .ok (.ishl, 1) := by decide +kernel
theorem d_m1164_44 : decode prog_14_method_52_code 44 = .ok (.ior, 1) := by decide +kernel
theorem d_m1164_45 : decode prog_14_method_52_code 45 = .ok (.goto 9, 3) := by decide +kernel
theorem d_m1164_48 : decode prog_14_method_52_code 48 = .ok (.aload_n 0, 1) := by decide +kernel
theorem d_m1164_49 : decode prog_14_method_52_code 49 = .ok (.getfield 31, 3) := by decide +kernel
theorem d_m1164_52 : decode prog_14_method_52_code 52 = .ok (.iload_n 3, 1) := by decide +kernel
theorem d_m1164_53 : decode prog_14_method_52_code 53 = .ok (.saload, 1) := by decide +kernel
theorem d_m1164_54 : decode prog_14_method_52_code 54 = .ok (.i2s, 1) := by decide +kernel
theorem d_m1164_55 : decode prog_14_method_52_code 55 = .ok (.sastore, 1) := by decide +kernel
theorem d_m1164_56 : decode prog_14_method_52_code 56 = .ok (.return_, 1) := by decide +kernel
theorem d_m1164_57 : decode prog_14_method_52_code 57 = .ok (.aload_n 0, 1) := by decide +kernel
theorem d_m1164_58 : decode prog_14_method_52_code 58 = .ok (.aload_n 0, 1) := by decide +kernel
theorem d_m1164_59 : decode prog_14_method_52_code 59 = .ok (.getfield 53, 3) := by decide +kernel
theorem d_m1164_62 : decode prog_14_method_52_code 62 = .ok (.iload_n 1, 1) := by decide +kernel
theorem d_m1164_63 : decode prog_14_method_52_code 63 = .ok (.iaload, 1) := by decide +kernel
theorem d_m1164_64 : decode prog_14_method_52_code 64 = .ok (.invokevirtual 268, 3) := by decide +kernel
theorem d_m1164_67 : decode prog_14_method_52_code 67 = .ok (.istore 4, 2) := by decide +kernel
theorem d_m1164_69 : decode prog_14_method_52_code 69 = .ok (.iload 4, 2) := by decide +kernel
theorem d_m1164_71 : decode prog_14_method_52_code 71 = .ok (.bipush 11, 2) := by decide +kernel
theorem d_m1164_73 : decode prog_14_method_52_code 73 = .ok (.if_icmp .le 10, 3) := by decide +kernel
theorem d_m1164_76 : decode prog_14_method_52_code 76 = .ok (.aload_n 0, 1) := by decide +kernel
theorem d_m1164_77 : decode prog_14_method_52_code 77 = .ok (.iconst 3, 1) := by decide +kernel
theorem d_m1164_78 : decode prog_14_method_52_code 78 = .ok (.invokevirtual 256, 3) := by decide +kernel
theorem d_m1164_81 : decode prog_14_method_52_code 81 = .ok (.istore 5, 2) := by decide +kernel
theorem d_m1164_83 : decode prog_14_method_52_code 83 = .ok (.aload_n 0, 1) := by decide +kernel
theorem d_m1164_84 : decode prog_14_method_52_code 84 = .ok (.aload_n 0, 1) := by decide +kernel
theorem d_m1164_85 : decode prog_14_method_52_code 85 = .ok (.getfield 244, 3) := by decide +kernel
theorem d_m1164_88 : decode prog_14_method_52_code 88 = .ok (.ifCond .le 7, 3) := by decide +kernel
theorem d_m1164_91 : decode prog_14_method_52_code 91 = .ok (.iconst 0, 1) := by decide +kernel
theorem d_m1164_92 : decode prog_14_method_52_code 92 = .ok (.goto 5, 3) := by decide +kernel
theorem d_m1164_95 : decode prog_14_method_52_code 95 = .ok (.iload 4, 2) := by decide +kernel
theorem d_m1164_97 : decode prog_14_method_52_code 97 = .ok (.invokevirtual 271, 3) := by decide +kernel
theorem d_m1164_100 : decode prog_14_method_52_code 100 = .ok (.istore 5, 2) := by decide +kernel
theorem d_m1164_102 : decode prog_14_method_52_code 102 = .ok (.aload_n 0, 1) := by decide +kernel
theorem d_m1164_103 : decode prog_14_method_52_code 103 = .ok (.getfield 69, 3) := by decide +kernel
theorem d_m1164_106 : decode prog_14_method_52_code 106 = .ok (.iload_n 1, 1) := by decide +kernel
theorem d_m1164_107 : decode prog_14_method_52_code 107 = .ok (.iaload, 1) := by decide +kernel
theorem d_m1164_108 : decode prog_14_method_52_code 108 = .ok (.iload 5, 2) := by decide +kernel
theorem d_m1164_110 : decode prog_14_method_52_code 110 = .ok (.iadd, 1) := by decide +kernel
theorem d_m1164_111 : decode prog_14_method_52_code 111 = .ok (.istore 6, 2) := by decide +kernel
theorem d_m1164_113 : decode prog_14_method_52_code 113 = .ok (.aload_n 0, 1) := by decide +kernel
theorem d_m1164_114 : decode prog_14_method_52_code 114 = .ok (.iload_n 1, 1) := by decide +kernel
theorem d_m1164_115 : decode prog_14_method_52_code 115 = .ok (.iload_n 2, 1) := by decide +kernel
theorem d_m1164_116 : decode prog_14_method_52_code 116 = .ok (.iconst 0, 1) := by decide +kernel
theorem d_m1164_117 : decode prog_14_method_52_code 117 = .ok (.iload 6, 2) := by decide +kernel
theorem d_m1164_119 : decode prog_14_method_52_code 119 = .ok (.sipush (-1024), 3) := by decide +kernel
theorem d_m1164_122 : decode prog_14_method_52_code 122 = .ok (.if_icmp .lt 11, 3) := by decide +kernel
theorem d_m1164_125 : decode prog_14_method_52_code 125 = .ok (.iload 6, 2) := by decide +kernel
theorem d_m1164_127 : decode prog_14_method_52_code 127 = .ok (.sipush 1023, 3) := by decide +kernel
theorem d_m1164_130 : decode prog_14_method_52_code 130 = .ok (.if_icmp .le 9, 3) := by decide +kernel
theorem d_m1164_133 : decode prog_14_method_52_code 133 = .ok (.sipush 9999, 3) := by decide +kernel
theorem d_m1164_136 : decode prog_14_method_52_code 136 = .ok (.goto 12, 3) := by decide +kernel
theorem d_m1164_139 : decode prog_14_method_52_code 139 = .ok (.iload 6, 2) := by decide +kernel
theorem d_m1164_141 : decode prog_14_method_52_code 141 = .ok (.iconst 1, 1) := by decide +kernel
theorem d_m1164_142 : decode prog_14_method_52_code 142 = .ok (.aload_n 0, 1) := by decide +kernel
theorem d_m1164_143 : decode prog_14_method_52_code 143 = .ok (.getfield 122, 3) := by decide +kernel
theorem d_m1164_146 : decode prog_14_method_52_code 146 = .ok (.ishl, 1) := by decide +kernel
theorem d_m1164_147 : decode prog_14_method_52_code 147 = .ok (.imul, 1) := by decide +kernel
theorem d_m1164_148 : decode prog_14_method_52_code 148 = .ok (.invokevirtual 274, 3) := by decide +kernel
theorem d_m1164_151 : decode prog_14_method_52_code 151 = .ok (.aload_n 0, 1) := by decide +kernel
theorem d_m1164_152 : decode prog_14_method_52_code 152 = .ok (.getfield 69, 3) := by decide +kernel
theorem d_m1164_155 : decode prog_14_method_52_code 155 = .ok (.iload_n 1, 1) := by decide +kernel
theorem d_m1164_156 : decode prog_14_method_52_code 156 = .ok (.iload 6, 2) := by decide +kernel
theorem d_m1164_158 : decode prog_14_method_52_code 158 = .ok (.iastore, 1) := by decide +kernel
theorem d_m1164_159 : decode prog_14_method_52_code 159 = .ok (.return_, 1) := by decide +kernel
theorem d_m1168_0 : decode prog_14_method_47_code 0 = .ok (.aload_n 0, 1) := by decide +kernel
theorem d_m1168_1 : decode prog_14_method_47_code 1 = .ok (.getfield 244, 3) := by decide +kernel
theorem d_m1168_4 : decode prog_14_method_47_code 4 = .ok (.ifCond .le 5, 3) := by decide +kernel
theorem d_m1168_7 : decode prog_14_method_47_code 7 = .ok (.iconst 0, 1) := by decide +kernel
theorem d_m1168_8 : decode prog_14_method_47_code 8 = .ok (.ireturn, 1) := by decide +kernel
theorem d_m1168_9 : decode prog_14_method_47_code 9 = .ok (.aload_n 0, 1) := by decide +kernel
theorem d_m1168_10 : decode prog_14_method_47_code 10 = .ok (.getfield 250, 3) := by decide +kernel
theorem d_m1168_13 : decode prog_14_method_47_code 13 = .ok (.ifCond .ne 118, 3) := by decide +kernel
theorem d_m1168_16 : decode prog_14_method_47_code 16 = .ok (.aload_n 0, 1) := by decide +kernel
theorem d_m1168_17 : decode prog_14_method_47_code 17 = .ok (.getfield 247, 3) := by decide +kernel
theorem d_m1168_20 : decode prog_14_method_47_code 20 = .ok (.aload_n 0, 1) := by decide +kernel
theorem d_m1168_21 : decode prog_14_method_47_code 21 = .ok (.getfield 241, 3) := by decide +kernel
theorem d_m1168_24 : decode prog_14_method_47_code 24 = .ok (.if_icmp .eq 10, 3) := by decide +kernel
theorem d_m1168_27 : decode prog_14_method_47_code 27 = .ok (.aload_n 0, 1) := by decide +kernel
theorem d_m1168_28 : decode prog_14_method_47_code 28 = .ok (.invokevirtual 253, 3) := by decide +kernel
theorem d_m1168_31 : decode prog_14_method_47_code 31 = .ok (.ifCond .eq 9, 3) := by decide +kernel
theorem d_m1168_34 : decode prog_14_method_47_code 34 = .ok (.aload_n 0, 1) := by decide +kernel
theorem d_m1168_35 : decode prog_14_method_47_code 35 = .ok (.iconst 1, 1) := by decide +kernel
theorem d_m1168_36 : decode prog_14_method_47_code 36 = .ok (.invokevirtual 256, 3) := by decide +kernel
theorem d_m1168_39 : decode prog_14_method_47_code 39 = .ok (.ireturn, 1) := by decide +kernel
theorem d_m1168_40 : decode prog_14_method_47_code 40 = .ok (.aload_n 0, 1) := by decide +kernel
theorem d_m1168_41 : decode prog_14_method_47_code 41 = .ok (.aload_n 0, 1) := by decide +kernel
theorem d_m1168_42 : decode prog_14_method_47_code 42 = .ok (.getfield 59, 3) := by decide +kernel
theorem d_m1168_45 : decode prog_14_method_47_code 45 = .ok (.aload_n 0, 1) := by decide +kernel
theorem d_m1168_46 : decode prog_14_method_47_code 46 = .ok (.getfield 247, 3) := by decide +kernel
theorem d_m1168_49 : decode prog_14_method_47_code 49 = .ok (.baload, 1) := by decide +kernel
theorem d_m1168_50 : decode prog_14_method_47_code 50 = .ok (.sipush 255, 3) := by decide +kernel
theorem d_m1168_53 : decode prog_14_method_47_code 53 = .ok (.iand, 1) := by decide +kernel
theorem d_m1168_54 : decode prog_14_method_47_code 54 = .ok (.putfield 259, 3) := by decide +kernel
theorem d_m1168_57 : decode prog_14_method_47_code 57 = .ok (.aload_n 0, 1) := by decide +kernel
theorem d_m1168_58 : decode prog_14_method_47_code 58 = .ok (.getfield 259, 3) := by decide +kernel
theorem d_m1168_61 : decode prog_14_method_47_code 61 = .ok (.sipush 255, 3) := by decide +kernel
theorem d_m1168_64 : decode prog_14_method_47_code 64 = .ok (.if_icmp .ne 37, 3) := by decide +kernel
theorem d_m1168_67 : decode prog_14_method_47_code 67 = .ok (.aload_n 0, 1) := by decide +kernel
theorem d_m1168_68 : decode prog_14_method_47_code 68 = .ok (.getfield 247, 3) := by decide +kernel
theorem d_m1168_71 : decode prog_14_method_47_code 71 = .ok (.iconst 1, 1) := by decide +kernel
theorem d_m1168_72 : decode prog_14_method_47_code 72 = .ok (.iadd, 1) := by decide +kernel
theorem d_m1168_73 : decode prog_14_method_47_code 73 = .ok (.aload_n 0, 1) := by decide +kernel
theorem d_m1168_74 : decode prog_14_method_47_code 74 = .ok (.getfield 241, 3) := by decide +kernel
theorem d_m1168_77 : decode prog_14_method_47_code 77 = .ok (.if_icmp .eq 17, 3) := by decide +kernel
theorem d_m1168_80 : decode prog_14_method_47_code 80 = .ok (.aload_n 0, 1) := by decide +kernel
theorem d_m1168_81 : decode prog_14_method_47_code 81 = .ok (.getfield 59, 3) := by decide +kernel
theorem d_m1168_84 : decode prog_14_method_47_code 84 = .ok (.aload_n 0, 1) := by decide +kernel
theorem d_m1168_85 : decode prog_14_method_47_code 85 = .ok (.getfield 247, 3) := by decide +kernel
theorem d_m1168_88 : decode prog_14_method_47_code 88 = .ok (.iconst 1, 1) := by decide +kernel
theorem d_m1168_89 : decode prog_14_method_47_code 89 = .ok (.iadd, 1) := by decide +kernel
theorem d_m1168_90 : decode prog_14_method_47_code 90 = .ok (.baload, 1) := by decide +kernel
theorem d_m1168_91 : decode prog_14_method_47_code 91 = .ok (.ifCond .eq 10, 3) := by decide +kernel
theorem d_m1168_94 : decode prog_14_method_47_code 94 = .ok (.aload_n 0, 1) := by decide +kernel
theorem d_m1168_95 : decode prog_14_method_47_code 95 = .ok (.bipush 6, 2) := by decide +kernel
theorem d_m1168_97 : decode prog_14_method_47_code 97 = .ok (.invokevirtual 256, 3) := by decide +kernel
theorem d_m1168_100 : decode prog_14_method_47_code 100 = .ok (.ireturn, 1) := by decide +kernel
theorem d_m1168_101 : decode prog_14_method_47_code 101 = .ok (.aload_n 0, 1) := by decide +kernel
theorem d_m1168_102 : decode prog_14_method_47_code 102 = .ok (.dup, 1) := by decide +kernel
theorem d_m1168_103 : decode prog_14_method_47_code 103 = .ok (.getfield 247, 3) := by decide +kernel
theorem d_m1168_106 : decode prog_14_method_47_code 106 = .ok (.aload_n 0, 1) := by decide +kernel
theorem d_m1168_107 : decode prog_14_method_47_code 107 = .ok (.getfield 259, 3) := by decide +kernel
theorem d_m1168_110 : decode prog_14_method_47_code 110 = .ok (.sipush 255, 3) := by decide +kernel
theorem d_m1168_113 : decode prog_14_method_47_code 113 = .ok (.if_icmp .ne 7, 3) := by decide +kernel
theorem d_m1168_116 : decode prog_14_method_47_code 116 = .ok (.iconst 2, 1) := by decide +kernel
theorem d_m1168_117 : decode prog_14_method_47_code 117 = .ok (.goto 4, 3) := by decide +kernel
theorem d_m1168_120 : decode prog_14_method_47_code 120 = .ok (.iconst 1, 1) := by decide +kernel
theorem d_m1168_121 : decode prog_14_method_47_code 121 = .ok (.iadd, 1) := by decide +kernel
theorem d_m1168_122 : decode prog_14_method_47_code 122 = .ok (.putfield 247, 3) := by decide +kernel
theorem d_m1168_125 : decode prog_14_method_47_code 125 = .ok (.aload_n 0, 1) := by decide +kernel
theorem d_m1168_126 : decode prog_14_method_47_code 126 = .ok (.bipush 8, 2) := by decide +kernel
theorem d_m1168_128 : decode prog_14_method_47_code 128 = .ok (.putfield 250, 3) := by decide +kernel
theorem d_m1168_131 : decode prog_14_method_47_code 131 = .ok (.aload_n 0, 1) := by decide +kernel
theorem d_m1168_132 : decode prog_14_method_47_code 132 = .ok (.dup, 1) := by decide +kernel
theorem d_m1168_133 : decode prog_14_method_47_code 133 = .ok (.getfield 250, 3) := by decide +kernel
theorem d_m1168_136 : decode prog_14_method_47_code 136 = .ok (.iconst 1, 1) := by decide +kernel
theorem d_m1168_137 : decode prog_14_method_47_code 137 = .ok (.isub, 1) := by decide +kernel
theorem d_m1168_138 : decode prog_14_method_47_code 138 = .ok (.putfield 250, 3) := by decide +kernel
theorem d_m1168_141 : decode prog_14_method_47_code 141 = .ok (.aload_n 0, 1) := by decide +kernel
theorem d_m1168_142 : decode prog_14_method_47_code 142 = .ok (.getfield 259, 3) := by decide +kernel
theorem d_m1168_145 : decode prog_14_method_47_code 145 = .ok (.aload_n 0, 1) := by decide +kernel
theorem d_m1168_146 : decode prog_14_method_47_code 146 = .ok (.getfield 250, 3) := by decide +kernel
theorem d_m1168_149 : decode prog_14_method_47_code 149 = .ok (.ishr, 1) := by decide +kernel
theorem d_m1168_150 : decode prog_14_method_47_code 150 = .ok (.iconst 1, 1) := by decide +kernel
theorem d_m1168_151 : decode prog_14_method_47_code 151 = .ok (.iand, 1) := by decide +kernel
theorem d_m1168_152 : decode prog_14_method_47_code 152 = .ok (.ireturn, 1) := by decide +kernel
theorem d_m1172_0 : decode prog_14_method_49_code 0 = .ok (.iconst 0, 1) := by decide +kernel
theorem d_m1172_1 : decode prog_14_method_49_code 1 = .ok (.istore_n 2, 1) := by decide +kernel
theorem d_m1172_2 : decode prog_14_method_49_code 2 = .ok (.iconst 0, 1) := by decide +kernel
theorem d_m1172_3 : decode prog_14_method_49_code 3 = .ok (.istore_n 3, 1) := by decide +kernel
theorem d_m1172_4 : decode prog_14_method_49_code 4 = .ok (.iload_n 3, 1) := by decide +kernel
theorem d_m1172_5 : decode prog_14_method_49_code 5 = .ok (.bipush 16, 2) := by decide +kernel
theorem d_m1172_7 : decode prog_14_method_49_code 7 = .ok (.if_icmp .gt 142, 3) := by decide +kernel
theorem d_m1172_10 : decode prog_14_method_49_code 10 = .ok (.aload_n 0, 1) := by decide +kernel
theorem d_m1172_11 : decode prog_14_method_49_code 11 = .ok (.getfield 244, 3) := by decide +kernel
theorem d_m1172_14 : decode prog_14_method_49_code 14 = .ok (.ifCond .ne 135, 3) := by decide +kernel
theorem d_m1172_17 : decode prog_14_method_49_code 17 = .ok (.iconst 0, 1) := by decide +kernel
theorem d_m1172_18 : decode prog_14_method_49_code 18 = .ok (.istore 4, 2) := by decide +kernel
theorem d_m1172_20 : decode prog_14_method_49_code 20 = .ok (.iconst 0, 1) := by decide +kernel
theorem d_m1172_21 : decode prog_14_method_49_code 21 = .ok (.istore 5, 2) := by decide +kernel
theorem d_m1172_23 : decode prog_14_method_49_code 23 = .ok (.iload 5, 2) := by decide +kernel
theorem d_m1172_25 : decode prog_14_method_49_code 25 = .ok (.sipush 256, 3) := by decide +kernel
theorem d_m1172_28 : decode prog_14_method_49_code 28 = .ok (.if_icmp .ge 95, 3) := by decide +kernel
theorem d_m1172_31 : decode prog_14_method_49_code 31 = .ok (.aload_n 0, 1) := by decide +kernel
theorem d_m1172_32 : decode prog_14_method_49_code 32 = .ok (.getfield 47, 3) := by decide +kernel
theorem d_m1172_35 : decode prog_14_method_49_code 35 = .ok (.sipush 256, 3) := by decide +kernel
theorem d_m1172_38 : decode prog_14_method_49_code 38 = .ok (.iload_n 1, 1) := by decide +kernel
theorem d_m1172_39 : decode prog_14_method_49_code 39 = .ok (.imul, 1) := by decide +kernel
theorem d_m1172_40 : decode prog_14_method_49_code 40 = .ok (.iload 5, 2) := by decide +kernel
theorem d_m1172_42 : decode prog_14_method_49_code 42 = .ok (.iadd, 1) := by decide +kernel
theorem d_m1172_43 : decode prog_14_method_49_code 43 = .ok (.iaload, 1) := by decide +kernel
theorem d_m1172_44 : decode prog_14_method_49_code 44 = .ok (.istore 6, 2) := by decide +kernel
theorem d_m1172_46 : decode prog_14_method_49_code 46 = .ok (.iload 6, 2) := by decide +kernel
theorem d_m1172_48 : decode prog_14_method_49_code 48 = .ok (.ifCond .le 29, 3) := by decide +kernel
theorem d_m1172_51 : decode prog_14_method_49_code 51 = .ok (.iload 6, 2) := by decide +kernel
theorem d_m1172_53 : decode prog_14_method_49_code 53 = .ok (.iload_n 3, 1) := by decide +kernel
theorem d_m1172_54 : decode prog_14_method_49_code 54 = .ok (.if_icmp .ne 23, 3) := by decide +kernel
theorem d_m1172_57 : decode prog_14_method_49_code 57 = .ok (.aload_n 0, 1) := by decide +kernel
theorem d_m1172_58 : decode prog_14_method_49_code 58 = .ok (.getfield 50, 3) := by decide +kernel
theorem d_m1172_61 : decode prog_14_method_49_code 61 = .ok (.sipush 256, 3) := by decide +kernel
theorem d_m1172_64 : decode prog_14_method_49_code 64 = .ok (.iload_n 1, 1) := by decide +kernel
theorem d_m1172_65 : decode prog_14_method_49_code 65 = .ok (.imul, 1) := by decide +kernel
theorem d_m1172_66 : decode prog_14_method_49_code 66 = .ok (.iload 5, 2) := by decide +kernel
theorem d_m1172_68 : decode prog_14_method_49_code 68 = .ok (.iadd, 1) := by decide +kernel
theorem d_m1172_69 : decode prog_14_method_49_code 69 = .ok (.iaload, 1) := by decide +kernel
theorem d_m1172_70 : decode prog_14_method_49_code 70 = .ok (.iload_n 2, 1) := by decide +kernel
theorem d_m1172_71 : decode prog_14_method_49_code 71 = .ok (.if_icmp .ne 6, 3) := by decide +kernel
theorem d_m1172_74 : decode prog_14_method_49_code 74 = .ok (.iload 5, 2) := by decide +kernel
theorem d_m1172_76 : decode prog_14_method_49_code 76 = .ok (.ireturn, 1) := by decide +kernel
theorem d_m1172_77 : decode prog_14_method_49_code 77 = .ok (.iload 4, 2) := by decide +kernel
theorem d_m1172_79 : decode prog_14_method_49_code 79 = .ok (.ifCond .ne 31, 3) := by decide +kernel
theorem d_m1172_82 : decode prog_14_method_49_code 82 = .ok (.iload 6, 2) := by decide +kernel
theorem d_m1172_84 : decode prog_14_method_49_code 84 = .ok (.iload_n 3, 1) := by decide +kernel
theorem d_m1172_85 : decode prog_14_method_49_code 85 = .ok (.if_icmp .le 29, 3) := by decide +kernel
theorem d_m1172_88 : decode prog_14_method_49_code 88 = .ok (.aload_n 0, 1) := by decide +kernel
theorem d_m1172_89 : decode prog_14_method_49_code 89 = .ok (.getfield 50, 3) := by decide +kernel
theorem d_m1172_92 : decode prog_14_method_49_code 92 = .ok (.sipush 256, 3) := by decide +kernel
theorem d_m1172_95 : decode prog_14_method_49_code 95 = .ok (.iload_n 1, 1) := by decide +kernel
theorem d_m1172_96 : decode prog_14_method_49_code 96 = .ok (.imul, 1) := by decide +kernel
theorem d_m1172_97 : decode prog_14_method_49_code 97 = .ok (.iload 5, 2) := by decide +kernel
theorem d_m1172_99 : decode prog_14_method_49_code 99 = .ok (.iadd, 1) := by decide +kernel
theorem d_m1172_100 : decode prog_14_method_49_code 100 = .ok (.iaload, 1) := by decide +kernel
theorem d_m1172_101 : decode prog_14_method_49_code 101 = .ok (.iload 6, 2) := by decide +kernel
theorem d_m1172_103 : decode prog_14_method_49_code 103 = .ok (.iload_n 3, 1) := by decide +kernel
theorem d_m1172_104 : decode prog_14_method_49_code 104 = .ok (.isub, 1) := by decide +kernel
theorem d_m1172_105 : decode prog_14_method_49_code 105 = .ok (.ishr, 1) := by decide +kernel
theorem d_m1172_106 : decode prog_14_method_49_code 106 = .ok (.iload_n 2, 1) := by decide +kernel
theorem d_m1172_107 : decode prog_14_method_49_code 107 = .ok (.if_icmp .ne 7, 3) := by decide +kernel
theorem d_m1172_110 : decode prog_14_method_49_code 110 = .ok (.iconst 1, 1) := by decide +kernel
theorem d_m1172_111 : decode prog_14_method_49_code 111 = .ok (.goto 4, 3) := by decide +kernel
theorem d_m1172_114 : decode prog_14_method_49_code 114 = .ok (.iconst 0, 1) := by decide +kernel
theorem d_m1172_115 : decode prog_14_method_49_code 115 = .ok (.istore 4, 2) := by decide +kernel
theorem d_m1172_117 : decode prog_14_method_49_code 117 = .ok (.iinc 5 1, 3) := by decide +kernel
theorem d_m1172_120 : decode prog_14_method_49_code 120 = .ok (.goto (-97), 3) := by decide +kernel
theorem d_m1172_123 : decode prog_14_method_49_code 123 = .ok (.iload 4, 2) := by decide +kernel
theorem d_m1172_125 : decode prog_14_method_49_code 125 = .ok (.ifCond .ne 9, 3) := by decide +kernel
theorem d_m1172_128 : decode prog_14_method_49_code 128 = .ok (.aload_n 0, 1) := by decide +kernel
theorem d_m1172_129 : decode prog_14_method_49_code 129 = .ok (.iconst 2, 1) := by decide +kernel
theorem d_m1172_130 : decode prog_14_method_49_code 130 = .ok (.invokevirtual 256, 3) := by decide +kernel
theorem d_m1172_133 : decode prog_14_method_49_code 133 = .ok (.ireturn, 1) := by decide +kernel
theorem d_m1172_134 : decode prog_14_method_49_code 134 = .ok (.iconst 2, 1) := by decide +kernel
theorem d_m1172_135 : decode prog_14_method_49_code 135 = .ok (.iload_n 2, 1) := by decide +kernel
theorem d_m1172_136 : decode prog_14_method_49_code 136 = .ok (.imul, 1) := by decide +kernel
theorem d_m1172_137 : decode prog_14_method_49_code 137 = .ok (.aload_n 0, 1) := by decide +kernel
theorem d_m1172_138 : decode prog_14_method_49_code 138 = .ok (.invokevirtual 262, 3) := by decide +kernel
theorem d_m1172_141 : decode prog_14_method_49_code 141 = .ok (.iadd, 1) := by decide +kernel
theorem d_m1172_142 : decode prog_14_method_49_code 142 = .ok (.istore_n 2, 1) := by decide +kernel
theorem d_m1172_143 : decode prog_14_method_49_code 143 = .ok (.iinc 3 1, 3) := by decide +kernel
theorem d_m1172_146 : decode prog_14_method_49_code 146 = .ok (.goto (-142), 3) := by decide +kernel
theorem d_m1172_149 : decode prog_14_method_49_code 149 = .ok (.iconst 0, 1) := by decide +kernel
theorem d_m1172_150 : decode prog_14_method_49_code 150 = .ok (.ireturn, 1) := by decide +kernel
theorem d_m1176_0 : decode prog_14_method_50_code 0 = .ok (.aload_n 0, 1) := by decide +kernel
theorem d_m1176_1 : decode prog_14_method_50_code 1 = .ok (.iload_n 1, 1) := by decide +kernel
theorem d_m1176_2 : decode prog_14_method_50_code 2 = .ok (.invokevirtual 265, 3) := by decide +kernel
theorem d_m1176_5 : decode prog_14_method_50_code 5 = .ok (.istore_n 2, 1) := by decide +kernel
theorem d_m1176_6 : decode prog_14_method_50_code 6 = .ok (.iload_n 1, 1) := by decide +kernel
theorem d_m1176_7 : decode prog_14_method_50_code 7 = .ok (.ifCond .ne 7, 3) := by decide +kernel
theorem d_m1176_10 : decode prog_14_method_50_code 10 = .ok (.iconst 0, 1) := by decide +kernel
theorem d_m1176_11 : decode prog_14_method_50_code 11 = .ok (.goto 23, 3) := by decide +kernel
theorem d_m1176_14 : decode prog_14_method_50_code 14 = .ok (.iload_n 2, 1) := by decide +kernel
theorem d_m1176_15 : decode prog_14_method_50_code 15 = .ok (.iload_n 1, 1) := by decide +kernel
theorem d_m1176_16 : decode prog_14_method_50_code 16 = .ok (.iconst 1, 1) := by decide +kernel
theorem d_m1176_17 : decode prog_14_method_50_code 17 = .ok (.isub, 1) := by decide +kernel
theorem d_m1176_18 : decode prog_14_method_50_code 18 = .ok (.ishr, 1) := by decide +kernel
theorem d_m1176_19 : decode prog_14_method_50_code 19 = .ok (.iconst 1, 1) := by decide +kernel
theorem d_m1176_20 : decode prog_14_method_50_code 20 = .ok (.if_icmp .ne 7, 3) := by decide +kernel
theorem d_m1176_23 : decode prog_14_method_50_code 23 = .ok (.iload_n 2, 1) := by decide +kernel
theorem d_m1176_24 : decode prog_14_method_50_code 24 = .ok (.goto 10, 3) := by decide +kernel
theorem d_m1176_27 : decode prog_14_method_50_code 27 = .ok (.iload_n 2, 1) := by decide +kernel
theorem d_m1176_28 : decode prog_14_method_50_code 28 = .ok (.iconst 1, 1) := by decide +kernel
