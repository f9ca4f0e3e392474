theorem d_m22_0 : decode prog_1_method_1_code 0 = .ok (.aload_n 0, 1) := by decide +kernel
theorem d_m22_1 : decode prog_1_method_1_code 1 = .ok (.invokespecial 1, 3) := by decide +kernel
theorem d_m22_4 : decode prog_1_method_1_code 4 = .ok (.aload_n 0, 1) := by decide +kernel
theorem d_m22_5 : decode prog_1_method_1_code 5 = .ok (.new 7, 3) := by decide +kernel
theorem d_m22_8 : decode prog_1_method_1_code 8 = .ok (.dup, 1) := by decide +kernel
theorem d_m22_9 : decode prog_1_method_1_code 9 = .ok (.invokespecial 9, 3) := by decide +kernel
theorem d_m22_12 : decode prog_1_method_1_code 12 = .ok (.putfield 10, 3) := by decide +kernel
theorem d_m22_15 : decode prog_1_method_1_code 15 = .ok (.aload_n 0, 1) := by decide +kernel
theorem d_m22_16 : decode prog_1_method_1_code 16 = .ok (.new 16, 3) := by decide +kernel
theorem d_m22_19 : decode prog_1_method_1_code 19 = .ok (.dup, 1) := by decide +kernel
theorem d_m22_20 : decode prog_1_method_1_code 20 = .ok (.aload_n 0, 1) := by decide +kernel
theorem d_m22_21 : decode prog_1_method_1_code 21 = .ok (.getfield 10, 3) := by decide +kernel
theorem d_m22_24 : decode prog_1_method_1_code 24 = .ok (.invokespecial 18, 3) := by decide +kernel
theorem d_m22_27 : decode prog_1_method_1_code 27 = .ok (.putfield 21, 3) := by decide +kernel
theorem d_m22_30 : decode prog_1_method_1_code 30 = .ok (.aload_n 0, 1) := by decide +kernel
theorem d_m22_31 : decode prog_1_method_1_code 31 = .ok (.new 25, 3) := by decide +kernel
theorem d_m22_34 : decode prog_1_method_1_code 34 = .ok (.dup, 1) := by decide +kernel
theorem d_m22_35 : decode prog_1_method_1_code 35 = .ok (.invokespecial 27, 3) := by decide +kernel
theorem d_m22_38 : decode prog_1_method_1_code 38 = .ok (.putfield 28, 3) := by decide +kernel
theorem d_m22_41 : decode prog_1_method_1_code 41 = .ok (.aload_n 0, 1) := by decide +kernel
theorem d_m22_42 : decode prog_1_method_1_code 42 = .ok (.bipush 8, 2) := by decide +kernel
theorem d_m22_44 : decode prog_1_method_1_code 44 = .ok (.anewarray 32, 3) := by decide +kernel
theorem d_m22_47 : decode prog_1_method_1_code 47 = .ok (.putfield 34, 3) := by decide +kernel
theorem d_m22_50 : decode prog_1_method_1_code 50 = .ok (.iconst 0, 1) := by decide +kernel
theorem d_m22_51 : decode prog_1_method_1_code 51 = .ok (.istore_n 1, 1) := by decide +kernel
theorem d_m22_52 : decode prog_1_method_1_code 52 = .ok (.iload_n 1, 1) := by decide +kernel
theorem d_m22_53 : decode prog_1_method_1_code 53 = .ok (.bipush 8, 2) := by decide +kernel
theorem d_m22_55 : decode prog_1_method_1_code 55 = .ok (.if_icmp .ge 22, 3) := by decide +kernel
theorem d_m22_58 : decode prog_1_method_1_code 58 = .ok (.aload_n 0, 1) := by decide +kernel
theorem d_m22_59 : decode prog_1_method_1_code 59 = .ok (.getfield 34, 3) := by decide +kernel
theorem d_m22_62 : decode prog_1_method_1_code 62 = .ok (.iload_n 1, 1) := by decide +kernel
theorem d_m22_63 : decode prog_1_method_1_code 63 = .ok (.new 32, 3) := by decide +kernel
theorem d_m22_66 : decode prog_1_method_1_code 66 = .ok (.dup, 1) := by decide +kernel
theorem d_m22_67 : decode prog_1_method_1_code 67 = .ok (.invokespecial 38, 3) := by decide +kernel
theorem d_m22_70 : decode prog_1_method_1_code 70 = .ok (.aastore, 1) := by decide +kernel
theorem d_m22_71 : decode prog_1_method_1_code 71 = .ok (.iinc 1 1, 3) := by decide +kernel
theorem d_m22_74 : decode prog_1_method_1_code 74 = .ok (.goto (-22), 3) := by decide +kernel
theorem d_m22_77 : decode prog_1_method_1_code 77 = .ok (.aload_n 0, 1) := by decide +kernel
theorem d_m22_78 : decode prog_1_method_1_code 78 = .ok (.new 39, 3) := by decide +kernel
theorem d_m22_81 : decode prog_1_method_1_code 81 = .ok (.dup, 1) := by decide +kernel
theorem d_m22_82 : decode prog_1_method_1_code 82 = .ok (.invokespecial 41, 3) := by decide +kernel
theorem d_m22_85 : decode prog_1_method_1_code 85 = .ok (.putfield 42, 3) := by decide +kernel
theorem d_m22_88 : decode prog_1_method_1_code 88 = .ok (.aload_n 0, 1) := by decide +kernel
theorem d_m22_89 : decode prog_1_method_1_code 89 = .ok (.new 46, 3) := by decide +kernel
theorem d_m22_92 : decode prog_1_method_1_code 92 = .ok (.dup, 1) := by decide +kernel
theorem d_m22_93 : decode prog_1_method_1_code 93 = .ok (.invokespecial 48, 3) := by decide +kernel
theorem d_m22_96 : decode prog_1_method_1_code 96 = .ok (.putfield 49, 3) := by decide +kernel
theorem d_m22_99 : decode prog_1_method_1_code 99 = .ok (.aload_n 0, 1) := by decide +kernel
theorem d_m22_100 : decode prog_1_method_1_code 100 = .ok (.new 53, 3) := by decide +kernel
theorem d_m22_103 : decode prog_1_method_1_code 103 = .ok (.dup, 1) := by decide +kernel
theorem d_m22_104 : decode prog_1_method_1_code 104 = .ok (.aload_n 0, 1) := by decide +kernel
theorem d_m22_105 : decode prog_1_method_1_code 105 = .ok (.getfield 34, 3) := by decide +kernel
theorem d_m22_108 : decode prog_1_method_1_code 108 = .ok (.aload_n 0, 1) := by decide +kernel
theorem d_m22_109 : decode prog_1_method_1_code 109 = .ok (.getfield 42, 3) := by decide +kernel
theorem d_m22_112 : decode prog_1_method_1_code 112 = .ok (.invokespecial 55, 3) := by decide +kernel
theorem d_m22_115 : decode prog_1_method_1_code 115 = .ok (.putfield 58, 3) := by decide +kernel
theorem d_m22_118 : decode prog_1_method_1_code 118 = .ok (.aload_n 0, 1) := by decide +kernel
theorem d_m22_119 : decode prog_1_method_1_code 119 = .ok (.new 62, 3) := by decide +kernel
theorem d_m22_122 : decode prog_1_method_1_code 122 = .ok (.dup, 1) := by decide +kernel
theorem d_m22_123 : decode prog_1_method_1_code 123 = .ok (.aload_n 0, 1) := by decide +kernel
theorem d_m22_124 : decode prog_1_method_1_code 124 = .ok (.getfield 10, 3) := by decide +kernel
theorem d_m22_127 : decode prog_1_method_1_code 127 = .ok (.aload_n 0, 1) := by decide +kernel
theorem d_m22_128 : decode prog_1_method_1_code 128 = .ok (.getfield 21, 3) := by decide +kernel
theorem d_m22_131 : decode prog_1_method_1_code 131 = .ok (.aload_n 0, 1) := by decide +kernel
theorem d_m22_132 : decode prog_1_method_1_code 132 = .ok (.getfield 49, 3) := by decide +kernel
theorem d_m22_135 : decode prog_1_method_1_code 135 = .ok (.invokespecial 64, 3) := by decide +kernel
theorem d_m22_138 : decode prog_1_method_1_code 138 = .ok (.putfield 67, 3) := by decide +kernel
theorem d_m22_141 : decode prog_1_method_1_code 141 = .ok (.aload_n 0, 1) := by decide +kernel
theorem d_m22_142 : decode prog_1_method_1_code 142 = .ok (.new 71, 3) := by decide +kernel
theorem d_m22_145 : decode prog_1_method_1_code 145 = .ok (.dup, 1) := by decide +kernel
theorem d_m22_146 : decode prog_1_method_1_code 146 = .ok (.aload_n 0, 1) := by decide +kernel
theorem d_m22_147 : decode prog_1_method_1_code 147 = .ok (.getfield 10, 3) := by decide +kernel
theorem d_m22_150 : decode prog_1_method_1_code 150 = .ok (.aload_n 0, 1) := by decide +kernel
theorem d_m22_151 : decode prog_1_method_1_code 151 = .ok (.getfield 21, 3) := by decide +kernel
theorem d_m22_154 : decode prog_1_method_1_code 154 = .ok (.aload_n 0, 1) := by decide +kernel
theorem d_m22_155 : decode prog_1_method_1_code 155 = .ok (.getfield 34, 3) := by decide +kernel
theorem d_m22_158 : decode prog_1_method_1_code 158 = .ok (.new 73, 3) := by decide +kernel
theorem d_m22_161 : decode prog_1_method_1_code 161 = .ok (.dup, 1) := by decide +kernel
theorem d_m22_162 : decode prog_1_method_1_code 162 = .ok (.aload_n 0, 1) := by decide +kernel
theorem d_m22_163 : decode prog_1_method_1_code 163 = .ok (.getfield 42, 3) := by decide +kernel
theorem d_m22_166 : decode prog_1_method_1_code 166 = .ok (.invokespecial 75, 3) := by decide +kernel
theorem d_m22_169 : decode prog_1_method_1_code 169 = .ok (.invokespecial 78, 3) := by decide +kernel
theorem d_m22_172 : decode prog_1_method_1_code 172 = .ok (.putfield 81, 3) := by decide +kernel
theorem d_m22_175 : decode prog_1_method_1_code 175 = .ok (.return_, 1) := by decide +kernel
theorem d_m30_0 : decode prog_9_method_1_code 0 = .ok (.aload_n 0, 1) := by decide +kernel
theorem d_m30_1 : decode prog_9_method_1_code 1 = .ok (.invokespecial 3, 3) := by decide +kernel
theorem d_m30_4 : decode prog_9_method_1_code 4 = .ok (.aload_n 0, 1) := by decide +kernel
theorem d_m30_5 : decode prog_9_method_1_code 5 = .ok (.iconst 4, 1) := by decide +kernel
theorem d_m30_6 : decode prog_9_method_1_code 6 = .ok (.newarray .int, 2) := by decide +kernel
theorem d_m30_8 : decode prog_9_method_1_code 8 = .ok (.putfield 9, 3) := by decide +kernel
theorem d_m30_11 : decode prog_9_method_1_code 11 = .ok (.aload_n 0, 1) := by decide +kernel
theorem d_m30_12 : decode prog_9_method_1_code 12 = .ok (.iconst 4, 1) := by decide +kernel
theorem d_m30_13 : decode prog_9_method_1_code 13 = .ok (.newarray .int, 2) := by decide +kernel
theorem d_m30_15 : decode prog_9_method_1_code 15 = .ok (.putfield 15, 3) := by decide +kernel
theorem d_m30_18 : decode prog_9_method_1_code 18 = .ok (.aload_n 0, 1) := by decide +kernel
theorem d_m30_19 : decode prog_9_method_1_code 19 = .ok (.iconst 4, 1) := by decide +kernel
theorem d_m30_20 : decode prog_9_method_1_code 20 = .ok (.newarray .int, 2) := by decide +kernel
theorem d_m30_22 : decode prog_9_method_1_code 22 = .ok (.putfield 18, 3) := by decide +kernel
theorem d_m30_25 : decode prog_9_method_1_code 25 = .ok (.aload_n 0, 1) := by decide +kernel
theorem d_m30_26 : decode prog_9_method_1_code 26 = .ok (.iconst 4, 1) := by decide +kernel
theorem d_m30_27 : decode prog_9_method_1_code 27 = .ok (.newarray .int, 2) := by decide +kernel
theorem d_m30_29 : decode prog_9_method_1_code 29 = .ok (.putfield 21, 3) := by decide +kernel
theorem d_m30_32 : decode prog_9_method_1_code 32 = .ok (.aload_n 0, 1) := by decide +kernel
theorem d_m30_33 : decode prog_9_method_1_code 33 = .ok (.iconst 4, 1) := by decide +kernel
theorem d_m30_34 : decode prog_9_method_1_code 34 = .ok (.newarray .int, 2) := by decide +kernel
theorem d_m30_36 : decode prog_9_method_1_code 36 = .ok (.putfield 24, 3) := by decide +kernel
theorem d_m30_39 : decode prog_9_method_1_code 39 = .ok (.aload_n 0, 1) := by decide +kernel
theorem d_m30_40 : decode prog_9_method_1_code 40 = .ok (.iconst 4, 1) := by decide +kernel
theorem d_m30_41 : decode prog_9_method_1_code 41 = .ok (.newarray .int, 2) := by decide +kernel
theorem d_m30_43 : decode prog_9_method_1_code 43 = .ok (.putfield 27, 3) := by decide +kernel
theorem d_m30_46 : decode prog_9_method_1_code 46 = .ok (.aload_n 0, 1) := by decide +kernel
theorem d_m30_47 : decode prog_9_method_1_code 47 = .ok (.iconst 4, 1) := by decide +kernel
theorem d_m30_48 : decode prog_9_method_1_code 48 = .ok (.newarray .int, 2) := by decide +kernel
theorem d_m30_50 : decode prog_9_method_1_code 50 = .ok (.putfield 30, 3) := by decide +kernel
theorem d_m30_53 : decode prog_9_method_1_code 53 = .ok (.aload_n 0, 1) := by decide +kernel
theorem d_m30_54 : decode prog_9_method_1_code 54 = .ok (.bipush 64, 2) := by decide +kernel
theorem d_m30_56 : decode prog_9_method_1_code 56 = .ok (.newarray .short, 2) := by decide +kernel
theorem d_m30_58 : decode prog_9_method_1_code 58 = .ok (.putfield 33, 3) := by decide +kernel
theorem d_m30_61 : decode prog_9_method_1_code 61 = .ok (.aload_n 0, 1) := by decide +kernel
theorem d_m30_62 : decode prog_9_method_1_code 62 = .ok (.bipush 8, 2) := by decide +kernel
theorem d_m30_64 : decode prog_9_method_1_code 64 = .ok (.bipush 8, 2) := by decide +kernel
theorem d_m30_66 : decode prog_9_method_1_code 66 = .ok (.iconst 1, 1) := by decide +kernel
theorem d_m30_67 : decode prog_9_method_1_code 67 = .ok (.iconst 0, 1) := by decide +kernel
theorem d_m30_68 : decode prog_9_method_1_code 68 = .ok (.invokevirtual 37, 3) := by decide +kernel
theorem d_m30_71 : decode prog_9_method_1_code 71 = .ok (.return_, 1) := by decide +kernel
theorem d_m35_0 : decode prog_9_method_7_code 0 = .ok (.iload_n 3, 1) := by decide +kernel
theorem d_m35_1 : decode prog_9_method_7_code 1 = .ok (.iload 4, 2) := by decide +kernel
theorem d_m35_3 : decode prog_9_method_7_code 3 = .ok (.invokestatic 41, 3) := by decide +kernel
theorem d_m35_6 : decode prog_9_method_7_code 6 = .ok (.istore 5, 2) := by decide +kernel
theorem d_m35_8 : decode prog_9_method_7_code 8 = .ok (.iload_n 3, 1) := by decide +kernel
theorem d_m35_9 : decode prog_9_method_7_code 9 = .ok (.iload 4, 2) := by decide +kernel
theorem d_m35_11 : decode prog_9_method_7_code 11 = .ok (.iconst 1, 1) := by decide +kernel
theorem d_m35_12 : decode prog_9_method_7_code 12 = .ok (.ishr, 1) := by decide +kernel
theorem d_m35_13 : decode prog_9_method_7_code 13 = .ok (.invokestatic 41, 3) := by decide +kernel
theorem d_m35_16 : decode prog_9_method_7_code 16 = .ok (.istore 6, 2) := by decide +kernel
theorem d_m35_18 : decode prog_9_method_7_code 18 = .ok (.aload_n 0, 1) := by decide +kernel
theorem d_m35_19 : decode prog_9_method_7_code 19 = .ok (.iload_n 3, 1) := by decide +kernel
theorem d_m35_20 : decode prog_9_method_7_code 20 = .ok (.putfield 56, 3) := by decide +kernel
theorem d_m35_23 : decode prog_9_method_7_code 23 = .ok (.aload_n 0, 1) := by decide +kernel
theorem d_m35_24 : decode prog_9_method_7_code 24 = .ok (.iload_n 1, 1) := by decide +kernel
theorem d_m35_25 : decode prog_9_method_7_code 25 = .ok (.bipush 8, 2) := by decide +kernel
theorem d_m35_27 : decode prog_9_method_7_code 27 = .ok (.iload 5, 2) := by decide +kernel
theorem d_m35_29 : decode prog_9_method_7_code 29 = .ok (.imul, 1) := by decide +kernel
theorem d_m35_30 : decode prog_9_method_7_code 30 = .ok (.invokestatic 45, 3) := by decide +kernel
theorem d_m35_33 : decode prog_9_method_7_code 33 = .ok (.putfield 60, 3) := by decide +kernel
theorem d_m35_36 : decode prog_9_method_7_code 36 = .ok (.aload_n 0, 1) := by decide +kernel
theorem d_m35_37 : decode prog_9_method_7_code 37 = .ok (.iload_n 2, 1) := by decide +kernel
theorem d_m35_38 : decode prog_9_method_7_code 38 = .ok (.bipush 8, 2) := by decide +kernel
theorem d_m35_40 : decode prog_9_method_7_code 40 = .ok (.iload 6, 2) := by decide +kernel
theorem d_m35_42 : decode prog_9_method_7_code 42 = .ok (.imul, 1) := by decide +kernel
theorem d_m35_43 : decode prog_9_method_7_code 43 = .ok (.invokestatic 45, 3) := by decide +kernel
theorem d_m35_46 : decode prog_9_method_7_code 46 = .ok (.putfield 63, 3) := by decide +kernel
theorem d_m35_49 : decode prog_9_method_7_code 49 = .ok (.aload_n 0, 1) := by decide +kernel
theorem d_m35_50 : decode prog_9_method_7_code 50 = .ok (.iconst 0, 1) := by decide +kernel
theorem d_m35_51 : decode prog_9_method_7_code 51 = .ok (.putfield 66, 3) := by decide +kernel
theorem d_m35_54 : decode prog_9_method_7_code 54 = .ok (.iconst 0, 1) := by decide +kernel
theorem d_m35_55 : decode prog_9_method_7_code 55 = .ok (.istore 7, 2) := by decide +kernel
theorem d_m35_57 : decode prog_9_method_7_code 57 = .ok (.iload 7, 2) := by decide +kernel
theorem d_m35_59 : decode prog_9_method_7_code 59 = .ok (.aload_n 0, 1) := by decide +kernel
theorem d_m35_60 : decode prog_9_method_7_code 60 = .ok (.getfield 56, 3) := by decide +kernel
theorem d_m35_63 : decode prog_9_method_7_code 63 = .ok (.if_icmp .ge 164, 3) := by decide +kernel
theorem d_m35_66 : decode prog_9_method_7_code 66 = .ok (.aload_n 0, 1) := by decide +kernel
theorem d_m35_67 : decode prog_9_method_7_code 67 = .ok (.getfield 9, 3) := by decide +kernel
theorem d_m35_70 : decode prog_9_method_7_code 70 = .ok (.iload 7, 2) := by decide +kernel
theorem d_m35_72 : decode prog_9_method_7_code 72 = .ok (.iload 7, 2) := by decide +kernel
theorem d_m35_74 : decode prog_9_method_7_code 74 = .ok (.iload 4, 2) := by decide +kernel
theorem d_m35_76 : decode prog_9_method_7_code 76 = .ok (.invokestatic 48, 3) := by decide +kernel
theorem d_m35_79 : decode prog_9_method_7_code 79 = .ok (.iastore, 1) := by decide +kernel
theorem d_m35_80 : decode prog_9_method_7_code 80 = .ok (.aload_n 0, 1) := by decide +kernel
theorem d_m35_81 : decode prog_9_method_7_code 81 = .ok (.getfield 15, 3) := by decide +kernel
theorem d_m35_84 : decode prog_9_method_7_code 84 = .ok (.iload 7, 2) := by decide +kernel
theorem d_m35_86 : decode prog_9_method_7_code 86 = .ok (.iload 7, 2) := by decide +kernel
theorem d_m35_88 : decode prog_9_method_7_code 88 = .ok (.iload 4, 2) := by decide +kernel
theorem d_m35_90 : decode prog_9_method_7_code 90 = .ok (.iconst 1, 1) := by decide +kernel
theorem d_m35_91 : decode prog_9_method_7_code 91 = .ok (.ishr, 1) := by decide +kernel
theorem d_m35_92 : decode prog_9_method_7_code 92 = .ok (.invokestatic 48, 3) := by decide +kernel
theorem d_m35_95 : decode prog_9_method_7_code 95 = .ok (.iastore, 1) := by decide +kernel
theorem d_m35_96 : decode prog_9_method_7_code 96 = .ok (.aload_n 0, 1) := by decide +kernel
theorem d_m35_97 : decode prog_9_method_7_code 97 = .ok (.getfield 18, 3) := by decide +kernel
theorem d_m35_100 : decode prog_9_method_7_code 100 = .ok (.iload 7, 2) := by decide +kernel
theorem d_m35_102 : decode prog_9_method_7_code 102 = .ok (.aload_n 0, 1) := by decide +kernel
theorem d_m35_103 : decode prog_9_method_7_code 103 = .ok (.getfield 9, 3) := by decide +kernel
theorem d_m35_106 : decode prog_9_method_7_code 106 = .ok (.iload 7, 2) := by decide +kernel
theorem d_m35_108 : decode prog_9_method_7_code 108 = .ok (.iaload, 1) := by decide +kernel
theorem d_m35_109 : decode prog_9_method_7_code 109 = .ok (.aload_n 0, 1) := by decide +kernel
theorem d_m35_110 : decode prog_9_method_7_code 110 = .ok (.getfield 60, 3) := by decide +kernel
theorem d_m35_113 : decode prog_9_method_7_code 113 = .ok (.imul, 1) := by decide +kernel
theorem d_m35_114 : decode prog_9_method_7_code 114 = .ok (.iastore, 1) := by decide +kernel
theorem d_m35_115 : decode prog_9_method_7_code 115 = .ok (.aload_n 0, 1) := by decide +kernel
theorem d_m35_116 : decode prog_9_method_7_code 116 = .ok (.getfield 21, 3) := by decide +kernel
theorem d_m35_119 : decode prog_9_method_7_code 119 = .ok (.iload 7, 2) := by decide +kernel
theorem d_m35_121 : decode prog_9_method_7_code 121 = .ok (.aload_n 0, 1) := by decide +kernel
theorem d_m35_122 : decode prog_9_method_7_code 122 = .ok (.getfield 15, 3) := by decide +kernel
theorem d_m35_125 : decode prog_9_method_7_code 125 = .ok (.iload 7, 2) := by decide +kernel
theorem d_m35_127 : decode prog_9_method_7_code 127 = .ok (.iaload, 1) := by decide +kernel
theorem d_m35_128 : decode prog_9_method_7_code 128 = .ok (.aload_n 0, 1) := by decide +kernel
theorem d_m35_129 : decode prog_9_method_7_code 129 = .ok (.getfield 63, 3) := by decide +kernel
theorem d_m35_132 : decode prog_9_method_7_code 132 = .ok (.imul, 1) := by decide +kernel
theorem d_m35_133 : decode prog_9_method_7_code 133 = .ok (.iastore, 1) := by decide +kernel
theorem d_m35_134 : decode prog_9_method_7_code 134 = .ok (.aload_n 0, 1) := by decide +kernel
theorem d_m35_135 : decode prog_9_method_7_code 135 = .ok (.getfield 24, 3) := by decide +kernel
theorem d_m35_138 : decode prog_9_method_7_code 138 = .ok (.iload 7, 2) := by decide +kernel
theorem d_m35_140 : decode prog_9_method_7_code 140 = .ok (.iload_n 1, 1) := by decide +kernel
theorem d_m35_141 : decode prog_9_method_7_code 141 = .ok (.aload_n 0, 1) := by decide +kernel
theorem d_m35_142 : decode prog_9_method_7_code 142 = .ok (.getfield 9, 3) := by decide +kernel
theorem d_m35_145 : decode prog_9_method_7_code 145 = .ok (.iload 7, 2) := by decide +kernel
theorem d_m35_147 : decode prog_9_method_7_code 147 = .ok (.iaload, 1) := by decide +kernel
theorem d_m35_148 : decode prog_9_method_7_code 148 = .ok (.imul, 1) := by decide +kernel
theorem d_m35_149 : decode prog_9_method_7_code 149 = .ok (.iload 5, 2) := by decide +kernel
theorem d_m35_151 : decode prog_9_method_7_code 151 = .ok (.invokestatic 45, 3) := by decide +kernel
theorem d_m35_154 : decode prog_9_method_7_code 154 = .ok (.bipush 8, 2) := by decide +kernel
theorem d_m35_156 : decode prog_9_method_7_code 156 = .ok (.invokestatic 45, 3) := by decide +kernel
theorem d_m35_159 : decode prog_9_method_7_code 159 = .ok (.iastore, 1) := by decide +kernel
theorem d_m35_160 : decode prog_9_method_7_code 160 = .ok (.aload_n 0, 1) := by decide +kernel
theorem d_m35_161 : decode prog_9_method_7_code 161 = .ok (.getfield 27, 3) := by decide +kernel
theorem d_m35_164 : decode prog_9_method_7_code 164 = .ok (.iload 7, 2) := by decide +kernel
theorem d_m35_166 : decode prog_9_method_7_code 166 = .ok (.iload_n 2, 1) := by decide +kernel
theorem d_m35_167 : decode prog_9_method_7_code 167 = .ok (.aload_n 0, 1) := by decide +kernel
theorem d_m35_168 : decode prog_9_method_7_code 168 = .ok (.getfield 15, 3) := by decide +kernel
theorem d_m35_171 : decode prog_9_method_7_code 171 = .ok (.iload 7, 2) := by decide +kernel
theorem d_m35_173 : decode prog_9_method_7_code 173 = .ok (.iaload, 1) := by decide +kernel
theorem d_m35_174 : decode prog_9_method_7_code 174 = .ok (.imul, 1) := by decide +kernel
theorem d_m35_175 : decode prog_9_method_7_code 175 = .ok (.iload 6, 2) := by decide +kernel
theorem d_m35_177 : decode prog_9_method_7_code 177 = .ok (.invokestatic 45, 3) := by decide +kernel
theorem d_m35_180 : decode prog_9_method_7_code 180 = .ok (.bipush 8, 2) := by decide +kernel
theorem d_m35_182 : decode prog_9_method_7_code 182 = .ok (.invokestatic 45, 3) := by decide +kernel
theorem d_m35_185 : decode prog_9_method_7_code 185 = .ok (.iastore, 1) := by decide +kernel
theorem d_m35_186 : decode prog_9_method_7_code 186 = .ok (.aload_n 0, 1) := by decide +kernel
theorem d_m35_187 : decode prog_9_method_7_code 187 = .ok (.getfield 30, 3) := by decide +kernel
theorem d_m35_190 : decode prog_9_method_7_code 190 = .ok (.iload 7, 2) := by decide +kernel
theorem d_m35_192 : decode prog_9_method_7_code 192 = .ok (.aload_n 0, 1) := by decide +kernel
theorem d_m35_193 : decode prog_9_method_7_code 193 = .ok (.getfield 66, 3) := by decide +kernel
theorem d_m35_196 : decode prog_9_method_7_code 196 = .ok (.iastore, 1) := by decide +kernel
theorem d_m35_197 : decode prog_9_method_7_code 197 = .ok (.aload_n 0, 1) := by decide +kernel
theorem d_m35_198 : decode prog_9_method_7_code 198 = .ok (.dup, 1) := by decide +kernel
theorem d_m35_199 : decode prog_9_method_7_code 199 = .ok (.getfield 66, 3) := by decide +kernel
theorem d_m35_202 : decode prog_9_method_7_code 202 = .ok (.aload_n 0, 1) := by decide +kernel
theorem d_m35_203 : decode prog_9_method_7_code 203 = .ok (.getfield 18, 3) := by decide +kernel
theorem d_m35_206 : decode prog_9_method_7_code 206 = .ok (.iload 7, 2) := by decide +kernel
theorem d_m35_208 : decode prog_9_method_7_code 208 = .ok (.iaload, 1) := by decide +kernel
theorem d_m35_209 : decode prog_9_method_7_code 209 = .ok (.aload_n 0, 1) := by decide +kernel
theorem d_m35_210 : decode prog_9_method_7_code 210 = .ok (.getfield 21, 3) := by decide +kernel
theorem d_m35_213 : decode prog_9_method_7_code 213 = .ok (.iload 7, 2) := by decide +kernel
theorem d_m35_215 : decode prog_9_method_7_code 215 = .ok (.iaload, 1) := by decide +kernel
theorem d_m35_216 : decode prog_9_method_7_code 216 = .ok (.imul, 1) := by decide +kernel
theorem d_m35_217 : decode prog_9_method_7_code 217 = .ok (.iadd, 1) := by decide +kernel
theorem d_m35_218 : decode prog_9_method_7_code 218 = .ok (.putfield 66, 3) := by decide +kernel
theorem d_m35_221 : decode prog_9_method_7_code 221 = .ok (.iinc 7 1, 3) := by decide +kernel
theorem d_m35_224 : decode prog_9_method_7_code 224 = .ok (.goto (-167), 3) := by decide +kernel
theorem d_m35_227 : decode prog_9_method_7_code 227 = .ok (.aload_n 0, 1) := by decide +kernel
theorem d_m35_228 : decode prog_9_method_7_code 228 = .ok (.invokevirtual 69, 3) := by decide +kernel
theorem d_m35_231 : decode prog_9_method_7_code 231 = .ok (.return_, 1) := by decide +kernel
theorem d_m38_0 : decode prog_9_method_5_code 0 = .ok (.iconst 1, 1) := by decide +kernel
theorem d_m38_1 : decode prog_9_method_5_code 1 = .ok (.istore_n 2, 1) := by decide +kernel
theorem d_m38_2 : decode prog_9_method_5_code 2 = .ok (.iconst 0, 1) := by decide +kernel
theorem d_m38_3 : decode prog_9_method_5_code 3 = .ok (.istore_n 3, 1) := by decide +kernel
theorem d_m38_4 : decode prog_9_method_5_code 4 = .ok (.iload_n 3, 1) := by decide +kernel
theorem d_m38_5 : decode prog_9_method_5_code 5 = .ok (.iload_n 0, 1) := by decide +kernel
theorem d_m38_6 : decode prog_9_method_5_code 6 = .ok (.if_icmp .ge 19, 3) := by decide +kernel
theorem d_m38_9 : decode prog_9_method_5_code 9 = .ok (.iload_n 2, 1) := by decide +kernel
theorem d_m38_10 : decode prog_9_method_5_code 10 = .ok (.iload_n 3, 1) := by decide +kernel
theorem d_m38_11 : decode prog_9_method_5_code 11 = .ok (.iload_n 1, 1) := by decide +kernel
theorem d_m38_12 : decode prog_9_method_5_code 12 = .ok (.invokestatic 48, 3) := by decide +kernel
theorem d_m38_15 : decode prog_9_method_5_code 15 = .ok (.invokestatic 51, 3) := by decide +kernel
theorem d_m38_18 : decode prog_9_method_5_code 18 = .ok (.istore_n 2, 1) := by decide +kernel
theorem d_m38_19 : decode prog_9_method_5_code 19 = .ok (.iinc 3 1, 3) := by decide +kernel
theorem d_m38_22 : decode prog_9_method_5_code 22 = .ok (.goto (-18), 3) := by decide +kernel
theorem d_m38_25 : decode prog_9_method_5_code 25 = .ok (.iload_n 2, 1) := by decide +kernel
theorem d_m38_26 : decode prog_9_method_5_code 26 = .ok (.ireturn, 1) := by decide +kernel
theorem d_m41_0 : decode prog_9_method_4_code 0 = .ok (.iconst 1, 1) := by decide +kernel
theorem d_m41_1 : decode prog_9_method_4_code 1 = .ok (.iload_n 1, 1) := by decide +kernel
theorem d_m41_2 : decode prog_9_method_4_code 2 = .ok (.iconst 2, 1) := by decide +kernel
theorem d_m41_3 : decode prog_9_method_4_code 3 = .ok (.iload_n 0, 1) := by decide +kernel
theorem d_m41_4 : decode prog_9_method_4_code 4 = .ok (.imul, 1) := by decide +kernel
theorem d_m41_5 : decode prog_9_method_4_code 5 = .ok (.ishr, 1) := by decide +kernel
theorem d_m41_6 : decode prog_9_method_4_code 6 = .ok (.iconst 1, 1) := by decide +kernel
theorem d_m41_7 : decode prog_9_method_4_code 7 = .ok (.iand, 1) := by decide +kernel
theorem d_m41_8 : decode prog_9_method_4_code 8 = .ok (.iadd, 1) := by decide +kernel
theorem d_m41_9 : decode prog_9_method_4_code 9 = .ok (.ireturn, 1) := by decide +kernel
theorem d_m47_0 : decode prog_9_method_6_code 0 = .ok (.iload_n 1, 1) := by decide +kernel
theorem d_m47_1 : decode prog_9_method_6_code 1 = .ok (.iconst 1, 1) := by decide +kernel
theorem d_m47_2 : decode prog_9_method_6_code 2 = .ok (.if_icmp .ge 7, 3) := by decide +kernel
theorem d_m47_5 : decode prog_9_method_6_code 5 = .ok (.iconst 0, 1) := by decide +kernel
theorem d_m47_6 : decode prog_9_method_6_code 6 = .ok (.goto 10, 3) := by decide +kernel
theorem d_m47_9 : decode prog_9_method_6_code 9 = .ok (.iload_n 0, 1) := by decide +kernel
theorem d_m47_10 : decode prog_9_method_6_code 10 = .ok (.iload_n 1, 1) := by decide +kernel
theorem d_m47_11 : decode prog_9_method_6_code 11 = .ok (.iadd, 1) := by decide +kernel
theorem d_m47_12 : decode prog_9_method_6_code 12 = .ok (.iconst 1, 1) := by decide +kernel
theorem d_m47_13 : decode prog_9_method_6_code 13 = .ok (.isub, 1) := by decide +kernel
theorem d_m47_14 : decode prog_9_method_6_code 14 = .ok (.iload_n 1, 1) := by decide +kernel
theorem d_m47_15 : decode prog_9_method_6_code 15 = .ok (.idiv, 1) := by decide +kernel
theorem d_m47_16 : decode prog_9_method_6_code 16 = .ok (.ireturn, 1) := by decide +kernel
theorem d_m51_0 : decode prog_9_method_8_code 0 = .ok (.aload_n 0, 1) := by decide +kernel
theorem d_m51_1 : decode prog_9_method_8_code 1 = .ok (.getfield 66, 3) := by decide +kernel
theorem d_m51_4 : decode prog_9_method_8_code 4 = .ok (.bipush 64, 2) := by decide +kernel
theorem d_m51_6 : decode prog_9_method_8_code 6 = .ok (.imul, 1) := by decide +kernel
theorem d_m51_7 : decode prog_9_method_8_code 7 = .ok (.istore_n 1, 1) := by decide +kernel
theorem d_m51_8 : decode prog_9_method_8_code 8 = .ok (.iload_n 1, 1) := by decide +kernel
theorem d_m51_9 : decode prog_9_method_8_code 9 = .ok (.aload_n 0, 1) := by decide +kernel
theorem d_m51_10 : decode prog_9_method_8_code 10 = .ok (.getfield 33, 3) := by decide +kernel
theorem d_m51_13 : decode prog_9_method_8_code 13 = .ok (.arraylength, 1) := by decide +kernel
theorem d_m51_14 : decode prog_9_method_8_code 14 = .ok (.if_icmp .le 31, 3) := by decide +kernel
theorem d_m51_17 : decode prog_9_method_8_code 17 = .ok (.iconst 2, 1) := by decide +kernel
theorem d_m51_18 : decode prog_9_method_8_code 18 = .ok (.aload_n 0, 1) := by decide +kernel
theorem d_m51_19 : decode prog_9_method_8_code 19 = .ok (.getfield 33, 3) := by decide +kernel
theorem d_m51_22 : decode prog_9_method_8_code 22 = .ok (.arraylength, 1) := by decide +kernel
theorem d_m51_23 : decode prog_9_method_8_code 23 = .ok (.imul, 1) := by decide +kernel
theorem d_m51_24 : decode prog_9_method_8_code 24 = .ok (.sipush 12288, 3) := by decide +kernel
theorem d_m51_27 : decode prog_9_method_8_code 27 = .ok (.invokestatic 72, 3) := by decide +kernel
theorem d_m51_30 : decode prog_9_method_8_code 30 = .ok (.istore_n 2, 1) := by decide +kernel
theorem d_m51_31 : decode prog_9_method_8_code 31 = .ok (.aload_n 0, 1) := by decide +kernel
theorem d_m51_32 : decode prog_9_method_8_code 32 = .ok (.iload_n 1, 1) := by decide +kernel
theorem d_m51_33 : decode prog_9_method_8_code 33 = .ok (.iload_n 2, 1) := by decide +kernel
theorem d_m51_34 : decode prog_9_method_8_code 34 = .ok (.invokestatic 51, 3) := by decide +kernel
theorem d_m51_37 : decode prog_9_method_8_code 37 = .ok (.newarray .short, 2) := by decide +kernel
theorem d_m51_39 : decode prog_9_method_8_code 39 = .ok (.putfield 33, 3) := by decide +kernel
theorem d_m51_42 : decode prog_9_method_8_code 42 = .ok (.goto 11, 3) := by decide +kernel
theorem d_m51_45 : decode prog_9_method_8_code 45 = .ok (.aload_n 0, 1) := by decide +kernel
theorem d_m51_46 : decode prog_9_method_8_code 46 = .ok (.getfield 33, 3) := by decide +kernel
theorem d_m51_49 : decode prog_9_method_8_code 49 = .ok (.iconst 0, 1) := by decide +kernel
theorem d_m51_50 : decode prog_9_method_8_code 50 = .ok (.invokestatic 75, 3) := by decide +kernel
theorem d_m51_53 : decode prog_9_method_8_code 53 = .ok (.return_, 1) := by decide +kernel
theorem d_m57_0 : decode prog_19_method_105_code 0 = .ok (.iconst 0, 1) := by decide +kernel
theorem d_m57_1 : decode prog_19_method_105_code 1 = .ok (.istore_n 2, 1) := by decide +kernel
theorem d_m57_2 : decode prog_19_method_105_code 2 = .ok (.aload_n 0, 1) := by decide +kernel
theorem d_m57_3 : decode prog_19_method_105_code 3 = .ok (.arraylength, 1) := by decide +kernel
theorem d_m57_4 : decode prog_19_method_105_code 4 = .ok (.istore_n 3, 1) := by decide +kernel
theorem d_m57_5 : decode prog_19_method_105_code 5 = .ok (.iload_n 2, 1) := by decide +kernel
theorem d_m57_6 : decode prog_19_method_105_code 6 = .ok (.iload_n 3, 1) := by decide +kernel
theorem d_m57_7 : decode prog_19_method_105_code 7 = .ok (.if_icmp .ge 13, 3) := by decide +kernel
theorem d_m57_10 : decode prog_19_method_105_code 10 = .ok (.aload_n 0, 1) := by decide +kernel
theorem d_m57_11 : decode prog_19_method_105_code 11 = .ok (.iload_n 2, 1) := by decide +kernel
theorem d_m57_12 : decode prog_19_method_105_code 12 = .ok (.iload_n 1, 1) := by decide +kernel
theorem d_m57_13 : decode prog_19_method_105_code 13 = .ok (.sastore, 1) := by decide +kernel
theorem d_m57_14 : decode prog_19_method_105_code 14 = .ok (.iinc 2 1, 3) := by decide +kernel
theorem d_m57_17 : decode prog_19_method_105_code 17 = .ok (.goto (-12), 3) := by decide +kernel
theorem d_m57_20 : decode prog_19_method_105_code 20 = .ok (.return_, 1) := by decide +kernel
theorem d_m114_0 : decode prog_5_method_1_code 0 = .ok (.aload_n 0, 1) := by decide +kernel
theorem d_m114_1 : decode prog_5_method_1_code 1 = .ok (.invokespecial 3, 3) := by decide +kernel
theorem d_m114_4 : decode prog_5_method_1_code 4 = .ok (.aload_n 0, 1) := by decide +kernel
theorem d_m114_5 : decode prog_5_method_1_code 5 = .ok (.sipush 192, 3) := by decide +kernel
theorem d_m114_8 : decode prog_5_method_1_code 8 = .ok (.newarray .int, 2) := by decide +kernel
theorem d_m114_10 : decode prog_5_method_1_code 10 = .ok (.putfield 9, 3) := by decide +kernel
theorem d_m114_13 : decode prog_5_method_1_code 13 = .ok (.aload_n 0, 1) := by decide +kernel
theorem d_m114_14 : decode prog_5_method_1_code 14 = .ok (.sipush 192, 3) := by decide +kernel
theorem d_m114_17 : decode prog_5_method_1_code 17 = .ok (.newarray .int, 2) := by decide +kernel
theorem d_m114_19 : decode prog_5_method_1_code 19 = .ok (.putfield 15, 3) := by decide +kernel
theorem d_m114_22 : decode prog_5_method_1_code 22 = .ok (.aload_n 0, 1) := by decide +kernel
theorem d_m114_23 : decode prog_5_method_1_code 23 = .ok (.iconst 4, 1) := by decide +kernel
theorem d_m114_24 : decode prog_5_method_1_code 24 = .ok (.newarray .int, 2) := by decide +kernel
theorem d_m114_26 : decode prog_5_method_1_code 26 = .ok (.putfield 18, 3) := by decide +kernel
theorem d_m114_29 : decode prog_5_method_1_code 29 = .ok (.aload_n 0, 1) := by decide +kernel
theorem d_m114_30 : decode prog_5_method_1_code 30 = .ok (.iconst 4, 1) := by decide +kernel
theorem d_m114_31 : decode prog_5_method_1_code 31 = .ok (.newarray .int, 2) := by decide +kernel
theorem d_m114_33 : decode prog_5_method_1_code 33 = .ok (.putfield 21, 3) := by decide +kernel
theorem d_m114_36 : decode prog_5_method_1_code 36 = .ok (.aload_n 0, 1) := by decide +kernel
theorem d_m114_37 : decode prog_5_method_1_code 37 = .ok (.aload_n 1, 1) := by decide +kernel
theorem d_m114_38 : decode prog_5_method_1_code 38 = .ok (.putfield 24, 3) := by decide +kernel
theorem d_m114_41 : decode prog_5_method_1_code 41 = .ok (.aload_n 0, 1) := by decide +kernel
theorem d_m114_42 : decode prog_5_method_1_code 42 = .ok (.invokevirtual 28, 3) := by decide +kernel
theorem d_m114_45 : decode prog_5_method_1_code 45 = .ok (.return_, 1) := by decide +kernel
theorem d_m119_0 : decode prog_5_method_2_code 0 = .ok (.aload_n 0, 1) := by decide +kernel
theorem d_m119_1 : decode prog_5_method_2_code 1 = .ok (.getfield 18, 3) := by decide +kernel
theorem d_m119_4 : decode prog_5_method_2_code 4 = .ok (.iconst 0, 1) := by decide +kernel
theorem d_m119_5 : decode prog_5_method_2_code 5 = .ok (.invokestatic 31, 3) := by decide +kernel
theorem d_m119_8 : decode prog_5_method_2_code 8 = .ok (.aload_n 0, 1) := by decide +kernel
theorem d_m119_9 : decode prog_5_method_2_code 9 = .ok (.getfield 21, 3) := by decide +kernel
theorem d_m119_12 : decode prog_5_method_2_code 12 = .ok (.iconst 4, 1) := by decide +kernel
theorem d_m119_13 : decode prog_5_method_2_code 13 = .ok (.invokestatic 31, 3) := by decide +kernel
theorem d_m119_16 : decode prog_5_method_2_code 16 = .ok (.aload_n 0, 1) := by decide +kernel
theorem d_m119_17 : decode prog_5_method_2_code 17 = .ok (.iconst 0, 1) := by decide +kernel
theorem d_m119_18 : decode prog_5_method_2_code 18 = .ok (.putfield 37, 3) := by decide +kernel
theorem d_m119_21 : decode prog_5_method_2_code 21 = .ok (.aload_n 0, 1) := by decide +kernel
theorem d_m119_22 : decode prog_5_method_2_code 22 = .ok (.iconst 0, 1) := by decide +kernel
theorem d_m119_23 : decode prog_5_method_2_code 23 = .ok (.iconst 0, 1) := by decide +kernel
theorem d_m119_24 : decode prog_5_method_2_code 24 = .ok (.bipush 63, 2) := by decide +kernel
theorem d_m119_26 : decode prog_5_method_2_code 26 = .ok (.iconst 0, 1) := by decide +kernel
theorem d_m119_27 : decode prog_5_method_2_code 27 = .ok (.invokevirtual 41, 3) := by decide +kernel
theorem d_m119_30 : decode prog_5_method_2_code 30 = .ok (.aload_n 0, 1) := by decide +kernel
theorem d_m119_31 : decode prog_5_method_2_code 31 = .ok (.iconst 1, 1) := by decide +kernel
theorem d_m119_32 : decode prog_5_method_2_code 32 = .ok (.invokevirtual 45, 3) := by decide +kernel
theorem d_m119_35 : decode prog_5_method_2_code 35 = .ok (.return_, 1) := by decide +kernel
theorem d_m122_0 : decode prog_19_method_103_code 0 = .ok (.iconst 0, 1) := by decide +kernel
theorem d_m122_1 : decode prog_19_method_103_code 1 = .ok (.istore_n 2, 1) := by decide +kernel
theorem d_m122_2 : decode prog_19_method_103_code 2 = .ok (.aload_n 0, 1) := by decide +kernel
theorem d_m122_3 : decode prog_19_method_103_code 3 = .ok (.arraylength, 1) := by decide +kernel
theorem d_m122_4 : decode prog_19_method_103_code 4 = .ok (.istore_n 3, 1) := by decide +kernel
theorem d_m122_5 : decode prog_19_method_103_code 5 = .ok (.iload_n 2, 1) := by decide +kernel
theorem d_m122_6 : decode prog_19_method_103_code 6 = .ok (.iload_n 3, 1) := by decide +kernel
theorem d_m122_7 : decode prog_19_method_103_code 7 = .ok (.if_icmp .ge 13, 3) := by decide +kernel
theorem d_m122_10 : decode prog_19_method_103_code 10 = .ok (.aload_n 0, 1) := by decide +kernel
theorem d_m122_11 : decode prog_19_method_103_code 11 = .ok (.iload_n 2, 1) := by decide +kernel
theorem d_m122_12 : decode prog_19_method_103_code 12 = .ok (.iload_n 1, 1) := by decide +kernel
theorem d_m122_13 : decode prog_19_method_103_code 13 = .ok (.iastore, 1) := by decide +kernel
theorem d_m122_14 : decode prog_19_method_103_code 14 = .ok (.iinc 2 1, 3) := by decide +kernel
theorem d_m122_17 : decode prog_19_method_103_code 17 = .ok (.goto (-12), 3) := by decide +kernel
theorem d_m122_20 : decode prog_19_method_103_code 20 = .ok (.return_, 1) := by decide +kernel
theorem d_m126_0 : decode prog_5_method_5_code 0 = .ok (.aload_n 0, 1) := by decide +kernel
theorem d_m126_1 : decode prog_5_method_5_code 1 = .ok (.iload_n 1, 1) := by decide +kernel
theorem d_m126_2 : decode prog_5_method_5_code 2 = .ok (.putfield 60, 3) := by decide +kernel
