theorem d_m450_8 : decode prog_1_method_2_code 8 = .ok (.ifCond .ne 5, 3) := by decide +kernel
theorem d_m450_11 : decode prog_1_method_2_code 11 = .ok (.iconst 0, 1) := by decide +kernel
theorem d_m450_12 : decode prog_1_method_2_code 12 = .ok (.ireturn, 1) := by decide +kernel
theorem d_m450_13 : decode prog_1_method_2_code 13 = .ok (.aload_n 0, 1) := by decide +kernel
theorem d_m450_14 : decode prog_1_method_2_code 14 = .ok (.getfield 10, 3) := by decide +kernel
theorem d_m450_17 : decode prog_1_method_2_code 17 = .ok (.iload_n 1, 1) := by decide +kernel
theorem d_m450_18 : decode prog_1_method_2_code 18 = .ok (.iload_n 2, 1) := by decide +kernel
theorem d_m450_19 : decode prog_1_method_2_code 19 = .ok (.iload_n 3, 1) := by decide +kernel
theorem d_m450_20 : decode prog_1_method_2_code 20 = .ok (.iload 4, 2) := by decide +kernel
theorem d_m450_22 : decode prog_1_method_2_code 22 = .ok (.invokevirtual 89, 3) := by decide +kernel
theorem d_m450_25 : decode prog_1_method_2_code 25 = .ok (.aload_n 0, 1) := by decide +kernel
theorem d_m450_26 : decode prog_1_method_2_code 26 = .ok (.getfield 21, 3) := by decide +kernel
theorem d_m450_29 : decode prog_1_method_2_code 29 = .ok (.invokevirtual 93, 3) := by decide +kernel
theorem d_m450_32 : decode prog_1_method_2_code 32 = .ok (.iconst 1, 1) := by decide +kernel
theorem d_m450_33 : decode prog_1_method_2_code 33 = .ok (.ireturn, 1) := by decide +kernel
theorem d_m453_0 : decode prog_9_method_2_code 0 = .ok (.iload_n 0, 1) := by decide +kernel
theorem d_m453_1 : decode prog_9_method_2_code 1 = .ok (.iconst 1, 1) := by decide +kernel
theorem d_m453_2 : decode prog_9_method_2_code 2 = .ok (.if_icmp .lt 20, 3) := by decide +kernel
theorem d_m453_5 : decode prog_9_method_2_code 5 = .ok (.iload_n 0, 1) := by decide +kernel
theorem d_m453_6 : decode prog_9_method_2_code 6 = .ok (.bipush 64, 2) := by decide +kernel
theorem d_m453_8 : decode prog_9_method_2_code 8 = .ok (.if_icmp .gt 14, 3) := by decide +kernel
theorem d_m453_11 : decode prog_9_method_2_code 11 = .ok (.iload_n 1, 1) := by decide +kernel
theorem d_m453_12 : decode prog_9_method_2_code 12 = .ok (.iconst 1, 1) := by decide +kernel
theorem d_m453_13 : decode prog_9_method_2_code 13 = .ok (.if_icmp .lt 9, 3) := by decide +kernel
theorem d_m453_16 : decode prog_9_method_2_code 16 = .ok (.iload_n 1, 1) := by decide +kernel
theorem d_m453_17 : decode prog_9_method_2_code 17 = .ok (.bipush 64, 2) := by decide +kernel
theorem d_m453_19 : decode prog_9_method_2_code 19 = .ok (.if_icmp .le 5, 3) := by decide +kernel
theorem d_m453_22 : decode prog_9_method_2_code 22 = .ok (.iconst 0, 1) := by decide +kernel
theorem d_m453_23 : decode prog_9_method_2_code 23 = .ok (.ireturn, 1) := by decide +kernel
theorem d_m453_24 : decode prog_9_method_2_code 24 = .ok (.iload_n 2, 1) := by decide +kernel
theorem d_m453_25 : decode prog_9_method_2_code 25 = .ok (.iconst 1, 1) := by decide +kernel
theorem d_m453_26 : decode prog_9_method_2_code 26 = .ok (.if_icmp .lt 16, 3) := by decide +kernel
theorem d_m453_29 : decode prog_9_method_2_code 29 = .ok (.iload_n 2, 1) := by decide +kernel
theorem d_m453_30 : decode prog_9_method_2_code 30 = .ok (.iconst 4, 1) := by decide +kernel
theorem d_m453_31 : decode prog_9_method_2_code 31 = .ok (.if_icmp .gt 11, 3) := by decide +kernel
theorem d_m453_34 : decode prog_9_method_2_code 34 = .ok (.iload_n 3, 1) := by decide +kernel
theorem d_m453_35 : decode prog_9_method_2_code 35 = .ok (.iconst 2, 1) := by decide +kernel
theorem d_m453_36 : decode prog_9_method_2_code 36 = .ok (.iload_n 2, 1) := by decide +kernel
theorem d_m453_37 : decode prog_9_method_2_code 37 = .ok (.imul, 1) := by decide +kernel
theorem d_m453_38 : decode prog_9_method_2_code 38 = .ok (.iushr, 1) := by decide +kernel
theorem d_m453_39 : decode prog_9_method_2_code 39 = .ok (.ifCond .eq 5, 3) := by decide +kernel
theorem d_m453_42 : decode prog_9_method_2_code 42 = .ok (.iconst 0, 1) := by decide +kernel
theorem d_m453_43 : decode prog_9_method_2_code 43 = .ok (.ireturn, 1) := by decide +kernel
theorem d_m453_44 : decode prog_9_method_2_code 44 = .ok (.iload_n 0, 1) := by decide +kernel
theorem d_m453_45 : decode prog_9_method_2_code 45 = .ok (.bipush 8, 2) := by decide +kernel
theorem d_m453_47 : decode prog_9_method_2_code 47 = .ok (.iload_n 2, 1) := by decide +kernel
theorem d_m453_48 : decode prog_9_method_2_code 48 = .ok (.iload_n 3, 1) := by decide +kernel
theorem d_m453_49 : decode prog_9_method_2_code 49 = .ok (.invokestatic 41, 3) := by decide +kernel
theorem d_m453_52 : decode prog_9_method_2_code 52 = .ok (.imul, 1) := by decide +kernel
theorem d_m453_53 : decode prog_9_method_2_code 53 = .ok (.invokestatic 45, 3) := by decide +kernel
theorem d_m453_56 : decode prog_9_method_2_code 56 = .ok (.iload_n 1, 1) := by decide +kernel
theorem d_m453_57 : decode prog_9_method_2_code 57 = .ok (.bipush 8, 2) := by decide +kernel
theorem d_m453_59 : decode prog_9_method_2_code 59 = .ok (.iload_n 2, 1) := by decide +kernel
theorem d_m453_60 : decode prog_9_method_2_code 60 = .ok (.iload_n 3, 1) := by decide +kernel
theorem d_m453_61 : decode prog_9_method_2_code 61 = .ok (.iconst 1, 1) := by decide +kernel
theorem d_m453_62 : decode prog_9_method_2_code 62 = .ok (.ishr, 1) := by decide +kernel
theorem d_m453_63 : decode prog_9_method_2_code 63 = .ok (.invokestatic 41, 3) := by decide +kernel
theorem d_m453_66 : decode prog_9_method_2_code 66 = .ok (.imul, 1) := by decide +kernel
theorem d_m453_67 : decode prog_9_method_2_code 67 = .ok (.invokestatic 45, 3) := by decide +kernel
theorem d_m453_70 : decode prog_9_method_2_code 70 = .ok (.imul, 1) := by decide +kernel
theorem d_m453_71 : decode prog_9_method_2_code 71 = .ok (.istore 4, 2) := by decide +kernel
theorem d_m453_73 : decode prog_9_method_2_code 73 = .ok (.iconst 0, 1) := by decide +kernel
theorem d_m453_74 : decode prog_9_method_2_code 74 = .ok (.istore 5, 2) := by decide +kernel
theorem d_m453_76 : decode prog_9_method_2_code 76 = .ok (.iconst 0, 1) := by decide +kernel
theorem d_m453_77 : decode prog_9_method_2_code 77 = .ok (.istore 6, 2) := by decide +kernel
theorem d_m453_79 : decode prog_9_method_2_code 79 = .ok (.iload 6, 2) := by decide +kernel
theorem d_m453_81 : decode prog_9_method_2_code 81 = .ok (.iload_n 2, 1) := by decide +kernel
theorem d_m453_82 : decode prog_9_method_2_code 82 = .ok (.if_icmp .ge 32, 3) := by decide +kernel
theorem d_m453_85 : decode prog_9_method_2_code 85 = .ok (.iload 5, 2) := by decide +kernel
theorem d_m453_87 : decode prog_9_method_2_code 87 = .ok (.iload 4, 2) := by decide +kernel
theorem d_m453_89 : decode prog_9_method_2_code 89 = .ok (.iload 6, 2) := by decide +kernel
theorem d_m453_91 : decode prog_9_method_2_code 91 = .ok (.iload_n 3, 1) := by decide +kernel
theorem d_m453_92 : decode prog_9_method_2_code 92 = .ok (.invokestatic 48, 3) := by decide +kernel
theorem d_m453_95 : decode prog_9_method_2_code 95 = .ok (.imul, 1) := by decide +kernel
theorem d_m453_96 : decode prog_9_method_2_code 96 = .ok (.iload 6, 2) := by decide +kernel
theorem d_m453_98 : decode prog_9_method_2_code 98 = .ok (.iload_n 3, 1) := by decide +kernel
theorem d_m453_99 : decode prog_9_method_2_code 99 = .ok (.iconst 1, 1) := by decide +kernel
theorem d_m453_100 : decode prog_9_method_2_code 100 = .ok (.ishr, 1) := by decide +kernel
theorem d_m453_101 : decode prog_9_method_2_code 101 = .ok (.invokestatic 48, 3) := by decide +kernel
theorem d_m453_104 : decode prog_9_method_2_code 104 = .ok (.imul, 1) := by decide +kernel
theorem d_m453_105 : decode prog_9_method_2_code 105 = .ok (.iadd, 1) := by decide +kernel
theorem d_m453_106 : decode prog_9_method_2_code 106 = .ok (.istore 5, 2) := by decide +kernel
theorem d_m453_108 : decode prog_9_method_2_code 108 = .ok (.iinc 6 1, 3) := by decide +kernel
theorem d_m453_111 : decode prog_9_method_2_code 111 = .ok (.goto (-32), 3) := by decide +kernel
theorem d_m453_114 : decode prog_9_method_2_code 114 = .ok (.iload 5, 2) := by decide +kernel
theorem d_m453_116 : decode prog_9_method_2_code 116 = .ok (.sipush 192, 3) := by decide +kernel
theorem d_m453_119 : decode prog_9_method_2_code 119 = .ok (.if_icmp .gt 7, 3) := by decide +kernel
theorem d_m453_122 : decode prog_9_method_2_code 122 = .ok (.iconst 1, 1) := by decide +kernel
theorem d_m453_123 : decode prog_9_method_2_code 123 = .ok (.goto 4, 3) := by decide +kernel
theorem d_m453_126 : decode prog_9_method_2_code 126 = .ok (.iconst 0, 1) := by decide +kernel
theorem d_m453_127 : decode prog_9_method_2_code 127 = .ok (.ireturn, 1) := by decide +kernel
theorem d_m459_0 : decode prog_1_method_3_code 0 = .ok (.aload_n 0, 1) := by decide +kernel
theorem d_m459_1 : decode prog_1_method_3_code 1 = .ok (.getfield 28, 3) := by decide +kernel
theorem d_m459_4 : decode prog_1_method_3_code 4 = .ok (.lload_n 1, 1) := by decide +kernel
theorem d_m459_5 : decode prog_1_method_3_code 5 = .ok (.lload_n 3, 1) := by decide +kernel
theorem d_m459_6 : decode prog_1_method_3_code 6 = .ok (.invokevirtual 96, 3) := by decide +kernel
theorem d_m459_9 : decode prog_1_method_3_code 9 = .ok (.return_, 1) := by decide +kernel
theorem d_m463_0 : decode prog_7_method_2_code 0 = .ok (.iconst 0, 1) := by decide +kernel
theorem d_m463_1 : decode prog_7_method_2_code 1 = .ok (.istore 5, 2) := by decide +kernel
theorem d_m463_3 : decode prog_7_method_2_code 3 = .ok (.iload 5, 2) := by decide +kernel
theorem d_m463_5 : decode prog_7_method_2_code 5 = .ok (.bipush 8, 2) := by decide +kernel
theorem d_m463_7 : decode prog_7_method_2_code 7 = .ok (.if_icmp .ge 52, 3) := by decide +kernel
theorem d_m463_10 : decode prog_7_method_2_code 10 = .ok (.aload_n 0, 1) := by decide +kernel
theorem d_m463_11 : decode prog_7_method_2_code 11 = .ok (.getfield 9, 3) := by decide +kernel
theorem d_m463_14 : decode prog_7_method_2_code 14 = .ok (.iload 5, 2) := by decide +kernel
theorem d_m463_16 : decode prog_7_method_2_code 16 = .ok (.iconst 1, 1) := by decide +kernel
theorem d_m463_17 : decode prog_7_method_2_code 17 = .ok (.iadd, 1) := by decide +kernel
theorem d_m463_18 : decode prog_7_method_2_code 18 = .ok (.lload_n 1, 1) := by decide +kernel
theorem d_m463_19 : decode prog_7_method_2_code 19 = .ok (.bipush 8, 2) := by decide +kernel
theorem d_m463_21 : decode prog_7_method_2_code 21 = .ok (.iload 5, 2) := by decide +kernel
theorem d_m463_23 : decode prog_7_method_2_code 23 = .ok (.imul, 1) := by decide +kernel
theorem d_m463_24 : decode prog_7_method_2_code 24 = .ok (.lushr, 1) := by decide +kernel
theorem d_m463_25 : decode prog_7_method_2_code 25 = .ok (.ldc2_w 22, 3) := by decide +kernel
theorem d_m463_28 : decode prog_7_method_2_code 28 = .ok (.land, 1) := by decide +kernel
theorem d_m463_29 : decode prog_7_method_2_code 29 = .ok (.l2i, 1) := by decide +kernel
theorem d_m463_30 : decode prog_7_method_2_code 30 = .ok (.iastore, 1) := by decide +kernel
theorem d_m463_31 : decode prog_7_method_2_code 31 = .ok (.aload_n 0, 1) := by decide +kernel
theorem d_m463_32 : decode prog_7_method_2_code 32 = .ok (.getfield 9, 3) := by decide +kernel
theorem d_m463_35 : decode prog_7_method_2_code 35 = .ok (.iload 5, 2) := by decide +kernel
theorem d_m463_37 : decode prog_7_method_2_code 37 = .ok (.bipush 9, 2) := by decide +kernel
theorem d_m463_39 : decode prog_7_method_2_code 39 = .ok (.iadd, 1) := by decide +kernel
theorem d_m463_40 : decode prog_7_method_2_code 40 = .ok (.lload_n 3, 1) := by decide +kernel
theorem d_m463_41 : decode prog_7_method_2_code 41 = .ok (.bipush 8, 2) := by decide +kernel
theorem d_m463_43 : decode prog_7_method_2_code 43 = .ok (.iload 5, 2) := by decide +kernel
theorem d_m463_45 : decode prog_7_method_2_code 45 = .ok (.imul, 1) := by decide +kernel
theorem d_m463_46 : decode prog_7_method_2_code 46 = .ok (.lushr, 1) := by decide +kernel
theorem d_m463_47 : decode prog_7_method_2_code 47 = .ok (.ldc2_w 22, 3) := by decide +kernel
theorem d_m463_50 : decode prog_7_method_2_code 50 = .ok (.land, 1) := by decide +kernel
theorem d_m463_51 : decode prog_7_method_2_code 51 = .ok (.l2i, 1) := by decide +kernel
theorem d_m463_52 : decode prog_7_method_2_code 52 = .ok (.iastore, 1) := by decide +kernel
theorem d_m463_53 : decode prog_7_method_2_code 53 = .ok (.iinc 5 1, 3) := by decide +kernel
theorem d_m463_56 : decode prog_7_method_2_code 56 = .ok (.goto (-53), 3) := by decide +kernel
theorem d_m463_59 : decode prog_7_method_2_code 59 = .ok (.aload_n 0, 1) := by decide +kernel
theorem d_m463_60 : decode prog_7_method_2_code 60 = .ok (.iconst 0, 1) := by decide +kernel
theorem d_m463_61 : decode prog_7_method_2_code 61 = .ok (.putfield 24, 3) := by decide +kernel
theorem d_m463_64 : decode prog_7_method_2_code 64 = .ok (.return_, 1) := by decide +kernel
theorem d_m468_0 : decode prog_1_method_4_code 0 = .ok (.aload_n 0, 1) := by decide +kernel
theorem d_m468_1 : decode prog_1_method_4_code 1 = .ok (.getfield 28, 3) := by decide +kernel
theorem d_m468_4 : decode prog_1_method_4_code 4 = .ok (.lload_n 1, 1) := by decide +kernel
theorem d_m468_5 : decode prog_1_method_4_code 5 = .ok (.iload_n 3, 1) := by decide +kernel
theorem d_m468_6 : decode prog_1_method_4_code 6 = .ok (.invokevirtual 100, 3) := by decide +kernel
theorem d_m468_9 : decode prog_1_method_4_code 9 = .ok (.ireturn, 1) := by decide +kernel
theorem d_m472_0 : decode prog_7_method_3_code 0 = .ok (.iload_n 3, 1) := by decide +kernel
theorem d_m472_1 : decode prog_7_method_3_code 1 = .ok (.iconst 1, 1) := by decide +kernel
theorem d_m472_2 : decode prog_7_method_3_code 2 = .ok (.if_icmp .lt 21, 3) := by decide +kernel
theorem d_m472_5 : decode prog_7_method_3_code 5 = .ok (.iload_n 3, 1) := by decide +kernel
theorem d_m472_6 : decode prog_7_method_3_code 6 = .ok (.bipush 8, 2) := by decide +kernel
theorem d_m472_8 : decode prog_7_method_3_code 8 = .ok (.if_icmp .gt 15, 3) := by decide +kernel
theorem d_m472_11 : decode prog_7_method_3_code 11 = .ok (.aload_n 0, 1) := by decide +kernel
theorem d_m472_12 : decode prog_7_method_3_code 12 = .ok (.getfield 24, 3) := by decide +kernel
theorem d_m472_15 : decode prog_7_method_3_code 15 = .ok (.iload_n 3, 1) := by decide +kernel
theorem d_m472_16 : decode prog_7_method_3_code 16 = .ok (.iadd, 1) := by decide +kernel
theorem d_m472_17 : decode prog_7_method_3_code 17 = .ok (.sipush 256, 3) := by decide +kernel
theorem d_m472_20 : decode prog_7_method_3_code 20 = .ok (.if_icmp .le 5, 3) := by decide +kernel
theorem d_m472_23 : decode prog_7_method_3_code 23 = .ok (.iconst 0, 1) := by decide +kernel
theorem d_m472_24 : decode prog_7_method_3_code 24 = .ok (.ireturn, 1) := by decide +kernel
theorem d_m472_25 : decode prog_7_method_3_code 25 = .ok (.iload_n 3, 1) := by decide +kernel
theorem d_m472_26 : decode prog_7_method_3_code 26 = .ok (.iconst 1, 1) := by decide +kernel
theorem d_m472_27 : decode prog_7_method_3_code 27 = .ok (.isub, 1) := by decide +kernel
theorem d_m472_28 : decode prog_7_method_3_code 28 = .ok (.istore 4, 2) := by decide +kernel
theorem d_m472_30 : decode prog_7_method_3_code 30 = .ok (.iload 4, 2) := by decide +kernel
theorem d_m472_32 : decode prog_7_method_3_code 32 = .ok (.ifCond .lt 40, 3) := by decide +kernel
theorem d_m472_35 : decode prog_7_method_3_code 35 = .ok (.aload_n 0, 1) := by decide +kernel
theorem d_m472_36 : decode prog_7_method_3_code 36 = .ok (.getfield 15, 3) := by decide +kernel
theorem d_m472_39 : decode prog_7_method_3_code 39 = .ok (.aload_n 0, 1) := by decide +kernel
theorem d_m472_40 : decode prog_7_method_3_code 40 = .ok (.getfield 24, 3) := by decide +kernel
theorem d_m472_43 : decode prog_7_method_3_code 43 = .ok (.lload_n 1, 1) := by decide +kernel
theorem d_m472_44 : decode prog_7_method_3_code 44 = .ok (.bipush 8, 2) := by decide +kernel
theorem d_m472_46 : decode prog_7_method_3_code 46 = .ok (.iload 4, 2) := by decide +kernel
theorem d_m472_48 : decode prog_7_method_3_code 48 = .ok (.imul, 1) := by decide +kernel
theorem d_m472_49 : decode prog_7_method_3_code 49 = .ok (.lushr, 1) := by decide +kernel
theorem d_m472_50 : decode prog_7_method_3_code 50 = .ok (.ldc2_w 22, 3) := by decide +kernel
theorem d_m472_53 : decode prog_7_method_3_code 53 = .ok (.land, 1) := by decide +kernel
theorem d_m472_54 : decode prog_7_method_3_code 54 = .ok (.l2i, 1) := by decide +kernel
theorem d_m472_55 : decode prog_7_method_3_code 55 = .ok (.iastore, 1) := by decide +kernel
theorem d_m472_56 : decode prog_7_method_3_code 56 = .ok (.aload_n 0, 1) := by decide +kernel
theorem d_m472_57 : decode prog_7_method_3_code 57 = .ok (.dup, 1) := by decide +kernel
theorem d_m472_58 : decode prog_7_method_3_code 58 = .ok (.getfield 24, 3) := by decide +kernel
theorem d_m472_61 : decode prog_7_method_3_code 61 = .ok (.iconst 1, 1) := by decide +kernel
theorem d_m472_62 : decode prog_7_method_3_code 62 = .ok (.iadd, 1) := by decide +kernel
theorem d_m472_63 : decode prog_7_method_3_code 63 = .ok (.putfield 24, 3) := by decide +kernel
theorem d_m472_66 : decode prog_7_method_3_code 66 = .ok (.iinc 4 (-1), 3) := by decide +kernel
theorem d_m472_69 : decode prog_7_method_3_code 69 = .ok (.goto (-39), 3) := by decide +kernel
theorem d_m472_72 : decode prog_7_method_3_code 72 = .ok (.iconst 1, 1) := by decide +kernel
theorem d_m472_73 : decode prog_7_method_3_code 73 = .ok (.ireturn, 1) := by decide +kernel
theorem d_m480_0 : decode prog_7_method_4_code 0 = .ok (.iconst 0, 1) := by decide +kernel
theorem d_m480_1 : decode prog_7_method_4_code 1 = .ok (.istore_n 1, 1) := by decide +kernel
theorem d_m480_2 : decode prog_7_method_4_code 2 = .ok (.iconst 1, 1) := by decide +kernel
theorem d_m480_3 : decode prog_7_method_4_code 3 = .ok (.istore_n 2, 1) := by decide +kernel
theorem d_m480_4 : decode prog_7_method_4_code 4 = .ok (.iload_n 2, 1) := by decide +kernel
theorem d_m480_5 : decode prog_7_method_4_code 5 = .ok (.bipush 16, 2) := by decide +kernel
theorem d_m480_7 : decode prog_7_method_4_code 7 = .ok (.if_icmp .gt 18, 3) := by decide +kernel
theorem d_m480_10 : decode prog_7_method_4_code 10 = .ok (.iload_n 1, 1) := by decide +kernel
theorem d_m480_11 : decode prog_7_method_4_code 11 = .ok (.aload_n 0, 1) := by decide +kernel
theorem d_m480_12 : decode prog_7_method_4_code 12 = .ok (.getfield 9, 3) := by decide +kernel
theorem d_m480_15 : decode prog_7_method_4_code 15 = .ok (.iload_n 2, 1) := by decide +kernel
theorem d_m480_16 : decode prog_7_method_4_code 16 = .ok (.iaload, 1) := by decide +kernel
theorem d_m480_17 : decode prog_7_method_4_code 17 = .ok (.iadd, 1) := by decide +kernel
theorem d_m480_18 : decode prog_7_method_4_code 18 = .ok (.istore_n 1, 1) := by decide +kernel
theorem d_m480_19 : decode prog_7_method_4_code 19 = .ok (.iinc 2 1, 3) := by decide +kernel
theorem d_m480_22 : decode prog_7_method_4_code 22 = .ok (.goto (-18), 3) := by decide +kernel
theorem d_m480_25 : decode prog_7_method_4_code 25 = .ok (.iload_n 1, 1) := by decide +kernel
theorem d_m480_26 : decode prog_7_method_4_code 26 = .ok (.aload_n 0, 1) := by decide +kernel
theorem d_m480_27 : decode prog_7_method_4_code 27 = .ok (.getfield 24, 3) := by decide +kernel
theorem d_m480_30 : decode prog_7_method_4_code 30 = .ok (.if_icmp .ne 21, 3) := by decide +kernel
theorem d_m480_33 : decode prog_7_method_4_code 33 = .ok (.aload_n 0, 1) := by decide +kernel
theorem d_m480_34 : decode prog_7_method_4_code 34 = .ok (.invokevirtual 28, 3) := by decide +kernel
theorem d_m480_37 : decode prog_7_method_4_code 37 = .ok (.ifCond .ne 14, 3) := by decide +kernel
theorem d_m480_40 : decode prog_7_method_4_code 40 = .ok (.aload_n 0, 1) := by decide +kernel
theorem d_m480_41 : decode prog_7_method_4_code 41 = .ok (.invokevirtual 32, 3) := by decide +kernel
theorem d_m480_44 : decode prog_7_method_4_code 44 = .ok (.ifCond .eq 7, 3) := by decide +kernel
theorem d_m480_47 : decode prog_7_method_4_code 47 = .ok (.iconst 1, 1) := by decide +kernel
theorem d_m480_48 : decode prog_7_method_4_code 48 = .ok (.goto 4, 3) := by decide +kernel
theorem d_m480_51 : decode prog_7_method_4_code 51 = .ok (.iconst 0, 1) := by decide +kernel
theorem d_m480_52 : decode prog_7_method_4_code 52 = .ok (.ireturn, 1) := by decide +kernel
theorem d_m484_0 : decode prog_7_method_5_code 0 = .ok (.aload_n 0, 1) := by decide +kernel
theorem d_m484_1 : decode prog_7_method_5_code 1 = .ok (.getfield 18, 3) := by decide +kernel
theorem d_m484_4 : decode prog_7_method_5_code 4 = .ok (.iconst 0, 1) := by decide +kernel
theorem d_m484_5 : decode prog_7_method_5_code 5 = .ok (.invokestatic 35, 3) := by decide +kernel
theorem d_m484_8 : decode prog_7_method_5_code 8 = .ok (.iconst 0, 1) := by decide +kernel
theorem d_m484_9 : decode prog_7_method_5_code 9 = .ok (.istore_n 1, 1) := by decide +kernel
theorem d_m484_10 : decode prog_7_method_5_code 10 = .ok (.iload_n 1, 1) := by decide +kernel
theorem d_m484_11 : decode prog_7_method_5_code 11 = .ok (.aload_n 0, 1) := by decide +kernel
theorem d_m484_12 : decode prog_7_method_5_code 12 = .ok (.getfield 24, 3) := by decide +kernel
theorem d_m484_15 : decode prog_7_method_5_code 15 = .ok (.if_icmp .ge 37, 3) := by decide +kernel
theorem d_m484_18 : decode prog_7_method_5_code 18 = .ok (.aload_n 0, 1) := by decide +kernel
theorem d_m484_19 : decode prog_7_method_5_code 19 = .ok (.getfield 18, 3) := by decide +kernel
theorem d_m484_22 : decode prog_7_method_5_code 22 = .ok (.aload_n 0, 1) := by decide +kernel
theorem d_m484_23 : decode prog_7_method_5_code 23 = .ok (.getfield 15, 3) := by decide +kernel
theorem d_m484_26 : decode prog_7_method_5_code 26 = .ok (.iload_n 1, 1) := by decide +kernel
theorem d_m484_27 : decode prog_7_method_5_code 27 = .ok (.iaload, 1) := by decide +kernel
theorem d_m484_28 : decode prog_7_method_5_code 28 = .ok (.baload, 1) := by decide +kernel
theorem d_m484_29 : decode prog_7_method_5_code 29 = .ok (.ifCond .eq 5, 3) := by decide +kernel
theorem d_m484_32 : decode prog_7_method_5_code 32 = .ok (.iconst 1, 1) := by decide +kernel
theorem d_m484_33 : decode prog_7_method_5_code 33 = .ok (.ireturn, 1) := by decide +kernel
theorem d_m484_34 : decode prog_7_method_5_code 34 = .ok (.aload_n 0, 1) := by decide +kernel
theorem d_m484_35 : decode prog_7_method_5_code 35 = .ok (.getfield 18, 3) := by decide +kernel
theorem d_m484_38 : decode prog_7_method_5_code 38 = .ok (.aload_n 0, 1) := by decide +kernel
theorem d_m484_39 : decode prog_7_method_5_code 39 = .ok (.getfield 15, 3) := by decide +kernel
theorem d_m484_42 : decode prog_7_method_5_code 42 = .ok (.iload_n 1, 1) := by decide +kernel
theorem d_m484_43 : decode prog_7_method_5_code 43 = .ok (.iaload, 1) := by decide +kernel
theorem d_m484_44 : decode prog_7_method_5_code 44 = .ok (.iconst 1, 1) := by decide +kernel
theorem d_m484_45 : decode prog_7_method_5_code 45 = .ok (.bastore, 1) := by decide +kernel
theorem d_m484_46 : decode prog_7_method_5_code 46 = .ok (.iinc 1 1, 3) := by decide +kernel
theorem d_m484_49 : decode prog_7_method_5_code 49 = .ok (.goto (-39), 3) := by decide +kernel
theorem d_m484_52 : decode prog_7_method_5_code 52 = .ok (.iconst 0, 1) := by decide +kernel
theorem d_m484_53 : decode prog_7_method_5_code 53 = .ok (.ireturn, 1) := by decide +kernel
theorem d_m487_0 : decode prog_19_method_109_code 0 = .ok (.iconst 0, 1) := by decide +kernel
theorem d_m487_1 : decode prog_19_method_109_code 1 = .ok (.istore_n 2, 1) := by decide +kernel
theorem d_m487_2 : decode prog_19_method_109_code 2 = .ok (.aload_n 0, 1) := by decide +kernel
theorem d_m487_3 : decode prog_19_method_109_code 3 = .ok (.arraylength, 1) := by decide +kernel
theorem d_m487_4 : decode prog_19_method_109_code 4 = .ok (.istore_n 3, 1) := by decide +kernel
theorem d_m487_5 : decode prog_19_method_109_code 5 = .ok (.iload_n 2, 1) := by decide +kernel
theorem d_m487_6 : decode prog_19_method_109_code 6 = .ok (.iload_n 3, 1) := by decide +kernel
theorem d_m487_7 : decode prog_19_method_109_code 7 = .ok (.if_icmp .ge 13, 3) := by decide +kernel
theorem d_m487_10 : decode prog_19_method_109_code 10 = .ok (.aload_n 0, 1) := by decide +kernel
theorem d_m487_11 : decode prog_19_method_109_code 11 = .ok (.iload_n 2, 1) := by decide +kernel
theorem d_m487_12 : decode prog_19_method_109_code 12 = .ok (.iload_n 1, 1) := by decide +kernel
theorem d_m487_13 : decode prog_19_method_109_code 13 = .ok (.bastore, 1) := by decide +kernel
theorem d_m487_14 : decode prog_19_method_109_code 14 = .ok (.iinc 2 1, 3) := by decide +kernel
theorem d_m487_17 : decode prog_19_method_109_code 17 = .ok (.goto (-12), 3) := by decide +kernel
theorem d_m487_20 : decode prog_19_method_109_code 20 = .ok (.return_, 1) := by decide +kernel
theorem d_m491_0 : decode prog_7_method_6_code 0 = .ok (.iconst 0, 1) := by decide +kernel
theorem d_m491_1 : decode prog_7_method_6_code 1 = .ok (.istore_n 1, 1) := by decide +kernel
theorem d_m491_2 : decode prog_7_method_6_code 2 = .ok (.iconst 1, 1) := by decide +kernel
theorem d_m491_3 : decode prog_7_method_6_code 3 = .ok (.istore_n 2, 1) := by decide +kernel
theorem d_m491_4 : decode prog_7_method_6_code 4 = .ok (.iload_n 2, 1) := by decide +kernel
theorem d_m491_5 : decode prog_7_method_6_code 5 = .ok (.bipush 16, 2) := by decide +kernel
theorem d_m491_7 : decode prog_7_method_6_code 7 = .ok (.if_icmp .gt 42, 3) := by decide +kernel
theorem d_m491_10 : decode prog_7_method_6_code 10 = .ok (.iconst 1, 1) := by decide +kernel
theorem d_m491_11 : decode prog_7_method_6_code 11 = .ok (.iload_n 2, 1) := by decide +kernel
theorem d_m491_12 : decode prog_7_method_6_code 12 = .ok (.ishl, 1) := by decide +kernel
theorem d_m491_13 : decode prog_7_method_6_code 13 = .ok (.iconst 1, 1) := by decide +kernel
theorem d_m491_14 : decode prog_7_method_6_code 14 = .ok (.isub, 1) := by decide +kernel
theorem d_m491_15 : decode prog_7_method_6_code 15 = .ok (.istore_n 3, 1) := by decide +kernel
theorem d_m491_16 : decode prog_7_method_6_code 16 = .ok (.iconst 2, 1) := by decide +kernel
theorem d_m491_17 : decode prog_7_method_6_code 17 = .ok (.iload_n 1, 1) := by decide +kernel
theorem d_m491_18 : decode prog_7_method_6_code 18 = .ok (.imul, 1) := by decide +kernel
theorem d_m491_19 : decode prog_7_method_6_code 19 = .ok (.aload_n 0, 1) := by decide +kernel
theorem d_m491_20 : decode prog_7_method_6_code 20 = .ok (.getfield 9, 3) := by decide +kernel
theorem d_m491_23 : decode prog_7_method_6_code 23 = .ok (.iload_n 2, 1) := by decide +kernel
theorem d_m491_24 : decode prog_7_method_6_code 24 = .ok (.iaload, 1) := by decide +kernel
theorem d_m491_25 : decode prog_7_method_6_code 25 = .ok (.iadd, 1) := by decide +kernel
theorem d_m491_26 : decode prog_7_method_6_code 26 = .ok (.istore_n 1, 1) := by decide +kernel
theorem d_m491_27 : decode prog_7_method_6_code 27 = .ok (.aload_n 0, 1) := by decide +kernel
theorem d_m491_28 : decode prog_7_method_6_code 28 = .ok (.getfield 9, 3) := by decide +kernel
theorem d_m491_31 : decode prog_7_method_6_code 31 = .ok (.iload_n 2, 1) := by decide +kernel
theorem d_m491_32 : decode prog_7_method_6_code 32 = .ok (.iaload, 1) := by decide +kernel
theorem d_m491_33 : decode prog_7_method_6_code 33 = .ok (.ifCond .le 10, 3) := by decide +kernel
theorem d_m491_36 : decode prog_7_method_6_code 36 = .ok (.iload_n 1, 1) := by decide +kernel
theorem d_m491_37 : decode prog_7_method_6_code 37 = .ok (.iload_n 3, 1) := by decide +kernel
theorem d_m491_38 : decode prog_7_method_6_code 38 = .ok (.if_icmp .le 5, 3) := by decide +kernel
theorem d_m491_41 : decode prog_7_method_6_code 41 = .ok (.iconst 0, 1) := by decide +kernel
theorem d_m491_42 : decode prog_7_method_6_code 42 = .ok (.ireturn, 1) := by decide +kernel
theorem d_m491_43 : decode prog_7_method_6_code 43 = .ok (.iinc 2 1, 3) := by decide +kernel
theorem d_m491_46 : decode prog_7_method_6_code 46 = .ok (.goto (-42), 3) := by decide +kernel
theorem d_m491_49 : decode prog_7_method_6_code 49 = .ok (.iconst 1, 1) := by decide +kernel
theorem d_m491_50 : decode prog_7_method_6_code 50 = .ok (.ireturn, 1) := by decide +kernel
theorem d_m495_0 : decode prog_12_method_2_code 0 = .ok (.aload_n 0, 1) := by decide +kernel
theorem d_m495_1 : decode prog_12_method_2_code 1 = .ok (.getfield 9, 3) := by decide +kernel
theorem d_m495_4 : decode prog_12_method_2_code 4 = .ok (.iconst 0, 1) := by decide +kernel
theorem d_m495_5 : decode prog_12_method_2_code 5 = .ok (.invokestatic 24, 3) := by decide +kernel
theorem d_m495_8 : decode prog_12_method_2_code 8 = .ok (.aload_n 0, 1) := by decide +kernel
theorem d_m495_9 : decode prog_12_method_2_code 9 = .ok (.aload_n 1, 1) := by decide +kernel
theorem d_m495_10 : decode prog_12_method_2_code 10 = .ok (.getfield 30, 3) := by decide +kernel
theorem d_m495_13 : decode prog_12_method_2_code 13 = .ok (.putfield 36, 3) := by decide +kernel
theorem d_m495_16 : decode prog_12_method_2_code 16 = .ok (.aload_n 1, 1) := by decide +kernel
theorem d_m495_17 : decode prog_12_method_2_code 17 = .ok (.getfield 37, 3) := by decide +kernel
theorem d_m495_20 : decode prog_12_method_2_code 20 = .ok (.iconst 0, 1) := by decide +kernel
theorem d_m495_21 : decode prog_12_method_2_code 21 = .ok (.aload_n 0, 1) := by decide +kernel
theorem d_m495_22 : decode prog_12_method_2_code 22 = .ok (.getfield 15, 3) := by decide +kernel
theorem d_m495_25 : decode prog_12_method_2_code 25 = .ok (.iconst 0, 1) := by decide +kernel
theorem d_m495_26 : decode prog_12_method_2_code 26 = .ok (.aload_n 0, 1) := by decide +kernel
theorem d_m495_27 : decode prog_12_method_2_code 27 = .ok (.getfield 36, 3) := by decide +kernel
theorem d_m495_30 : decode prog_12_method_2_code 30 = .ok (.invokestatic 38, 3) := by decide +kernel
theorem d_m495_33 : decode prog_12_method_2_code 33 = .ok (.iconst 0, 1) := by decide +kernel
theorem d_m495_34 : decode prog_12_method_2_code 34 = .ok (.istore_n 2, 1) := by decide +kernel
theorem d_m495_35 : decode prog_12_method_2_code 35 = .ok (.iconst 0, 1) := by decide +kernel
theorem d_m495_36 : decode prog_12_method_2_code 36 = .ok (.istore_n 3, 1) := by decide +kernel
theorem d_m495_37 : decode prog_12_method_2_code 37 = .ok (.iconst 1, 1) := by decide +kernel
theorem d_m495_38 : decode prog_12_method_2_code 38 = .ok (.istore 4, 2) := by decide +kernel
theorem d_m495_40 : decode prog_12_method_2_code 40 = .ok (.iload 4, 2) := by decide +kernel
theorem d_m495_42 : decode prog_12_method_2_code 42 = .ok (.bipush 16, 2) := by decide +kernel
theorem d_m495_44 : decode prog_12_method_2_code 44 = .ok (.if_icmp .gt 81, 3) := by decide +kernel
theorem d_m495_47 : decode prog_12_method_2_code 47 = .ok (.iconst 2, 1) := by decide +kernel
theorem d_m495_48 : decode prog_12_method_2_code 48 = .ok (.iload_n 2, 1) := by decide +kernel
theorem d_m495_49 : decode prog_12_method_2_code 49 = .ok (.imul, 1) := by decide +kernel
theorem d_m495_50 : decode prog_12_method_2_code 50 = .ok (.istore_n 2, 1) := by decide +kernel
theorem d_m495_51 : decode prog_12_method_2_code 51 = .ok (.aload_n 0, 1) := by decide +kernel
theorem d_m495_52 : decode prog_12_method_2_code 52 = .ok (.getfield 18, 3) := by decide +kernel
theorem d_m495_55 : decode prog_12_method_2_code 55 = .ok (.iload 4, 2) := by decide +kernel
theorem d_m495_57 : decode prog_12_method_2_code 57 = .ok (.iload_n 2, 1) := by decide +kernel
theorem d_m495_58 : decode prog_12_method_2_code 58 = .ok (.iastore, 1) := by decide +kernel
theorem d_m495_59 : decode prog_12_method_2_code 59 = .ok (.aload_n 0, 1) := by decide +kernel
theorem d_m495_60 : decode prog_12_method_2_code 60 = .ok (.getfield 21, 3) := by decide +kernel
theorem d_m495_63 : decode prog_12_method_2_code 63 = .ok (.iload 4, 2) := by decide +kernel
theorem d_m495_65 : decode prog_12_method_2_code 65 = .ok (.iload_n 3, 1) := by decide +kernel
theorem d_m495_66 : decode prog_12_method_2_code 66 = .ok (.iastore, 1) := by decide +kernel
theorem d_m495_67 : decode prog_12_method_2_code 67 = .ok (.iconst 0, 1) := by decide +kernel
theorem d_m495_68 : decode prog_12_method_2_code 68 = .ok (.istore 5, 2) := by decide +kernel
theorem d_m495_70 : decode prog_12_method_2_code 70 = .ok (.iload 5, 2) := by decide +kernel
theorem d_m495_72 : decode prog_12_method_2_code 72 = .ok (.aload_n 1, 1) := by decide +kernel
theorem d_m495_73 : decode prog_12_method_2_code 73 = .ok (.getfield 44, 3) := by decide +kernel
theorem d_m495_76 : decode prog_12_method_2_code 76 = .ok (.iload 4, 2) := by decide +kernel
theorem d_m495_78 : decode prog_12_method_2_code 78 = .ok (.iaload, 1) := by decide +kernel
theorem d_m495_79 : decode prog_12_method_2_code 79 = .ok (.if_icmp .ge 40, 3) := by decide +kernel
theorem d_m495_82 : decode prog_12_method_2_code 82 = .ok (.iload_n 3, 1) := by decide +kernel
theorem d_m495_83 : decode prog_12_method_2_code 83 = .ok (.aload_n 0, 1) := by decide +kernel
theorem d_m495_84 : decode prog_12_method_2_code 84 = .ok (.getfield 36, 3) := by decide +kernel
theorem d_m495_87 : decode prog_12_method_2_code 87 = .ok (.if_icmp .ge 32, 3) := by decide +kernel
theorem d_m495_90 : decode prog_12_method_2_code 90 = .ok (.aload_n 0, 1) := by decide +kernel
theorem d_m495_91 : decode prog_12_method_2_code 91 = .ok (.getfield 9, 3) := by decide +kernel
theorem d_m495_94 : decode prog_12_method_2_code 94 = .ok (.aload_n 0, 1) := by decide +kernel
theorem d_m495_95 : decode prog_12_method_2_code 95 = .ok (.getfield 15, 3) := by decide +kernel
theorem d_m495_98 : decode prog_12_method_2_code 98 = .ok (.iload_n 3, 1) := by decide +kernel
theorem d_m495_99 : decode prog_12_method_2_code 99 = .ok (.iaload, 1) := by decide +kernel
theorem d_m495_100 : decode prog_12_method_2_code 100 = .ok (.iconst 1, 1) := by decide +kernel
theorem d_m495_101 : decode prog_12_method_2_code 101 = .ok (.iload 4, 2) := by decide +kernel
theorem d_m495_103 : decode prog_12_method_2_code 103 = .ok (.ishl, 1) := by decide +kernel
theorem d_m495_104 : decode prog_12_method_2_code 104 = .ok (.iload_n 2, 1) := by decide +kernel
theorem d_m495_105 : decode prog_12_method_2_code 105 = .ok (.ior, 1) := by decide +kernel
theorem d_m495_106 : decode prog_12_method_2_code 106 = .ok (.iastore, 1) := by decide +kernel
theorem d_m495_107 : decode prog_12_method_2_code 107 = .ok (.iinc 2 1, 3) := by decide +kernel
theorem d_m495_110 : decode prog_12_method_2_code 110 = .ok (.iinc 3 1, 3) := by decide +kernel
theorem d_m495_113 : decode prog_12_method_2_code 113 = .ok (.iinc 5 1, 3) := by decide +kernel
theorem d_m495_116 : decode prog_12_method_2_code 116 = .ok (.goto (-46), 3) := by decide +kernel
theorem d_m495_119 : decode prog_12_method_2_code 119 = .ok (.iinc 4 1, 3) := by decide +kernel
theorem d_m495_122 : decode prog_12_method_2_code 122 = .ok (.goto (-82), 3) := by decide +kernel
theorem d_m495_125 : decode prog_12_method_2_code 125 = .ok (.aload_n 0, 1) := by decide +kernel
theorem d_m495_126 : decode prog_12_method_2_code 126 = .ok (.getfield 21, 3) := by decide +kernel
theorem d_m495_129 : decode prog_12_method_2_code 129 = .ok (.bipush 17, 2) := by decide +kernel
theorem d_m495_131 : decode prog_12_method_2_code 131 = .ok (.iload_n 3, 1) := by decide +kernel
theorem d_m495_132 : decode prog_12_method_2_code 132 = .ok (.iastore, 1) := by decide +kernel
theorem d_m495_133 : decode prog_12_method_2_code 133 = .ok (.aload_n 0, 1) := by decide +kernel
theorem d_m495_134 : decode prog_12_method_2_code 134 = .ok (.iload_n 2, 1) := by decide +kernel
theorem d_m495_135 : decode prog_12_method_2_code 135 = .ok (.putfield 47, 3) := by decide +kernel
theorem d_m495_138 : decode prog_12_method_2_code 138 = .ok (.return_, 1) := by decide +kernel
theorem d_m503_0 : decode prog_1_method_6_code 0 = .ok (.iload_n 2, 1) := by decide +kernel
theorem d_m503_1 : decode prog_1_method_6_code 1 = .ok (.iload_n 3, 1) := by decide +kernel
theorem d_m503_2 : decode prog_1_method_6_code 2 = .ok (.iload 4, 2) := by decide +kernel
theorem d_m503_4 : decode prog_1_method_6_code 4 = .ok (.iload 5, 2) := by decide +kernel
theorem d_m503_6 : decode prog_1_method_6_code 6 = .ok (.invokestatic 111, 3) := by decide +kernel
theorem d_m503_9 : decode prog_1_method_6_code 9 = .ok (.istore 6, 2) := by decide +kernel
theorem d_m503_11 : decode prog_1_method_6_code 11 = .ok (.iload 6, 2) := by decide +kernel
theorem d_m503_13 : decode prog_1_method_6_code 13 = .ok (.iconst (-1), 1) := by decide +kernel
theorem d_m503_14 : decode prog_1_method_6_code 14 = .ok (.if_icmp .eq 16, 3) := by decide +kernel
theorem d_m503_17 : decode prog_1_method_6_code 17 = .ok (.aload_n 0, 1) := by decide +kernel
theorem d_m503_18 : decode prog_1_method_6_code 18 = .ok (.getfield 21, 3) := by decide +kernel
theorem d_m503_21 : decode prog_1_method_6_code 21 = .ok (.iload 6, 2) := by decide +kernel
theorem d_m503_23 : decode prog_1_method_6_code 23 = .ok (.iload_n 1, 1) := by decide +kernel
theorem d_m503_24 : decode prog_1_method_6_code 24 = .ok (.invokevirtual 115, 3) := by decide +kernel
theorem d_m503_27 : decode prog_1_method_6_code 27 = .ok (.ifCond .ne 5, 3) := by decide +kernel
theorem d_m503_30 : decode prog_1_method_6_code 30 = .ok (.iconst 0, 1) := by decide +kernel
theorem d_m503_31 : decode prog_1_method_6_code 31 = .ok (.ireturn, 1) := by decide +kernel
theorem d_m503_32 : decode prog_1_method_6_code 32 = .ok (.aload_n 0, 1) := by decide +kernel
theorem d_m503_33 : decode prog_1_method_6_code 33 = .ok (.getfield 21, 3) := by decide +kernel
theorem d_m503_36 : decode prog_1_method_6_code 36 = .ok (.iload 6, 2) := by decide +kernel
theorem d_m503_38 : decode prog_1_method_6_code 38 = .ok (.iload_n 2, 1) := by decide +kernel
theorem d_m503_39 : decode prog_1_method_6_code 39 = .ok (.iload_n 3, 1) := by decide +kernel
theorem d_m503_40 : decode prog_1_method_6_code 40 = .ok (.iload 5, 2) := by decide +kernel
