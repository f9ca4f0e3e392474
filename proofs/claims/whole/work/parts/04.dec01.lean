theorem d_m126_5 : decode prog_5_method_5_code 5 = .ok (.aload_n 0, 1) := by decide +kernel
theorem d_m126_6 : decode prog_5_method_5_code 6 = .ok (.iload_n 2, 1) := by decide +kernel
theorem d_m126_7 : decode prog_5_method_5_code 7 = .ok (.putfield 63, 3) := by decide +kernel
theorem d_m126_10 : decode prog_5_method_5_code 10 = .ok (.aload_n 0, 1) := by decide +kernel
theorem d_m126_11 : decode prog_5_method_5_code 11 = .ok (.iload_n 3, 1) := by decide +kernel
theorem d_m126_12 : decode prog_5_method_5_code 12 = .ok (.putfield 66, 3) := by decide +kernel
theorem d_m126_15 : decode prog_5_method_5_code 15 = .ok (.aload_n 0, 1) := by decide +kernel
theorem d_m126_16 : decode prog_5_method_5_code 16 = .ok (.iload 4, 2) := by decide +kernel
theorem d_m126_18 : decode prog_5_method_5_code 18 = .ok (.putfield 69, 3) := by decide +kernel
theorem d_m126_21 : decode prog_5_method_5_code 21 = .ok (.return_, 1) := by decide +kernel
theorem d_m130_0 : decode prog_5_method_6_code 0 = .ok (.aload_n 0, 1) := by decide +kernel
theorem d_m130_1 : decode prog_5_method_6_code 1 = .ok (.iconst 0, 1) := by decide +kernel
theorem d_m130_2 : decode prog_5_method_6_code 2 = .ok (.putfield 72, 3) := by decide +kernel
theorem d_m130_5 : decode prog_5_method_6_code 5 = .ok (.iload_n 1, 1) := by decide +kernel
theorem d_m130_6 : decode prog_5_method_6_code 6 = .ok (.invokestatic 54, 3) := by decide +kernel
theorem d_m130_9 : decode prog_5_method_6_code 9 = .ok (.iconst 1, 1) := by decide +kernel
theorem d_m130_10 : decode prog_5_method_6_code 10 = .ok (.if_icmp .ne 11, 3) := by decide +kernel
theorem d_m130_13 : decode prog_5_method_6_code 13 = .ok (.aload_n 0, 1) := by decide +kernel
theorem d_m130_14 : decode prog_5_method_6_code 14 = .ok (.iload_n 1, 1) := by decide +kernel
theorem d_m130_15 : decode prog_5_method_6_code 15 = .ok (.invokevirtual 75, 3) := by decide +kernel
theorem d_m130_18 : decode prog_5_method_6_code 18 = .ok (.goto 8, 3) := by decide +kernel
theorem d_m130_21 : decode prog_5_method_6_code 21 = .ok (.aload_n 0, 1) := by decide +kernel
theorem d_m130_22 : decode prog_5_method_6_code 22 = .ok (.iload_n 1, 1) := by decide +kernel
theorem d_m130_23 : decode prog_5_method_6_code 23 = .ok (.invokevirtual 78, 3) := by decide +kernel
theorem d_m130_26 : decode prog_5_method_6_code 26 = .ok (.return_, 1) := by decide +kernel
theorem d_m133_0 : decode prog_16_method_49_code 0 = .ok (.iload_n 0, 1) := by decide +kernel
theorem d_m133_1 : decode prog_16_method_49_code 1 = .ok (.iload_n 0, 1) := by decide +kernel
theorem d_m133_2 : decode prog_16_method_49_code 2 = .ok (.iconst 1, 1) := by decide +kernel
theorem d_m133_3 : decode prog_16_method_49_code 3 = .ok (.iushr, 1) := by decide +kernel
theorem d_m133_4 : decode prog_16_method_49_code 4 = .ok (.ldc_w 265, 3) := by decide +kernel
theorem d_m133_7 : decode prog_16_method_49_code 7 = .ok (.iand, 1) := by decide +kernel
theorem d_m133_8 : decode prog_16_method_49_code 8 = .ok (.isub, 1) := by decide +kernel
theorem d_m133_9 : decode prog_16_method_49_code 9 = .ok (.istore_n 0, 1) := by decide +kernel
theorem d_m133_10 : decode prog_16_method_49_code 10 = .ok (.iload_n 0, 1) := by decide +kernel
theorem d_m133_11 : decode prog_16_method_49_code 11 = .ok (.ldc_w 266, 3) := by decide +kernel
theorem d_m133_14 : decode prog_16_method_49_code 14 = .ok (.iand, 1) := by decide +kernel
theorem d_m133_15 : decode prog_16_method_49_code 15 = .ok (.iload_n 0, 1) := by decide +kernel
theorem d_m133_16 : decode prog_16_method_49_code 16 = .ok (.iconst 2, 1) := by decide +kernel
theorem d_m133_17 : decode prog_16_method_49_code 17 = .ok (.iushr, 1) := by decide +kernel
theorem d_m133_18 : decode prog_16_method_49_code 18 = .ok (.ldc_w 266, 3) := by decide +kernel
theorem d_m133_21 : decode prog_16_method_49_code 21 = .ok (.iand, 1) := by decide +kernel
theorem d_m133_22 : decode prog_16_method_49_code 22 = .ok (.iadd, 1) := by decide +kernel
theorem d_m133_23 : decode prog_16_method_49_code 23 = .ok (.istore_n 0, 1) := by decide +kernel
theorem d_m133_24 : decode prog_16_method_49_code 24 = .ok (.iload_n 0, 1) := by decide +kernel
theorem d_m133_25 : decode prog_16_method_49_code 25 = .ok (.iload_n 0, 1) := by decide +kernel
theorem d_m133_26 : decode prog_16_method_49_code 26 = .ok (.iconst 4, 1) := by decide +kernel
theorem d_m133_27 : decode prog_16_method_49_code 27 = .ok (.iushr, 1) := by decide +kernel
theorem d_m133_28 : decode prog_16_method_49_code 28 = .ok (.iadd, 1) := by decide +kernel
theorem d_m133_29 : decode prog_16_method_49_code 29 = .ok (.ldc_w 267, 3) := by decide +kernel
theorem d_m133_32 : decode prog_16_method_49_code 32 = .ok (.iand, 1) := by decide +kernel
theorem d_m133_33 : decode prog_16_method_49_code 33 = .ok (.istore_n 0, 1) := by decide +kernel
theorem d_m133_34 : decode prog_16_method_49_code 34 = .ok (.iload_n 0, 1) := by decide +kernel
theorem d_m133_35 : decode prog_16_method_49_code 35 = .ok (.iload_n 0, 1) := by decide +kernel
theorem d_m133_36 : decode prog_16_method_49_code 36 = .ok (.bipush 8, 2) := by decide +kernel
theorem d_m133_38 : decode prog_16_method_49_code 38 = .ok (.iushr, 1) := by decide +kernel
theorem d_m133_39 : decode prog_16_method_49_code 39 = .ok (.iadd, 1) := by decide +kernel
theorem d_m133_40 : decode prog_16_method_49_code 40 = .ok (.istore_n 0, 1) := by decide +kernel
theorem d_m133_41 : decode prog_16_method_49_code 41 = .ok (.iload_n 0, 1) := by decide +kernel
theorem d_m133_42 : decode prog_16_method_49_code 42 = .ok (.iload_n 0, 1) := by decide +kernel
theorem d_m133_43 : decode prog_16_method_49_code 43 = .ok (.bipush 16, 2) := by decide +kernel
theorem d_m133_45 : decode prog_16_method_49_code 45 = .ok (.iushr, 1) := by decide +kernel
theorem d_m133_46 : decode prog_16_method_49_code 46 = .ok (.iadd, 1) := by decide +kernel
theorem d_m133_47 : decode prog_16_method_49_code 47 = .ok (.istore_n 0, 1) := by decide +kernel
theorem d_m133_48 : decode prog_16_method_49_code 48 = .ok (.iload_n 0, 1) := by decide +kernel
theorem d_m133_49 : decode prog_16_method_49_code 49 = .ok (.bipush 63, 2) := by decide +kernel
theorem d_m133_51 : decode prog_16_method_49_code 51 = .ok (.iand, 1) := by decide +kernel
theorem d_m133_52 : decode prog_16_method_49_code 52 = .ok (.ireturn, 1) := by decide +kernel
theorem d_m140_0 : decode prog_5_method_7_code 0 = .ok (.iconst 0, 1) := by decide +kernel
theorem d_m140_1 : decode prog_5_method_7_code 1 = .ok (.istore_n 2, 1) := by decide +kernel
theorem d_m140_2 : decode prog_5_method_7_code 2 = .ok (.iload_n 2, 1) := by decide +kernel
theorem d_m140_3 : decode prog_5_method_7_code 3 = .ok (.aload_n 0, 1) := by decide +kernel
theorem d_m140_4 : decode prog_5_method_7_code 4 = .ok (.getfield 24, 3) := by decide +kernel
theorem d_m140_7 : decode prog_5_method_7_code 7 = .ok (.getfield 49, 3) := by decide +kernel
theorem d_m140_10 : decode prog_5_method_7_code 10 = .ok (.if_icmp .ge 43, 3) := by decide +kernel
theorem d_m140_13 : decode prog_5_method_7_code 13 = .ok (.iload_n 1, 1) := by decide +kernel
theorem d_m140_14 : decode prog_5_method_7_code 14 = .ok (.iload_n 2, 1) := by decide +kernel
theorem d_m140_15 : decode prog_5_method_7_code 15 = .ok (.ishr, 1) := by decide +kernel
theorem d_m140_16 : decode prog_5_method_7_code 16 = .ok (.iconst 1, 1) := by decide +kernel
theorem d_m140_17 : decode prog_5_method_7_code 17 = .ok (.iand, 1) := by decide +kernel
theorem d_m140_18 : decode prog_5_method_7_code 18 = .ok (.iconst 1, 1) := by decide +kernel
theorem d_m140_19 : decode prog_5_method_7_code 19 = .ok (.if_icmp .ne 28, 3) := by decide +kernel
theorem d_m140_22 : decode prog_5_method_7_code 22 = .ok (.aload_n 0, 1) := by decide +kernel
theorem d_m140_23 : decode prog_5_method_7_code 23 = .ok (.iload_n 2, 1) := by decide +kernel
theorem d_m140_24 : decode prog_5_method_7_code 24 = .ok (.iconst 0, 1) := by decide +kernel
theorem d_m140_25 : decode prog_5_method_7_code 25 = .ok (.iconst 0, 1) := by decide +kernel
theorem d_m140_26 : decode prog_5_method_7_code 26 = .ok (.aload_n 0, 1) := by decide +kernel
theorem d_m140_27 : decode prog_5_method_7_code 27 = .ok (.getfield 24, 3) := by decide +kernel
theorem d_m140_30 : decode prog_5_method_7_code 30 = .ok (.getfield 81, 3) := by decide +kernel
theorem d_m140_33 : decode prog_5_method_7_code 33 = .ok (.iload_n 2, 1) := by decide +kernel
theorem d_m140_34 : decode prog_5_method_7_code 34 = .ok (.iaload, 1) := by decide +kernel
theorem d_m140_35 : decode prog_5_method_7_code 35 = .ok (.aload_n 0, 1) := by decide +kernel
theorem d_m140_36 : decode prog_5_method_7_code 36 = .ok (.getfield 24, 3) := by decide +kernel
theorem d_m140_39 : decode prog_5_method_7_code 39 = .ok (.getfield 84, 3) := by decide +kernel
theorem d_m140_42 : decode prog_5_method_7_code 42 = .ok (.iload_n 2, 1) := by decide +kernel
theorem d_m140_43 : decode prog_5_method_7_code 43 = .ok (.iaload, 1) := by decide +kernel
theorem d_m140_44 : decode prog_5_method_7_code 44 = .ok (.invokevirtual 87, 3) := by decide +kernel
theorem d_m140_47 : decode prog_5_method_7_code 47 = .ok (.iinc 2 1, 3) := by decide +kernel
theorem d_m140_50 : decode prog_5_method_7_code 50 = .ok (.goto (-48), 3) := by decide +kernel
theorem d_m140_53 : decode prog_5_method_7_code 53 = .ok (.aload_n 0, 1) := by decide +kernel
theorem d_m140_54 : decode prog_5_method_7_code 54 = .ok (.aload_n 0, 1) := by decide +kernel
theorem d_m140_55 : decode prog_5_method_7_code 55 = .ok (.getfield 72, 3) := by decide +kernel
theorem d_m140_58 : decode prog_5_method_7_code 58 = .ok (.putfield 91, 3) := by decide +kernel
theorem d_m140_61 : decode prog_5_method_7_code 61 = .ok (.aload_n 0, 1) := by decide +kernel
theorem d_m140_62 : decode prog_5_method_7_code 62 = .ok (.iconst 1, 1) := by decide +kernel
theorem d_m140_63 : decode prog_5_method_7_code 63 = .ok (.putfield 94, 3) := by decide +kernel
theorem d_m140_66 : decode prog_5_method_7_code 66 = .ok (.return_, 1) := by decide +kernel
theorem d_m144_0 : decode prog_5_method_10_code 0 = .ok (.iload_n 3, 1) := by decide +kernel
theorem d_m144_1 : decode prog_5_method_10_code 1 = .ok (.istore 6, 2) := by decide +kernel
theorem d_m144_3 : decode prog_5_method_10_code 3 = .ok (.iload 6, 2) := by decide +kernel
theorem d_m144_5 : decode prog_5_method_10_code 5 = .ok (.iload_n 3, 1) := by decide +kernel
theorem d_m144_6 : decode prog_5_method_10_code 6 = .ok (.iload 5, 2) := by decide +kernel
theorem d_m144_8 : decode prog_5_method_10_code 8 = .ok (.iadd, 1) := by decide +kernel
theorem d_m144_9 : decode prog_5_method_10_code 9 = .ok (.if_icmp .ge 100, 3) := by decide +kernel
theorem d_m144_12 : decode prog_5_method_10_code 12 = .ok (.iload_n 2, 1) := by decide +kernel
theorem d_m144_13 : decode prog_5_method_10_code 13 = .ok (.istore 7, 2) := by decide +kernel
theorem d_m144_15 : decode prog_5_method_10_code 15 = .ok (.iload 7, 2) := by decide +kernel
theorem d_m144_17 : decode prog_5_method_10_code 17 = .ok (.iload_n 2, 1) := by decide +kernel
theorem d_m144_18 : decode prog_5_method_10_code 18 = .ok (.iload 4, 2) := by decide +kernel
theorem d_m144_20 : decode prog_5_method_10_code 20 = .ok (.iadd, 1) := by decide +kernel
theorem d_m144_21 : decode prog_5_method_10_code 21 = .ok (.if_icmp .ge 82, 3) := by decide +kernel
theorem d_m144_24 : decode prog_5_method_10_code 24 = .ok (.aload_n 0, 1) := by decide +kernel
theorem d_m144_25 : decode prog_5_method_10_code 25 = .ok (.getfield 24, 3) := by decide +kernel
theorem d_m144_28 : decode prog_5_method_10_code 28 = .ok (.iload_n 1, 1) := by decide +kernel
theorem d_m144_29 : decode prog_5_method_10_code 29 = .ok (.iload 6, 2) := by decide +kernel
theorem d_m144_31 : decode prog_5_method_10_code 31 = .ok (.aload_n 0, 1) := by decide +kernel
theorem d_m144_32 : decode prog_5_method_10_code 32 = .ok (.getfield 24, 3) := by decide +kernel
theorem d_m144_35 : decode prog_5_method_10_code 35 = .ok (.getfield 113, 3) := by decide +kernel
theorem d_m144_38 : decode prog_5_method_10_code 38 = .ok (.iload_n 1, 1) := by decide +kernel
theorem d_m144_39 : decode prog_5_method_10_code 39 = .ok (.iaload, 1) := by decide +kernel
theorem d_m144_40 : decode prog_5_method_10_code 40 = .ok (.imul, 1) := by decide +kernel
theorem d_m144_41 : decode prog_5_method_10_code 41 = .ok (.iload 7, 2) := by decide +kernel
theorem d_m144_43 : decode prog_5_method_10_code 43 = .ok (.iadd, 1) := by decide +kernel
theorem d_m144_44 : decode prog_5_method_10_code 44 = .ok (.iconst 0, 1) := by decide +kernel
theorem d_m144_45 : decode prog_5_method_10_code 45 = .ok (.invokevirtual 116, 3) := by decide +kernel
theorem d_m144_48 : decode prog_5_method_10_code 48 = .ok (.istore 8, 2) := by decide +kernel
theorem d_m144_50 : decode prog_5_method_10_code 50 = .ok (.iload 8, 2) := by decide +kernel
theorem d_m144_52 : decode prog_5_method_10_code 52 = .ok (.iconst (-1), 1) := by decide +kernel
theorem d_m144_53 : decode prog_5_method_10_code 53 = .ok (.if_icmp .eq 44, 3) := by decide +kernel
theorem d_m144_56 : decode prog_5_method_10_code 56 = .ok (.aload_n 0, 1) := by decide +kernel
theorem d_m144_57 : decode prog_5_method_10_code 57 = .ok (.getfield 72, 3) := by decide +kernel
theorem d_m144_60 : decode prog_5_method_10_code 60 = .ok (.sipush 192, 3) := by decide +kernel
theorem d_m144_63 : decode prog_5_method_10_code 63 = .ok (.if_icmp .ge 34, 3) := by decide +kernel
theorem d_m144_66 : decode prog_5_method_10_code 66 = .ok (.aload_n 0, 1) := by decide +kernel
theorem d_m144_67 : decode prog_5_method_10_code 67 = .ok (.getfield 9, 3) := by decide +kernel
theorem d_m144_70 : decode prog_5_method_10_code 70 = .ok (.aload_n 0, 1) := by decide +kernel
theorem d_m144_71 : decode prog_5_method_10_code 71 = .ok (.getfield 72, 3) := by decide +kernel
theorem d_m144_74 : decode prog_5_method_10_code 74 = .ok (.iload_n 1, 1) := by decide +kernel
theorem d_m144_75 : decode prog_5_method_10_code 75 = .ok (.iastore, 1) := by decide +kernel
theorem d_m144_76 : decode prog_5_method_10_code 76 = .ok (.aload_n 0, 1) := by decide +kernel
theorem d_m144_77 : decode prog_5_method_10_code 77 = .ok (.getfield 15, 3) := by decide +kernel
theorem d_m144_80 : decode prog_5_method_10_code 80 = .ok (.aload_n 0, 1) := by decide +kernel
theorem d_m144_81 : decode prog_5_method_10_code 81 = .ok (.getfield 72, 3) := by decide +kernel
theorem d_m144_84 : decode prog_5_method_10_code 84 = .ok (.iload 8, 2) := by decide +kernel
theorem d_m144_86 : decode prog_5_method_10_code 86 = .ok (.iastore, 1) := by decide +kernel
theorem d_m144_87 : decode prog_5_method_10_code 87 = .ok (.aload_n 0, 1) := by decide +kernel
theorem d_m144_88 : decode prog_5_method_10_code 88 = .ok (.dup, 1) := by decide +kernel
theorem d_m144_89 : decode prog_5_method_10_code 89 = .ok (.getfield 72, 3) := by decide +kernel
theorem d_m144_92 : decode prog_5_method_10_code 92 = .ok (.iconst 1, 1) := by decide +kernel
theorem d_m144_93 : decode prog_5_method_10_code 93 = .ok (.iadd, 1) := by decide +kernel
theorem d_m144_94 : decode prog_5_method_10_code 94 = .ok (.putfield 72, 3) := by decide +kernel
theorem d_m144_97 : decode prog_5_method_10_code 97 = .ok (.iinc 7 1, 3) := by decide +kernel
theorem d_m144_100 : decode prog_5_method_10_code 100 = .ok (.goto (-85), 3) := by decide +kernel
theorem d_m144_103 : decode prog_5_method_10_code 103 = .ok (.iinc 6 1, 3) := by decide +kernel
theorem d_m144_106 : decode prog_5_method_10_code 106 = .ok (.goto (-103), 3) := by decide +kernel
theorem d_m144_109 : decode prog_5_method_10_code 109 = .ok (.return_, 1) := by decide +kernel
theorem d_m148_0 : decode prog_9_method_9_code 0 = .ok (.iload_n 1, 1) := by decide +kernel
theorem d_m148_1 : decode prog_9_method_9_code 1 = .ok (.ifCond .lt 21, 3) := by decide +kernel
theorem d_m148_4 : decode prog_9_method_9_code 4 = .ok (.iload_n 1, 1) := by decide +kernel
theorem d_m148_5 : decode prog_9_method_9_code 5 = .ok (.aload_n 0, 1) := by decide +kernel
theorem d_m148_6 : decode prog_9_method_9_code 6 = .ok (.getfield 56, 3) := by decide +kernel
theorem d_m148_9 : decode prog_9_method_9_code 9 = .ok (.if_icmp .ge 13, 3) := by decide +kernel
theorem d_m148_12 : decode prog_9_method_9_code 12 = .ok (.iload_n 3, 1) := by decide +kernel
theorem d_m148_13 : decode prog_9_method_9_code 13 = .ok (.ifCond .lt 9, 3) := by decide +kernel
theorem d_m148_16 : decode prog_9_method_9_code 16 = .ok (.iload_n 3, 1) := by decide +kernel
theorem d_m148_17 : decode prog_9_method_9_code 17 = .ok (.bipush 64, 2) := by decide +kernel
theorem d_m148_19 : decode prog_9_method_9_code 19 = .ok (.if_icmp .lt 5, 3) := by decide +kernel
theorem d_m148_22 : decode prog_9_method_9_code 22 = .ok (.iconst (-1), 1) := by decide +kernel
theorem d_m148_23 : decode prog_9_method_9_code 23 = .ok (.ireturn, 1) := by decide +kernel
theorem d_m148_24 : decode prog_9_method_9_code 24 = .ok (.iload_n 2, 1) := by decide +kernel
theorem d_m148_25 : decode prog_9_method_9_code 25 = .ok (.ifCond .lt 20, 3) := by decide +kernel
theorem d_m148_28 : decode prog_9_method_9_code 28 = .ok (.iload_n 2, 1) := by decide +kernel
theorem d_m148_29 : decode prog_9_method_9_code 29 = .ok (.aload_n 0, 1) := by decide +kernel
theorem d_m148_30 : decode prog_9_method_9_code 30 = .ok (.getfield 18, 3) := by decide +kernel
theorem d_m148_33 : decode prog_9_method_9_code 33 = .ok (.iload_n 1, 1) := by decide +kernel
theorem d_m148_34 : decode prog_9_method_9_code 34 = .ok (.iaload, 1) := by decide +kernel
theorem d_m148_35 : decode prog_9_method_9_code 35 = .ok (.aload_n 0, 1) := by decide +kernel
theorem d_m148_36 : decode prog_9_method_9_code 36 = .ok (.getfield 21, 3) := by decide +kernel
theorem d_m148_39 : decode prog_9_method_9_code 39 = .ok (.iload_n 1, 1) := by decide +kernel
theorem d_m148_40 : decode prog_9_method_9_code 40 = .ok (.iaload, 1) := by decide +kernel
theorem d_m148_41 : decode prog_9_method_9_code 41 = .ok (.imul, 1) := by decide +kernel
theorem d_m148_42 : decode prog_9_method_9_code 42 = .ok (.if_icmp .lt 5, 3) := by decide +kernel
theorem d_m148_45 : decode prog_9_method_9_code 45 = .ok (.iconst (-1), 1) := by decide +kernel
theorem d_m148_46 : decode prog_9_method_9_code 46 = .ok (.ireturn, 1) := by decide +kernel
theorem d_m148_47 : decode prog_9_method_9_code 47 = .ok (.aload_n 0, 1) := by decide +kernel
theorem d_m148_48 : decode prog_9_method_9_code 48 = .ok (.getfield 30, 3) := by decide +kernel
theorem d_m148_51 : decode prog_9_method_9_code 51 = .ok (.iload_n 1, 1) := by decide +kernel
theorem d_m148_52 : decode prog_9_method_9_code 52 = .ok (.iaload, 1) := by decide +kernel
theorem d_m148_53 : decode prog_9_method_9_code 53 = .ok (.iload_n 2, 1) := by decide +kernel
theorem d_m148_54 : decode prog_9_method_9_code 54 = .ok (.iadd, 1) := by decide +kernel
theorem d_m148_55 : decode prog_9_method_9_code 55 = .ok (.bipush 64, 2) := by decide +kernel
theorem d_m148_57 : decode prog_9_method_9_code 57 = .ok (.imul, 1) := by decide +kernel
theorem d_m148_58 : decode prog_9_method_9_code 58 = .ok (.iload_n 3, 1) := by decide +kernel
theorem d_m148_59 : decode prog_9_method_9_code 59 = .ok (.iadd, 1) := by decide +kernel
theorem d_m148_60 : decode prog_9_method_9_code 60 = .ok (.ireturn, 1) := by decide +kernel
theorem d_m152_0 : decode prog_5_method_8_code 0 = .ok (.aload_n 0, 1) := by decide +kernel
theorem d_m152_1 : decode prog_5_method_8_code 1 = .ok (.aload_n 0, 1) := by decide +kernel
theorem d_m152_2 : decode prog_5_method_8_code 2 = .ok (.getfield 24, 3) := by decide +kernel
theorem d_m152_5 : decode prog_5_method_8_code 5 = .ok (.getfield 97, 3) := by decide +kernel
theorem d_m152_8 : decode prog_5_method_8_code 8 = .ok (.aload_n 0, 1) := by decide +kernel
theorem d_m152_9 : decode prog_5_method_8_code 9 = .ok (.getfield 24, 3) := by decide +kernel
theorem d_m152_12 : decode prog_5_method_8_code 12 = .ok (.getfield 100, 3) := by decide +kernel
theorem d_m152_15 : decode prog_5_method_8_code 15 = .ok (.imul, 1) := by decide +kernel
theorem d_m152_16 : decode prog_5_method_8_code 16 = .ok (.putfield 91, 3) := by decide +kernel
theorem d_m152_19 : decode prog_5_method_8_code 19 = .ok (.iconst 0, 1) := by decide +kernel
theorem d_m152_20 : decode prog_5_method_8_code 20 = .ok (.istore_n 2, 1) := by decide +kernel
theorem d_m152_21 : decode prog_5_method_8_code 21 = .ok (.iload_n 2, 1) := by decide +kernel
theorem d_m152_22 : decode prog_5_method_8_code 22 = .ok (.aload_n 0, 1) := by decide +kernel
theorem d_m152_23 : decode prog_5_method_8_code 23 = .ok (.getfield 24, 3) := by decide +kernel
theorem d_m152_26 : decode prog_5_method_8_code 26 = .ok (.getfield 100, 3) := by decide +kernel
theorem d_m152_29 : decode prog_5_method_8_code 29 = .ok (.if_icmp .ge 35, 3) := by decide +kernel
theorem d_m152_32 : decode prog_5_method_8_code 32 = .ok (.iconst 0, 1) := by decide +kernel
theorem d_m152_33 : decode prog_5_method_8_code 33 = .ok (.istore_n 3, 1) := by decide +kernel
theorem d_m152_34 : decode prog_5_method_8_code 34 = .ok (.iload_n 3, 1) := by decide +kernel
theorem d_m152_35 : decode prog_5_method_8_code 35 = .ok (.aload_n 0, 1) := by decide +kernel
theorem d_m152_36 : decode prog_5_method_8_code 36 = .ok (.getfield 24, 3) := by decide +kernel
theorem d_m152_39 : decode prog_5_method_8_code 39 = .ok (.getfield 97, 3) := by decide +kernel
theorem d_m152_42 : decode prog_5_method_8_code 42 = .ok (.if_icmp .ge 16, 3) := by decide +kernel
theorem d_m152_45 : decode prog_5_method_8_code 45 = .ok (.aload_n 0, 1) := by decide +kernel
theorem d_m152_46 : decode prog_5_method_8_code 46 = .ok (.iload_n 1, 1) := by decide +kernel
theorem d_m152_47 : decode prog_5_method_8_code 47 = .ok (.iload_n 3, 1) := by decide +kernel
theorem d_m152_48 : decode prog_5_method_8_code 48 = .ok (.iload_n 2, 1) := by decide +kernel
theorem d_m152_49 : decode prog_5_method_8_code 49 = .ok (.invokevirtual 103, 3) := by decide +kernel
theorem d_m152_52 : decode prog_5_method_8_code 52 = .ok (.iinc 3 1, 3) := by decide +kernel
theorem d_m152_55 : decode prog_5_method_8_code 55 = .ok (.goto (-21), 3) := by decide +kernel
theorem d_m152_58 : decode prog_5_method_8_code 58 = .ok (.iinc 2 1, 3) := by decide +kernel
theorem d_m152_61 : decode prog_5_method_8_code 61 = .ok (.goto (-40), 3) := by decide +kernel
theorem d_m152_64 : decode prog_5_method_8_code 64 = .ok (.aload_n 0, 1) := by decide +kernel
theorem d_m152_65 : decode prog_5_method_8_code 65 = .ok (.aload_n 0, 1) := by decide +kernel
theorem d_m152_66 : decode prog_5_method_8_code 66 = .ok (.getfield 91, 3) := by decide +kernel
theorem d_m152_69 : decode prog_5_method_8_code 69 = .ok (.iconst 1, 1) := by decide +kernel
theorem d_m152_70 : decode prog_5_method_8_code 70 = .ok (.if_icmp .ge 7, 3) := by decide +kernel
theorem d_m152_73 : decode prog_5_method_8_code 73 = .ok (.iconst 0, 1) := by decide +kernel
theorem d_m152_74 : decode prog_5_method_8_code 74 = .ok (.goto 12, 3) := by decide +kernel
theorem d_m152_77 : decode prog_5_method_8_code 77 = .ok (.aload_n 0, 1) := by decide +kernel
theorem d_m152_78 : decode prog_5_method_8_code 78 = .ok (.getfield 72, 3) := by decide +kernel
theorem d_m152_81 : decode prog_5_method_8_code 81 = .ok (.aload_n 0, 1) := by decide +kernel
theorem d_m152_82 : decode prog_5_method_8_code 82 = .ok (.getfield 91, 3) := by decide +kernel
theorem d_m152_85 : decode prog_5_method_8_code 85 = .ok (.idiv, 1) := by decide +kernel
theorem d_m152_86 : decode prog_5_method_8_code 86 = .ok (.putfield 94, 3) := by decide +kernel
theorem d_m152_89 : decode prog_5_method_8_code 89 = .ok (.return_, 1) := by decide +kernel
theorem d_m156_0 : decode prog_5_method_9_code 0 = .ok (.iconst 0, 1) := by decide +kernel
theorem d_m156_1 : decode prog_5_method_9_code 1 = .ok (.istore 4, 2) := by decide +kernel
theorem d_m156_3 : decode prog_5_method_9_code 3 = .ok (.iload 4, 2) := by decide +kernel
theorem d_m156_5 : decode prog_5_method_9_code 5 = .ok (.aload_n 0, 1) := by decide +kernel
theorem d_m156_6 : decode prog_5_method_9_code 6 = .ok (.getfield 24, 3) := by decide +kernel
theorem d_m156_9 : decode prog_5_method_9_code 9 = .ok (.getfield 49, 3) := by decide +kernel
theorem d_m156_12 : decode prog_5_method_9_code 12 = .ok (.if_icmp .ge 61, 3) := by decide +kernel
theorem d_m156_15 : decode prog_5_method_9_code 15 = .ok (.iload_n 1, 1) := by decide +kernel
theorem d_m156_16 : decode prog_5_method_9_code 16 = .ok (.iload 4, 2) := by decide +kernel
theorem d_m156_18 : decode prog_5_method_9_code 18 = .ok (.ishr, 1) := by decide +kernel
theorem d_m156_19 : decode prog_5_method_9_code 19 = .ok (.iconst 1, 1) := by decide +kernel
theorem d_m156_20 : decode prog_5_method_9_code 20 = .ok (.iand, 1) := by decide +kernel
theorem d_m156_21 : decode prog_5_method_9_code 21 = .ok (.iconst 1, 1) := by decide +kernel
theorem d_m156_22 : decode prog_5_method_9_code 22 = .ok (.if_icmp .ne 45, 3) := by decide +kernel
theorem d_m156_25 : decode prog_5_method_9_code 25 = .ok (.aload_n 0, 1) := by decide +kernel
theorem d_m156_26 : decode prog_5_method_9_code 26 = .ok (.getfield 24, 3) := by decide +kernel
theorem d_m156_29 : decode prog_5_method_9_code 29 = .ok (.getfield 107, 3) := by decide +kernel
theorem d_m156_32 : decode prog_5_method_9_code 32 = .ok (.iload 4, 2) := by decide +kernel
theorem d_m156_34 : decode prog_5_method_9_code 34 = .ok (.iaload, 1) := by decide +kernel
theorem d_m156_35 : decode prog_5_method_9_code 35 = .ok (.istore 5, 2) := by decide +kernel
theorem d_m156_37 : decode prog_5_method_9_code 37 = .ok (.aload_n 0, 1) := by decide +kernel
theorem d_m156_38 : decode prog_5_method_9_code 38 = .ok (.getfield 24, 3) := by decide +kernel
theorem d_m156_41 : decode prog_5_method_9_code 41 = .ok (.getfield 110, 3) := by decide +kernel
theorem d_m156_44 : decode prog_5_method_9_code 44 = .ok (.iload 4, 2) := by decide +kernel
theorem d_m156_46 : decode prog_5_method_9_code 46 = .ok (.iaload, 1) := by decide +kernel
theorem d_m156_47 : decode prog_5_method_9_code 47 = .ok (.istore 6, 2) := by decide +kernel
theorem d_m156_49 : decode prog_5_method_9_code 49 = .ok (.aload_n 0, 1) := by decide +kernel
theorem d_m156_50 : decode prog_5_method_9_code 50 = .ok (.iload 4, 2) := by decide +kernel
theorem d_m156_52 : decode prog_5_method_9_code 52 = .ok (.iload_n 2, 1) := by decide +kernel
theorem d_m156_53 : decode prog_5_method_9_code 53 = .ok (.iload 5, 2) := by decide +kernel
theorem d_m156_55 : decode prog_5_method_9_code 55 = .ok (.imul, 1) := by decide +kernel
theorem d_m156_56 : decode prog_5_method_9_code 56 = .ok (.iload_n 3, 1) := by decide +kernel
theorem d_m156_57 : decode prog_5_method_9_code 57 = .ok (.iload 6, 2) := by decide +kernel
theorem d_m156_59 : decode prog_5_method_9_code 59 = .ok (.imul, 1) := by decide +kernel
theorem d_m156_60 : decode prog_5_method_9_code 60 = .ok (.iload 5, 2) := by decide +kernel
theorem d_m156_62 : decode prog_5_method_9_code 62 = .ok (.iload 6, 2) := by decide +kernel
theorem d_m156_64 : decode prog_5_method_9_code 64 = .ok (.invokevirtual 87, 3) := by decide +kernel
theorem d_m156_67 : decode prog_5_method_9_code 67 = .ok (.iinc 4 1, 3) := by decide +kernel
theorem d_m156_70 : decode prog_5_method_9_code 70 = .ok (.goto (-67), 3) := by decide +kernel
theorem d_m156_73 : decode prog_5_method_9_code 73 = .ok (.return_, 1) := by decide +kernel
theorem d_m225_0 : decode prog_7_method_1_code 0 = .ok (.aload_n 0, 1) := by decide +kernel
theorem d_m225_1 : decode prog_7_method_1_code 1 = .ok (.invokespecial 3, 3) := by decide +kernel
theorem d_m225_4 : decode prog_7_method_1_code 4 = .ok (.aload_n 0, 1) := by decide +kernel
theorem d_m225_5 : decode prog_7_method_1_code 5 = .ok (.bipush 17, 2) := by decide +kernel
theorem d_m225_7 : decode prog_7_method_1_code 7 = .ok (.newarray .int, 2) := by decide +kernel
theorem d_m225_9 : decode prog_7_method_1_code 9 = .ok (.putfield 9, 3) := by decide +kernel
theorem d_m225_12 : decode prog_7_method_1_code 12 = .ok (.aload_n 0, 1) := by decide +kernel
theorem d_m225_13 : decode prog_7_method_1_code 13 = .ok (.sipush 256, 3) := by decide +kernel
theorem d_m225_16 : decode prog_7_method_1_code 16 = .ok (.newarray .int, 2) := by decide +kernel
theorem d_m225_18 : decode prog_7_method_1_code 18 = .ok (.putfield 15, 3) := by decide +kernel
theorem d_m225_21 : decode prog_7_method_1_code 21 = .ok (.aload_n 0, 1) := by decide +kernel
theorem d_m225_22 : decode prog_7_method_1_code 22 = .ok (.sipush 256, 3) := by decide +kernel
theorem d_m225_25 : decode prog_7_method_1_code 25 = .ok (.newarray .byte, 2) := by decide +kernel
theorem d_m225_27 : decode prog_7_method_1_code 27 = .ok (.putfield 18, 3) := by decide +kernel
theorem d_m225_30 : decode prog_7_method_1_code 30 = .ok (.return_, 1) := by decide +kernel
theorem d_m249_0 : decode prog_12_method_1_code 0 = .ok (.aload_n 0, 1) := by decide +kernel
theorem d_m249_1 : decode prog_12_method_1_code 1 = .ok (.invokespecial 3, 3) := by decide +kernel
theorem d_m249_4 : decode prog_12_method_1_code 4 = .ok (.aload_n 0, 1) := by decide +kernel
theorem d_m249_5 : decode prog_12_method_1_code 5 = .ok (.sipush 256, 3) := by decide +kernel
theorem d_m249_8 : decode prog_12_method_1_code 8 = .ok (.newarray .int, 2) := by decide +kernel
theorem d_m249_10 : decode prog_12_method_1_code 10 = .ok (.putfield 9, 3) := by decide +kernel
theorem d_m249_13 : decode prog_12_method_1_code 13 = .ok (.aload_n 0, 1) := by decide +kernel
theorem d_m249_14 : decode prog_12_method_1_code 14 = .ok (.sipush 256, 3) := by decide +kernel
theorem d_m249_17 : decode prog_12_method_1_code 17 = .ok (.newarray .int, 2) := by decide +kernel
theorem d_m249_19 : decode prog_12_method_1_code 19 = .ok (.putfield 15, 3) := by decide +kernel
theorem d_m249_22 : decode prog_12_method_1_code 22 = .ok (.aload_n 0, 1) := by decide +kernel
theorem d_m249_23 : decode prog_12_method_1_code 23 = .ok (.bipush 17, 2) := by decide +kernel
theorem d_m249_25 : decode prog_12_method_1_code 25 = .ok (.newarray .int, 2) := by decide +kernel
theorem d_m249_27 : decode prog_12_method_1_code 27 = .ok (.putfield 18, 3) := by decide +kernel
theorem d_m249_30 : decode prog_12_method_1_code 30 = .ok (.aload_n 0, 1) := by decide +kernel
theorem d_m249_31 : decode prog_12_method_1_code 31 = .ok (.bipush 18, 2) := by decide +kernel
theorem d_m249_33 : decode prog_12_method_1_code 33 = .ok (.newarray .int, 2) := by decide +kernel
theorem d_m249_35 : decode prog_12_method_1_code 35 = .ok (.putfield 21, 3) := by decide +kernel
theorem d_m249_38 : decode prog_12_method_1_code 38 = .ok (.return_, 1) := by decide +kernel
theorem d_m276_0 : decode prog_11_method_1_code 0 = .ok (.aload_n 0, 1) := by decide +kernel
theorem d_m276_1 : decode prog_11_method_1_code 1 = .ok (.invokespecial 3, 3) := by decide +kernel
theorem d_m276_4 : decode prog_11_method_1_code 4 = .ok (.aload_n 0, 1) := by decide +kernel
theorem d_m276_5 : decode prog_11_method_1_code 5 = .ok (.bipush 64, 2) := by decide +kernel
theorem d_m276_7 : decode prog_11_method_1_code 7 = .ok (.newarray .byte, 2) := by decide +kernel
theorem d_m276_9 : decode prog_11_method_1_code 9 = .ok (.putfield 9, 3) := by decide +kernel
theorem d_m276_12 : decode prog_11_method_1_code 12 = .ok (.return_, 1) := by decide +kernel
theorem d_m293_0 : decode prog_4_method_1_code 0 = .ok (.aload_n 0, 1) := by decide +kernel
theorem d_m293_1 : decode prog_4_method_1_code 1 = .ok (.invokespecial 3, 3) := by decide +kernel
theorem d_m293_4 : decode prog_4_method_1_code 4 = .ok (.aload_n 0, 1) := by decide +kernel
theorem d_m293_5 : decode prog_4_method_1_code 5 = .ok (.sipush 2048, 3) := by decide +kernel
theorem d_m293_8 : decode prog_4_method_1_code 8 = .ok (.newarray .int, 2) := by decide +kernel
theorem d_m293_10 : decode prog_4_method_1_code 10 = .ok (.putfield 9, 3) := by decide +kernel
theorem d_m293_13 : decode prog_4_method_1_code 13 = .ok (.return_, 1) := by decide +kernel
theorem d_m296_0 : decode prog_10_method_1_code 0 = .ok (.aload_n 0, 1) := by decide +kernel
theorem d_m296_1 : decode prog_10_method_1_code 1 = .ok (.invokespecial 1, 3) := by decide +kernel
theorem d_m296_4 : decode prog_10_method_1_code 4 = .ok (.return_, 1) := by decide +kernel
theorem d_m311_0 : decode prog_3_method_1_code 0 = .ok (.aload_n 0, 1) := by decide +kernel
theorem d_m311_1 : decode prog_3_method_1_code 1 = .ok (.invokespecial 3, 3) := by decide +kernel
theorem d_m311_4 : decode prog_3_method_1_code 4 = .ok (.aload_n 0, 1) := by decide +kernel
theorem d_m311_5 : decode prog_3_method_1_code 5 = .ok (.aload_n 1, 1) := by decide +kernel
theorem d_m311_6 : decode prog_3_method_1_code 6 = .ok (.putfield 9, 3) := by decide +kernel
theorem d_m311_9 : decode prog_3_method_1_code 9 = .ok (.aload_n 0, 1) := by decide +kernel
theorem d_m311_10 : decode prog_3_method_1_code 10 = .ok (.aload_n 2, 1) := by decide +kernel
theorem d_m311_11 : decode prog_3_method_1_code 11 = .ok (.putfield 15, 3) := by decide +kernel
theorem d_m311_14 : decode prog_3_method_1_code 14 = .ok (.return_, 1) := by decide +kernel
theorem d_m341_0 : decode prog_8_method_1_code 0 = .ok (.aload_n 0, 1) := by decide +kernel
theorem d_m341_1 : decode prog_8_method_1_code 1 = .ok (.invokespecial 3, 3) := by decide +kernel
theorem d_m341_4 : decode prog_8_method_1_code 4 = .ok (.aload_n 0, 1) := by decide +kernel
theorem d_m341_5 : decode prog_8_method_1_code 5 = .ok (.iconst 4, 1) := by decide +kernel
theorem d_m341_6 : decode prog_8_method_1_code 6 = .ok (.newarray .int, 2) := by decide +kernel
theorem d_m341_8 : decode prog_8_method_1_code 8 = .ok (.putfield 9, 3) := by decide +kernel
theorem d_m341_11 : decode prog_8_method_1_code 11 = .ok (.aload_n 0, 1) := by decide +kernel
theorem d_m341_12 : decode prog_8_method_1_code 12 = .ok (.sipush 964, 3) := by decide +kernel
theorem d_m341_15 : decode prog_8_method_1_code 15 = .ok (.newarray .byte, 2) := by decide +kernel
theorem d_m341_17 : decode prog_8_method_1_code 17 = .ok (.putfield 15, 3) := by decide +kernel
theorem d_m341_20 : decode prog_8_method_1_code 20 = .ok (.aload_n 0, 1) := by decide +kernel
theorem d_m341_21 : decode prog_8_method_1_code 21 = .ok (.aload_n 1, 1) := by decide +kernel
theorem d_m341_22 : decode prog_8_method_1_code 22 = .ok (.putfield 19, 3) := by decide +kernel
theorem d_m341_25 : decode prog_8_method_1_code 25 = .ok (.aload_n 0, 1) := by decide +kernel
theorem d_m341_26 : decode prog_8_method_1_code 26 = .ok (.aload_n 2, 1) := by decide +kernel
theorem d_m341_27 : decode prog_8_method_1_code 27 = .ok (.putfield 23, 3) := by decide +kernel
theorem d_m341_30 : decode prog_8_method_1_code 30 = .ok (.aload_n 0, 1) := by decide +kernel
theorem d_m341_31 : decode prog_8_method_1_code 31 = .ok (.aload_n 3, 1) := by decide +kernel
theorem d_m341_32 : decode prog_8_method_1_code 32 = .ok (.putfield 27, 3) := by decide +kernel
theorem d_m341_35 : decode prog_8_method_1_code 35 = .ok (.return_, 1) := by decide +kernel
theorem d_m374_0 : decode prog_2_method_1_code 0 = .ok (.aload_n 0, 1) := by decide +kernel
theorem d_m374_1 : decode prog_2_method_1_code 1 = .ok (.invokespecial 3, 3) := by decide +kernel
theorem d_m374_4 : decode prog_2_method_1_code 4 = .ok (.aload_n 0, 1) := by decide +kernel
theorem d_m374_5 : decode prog_2_method_1_code 5 = .ok (.aload_n 1, 1) := by decide +kernel
theorem d_m374_6 : decode prog_2_method_1_code 6 = .ok (.putfield 9, 3) := by decide +kernel
theorem d_m374_9 : decode prog_2_method_1_code 9 = .ok (.return_, 1) := by decide +kernel
theorem d_m395_0 : decode prog_6_method_1_code 0 = .ok (.aload_n 0, 1) := by decide +kernel
theorem d_m395_1 : decode prog_6_method_1_code 1 = .ok (.invokespecial 3, 3) := by decide +kernel
theorem d_m395_4 : decode prog_6_method_1_code 4 = .ok (.aload_n 0, 1) := by decide +kernel
theorem d_m395_5 : decode prog_6_method_1_code 5 = .ok (.iconst 4, 1) := by decide +kernel
theorem d_m395_6 : decode prog_6_method_1_code 6 = .ok (.newarray .int, 2) := by decide +kernel
theorem d_m395_8 : decode prog_6_method_1_code 8 = .ok (.putfield 9, 3) := by decide +kernel
theorem d_m395_11 : decode prog_6_method_1_code 11 = .ok (.aload_n 0, 1) := by decide +kernel
theorem d_m395_12 : decode prog_6_method_1_code 12 = .ok (.aload_n 1, 1) := by decide +kernel
theorem d_m395_13 : decode prog_6_method_1_code 13 = .ok (.putfield 15, 3) := by decide +kernel
theorem d_m395_16 : decode prog_6_method_1_code 16 = .ok (.aload_n 0, 1) := by decide +kernel
theorem d_m395_17 : decode prog_6_method_1_code 17 = .ok (.aload_n 2, 1) := by decide +kernel
theorem d_m395_18 : decode prog_6_method_1_code 18 = .ok (.putfield 19, 3) := by decide +kernel
theorem d_m395_21 : decode prog_6_method_1_code 21 = .ok (.aload_n 0, 1) := by decide +kernel
theorem d_m395_22 : decode prog_6_method_1_code 22 = .ok (.aload_n 3, 1) := by decide +kernel
theorem d_m395_23 : decode prog_6_method_1_code 23 = .ok (.putfield 23, 3) := by decide +kernel
theorem d_m395_26 : decode prog_6_method_1_code 26 = .ok (.aload_n 0, 1) := by decide +kernel
theorem d_m395_27 : decode prog_6_method_1_code 27 = .ok (.aload 4, 2) := by decide +kernel
theorem d_m395_29 : decode prog_6_method_1_code 29 = .ok (.putfield 27, 3) := by decide +kernel
theorem d_m395_32 : decode prog_6_method_1_code 32 = .ok (.return_, 1) := by decide +kernel
theorem d_m450_0 : decode prog_1_method_2_code 0 = .ok (.iload_n 1, 1) := by decide +kernel
theorem d_m450_1 : decode prog_1_method_2_code 1 = .ok (.iload_n 2, 1) := by decide +kernel
theorem d_m450_2 : decode prog_1_method_2_code 2 = .ok (.iload_n 3, 1) := by decide +kernel
theorem d_m450_3 : decode prog_1_method_2_code 3 = .ok (.iload 4, 2) := by decide +kernel
theorem d_m450_5 : decode prog_1_method_2_code 5 = .ok (.invokestatic 85, 3) := by decide +kernel
