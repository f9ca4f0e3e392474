theorem d_m1085_20 : decode prog_14_method_35_code 20 = .ok (.getfield 16, 3) := by decide +kernel
theorem d_m1085_23 : decode prog_14_method_35_code 23 = .ok (.iload_n 1, 1) := by decide +kernel
theorem d_m1085_24 : decode prog_14_method_35_code 24 = .ok (.iaload, 1) := by decide +kernel
theorem d_m1085_25 : decode prog_14_method_35_code 25 = .ok (.imul, 1) := by decide +kernel
theorem d_m1085_26 : decode prog_14_method_35_code 26 = .ok (.iload_n 2, 1) := by decide +kernel
theorem d_m1085_27 : decode prog_14_method_35_code 27 = .ok (.aload_n 0, 1) := by decide +kernel
theorem d_m1085_28 : decode prog_14_method_35_code 28 = .ok (.getfield 22, 3) := by decide +kernel
theorem d_m1085_31 : decode prog_14_method_35_code 31 = .ok (.iload_n 1, 1) := by decide +kernel
theorem d_m1085_32 : decode prog_14_method_35_code 32 = .ok (.iaload, 1) := by decide +kernel
theorem d_m1085_33 : decode prog_14_method_35_code 33 = .ok (.irem, 1) := by decide +kernel
theorem d_m1085_34 : decode prog_14_method_35_code 34 = .ok (.iadd, 1) := by decide +kernel
theorem d_m1085_35 : decode prog_14_method_35_code 35 = .ok (.ireturn, 1) := by decide +kernel
theorem d_m1085_36 : decode prog_14_method_35_code 36 = .ok (.iload_n 2, 1) := by decide +kernel
theorem d_m1085_37 : decode prog_14_method_35_code 37 = .ok (.aload_n 0, 1) := by decide +kernel
theorem d_m1085_38 : decode prog_14_method_35_code 38 = .ok (.getfield 104, 3) := by decide +kernel
theorem d_m1085_41 : decode prog_14_method_35_code 41 = .ok (.irem, 1) := by decide +kernel
theorem d_m1085_42 : decode prog_14_method_35_code 42 = .ok (.aload_n 0, 1) := by decide +kernel
theorem d_m1085_43 : decode prog_14_method_35_code 43 = .ok (.getfield 7, 3) := by decide +kernel
theorem d_m1085_46 : decode prog_14_method_35_code 46 = .ok (.iload_n 1, 1) := by decide +kernel
theorem d_m1085_47 : decode prog_14_method_35_code 47 = .ok (.iaload, 1) := by decide +kernel
theorem d_m1085_48 : decode prog_14_method_35_code 48 = .ok (.imul, 1) := by decide +kernel
theorem d_m1085_49 : decode prog_14_method_35_code 49 = .ok (.iload_n 3, 1) := by decide +kernel
theorem d_m1085_50 : decode prog_14_method_35_code 50 = .ok (.aload_n 0, 1) := by decide +kernel
theorem d_m1085_51 : decode prog_14_method_35_code 51 = .ok (.getfield 7, 3) := by decide +kernel
theorem d_m1085_54 : decode prog_14_method_35_code 54 = .ok (.iload_n 1, 1) := by decide +kernel
theorem d_m1085_55 : decode prog_14_method_35_code 55 = .ok (.iaload, 1) := by decide +kernel
theorem d_m1085_56 : decode prog_14_method_35_code 56 = .ok (.irem, 1) := by decide +kernel
theorem d_m1085_57 : decode prog_14_method_35_code 57 = .ok (.iadd, 1) := by decide +kernel
theorem d_m1085_58 : decode prog_14_method_35_code 58 = .ok (.istore 4, 2) := by decide +kernel
theorem d_m1085_60 : decode prog_14_method_35_code 60 = .ok (.iload_n 2, 1) := by decide +kernel
theorem d_m1085_61 : decode prog_14_method_35_code 61 = .ok (.aload_n 0, 1) := by decide +kernel
theorem d_m1085_62 : decode prog_14_method_35_code 62 = .ok (.getfield 104, 3) := by decide +kernel
theorem d_m1085_65 : decode prog_14_method_35_code 65 = .ok (.idiv, 1) := by decide +kernel
theorem d_m1085_66 : decode prog_14_method_35_code 66 = .ok (.aload_n 0, 1) := by decide +kernel
theorem d_m1085_67 : decode prog_14_method_35_code 67 = .ok (.getfield 13, 3) := by decide +kernel
theorem d_m1085_70 : decode prog_14_method_35_code 70 = .ok (.iload_n 1, 1) := by decide +kernel
theorem d_m1085_71 : decode prog_14_method_35_code 71 = .ok (.iaload, 1) := by decide +kernel
theorem d_m1085_72 : decode prog_14_method_35_code 72 = .ok (.imul, 1) := by decide +kernel
theorem d_m1085_73 : decode prog_14_method_35_code 73 = .ok (.iload_n 3, 1) := by decide +kernel
theorem d_m1085_74 : decode prog_14_method_35_code 74 = .ok (.aload_n 0, 1) := by decide +kernel
theorem d_m1085_75 : decode prog_14_method_35_code 75 = .ok (.getfield 7, 3) := by decide +kernel
theorem d_m1085_78 : decode prog_14_method_35_code 78 = .ok (.iload_n 1, 1) := by decide +kernel
theorem d_m1085_79 : decode prog_14_method_35_code 79 = .ok (.iaload, 1) := by decide +kernel
theorem d_m1085_80 : decode prog_14_method_35_code 80 = .ok (.idiv, 1) := by decide +kernel
theorem d_m1085_81 : decode prog_14_method_35_code 81 = .ok (.iadd, 1) := by decide +kernel
theorem d_m1085_82 : decode prog_14_method_35_code 82 = .ok (.istore 5, 2) := by decide +kernel
theorem d_m1085_84 : decode prog_14_method_35_code 84 = .ok (.iload 5, 2) := by decide +kernel
theorem d_m1085_86 : decode prog_14_method_35_code 86 = .ok (.aload_n 0, 1) := by decide +kernel
theorem d_m1085_87 : decode prog_14_method_35_code 87 = .ok (.getfield 16, 3) := by decide +kernel
theorem d_m1085_90 : decode prog_14_method_35_code 90 = .ok (.iload_n 1, 1) := by decide +kernel
theorem d_m1085_91 : decode prog_14_method_35_code 91 = .ok (.iaload, 1) := by decide +kernel
theorem d_m1085_92 : decode prog_14_method_35_code 92 = .ok (.imul, 1) := by decide +kernel
theorem d_m1085_93 : decode prog_14_method_35_code 93 = .ok (.iload 4, 2) := by decide +kernel
theorem d_m1085_95 : decode prog_14_method_35_code 95 = .ok (.iadd, 1) := by decide +kernel
theorem d_m1085_96 : decode prog_14_method_35_code 96 = .ok (.ireturn, 1) := by decide +kernel
theorem d_m1089_0 : decode prog_14_method_34_code 0 = .ok (.aload_n 0, 1) := by decide +kernel
theorem d_m1089_1 : decode prog_14_method_34_code 1 = .ok (.getfield 113, 3) := by decide +kernel
theorem d_m1089_4 : decode prog_14_method_34_code 4 = .ok (.ifCond .ne 9, 3) := by decide +kernel
theorem d_m1089_7 : decode prog_14_method_34_code 7 = .ok (.aload_n 0, 1) := by decide +kernel
theorem d_m1089_8 : decode prog_14_method_34_code 8 = .ok (.iload_n 1, 1) := by decide +kernel
theorem d_m1089_9 : decode prog_14_method_34_code 9 = .ok (.iload_n 2, 1) := by decide +kernel
theorem d_m1089_10 : decode prog_14_method_34_code 10 = .ok (.invokevirtual 213, 3) := by decide +kernel
theorem d_m1089_13 : decode prog_14_method_34_code 13 = .ok (.aload_n 0, 1) := by decide +kernel
theorem d_m1089_14 : decode prog_14_method_34_code 14 = .ok (.getfield 116, 3) := by decide +kernel
theorem d_m1089_17 : decode prog_14_method_34_code 17 = .ok (.ifCond .le 34, 3) := by decide +kernel
theorem d_m1089_20 : decode prog_14_method_34_code 20 = .ok (.aload_n 0, 1) := by decide +kernel
theorem d_m1089_21 : decode prog_14_method_34_code 21 = .ok (.getfield 119, 3) := by decide +kernel
theorem d_m1089_24 : decode prog_14_method_34_code 24 = .ok (.ifCond .ne 27, 3) := by decide +kernel
theorem d_m1089_27 : decode prog_14_method_34_code 27 = .ok (.aload_n 0, 1) := by decide +kernel
theorem d_m1089_28 : decode prog_14_method_34_code 28 = .ok (.iload_n 1, 1) := by decide +kernel
theorem d_m1089_29 : decode prog_14_method_34_code 29 = .ok (.iload_n 2, 1) := by decide +kernel
theorem d_m1089_30 : decode prog_14_method_34_code 30 = .ok (.aload_n 0, 1) := by decide +kernel
theorem d_m1089_31 : decode prog_14_method_34_code 31 = .ok (.getfield 113, 3) := by decide +kernel
theorem d_m1089_34 : decode prog_14_method_34_code 34 = .ok (.ifCond .ne 7, 3) := by decide +kernel
theorem d_m1089_37 : decode prog_14_method_34_code 37 = .ok (.iconst 1, 1) := by decide +kernel
theorem d_m1089_38 : decode prog_14_method_34_code 38 = .ok (.goto 7, 3) := by decide +kernel
theorem d_m1089_41 : decode prog_14_method_34_code 41 = .ok (.aload_n 0, 1) := by decide +kernel
theorem d_m1089_42 : decode prog_14_method_34_code 42 = .ok (.getfield 113, 3) := by decide +kernel
theorem d_m1089_45 : decode prog_14_method_34_code 45 = .ok (.invokevirtual 216, 3) := by decide +kernel
theorem d_m1089_48 : decode prog_14_method_34_code 48 = .ok (.goto 16, 3) := by decide +kernel
theorem d_m1089_51 : decode prog_14_method_34_code 51 = .ok (.aload_n 0, 1) := by decide +kernel
theorem d_m1089_52 : decode prog_14_method_34_code 52 = .ok (.getfield 116, 3) := by decide +kernel
theorem d_m1089_55 : decode prog_14_method_34_code 55 = .ok (.ifCond .le 9, 3) := by decide +kernel
theorem d_m1089_58 : decode prog_14_method_34_code 58 = .ok (.aload_n 0, 1) := by decide +kernel
theorem d_m1089_59 : decode prog_14_method_34_code 59 = .ok (.iload_n 1, 1) := by decide +kernel
theorem d_m1089_60 : decode prog_14_method_34_code 60 = .ok (.iload_n 2, 1) := by decide +kernel
theorem d_m1089_61 : decode prog_14_method_34_code 61 = .ok (.invokevirtual 220, 3) := by decide +kernel
theorem d_m1089_64 : decode prog_14_method_34_code 64 = .ok (.return_, 1) := by decide +kernel
theorem d_m1093_0 : decode prog_14_method_29_code 0 = .ok (.bipush 64, 2) := by decide +kernel
theorem d_m1093_2 : decode prog_14_method_29_code 2 = .ok (.aload_n 0, 1) := by decide +kernel
theorem d_m1093_3 : decode prog_14_method_29_code 3 = .ok (.getfield 28, 3) := by decide +kernel
theorem d_m1093_6 : decode prog_14_method_29_code 6 = .ok (.iload_n 1, 1) := by decide +kernel
theorem d_m1093_7 : decode prog_14_method_29_code 7 = .ok (.iaload, 1) := by decide +kernel
theorem d_m1093_8 : decode prog_14_method_29_code 8 = .ok (.iload_n 2, 1) := by decide +kernel
theorem d_m1093_9 : decode prog_14_method_29_code 9 = .ok (.iadd, 1) := by decide +kernel
theorem d_m1093_10 : decode prog_14_method_29_code 10 = .ok (.imul, 1) := by decide +kernel
theorem d_m1093_11 : decode prog_14_method_29_code 11 = .ok (.istore_n 3, 1) := by decide +kernel
theorem d_m1093_12 : decode prog_14_method_29_code 12 = .ok (.aload_n 0, 1) := by decide +kernel
theorem d_m1093_13 : decode prog_14_method_29_code 13 = .ok (.getfield 119, 3) := by decide +kernel
theorem d_m1093_16 : decode prog_14_method_29_code 16 = .ok (.ifCond .le 21, 3) := by decide +kernel
theorem d_m1093_19 : decode prog_14_method_29_code 19 = .ok (.aload_n 0, 1) := by decide +kernel
theorem d_m1093_20 : decode prog_14_method_29_code 20 = .ok (.aload_n 0, 1) := by decide +kernel
theorem d_m1093_21 : decode prog_14_method_29_code 21 = .ok (.getfield 31, 3) := by decide +kernel
theorem d_m1093_24 : decode prog_14_method_29_code 24 = .ok (.iload_n 3, 1) := by decide +kernel
theorem d_m1093_25 : decode prog_14_method_29_code 25 = .ok (.saload, 1) := by decide +kernel
theorem d_m1093_26 : decode prog_14_method_29_code 26 = .ok (.aload_n 0, 1) := by decide +kernel
theorem d_m1093_27 : decode prog_14_method_29_code 27 = .ok (.getfield 122, 3) := by decide +kernel
theorem d_m1093_30 : decode prog_14_method_29_code 30 = .ok (.ishr, 1) := by decide +kernel
theorem d_m1093_31 : decode prog_14_method_29_code 31 = .ok (.iconst 1, 1) := by decide +kernel
theorem d_m1093_32 : decode prog_14_method_29_code 32 = .ok (.iand, 1) := by decide +kernel
theorem d_m1093_33 : decode prog_14_method_29_code 33 = .ok (.invokevirtual 175, 3) := by decide +kernel
theorem d_m1093_36 : decode prog_14_method_29_code 36 = .ok (.return_, 1) := by decide +kernel
theorem d_m1093_37 : decode prog_14_method_29_code 37 = .ok (.aload_n 0, 1) := by decide +kernel
theorem d_m1093_38 : decode prog_14_method_29_code 38 = .ok (.getfield 31, 3) := by decide +kernel
theorem d_m1093_41 : decode prog_14_method_29_code 41 = .ok (.iload_n 3, 1) := by decide +kernel
theorem d_m1093_42 : decode prog_14_method_29_code 42 = .ok (.saload, 1) := by decide +kernel
theorem d_m1093_43 : decode prog_14_method_29_code 43 = .ok (.aload_n 0, 1) := by decide +kernel
theorem d_m1093_44 : decode prog_14_method_29_code 44 = .ok (.getfield 122, 3) := by decide +kernel
theorem d_m1093_47 : decode prog_14_method_29_code 47 = .ok (.ishr, 1) := by decide +kernel
theorem d_m1093_48 : decode prog_14_method_29_code 48 = .ok (.istore 4, 2) := by decide +kernel
theorem d_m1093_50 : decode prog_14_method_29_code 50 = .ok (.iload 4, 2) := by decide +kernel
theorem d_m1093_52 : decode prog_14_method_29_code 52 = .ok (.aload_n 0, 1) := by decide +kernel
theorem d_m1093_53 : decode prog_14_method_29_code 53 = .ok (.getfield 69, 3) := by decide +kernel
theorem d_m1093_56 : decode prog_14_method_29_code 56 = .ok (.iload_n 1, 1) := by decide +kernel
theorem d_m1093_57 : decode prog_14_method_29_code 57 = .ok (.iaload, 1) := by decide +kernel
theorem d_m1093_58 : decode prog_14_method_29_code 58 = .ok (.isub, 1) := by decide +kernel
theorem d_m1093_59 : decode prog_14_method_29_code 59 = .ok (.istore 5, 2) := by decide +kernel
theorem d_m1093_61 : decode prog_14_method_29_code 61 = .ok (.aload_n 0, 1) := by decide +kernel
theorem d_m1093_62 : decode prog_14_method_29_code 62 = .ok (.getfield 69, 3) := by decide +kernel
theorem d_m1093_65 : decode prog_14_method_29_code 65 = .ok (.iload_n 1, 1) := by decide +kernel
theorem d_m1093_66 : decode prog_14_method_29_code 66 = .ok (.iload 4, 2) := by decide +kernel
theorem d_m1093_68 : decode prog_14_method_29_code 68 = .ok (.iastore, 1) := by decide +kernel
theorem d_m1093_69 : decode prog_14_method_29_code 69 = .ok (.aload_n 0, 1) := by decide +kernel
theorem d_m1093_70 : decode prog_14_method_29_code 70 = .ok (.aload_n 0, 1) := by decide +kernel
theorem d_m1093_71 : decode prog_14_method_29_code 71 = .ok (.getfield 53, 3) := by decide +kernel
theorem d_m1093_74 : decode prog_14_method_29_code 74 = .ok (.iload_n 1, 1) := by decide +kernel
theorem d_m1093_75 : decode prog_14_method_29_code 75 = .ok (.iaload, 1) := by decide +kernel
theorem d_m1093_76 : decode prog_14_method_29_code 76 = .ok (.iload 5, 2) := by decide +kernel
theorem d_m1093_78 : decode prog_14_method_29_code 78 = .ok (.invokestatic 182, 3) := by decide +kernel
theorem d_m1093_81 : decode prog_14_method_29_code 81 = .ok (.invokevirtual 188, 3) := by decide +kernel
theorem d_m1093_84 : decode prog_14_method_29_code 84 = .ok (.aload_n 0, 1) := by decide +kernel
theorem d_m1093_85 : decode prog_14_method_29_code 85 = .ok (.iload 5, 2) := by decide +kernel
theorem d_m1093_87 : decode prog_14_method_29_code 87 = .ok (.invokevirtual 197, 3) := by decide +kernel
theorem d_m1093_90 : decode prog_14_method_29_code 90 = .ok (.return_, 1) := by decide +kernel
theorem d_m1097_0 : decode prog_14_method_26_code 0 = .ok (.aload_n 0, 1) := by decide +kernel
theorem d_m1097_1 : decode prog_14_method_26_code 1 = .ok (.iload_n 1, 1) := by decide +kernel
theorem d_m1097_2 : decode prog_14_method_26_code 2 = .ok (.ifCond .le 7, 3) := by decide +kernel
theorem d_m1097_5 : decode prog_14_method_26_code 5 = .ok (.iload_n 1, 1) := by decide +kernel
theorem d_m1097_6 : decode prog_14_method_26_code 6 = .ok (.goto 6, 3) := by decide +kernel
theorem d_m1097_9 : decode prog_14_method_26_code 9 = .ok (.iload_n 1, 1) := by decide +kernel
theorem d_m1097_10 : decode prog_14_method_26_code 10 = .ok (.iconst 1, 1) := by decide +kernel
theorem d_m1097_11 : decode prog_14_method_26_code 11 = .ok (.isub, 1) := by decide +kernel
theorem d_m1097_12 : decode prog_14_method_26_code 12 = .ok (.iload_n 1, 1) := by decide +kernel
theorem d_m1097_13 : decode prog_14_method_26_code 13 = .ok (.invokestatic 182, 3) := by decide +kernel
theorem d_m1097_16 : decode prog_14_method_26_code 16 = .ok (.invokevirtual 178, 3) := by decide +kernel
theorem d_m1097_19 : decode prog_14_method_26_code 19 = .ok (.return_, 1) := by decide +kernel
theorem d_m1101_0 : decode prog_14_method_31_code 0 = .ok (.aload_n 0, 1) := by decide +kernel
theorem d_m1101_1 : decode prog_14_method_31_code 1 = .ok (.getfield 56, 3) := by decide +kernel
theorem d_m1101_4 : decode prog_14_method_31_code 4 = .ok (.iload_n 1, 1) := by decide +kernel
theorem d_m1101_5 : decode prog_14_method_31_code 5 = .ok (.iaload, 1) := by decide +kernel
theorem d_m1101_6 : decode prog_14_method_31_code 6 = .ok (.istore 4, 2) := by decide +kernel
theorem d_m1101_8 : decode prog_14_method_31_code 8 = .ok (.aload_n 0, 1) := by decide +kernel
theorem d_m1101_9 : decode prog_14_method_31_code 9 = .ok (.getfield 113, 3) := by decide +kernel
theorem d_m1101_12 : decode prog_14_method_31_code 12 = .ok (.ifCond .le 7, 3) := by decide +kernel
theorem d_m1101_15 : decode prog_14_method_31_code 15 = .ok (.iconst 1, 1) := by decide +kernel
theorem d_m1101_16 : decode prog_14_method_31_code 16 = .ok (.goto 4, 3) := by decide +kernel
theorem d_m1101_19 : decode prog_14_method_31_code 19 = .ok (.iconst 0, 1) := by decide +kernel
theorem d_m1101_20 : decode prog_14_method_31_code 20 = .ok (.istore 5, 2) := by decide +kernel
theorem d_m1101_22 : decode prog_14_method_31_code 22 = .ok (.iconst 0, 1) := by decide +kernel
theorem d_m1101_23 : decode prog_14_method_31_code 23 = .ok (.istore 6, 2) := by decide +kernel
theorem d_m1101_25 : decode prog_14_method_31_code 25 = .ok (.iload_n 3, 1) := by decide +kernel
theorem d_m1101_26 : decode prog_14_method_31_code 26 = .ok (.istore 7, 2) := by decide +kernel
theorem d_m1101_28 : decode prog_14_method_31_code 28 = .ok (.iload 7, 2) := by decide +kernel
theorem d_m1101_30 : decode prog_14_method_31_code 30 = .ok (.aload_n 0, 1) := by decide +kernel
theorem d_m1101_31 : decode prog_14_method_31_code 31 = .ok (.getfield 116, 3) := by decide +kernel
theorem d_m1101_34 : decode prog_14_method_31_code 34 = .ok (.if_icmp .gt 107, 3) := by decide +kernel
theorem d_m1101_37 : decode prog_14_method_31_code 37 = .ok (.aload_n 0, 1) := by decide +kernel
theorem d_m1101_38 : decode prog_14_method_31_code 38 = .ok (.getfield 31, 3) := by decide +kernel
theorem d_m1101_41 : decode prog_14_method_31_code 41 = .ok (.bipush 64, 2) := by decide +kernel
theorem d_m1101_43 : decode prog_14_method_31_code 43 = .ok (.aload_n 0, 1) := by decide +kernel
theorem d_m1101_44 : decode prog_14_method_31_code 44 = .ok (.getfield 28, 3) := by decide +kernel
theorem d_m1101_47 : decode prog_14_method_31_code 47 = .ok (.iload_n 1, 1) := by decide +kernel
theorem d_m1101_48 : decode prog_14_method_31_code 48 = .ok (.iaload, 1) := by decide +kernel
theorem d_m1101_49 : decode prog_14_method_31_code 49 = .ok (.iload_n 2, 1) := by decide +kernel
theorem d_m1101_50 : decode prog_14_method_31_code 50 = .ok (.iadd, 1) := by decide +kernel
theorem d_m1101_51 : decode prog_14_method_31_code 51 = .ok (.imul, 1) := by decide +kernel
theorem d_m1101_52 : decode prog_14_method_31_code 52 = .ok (.iload 7, 2) := by decide +kernel
theorem d_m1101_54 : decode prog_14_method_31_code 54 = .ok (.iadd, 1) := by decide +kernel
theorem d_m1101_55 : decode prog_14_method_31_code 55 = .ok (.saload, 1) := by decide +kernel
theorem d_m1101_56 : decode prog_14_method_31_code 56 = .ok (.aload_n 0, 1) := by decide +kernel
theorem d_m1101_57 : decode prog_14_method_31_code 57 = .ok (.getfield 122, 3) := by decide +kernel
theorem d_m1101_60 : decode prog_14_method_31_code 60 = .ok (.invokestatic 200, 3) := by decide +kernel
theorem d_m1101_63 : decode prog_14_method_31_code 63 = .ok (.istore 8, 2) := by decide +kernel
theorem d_m1101_65 : decode prog_14_method_31_code 65 = .ok (.iload 8, 2) := by decide +kernel
theorem d_m1101_67 : decode prog_14_method_31_code 67 = .ok (.ifCond .ne 9, 3) := by decide +kernel
theorem d_m1101_70 : decode prog_14_method_31_code 70 = .ok (.iinc 6 1, 3) := by decide +kernel
theorem d_m1101_73 : decode prog_14_method_31_code 73 = .ok (.goto 62, 3) := by decide +kernel
theorem d_m1101_76 : decode prog_14_method_31_code 76 = .ok (.iload 5, 2) := by decide +kernel
theorem d_m1101_78 : decode prog_14_method_31_code 78 = .ok (.ifCond .eq 9, 3) := by decide +kernel
theorem d_m1101_81 : decode prog_14_method_31_code 81 = .ok (.aload_n 0, 1) := by decide +kernel
theorem d_m1101_82 : decode prog_14_method_31_code 82 = .ok (.iload 4, 2) := by decide +kernel
theorem d_m1101_84 : decode prog_14_method_31_code 84 = .ok (.invokevirtual 203, 3) := by decide +kernel
theorem d_m1101_87 : decode prog_14_method_31_code 87 = .ok (.iload 6, 2) := by decide +kernel
theorem d_m1101_89 : decode prog_14_method_31_code 89 = .ok (.bipush 15, 2) := by decide +kernel
theorem d_m1101_91 : decode prog_14_method_31_code 91 = .ok (.if_icmp .le 18, 3) := by decide +kernel
theorem d_m1101_94 : decode prog_14_method_31_code 94 = .ok (.aload_n 0, 1) := by decide +kernel
theorem d_m1101_95 : decode prog_14_method_31_code 95 = .ok (.iload 4, 2) := by decide +kernel
theorem d_m1101_97 : decode prog_14_method_31_code 97 = .ok (.sipush 240, 3) := by decide +kernel
theorem d_m1101_100 : decode prog_14_method_31_code 100 = .ok (.invokevirtual 188, 3) := by decide +kernel
theorem d_m1101_103 : decode prog_14_method_31_code 103 = .ok (.iinc 6 (-16), 3) := by decide +kernel
theorem d_m1101_106 : decode prog_14_method_31_code 106 = .ok (.goto (-19), 3) := by decide +kernel
theorem d_m1101_109 : decode prog_14_method_31_code 109 = .ok (.aload_n 0, 1) := by decide +kernel
theorem d_m1101_110 : decode prog_14_method_31_code 110 = .ok (.iload 4, 2) := by decide +kernel
theorem d_m1101_112 : decode prog_14_method_31_code 112 = .ok (.bipush 16, 2) := by decide +kernel
theorem d_m1101_114 : decode prog_14_method_31_code 114 = .ok (.iload 6, 2) := by decide +kernel
theorem d_m1101_116 : decode prog_14_method_31_code 116 = .ok (.imul, 1) := by decide +kernel
theorem d_m1101_117 : decode prog_14_method_31_code 117 = .ok (.iload 8, 2) := by decide +kernel
theorem d_m1101_119 : decode prog_14_method_31_code 119 = .ok (.invokestatic 182, 3) := by decide +kernel
theorem d_m1101_122 : decode prog_14_method_31_code 122 = .ok (.iadd, 1) := by decide +kernel
theorem d_m1101_123 : decode prog_14_method_31_code 123 = .ok (.invokevirtual 188, 3) := by decide +kernel
theorem d_m1101_126 : decode prog_14_method_31_code 126 = .ok (.aload_n 0, 1) := by decide +kernel
theorem d_m1101_127 : decode prog_14_method_31_code 127 = .ok (.iload 8, 2) := by decide +kernel
theorem d_m1101_129 : decode prog_14_method_31_code 129 = .ok (.invokevirtual 197, 3) := by decide +kernel
theorem d_m1101_132 : decode prog_14_method_31_code 132 = .ok (.iconst 0, 1) := by decide +kernel
theorem d_m1101_133 : decode prog_14_method_31_code 133 = .ok (.istore 6, 2) := by decide +kernel
theorem d_m1101_135 : decode prog_14_method_31_code 135 = .ok (.iinc 7 1, 3) := by decide +kernel
theorem d_m1101_138 : decode prog_14_method_31_code 138 = .ok (.goto (-110), 3) := by decide +kernel
theorem d_m1101_141 : decode prog_14_method_31_code 141 = .ok (.iload 6, 2) := by decide +kernel
theorem d_m1101_143 : decode prog_14_method_31_code 143 = .ok (.ifCond .le 15, 3) := by decide +kernel
theorem d_m1101_146 : decode prog_14_method_31_code 146 = .ok (.iload 5, 2) := by decide +kernel
theorem d_m1101_148 : decode prog_14_method_31_code 148 = .ok (.ifCond .ne 10, 3) := by decide +kernel
theorem d_m1101_151 : decode prog_14_method_31_code 151 = .ok (.aload_n 0, 1) := by decide +kernel
theorem d_m1101_152 : decode prog_14_method_31_code 152 = .ok (.iload 4, 2) := by decide +kernel
theorem d_m1101_154 : decode prog_14_method_31_code 154 = .ok (.iconst 0, 1) := by decide +kernel
theorem d_m1101_155 : decode prog_14_method_31_code 155 = .ok (.invokevirtual 188, 3) := by decide +kernel
theorem d_m1101_158 : decode prog_14_method_31_code 158 = .ok (.iload 6, 2) := by decide +kernel
theorem d_m1101_160 : decode prog_14_method_31_code 160 = .ok (.ifCond .le 34, 3) := by decide +kernel
theorem d_m1101_163 : decode prog_14_method_31_code 163 = .ok (.iload 5, 2) := by decide +kernel
theorem d_m1101_165 : decode prog_14_method_31_code 165 = .ok (.ifCond .eq 29, 3) := by decide +kernel
theorem d_m1101_168 : decode prog_14_method_31_code 168 = .ok (.aload_n 0, 1) := by decide +kernel
theorem d_m1101_169 : decode prog_14_method_31_code 169 = .ok (.dup, 1) := by decide +kernel
theorem d_m1101_170 : decode prog_14_method_31_code 170 = .ok (.getfield 185, 3) := by decide +kernel
theorem d_m1101_173 : decode prog_14_method_31_code 173 = .ok (.iconst 1, 1) := by decide +kernel
theorem d_m1101_174 : decode prog_14_method_31_code 174 = .ok (.iadd, 1) := by decide +kernel
theorem d_m1101_175 : decode prog_14_method_31_code 175 = .ok (.putfield 185, 3) := by decide +kernel
theorem d_m1101_178 : decode prog_14_method_31_code 178 = .ok (.aload_n 0, 1) := by decide +kernel
theorem d_m1101_179 : decode prog_14_method_31_code 179 = .ok (.getfield 185, 3) := by decide +kernel
theorem d_m1101_182 : decode prog_14_method_31_code 182 = .ok (.sipush 32767, 3) := by decide +kernel
theorem d_m1101_185 : decode prog_14_method_31_code 185 = .ok (.if_icmp .ne 9, 3) := by decide +kernel
theorem d_m1101_188 : decode prog_14_method_31_code 188 = .ok (.aload_n 0, 1) := by decide +kernel
theorem d_m1101_189 : decode prog_14_method_31_code 189 = .ok (.iload 4, 2) := by decide +kernel
theorem d_m1101_191 : decode prog_14_method_31_code 191 = .ok (.invokevirtual 203, 3) := by decide +kernel
theorem d_m1101_194 : decode prog_14_method_31_code 194 = .ok (.return_, 1) := by decide +kernel
theorem d_m1104_0 : decode prog_14_method_30_code 0 = .ok (.iload_n 0, 1) := by decide +kernel
theorem d_m1104_1 : decode prog_14_method_30_code 1 = .ok (.ifCond .ge 11, 3) := by decide +kernel
theorem d_m1104_4 : decode prog_14_method_30_code 4 = .ok (.iload_n 0, 1) := by decide +kernel
theorem d_m1104_5 : decode prog_14_method_30_code 5 = .ok (.ineg, 1) := by decide +kernel
theorem d_m1104_6 : decode prog_14_method_30_code 6 = .ok (.iload_n 1, 1) := by decide +kernel
theorem d_m1104_7 : decode prog_14_method_30_code 7 = .ok (.ishr, 1) := by decide +kernel
theorem d_m1104_8 : decode prog_14_method_30_code 8 = .ok (.ineg, 1) := by decide +kernel
theorem d_m1104_9 : decode prog_14_method_30_code 9 = .ok (.goto 6, 3) := by decide +kernel
theorem d_m1104_12 : decode prog_14_method_30_code 12 = .ok (.iload_n 0, 1) := by decide +kernel
theorem d_m1104_13 : decode prog_14_method_30_code 13 = .ok (.iload_n 1, 1) := by decide +kernel
theorem d_m1104_14 : decode prog_14_method_30_code 14 = .ok (.ishr, 1) := by decide +kernel
theorem d_m1104_15 : decode prog_14_method_30_code 15 = .ok (.ireturn, 1) := by decide +kernel
theorem d_m1108_0 : decode prog_14_method_33_code 0 = .ok (.aload_n 0, 1) := by decide +kernel
theorem d_m1108_1 : decode prog_14_method_33_code 1 = .ok (.getfield 56, 3) := by decide +kernel
theorem d_m1108_4 : decode prog_14_method_33_code 4 = .ok (.iload_n 1, 1) := by decide +kernel
theorem d_m1108_5 : decode prog_14_method_33_code 5 = .ok (.iaload, 1) := by decide +kernel
theorem d_m1108_6 : decode prog_14_method_33_code 6 = .ok (.istore_n 3, 1) := by decide +kernel
theorem d_m1108_7 : decode prog_14_method_33_code 7 = .ok (.iconst (-1), 1) := by decide +kernel
theorem d_m1108_8 : decode prog_14_method_33_code 8 = .ok (.istore 4, 2) := by decide +kernel
theorem d_m1108_10 : decode prog_14_method_33_code 10 = .ok (.aload_n 0, 1) := by decide +kernel
theorem d_m1108_11 : decode prog_14_method_33_code 11 = .ok (.getfield 113, 3) := by decide +kernel
theorem d_m1108_14 : decode prog_14_method_33_code 14 = .ok (.istore 5, 2) := by decide +kernel
theorem d_m1108_16 : decode prog_14_method_33_code 16 = .ok (.iload 5, 2) := by decide +kernel
theorem d_m1108_18 : decode prog_14_method_33_code 18 = .ok (.aload_n 0, 1) := by decide +kernel
theorem d_m1108_19 : decode prog_14_method_33_code 19 = .ok (.getfield 116, 3) := by decide +kernel
theorem d_m1108_22 : decode prog_14_method_33_code 22 = .ok (.if_icmp .gt 30, 3) := by decide +kernel
theorem d_m1108_25 : decode prog_14_method_33_code 25 = .ok (.aload_n 0, 1) := by decide +kernel
theorem d_m1108_26 : decode prog_14_method_33_code 26 = .ok (.iload_n 1, 1) := by decide +kernel
theorem d_m1108_27 : decode prog_14_method_33_code 27 = .ok (.iload_n 2, 1) := by decide +kernel
theorem d_m1108_28 : decode prog_14_method_33_code 28 = .ok (.iload 5, 2) := by decide +kernel
theorem d_m1108_30 : decode prog_14_method_33_code 30 = .ok (.invokevirtual 206, 3) := by decide +kernel
theorem d_m1108_33 : decode prog_14_method_33_code 33 = .ok (.iconst 1, 1) := by decide +kernel
theorem d_m1108_34 : decode prog_14_method_33_code 34 = .ok (.if_icmp .ne 8, 3) := by decide +kernel
theorem d_m1108_37 : decode prog_14_method_33_code 37 = .ok (.iload 5, 2) := by decide +kernel
theorem d_m1108_39 : decode prog_14_method_33_code 39 = .ok (.goto 5, 3) := by decide +kernel
theorem d_m1108_42 : decode prog_14_method_33_code 42 = .ok (.iload 4, 2) := by decide +kernel
theorem d_m1108_44 : decode prog_14_method_33_code 44 = .ok (.istore 4, 2) := by decide +kernel
theorem d_m1108_46 : decode prog_14_method_33_code 46 = .ok (.iinc 5 1, 3) := by decide +kernel
theorem d_m1108_49 : decode prog_14_method_33_code 49 = .ok (.goto (-33), 3) := by decide +kernel
theorem d_m1108_52 : decode prog_14_method_33_code 52 = .ok (.iconst 0, 1) := by decide +kernel
theorem d_m1108_53 : decode prog_14_method_33_code 53 = .ok (.istore 5, 2) := by decide +kernel
theorem d_m1108_55 : decode prog_14_method_33_code 55 = .ok (.aload_n 0, 1) := by decide +kernel
theorem d_m1108_56 : decode prog_14_method_33_code 56 = .ok (.iconst 0, 1) := by decide +kernel
theorem d_m1108_57 : decode prog_14_method_33_code 57 = .ok (.putfield 194, 3) := by decide +kernel
theorem d_m1108_60 : decode prog_14_method_33_code 60 = .ok (.aload_n 0, 1) := by decide +kernel
theorem d_m1108_61 : decode prog_14_method_33_code 61 = .ok (.getfield 113, 3) := by decide +kernel
theorem d_m1108_64 : decode prog_14_method_33_code 64 = .ok (.istore 6, 2) := by decide +kernel
theorem d_m1108_66 : decode prog_14_method_33_code 66 = .ok (.iload 6, 2) := by decide +kernel
theorem d_m1108_68 : decode prog_14_method_33_code 68 = .ok (.aload_n 0, 1) := by decide +kernel
theorem d_m1108_69 : decode prog_14_method_33_code 69 = .ok (.getfield 116, 3) := by decide +kernel
theorem d_m1108_72 : decode prog_14_method_33_code 72 = .ok (.if_icmp .gt 155, 3) := by decide +kernel
theorem d_m1108_75 : decode prog_14_method_33_code 75 = .ok (.aload_n 0, 1) := by decide +kernel
theorem d_m1108_76 : decode prog_14_method_33_code 76 = .ok (.iload_n 1, 1) := by decide +kernel
theorem d_m1108_77 : decode prog_14_method_33_code 77 = .ok (.iload_n 2, 1) := by decide +kernel
theorem d_m1108_78 : decode prog_14_method_33_code 78 = .ok (.iload 6, 2) := by decide +kernel
theorem d_m1108_80 : decode prog_14_method_33_code 80 = .ok (.invokevirtual 206, 3) := by decide +kernel
theorem d_m1108_83 : decode prog_14_method_33_code 83 = .ok (.istore 7, 2) := by decide +kernel
theorem d_m1108_85 : decode prog_14_method_33_code 85 = .ok (.iload 7, 2) := by decide +kernel
theorem d_m1108_87 : decode prog_14_method_33_code 87 = .ok (.ifCond .ne 9, 3) := by decide +kernel
theorem d_m1108_90 : decode prog_14_method_33_code 90 = .ok (.iinc 5 1, 3) := by decide +kernel
theorem d_m1108_93 : decode prog_14_method_33_code 93 = .ok (.goto 128, 3) := by decide +kernel
theorem d_m1108_96 : decode prog_14_method_33_code 96 = .ok (.iload 5, 2) := by decide +kernel
theorem d_m1108_98 : decode prog_14_method_33_code 98 = .ok (.bipush 15, 2) := by decide +kernel
theorem d_m1108_100 : decode prog_14_method_33_code 100 = .ok (.if_icmp .le 33, 3) := by decide +kernel
theorem d_m1108_103 : decode prog_14_method_33_code 103 = .ok (.iload 6, 2) := by decide +kernel
theorem d_m1108_105 : decode prog_14_method_33_code 105 = .ok (.iload 4, 2) := by decide +kernel
theorem d_m1108_107 : decode prog_14_method_33_code 107 = .ok (.if_icmp .gt 26, 3) := by decide +kernel
theorem d_m1108_110 : decode prog_14_method_33_code 110 = .ok (.aload_n 0, 1) := by decide +kernel
theorem d_m1108_111 : decode prog_14_method_33_code 111 = .ok (.iload_n 3, 1) := by decide +kernel
theorem d_m1108_112 : decode prog_14_method_33_code 112 = .ok (.invokevirtual 203, 3) := by decide +kernel
theorem d_m1108_115 : decode prog_14_method_33_code 115 = .ok (.aload_n 0, 1) := by decide +kernel
theorem d_m1108_116 : decode prog_14_method_33_code 116 = .ok (.iload_n 3, 1) := by decide +kernel
theorem d_m1108_117 : decode prog_14_method_33_code 117 = .ok (.sipush 240, 3) := by decide +kernel
theorem d_m1108_120 : decode prog_14_method_33_code 120 = .ok (.invokevirtual 188, 3) := by decide +kernel
theorem d_m1108_123 : decode prog_14_method_33_code 123 = .ok (.aload_n 0, 1) := by decide +kernel
theorem d_m1108_124 : decode prog_14_method_33_code 124 = .ok (.invokevirtual 210, 3) := by decide +kernel
theorem d_m1108_127 : decode prog_14_method_33_code 127 = .ok (.iinc 5 (-16), 3) := by decide +kernel
theorem d_m1108_130 : decode prog_14_method_33_code 130 = .ok (.goto (-34), 3) := by decide +kernel
theorem d_m1108_133 : decode prog_14_method_33_code 133 = .ok (.iload 7, 2) := by decide +kernel
theorem d_m1108_135 : decode prog_14_method_33_code 135 = .ok (.iconst 1, 1) := by decide +kernel
theorem d_m1108_136 : decode prog_14_method_33_code 136 = .ok (.if_icmp .le 30, 3) := by decide +kernel
theorem d_m1108_139 : decode prog_14_method_33_code 139 = .ok (.aload_n 0, 1) := by decide +kernel
theorem d_m1108_140 : decode prog_14_method_33_code 140 = .ok (.getfield 75, 3) := by decide +kernel
theorem d_m1108_143 : decode prog_14_method_33_code 143 = .ok (.aload_n 0, 1) := by decide +kernel
theorem d_m1108_144 : decode prog_14_method_33_code 144 = .ok (.getfield 194, 3) := by decide +kernel
theorem d_m1108_147 : decode prog_14_method_33_code 147 = .ok (.iload 7, 2) := by decide +kernel
theorem d_m1108_149 : decode prog_14_method_33_code 149 = .ok (.iconst 1, 1) := by decide +kernel
theorem d_m1108_150 : decode prog_14_method_33_code 150 = .ok (.iand, 1) := by decide +kernel
theorem d_m1108_151 : decode prog_14_method_33_code 151 = .ok (.i2b, 1) := by decide +kernel
theorem d_m1108_152 : decode prog_14_method_33_code 152 = .ok (.bastore, 1) := by decide +kernel
theorem d_m1108_153 : decode prog_14_method_33_code 153 = .ok (.aload_n 0, 1) := by decide +kernel
theorem d_m1108_154 : decode prog_14_method_33_code 154 = .ok (.dup, 1) := by decide +kernel
theorem d_m1108_155 : decode prog_14_method_33_code 155 = .ok (.getfield 194, 3) := by decide +kernel
theorem d_m1108_158 : decode prog_14_method_33_code 158 = .ok (.iconst 1, 1) := by decide +kernel
theorem d_m1108_159 : decode prog_14_method_33_code 159 = .ok (.iadd, 1) := by decide +kernel
theorem d_m1108_160 : decode prog_14_method_33_code 160 = .ok (.putfield 194, 3) := by decide +kernel
theorem d_m1108_163 : decode prog_14_method_33_code 163 = .ok (.goto 58, 3) := by decide +kernel
theorem d_m1108_166 : decode prog_14_method_33_code 166 = .ok (.aload_n 0, 1) := by decide +kernel
theorem d_m1108_167 : decode prog_14_method_33_code 167 = .ok (.iload_n 3, 1) := by decide +kernel
theorem d_m1108_168 : decode prog_14_method_33_code 168 = .ok (.invokevirtual 203, 3) := by decide +kernel
theorem d_m1108_171 : decode prog_14_method_33_code 171 = .ok (.aload_n 0, 1) := by decide +kernel
theorem d_m1108_172 : decode prog_14_method_33_code 172 = .ok (.iload_n 3, 1) := by decide +kernel
theorem d_m1108_173 : decode prog_14_method_33_code 173 = .ok (.bipush 16, 2) := by decide +kernel
theorem d_m1108_175 : decode prog_14_method_33_code 175 = .ok (.iload 5, 2) := by decide +kernel
theorem d_m1108_177 : decode prog_14_method_33_code 177 = .ok (.imul, 1) := by decide +kernel
theorem d_m1108_178 : decode prog_14_method_33_code 178 = .ok (.iconst 1, 1) := by decide +kernel
theorem d_m1108_179 : decode prog_14_method_33_code 179 = .ok (.iadd, 1) := by decide +kernel
theorem d_m1108_180 : decode prog_14_method_33_code 180 = .ok (.invokevirtual 188, 3) := by decide +kernel
theorem d_m1108_183 : decode prog_14_method_33_code 183 = .ok (.aload_n 0, 1) := by decide +kernel
theorem d_m1108_184 : decode prog_14_method_33_code 184 = .ok (.aload_n 0, 1) := by decide +kernel
theorem d_m1108_185 : decode prog_14_method_33_code 185 = .ok (.getfield 31, 3) := by decide +kernel
theorem d_m1108_188 : decode prog_14_method_33_code 188 = .ok (.bipush 64, 2) := by decide +kernel
theorem d_m1108_190 : decode prog_14_method_33_code 190 = .ok (.aload_n 0, 1) := by decide +kernel
theorem d_m1108_191 : decode prog_14_method_33_code 191 = .ok (.getfield 28, 3) := by decide +kernel
theorem d_m1108_194 : decode prog_14_method_33_code 194 = .ok (.iload_n 1, 1) := by decide +kernel
theorem d_m1108_195 : decode prog_14_method_33_code 195 = .ok (.iaload, 1) := by decide +kernel
theorem d_m1108_196 : decode prog_14_method_33_code 196 = .ok (.iload_n 2, 1) := by decide +kernel
theorem d_m1108_197 : decode prog_14_method_33_code 197 = .ok (.iadd, 1) := by decide +kernel
theorem d_m1108_198 : decode prog_14_method_33_code 198 = .ok (.imul, 1) := by decide +kernel
theorem d_m1108_199 : decode prog_14_method_33_code 199 = .ok (.iload 6, 2) := by decide +kernel
theorem d_m1108_201 : decode prog_14_method_33_code 201 = .ok (.iadd, 1) := by decide +kernel
theorem d_m1108_202 : decode prog_14_method_33_code 202 = .ok (.saload, 1) := by decide +kernel
theorem d_m1108_203 : decode prog_14_method_33_code 203 = .ok (.ifCond .ge 7, 3) := by decide +kernel
theorem d_m1108_206 : decode prog_14_method_33_code 206 = .ok (.iconst 0, 1) := by decide +kernel
theorem d_m1108_207 : decode prog_14_method_33_code 207 = .ok (.goto 4, 3) := by decide +kernel
theorem d_m1108_210 : decode prog_14_method_33_code 210 = .ok (.iconst 1, 1) := by decide +kernel
theorem d_m1108_211 : decode prog_14_method_33_code 211 = .ok (.invokevirtual 175, 3) := by decide +kernel
theorem d_m1108_214 : decode prog_14_method_33_code 214 = .ok (.aload_n 0, 1) := by decide +kernel
theorem d_m1108_215 : decode prog_14_method_33_code 215 = .ok (.invokevirtual 210, 3) := by decide +kernel
theorem d_m1108_218 : decode prog_14_method_33_code 218 = .ok (.iconst 0, 1) := by decide +kernel
theorem d_m1108_219 : decode prog_14_method_33_code 219 = .ok (.istore 5, 2) := by decide +kernel
theorem d_m1108_221 : decode prog_14_method_33_code 221 = .ok (.iinc 6 1, 3) := by decide +kernel
theorem d_m1108_224 : decode prog_14_method_33_code 224 = .ok (.goto (-158), 3) := by decide +kernel
theorem d_m1108_227 : decode prog_14_method_33_code 227 = .ok (.iload 5, 2) := by decide +kernel
theorem d_m1108_229 : decode prog_14_method_33_code 229 = .ok (.ifCond .gt 10, 3) := by decide +kernel
theorem d_m1108_232 : decode prog_14_method_33_code 232 = .ok (.aload_n 0, 1) := by decide +kernel
theorem d_m1108_233 : decode prog_14_method_33_code 233 = .ok (.getfield 194, 3) := by decide +kernel
theorem d_m1108_236 : decode prog_14_method_33_code 236 = .ok (.ifCond .le 87, 3) := by decide +kernel
theorem d_m1108_239 : decode prog_14_method_33_code 239 = .ok (.aload_n 0, 1) := by decide +kernel
theorem d_m1108_240 : decode prog_14_method_33_code 240 = .ok (.dup, 1) := by decide +kernel
theorem d_m1108_241 : decode prog_14_method_33_code 241 = .ok (.getfield 185, 3) := by decide +kernel
theorem d_m1108_244 : decode prog_14_method_33_code 244 = .ok (.iconst 1, 1) := by decide +kernel
theorem d_m1108_245 : decode prog_14_method_33_code 245 = .ok (.iadd, 1) := by decide +kernel
theorem d_m1108_246 : decode prog_14_method_33_code 246 = .ok (.putfield 185, 3) := by decide +kernel
theorem d_m1108_249 : decode prog_14_method_33_code 249 = .ok (.iconst 0, 1) := by decide +kernel
theorem d_m1108_250 : decode prog_14_method_33_code 250 = .ok (.istore 6, 2) := by decide +kernel
theorem d_m1108_252 : decode prog_14_method_33_code 252 = .ok (.iload 6, 2) := by decide +kernel
