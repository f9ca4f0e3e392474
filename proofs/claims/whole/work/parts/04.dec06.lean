theorem d_m681_29 : decode prog_2_method_6_code 29 = .ok (.return_, 1) := by decide +kernel
theorem d_m686_0 : decode prog_2_method_7_code 0 = .ok (.aload_n 0, 1) := by decide +kernel
theorem d_m686_1 : decode prog_2_method_7_code 1 = .ok (.getfield 9, 3) := by decide +kernel
theorem d_m686_4 : decode prog_2_method_7_code 4 = .ok (.aload_n 0, 1) := by decide +kernel
theorem d_m686_5 : decode prog_2_method_7_code 5 = .ok (.getfield 15, 3) := by decide +kernel
theorem d_m686_8 : decode prog_2_method_7_code 8 = .ok (.invokevirtual 54, 3) := by decide +kernel
theorem d_m686_11 : decode prog_2_method_7_code 11 = .ok (.sipush 255, 3) := by decide +kernel
theorem d_m686_14 : decode prog_2_method_7_code 14 = .ok (.if_icmp .ne 20, 3) := by decide +kernel
theorem d_m686_17 : decode prog_2_method_7_code 17 = .ok (.aload_n 0, 1) := by decide +kernel
theorem d_m686_18 : decode prog_2_method_7_code 18 = .ok (.getfield 9, 3) := by decide +kernel
theorem d_m686_21 : decode prog_2_method_7_code 21 = .ok (.aload_n 0, 1) := by decide +kernel
theorem d_m686_22 : decode prog_2_method_7_code 22 = .ok (.getfield 15, 3) := by decide +kernel
theorem d_m686_25 : decode prog_2_method_7_code 25 = .ok (.iconst 1, 1) := by decide +kernel
theorem d_m686_26 : decode prog_2_method_7_code 26 = .ok (.iadd, 1) := by decide +kernel
theorem d_m686_27 : decode prog_2_method_7_code 27 = .ok (.invokevirtual 54, 3) := by decide +kernel
theorem d_m686_30 : decode prog_2_method_7_code 30 = .ok (.iload_n 1, 1) := by decide +kernel
theorem d_m686_31 : decode prog_2_method_7_code 31 = .ok (.if_icmp .eq 8, 3) := by decide +kernel
theorem d_m686_34 : decode prog_2_method_7_code 34 = .ok (.aload_n 0, 1) := by decide +kernel
theorem d_m686_35 : decode prog_2_method_7_code 35 = .ok (.iconst 5, 1) := by decide +kernel
theorem d_m686_36 : decode prog_2_method_7_code 36 = .ok (.putfield 25, 3) := by decide +kernel
theorem d_m686_39 : decode prog_2_method_7_code 39 = .ok (.aload_n 0, 1) := by decide +kernel
theorem d_m686_40 : decode prog_2_method_7_code 40 = .ok (.dup, 1) := by decide +kernel
theorem d_m686_41 : decode prog_2_method_7_code 41 = .ok (.getfield 15, 3) := by decide +kernel
theorem d_m686_44 : decode prog_2_method_7_code 44 = .ok (.iconst 2, 1) := by decide +kernel
theorem d_m686_45 : decode prog_2_method_7_code 45 = .ok (.iadd, 1) := by decide +kernel
theorem d_m686_46 : decode prog_2_method_7_code 46 = .ok (.putfield 15, 3) := by decide +kernel
theorem d_m686_49 : decode prog_2_method_7_code 49 = .ok (.return_, 1) := by decide +kernel
theorem d_m690_0 : decode prog_11_method_2_code 0 = .ok (.iload_n 1, 1) := by decide +kernel
theorem d_m690_1 : decode prog_11_method_2_code 1 = .ok (.ifCond .lt 11, 3) := by decide +kernel
theorem d_m690_4 : decode prog_11_method_2_code 4 = .ok (.iload_n 1, 1) := by decide +kernel
theorem d_m690_5 : decode prog_11_method_2_code 5 = .ok (.aload_n 0, 1) := by decide +kernel
theorem d_m690_6 : decode prog_11_method_2_code 6 = .ok (.getfield 15, 3) := by decide +kernel
theorem d_m690_9 : decode prog_11_method_2_code 9 = .ok (.if_icmp .lt 7, 3) := by decide +kernel
theorem d_m690_12 : decode prog_11_method_2_code 12 = .ok (.iconst (-1), 1) := by decide +kernel
theorem d_m690_13 : decode prog_11_method_2_code 13 = .ok (.goto 13, 3) := by decide +kernel
theorem d_m690_16 : decode prog_11_method_2_code 16 = .ok (.aload_n 0, 1) := by decide +kernel
theorem d_m690_17 : decode prog_11_method_2_code 17 = .ok (.getfield 9, 3) := by decide +kernel
theorem d_m690_20 : decode prog_11_method_2_code 20 = .ok (.iload_n 1, 1) := by decide +kernel
theorem d_m690_21 : decode prog_11_method_2_code 21 = .ok (.baload, 1) := by decide +kernel
theorem d_m690_22 : decode prog_11_method_2_code 22 = .ok (.sipush 255, 3) := by decide +kernel
theorem d_m690_25 : decode prog_11_method_2_code 25 = .ok (.iand, 1) := by decide +kernel
theorem d_m690_26 : decode prog_11_method_2_code 26 = .ok (.ireturn, 1) := by decide +kernel
theorem d_m694_0 : decode prog_6_method_6_code 0 = .ok (.aload_n 0, 1) := by decide +kernel
theorem d_m694_1 : decode prog_6_method_6_code 1 = .ok (.getfield 27, 3) := by decide +kernel
theorem d_m694_4 : decode prog_6_method_6_code 4 = .ok (.aload_n 0, 1) := by decide +kernel
theorem d_m694_5 : decode prog_6_method_6_code 5 = .ok (.getfield 23, 3) := by decide +kernel
theorem d_m694_8 : decode prog_6_method_6_code 8 = .ok (.aload_n 0, 1) := by decide +kernel
theorem d_m694_9 : decode prog_6_method_6_code 9 = .ok (.getfield 19, 3) := by decide +kernel
theorem d_m694_12 : decode prog_6_method_6_code 12 = .ok (.getfield 117, 3) := by decide +kernel
theorem d_m694_15 : decode prog_6_method_6_code 15 = .ok (.iload_n 1, 1) := by decide +kernel
theorem d_m694_16 : decode prog_6_method_6_code 16 = .ok (.iaload, 1) := by decide +kernel
theorem d_m694_17 : decode prog_6_method_6_code 17 = .ok (.aaload, 1) := by decide +kernel
theorem d_m694_18 : decode prog_6_method_6_code 18 = .ok (.invokevirtual 120, 3) := by decide +kernel
theorem d_m694_21 : decode prog_6_method_6_code 21 = .ok (.istore_n 3, 1) := by decide +kernel
theorem d_m694_22 : decode prog_6_method_6_code 22 = .ok (.iload_n 3, 1) := by decide +kernel
theorem d_m694_23 : decode prog_6_method_6_code 23 = .ok (.iconst (-1), 1) := by decide +kernel
theorem d_m694_24 : decode prog_6_method_6_code 24 = .ok (.if_icmp .ne 4, 3) := by decide +kernel
theorem d_m694_27 : decode prog_6_method_6_code 27 = .ok (.return_, 1) := by decide +kernel
theorem d_m694_28 : decode prog_6_method_6_code 28 = .ok (.iload_n 3, 1) := by decide +kernel
theorem d_m694_29 : decode prog_6_method_6_code 29 = .ok (.bipush 11, 2) := by decide +kernel
theorem d_m694_31 : decode prog_6_method_6_code 31 = .ok (.if_icmp .le 12, 3) := by decide +kernel
theorem d_m694_34 : decode prog_6_method_6_code 34 = .ok (.aload_n 0, 1) := by decide +kernel
theorem d_m694_35 : decode prog_6_method_6_code 35 = .ok (.getfield 27, 3) := by decide +kernel
theorem d_m694_38 : decode prog_6_method_6_code 38 = .ok (.iconst 3, 1) := by decide +kernel
theorem d_m694_39 : decode prog_6_method_6_code 39 = .ok (.putfield 49, 3) := by decide +kernel
theorem d_m694_42 : decode prog_6_method_6_code 42 = .ok (.return_, 1) := by decide +kernel
theorem d_m694_43 : decode prog_6_method_6_code 43 = .ok (.aload_n 0, 1) := by decide +kernel
theorem d_m694_44 : decode prog_6_method_6_code 44 = .ok (.getfield 9, 3) := by decide +kernel
theorem d_m694_47 : decode prog_6_method_6_code 47 = .ok (.iload_n 1, 1) := by decide +kernel
theorem d_m694_48 : decode prog_6_method_6_code 48 = .ok (.iaload, 1) := by decide +kernel
theorem d_m694_49 : decode prog_6_method_6_code 49 = .ok (.aload_n 0, 1) := by decide +kernel
theorem d_m694_50 : decode prog_6_method_6_code 50 = .ok (.iload_n 3, 1) := by decide +kernel
theorem d_m694_51 : decode prog_6_method_6_code 51 = .ok (.invokevirtual 124, 3) := by decide +kernel
theorem d_m694_54 : decode prog_6_method_6_code 54 = .ok (.iadd, 1) := by decide +kernel
theorem d_m694_55 : decode prog_6_method_6_code 55 = .ok (.istore 4, 2) := by decide +kernel
theorem d_m694_57 : decode prog_6_method_6_code 57 = .ok (.aload_n 0, 1) := by decide +kernel
theorem d_m694_58 : decode prog_6_method_6_code 58 = .ok (.getfield 27, 3) := by decide +kernel
theorem d_m694_61 : decode prog_6_method_6_code 61 = .ok (.getfield 49, 3) := by decide +kernel
theorem d_m694_64 : decode prog_6_method_6_code 64 = .ok (.ifCond .ne 29, 3) := by decide +kernel
theorem d_m694_67 : decode prog_6_method_6_code 67 = .ok (.aload_n 0, 1) := by decide +kernel
theorem d_m694_68 : decode prog_6_method_6_code 68 = .ok (.getfield 9, 3) := by decide +kernel
theorem d_m694_71 : decode prog_6_method_6_code 71 = .ok (.iload_n 1, 1) := by decide +kernel
theorem d_m694_72 : decode prog_6_method_6_code 72 = .ok (.iload 4, 2) := by decide +kernel
theorem d_m694_74 : decode prog_6_method_6_code 74 = .ok (.iastore, 1) := by decide +kernel
theorem d_m694_75 : decode prog_6_method_6_code 75 = .ok (.aload_n 0, 1) := by decide +kernel
theorem d_m694_76 : decode prog_6_method_6_code 76 = .ok (.iload_n 2, 1) := by decide +kernel
theorem d_m694_77 : decode prog_6_method_6_code 77 = .ok (.iconst 0, 1) := by decide +kernel
theorem d_m694_78 : decode prog_6_method_6_code 78 = .ok (.iload 4, 2) := by decide +kernel
theorem d_m694_80 : decode prog_6_method_6_code 80 = .ok (.iconst 1, 1) := by decide +kernel
theorem d_m694_81 : decode prog_6_method_6_code 81 = .ok (.aload_n 0, 1) := by decide +kernel
theorem d_m694_82 : decode prog_6_method_6_code 82 = .ok (.getfield 19, 3) := by decide +kernel
theorem d_m694_85 : decode prog_6_method_6_code 85 = .ok (.getfield 127, 3) := by decide +kernel
theorem d_m694_88 : decode prog_6_method_6_code 88 = .ok (.ishl, 1) := by decide +kernel
theorem d_m694_89 : decode prog_6_method_6_code 89 = .ok (.imul, 1) := by decide +kernel
theorem d_m694_90 : decode prog_6_method_6_code 90 = .ok (.invokevirtual 130, 3) := by decide +kernel
theorem d_m694_93 : decode prog_6_method_6_code 93 = .ok (.return_, 1) := by decide +kernel
theorem d_m698_0 : decode prog_2_method_5_code 0 = .ok (.iconst 0, 1) := by decide +kernel
theorem d_m698_1 : decode prog_2_method_5_code 1 = .ok (.istore_n 2, 1) := by decide +kernel
theorem d_m698_2 : decode prog_2_method_5_code 2 = .ok (.iconst 0, 1) := by decide +kernel
theorem d_m698_3 : decode prog_2_method_5_code 3 = .ok (.istore_n 3, 1) := by decide +kernel
theorem d_m698_4 : decode prog_2_method_5_code 4 = .ok (.iload_n 3, 1) := by decide +kernel
theorem d_m698_5 : decode prog_2_method_5_code 5 = .ok (.bipush 16, 2) := by decide +kernel
theorem d_m698_7 : decode prog_2_method_5_code 7 = .ok (.if_icmp .ge 59, 3) := by decide +kernel
theorem d_m698_10 : decode prog_2_method_5_code 10 = .ok (.aload_n 1, 1) := by decide +kernel
theorem d_m698_11 : decode prog_2_method_5_code 11 = .ok (.iload_n 2, 1) := by decide +kernel
theorem d_m698_12 : decode prog_2_method_5_code 12 = .ok (.iload_n 3, 1) := by decide +kernel
theorem d_m698_13 : decode prog_2_method_5_code 13 = .ok (.invokevirtual 40, 3) := by decide +kernel
theorem d_m698_16 : decode prog_2_method_5_code 16 = .ok (.ifCond .eq 50, 3) := by decide +kernel
theorem d_m698_19 : decode prog_2_method_5_code 19 = .ok (.aload_n 0, 1) := by decide +kernel
theorem d_m698_20 : decode prog_2_method_5_code 20 = .ok (.iconst 1, 1) := by decide +kernel
theorem d_m698_21 : decode prog_2_method_5_code 21 = .ok (.invokevirtual 46, 3) := by decide +kernel
theorem d_m698_24 : decode prog_2_method_5_code 24 = .ok (.istore 4, 2) := by decide +kernel
theorem d_m698_26 : decode prog_2_method_5_code 26 = .ok (.iload 4, 2) := by decide +kernel
theorem d_m698_28 : decode prog_2_method_5_code 28 = .ok (.iconst (-1), 1) := by decide +kernel
theorem d_m698_29 : decode prog_2_method_5_code 29 = .ok (.if_icmp .ne 5, 3) := by decide +kernel
theorem d_m698_32 : decode prog_2_method_5_code 32 = .ok (.iconst (-1), 1) := by decide +kernel
theorem d_m698_33 : decode prog_2_method_5_code 33 = .ok (.ireturn, 1) := by decide +kernel
theorem d_m698_34 : decode prog_2_method_5_code 34 = .ok (.iload_n 2, 1) := by decide +kernel
theorem d_m698_35 : decode prog_2_method_5_code 35 = .ok (.iconst 1, 1) := by decide +kernel
theorem d_m698_36 : decode prog_2_method_5_code 36 = .ok (.ishl, 1) := by decide +kernel
theorem d_m698_37 : decode prog_2_method_5_code 37 = .ok (.iload 4, 2) := by decide +kernel
theorem d_m698_39 : decode prog_2_method_5_code 39 = .ok (.ior, 1) := by decide +kernel
theorem d_m698_40 : decode prog_2_method_5_code 40 = .ok (.istore_n 2, 1) := by decide +kernel
theorem d_m698_41 : decode prog_2_method_5_code 41 = .ok (.aload_n 1, 1) := by decide +kernel
theorem d_m698_42 : decode prog_2_method_5_code 42 = .ok (.iload_n 2, 1) := by decide +kernel
theorem d_m698_43 : decode prog_2_method_5_code 43 = .ok (.iload_n 3, 1) := by decide +kernel
theorem d_m698_44 : decode prog_2_method_5_code 44 = .ok (.iconst 1, 1) := by decide +kernel
theorem d_m698_45 : decode prog_2_method_5_code 45 = .ok (.iadd, 1) := by decide +kernel
theorem d_m698_46 : decode prog_2_method_5_code 46 = .ok (.invokevirtual 50, 3) := by decide +kernel
theorem d_m698_49 : decode prog_2_method_5_code 49 = .ok (.istore 5, 2) := by decide +kernel
theorem d_m698_51 : decode prog_2_method_5_code 51 = .ok (.iload 5, 2) := by decide +kernel
theorem d_m698_53 : decode prog_2_method_5_code 53 = .ok (.iconst (-1), 1) := by decide +kernel
theorem d_m698_54 : decode prog_2_method_5_code 54 = .ok (.if_icmp .eq 6, 3) := by decide +kernel
theorem d_m698_57 : decode prog_2_method_5_code 57 = .ok (.iload 5, 2) := by decide +kernel
theorem d_m698_59 : decode prog_2_method_5_code 59 = .ok (.ireturn, 1) := by decide +kernel
theorem d_m698_60 : decode prog_2_method_5_code 60 = .ok (.iinc 3 1, 3) := by decide +kernel
theorem d_m698_63 : decode prog_2_method_5_code 63 = .ok (.goto (-59), 3) := by decide +kernel
theorem d_m698_66 : decode prog_2_method_5_code 66 = .ok (.aload_n 0, 1) := by decide +kernel
theorem d_m698_67 : decode prog_2_method_5_code 67 = .ok (.iconst 2, 1) := by decide +kernel
theorem d_m698_68 : decode prog_2_method_5_code 68 = .ok (.putfield 25, 3) := by decide +kernel
theorem d_m698_71 : decode prog_2_method_5_code 71 = .ok (.iconst (-1), 1) := by decide +kernel
theorem d_m698_72 : decode prog_2_method_5_code 72 = .ok (.ireturn, 1) := by decide +kernel
theorem d_m702_0 : decode prog_12_method_3_code 0 = .ok (.iload_n 1, 1) := by decide +kernel
theorem d_m702_1 : decode prog_12_method_3_code 1 = .ok (.bipush 16, 2) := by decide +kernel
theorem d_m702_3 : decode prog_12_method_3_code 3 = .ok (.iload_n 2, 1) := by decide +kernel
theorem d_m702_4 : decode prog_12_method_3_code 4 = .ok (.isub, 1) := by decide +kernel
theorem d_m702_5 : decode prog_12_method_3_code 5 = .ok (.ishl, 1) := by decide +kernel
theorem d_m702_6 : decode prog_12_method_3_code 6 = .ok (.aload_n 0, 1) := by decide +kernel
theorem d_m702_7 : decode prog_12_method_3_code 7 = .ok (.getfield 47, 3) := by decide +kernel
theorem d_m702_10 : decode prog_12_method_3_code 10 = .ok (.if_icmp .ge 7, 3) := by decide +kernel
theorem d_m702_13 : decode prog_12_method_3_code 13 = .ok (.iconst 1, 1) := by decide +kernel
theorem d_m702_14 : decode prog_12_method_3_code 14 = .ok (.goto 4, 3) := by decide +kernel
theorem d_m702_17 : decode prog_12_method_3_code 17 = .ok (.iconst 0, 1) := by decide +kernel
theorem d_m702_18 : decode prog_12_method_3_code 18 = .ok (.ireturn, 1) := by decide +kernel
theorem d_m706_0 : decode prog_2_method_3_code 0 = .ok (.iconst 0, 1) := by decide +kernel
theorem d_m706_1 : decode prog_2_method_3_code 1 = .ok (.istore_n 2, 1) := by decide +kernel
theorem d_m706_2 : decode prog_2_method_3_code 2 = .ok (.iconst 0, 1) := by decide +kernel
theorem d_m706_3 : decode prog_2_method_3_code 3 = .ok (.istore_n 3, 1) := by decide +kernel
theorem d_m706_4 : decode prog_2_method_3_code 4 = .ok (.iload_n 3, 1) := by decide +kernel
theorem d_m706_5 : decode prog_2_method_3_code 5 = .ok (.iload_n 1, 1) := by decide +kernel
theorem d_m706_6 : decode prog_2_method_3_code 6 = .ok (.if_icmp .ge 55, 3) := by decide +kernel
theorem d_m706_9 : decode prog_2_method_3_code 9 = .ok (.aload_n 0, 1) := by decide +kernel
theorem d_m706_10 : decode prog_2_method_3_code 10 = .ok (.getfield 22, 3) := by decide +kernel
theorem d_m706_13 : decode prog_2_method_3_code 13 = .ok (.ifCond .ne 7, 3) := by decide +kernel
theorem d_m706_16 : decode prog_2_method_3_code 16 = .ok (.aload_n 0, 1) := by decide +kernel
theorem d_m706_17 : decode prog_2_method_3_code 17 = .ok (.invokevirtual 28, 3) := by decide +kernel
theorem d_m706_20 : decode prog_2_method_3_code 20 = .ok (.aload_n 0, 1) := by decide +kernel
theorem d_m706_21 : decode prog_2_method_3_code 21 = .ok (.getfield 25, 3) := by decide +kernel
theorem d_m706_24 : decode prog_2_method_3_code 24 = .ok (.ifCond .eq 5, 3) := by decide +kernel
theorem d_m706_27 : decode prog_2_method_3_code 27 = .ok (.iconst (-1), 1) := by decide +kernel
theorem d_m706_28 : decode prog_2_method_3_code 28 = .ok (.ireturn, 1) := by decide +kernel
theorem d_m706_29 : decode prog_2_method_3_code 29 = .ok (.aload_n 0, 1) := by decide +kernel
theorem d_m706_30 : decode prog_2_method_3_code 30 = .ok (.dup, 1) := by decide +kernel
theorem d_m706_31 : decode prog_2_method_3_code 31 = .ok (.getfield 22, 3) := by decide +kernel
theorem d_m706_34 : decode prog_2_method_3_code 34 = .ok (.iconst 1, 1) := by decide +kernel
theorem d_m706_35 : decode prog_2_method_3_code 35 = .ok (.isub, 1) := by decide +kernel
theorem d_m706_36 : decode prog_2_method_3_code 36 = .ok (.putfield 22, 3) := by decide +kernel
theorem d_m706_39 : decode prog_2_method_3_code 39 = .ok (.iload_n 2, 1) := by decide +kernel
theorem d_m706_40 : decode prog_2_method_3_code 40 = .ok (.iconst 1, 1) := by decide +kernel
theorem d_m706_41 : decode prog_2_method_3_code 41 = .ok (.ishl, 1) := by decide +kernel
theorem d_m706_42 : decode prog_2_method_3_code 42 = .ok (.aload_n 0, 1) := by decide +kernel
theorem d_m706_43 : decode prog_2_method_3_code 43 = .ok (.getfield 19, 3) := by decide +kernel
theorem d_m706_46 : decode prog_2_method_3_code 46 = .ok (.aload_n 0, 1) := by decide +kernel
theorem d_m706_47 : decode prog_2_method_3_code 47 = .ok (.getfield 22, 3) := by decide +kernel
theorem d_m706_50 : decode prog_2_method_3_code 50 = .ok (.ishr, 1) := by decide +kernel
theorem d_m706_51 : decode prog_2_method_3_code 51 = .ok (.iconst 1, 1) := by decide +kernel
theorem d_m706_52 : decode prog_2_method_3_code 52 = .ok (.iand, 1) := by decide +kernel
theorem d_m706_53 : decode prog_2_method_3_code 53 = .ok (.ior, 1) := by decide +kernel
theorem d_m706_54 : decode prog_2_method_3_code 54 = .ok (.istore_n 2, 1) := by decide +kernel
theorem d_m706_55 : decode prog_2_method_3_code 55 = .ok (.iinc 3 1, 3) := by decide +kernel
theorem d_m706_58 : decode prog_2_method_3_code 58 = .ok (.goto (-54), 3) := by decide +kernel
theorem d_m706_61 : decode prog_2_method_3_code 61 = .ok (.iload_n 2, 1) := by decide +kernel
theorem d_m706_62 : decode prog_2_method_3_code 62 = .ok (.ireturn, 1) := by decide +kernel
theorem d_m710_0 : decode prog_2_method_4_code 0 = .ok (.aload_n 0, 1) := by decide +kernel
theorem d_m710_1 : decode prog_2_method_4_code 1 = .ok (.getfield 15, 3) := by decide +kernel
theorem d_m710_4 : decode prog_2_method_4_code 4 = .ok (.aload_n 0, 1) := by decide +kernel
theorem d_m710_5 : decode prog_2_method_4_code 5 = .ok (.getfield 9, 3) := by decide +kernel
theorem d_m710_8 : decode prog_2_method_4_code 8 = .ok (.getfield 31, 3) := by decide +kernel
theorem d_m710_11 : decode prog_2_method_4_code 11 = .ok (.if_icmp .lt 9, 3) := by decide +kernel
theorem d_m710_14 : decode prog_2_method_4_code 14 = .ok (.aload_n 0, 1) := by decide +kernel
theorem d_m710_15 : decode prog_2_method_4_code 15 = .ok (.iconst 1, 1) := by decide +kernel
theorem d_m710_16 : decode prog_2_method_4_code 16 = .ok (.putfield 25, 3) := by decide +kernel
theorem d_m710_19 : decode prog_2_method_4_code 19 = .ok (.return_, 1) := by decide +kernel
theorem d_m710_20 : decode prog_2_method_4_code 20 = .ok (.aload_n 0, 1) := by decide +kernel
theorem d_m710_21 : decode prog_2_method_4_code 21 = .ok (.aload_n 0, 1) := by decide +kernel
theorem d_m710_22 : decode prog_2_method_4_code 22 = .ok (.getfield 9, 3) := by decide +kernel
theorem d_m710_25 : decode prog_2_method_4_code 25 = .ok (.getfield 36, 3) := by decide +kernel
theorem d_m710_28 : decode prog_2_method_4_code 28 = .ok (.aload_n 0, 1) := by decide +kernel
theorem d_m710_29 : decode prog_2_method_4_code 29 = .ok (.getfield 15, 3) := by decide +kernel
theorem d_m710_32 : decode prog_2_method_4_code 32 = .ok (.baload, 1) := by decide +kernel
theorem d_m710_33 : decode prog_2_method_4_code 33 = .ok (.sipush 255, 3) := by decide +kernel
theorem d_m710_36 : decode prog_2_method_4_code 36 = .ok (.iand, 1) := by decide +kernel
theorem d_m710_37 : decode prog_2_method_4_code 37 = .ok (.putfield 19, 3) := by decide +kernel
theorem d_m710_40 : decode prog_2_method_4_code 40 = .ok (.aload_n 0, 1) := by decide +kernel
theorem d_m710_41 : decode prog_2_method_4_code 41 = .ok (.bipush 8, 2) := by decide +kernel
theorem d_m710_43 : decode prog_2_method_4_code 43 = .ok (.putfield 22, 3) := by decide +kernel
theorem d_m710_46 : decode prog_2_method_4_code 46 = .ok (.aload_n 0, 1) := by decide +kernel
theorem d_m710_47 : decode prog_2_method_4_code 47 = .ok (.dup, 1) := by decide +kernel
theorem d_m710_48 : decode prog_2_method_4_code 48 = .ok (.getfield 15, 3) := by decide +kernel
theorem d_m710_51 : decode prog_2_method_4_code 51 = .ok (.iconst 1, 1) := by decide +kernel
theorem d_m710_52 : decode prog_2_method_4_code 52 = .ok (.iadd, 1) := by decide +kernel
theorem d_m710_53 : decode prog_2_method_4_code 53 = .ok (.putfield 15, 3) := by decide +kernel
theorem d_m710_56 : decode prog_2_method_4_code 56 = .ok (.aload_n 0, 1) := by decide +kernel
theorem d_m710_57 : decode prog_2_method_4_code 57 = .ok (.getfield 19, 3) := by decide +kernel
theorem d_m710_60 : decode prog_2_method_4_code 60 = .ok (.sipush 255, 3) := by decide +kernel
theorem d_m710_63 : decode prog_2_method_4_code 63 = .ok (.if_icmp .ge 4, 3) := by decide +kernel
theorem d_m710_66 : decode prog_2_method_4_code 66 = .ok (.return_, 1) := by decide +kernel
theorem d_m710_67 : decode prog_2_method_4_code 67 = .ok (.aload_n 0, 1) := by decide +kernel
theorem d_m710_68 : decode prog_2_method_4_code 68 = .ok (.getfield 15, 3) := by decide +kernel
theorem d_m710_71 : decode prog_2_method_4_code 71 = .ok (.aload_n 0, 1) := by decide +kernel
theorem d_m710_72 : decode prog_2_method_4_code 72 = .ok (.getfield 9, 3) := by decide +kernel
theorem d_m710_75 : decode prog_2_method_4_code 75 = .ok (.getfield 31, 3) := by decide +kernel
theorem d_m710_78 : decode prog_2_method_4_code 78 = .ok (.if_icmp .ge 22, 3) := by decide +kernel
theorem d_m710_81 : decode prog_2_method_4_code 81 = .ok (.aload_n 0, 1) := by decide +kernel
theorem d_m710_82 : decode prog_2_method_4_code 82 = .ok (.getfield 9, 3) := by decide +kernel
theorem d_m710_85 : decode prog_2_method_4_code 85 = .ok (.getfield 36, 3) := by decide +kernel
theorem d_m710_88 : decode prog_2_method_4_code 88 = .ok (.aload_n 0, 1) := by decide +kernel
theorem d_m710_89 : decode prog_2_method_4_code 89 = .ok (.getfield 15, 3) := by decide +kernel
theorem d_m710_92 : decode prog_2_method_4_code 92 = .ok (.baload, 1) := by decide +kernel
theorem d_m710_93 : decode prog_2_method_4_code 93 = .ok (.sipush 255, 3) := by decide +kernel
theorem d_m710_96 : decode prog_2_method_4_code 96 = .ok (.iand, 1) := by decide +kernel
theorem d_m710_97 : decode prog_2_method_4_code 97 = .ok (.goto 4, 3) := by decide +kernel
theorem d_m710_100 : decode prog_2_method_4_code 100 = .ok (.iconst (-1), 1) := by decide +kernel
theorem d_m710_101 : decode prog_2_method_4_code 101 = .ok (.istore_n 1, 1) := by decide +kernel
theorem d_m710_102 : decode prog_2_method_4_code 102 = .ok (.iload_n 1, 1) := by decide +kernel
theorem d_m710_103 : decode prog_2_method_4_code 103 = .ok (.sipush 208, 3) := by decide +kernel
theorem d_m710_106 : decode prog_2_method_4_code 106 = .ok (.if_icmp .lt 18, 3) := by decide +kernel
theorem d_m710_109 : decode prog_2_method_4_code 109 = .ok (.iload_n 1, 1) := by decide +kernel
theorem d_m710_110 : decode prog_2_method_4_code 110 = .ok (.sipush 215, 3) := by decide +kernel
theorem d_m710_113 : decode prog_2_method_4_code 113 = .ok (.if_icmp .gt 11, 3) := by decide +kernel
theorem d_m710_116 : decode prog_2_method_4_code 116 = .ok (.aload_n 0, 1) := by decide +kernel
theorem d_m710_117 : decode prog_2_method_4_code 117 = .ok (.iconst 1, 1) := by decide +kernel
theorem d_m710_118 : decode prog_2_method_4_code 118 = .ok (.putfield 25, 3) := by decide +kernel
theorem d_m710_121 : decode prog_2_method_4_code 121 = .ok (.goto 13, 3) := by decide +kernel
theorem d_m710_124 : decode prog_2_method_4_code 124 = .ok (.iload_n 1, 1) := by decide +kernel
theorem d_m710_125 : decode prog_2_method_4_code 125 = .ok (.ifCond .eq 9, 3) := by decide +kernel
theorem d_m710_128 : decode prog_2_method_4_code 128 = .ok (.aload_n 0, 1) := by decide +kernel
theorem d_m710_129 : decode prog_2_method_4_code 129 = .ok (.bipush 6, 2) := by decide +kernel
theorem d_m710_131 : decode prog_2_method_4_code 131 = .ok (.putfield 25, 3) := by decide +kernel
theorem d_m710_134 : decode prog_2_method_4_code 134 = .ok (.aload_n 0, 1) := by decide +kernel
theorem d_m710_135 : decode prog_2_method_4_code 135 = .ok (.dup, 1) := by decide +kernel
theorem d_m710_136 : decode prog_2_method_4_code 136 = .ok (.getfield 15, 3) := by decide +kernel
theorem d_m710_139 : decode prog_2_method_4_code 139 = .ok (.iconst 1, 1) := by decide +kernel
theorem d_m710_140 : decode prog_2_method_4_code 140 = .ok (.iadd, 1) := by decide +kernel
theorem d_m710_141 : decode prog_2_method_4_code 141 = .ok (.putfield 15, 3) := by decide +kernel
theorem d_m710_144 : decode prog_2_method_4_code 144 = .ok (.return_, 1) := by decide +kernel
theorem d_m714_0 : decode prog_12_method_4_code 0 = .ok (.iload_n 2, 1) := by decide +kernel
theorem d_m714_1 : decode prog_12_method_4_code 1 = .ok (.iconst 1, 1) := by decide +kernel
theorem d_m714_2 : decode prog_12_method_4_code 2 = .ok (.if_icmp .lt 19, 3) := by decide +kernel
theorem d_m714_5 : decode prog_12_method_4_code 5 = .ok (.iload_n 2, 1) := by decide +kernel
theorem d_m714_6 : decode prog_12_method_4_code 6 = .ok (.bipush 16, 2) := by decide +kernel
theorem d_m714_8 : decode prog_12_method_4_code 8 = .ok (.if_icmp .gt 13, 3) := by decide +kernel
theorem d_m714_11 : decode prog_12_method_4_code 11 = .ok (.iload_n 1, 1) := by decide +kernel
theorem d_m714_12 : decode prog_12_method_4_code 12 = .ok (.aload_n 0, 1) := by decide +kernel
theorem d_m714_13 : decode prog_12_method_4_code 13 = .ok (.getfield 18, 3) := by decide +kernel
theorem d_m714_16 : decode prog_12_method_4_code 16 = .ok (.iload_n 2, 1) := by decide +kernel
theorem d_m714_17 : decode prog_12_method_4_code 17 = .ok (.iaload, 1) := by decide +kernel
theorem d_m714_18 : decode prog_12_method_4_code 18 = .ok (.if_icmp .ge 5, 3) := by decide +kernel
theorem d_m714_21 : decode prog_12_method_4_code 21 = .ok (.iconst (-1), 1) := by decide +kernel
theorem d_m714_22 : decode prog_12_method_4_code 22 = .ok (.ireturn, 1) := by decide +kernel
theorem d_m714_23 : decode prog_12_method_4_code 23 = .ok (.aload_n 0, 1) := by decide +kernel
theorem d_m714_24 : decode prog_12_method_4_code 24 = .ok (.getfield 21, 3) := by decide +kernel
theorem d_m714_27 : decode prog_12_method_4_code 27 = .ok (.iload_n 2, 1) := by decide +kernel
theorem d_m714_28 : decode prog_12_method_4_code 28 = .ok (.iaload, 1) := by decide +kernel
theorem d_m714_29 : decode prog_12_method_4_code 29 = .ok (.iload_n 1, 1) := by decide +kernel
theorem d_m714_30 : decode prog_12_method_4_code 30 = .ok (.iadd, 1) := by decide +kernel
theorem d_m714_31 : decode prog_12_method_4_code 31 = .ok (.aload_n 0, 1) := by decide +kernel
theorem d_m714_32 : decode prog_12_method_4_code 32 = .ok (.getfield 18, 3) := by decide +kernel
theorem d_m714_35 : decode prog_12_method_4_code 35 = .ok (.iload_n 2, 1) := by decide +kernel
theorem d_m714_36 : decode prog_12_method_4_code 36 = .ok (.iaload, 1) := by decide +kernel
theorem d_m714_37 : decode prog_12_method_4_code 37 = .ok (.isub, 1) := by decide +kernel
theorem d_m714_38 : decode prog_12_method_4_code 38 = .ok (.istore_n 3, 1) := by decide +kernel
theorem d_m714_39 : decode prog_12_method_4_code 39 = .ok (.iload_n 3, 1) := by decide +kernel
theorem d_m714_40 : decode prog_12_method_4_code 40 = .ok (.aload_n 0, 1) := by decide +kernel
theorem d_m714_41 : decode prog_12_method_4_code 41 = .ok (.getfield 21, 3) := by decide +kernel
theorem d_m714_44 : decode prog_12_method_4_code 44 = .ok (.iload_n 2, 1) := by decide +kernel
theorem d_m714_45 : decode prog_12_method_4_code 45 = .ok (.iconst 1, 1) := by decide +kernel
theorem d_m714_46 : decode prog_12_method_4_code 46 = .ok (.iadd, 1) := by decide +kernel
theorem d_m714_47 : decode prog_12_method_4_code 47 = .ok (.iaload, 1) := by decide +kernel
theorem d_m714_48 : decode prog_12_method_4_code 48 = .ok (.if_icmp .ge 12, 3) := by decide +kernel
theorem d_m714_51 : decode prog_12_method_4_code 51 = .ok (.aload_n 0, 1) := by decide +kernel
theorem d_m714_52 : decode prog_12_method_4_code 52 = .ok (.getfield 15, 3) := by decide +kernel
theorem d_m714_55 : decode prog_12_method_4_code 55 = .ok (.iload_n 3, 1) := by decide +kernel
theorem d_m714_56 : decode prog_12_method_4_code 56 = .ok (.iaload, 1) := by decide +kernel
theorem d_m714_57 : decode prog_12_method_4_code 57 = .ok (.goto 4, 3) := by decide +kernel
theorem d_m714_60 : decode prog_12_method_4_code 60 = .ok (.iconst (-1), 1) := by decide +kernel
theorem d_m714_61 : decode prog_12_method_4_code 61 = .ok (.ireturn, 1) := by decide +kernel
theorem d_m718_0 : decode prog_6_method_7_code 0 = .ok (.aload_n 0, 1) := by decide +kernel
theorem d_m718_1 : decode prog_6_method_7_code 1 = .ok (.getfield 27, 3) := by decide +kernel
theorem d_m718_4 : decode prog_6_method_7_code 4 = .ok (.iload_n 1, 1) := by decide +kernel
theorem d_m718_5 : decode prog_6_method_7_code 5 = .ok (.invokevirtual 134, 3) := by decide +kernel
theorem d_m718_8 : decode prog_6_method_7_code 8 = .ok (.istore_n 2, 1) := by decide +kernel
theorem d_m718_9 : decode prog_6_method_7_code 9 = .ok (.iload_n 1, 1) := by decide +kernel
theorem d_m718_10 : decode prog_6_method_7_code 10 = .ok (.ifCond .le 16, 3) := by decide +kernel
theorem d_m718_13 : decode prog_6_method_7_code 13 = .ok (.iload_n 2, 1) := by decide +kernel
theorem d_m718_14 : decode prog_6_method_7_code 14 = .ok (.iload_n 1, 1) := by decide +kernel
theorem d_m718_15 : decode prog_6_method_7_code 15 = .ok (.iconst 1, 1) := by decide +kernel
theorem d_m718_16 : decode prog_6_method_7_code 16 = .ok (.isub, 1) := by decide +kernel
theorem d_m718_17 : decode prog_6_method_7_code 17 = .ok (.ishr, 1) := by decide +kernel
theorem d_m718_18 : decode prog_6_method_7_code 18 = .ok (.iconst 1, 1) := by decide +kernel
theorem d_m718_19 : decode prog_6_method_7_code 19 = .ok (.if_icmp .ne 7, 3) := by decide +kernel
theorem d_m718_22 : decode prog_6_method_7_code 22 = .ok (.iconst 1, 1) := by decide +kernel
theorem d_m718_23 : decode prog_6_method_7_code 23 = .ok (.goto 4, 3) := by decide +kernel
theorem d_m718_26 : decode prog_6_method_7_code 26 = .ok (.iconst 0, 1) := by decide +kernel
theorem d_m718_27 : decode prog_6_method_7_code 27 = .ok (.istore_n 3, 1) := by decide +kernel
theorem d_m718_28 : decode prog_6_method_7_code 28 = .ok (.iload_n 3, 1) := by decide +kernel
theorem d_m718_29 : decode prog_6_method_7_code 29 = .ok (.ifCond .eq 7, 3) := by decide +kernel
theorem d_m718_32 : decode prog_6_method_7_code 32 = .ok (.iload_n 2, 1) := by decide +kernel
theorem d_m718_33 : decode prog_6_method_7_code 33 = .ok (.goto 10, 3) := by decide +kernel
theorem d_m718_36 : decode prog_6_method_7_code 36 = .ok (.iload_n 2, 1) := by decide +kernel
theorem d_m718_37 : decode prog_6_method_7_code 37 = .ok (.iconst 1, 1) := by decide +kernel
theorem d_m718_38 : decode prog_6_method_7_code 38 = .ok (.iload_n 1, 1) := by decide +kernel
theorem d_m718_39 : decode prog_6_method_7_code 39 = .ok (.ishl, 1) := by decide +kernel
theorem d_m718_40 : decode prog_6_method_7_code 40 = .ok (.isub, 1) := by decide +kernel
theorem d_m718_41 : decode prog_6_method_7_code 41 = .ok (.iconst 1, 1) := by decide +kernel
theorem d_m718_42 : decode prog_6_method_7_code 42 = .ok (.iadd, 1) := by decide +kernel
theorem d_m718_43 : decode prog_6_method_7_code 43 = .ok (.ireturn, 1) := by decide +kernel
theorem d_m723_0 : decode prog_6_method_8_code 0 = .ok (.iload_n 2, 1) := by decide +kernel
theorem d_m723_1 : decode prog_6_method_8_code 1 = .ok (.iload_n 3, 1) := by decide +kernel
theorem d_m723_2 : decode prog_6_method_8_code 2 = .ok (.invokestatic 137, 3) := by decide +kernel
theorem d_m723_5 : decode prog_6_method_8_code 5 = .ok (.ifCond .eq 14, 3) := by decide +kernel
theorem d_m723_8 : decode prog_6_method_8_code 8 = .ok (.aload_n 0, 1) := by decide +kernel
theorem d_m723_9 : decode prog_6_method_8_code 9 = .ok (.iload_n 1, 1) := by decide +kernel
theorem d_m723_10 : decode prog_6_method_8_code 10 = .ok (.iload_n 2, 1) := by decide +kernel
theorem d_m723_11 : decode prog_6_method_8_code 11 = .ok (.iadd, 1) := by decide +kernel
theorem d_m723_12 : decode prog_6_method_8_code 12 = .ok (.iload_n 3, 1) := by decide +kernel
theorem d_m723_13 : decode prog_6_method_8_code 13 = .ok (.invokevirtual 141, 3) := by decide +kernel
theorem d_m723_16 : decode prog_6_method_8_code 16 = .ok (.goto 11, 3) := by decide +kernel
theorem d_m723_19 : decode prog_6_method_8_code 19 = .ok (.aload_n 0, 1) := by decide +kernel
theorem d_m723_20 : decode prog_6_method_8_code 20 = .ok (.getfield 27, 3) := by decide +kernel
theorem d_m723_23 : decode prog_6_method_8_code 23 = .ok (.iconst 4, 1) := by decide +kernel
theorem d_m723_24 : decode prog_6_method_8_code 24 = .ok (.putfield 49, 3) := by decide +kernel
theorem d_m723_27 : decode prog_6_method_8_code 27 = .ok (.return_, 1) := by decide +kernel
theorem d_m728_0 : decode prog_6_method_5_code 0 = .ok (.aload_n 0, 1) := by decide +kernel
theorem d_m728_1 : decode prog_6_method_5_code 1 = .ok (.getfield 31, 3) := by decide +kernel
theorem d_m728_4 : decode prog_6_method_5_code 4 = .ok (.ifCond .eq 14, 3) := by decide +kernel
theorem d_m728_7 : decode prog_6_method_5_code 7 = .ok (.aload_n 0, 1) := by decide +kernel
theorem d_m728_8 : decode prog_6_method_5_code 8 = .ok (.getfield 15, 3) := by decide +kernel
theorem d_m728_11 : decode prog_6_method_5_code 11 = .ok (.getfield 111, 3) := by decide +kernel
theorem d_m728_14 : decode prog_6_method_5_code 14 = .ok (.iload_n 1, 1) := by decide +kernel
theorem d_m728_15 : decode prog_6_method_5_code 15 = .ok (.iload_n 2, 1) := by decide +kernel
theorem d_m728_16 : decode prog_6_method_5_code 16 = .ok (.i2s, 1) := by decide +kernel
theorem d_m728_17 : decode prog_6_method_5_code 17 = .ok (.sastore, 1) := by decide +kernel
theorem d_m728_18 : decode prog_6_method_5_code 18 = .ok (.return_, 1) := by decide +kernel
theorem d_m732_0 : decode prog_6_method_10_code 0 = .ok (.aload_n 0, 1) := by decide +kernel
theorem d_m732_1 : decode prog_6_method_10_code 1 = .ok (.getfield 19, 3) := by decide +kernel
theorem d_m732_4 : decode prog_6_method_10_code 4 = .ok (.getfield 79, 3) := by decide +kernel
theorem d_m732_7 : decode prog_6_method_10_code 7 = .ok (.iconst 4, 1) := by decide +kernel
theorem d_m732_8 : decode prog_6_method_10_code 8 = .ok (.if_icmp .ne 7, 3) := by decide +kernel
theorem d_m732_11 : decode prog_6_method_10_code 11 = .ok (.iconst 1, 1) := by decide +kernel
theorem d_m732_12 : decode prog_6_method_10_code 12 = .ok (.goto 4, 3) := by decide +kernel
theorem d_m732_15 : decode prog_6_method_10_code 15 = .ok (.iconst 0, 1) := by decide +kernel
theorem d_m732_16 : decode prog_6_method_10_code 16 = .ok (.istore 4, 2) := by decide +kernel
theorem d_m732_18 : decode prog_6_method_10_code 18 = .ok (.iload 4, 2) := by decide +kernel
theorem d_m732_20 : decode prog_6_method_10_code 20 = .ok (.ifCond .ne 9, 3) := by decide +kernel
theorem d_m732_23 : decode prog_6_method_10_code 23 = .ok (.aload_n 0, 1) := by decide +kernel
theorem d_m732_24 : decode prog_6_method_10_code 24 = .ok (.iload_n 2, 1) := by decide +kernel
theorem d_m732_25 : decode prog_6_method_10_code 25 = .ok (.iload_n 3, 1) := by decide +kernel
theorem d_m732_26 : decode prog_6_method_10_code 26 = .ok (.invokevirtual 144, 3) := by decide +kernel
theorem d_m732_29 : decode prog_6_method_10_code 29 = .ok (.iload_n 3, 1) := by decide +kernel
theorem d_m732_30 : decode prog_6_method_10_code 30 = .ok (.istore 5, 2) := by decide +kernel
theorem d_m732_32 : decode prog_6_method_10_code 32 = .ok (.iconst 0, 1) := by decide +kernel
theorem d_m732_33 : decode prog_6_method_10_code 33 = .ok (.istore 6, 2) := by decide +kernel
theorem d_m732_35 : decode prog_6_method_10_code 35 = .ok (.iload 6, 2) := by decide +kernel
theorem d_m732_37 : decode prog_6_method_10_code 37 = .ok (.bipush 64, 2) := by decide +kernel
theorem d_m732_39 : decode prog_6_method_10_code 39 = .ok (.if_icmp .ge 121, 3) := by decide +kernel
theorem d_m732_42 : decode prog_6_method_10_code 42 = .ok (.iload 5, 2) := by decide +kernel
theorem d_m732_44 : decode prog_6_method_10_code 44 = .ok (.aload_n 0, 1) := by decide +kernel
theorem d_m732_45 : decode prog_6_method_10_code 45 = .ok (.getfield 19, 3) := by decide +kernel
theorem d_m732_48 : decode prog_6_method_10_code 48 = .ok (.getfield 147, 3) := by decide +kernel
theorem d_m732_51 : decode prog_6_method_10_code 51 = .ok (.if_icmp .gt 109, 3) := by decide +kernel
theorem d_m732_54 : decode prog_6_method_10_code 54 = .ok (.aload_n 0, 1) := by decide +kernel
theorem d_m732_55 : decode prog_6_method_10_code 55 = .ok (.getfield 105, 3) := by decide +kernel
theorem d_m732_58 : decode prog_6_method_10_code 58 = .ok (.ifCond .ne 102, 3) := by decide +kernel
theorem d_m732_61 : decode prog_6_method_10_code 61 = .ok (.aload_n 0, 1) := by decide +kernel
theorem d_m732_62 : decode prog_6_method_10_code 62 = .ok (.getfield 27, 3) := by decide +kernel
theorem d_m732_65 : decode prog_6_method_10_code 65 = .ok (.aload_n 1, 1) := by decide +kernel
theorem d_m732_66 : decode prog_6_method_10_code 66 = .ok (.invokevirtual 120, 3) := by decide +kernel
theorem d_m732_69 : decode prog_6_method_10_code 69 = .ok (.istore 7, 2) := by decide +kernel
theorem d_m732_71 : decode prog_6_method_10_code 71 = .ok (.iload 7, 2) := by decide +kernel
