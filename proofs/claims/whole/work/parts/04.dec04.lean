theorem d_m554_8 : decode prog_5_method_11_code 8 = .ok (.ifCond .le 16, 3) := by decide +kernel
theorem d_m554_11 : decode prog_5_method_11_code 11 = .ok (.iload_n 1, 1) := by decide +kernel
theorem d_m554_12 : decode prog_5_method_11_code 12 = .ok (.aload_n 0, 1) := by decide +kernel
theorem d_m554_13 : decode prog_5_method_11_code 13 = .ok (.getfield 37, 3) := by decide +kernel
theorem d_m554_16 : decode prog_5_method_11_code 16 = .ok (.irem, 1) := by decide +kernel
theorem d_m554_17 : decode prog_5_method_11_code 17 = .ok (.ifCond .ne 7, 3) := by decide +kernel
theorem d_m554_20 : decode prog_5_method_11_code 20 = .ok (.iconst 1, 1) := by decide +kernel
theorem d_m554_21 : decode prog_5_method_11_code 21 = .ok (.goto 4, 3) := by decide +kernel
theorem d_m554_24 : decode prog_5_method_11_code 24 = .ok (.iconst 0, 1) := by decide +kernel
theorem d_m554_25 : decode prog_5_method_11_code 25 = .ok (.ireturn, 1) := by decide +kernel
theorem d_m558_0 : decode prog_8_method_4_code 0 = .ok (.aload_n 0, 1) := by decide +kernel
theorem d_m558_1 : decode prog_8_method_4_code 1 = .ok (.invokevirtual 107, 3) := by decide +kernel
theorem d_m558_4 : decode prog_8_method_4_code 4 = .ok (.aload_n 0, 1) := by decide +kernel
theorem d_m558_5 : decode prog_8_method_4_code 5 = .ok (.getfield 27, 3) := by decide +kernel
theorem d_m558_8 : decode prog_8_method_4_code 8 = .ok (.invokevirtual 116, 3) := by decide +kernel
theorem d_m558_11 : decode prog_8_method_4_code 11 = .ok (.return_, 1) := by decide +kernel
theorem d_m562_0 : decode prog_8_method_10_code 0 = .ok (.aload_n 0, 1) := by decide +kernel
theorem d_m562_1 : decode prog_8_method_10_code 1 = .ok (.getfield 101, 3) := by decide +kernel
theorem d_m562_4 : decode prog_8_method_10_code 4 = .ok (.ifCond .ne 4, 3) := by decide +kernel
theorem d_m562_7 : decode prog_8_method_10_code 7 = .ok (.return_, 1) := by decide +kernel
theorem d_m562_8 : decode prog_8_method_10_code 8 = .ok (.aload_n 0, 1) := by decide +kernel
theorem d_m562_9 : decode prog_8_method_10_code 9 = .ok (.getfield 101, 3) := by decide +kernel
theorem d_m562_12 : decode prog_8_method_10_code 12 = .ok (.invokestatic 119, 3) := by decide +kernel
theorem d_m562_15 : decode prog_8_method_10_code 15 = .ok (.iconst 1, 1) := by decide +kernel
theorem d_m562_16 : decode prog_8_method_10_code 16 = .ok (.isub, 1) := by decide +kernel
theorem d_m562_17 : decode prog_8_method_10_code 17 = .ok (.istore_n 1, 1) := by decide +kernel
theorem d_m562_18 : decode prog_8_method_10_code 18 = .ok (.aload_n 0, 1) := by decide +kernel
theorem d_m562_19 : decode prog_8_method_10_code 19 = .ok (.getfield 27, 3) := by decide +kernel
theorem d_m562_22 : decode prog_8_method_10_code 22 = .ok (.aload_n 0, 1) := by decide +kernel
theorem d_m562_23 : decode prog_8_method_10_code 23 = .ok (.getfield 69, 3) := by decide +kernel
theorem d_m562_26 : decode prog_8_method_10_code 26 = .ok (.bipush 16, 2) := by decide +kernel
theorem d_m562_28 : decode prog_8_method_10_code 28 = .ok (.iload_n 1, 1) := by decide +kernel
theorem d_m562_29 : decode prog_8_method_10_code 29 = .ok (.imul, 1) := by decide +kernel
theorem d_m562_30 : decode prog_8_method_10_code 30 = .ok (.invokevirtual 125, 3) := by decide +kernel
theorem d_m562_33 : decode prog_8_method_10_code 33 = .ok (.aload_n 0, 1) := by decide +kernel
theorem d_m562_34 : decode prog_8_method_10_code 34 = .ok (.getfield 27, 3) := by decide +kernel
theorem d_m562_37 : decode prog_8_method_10_code 37 = .ok (.aload_n 0, 1) := by decide +kernel
theorem d_m562_38 : decode prog_8_method_10_code 38 = .ok (.getfield 101, 3) := by decide +kernel
theorem d_m562_41 : decode prog_8_method_10_code 41 = .ok (.i2l, 1) := by decide +kernel
theorem d_m562_42 : decode prog_8_method_10_code 42 = .ok (.iload_n 1, 1) := by decide +kernel
theorem d_m562_43 : decode prog_8_method_10_code 43 = .ok (.invokevirtual 91, 3) := by decide +kernel
theorem d_m562_46 : decode prog_8_method_10_code 46 = .ok (.iconst 0, 1) := by decide +kernel
theorem d_m562_47 : decode prog_8_method_10_code 47 = .ok (.istore_n 2, 1) := by decide +kernel
theorem d_m562_48 : decode prog_8_method_10_code 48 = .ok (.iload_n 2, 1) := by decide +kernel
theorem d_m562_49 : decode prog_8_method_10_code 49 = .ok (.aload_n 0, 1) := by decide +kernel
theorem d_m562_50 : decode prog_8_method_10_code 50 = .ok (.getfield 104, 3) := by decide +kernel
theorem d_m562_53 : decode prog_8_method_10_code 53 = .ok (.if_icmp .ge 24, 3) := by decide +kernel
theorem d_m562_56 : decode prog_8_method_10_code 56 = .ok (.aload_n 0, 1) := by decide +kernel
theorem d_m562_57 : decode prog_8_method_10_code 57 = .ok (.getfield 27, 3) := by decide +kernel
theorem d_m562_60 : decode prog_8_method_10_code 60 = .ok (.aload_n 0, 1) := by decide +kernel
theorem d_m562_61 : decode prog_8_method_10_code 61 = .ok (.getfield 15, 3) := by decide +kernel
theorem d_m562_64 : decode prog_8_method_10_code 64 = .ok (.iload_n 2, 1) := by decide +kernel
theorem d_m562_65 : decode prog_8_method_10_code 65 = .ok (.baload, 1) := by decide +kernel
theorem d_m562_66 : decode prog_8_method_10_code 66 = .ok (.i2l, 1) := by decide +kernel
theorem d_m562_67 : decode prog_8_method_10_code 67 = .ok (.iconst 1, 1) := by decide +kernel
theorem d_m562_68 : decode prog_8_method_10_code 68 = .ok (.invokevirtual 91, 3) := by decide +kernel
theorem d_m562_71 : decode prog_8_method_10_code 71 = .ok (.iinc 2 1, 3) := by decide +kernel
theorem d_m562_74 : decode prog_8_method_10_code 74 = .ok (.goto (-26), 3) := by decide +kernel
theorem d_m562_77 : decode prog_8_method_10_code 77 = .ok (.aload_n 0, 1) := by decide +kernel
theorem d_m562_78 : decode prog_8_method_10_code 78 = .ok (.iconst 0, 1) := by decide +kernel
theorem d_m562_79 : decode prog_8_method_10_code 79 = .ok (.putfield 101, 3) := by decide +kernel
theorem d_m562_82 : decode prog_8_method_10_code 82 = .ok (.aload_n 0, 1) := by decide +kernel
theorem d_m562_83 : decode prog_8_method_10_code 83 = .ok (.iconst 0, 1) := by decide +kernel
theorem d_m562_84 : decode prog_8_method_10_code 84 = .ok (.putfield 104, 3) := by decide +kernel
theorem d_m562_87 : decode prog_8_method_10_code 87 = .ok (.return_, 1) := by decide +kernel
theorem d_m565_0 : decode prog_1_method_20_code 0 = .ok (.iconst 0, 1) := by decide +kernel
theorem d_m565_1 : decode prog_1_method_20_code 1 = .ok (.istore_n 1, 1) := by decide +kernel
theorem d_m565_2 : decode prog_1_method_20_code 2 = .ok (.iload_n 0, 1) := by decide +kernel
theorem d_m565_3 : decode prog_1_method_20_code 3 = .ok (.invokestatic 207, 3) := by decide +kernel
theorem d_m565_6 : decode prog_1_method_20_code 6 = .ok (.istore_n 2, 1) := by decide +kernel
theorem d_m565_7 : decode prog_1_method_20_code 7 = .ok (.iload_n 2, 1) := by decide +kernel
theorem d_m565_8 : decode prog_1_method_20_code 8 = .ok (.ifCond .le 13, 3) := by decide +kernel
theorem d_m565_11 : decode prog_1_method_20_code 11 = .ok (.iinc 1 1, 3) := by decide +kernel
theorem d_m565_14 : decode prog_1_method_20_code 14 = .ok (.iload_n 2, 1) := by decide +kernel
theorem d_m565_15 : decode prog_1_method_20_code 15 = .ok (.iconst 1, 1) := by decide +kernel
theorem d_m565_16 : decode prog_1_method_20_code 16 = .ok (.ishr, 1) := by decide +kernel
theorem d_m565_17 : decode prog_1_method_20_code 17 = .ok (.istore_n 2, 1) := by decide +kernel
theorem d_m565_18 : decode prog_1_method_20_code 18 = .ok (.goto (-11), 3) := by decide +kernel
theorem d_m565_21 : decode prog_1_method_20_code 21 = .ok (.iload_n 1, 1) := by decide +kernel
theorem d_m565_22 : decode prog_1_method_20_code 22 = .ok (.ireturn, 1) := by decide +kernel
theorem d_m574_0 : decode prog_3_method_3_code 0 = .ok (.aload_n 0, 1) := by decide +kernel
theorem d_m574_1 : decode prog_3_method_3_code 1 = .ok (.getfield 9, 3) := by decide +kernel
theorem d_m574_4 : decode prog_3_method_3_code 4 = .ok (.iload_n 1, 1) := by decide +kernel
theorem d_m574_5 : decode prog_3_method_3_code 5 = .ok (.aaload, 1) := by decide +kernel
theorem d_m574_6 : decode prog_3_method_3_code 6 = .ok (.getfield 36, 3) := by decide +kernel
theorem d_m574_9 : decode prog_3_method_3_code 9 = .ok (.iload_n 2, 1) := by decide +kernel
theorem d_m574_10 : decode prog_3_method_3_code 10 = .ok (.iaload, 1) := by decide +kernel
theorem d_m574_11 : decode prog_3_method_3_code 11 = .ok (.istore_n 3, 1) := by decide +kernel
theorem d_m574_12 : decode prog_3_method_3_code 12 = .ok (.iload_n 3, 1) := by decide +kernel
theorem d_m574_13 : decode prog_3_method_3_code 13 = .ok (.ifCond .ne 11, 3) := by decide +kernel
theorem d_m574_16 : decode prog_3_method_3_code 16 = .ok (.aload_n 0, 1) := by decide +kernel
theorem d_m574_17 : decode prog_3_method_3_code 17 = .ok (.iconst 1, 1) := by decide +kernel
theorem d_m574_18 : decode prog_3_method_3_code 18 = .ok (.putfield 33, 3) := by decide +kernel
theorem d_m574_21 : decode prog_3_method_3_code 21 = .ok (.goto 15, 3) := by decide +kernel
theorem d_m574_24 : decode prog_3_method_3_code 24 = .ok (.aload_n 0, 1) := by decide +kernel
theorem d_m574_25 : decode prog_3_method_3_code 25 = .ok (.iload_n 3, 1) := by decide +kernel
theorem d_m574_26 : decode prog_3_method_3_code 26 = .ok (.i2l, 1) := by decide +kernel
theorem d_m574_27 : decode prog_3_method_3_code 27 = .ok (.iload_n 3, 1) := by decide +kernel
theorem d_m574_28 : decode prog_3_method_3_code 28 = .ok (.invokestatic 42, 3) := by decide +kernel
theorem d_m574_31 : decode prog_3_method_3_code 31 = .ok (.iconst 1, 1) := by decide +kernel
theorem d_m574_32 : decode prog_3_method_3_code 32 = .ok (.isub, 1) := by decide +kernel
theorem d_m574_33 : decode prog_3_method_3_code 33 = .ok (.invokevirtual 46, 3) := by decide +kernel
theorem d_m574_36 : decode prog_3_method_3_code 36 = .ok (.return_, 1) := by decide +kernel
theorem d_m579_0 : decode prog_3_method_4_code 0 = .ok (.iload_n 3, 1) := by decide +kernel
theorem d_m579_1 : decode prog_3_method_4_code 1 = .ok (.iconst 1, 1) := by decide +kernel
theorem d_m579_2 : decode prog_3_method_4_code 2 = .ok (.isub, 1) := by decide +kernel
theorem d_m579_3 : decode prog_3_method_4_code 3 = .ok (.istore 4, 2) := by decide +kernel
theorem d_m579_5 : decode prog_3_method_4_code 5 = .ok (.iload 4, 2) := by decide +kernel
theorem d_m579_7 : decode prog_3_method_4_code 7 = .ok (.ifCond .lt 82, 3) := by decide +kernel
theorem d_m579_10 : decode prog_3_method_4_code 10 = .ok (.aload_n 0, 1) := by decide +kernel
theorem d_m579_11 : decode prog_3_method_4_code 11 = .ok (.aload_n 0, 1) := by decide +kernel
theorem d_m579_12 : decode prog_3_method_4_code 12 = .ok (.getfield 23, 3) := by decide +kernel
theorem d_m579_15 : decode prog_3_method_4_code 15 = .ok (.iconst 1, 1) := by decide +kernel
theorem d_m579_16 : decode prog_3_method_4_code 16 = .ok (.ishl, 1) := by decide +kernel
theorem d_m579_17 : decode prog_3_method_4_code 17 = .ok (.lload_n 1, 1) := by decide +kernel
theorem d_m579_18 : decode prog_3_method_4_code 18 = .ok (.iload 4, 2) := by decide +kernel
theorem d_m579_20 : decode prog_3_method_4_code 20 = .ok (.lushr, 1) := by decide +kernel
theorem d_m579_21 : decode prog_3_method_4_code 21 = .ok (.lconst 1, 1) := by decide +kernel
theorem d_m579_22 : decode prog_3_method_4_code 22 = .ok (.land, 1) := by decide +kernel
theorem d_m579_23 : decode prog_3_method_4_code 23 = .ok (.l2i, 1) := by decide +kernel
theorem d_m579_24 : decode prog_3_method_4_code 24 = .ok (.ior, 1) := by decide +kernel
theorem d_m579_25 : decode prog_3_method_4_code 25 = .ok (.putfield 23, 3) := by decide +kernel
theorem d_m579_28 : decode prog_3_method_4_code 28 = .ok (.aload_n 0, 1) := by decide +kernel
theorem d_m579_29 : decode prog_3_method_4_code 29 = .ok (.dup, 1) := by decide +kernel
theorem d_m579_30 : decode prog_3_method_4_code 30 = .ok (.getfield 27, 3) := by decide +kernel
theorem d_m579_33 : decode prog_3_method_4_code 33 = .ok (.iconst 1, 1) := by decide +kernel
theorem d_m579_34 : decode prog_3_method_4_code 34 = .ok (.iadd, 1) := by decide +kernel
theorem d_m579_35 : decode prog_3_method_4_code 35 = .ok (.putfield 27, 3) := by decide +kernel
theorem d_m579_38 : decode prog_3_method_4_code 38 = .ok (.aload_n 0, 1) := by decide +kernel
theorem d_m579_39 : decode prog_3_method_4_code 39 = .ok (.getfield 27, 3) := by decide +kernel
theorem d_m579_42 : decode prog_3_method_4_code 42 = .ok (.bipush 8, 2) := by decide +kernel
theorem d_m579_44 : decode prog_3_method_4_code 44 = .ok (.if_icmp .ge 6, 3) := by decide +kernel
theorem d_m579_47 : decode prog_3_method_4_code 47 = .ok (.goto 36, 3) := by decide +kernel
theorem d_m579_50 : decode prog_3_method_4_code 50 = .ok (.aload_n 0, 1) := by decide +kernel
theorem d_m579_51 : decode prog_3_method_4_code 51 = .ok (.aload_n 0, 1) := by decide +kernel
theorem d_m579_52 : decode prog_3_method_4_code 52 = .ok (.getfield 23, 3) := by decide +kernel
theorem d_m579_55 : decode prog_3_method_4_code 55 = .ok (.invokevirtual 50, 3) := by decide +kernel
theorem d_m579_58 : decode prog_3_method_4_code 58 = .ok (.aload_n 0, 1) := by decide +kernel
theorem d_m579_59 : decode prog_3_method_4_code 59 = .ok (.getfield 23, 3) := by decide +kernel
theorem d_m579_62 : decode prog_3_method_4_code 62 = .ok (.sipush 255, 3) := by decide +kernel
theorem d_m579_65 : decode prog_3_method_4_code 65 = .ok (.if_icmp .ne 8, 3) := by decide +kernel
theorem d_m579_68 : decode prog_3_method_4_code 68 = .ok (.aload_n 0, 1) := by decide +kernel
theorem d_m579_69 : decode prog_3_method_4_code 69 = .ok (.iconst 0, 1) := by decide +kernel
theorem d_m579_70 : decode prog_3_method_4_code 70 = .ok (.invokevirtual 50, 3) := by decide +kernel
theorem d_m579_73 : decode prog_3_method_4_code 73 = .ok (.aload_n 0, 1) := by decide +kernel
theorem d_m579_74 : decode prog_3_method_4_code 74 = .ok (.iconst 0, 1) := by decide +kernel
theorem d_m579_75 : decode prog_3_method_4_code 75 = .ok (.putfield 23, 3) := by decide +kernel
theorem d_m579_78 : decode prog_3_method_4_code 78 = .ok (.aload_n 0, 1) := by decide +kernel
theorem d_m579_79 : decode prog_3_method_4_code 79 = .ok (.iconst 0, 1) := by decide +kernel
theorem d_m579_80 : decode prog_3_method_4_code 80 = .ok (.putfield 27, 3) := by decide +kernel
theorem d_m579_83 : decode prog_3_method_4_code 83 = .ok (.iinc 4 (-1), 3) := by decide +kernel
theorem d_m579_86 : decode prog_3_method_4_code 86 = .ok (.goto (-81), 3) := by decide +kernel
theorem d_m579_89 : decode prog_3_method_4_code 89 = .ok (.return_, 1) := by decide +kernel
theorem d_m583_0 : decode prog_3_method_5_code 0 = .ok (.aload_n 0, 1) := by decide +kernel
theorem d_m583_1 : decode prog_3_method_5_code 1 = .ok (.getfield 19, 3) := by decide +kernel
theorem d_m583_4 : decode prog_3_method_5_code 4 = .ok (.ifCond .eq 32, 3) := by decide +kernel
theorem d_m583_7 : decode prog_3_method_5_code 7 = .ok (.aload_n 0, 1) := by decide +kernel
theorem d_m583_8 : decode prog_3_method_5_code 8 = .ok (.getfield 30, 3) := by decide +kernel
theorem d_m583_11 : decode prog_3_method_5_code 11 = .ok (.aload_n 0, 1) := by decide +kernel
theorem d_m583_12 : decode prog_3_method_5_code 12 = .ok (.getfield 15, 3) := by decide +kernel
theorem d_m583_15 : decode prog_3_method_5_code 15 = .ok (.getfield 54, 3) := by decide +kernel
theorem d_m583_18 : decode prog_3_method_5_code 18 = .ok (.arraylength, 1) := by decide +kernel
theorem d_m583_19 : decode prog_3_method_5_code 19 = .ok (.if_icmp .ge 17, 3) := by decide +kernel
theorem d_m583_22 : decode prog_3_method_5_code 22 = .ok (.aload_n 0, 1) := by decide +kernel
theorem d_m583_23 : decode prog_3_method_5_code 23 = .ok (.getfield 15, 3) := by decide +kernel
theorem d_m583_26 : decode prog_3_method_5_code 26 = .ok (.getfield 54, 3) := by decide +kernel
theorem d_m583_29 : decode prog_3_method_5_code 29 = .ok (.aload_n 0, 1) := by decide +kernel
theorem d_m583_30 : decode prog_3_method_5_code 30 = .ok (.getfield 30, 3) := by decide +kernel
theorem d_m583_33 : decode prog_3_method_5_code 33 = .ok (.iload_n 1, 1) := by decide +kernel
theorem d_m583_34 : decode prog_3_method_5_code 34 = .ok (.i2b, 1) := by decide +kernel
theorem d_m583_35 : decode prog_3_method_5_code 35 = .ok (.bastore, 1) := by decide +kernel
theorem d_m583_36 : decode prog_3_method_5_code 36 = .ok (.aload_n 0, 1) := by decide +kernel
theorem d_m583_37 : decode prog_3_method_5_code 37 = .ok (.dup, 1) := by decide +kernel
theorem d_m583_38 : decode prog_3_method_5_code 38 = .ok (.getfield 30, 3) := by decide +kernel
theorem d_m583_41 : decode prog_3_method_5_code 41 = .ok (.iconst 1, 1) := by decide +kernel
theorem d_m583_42 : decode prog_3_method_5_code 42 = .ok (.iadd, 1) := by decide +kernel
theorem d_m583_43 : decode prog_3_method_5_code 43 = .ok (.putfield 30, 3) := by decide +kernel
theorem d_m583_46 : decode prog_3_method_5_code 46 = .ok (.return_, 1) := by decide +kernel
theorem d_m586_0 : decode prog_4_method_3_code 0 = .ok (.aload_n 0, 1) := by decide +kernel
theorem d_m586_1 : decode prog_4_method_3_code 1 = .ok (.getfield 9, 3) := by decide +kernel
theorem d_m586_4 : decode prog_4_method_3_code 4 = .ok (.iload_n 1, 1) := by decide +kernel
theorem d_m586_5 : decode prog_4_method_3_code 5 = .ok (.sipush 256, 3) := by decide +kernel
theorem d_m586_8 : decode prog_4_method_3_code 8 = .ok (.imul, 1) := by decide +kernel
theorem d_m586_9 : decode prog_4_method_3_code 9 = .ok (.iload_n 2, 1) := by decide +kernel
theorem d_m586_10 : decode prog_4_method_3_code 10 = .ok (.iadd, 1) := by decide +kernel
theorem d_m586_11 : decode prog_4_method_3_code 11 = .ok (.dup2, 1) := by decide +kernel
theorem d_m586_12 : decode prog_4_method_3_code 12 = .ok (.iaload, 1) := by decide +kernel
theorem d_m586_13 : decode prog_4_method_3_code 13 = .ok (.iconst 1, 1) := by decide +kernel
theorem d_m586_14 : decode prog_4_method_3_code 14 = .ok (.iadd, 1) := by decide +kernel
theorem d_m586_15 : decode prog_4_method_3_code 15 = .ok (.iastore, 1) := by decide +kernel
theorem d_m586_16 : decode prog_4_method_3_code 16 = .ok (.aload_n 0, 1) := by decide +kernel
theorem d_m586_17 : decode prog_4_method_3_code 17 = .ok (.dup, 1) := by decide +kernel
theorem d_m586_18 : decode prog_4_method_3_code 18 = .ok (.getfield 21, 3) := by decide +kernel
theorem d_m586_21 : decode prog_4_method_3_code 21 = .ok (.iconst 1, 1) := by decide +kernel
theorem d_m586_22 : decode prog_4_method_3_code 22 = .ok (.iadd, 1) := by decide +kernel
theorem d_m586_23 : decode prog_4_method_3_code 23 = .ok (.putfield 21, 3) := by decide +kernel
theorem d_m586_26 : decode prog_4_method_3_code 26 = .ok (.return_, 1) := by decide +kernel
theorem d_m593_0 : decode prog_4_method_4_code 0 = .ok (.return_, 1) := by decide +kernel
theorem d_m599_0 : decode prog_3_method_6_code 0 = .ok (.aload_n 0, 1) := by decide +kernel
theorem d_m599_1 : decode prog_3_method_6_code 1 = .ok (.getfield 27, 3) := by decide +kernel
theorem d_m599_4 : decode prog_3_method_6_code 4 = .ok (.ifCond .le 17, 3) := by decide +kernel
theorem d_m599_7 : decode prog_3_method_6_code 7 = .ok (.aload_n 0, 1) := by decide +kernel
theorem d_m599_8 : decode prog_3_method_6_code 8 = .ok (.ldc2_w 60, 3) := by decide +kernel
theorem d_m599_11 : decode prog_3_method_6_code 11 = .ok (.bipush 8, 2) := by decide +kernel
theorem d_m599_13 : decode prog_3_method_6_code 13 = .ok (.aload_n 0, 1) := by decide +kernel
theorem d_m599_14 : decode prog_3_method_6_code 14 = .ok (.getfield 27, 3) := by decide +kernel
theorem d_m599_17 : decode prog_3_method_6_code 17 = .ok (.isub, 1) := by decide +kernel
theorem d_m599_18 : decode prog_3_method_6_code 18 = .ok (.invokevirtual 46, 3) := by decide +kernel
theorem d_m599_21 : decode prog_3_method_6_code 21 = .ok (.return_, 1) := by decide +kernel
theorem d_m603_0 : decode prog_4_method_5_code 0 = .ok (.return_, 1) := by decide +kernel
theorem d_m607_0 : decode prog_5_method_12_code 0 = .ok (.aload_n 0, 1) := by decide +kernel
theorem d_m607_1 : decode prog_5_method_12_code 1 = .ok (.getfield 37, 3) := by decide +kernel
theorem d_m607_4 : decode prog_5_method_12_code 4 = .ok (.ifCond .le 21, 3) := by decide +kernel
theorem d_m607_7 : decode prog_5_method_12_code 7 = .ok (.sipush 208, 3) := by decide +kernel
theorem d_m607_10 : decode prog_5_method_12_code 10 = .ok (.iload_n 1, 1) := by decide +kernel
theorem d_m607_11 : decode prog_5_method_12_code 11 = .ok (.aload_n 0, 1) := by decide +kernel
theorem d_m607_12 : decode prog_5_method_12_code 12 = .ok (.getfield 37, 3) := by decide +kernel
theorem d_m607_15 : decode prog_5_method_12_code 15 = .ok (.idiv, 1) := by decide +kernel
theorem d_m607_16 : decode prog_5_method_12_code 16 = .ok (.iconst 1, 1) := by decide +kernel
theorem d_m607_17 : decode prog_5_method_12_code 17 = .ok (.isub, 1) := by decide +kernel
theorem d_m607_18 : decode prog_5_method_12_code 18 = .ok (.bipush 7, 2) := by decide +kernel
theorem d_m607_20 : decode prog_5_method_12_code 20 = .ok (.iand, 1) := by decide +kernel
theorem d_m607_21 : decode prog_5_method_12_code 21 = .ok (.iadd, 1) := by decide +kernel
theorem d_m607_22 : decode prog_5_method_12_code 22 = .ok (.goto 4, 3) := by decide +kernel
theorem d_m607_25 : decode prog_5_method_12_code 25 = .ok (.iconst (-1), 1) := by decide +kernel
theorem d_m607_26 : decode prog_5_method_12_code 26 = .ok (.ireturn, 1) := by decide +kernel
theorem d_m613_0 : decode prog_3_method_7_code 0 = .ok (.aload_n 0, 1) := by decide +kernel
theorem d_m613_1 : decode prog_3_method_7_code 1 = .ok (.sipush 255, 3) := by decide +kernel
theorem d_m613_4 : decode prog_3_method_7_code 4 = .ok (.invokevirtual 50, 3) := by decide +kernel
theorem d_m613_7 : decode prog_3_method_7_code 7 = .ok (.aload_n 0, 1) := by decide +kernel
theorem d_m613_8 : decode prog_3_method_7_code 8 = .ok (.iload_n 1, 1) := by decide +kernel
theorem d_m613_9 : decode prog_3_method_7_code 9 = .ok (.invokevirtual 50, 3) := by decide +kernel
theorem d_m613_12 : decode prog_3_method_7_code 12 = .ok (.return_, 1) := by decide +kernel
theorem d_m616_0 : decode prog_4_method_6_code 0 = .ok (.return_, 1) := by decide +kernel
theorem d_m620_0 : decode prog_8_method_5_code 0 = .ok (.aload_n 0, 1) := by decide +kernel
theorem d_m620_1 : decode prog_8_method_5_code 1 = .ok (.getfield 19, 3) := by decide +kernel
theorem d_m620_4 : decode prog_8_method_5_code 4 = .ok (.getfield 82, 3) := by decide +kernel
theorem d_m620_7 : decode prog_8_method_5_code 7 = .ok (.iload_n 2, 1) := by decide +kernel
theorem d_m620_8 : decode prog_8_method_5_code 8 = .ok (.saload, 1) := by decide +kernel
theorem d_m620_9 : decode prog_8_method_5_code 9 = .ok (.aload_n 0, 1) := by decide +kernel
theorem d_m620_10 : decode prog_8_method_5_code 10 = .ok (.getfield 23, 3) := by decide +kernel
theorem d_m620_13 : decode prog_8_method_5_code 13 = .ok (.getfield 88, 3) := by decide +kernel
theorem d_m620_16 : decode prog_8_method_5_code 16 = .ok (.ishr, 1) := by decide +kernel
theorem d_m620_17 : decode prog_8_method_5_code 17 = .ok (.istore_n 3, 1) := by decide +kernel
theorem d_m620_18 : decode prog_8_method_5_code 18 = .ok (.iload_n 3, 1) := by decide +kernel
theorem d_m620_19 : decode prog_8_method_5_code 19 = .ok (.aload_n 0, 1) := by decide +kernel
theorem d_m620_20 : decode prog_8_method_5_code 20 = .ok (.getfield 9, 3) := by decide +kernel
theorem d_m620_23 : decode prog_8_method_5_code 23 = .ok (.iload_n 1, 1) := by decide +kernel
theorem d_m620_24 : decode prog_8_method_5_code 24 = .ok (.iaload, 1) := by decide +kernel
theorem d_m620_25 : decode prog_8_method_5_code 25 = .ok (.isub, 1) := by decide +kernel
theorem d_m620_26 : decode prog_8_method_5_code 26 = .ok (.istore 4, 2) := by decide +kernel
theorem d_m620_28 : decode prog_8_method_5_code 28 = .ok (.aload_n 0, 1) := by decide +kernel
theorem d_m620_29 : decode prog_8_method_5_code 29 = .ok (.getfield 9, 3) := by decide +kernel
theorem d_m620_32 : decode prog_8_method_5_code 32 = .ok (.iload_n 1, 1) := by decide +kernel
theorem d_m620_33 : decode prog_8_method_5_code 33 = .ok (.iload_n 3, 1) := by decide +kernel
theorem d_m620_34 : decode prog_8_method_5_code 34 = .ok (.iastore, 1) := by decide +kernel
theorem d_m620_35 : decode prog_8_method_5_code 35 = .ok (.iload 4, 2) := by decide +kernel
theorem d_m620_37 : decode prog_8_method_5_code 37 = .ok (.invokestatic 119, 3) := by decide +kernel
theorem d_m620_40 : decode prog_8_method_5_code 40 = .ok (.istore 5, 2) := by decide +kernel
theorem d_m620_42 : decode prog_8_method_5_code 42 = .ok (.aload_n 0, 1) := by decide +kernel
theorem d_m620_43 : decode prog_8_method_5_code 43 = .ok (.getfield 27, 3) := by decide +kernel
theorem d_m620_46 : decode prog_8_method_5_code 46 = .ok (.aload_n 0, 1) := by decide +kernel
theorem d_m620_47 : decode prog_8_method_5_code 47 = .ok (.getfield 23, 3) := by decide +kernel
theorem d_m620_50 : decode prog_8_method_5_code 50 = .ok (.getfield 122, 3) := by decide +kernel
theorem d_m620_53 : decode prog_8_method_5_code 53 = .ok (.iload_n 1, 1) := by decide +kernel
theorem d_m620_54 : decode prog_8_method_5_code 54 = .ok (.iaload, 1) := by decide +kernel
theorem d_m620_55 : decode prog_8_method_5_code 55 = .ok (.iload 5, 2) := by decide +kernel
theorem d_m620_57 : decode prog_8_method_5_code 57 = .ok (.invokevirtual 125, 3) := by decide +kernel
theorem d_m620_60 : decode prog_8_method_5_code 60 = .ok (.aload_n 0, 1) := by decide +kernel
theorem d_m620_61 : decode prog_8_method_5_code 61 = .ok (.getfield 27, 3) := by decide +kernel
theorem d_m620_64 : decode prog_8_method_5_code 64 = .ok (.iload 4, 2) := by decide +kernel
theorem d_m620_66 : decode prog_8_method_5_code 66 = .ok (.ifCond .le 9, 3) := by decide +kernel
theorem d_m620_69 : decode prog_8_method_5_code 69 = .ok (.iload 4, 2) := by decide +kernel
theorem d_m620_71 : decode prog_8_method_5_code 71 = .ok (.i2l, 1) := by decide +kernel
theorem d_m620_72 : decode prog_8_method_5_code 72 = .ok (.goto 8, 3) := by decide +kernel
theorem d_m620_75 : decode prog_8_method_5_code 75 = .ok (.iload 4, 2) := by decide +kernel
theorem d_m620_77 : decode prog_8_method_5_code 77 = .ok (.iconst 1, 1) := by decide +kernel
theorem d_m620_78 : decode prog_8_method_5_code 78 = .ok (.isub, 1) := by decide +kernel
theorem d_m620_79 : decode prog_8_method_5_code 79 = .ok (.i2l, 1) := by decide +kernel
theorem d_m620_80 : decode prog_8_method_5_code 80 = .ok (.iload 5, 2) := by decide +kernel
theorem d_m620_82 : decode prog_8_method_5_code 82 = .ok (.invokevirtual 91, 3) := by decide +kernel
theorem d_m620_85 : decode prog_8_method_5_code 85 = .ok (.return_, 1) := by decide +kernel
theorem d_m624_0 : decode prog_8_method_6_code 0 = .ok (.iconst 0, 1) := by decide +kernel
theorem d_m624_1 : decode prog_8_method_6_code 1 = .ok (.istore_n 3, 1) := by decide +kernel
theorem d_m624_2 : decode prog_8_method_6_code 2 = .ok (.iload_n 2, 1) := by decide +kernel
theorem d_m624_3 : decode prog_8_method_6_code 3 = .ok (.istore 4, 2) := by decide +kernel
theorem d_m624_5 : decode prog_8_method_6_code 5 = .ok (.iload 4, 2) := by decide +kernel
theorem d_m624_7 : decode prog_8_method_6_code 7 = .ok (.aload_n 0, 1) := by decide +kernel
theorem d_m624_8 : decode prog_8_method_6_code 8 = .ok (.getfield 23, 3) := by decide +kernel
theorem d_m624_11 : decode prog_8_method_6_code 11 = .ok (.getfield 128, 3) := by decide +kernel
theorem d_m624_14 : decode prog_8_method_6_code 14 = .ok (.if_icmp .gt 132, 3) := by decide +kernel
theorem d_m624_17 : decode prog_8_method_6_code 17 = .ok (.aload_n 0, 1) := by decide +kernel
theorem d_m624_18 : decode prog_8_method_6_code 18 = .ok (.getfield 19, 3) := by decide +kernel
theorem d_m624_21 : decode prog_8_method_6_code 21 = .ok (.getfield 82, 3) := by decide +kernel
theorem d_m624_24 : decode prog_8_method_6_code 24 = .ok (.iload_n 1, 1) := by decide +kernel
theorem d_m624_25 : decode prog_8_method_6_code 25 = .ok (.iload 4, 2) := by decide +kernel
theorem d_m624_27 : decode prog_8_method_6_code 27 = .ok (.iadd, 1) := by decide +kernel
theorem d_m624_28 : decode prog_8_method_6_code 28 = .ok (.saload, 1) := by decide +kernel
theorem d_m624_29 : decode prog_8_method_6_code 29 = .ok (.istore 5, 2) := by decide +kernel
theorem d_m624_31 : decode prog_8_method_6_code 31 = .ok (.iload 5, 2) := by decide +kernel
theorem d_m624_33 : decode prog_8_method_6_code 33 = .ok (.invokestatic 131, 3) := by decide +kernel
theorem d_m624_36 : decode prog_8_method_6_code 36 = .ok (.aload_n 0, 1) := by decide +kernel
theorem d_m624_37 : decode prog_8_method_6_code 37 = .ok (.getfield 23, 3) := by decide +kernel
theorem d_m624_40 : decode prog_8_method_6_code 40 = .ok (.getfield 88, 3) := by decide +kernel
theorem d_m624_43 : decode prog_8_method_6_code 43 = .ok (.ishr, 1) := by decide +kernel
theorem d_m624_44 : decode prog_8_method_6_code 44 = .ok (.istore 6, 2) := by decide +kernel
theorem d_m624_46 : decode prog_8_method_6_code 46 = .ok (.iload 6, 2) := by decide +kernel
theorem d_m624_48 : decode prog_8_method_6_code 48 = .ok (.ifCond .ne 9, 3) := by decide +kernel
theorem d_m624_51 : decode prog_8_method_6_code 51 = .ok (.iinc 3 1, 3) := by decide +kernel
theorem d_m624_54 : decode prog_8_method_6_code 54 = .ok (.goto 86, 3) := by decide +kernel
theorem d_m624_57 : decode prog_8_method_6_code 57 = .ok (.aload_n 0, 1) := by decide +kernel
theorem d_m624_58 : decode prog_8_method_6_code 58 = .ok (.invokevirtual 107, 3) := by decide +kernel
theorem d_m624_61 : decode prog_8_method_6_code 61 = .ok (.iload_n 3, 1) := by decide +kernel
theorem d_m624_62 : decode prog_8_method_6_code 62 = .ok (.bipush 15, 2) := by decide +kernel
theorem d_m624_64 : decode prog_8_method_6_code 64 = .ok (.if_icmp .le 23, 3) := by decide +kernel
theorem d_m624_67 : decode prog_8_method_6_code 67 = .ok (.aload_n 0, 1) := by decide +kernel
theorem d_m624_68 : decode prog_8_method_6_code 68 = .ok (.getfield 27, 3) := by decide +kernel
theorem d_m624_71 : decode prog_8_method_6_code 71 = .ok (.aload_n 0, 1) := by decide +kernel
theorem d_m624_72 : decode prog_8_method_6_code 72 = .ok (.getfield 69, 3) := by decide +kernel
theorem d_m624_75 : decode prog_8_method_6_code 75 = .ok (.sipush 240, 3) := by decide +kernel
theorem d_m624_78 : decode prog_8_method_6_code 78 = .ok (.invokevirtual 125, 3) := by decide +kernel
theorem d_m624_81 : decode prog_8_method_6_code 81 = .ok (.iinc 3 (-16), 3) := by decide +kernel
theorem d_m624_84 : decode prog_8_method_6_code 84 = .ok (.goto (-23), 3) := by decide +kernel
theorem d_m624_87 : decode prog_8_method_6_code 87 = .ok (.iload 6, 2) := by decide +kernel
theorem d_m624_89 : decode prog_8_method_6_code 89 = .ok (.invokestatic 119, 3) := by decide +kernel
theorem d_m624_92 : decode prog_8_method_6_code 92 = .ok (.istore 7, 2) := by decide +kernel
theorem d_m624_94 : decode prog_8_method_6_code 94 = .ok (.aload_n 0, 1) := by decide +kernel
theorem d_m624_95 : decode prog_8_method_6_code 95 = .ok (.getfield 27, 3) := by decide +kernel
theorem d_m624_98 : decode prog_8_method_6_code 98 = .ok (.aload_n 0, 1) := by decide +kernel
theorem d_m624_99 : decode prog_8_method_6_code 99 = .ok (.getfield 69, 3) := by decide +kernel
theorem d_m624_102 : decode prog_8_method_6_code 102 = .ok (.bipush 16, 2) := by decide +kernel
theorem d_m624_104 : decode prog_8_method_6_code 104 = .ok (.iload_n 3, 1) := by decide +kernel
theorem d_m624_105 : decode prog_8_method_6_code 105 = .ok (.imul, 1) := by decide +kernel
theorem d_m624_106 : decode prog_8_method_6_code 106 = .ok (.iload 7, 2) := by decide +kernel
theorem d_m624_108 : decode prog_8_method_6_code 108 = .ok (.iadd, 1) := by decide +kernel
theorem d_m624_109 : decode prog_8_method_6_code 109 = .ok (.invokevirtual 125, 3) := by decide +kernel
theorem d_m624_112 : decode prog_8_method_6_code 112 = .ok (.aload_n 0, 1) := by decide +kernel
theorem d_m624_113 : decode prog_8_method_6_code 113 = .ok (.getfield 27, 3) := by decide +kernel
theorem d_m624_116 : decode prog_8_method_6_code 116 = .ok (.iload 5, 2) := by decide +kernel
theorem d_m624_118 : decode prog_8_method_6_code 118 = .ok (.ifCond .le 9, 3) := by decide +kernel
theorem d_m624_121 : decode prog_8_method_6_code 121 = .ok (.iload 6, 2) := by decide +kernel
theorem d_m624_123 : decode prog_8_method_6_code 123 = .ok (.i2l, 1) := by decide +kernel
theorem d_m624_124 : decode prog_8_method_6_code 124 = .ok (.goto 9, 3) := by decide +kernel
theorem d_m624_127 : decode prog_8_method_6_code 127 = .ok (.iload 6, 2) := by decide +kernel
theorem d_m624_129 : decode prog_8_method_6_code 129 = .ok (.ineg, 1) := by decide +kernel
theorem d_m624_130 : decode prog_8_method_6_code 130 = .ok (.iconst 1, 1) := by decide +kernel
theorem d_m624_131 : decode prog_8_method_6_code 131 = .ok (.isub, 1) := by decide +kernel
theorem d_m624_132 : decode prog_8_method_6_code 132 = .ok (.i2l, 1) := by decide +kernel
theorem d_m624_133 : decode prog_8_method_6_code 133 = .ok (.iload 7, 2) := by decide +kernel
theorem d_m624_135 : decode prog_8_method_6_code 135 = .ok (.invokevirtual 91, 3) := by decide +kernel
theorem d_m624_138 : decode prog_8_method_6_code 138 = .ok (.iconst 0, 1) := by decide +kernel
theorem d_m624_139 : decode prog_8_method_6_code 139 = .ok (.istore_n 3, 1) := by decide +kernel
theorem d_m624_140 : decode prog_8_method_6_code 140 = .ok (.iinc 4 1, 3) := by decide +kernel
theorem d_m624_143 : decode prog_8_method_6_code 143 = .ok (.goto (-138), 3) := by decide +kernel
theorem d_m624_146 : decode prog_8_method_6_code 146 = .ok (.iload_n 3, 1) := by decide +kernel
theorem d_m624_147 : decode prog_8_method_6_code 147 = .ok (.ifCond .le 28, 3) := by decide +kernel
theorem d_m624_150 : decode prog_8_method_6_code 150 = .ok (.aload_n 0, 1) := by decide +kernel
theorem d_m624_151 : decode prog_8_method_6_code 151 = .ok (.getfield 23, 3) := by decide +kernel
theorem d_m624_154 : decode prog_8_method_6_code 154 = .ok (.getfield 72, 3) := by decide +kernel
theorem d_m624_157 : decode prog_8_method_6_code 157 = .ok (.ifCond .ne 18, 3) := by decide +kernel
theorem d_m624_160 : decode prog_8_method_6_code 160 = .ok (.aload_n 0, 1) := by decide +kernel
theorem d_m624_161 : decode prog_8_method_6_code 161 = .ok (.getfield 27, 3) := by decide +kernel
theorem d_m624_164 : decode prog_8_method_6_code 164 = .ok (.aload_n 0, 1) := by decide +kernel
theorem d_m624_165 : decode prog_8_method_6_code 165 = .ok (.getfield 69, 3) := by decide +kernel
theorem d_m624_168 : decode prog_8_method_6_code 168 = .ok (.iconst 0, 1) := by decide +kernel
theorem d_m624_169 : decode prog_8_method_6_code 169 = .ok (.invokevirtual 125, 3) := by decide +kernel
theorem d_m624_172 : decode prog_8_method_6_code 172 = .ok (.goto 13, 3) := by decide +kernel
theorem d_m624_175 : decode prog_8_method_6_code 175 = .ok (.iload_n 3, 1) := by decide +kernel
theorem d_m624_176 : decode prog_8_method_6_code 176 = .ok (.ifCond .le 9, 3) := by decide +kernel
theorem d_m624_179 : decode prog_8_method_6_code 179 = .ok (.aload_n 0, 1) := by decide +kernel
theorem d_m624_180 : decode prog_8_method_6_code 180 = .ok (.lconst 0, 1) := by decide +kernel
theorem d_m624_181 : decode prog_8_method_6_code 181 = .ok (.iconst 0, 1) := by decide +kernel
theorem d_m624_182 : decode prog_8_method_6_code 182 = .ok (.invokevirtual 136, 3) := by decide +kernel
theorem d_m624_185 : decode prog_8_method_6_code 185 = .ok (.return_, 1) := by decide +kernel
theorem d_m629_0 : decode prog_8_method_9_code 0 = .ok (.aload_n 0, 1) := by decide +kernel
theorem d_m629_1 : decode prog_8_method_9_code 1 = .ok (.dup, 1) := by decide +kernel
theorem d_m629_2 : decode prog_8_method_9_code 2 = .ok (.getfield 101, 3) := by decide +kernel
theorem d_m629_5 : decode prog_8_method_9_code 5 = .ok (.iconst 1, 1) := by decide +kernel
theorem d_m629_6 : decode prog_8_method_9_code 6 = .ok (.iadd, 1) := by decide +kernel
theorem d_m629_7 : decode prog_8_method_9_code 7 = .ok (.putfield 101, 3) := by decide +kernel
theorem d_m629_10 : decode prog_8_method_9_code 10 = .ok (.iload_n 3, 1) := by decide +kernel
theorem d_m629_11 : decode prog_8_method_9_code 11 = .ok (.iconst 1, 1) := by decide +kernel
theorem d_m629_12 : decode prog_8_method_9_code 12 = .ok (.isub, 1) := by decide +kernel
theorem d_m629_13 : decode prog_8_method_9_code 13 = .ok (.istore 4, 2) := by decide +kernel
theorem d_m629_15 : decode prog_8_method_9_code 15 = .ok (.iload 4, 2) := by decide +kernel
theorem d_m629_17 : decode prog_8_method_9_code 17 = .ok (.ifCond .lt 48, 3) := by decide +kernel
theorem d_m629_20 : decode prog_8_method_9_code 20 = .ok (.aload_n 0, 1) := by decide +kernel
theorem d_m629_21 : decode prog_8_method_9_code 21 = .ok (.getfield 104, 3) := by decide +kernel
theorem d_m629_24 : decode prog_8_method_9_code 24 = .ok (.aload_n 0, 1) := by decide +kernel
theorem d_m629_25 : decode prog_8_method_9_code 25 = .ok (.getfield 15, 3) := by decide +kernel
theorem d_m629_28 : decode prog_8_method_9_code 28 = .ok (.arraylength, 1) := by decide +kernel
theorem d_m629_29 : decode prog_8_method_9_code 29 = .ok (.if_icmp .ge 36, 3) := by decide +kernel
theorem d_m629_32 : decode prog_8_method_9_code 32 = .ok (.aload_n 0, 1) := by decide +kernel
theorem d_m629_33 : decode prog_8_method_9_code 33 = .ok (.getfield 15, 3) := by decide +kernel
theorem d_m629_36 : decode prog_8_method_9_code 36 = .ok (.aload_n 0, 1) := by decide +kernel
theorem d_m629_37 : decode prog_8_method_9_code 37 = .ok (.getfield 104, 3) := by decide +kernel
theorem d_m629_40 : decode prog_8_method_9_code 40 = .ok (.lload_n 1, 1) := by decide +kernel
theorem d_m629_41 : decode prog_8_method_9_code 41 = .ok (.iload 4, 2) := by decide +kernel
theorem d_m629_43 : decode prog_8_method_9_code 43 = .ok (.lushr, 1) := by decide +kernel
theorem d_m629_44 : decode prog_8_method_9_code 44 = .ok (.lconst 1, 1) := by decide +kernel
