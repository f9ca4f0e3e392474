theorem d_m790_8 : decode prog_11_method_4_code 8 = .ok (.if_icmp .gt 15, 3) := by decide +kernel
theorem d_m790_11 : decode prog_11_method_4_code 11 = .ok (.aload_n 0, 1) := by decide +kernel
theorem d_m790_12 : decode prog_11_method_4_code 12 = .ok (.getfield 15, 3) := by decide +kernel
theorem d_m790_15 : decode prog_11_method_4_code 15 = .ok (.iload_n 3, 1) := by decide +kernel
theorem d_m790_16 : decode prog_11_method_4_code 16 = .ok (.iadd, 1) := by decide +kernel
theorem d_m790_17 : decode prog_11_method_4_code 17 = .ok (.sipush 16384, 3) := by decide +kernel
theorem d_m790_20 : decode prog_11_method_4_code 20 = .ok (.if_icmp .le 5, 3) := by decide +kernel
theorem d_m790_23 : decode prog_11_method_4_code 23 = .ok (.iconst 0, 1) := by decide +kernel
theorem d_m790_24 : decode prog_11_method_4_code 24 = .ok (.ireturn, 1) := by decide +kernel
theorem d_m790_25 : decode prog_11_method_4_code 25 = .ok (.aload_n 0, 1) := by decide +kernel
theorem d_m790_26 : decode prog_11_method_4_code 26 = .ok (.aload_n 0, 1) := by decide +kernel
theorem d_m790_27 : decode prog_11_method_4_code 27 = .ok (.getfield 15, 3) := by decide +kernel
theorem d_m790_30 : decode prog_11_method_4_code 30 = .ok (.iload_n 3, 1) := by decide +kernel
theorem d_m790_31 : decode prog_11_method_4_code 31 = .ok (.iadd, 1) := by decide +kernel
theorem d_m790_32 : decode prog_11_method_4_code 32 = .ok (.invokevirtual 34, 3) := by decide +kernel
theorem d_m790_35 : decode prog_11_method_4_code 35 = .ok (.iload_n 3, 1) := by decide +kernel
theorem d_m790_36 : decode prog_11_method_4_code 36 = .ok (.iconst 1, 1) := by decide +kernel
theorem d_m790_37 : decode prog_11_method_4_code 37 = .ok (.isub, 1) := by decide +kernel
theorem d_m790_38 : decode prog_11_method_4_code 38 = .ok (.istore 4, 2) := by decide +kernel
theorem d_m790_40 : decode prog_11_method_4_code 40 = .ok (.iload 4, 2) := by decide +kernel
theorem d_m790_42 : decode prog_11_method_4_code 42 = .ok (.ifCond .lt 37, 3) := by decide +kernel
theorem d_m790_45 : decode prog_11_method_4_code 45 = .ok (.aload_n 0, 1) := by decide +kernel
theorem d_m790_46 : decode prog_11_method_4_code 46 = .ok (.getfield 9, 3) := by decide +kernel
theorem d_m790_49 : decode prog_11_method_4_code 49 = .ok (.aload_n 0, 1) := by decide +kernel
theorem d_m790_50 : decode prog_11_method_4_code 50 = .ok (.getfield 15, 3) := by decide +kernel
theorem d_m790_53 : decode prog_11_method_4_code 53 = .ok (.lload_n 1, 1) := by decide +kernel
theorem d_m790_54 : decode prog_11_method_4_code 54 = .ok (.bipush 8, 2) := by decide +kernel
theorem d_m790_56 : decode prog_11_method_4_code 56 = .ok (.iload 4, 2) := by decide +kernel
theorem d_m790_58 : decode prog_11_method_4_code 58 = .ok (.imul, 1) := by decide +kernel
theorem d_m790_59 : decode prog_11_method_4_code 59 = .ok (.lushr, 1) := by decide +kernel
theorem d_m790_60 : decode prog_11_method_4_code 60 = .ok (.l2i, 1) := by decide +kernel
theorem d_m790_61 : decode prog_11_method_4_code 61 = .ok (.i2b, 1) := by decide +kernel
theorem d_m790_62 : decode prog_11_method_4_code 62 = .ok (.bastore, 1) := by decide +kernel
theorem d_m790_63 : decode prog_11_method_4_code 63 = .ok (.aload_n 0, 1) := by decide +kernel
theorem d_m790_64 : decode prog_11_method_4_code 64 = .ok (.dup, 1) := by decide +kernel
theorem d_m790_65 : decode prog_11_method_4_code 65 = .ok (.getfield 15, 3) := by decide +kernel
theorem d_m790_68 : decode prog_11_method_4_code 68 = .ok (.iconst 1, 1) := by decide +kernel
theorem d_m790_69 : decode prog_11_method_4_code 69 = .ok (.iadd, 1) := by decide +kernel
theorem d_m790_70 : decode prog_11_method_4_code 70 = .ok (.putfield 15, 3) := by decide +kernel
theorem d_m790_73 : decode prog_11_method_4_code 73 = .ok (.iinc 4 (-1), 3) := by decide +kernel
theorem d_m790_76 : decode prog_11_method_4_code 76 = .ok (.goto (-36), 3) := by decide +kernel
theorem d_m790_79 : decode prog_11_method_4_code 79 = .ok (.iconst 1, 1) := by decide +kernel
theorem d_m790_80 : decode prog_11_method_4_code 80 = .ok (.ireturn, 1) := by decide +kernel
theorem d_m795_0 : decode prog_1_method_16_code 0 = .ok (.iload_n 1, 1) := by decide +kernel
theorem d_m795_1 : decode prog_1_method_16_code 1 = .ok (.ifCond .lt 14, 3) := by decide +kernel
theorem d_m795_4 : decode prog_1_method_16_code 4 = .ok (.iload_n 1, 1) := by decide +kernel
theorem d_m795_5 : decode prog_1_method_16_code 5 = .ok (.aload_n 0, 1) := by decide +kernel
theorem d_m795_6 : decode prog_1_method_16_code 6 = .ok (.getfield 42, 3) := by decide +kernel
theorem d_m795_9 : decode prog_1_method_16_code 9 = .ok (.getfield 169, 3) := by decide +kernel
theorem d_m795_12 : decode prog_1_method_16_code 12 = .ok (.if_icmp .le 5, 3) := by decide +kernel
theorem d_m795_15 : decode prog_1_method_16_code 15 = .ok (.iconst 0, 1) := by decide +kernel
theorem d_m795_16 : decode prog_1_method_16_code 16 = .ok (.ireturn, 1) := by decide +kernel
theorem d_m795_17 : decode prog_1_method_16_code 17 = .ok (.aload_n 0, 1) := by decide +kernel
theorem d_m795_18 : decode prog_1_method_16_code 18 = .ok (.getfield 42, 3) := by decide +kernel
theorem d_m795_21 : decode prog_1_method_16_code 21 = .ok (.iload_n 1, 1) := by decide +kernel
theorem d_m795_22 : decode prog_1_method_16_code 22 = .ok (.putfield 169, 3) := by decide +kernel
theorem d_m795_25 : decode prog_1_method_16_code 25 = .ok (.iconst 1, 1) := by decide +kernel
theorem d_m795_26 : decode prog_1_method_16_code 26 = .ok (.ireturn, 1) := by decide +kernel
theorem d_m799_0 : decode prog_1_method_17_code 0 = .ok (.aload_n 0, 1) := by decide +kernel
theorem d_m799_1 : decode prog_1_method_17_code 1 = .ok (.getfield 42, 3) := by decide +kernel
theorem d_m799_4 : decode prog_1_method_17_code 4 = .ok (.iload_n 1, 1) := by decide +kernel
theorem d_m799_5 : decode prog_1_method_17_code 5 = .ok (.invokevirtual 183, 3) := by decide +kernel
theorem d_m799_8 : decode prog_1_method_17_code 8 = .ok (.ireturn, 1) := by decide +kernel
theorem d_m804_0 : decode prog_1_method_18_code 0 = .ok (.iload_n 1, 1) := by decide +kernel
theorem d_m804_1 : decode prog_1_method_18_code 1 = .ok (.tableswitch 84 0 5 #[39, 47, 55, 63, 71, 79], 39) := by decide +kernel
theorem d_m804_40 : decode prog_1_method_18_code 40 = .ok (.aload_n 0, 1) := by decide +kernel
theorem d_m804_41 : decode prog_1_method_18_code 41 = .ok (.getfield 42, 3) := by decide +kernel
theorem d_m804_44 : decode prog_1_method_18_code 44 = .ok (.getfield 169, 3) := by decide +kernel
theorem d_m804_47 : decode prog_1_method_18_code 47 = .ok (.ireturn, 1) := by decide +kernel
theorem d_m804_48 : decode prog_1_method_18_code 48 = .ok (.aload_n 0, 1) := by decide +kernel
theorem d_m804_49 : decode prog_1_method_18_code 49 = .ok (.getfield 10, 3) := by decide +kernel
theorem d_m804_52 : decode prog_1_method_18_code 52 = .ok (.getfield 187, 3) := by decide +kernel
theorem d_m804_55 : decode prog_1_method_18_code 55 = .ok (.ireturn, 1) := by decide +kernel
theorem d_m804_56 : decode prog_1_method_18_code 56 = .ok (.aload_n 0, 1) := by decide +kernel
theorem d_m804_57 : decode prog_1_method_18_code 57 = .ok (.getfield 21, 3) := by decide +kernel
theorem d_m804_60 : decode prog_1_method_18_code 60 = .ok (.getfield 190, 3) := by decide +kernel
theorem d_m804_63 : decode prog_1_method_18_code 63 = .ok (.ireturn, 1) := by decide +kernel
theorem d_m804_64 : decode prog_1_method_18_code 64 = .ok (.aload_n 0, 1) := by decide +kernel
theorem d_m804_65 : decode prog_1_method_18_code 65 = .ok (.getfield 21, 3) := by decide +kernel
theorem d_m804_68 : decode prog_1_method_18_code 68 = .ok (.getfield 138, 3) := by decide +kernel
theorem d_m804_71 : decode prog_1_method_18_code 71 = .ok (.ireturn, 1) := by decide +kernel
theorem d_m804_72 : decode prog_1_method_18_code 72 = .ok (.aload_n 0, 1) := by decide +kernel
theorem d_m804_73 : decode prog_1_method_18_code 73 = .ok (.getfield 10, 3) := by decide +kernel
theorem d_m804_76 : decode prog_1_method_18_code 76 = .ok (.invokevirtual 193, 3) := by decide +kernel
theorem d_m804_79 : decode prog_1_method_18_code 79 = .ok (.ireturn, 1) := by decide +kernel
theorem d_m804_80 : decode prog_1_method_18_code 80 = .ok (.aload_n 0, 1) := by decide +kernel
theorem d_m804_81 : decode prog_1_method_18_code 81 = .ok (.invokevirtual 197, 3) := by decide +kernel
theorem d_m804_84 : decode prog_1_method_18_code 84 = .ok (.ireturn, 1) := by decide +kernel
theorem d_m804_85 : decode prog_1_method_18_code 85 = .ok (.iload_n 1, 1) := by decide +kernel
theorem d_m804_86 : decode prog_1_method_18_code 86 = .ok (.bipush 8, 2) := by decide +kernel
theorem d_m804_88 : decode prog_1_method_18_code 88 = .ok (.if_icmp .ge 7, 3) := by decide +kernel
theorem d_m804_91 : decode prog_1_method_18_code 91 = .ok (.iconst (-1), 1) := by decide +kernel
theorem d_m804_92 : decode prog_1_method_18_code 92 = .ok (.goto 19, 3) := by decide +kernel
theorem d_m804_95 : decode prog_1_method_18_code 95 = .ok (.aload_n 0, 1) := by decide +kernel
theorem d_m804_96 : decode prog_1_method_18_code 96 = .ok (.getfield 10, 3) := by decide +kernel
theorem d_m804_99 : decode prog_1_method_18_code 99 = .ok (.iload_n 1, 1) := by decide +kernel
theorem d_m804_100 : decode prog_1_method_18_code 100 = .ok (.bipush 8, 2) := by decide +kernel
theorem d_m804_102 : decode prog_1_method_18_code 102 = .ok (.isub, 1) := by decide +kernel
theorem d_m804_103 : decode prog_1_method_18_code 103 = .ok (.iconst 4, 1) := by decide +kernel
theorem d_m804_104 : decode prog_1_method_18_code 104 = .ok (.idiv, 1) := by decide +kernel
theorem d_m804_105 : decode prog_1_method_18_code 105 = .ok (.iload_n 1, 1) := by decide +kernel
theorem d_m804_106 : decode prog_1_method_18_code 106 = .ok (.iconst 4, 1) := by decide +kernel
theorem d_m804_107 : decode prog_1_method_18_code 107 = .ok (.irem, 1) := by decide +kernel
theorem d_m804_108 : decode prog_1_method_18_code 108 = .ok (.invokevirtual 200, 3) := by decide +kernel
theorem d_m804_111 : decode prog_1_method_18_code 111 = .ok (.ireturn, 1) := by decide +kernel
theorem d_m808_0 : decode prog_9_method_10_code 0 = .ok (.iconst 0, 1) := by decide +kernel
theorem d_m808_1 : decode prog_9_method_10_code 1 = .ok (.istore_n 1, 1) := by decide +kernel
theorem d_m808_2 : decode prog_9_method_10_code 2 = .ok (.iconst 0, 1) := by decide +kernel
theorem d_m808_3 : decode prog_9_method_10_code 3 = .ok (.istore_n 2, 1) := by decide +kernel
theorem d_m808_4 : decode prog_9_method_10_code 4 = .ok (.iload_n 2, 1) := by decide +kernel
theorem d_m808_5 : decode prog_9_method_10_code 5 = .ok (.aload_n 0, 1) := by decide +kernel
theorem d_m808_6 : decode prog_9_method_10_code 6 = .ok (.getfield 66, 3) := by decide +kernel
theorem d_m808_9 : decode prog_9_method_10_code 9 = .ok (.bipush 64, 2) := by decide +kernel
theorem d_m808_11 : decode prog_9_method_10_code 11 = .ok (.imul, 1) := by decide +kernel
theorem d_m808_12 : decode prog_9_method_10_code 12 = .ok (.if_icmp .ge 21, 3) := by decide +kernel
theorem d_m808_15 : decode prog_9_method_10_code 15 = .ok (.aload_n 0, 1) := by decide +kernel
theorem d_m808_16 : decode prog_9_method_10_code 16 = .ok (.getfield 33, 3) := by decide +kernel
theorem d_m808_19 : decode prog_9_method_10_code 19 = .ok (.iload_n 2, 1) := by decide +kernel
theorem d_m808_20 : decode prog_9_method_10_code 20 = .ok (.saload, 1) := by decide +kernel
theorem d_m808_21 : decode prog_9_method_10_code 21 = .ok (.ifCond .eq 6, 3) := by decide +kernel
theorem d_m808_24 : decode prog_9_method_10_code 24 = .ok (.iinc 1 1, 3) := by decide +kernel
theorem d_m808_27 : decode prog_9_method_10_code 27 = .ok (.iinc 2 1, 3) := by decide +kernel
theorem d_m808_30 : decode prog_9_method_10_code 30 = .ok (.goto (-26), 3) := by decide +kernel
theorem d_m808_33 : decode prog_9_method_10_code 33 = .ok (.iload_n 1, 1) := by decide +kernel
theorem d_m808_34 : decode prog_9_method_10_code 34 = .ok (.ireturn, 1) := by decide +kernel
theorem d_m812_0 : decode prog_1_method_19_code 0 = .ok (.iconst 0, 1) := by decide +kernel
theorem d_m812_1 : decode prog_1_method_19_code 1 = .ok (.istore_n 1, 1) := by decide +kernel
theorem d_m812_2 : decode prog_1_method_19_code 2 = .ok (.iconst 0, 1) := by decide +kernel
theorem d_m812_3 : decode prog_1_method_19_code 3 = .ok (.istore_n 2, 1) := by decide +kernel
theorem d_m812_4 : decode prog_1_method_19_code 4 = .ok (.iload_n 2, 1) := by decide +kernel
theorem d_m812_5 : decode prog_1_method_19_code 5 = .ok (.bipush 8, 2) := by decide +kernel
theorem d_m812_7 : decode prog_1_method_19_code 7 = .ok (.if_icmp .ge 21, 3) := by decide +kernel
theorem d_m812_10 : decode prog_1_method_19_code 10 = .ok (.iload_n 1, 1) := by decide +kernel
theorem d_m812_11 : decode prog_1_method_19_code 11 = .ok (.aload_n 0, 1) := by decide +kernel
theorem d_m812_12 : decode prog_1_method_19_code 12 = .ok (.getfield 34, 3) := by decide +kernel
theorem d_m812_15 : decode prog_1_method_19_code 15 = .ok (.iload_n 2, 1) := by decide +kernel
theorem d_m812_16 : decode prog_1_method_19_code 16 = .ok (.aaload, 1) := by decide +kernel
theorem d_m812_17 : decode prog_1_method_19_code 17 = .ok (.getfield 204, 3) := by decide +kernel
theorem d_m812_20 : decode prog_1_method_19_code 20 = .ok (.iadd, 1) := by decide +kernel
theorem d_m812_21 : decode prog_1_method_19_code 21 = .ok (.istore_n 1, 1) := by decide +kernel
theorem d_m812_22 : decode prog_1_method_19_code 22 = .ok (.iinc 2 1, 3) := by decide +kernel
theorem d_m812_25 : decode prog_1_method_19_code 25 = .ok (.goto (-21), 3) := by decide +kernel
theorem d_m812_28 : decode prog_1_method_19_code 28 = .ok (.iload_n 1, 1) := by decide +kernel
theorem d_m812_29 : decode prog_1_method_19_code 29 = .ok (.ireturn, 1) := by decide +kernel
theorem d_m816_0 : decode prog_9_method_11_code 0 = .ok (.iload_n 1, 1) := by decide +kernel
theorem d_m816_1 : decode prog_9_method_11_code 1 = .ok (.ifCond .lt 11, 3) := by decide +kernel
theorem d_m816_4 : decode prog_9_method_11_code 4 = .ok (.iload_n 1, 1) := by decide +kernel
theorem d_m816_5 : decode prog_9_method_11_code 5 = .ok (.aload_n 0, 1) := by decide +kernel
theorem d_m816_6 : decode prog_9_method_11_code 6 = .ok (.getfield 56, 3) := by decide +kernel
theorem d_m816_9 : decode prog_9_method_11_code 9 = .ok (.if_icmp .lt 5, 3) := by decide +kernel
theorem d_m816_12 : decode prog_9_method_11_code 12 = .ok (.iconst (-1), 1) := by decide +kernel
theorem d_m816_13 : decode prog_9_method_11_code 13 = .ok (.ireturn, 1) := by decide +kernel
theorem d_m816_14 : decode prog_9_method_11_code 14 = .ok (.iload_n 2, 1) := by decide +kernel
theorem d_m816_15 : decode prog_9_method_11_code 15 = .ok (.tableswitch 57 0 3 #[29, 36, 43, 50], 29) := by decide +kernel
theorem d_m816_44 : decode prog_9_method_11_code 44 = .ok (.aload_n 0, 1) := by decide +kernel
theorem d_m816_45 : decode prog_9_method_11_code 45 = .ok (.getfield 18, 3) := by decide +kernel
theorem d_m816_48 : decode prog_9_method_11_code 48 = .ok (.iload_n 1, 1) := by decide +kernel
theorem d_m816_49 : decode prog_9_method_11_code 49 = .ok (.iaload, 1) := by decide +kernel
theorem d_m816_50 : decode prog_9_method_11_code 50 = .ok (.ireturn, 1) := by decide +kernel
theorem d_m816_51 : decode prog_9_method_11_code 51 = .ok (.aload_n 0, 1) := by decide +kernel
theorem d_m816_52 : decode prog_9_method_11_code 52 = .ok (.getfield 21, 3) := by decide +kernel
theorem d_m816_55 : decode prog_9_method_11_code 55 = .ok (.iload_n 1, 1) := by decide +kernel
theorem d_m816_56 : decode prog_9_method_11_code 56 = .ok (.iaload, 1) := by decide +kernel
theorem d_m816_57 : decode prog_9_method_11_code 57 = .ok (.ireturn, 1) := by decide +kernel
theorem d_m816_58 : decode prog_9_method_11_code 58 = .ok (.aload_n 0, 1) := by decide +kernel
theorem d_m816_59 : decode prog_9_method_11_code 59 = .ok (.getfield 24, 3) := by decide +kernel
theorem d_m816_62 : decode prog_9_method_11_code 62 = .ok (.iload_n 1, 1) := by decide +kernel
theorem d_m816_63 : decode prog_9_method_11_code 63 = .ok (.iaload, 1) := by decide +kernel
theorem d_m816_64 : decode prog_9_method_11_code 64 = .ok (.ireturn, 1) := by decide +kernel
theorem d_m816_65 : decode prog_9_method_11_code 65 = .ok (.aload_n 0, 1) := by decide +kernel
theorem d_m816_66 : decode prog_9_method_11_code 66 = .ok (.getfield 27, 3) := by decide +kernel
theorem d_m816_69 : decode prog_9_method_11_code 69 = .ok (.iload_n 1, 1) := by decide +kernel
theorem d_m816_70 : decode prog_9_method_11_code 70 = .ok (.iaload, 1) := by decide +kernel
theorem d_m816_71 : decode prog_9_method_11_code 71 = .ok (.ireturn, 1) := by decide +kernel
theorem d_m816_72 : decode prog_9_method_11_code 72 = .ok (.iconst (-1), 1) := by decide +kernel
theorem d_m816_73 : decode prog_9_method_11_code 73 = .ok (.ireturn, 1) := by decide +kernel
