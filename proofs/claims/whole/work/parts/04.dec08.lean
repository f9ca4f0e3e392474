theorem d_m790_8 : decode prog_11_method_4_code 8 = .ok (.if_icmp .gt 15, 3) := by decide +kernel
theorem d_m790_11 : decode prog_11_method_4_code 11 = .ok (.aload_n 0, 1) := by decide +kernel
theorem d_m790_12 : decode prog_11_method_4_code 12 = .ok (.getfield 15, 3) := by decide +kernel
theorem d_m790_15 : decode prog_11_method_4_code 15 = .ok (.iload_n 3, 1) := by decide +kernel
theorem d_m790_16 : decode prog_11_method_4_code 16 = .ok (.iadd, 1) := by decide +kernel
theorem d_m790_17 : decode prog_11_method_4_code 17 = .ok (.sipush 16384, 3) := by decide +kernel
theorem d_m790_20 : decode prog_11_method_4_code 20 = .ok (.if_icmp .le 5, 3) := by decide +kernel
theorem d_m790_23 : decode prog_11_method_4_code 23 = .ok (.iconst 0, 1) := by decide +kernel
theorem d_m790_24 : decode prog_11_method_4_code 24 = .ok (.ireturn, 1) := by decide +kernel
theorem d_m790_25 : decode prog_11_method_4_code 25 = .ok (.aload_n 0, 1) := by decide +kernel
theorem d_m790_26 : decode prog_11_method_4_code 26 = .ok (.aload_n 0, 1) := by decide +kernel
theorem d_m790_27 : decode prog_11_method_4_code 27 = .ok (.getfield 15, 3) := by decide +kernel
theorem d_m790_30 : decode prog_11_method_4_code 30 = .ok (.iload_n 3, 1) := by decide +kernel
theorem d_m790_31 : decode prog_11_method_4_code 31 = .ok (.iadd, 1) := by decide +kernel
theorem d_m790_32 : decode prog_11_method_4_code 32 = .ok (.invokevirtual 34, 3) := by decide +kernel
theorem d_m790_35 : decode prog_11_method_4_code 35 = .ok (.iload_n 3, 1) := by decide +kernel
theorem d_m790_36 : decode prog_11_method_4_code 36 = .ok (.iconst 1, 1) := by decide +kernel
theorem d_m790_37 : decode prog_11_method_4_code 37 = .ok (.isub, 1) := by decide +kernel
theorem d_m790_38 : decode prog_11_method_4_code 38 = .ok (.istore 4, 2) := by decide +kernel
theorem d_m790_40 : decode prog_11_method_4_code 40 = .ok (.iload 4, 2) := by decide +kernel
theorem d_m790_42 : decode prog_11_method_4_code 42 = .ok (.ifCond .lt 37, 3) := by decide +kernel
theorem d_m790_45 : decode prog_11_method_4_code 45 = .ok (.aload_n 0, 1) := by decide +kernel
theorem d_m790_46 : decode prog_11_method_4_code 46 = .ok (.getfield 9, 3) := by decide +kernel
theorem d_m790_49 : decode prog_11_method_4_code 49 = .ok (.aload_n 0, 1) := by decide +kernel
theorem d_m790_50 : decode prog_11_method_4_code 50 = .ok (.getfield 15, 3) := by decide +kernel
theorem d_m790_53 : decode prog_11_method_4_code 53 = .ok (.lload_n 1, 1) := by decide +kernel
theorem d_m790_54 : decode prog_11_method_4_code 54 = .ok (.bipush 8, 2) := by decide +kernel
theorem d_m790_56 : decode prog_11_method_4_code 56 = .ok (.iload 4, 2) := by decide +kernel
theorem d_m790_58 : decode prog_11_method_4_code 58 = .ok (.imul, 1) := by decide +kernel
theorem d_m790_59 : decode prog_11_method_4_code 59 = .ok (.lushr, 1) := by decide +kernel
theorem d_m790_60 : decode prog_11_method_4_code 60 = .ok (.l2i, 1) := by decide +kernel
theorem d_m790_61 : decode prog_11_method_4_code 61 = .ok (.i2b, 1) := by decide +kernel
theorem d_m790_62 : decode prog_11_method_4_code 62 = .ok (.bastore, 1) := by decide +kernel
theorem d_m790_63 : decode prog_11_method_4_code 63 = .ok (.aload_n 0, 1) := by decide +kernel
theorem d_m790_64 : decode prog_11_method_4_code 64 = .ok (.dup, 1) := by decide +kernel
theorem d_m790_65 : decode prog_11_method_4_code 65 = .ok (.getfield 15, 3) := by decide +kernel
theorem d_m790_68 : decode prog_11_method_4_code 68 = .ok (.iconst 1, 1) := by decide +kernel
theorem d_m790_69 : decode prog_11_method_4_code 69 = .ok (.iadd, 1) := by decide +kernel
theorem d_m790_70 : decode prog_11_method_4_code 70 = .ok (.putfield 15, 3) := by decide +kernel
theorem d_m790_73 : decode prog_11_method_4_code 73 = .ok (.iinc 4 (-1), 3) := by decide +kernel
theorem d_m790_76 : decode prog_11_method_4_code 76 = .ok (.goto (-36), 3) := by decide +kernel
theorem d_m790_79 : decode prog_11_method_4_code 79 = .ok (.iconst 1, 1) := by decide +kernel
theorem d_m790_80 : decode prog_11_method_4_code 80 = .ok (.ireturn, 1) := by decide +kernel
theorem d_m795_0 : decode prog_1_method_16_code 0 = .ok (.iload_n 1, 1) := by decide +kernel
theorem d_m795_1 : decode prog_1_method_16_code 1 = .ok (.ifCond .lt 14, 3) := by decide +kernel
theorem d_m795_4 : decode prog_1_method_16_code 4 = .ok (.iload_n 1, 1) := by decide +kernel
theorem d_m795_5 : decode prog_1_method_16_code 5 = .ok (.aload_n 0, 1) := by decide +kernel
theorem d_m795_6 : decode prog_1_method_16_code 6 = .ok (.getfield 42, 3) := by decide +kernel
theorem d_m795_9 : decode prog_1_method_16_code 9 = .ok (.getfield 169, 3) := by decide +kernel
theorem d_m795_12 : decode prog_1_method_16_code 12 = .ok (.if_icmp .le 5, 3) := by decide +kernel
theorem d_m795_15 : decode prog_1_method_16_code 15 = .ok (.iconst 0, 1) := by decide +kernel
theorem d_m795_16 : decode prog_1_method_16_code 16 = .ok (.ireturn, 1) := by decide +kernel
theorem d_m795_17 : decode prog_1_method_16_code 17 = .ok (.aload_n 0, 1) := by decide +kernel
theorem d_m795_18 : decode prog_1_method_16_code 18 = .ok (.getfield 42, 3) := by decide +kernel
theorem d_m795_21 : decode prog_1_method_16_code 21 = .ok (.iload_n 1, 1) := by decide +kernel
theorem d_m795_22 : decode prog_1_method_16_code 22 = .ok (.putfield 169, 3) := by decide +kernel
theorem d_m795_25 : decode prog_1_method_16_code 25 = .ok (.iconst 1, 1) := by decide +kernel
theorem d_m795_26 : decode prog_1_method_16_code 26 = .ok (.ireturn, 1) := by decide +kernel
theorem d_m799_0 : decode prog_1_method_17_code 0 = .ok (.aload_n 0, 1) := by decide +kernel
theorem d_m799_1 : decode prog_1_method_17_code 1 = .ok (.getfield 42, 3) := by decide +kernel
theorem d_m799_4 : decode prog_1_method_17_code 4 = .ok (.iload_n 1, 1) := by decide +kernel
theorem d_m799_5 : decode prog_1_method_17_code 5 = .ok (.invokevirtual 183, 3) := by decide +kernel
theorem d_m799_8 : decode prog_1_method_17_code 8 = .ok (.ireturn, 1) := by decide +kernel
theorem d_m804_0 : decode prog_1_method_18_code 0 = .ok (.iload_n 1, 1) := by decide +kernel
theorem d_m804_1 : decode prog_1_method_18_code 1 = .ok (.tableswitch 84 0 5 #[39, 47, 55, 63, 71, 79], 39) := by decide +kernel
theorem d_m804_40 : decode prog_1_method_18_code 40 = .ok (.aload_n 0, 1) := by decide +kernel
theorem d_m804_41 : decode prog_1_method_18_code 41 = .ok (.getfield 42, 3) := by decide +kernel
theorem d_m804_44 : decode prog_1_method_18_code 44 = .ok (.getfield 169, 3) := by decide +kernel
theorem d_m804_47 : decode prog_1_method_18_code 47 = .ok (.ireturn, 1) := by decide +kernel
theorem d_m804_48 : decode prog_1_method_18_code 48 = .ok (.aload_n 0, 1) := by decide +kernel
theorem d_m804_49 : decode prog_1_method_18_code 49 = .ok (.getfield 10, 3) := by decide +kernel
theorem d_m804_52 : decode prog_1_method_18_code 52 = .ok (.getfield 187, 3) := by decide +kernel
theorem d_m804_55 : decode prog_1_method_18_code 55 = .ok (.ireturn, 1) := by decide +kernel
theorem d_m804_56 : decode prog_1_method_18_code 56 = .ok (.aload_n 0, 1) := by decide +kernel
theorem d_m804_57 : decode prog_1_method_18_code 57 = .ok (.getfield 21, 3) := by decide +kernel
theorem d_m804_60 : decode prog_1_method_18_code 60 = .ok (.getfield 190, 3) := by decide +kernel
theorem d_m804_63 : decode prog_1_method_18_code 63 = .ok (.ireturn, 1) := by decide +kernel
theorem d_m804_64 : decode prog_1_method_18_code 64 = .ok (.aload_n 0, 1) := by decide +kernel
theorem d_m804_65 : decode prog_1_method_18_code 65 = .ok (.getfield 21, 3) := by decide +kernel
theorem d_m804_68 : decode prog_1_method_18_code 68 = .ok (.getfield 138, 3) := by decide +kernel
theorem d_m804_71 : decode prog_1_method_18_code 71 = .ok (.ireturn, 1) := by decide +kernel
theorem d_m804_72 : decode prog_1_method_18_code 72 = .ok (.aload_n 0, 1) := by decide +kernel
theorem d_m804_73 : decode prog_1_method_18_code 73 = .ok (.getfield 10, 3) := by decide +kernel
theorem d_m804_76 : decode prog_1_method_18_code 76 = .ok (.invokevirtual 193, 3) := by decide +kernel
theorem d_m804_79 : decode prog_1_method_18_code 79 = .ok (.ireturn, 1) := by decide +kernel
theorem d_m804_80 : decode prog_1_method_18_code 80 = .ok (.aload_n 0, 1) := by decide +kernel
theorem d_m804_81 : decode prog_1_method_18_code 81 = .ok (.invokevirtual 197, 3) := by decide +kernel
theorem d_m804_84 : decode prog_1_method_18_code 84 = .ok (.ireturn, 1) := by decide +kernel
theorem d_m804_85 : decode prog_1_method_18_code 85 = .ok (.iload_n 1, 1) := by decide +kernel
theorem d_m804_86 : decode prog_1_method_18_code 86 = .ok (.bipush 8, 2) := by decide +kernel
theorem d_m804_88 : decode prog_1_method_18_code 88 = .ok (.if_icmp .ge 7, 3) := by decide +kernel
theorem d_m804_91 : decode prog_1_method_18_code 91 = .ok (.iconst (-1), 1) := by decide +kernel
theorem d_m804_92 : decode prog_1_method_18_code 92 = .ok (.goto 19, 3) := by decide +kernel
theorem d_m804_95 : decode prog_1_method_18_code 95 = .ok (.aload_n 0, 1) := by decide +kernel
theorem d_m804_96 : decode prog_1_method_18_code 96 = .ok (.getfield 10, 3) := by decide +kernel
theorem d_m804_99 : decode prog_1_method_18_code 99 = .ok (.iload_n 1, 1) := by decide +kernel
theorem d_m804_100 : decode prog_1_method_18_code 100 = .ok (.bipush 8, 2) := by decide +kernel
theorem d_m804_102 : decode prog_1_method_18_code 102 = .ok (.isub, 1) := by decide +kernel
theorem d_m804_103 : decode prog_1_method_18_code 103 = .ok (.iconst 4, 1) := by decide +kernel
theorem d_m804_104 : decode prog_1_method_18_code 104 = .ok (.idiv, 1) := by decide +kernel
theorem d_m804_105 : decode prog_1_method_18_code 105 = .ok (.iload_n 1, 1) := by decide +kernel
theorem d_m804_106 : decode prog_1_method_18_code 106 = .ok (.iconst 4, 1) := by decide +kernel
theorem d_m804_107 : decode prog_1_method_18_code 107 = .ok (.irem, 1) := by decide +kernel
theorem d_m804_108 : decode prog_1_method_18_code 108 = .ok (.invokevirtual 200, 3) := by decide +kernel
theorem d_m804_111 : decode prog_1_method_18_code 111 = .ok (.ireturn, 1) := by decide +kernel
theorem d_m808_0 : decode prog_9_method_10_code 0 = .ok (.iconst 0, 1) := by decide +kernel
theorem d_m808_1 : decode prog_9_method_10_code 1 = .ok (.istore_n 1, 1) := by decide +kernel
theorem d_m808_2 : decode prog_9_method_10_code 2 = .ok (.iconst 0, 1) := by decide +kernel
theorem d_m808_3 : decode prog_9_method_10_code 3 = .ok (.istore_n 2, 1) := by decide +kernel
theorem d_m808_4 : decode prog_9_method_10_code 4 = .ok (.iload_n 2, 1) := by decide +kernel
theorem d_m808_5 : decode prog_9_method_10_code 5 = .ok (.aload_n 0, 1) := by decide +kernel
theorem d_m808_6 : decode prog_9_method_10_code 6 = .ok (.getfield 66, 3) := by decide +kernel
theorem d_m808_9 : decode prog_9_method_10_code 9 = .ok (.bipush 64, 2) := by decide +kernel
theorem d_m808_11 : decode prog_9_method_10_code 11 = .ok (.imul, 1) := by decide +kernel
theorem d_m808_12 : decode prog_9_method_10_code 12 = .ok (.if_icmp .ge 21, 3) := by decide +kernel
theorem d_m808_15 : decode prog_9_method_10_code 15 = .ok (.aload_n 0, 1) := by decide +kernel
theorem d_m808_16 : decode prog_9_method_10_code 16 = .ok (.getfield 33, 3) := by decide +kernel
theorem d_m808_19 : decode prog_9_method_10_code 19 = .ok (.iload_n 2, 1) := by decide +kernel
theorem d_m808_20 : decode prog_9_method_10_code 20 = .ok (.saload, 1) := by decide +kernel
theorem d_m808_21 : decode prog_9_method_10_code 21 = .ok (.ifCond .eq 6, 3) := by decide +kernel
theorem d_m808_24 : decode prog_9_method_10_code 24 = .ok (.iinc 1 1, 3) := by decide +kernel
theorem d_m808_27 : decode prog_9_method_10_code 27 = .ok (.iinc 2 1, 3) := by decide +kernel
theorem d_m808_30 : decode prog_9_method_10_code 30 = .ok (.goto (-26), 3) := by decide +kernel
theorem d_m808_33 : decode prog_9_method_10_code 33 = .ok (.iload_n 1, 1) := by decide +kernel
theorem d_m808_34 : decode prog_9_method_10_code 34 = .ok (.ireturn, 1) := by decide +kernel
theorem d_m812_0 : decode prog_1_method_19_code 0 = .ok (.iconst 0, 1) := by decide +kernel
theorem d_m812_1 : decode prog_1_method_19_code 1 = .ok (.istore_n 1, 1) := by decide +kernel
theorem d_m812_2 : decode prog_1_method_19_code 2 = .ok (.iconst 0, 1) := by decide +kernel
theorem d_m812_3 : decode prog_1_method_19_code 3 = .ok (.istore_n 2, 1) := by decide +kernel
theorem d_m812_4 : decode prog_1_method_19_code 4 = .ok (.iload_n 2, 1) := by decide +kernel
theorem d_m812_5 : decode prog_1_method_19_code 5 = .ok (.bipush 8, 2) := by decide +kernel
theorem d_m812_7 : decode prog_1_method_19_code 7 = .ok (.if_icmp .ge 21, 3) := by decide +kernel
theorem d_m812_10 : decode prog_1_method_19_code 10 = .ok (.iload_n 1, 1) := by decide +kernel
theorem d_m812_11 : decode prog_1_method_19_code 11 = .ok (.aload_n 0, 1) := by decide +kernel
theorem d_m812_12 : decode prog_1_method_19_code 12 = .ok (.getfield 34, 3) := by decide +kernel
theorem d_m812_15 : decode prog_1_method_19_code 15 = .ok (.iload_n 2, 1) := by decide +kernel
theorem d_m812_16 : decode prog_1_method_19_code 16 = .ok (.aaload, 1) := by decide +kernel
theorem d_m812_17 : decode prog_1_method_19_code 17 = .ok (.getfield 204, 3) := by decide +kernel
theorem d_m812_20 : decode prog_1_method_19_code 20 = .ok (.iadd, 1) := by decide +kernel
theorem d_m812_21 : decode prog_1_method_19_code 21 = .ok (.istore_n 1, 1) := by decide +kernel
theorem d_m812_22 : decode prog_1_method_19_code 22 = .ok (.iinc 2 1, 3) := by decide +kernel
theorem d_m812_25 : decode prog_1_method_19_code 25 = .ok (.goto (-21), 3) := by decide +kernel
theorem d_m812_28 : decode prog_1_method_19_code 28 = .ok (.iload_n 1, 1) := by decide +kernel
theorem d_m812_29 : decode prog_1_method_19_code 29 = .ok (.ireturn, 1) := by decide +kernel
theorem d_m816_0 : decode prog_9_method_11_code 0 = .ok (.iload_n 1, 1) := by decide +kernel
theorem d_m816_1 : decode prog_9_method_11_code 1 = .ok (.ifCond .lt 11, 3) := by decide +kernel
theorem d_m816_4 : decode prog_9_method_11_code 4 = .ok (.iload_n 1, 1) := by decide +kernel
theorem d_m816_5 : decode prog_9_method_11_code 5 = .ok (.aload_n 0, 1) := by decide +kernel
theorem d_m816_6 : decode prog_9_method_11_code 6 = .ok (.getfield 56, 3) := by decide +kernel
theorem d_m816_9 : decode prog_9_method_11_code 9 = .ok (.if_icmp .lt 5, 3) := by decide +kernel
theorem d_m816_12 : decode prog_9_method_11_code 12 = .ok (.iconst (-1), 1) := by decide +kernel
theorem d_m816_13 : decode prog_9_method_11_code 13 = .ok (.ireturn, 1) := by decide +kernel
theorem d_m816_14 : decode prog_9_method_11_code 14 = .ok (.iload_n 2, 1) := by decide +kernel
theorem d_m816_15 : decode prog_9_method_11_code 15 = .ok (.tableswitch 57 0 3 #[29, 36, 43, 50], 29) := by decide +kernel
theorem d_m816_44 : decode prog_9_method_11_code 44 = .ok (.aload_n 0, 1) := by decide +kernel
theorem d_m816_45 : decode prog_9_method_11_code 45 = .ok (.getfield 18, 3) := by decide +kernel
theorem d_m816_48 : decode prog_9_method_11_code 48 = .ok (.iload_n 1, 1) := by decide +kernel
theorem d_m816_49 : decode prog_9_method_11_code 49 = .ok (.iaload, 1) := by decide +kernel
theorem d_m816_50 : decode prog_9_method_11_code 50 = .ok (.ireturn, 1) := by decide +kernel
theorem d_m816_51 : decode prog_9_method_11_code 51 = .ok (.aload_n 0, 1) := by decide +kernel
theorem d_m816_52 : decode prog_9_method_11_code 52 = .ok (.getfield 21, 3) := by decide +kernel
theorem d_m816_55 : decode prog_9_method_11_code 55 = .ok (.iload_n 1, 1) := by decide +kernel
theorem d_m816_56 : decode prog_9_method_11_code 56 = .ok (.iaload, 1) := by decide +kernel
theorem d_m816_57 : decode prog_9_method_11_code 57 = .ok (.ireturn, 1) := by decide +kernel
theorem d_m816_58 : decode prog_9_method_11_code 58 = .ok (.aload_n 0, 1) := by decide +kernel
theorem d_m816_59 : decode prog_9_method_11_code 59 = .ok (.getfield 24, 3) := by decide +kernel
theorem d_m816_62 : decode prog_9_method_11_code 62 = .ok (.iload_n 1, 1) := by decide +kernel
theorem d_m816_63 : decode prog_9_method_11_code 63 = .ok (.iaload, 1) := by decide +kernel
theorem d_m816_64 : decode prog_9_method_11_code 64 = .ok (.ireturn, 1) := by decide +kernel
theorem d_m816_65 : decode prog_9_method_11_code 65 = .ok (.aload_n 0, 1) := by decide +kernel
theorem d_m816_66 : decode prog_9_method_11_code 66 = .ok (.getfield 27, 3) := by decide +kernel
theorem d_m816_69 : decode prog_9_method_11_code 69 = .ok (.iload_n 1, 1) := by decide +kernel
theorem d_m816_70 : decode prog_9_method_11_code 70 = .ok (.iaload, 1) := by decide +kernel
theorem d_m816_71 : decode prog_9_method_11_code 71 = .ok (.ireturn, 1) := by decide +kernel
theorem d_m816_72 : decode prog_9_method_11_code 72 = .ok (.iconst (-1), 1) := by decide +kernel
theorem d_m816_73 : decode prog_9_method_11_code 73 = .ok (.ireturn, 1) := by decide +kernel
theorem d_m821_0 : decode prog_14_method_1_code 0 = .ok (.aload_n 0, 1) := by decide +kernel
theorem d_m821_1 : decode prog_14_method_1_code 1 = .ok (.invokespecial 1, 3) := by decide +kernel
theorem d_m821_4 : decode prog_14_method_1_code 4 = .ok (.aload_n 0, 1) := by decide +kernel
theorem d_m821_5 : decode prog_14_method_1_code 5 = .ok (.iconst 4, 1) := by decide +kernel
theorem d_m821_6 : decode prog_14_method_1_code 6 = .ok (.newarray .int, 2) := by decide +kernel
theorem d_m821_8 : decode prog_14_method_1_code 8 = .ok (.putfield 7, 3) := by decide +kernel
theorem d_m821_11 : decode prog_14_method_1_code 11 = .ok (.aload_n 0, 1) := by decide +kernel
theorem d_m821_12 : decode prog_14_method_1_code 12 = .ok (.iconst 4, 1) := by decide +kernel
theorem d_m821_13 : decode prog_14_method_1_code 13 = .ok (.newarray .int, 2) := by decide +kernel
theorem d_m821_15 : decode prog_14_method_1_code 15 = .ok (.putfield 13, 3) := by decide +kernel
theorem d_m821_18 : decode prog_14_method_1_code 18 = .ok (.aload_n 0, 1) := by decide +kernel
theorem d_m821_19 : decode prog_14_method_1_code 19 = .ok (.iconst 4, 1) := by decide +kernel
theorem d_m821_20 : decode prog_14_method_1_code 20 = .ok (.newarray .int, 2) := by decide +kernel
theorem d_m821_22 : decode prog_14_method_1_code 22 = .ok (.putfield 16, 3) := by decide +kernel
theorem d_m821_25 : decode prog_14_method_1_code 25 = .ok (.aload_n 0, 1) := by decide +kernel
theorem d_m821_26 : decode prog_14_method_1_code 26 = .ok (.iconst 4, 1) := by decide +kernel
theorem d_m821_27 : decode prog_14_method_1_code 27 = .ok (.newarray .int, 2) := by decide +kernel
theorem d_m821_29 : decode prog_14_method_1_code 29 = .ok (.putfield 19, 3) := by decide +kernel
theorem d_m821_32 : decode prog_14_method_1_code 32 = .ok (.aload_n 0, 1) := by decide +kernel
theorem d_m821_33 : decode prog_14_method_1_code 33 = .ok (.iconst 4, 1) := by decide +kernel
theorem d_m821_34 : decode prog_14_method_1_code 34 = .ok (.newarray .int, 2) := by decide +kernel
theorem d_m821_36 : decode prog_14_method_1_code 36 = .ok (.putfield 22, 3) := by decide +kernel
theorem d_m821_39 : decode prog_14_method_1_code 39 = .ok (.aload_n 0, 1) := by decide +kernel
theorem d_m821_40 : decode prog_14_method_1_code 40 = .ok (.iconst 4, 1) := by decide +kernel
theorem d_m821_41 : decode prog_14_method_1_code 41 = .ok (.newarray .int, 2) := by decide +kernel
theorem d_m821_43 : decode prog_14_method_1_code 43 = .ok (.putfield 25, 3) := by decide +kernel
theorem d_m821_46 : decode prog_14_method_1_code 46 = .ok (.aload_n 0, 1) := by decide +kernel
theorem d_m821_47 : decode prog_14_method_1_code 47 = .ok (.iconst 4, 1) := by decide +kernel
theorem d_m821_48 : decode prog_14_method_1_code 48 = .ok (.newarray .int, 2) := by decide +kernel
theorem d_m821_50 : decode prog_14_method_1_code 50 = .ok (.putfield 28, 3) := by decide +kernel
theorem d_m821_53 : decode prog_14_method_1_code 53 = .ok (.aload_n 0, 1) := by decide +kernel
theorem d_m821_54 : decode prog_14_method_1_code 54 = .ok (.sipush 12288, 3) := by decide +kernel
theorem d_m821_57 : decode prog_14_method_1_code 57 = .ok (.newarray .short, 2) := by decide +kernel
theorem d_m821_59 : decode prog_14_method_1_code 59 = .ok (.putfield 31, 3) := by decide +kernel
theorem d_m821_62 : decode prog_14_method_1_code 62 = .ok (.aload_n 0, 1) := by decide +kernel
theorem d_m821_63 : decode prog_14_method_1_code 63 = .ok (.sipush 12288, 3) := by decide +kernel
theorem d_m821_66 : decode prog_14_method_1_code 66 = .ok (.newarray .short, 2) := by decide +kernel
theorem d_m821_68 : decode prog_14_method_1_code 68 = .ok (.putfield 35, 3) := by decide +kernel
theorem d_m821_71 : decode prog_14_method_1_code 71 = .ok (.aload_n 0, 1) := by decide +kernel
theorem d_m821_72 : decode prog_14_method_1_code 72 = .ok (.bipush 17, 2) := by decide +kernel
theorem d_m821_74 : decode prog_14_method_1_code 74 = .ok (.newarray .int, 2) := by decide +kernel
theorem d_m821_76 : decode prog_14_method_1_code 76 = .ok (.putfield 38, 3) := by decide +kernel
theorem d_m821_79 : decode prog_14_method_1_code 79 = .ok (.aload_n 0, 1) := by decide +kernel
theorem d_m821_80 : decode prog_14_method_1_code 80 = .ok (.sipush 256, 3) := by decide +kernel
theorem d_m821_83 : decode prog_14_method_1_code 83 = .ok (.newarray .int, 2) := by decide +kernel
theorem d_m821_85 : decode prog_14_method_1_code 85 = .ok (.putfield 41, 3) := by decide +kernel
theorem d_m821_88 : decode prog_14_method_1_code 88 = .ok (.aload_n 0, 1) := by decide +kernel
theorem d_m821_89 : decode prog_14_method_1_code 89 = .ok (.bipush 8, 2) := by decide +kernel
theorem d_m821_91 : decode prog_14_method_1_code 91 = .ok (.newarray .int, 2) := by decide +kernel
theorem d_m821_93 : decode prog_14_method_1_code 93 = .ok (.putfield 44, 3) := by decide +kernel
theorem d_m821_96 : decode prog_14_method_1_code 96 = .ok (.aload_n 0, 1) := by decide +kernel
theorem d_m821_97 : decode prog_14_method_1_code 97 = .ok (.sipush 2048, 3) := by decide +kernel
theorem d_m821_100 : decode prog_14_method_1_code 100 = .ok (.newarray .int, 2) := by decide +kernel
theorem d_m821_102 : decode prog_14_method_1_code 102 = .ok (.putfield 47, 3) := by decide +kernel
theorem d_m821_105 : decode prog_14_method_1_code 105 = .ok (.aload_n 0, 1) := by decide +kernel
theorem d_m821_106 : decode prog_14_method_1_code 106 = .ok (.sipush 2048, 3) := by decide +kernel
theorem d_m821_109 : decode prog_14_method_1_code 109 = .ok (.newarray .int, 2) := by decide +kernel
theorem d_m821_111 : decode prog_14_method_1_code 111 = .ok (.putfield 50, 3) := by decide +kernel
theorem d_m821_114 : decode prog_14_method_1_code 114 = .ok (.aload_n 0, 1) := by decide +kernel
theorem d_m821_115 : decode prog_14_method_1_code 115 = .ok (.iconst 4, 1) := by decide +kernel
theorem d_m821_116 : decode prog_14_method_1_code 116 = .ok (.newarray .int, 2) := by decide +kernel
theorem d_m821_118 : decode prog_14_method_1_code 118 = .ok (.putfield 53, 3) := by decide +kernel
theorem d_m821_121 : decode prog_14_method_1_code 121 = .ok (.aload_n 0, 1) := by decide +kernel
theorem d_m821_122 : decode prog_14_method_1_code 122 = .ok (.iconst 4, 1) := by decide +kernel
theorem d_m821_123 : decode prog_14_method_1_code 123 = .ok (.newarray .int, 2) := by decide +kernel
theorem d_m821_125 : decode prog_14_method_1_code 125 = .ok (.putfield 56, 3) := by decide +kernel
theorem d_m821_128 : decode prog_14_method_1_code 128 = .ok (.aload_n 0, 1) := by decide +kernel
theorem d_m821_129 : decode prog_14_method_1_code 129 = .ok (.sipush 16384, 3) := by decide +kernel
theorem d_m821_132 : decode prog_14_method_1_code 132 = .ok (.newarray .byte, 2) := by decide +kernel
theorem d_m821_134 : decode prog_14_method_1_code 134 = .ok (.putfield 59, 3) := by decide +kernel
theorem d_m821_137 : decode prog_14_method_1_code 137 = .ok (.aload_n 0, 1) := by decide +kernel
theorem d_m821_138 : decode prog_14_method_1_code 138 = .ok (.sipush 16384, 3) := by decide +kernel
theorem d_m821_141 : decode prog_14_method_1_code 141 = .ok (.newarray .byte, 2) := by decide +kernel
theorem d_m821_143 : decode prog_14_method_1_code 143 = .ok (.putfield 63, 3) := by decide +kernel
theorem d_m821_146 : decode prog_14_method_1_code 146 = .ok (.aload_n 0, 1) := by decide +kernel
theorem d_m821_147 : decode prog_14_method_1_code 147 = .ok (.sipush 2048, 3) := by decide +kernel
theorem d_m821_150 : decode prog_14_method_1_code 150 = .ok (.newarray .int, 2) := by decide +kernel
theorem d_m821_152 : decode prog_14_method_1_code 152 = .ok (.putfield 66, 3) := by decide +kernel
theorem d_m821_155 : decode prog_14_method_1_code 155 = .ok (.aload_n 0, 1) := by decide +kernel
theorem d_m821_156 : decode prog_14_method_1_code 156 = .ok (.iconst 4, 1) := by decide +kernel
theorem d_m821_157 : decode prog_14_method_1_code 157 = .ok (.newarray .int, 2) := by decide +kernel
theorem d_m821_159 : decode prog_14_method_1_code 159 = .ok (.putfield 69, 3) := by decide +kernel
theorem d_m821_162 : decode prog_14_method_1_code 162 = .ok (.aload_n 0, 1) := by decide +kernel
theorem d_m821_163 : decode prog_14_method_1_code 163 = .ok (.sipush 1100, 3) := by decide +kernel
theorem d_m821_166 : decode prog_14_method_1_code 166 = .ok (.newarray .byte, 2) := by decide +kernel
theorem d_m821_168 : decode prog_14_method_1_code 168 = .ok (.putfield 72, 3) := by decide +kernel
theorem d_m821_171 : decode prog_14_method_1_code 171 = .ok (.aload_n 0, 1) := by decide +kernel
theorem d_m821_172 : decode prog_14_method_1_code 172 = .ok (.bipush 70, 2) := by decide +kernel
theorem d_m821_174 : decode prog_14_method_1_code 174 = .ok (.newarray .byte, 2) := by decide +kernel
theorem d_m821_176 : decode prog_14_method_1_code 176 = .ok (.putfield 75, 3) := by decide +kernel
theorem d_m821_179 : decode prog_14_method_1_code 179 = .ok (.aload_n 0, 1) := by decide +kernel
theorem d_m821_180 : decode prog_14_method_1_code 180 = .ok (.sipush 2048, 3) := by decide +kernel
theorem d_m821_183 : decode prog_14_method_1_code 183 = .ok (.newarray .int, 2) := by decide +kernel
theorem d_m821_185 : decode prog_14_method_1_code 185 = .ok (.putfield 78, 3) := by decide +kernel
theorem d_m821_188 : decode prog_14_method_1_code 188 = .ok (.aload_n 0, 1) := by decide +kernel
theorem d_m821_189 : decode prog_14_method_1_code 189 = .ok (.bipush 8, 2) := by decide +kernel
theorem d_m821_191 : decode prog_14_method_1_code 191 = .ok (.bipush 8, 2) := by decide +kernel
theorem d_m821_193 : decode prog_14_method_1_code 193 = .ok (.iconst 1, 1) := by decide +kernel
theorem d_m821_194 : decode prog_14_method_1_code 194 = .ok (.iconst 0, 1) := by decide +kernel
theorem d_m821_195 : decode prog_14_method_1_code 195 = .ok (.invokevirtual 81, 3) := by decide +kernel
theorem d_m821_198 : decode prog_14_method_1_code 198 = .ok (.pop, 1) := by decide +kernel
theorem d_m821_199 : decode prog_14_method_1_code 199 = .ok (.aload_n 0, 1) := by decide +kernel
theorem d_m821_200 : decode prog_14_method_1_code 200 = .ok (.invokevirtual 85, 3) := by decide +kernel
theorem d_m821_203 : decode prog_14_method_1_code 203 = .ok (.return_, 1) := by decide +kernel
theorem d_m826_0 : decode prog_14_method_4_code 0 = .ok (.iconst 1, 1) := by decide +kernel
theorem d_m826_1 : decode prog_14_method_4_code 1 = .ok (.istore 5, 2) := by decide +kernel
theorem d_m826_3 : decode prog_14_method_4_code 3 = .ok (.iconst 1, 1) := by decide +kernel
theorem d_m826_4 : decode prog_14_method_4_code 4 = .ok (.istore 6, 2) := by decide +kernel
theorem d_m826_6 : decode prog_14_method_4_code 6 = .ok (.iconst 0, 1) := by decide +kernel
theorem d_m826_7 : decode prog_14_method_4_code 7 = .ok (.istore 7, 2) := by decide +kernel
theorem d_m826_9 : decode prog_14_method_4_code 9 = .ok (.iload 7, 2) := by decide +kernel
theorem d_m826_11 : decode prog_14_method_4_code 11 = .ok (.iload_n 3, 1) := by decide +kernel
theorem d_m826_12 : decode prog_14_method_4_code 12 = .ok (.if_icmp .ge 53, 3) := by decide +kernel
theorem d_m826_15 : decode prog_14_method_4_code 15 = .ok (.iload 4, 2) := by decide +kernel
theorem d_m826_17 : decode prog_14_method_4_code 17 = .ok (.iconst 2, 1) := by decide +kernel
theorem d_m826_18 : decode prog_14_method_4_code 18 = .ok (.iload 7, 2) := by decide +kernel
theorem d_m826_20 : decode prog_14_method_4_code 20 = .ok (.imul, 1) := by decide +kernel
theorem d_m826_21 : decode prog_14_method_4_code 21 = .ok (.ishr, 1) := by decide +kernel
theorem d_m826_22 : decode prog_14_method_4_code 22 = .ok (.iconst 1, 1) := by decide +kernel
theorem d_m826_23 : decode prog_14_method_4_code 23 = .ok (.iand, 1) := by decide +kernel
theorem d_m826_24 : decode prog_14_method_4_code 24 = .ok (.iconst 1, 1) := by decide +kernel
theorem d_m826_25 : decode prog_14_method_4_code 25 = .ok (.if_icmp .ne 7, 3) := by decide +kernel
theorem d_m826_28 : decode prog_14_method_4_code 28 = .ok (.iconst 2, 1) := by decide +kernel
theorem d_m826_29 : decode prog_14_method_4_code 29 = .ok (.goto 5, 3) := by decide +kernel
theorem d_m826_32 : decode prog_14_method_4_code 32 = .ok (.iload 5, 2) := by decide +kernel
theorem d_m826_34 : decode prog_14_method_4_code 34 = .ok (.istore 5, 2) := by decide +kernel
theorem d_m826_36 : decode prog_14_method_4_code 36 = .ok (.iload 4, 2) := by decide +kernel
theorem d_m826_38 : decode prog_14_method_4_code 38 = .ok (.iconst 2, 1) := by decide +kernel
theorem d_m826_39 : decode prog_14_method_4_code 39 = .ok (.iload 7, 2) := by decide +kernel
theorem d_m826_41 : decode prog_14_method_4_code 41 = .ok (.imul, 1) := by decide +kernel
theorem d_m826_42 : decode prog_14_method_4_code 42 = .ok (.iconst 1, 1) := by decide +kernel
theorem d_m826_43 : decode prog_14_method_4_code 43 = .ok (.iadd, 1) := by decide +kernel
theorem d_m826_44 : decode prog_14_method_4_code 44 = .ok (.ishr, 1) := by decide +kernel
theorem d_m826_45 : decode prog_14_method_4_code 45 = .ok (.iconst 1, 1) := by decide +kernel
theorem d_m826_46 : decode prog_14_method_4_code 46 = .ok (.iand, 1) := by decide +kernel
theorem d_m826_47 : decode prog_14_method_4_code 47 = .ok (.iconst 1, 1) := by decide +kernel
theorem d_m826_48 : decode prog_14_method_4_code 48 = .ok (.if_icmp .ne 7, 3) := by decide +kernel
theorem d_m826_51 : decode prog_14_method_4_code 51 = .ok (.iconst 2, 1) := by decide +kernel
theorem d_m826_52 : decode prog_14_method_4_code 52 = .ok (.goto 5, 3) := by decide +kernel
theorem d_m826_55 : decode prog_14_method_4_code 55 = .ok (.iload 6, 2) := by decide +kernel
theorem d_m826_57 : decode prog_14_method_4_code 57 = .ok (.istore 6, 2) := by decide +kernel
theorem d_m826_59 : decode prog_14_method_4_code 59 = .ok (.iinc 7 1, 3) := by decide +kernel
theorem d_m826_62 : decode prog_14_method_4_code 62 = .ok (.goto (-53), 3) := by decide +kernel
theorem d_m826_65 : decode prog_14_method_4_code 65 = .ok (.iconst 0, 1) := by decide +kernel
theorem d_m826_66 : decode prog_14_method_4_code 66 = .ok (.istore 7, 2) := by decide +kernel
theorem d_m826_68 : decode prog_14_method_4_code 68 = .ok (.iload_n 1, 1) := by decide +kernel
theorem d_m826_69 : decode prog_14_method_4_code 69 = .ok (.bipush 8, 2) := by decide +kernel
theorem d_m826_71 : decode prog_14_method_4_code 71 = .ok (.iload 5, 2) := by decide +kernel
theorem d_m826_73 : decode prog_14_method_4_code 73 = .ok (.imul, 1) := by decide +kernel
theorem d_m826_74 : decode prog_14_method_4_code 74 = .ok (.invokestatic 91, 3) := by decide +kernel
theorem d_m826_77 : decode prog_14_method_4_code 77 = .ok (.istore 8, 2) := by decide +kernel
theorem d_m826_79 : decode prog_14_method_4_code 79 = .ok (.iload_n 2, 1) := by decide +kernel
theorem d_m826_80 : decode prog_14_method_4_code 80 = .ok (.bipush 8, 2) := by decide +kernel
theorem d_m826_82 : decode prog_14_method_4_code 82 = .ok (.iload 6, 2) := by decide +kernel
theorem d_m826_84 : decode prog_14_method_4_code 84 = .ok (.imul, 1) := by decide +kernel
theorem d_m826_85 : decode prog_14_method_4_code 85 = .ok (.invokestatic 91, 3) := by decide +kernel
theorem d_m826_88 : decode prog_14_method_4_code 88 = .ok (.istore 9, 2) := by decide +kernel
theorem d_m826_90 : decode prog_14_method_4_code 90 = .ok (.iconst 0, 1) := by decide +kernel
theorem d_m826_91 : decode prog_14_method_4_code 91 = .ok (.istore 10, 2) := by decide +kernel
theorem d_m826_93 : decode prog_14_method_4_code 93 = .ok (.iload 10, 2) := by decide +kernel
theorem d_m826_95 : decode prog_14_method_4_code 95 = .ok (.iload_n 3, 1) := by decide +kernel
theorem d_m826_96 : decode prog_14_method_4_code 96 = .ok (.if_icmp .ge 45, 3) := by decide +kernel
theorem d_m826_99 : decode prog_14_method_4_code 99 = .ok (.iload 7, 2) := by decide +kernel
theorem d_m826_101 : decode prog_14_method_4_code 101 = .ok (.iload 8, 2) := by decide +kernel
theorem d_m826_103 : decode prog_14_method_4_code 103 = .ok (.iload 9, 2) := by decide +kernel
theorem d_m826_105 : decode prog_14_method_4_code 105 = .ok (.imul, 1) := by decide +kernel
theorem d_m826_106 : decode prog_14_method_4_code 106 = .ok (.iconst 1, 1) := by decide +kernel
theorem d_m826_107 : decode prog_14_method_4_code 107 = .ok (.iload 4, 2) := by decide +kernel
theorem d_m826_109 : decode prog_14_method_4_code 109 = .ok (.iconst 2, 1) := by decide +kernel
theorem d_m826_110 : decode prog_14_method_4_code 110 = .ok (.iload 10, 2) := by decide +kernel
theorem d_m826_112 : decode prog_14_method_4_code 112 = .ok (.imul, 1) := by decide +kernel
theorem d_m826_113 : decode prog_14_method_4_code 113 = .ok (.ishr, 1) := by decide +kernel
theorem d_m826_114 : decode prog_14_method_4_code 114 = .ok (.iconst 1, 1) := by decide +kernel
theorem d_m826_115 : decode prog_14_method_4_code 115 = .ok (.iand, 1) := by decide +kernel
theorem d_m826_116 : decode prog_14_method_4_code 116 = .ok (.iadd, 1) := by decide +kernel
theorem d_m826_117 : decode prog_14_method_4_code 117 = .ok (.imul, 1) := by decide +kernel
theorem d_m826_118 : decode prog_14_method_4_code 118 = .ok (.iconst 1, 1) := by decide +kernel
theorem d_m826_119 : decode prog_14_method_4_code 119 = .ok (.iload 4, 2) := by decide +kernel
theorem d_m826_121 : decode prog_14_method_4_code 121 = .ok (.iconst 2, 1) := by decide +kernel
theorem d_m826_122 : decode prog_14_method_4_code 122 = .ok (.iload 10, 2) := by decide +kernel
theorem d_m826_124 : decode prog_14_method_4_code 124 = .ok (.imul, 1) := by decide +kernel
theorem d_m826_125 : decode prog_14_method_4_code 125 = .ok (.iconst 1, 1) := by decide +kernel
theorem d_m826_126 : decode prog_14_method_4_code 126 = .ok (.iadd, 1) := by decide +kernel
theorem d_m826_127 : decode prog_14_method_4_code 127 = .ok (.ishr, 1) := by decide +kernel
theorem d_m826_128 : decode prog_14_method_4_code 128 = .ok (.iconst 1, 1) := by decide +kernel
theorem d_m826_129 : decode prog_14_method_4_code 129 = .ok (.iand, 1) := by decide +kernel
theorem d_m826_130 : decode prog_14_method_4_code 130 = .ok (.iadd, 1) := by decide +kernel
theorem d_m826_131 : decode prog_14_method_4_code 131 = .ok (.imul, 1) := by decide +kernel
theorem d_m826_132 : decode prog_14_method_4_code 132 = .ok (.iadd, 1) := by decide +kernel
theorem d_m826_133 : decode prog_14_method_4_code 133 = .ok (.istore 7, 2) := by decide +kernel
theorem d_m826_135 : decode prog_14_method_4_code 135 = .ok (.iinc 10 1, 3) := by decide +kernel
theorem d_m826_138 : decode prog_14_method_4_code 138 = .ok (.goto (-45), 3) := by decide +kernel
theorem d_m826_141 : decode prog_14_method_4_code 141 = .ok (.iload 7, 2) := by decide +kernel
theorem d_m826_143 : decode prog_14_method_4_code 143 = .ok (.sipush 192, 3) := by decide +kernel
theorem d_m826_146 : decode prog_14_method_4_code 146 = .ok (.if_icmp .le 6, 3) := by decide +kernel
theorem d_m826_149 : decode prog_14_method_4_code 149 = .ok (.iload 7, 2) := by decide +kernel
theorem d_m826_151 : decode prog_14_method_4_code 151 = .ok (.ireturn, 1) := by decide +kernel
theorem d_m826_152 : decode prog_14_method_4_code 152 = .ok (.aload_n 0, 1) := by decide +kernel
theorem d_m826_153 : decode prog_14_method_4_code 153 = .ok (.iload_n 1, 1) := by decide +kernel
theorem d_m826_154 : decode prog_14_method_4_code 154 = .ok (.putfield 95, 3) := by decide +kernel
theorem d_m826_157 : decode prog_14_method_4_code 157 = .ok (.aload_n 0, 1) := by decide +kernel
theorem d_m826_158 : decode prog_14_method_4_code 158 = .ok (.iload_n 2, 1) := by decide +kernel
theorem d_m826_159 : decode prog_14_method_4_code 159 = .ok (.putfield 98, 3) := by decide +kernel
theorem d_m826_162 : decode prog_14_method_4_code 162 = .ok (.aload_n 0, 1) := by decide +kernel
theorem d_m826_163 : decode prog_14_method_4_code 163 = .ok (.iload_n 3, 1) := by decide +kernel
theorem d_m826_164 : decode prog_14_method_4_code 164 = .ok (.putfield 101, 3) := by decide +kernel
theorem d_m826_167 : decode prog_14_method_4_code 167 = .ok (.aload_n 0, 1) := by decide +kernel
theorem d_m826_168 : decode prog_14_method_4_code 168 = .ok (.iload 8, 2) := by decide +kernel
theorem d_m826_170 : decode prog_14_method_4_code 170 = .ok (.putfield 104, 3) := by decide +kernel
theorem d_m826_173 : decode prog_14_method_4_code 173 = .ok (.aload_n 0, 1) := by decide +kernel
theorem d_m826_174 : decode prog_14_method_4_code 174 = .ok (.iload 9, 2) := by decide +kernel
theorem d_m826_176 : decode prog_14_method_4_code 176 = .ok (.putfield 107, 3) := by decide +kernel
theorem d_m826_179 : decode prog_14_method_4_code 179 = .ok (.iconst 0, 1) := by decide +kernel
theorem d_m826_180 : decode prog_14_method_4_code 180 = .ok (.istore 10, 2) := by decide +kernel
theorem d_m826_182 : decode prog_14_method_4_code 182 = .ok (.iconst 0, 1) := by decide +kernel
theorem d_m826_183 : decode prog_14_method_4_code 183 = .ok (.istore 11, 2) := by decide +kernel
theorem d_m826_185 : decode prog_14_method_4_code 185 = .ok (.iload 11, 2) := by decide +kernel
theorem d_m826_187 : decode prog_14_method_4_code 187 = .ok (.iload_n 3, 1) := by decide +kernel
theorem d_m826_188 : decode prog_14_method_4_code 188 = .ok (.if_icmp .ge 162, 3) := by decide +kernel
theorem d_m826_191 : decode prog_14_method_4_code 191 = .ok (.aload_n 0, 1) := by decide +kernel
theorem d_m826_192 : decode prog_14_method_4_code 192 = .ok (.getfield 7, 3) := by decide +kernel
theorem d_m826_195 : decode prog_14_method_4_code 195 = .ok (.iload 11, 2) := by decide +kernel
theorem d_m826_197 : decode prog_14_method_4_code 197 = .ok (.iconst 1, 1) := by decide +kernel
theorem d_m826_198 : decode prog_14_method_4_code 198 = .ok (.iload 4, 2) := by decide +kernel
