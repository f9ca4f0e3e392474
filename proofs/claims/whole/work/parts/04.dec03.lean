theorem d_m503_42 : decode prog_1_method_6_code 42 = .ok (.invokevirtual 119, 3) := by decide +kernel
theorem d_m503_45 : decode prog_1_method_6_code 45 = .ok (.aload_n 0, 1) := by decide +kernel
theorem d_m503_46 : decode prog_1_method_6_code 46 = .ok (.getfield 21, 3) := by decide +kernel
theorem d_m503_49 : decode prog_1_method_6_code 49 = .ok (.iload_n 1, 1) := by decide +kernel
theorem d_m503_50 : decode prog_1_method_6_code 50 = .ok (.invokevirtual 122, 3) := by decide +kernel
theorem d_m503_53 : decode prog_1_method_6_code 53 = .ok (.iconst 1, 1) := by decide +kernel
theorem d_m503_54 : decode prog_1_method_6_code 54 = .ok (.ireturn, 1) := by decide +kernel
theorem d_m506_0 : decode prog_5_method_3_code 0 = .ok (.iload_n 3, 1) := by decide +kernel
theorem d_m506_1 : decode prog_5_method_3_code 1 = .ok (.ifCond .lt 20, 3) := by decide +kernel
theorem d_m506_4 : decode prog_5_method_3_code 4 = .ok (.iload_n 3, 1) := by decide +kernel
theorem d_m506_5 : decode prog_5_method_3_code 5 = .ok (.bipush 9, 2) := by decide +kernel
theorem d_m506_7 : decode prog_5_method_3_code 7 = .ok (.if_icmp .gt 14, 3) := by decide +kernel
theorem d_m506_10 : decode prog_5_method_3_code 10 = .ok (.iload_n 2, 1) := by decide +kernel
theorem d_m506_11 : decode prog_5_method_3_code 11 = .ok (.ifCond .eq 12, 3) := by decide +kernel
theorem d_m506_14 : decode prog_5_method_3_code 14 = .ok (.iload_n 2, 1) := by decide +kernel
theorem d_m506_15 : decode prog_5_method_3_code 15 = .ok (.iload_n 3, 1) := by decide +kernel
theorem d_m506_16 : decode prog_5_method_3_code 16 = .ok (.iconst 1, 1) := by decide +kernel
theorem d_m506_17 : decode prog_5_method_3_code 17 = .ok (.iadd, 1) := by decide +kernel
theorem d_m506_18 : decode prog_5_method_3_code 18 = .ok (.if_icmp .eq 5, 3) := by decide +kernel
theorem d_m506_21 : decode prog_5_method_3_code 21 = .ok (.iconst (-1), 1) := by decide +kernel
theorem d_m506_22 : decode prog_5_method_3_code 22 = .ok (.ireturn, 1) := by decide +kernel
theorem d_m506_23 : decode prog_5_method_3_code 23 = .ok (.iload_n 2, 1) := by decide +kernel
theorem d_m506_24 : decode prog_5_method_3_code 24 = .ok (.ifCond .eq 7, 3) := by decide +kernel
theorem d_m506_27 : decode prog_5_method_3_code 27 = .ok (.iconst 1, 1) := by decide +kernel
theorem d_m506_28 : decode prog_5_method_3_code 28 = .ok (.goto 4, 3) := by decide +kernel
theorem d_m506_31 : decode prog_5_method_3_code 31 = .ok (.iconst 0, 1) := by decide +kernel
theorem d_m506_32 : decode prog_5_method_3_code 32 = .ok (.istore 4, 2) := by decide +kernel
theorem d_m506_34 : decode prog_5_method_3_code 34 = .ok (.iload_n 0, 1) := by decide +kernel
theorem d_m506_35 : decode prog_5_method_3_code 35 = .ok (.ifCond .ne 18, 3) := by decide +kernel
theorem d_m506_38 : decode prog_5_method_3_code 38 = .ok (.iload_n 1, 1) := by decide +kernel
theorem d_m506_39 : decode prog_5_method_3_code 39 = .ok (.ifCond .ne 14, 3) := by decide +kernel
theorem d_m506_42 : decode prog_5_method_3_code 42 = .ok (.iload 4, 2) := by decide +kernel
theorem d_m506_44 : decode prog_5_method_3_code 44 = .ok (.ifCond .eq 7, 3) := by decide +kernel
theorem d_m506_47 : decode prog_5_method_3_code 47 = .ok (.iconst 2, 1) := by decide +kernel
theorem d_m506_48 : decode prog_5_method_3_code 48 = .ok (.goto 4, 3) := by decide +kernel
theorem d_m506_51 : decode prog_5_method_3_code 51 = .ok (.iconst 1, 1) := by decide +kernel
theorem d_m506_52 : decode prog_5_method_3_code 52 = .ok (.ireturn, 1) := by decide +kernel
theorem d_m506_53 : decode prog_5_method_3_code 53 = .ok (.iload_n 0, 1) := by decide +kernel
theorem d_m506_54 : decode prog_5_method_3_code 54 = .ok (.ifCond .ne 24, 3) := by decide +kernel
theorem d_m506_57 : decode prog_5_method_3_code 57 = .ok (.iload_n 1, 1) := by decide +kernel
theorem d_m506_58 : decode prog_5_method_3_code 58 = .ok (.bipush 63, 2) := by decide +kernel
theorem d_m506_60 : decode prog_5_method_3_code 60 = .ok (.if_icmp .ne 16, 3) := by decide +kernel
theorem d_m506_63 : decode prog_5_method_3_code 63 = .ok (.iload_n 3, 1) := by decide +kernel
theorem d_m506_64 : decode prog_5_method_3_code 64 = .ok (.ifCond .ne 12, 3) := by decide +kernel
theorem d_m506_67 : decode prog_5_method_3_code 67 = .ok (.iload 4, 2) := by decide +kernel
theorem d_m506_69 : decode prog_5_method_3_code 69 = .ok (.ifCond .ne 7, 3) := by decide +kernel
theorem d_m506_72 : decode prog_5_method_3_code 72 = .ok (.iconst 0, 1) := by decide +kernel
theorem d_m506_73 : decode prog_5_method_3_code 73 = .ok (.goto 4, 3) := by decide +kernel
theorem d_m506_76 : decode prog_5_method_3_code 76 = .ok (.iconst (-1), 1) := by decide +kernel
theorem d_m506_77 : decode prog_5_method_3_code 77 = .ok (.ireturn, 1) := by decide +kernel
theorem d_m506_78 : decode prog_5_method_3_code 78 = .ok (.iload_n 0, 1) := by decide +kernel
theorem d_m506_79 : decode prog_5_method_3_code 79 = .ok (.ifCond .lt 14, 3) := by decide +kernel
theorem d_m506_82 : decode prog_5_method_3_code 82 = .ok (.iload_n 1, 1) := by decide +kernel
theorem d_m506_83 : decode prog_5_method_3_code 83 = .ok (.iload_n 0, 1) := by decide +kernel
theorem d_m506_84 : decode prog_5_method_3_code 84 = .ok (.if_icmp .lt 9, 3) := by decide +kernel
theorem d_m506_87 : decode prog_5_method_3_code 87 = .ok (.iload_n 1, 1) := by decide +kernel
theorem d_m506_88 : decode prog_5_method_3_code 88 = .ok (.bipush 63, 2) := by decide +kernel
theorem d_m506_90 : decode prog_5_method_3_code 90 = .ok (.if_icmp .le 5, 3) := by decide +kernel
theorem d_m506_93 : decode prog_5_method_3_code 93 = .ok (.iconst (-1), 1) := by decide +kernel
theorem d_m506_94 : decode prog_5_method_3_code 94 = .ok (.ireturn, 1) := by decide +kernel
theorem d_m506_95 : decode prog_5_method_3_code 95 = .ok (.iload 4, 2) := by decide +kernel
theorem d_m506_97 : decode prog_5_method_3_code 97 = .ok (.ifCond .eq 7, 3) := by decide +kernel
theorem d_m506_100 : decode prog_5_method_3_code 100 = .ok (.iconst 4, 1) := by decide +kernel
theorem d_m506_101 : decode prog_5_method_3_code 101 = .ok (.goto 4, 3) := by decide +kernel
theorem d_m506_104 : decode prog_5_method_3_code 104 = .ok (.iconst 3, 1) := by decide +kernel
theorem d_m506_105 : decode prog_5_method_3_code 105 = .ok (.ireturn, 1) := by decide +kernel
theorem d_m510_0 : decode prog_5_method_4_code 0 = .ok (.iload_n 2, 1) := by decide +kernel
theorem d_m510_1 : decode prog_5_method_4_code 1 = .ok (.ifCond .eq 15, 3) := by decide +kernel
theorem d_m510_4 : decode prog_5_method_4_code 4 = .ok (.iload_n 2, 1) := by decide +kernel
theorem d_m510_5 : decode prog_5_method_4_code 5 = .ok (.aload_n 0, 1) := by decide +kernel
theorem d_m510_6 : decode prog_5_method_4_code 6 = .ok (.getfield 24, 3) := by decide +kernel
theorem d_m510_9 : decode prog_5_method_4_code 9 = .ok (.getfield 49, 3) := by decide +kernel
theorem d_m510_12 : decode prog_5_method_4_code 12 = .ok (.iushr, 1) := by decide +kernel
theorem d_m510_13 : decode prog_5_method_4_code 13 = .ok (.ifCond .eq 5, 3) := by decide +kernel
theorem d_m510_16 : decode prog_5_method_4_code 16 = .ok (.iconst 0, 1) := by decide +kernel
theorem d_m510_17 : decode prog_5_method_4_code 17 = .ok (.ireturn, 1) := by decide +kernel
theorem d_m510_18 : decode prog_5_method_4_code 18 = .ok (.iload_n 1, 1) := by decide +kernel
theorem d_m510_19 : decode prog_5_method_4_code 19 = .ok (.iconst 3, 1) := by decide +kernel
theorem d_m510_20 : decode prog_5_method_4_code 20 = .ok (.if_icmp .eq 8, 3) := by decide +kernel
theorem d_m510_23 : decode prog_5_method_4_code 23 = .ok (.iload_n 1, 1) := by decide +kernel
theorem d_m510_24 : decode prog_5_method_4_code 24 = .ok (.iconst 4, 1) := by decide +kernel
theorem d_m510_25 : decode prog_5_method_4_code 25 = .ok (.if_icmp .ne 11, 3) := by decide +kernel
theorem d_m510_28 : decode prog_5_method_4_code 28 = .ok (.iload_n 2, 1) := by decide +kernel
theorem d_m510_29 : decode prog_5_method_4_code 29 = .ok (.invokestatic 54, 3) := by decide +kernel
theorem d_m510_32 : decode prog_5_method_4_code 32 = .ok (.iconst 1, 1) := by decide +kernel
theorem d_m510_33 : decode prog_5_method_4_code 33 = .ok (.if_icmp .ne 7, 3) := by decide +kernel
theorem d_m510_36 : decode prog_5_method_4_code 36 = .ok (.iconst 1, 1) := by decide +kernel
theorem d_m510_37 : decode prog_5_method_4_code 37 = .ok (.goto 4, 3) := by decide +kernel
theorem d_m510_40 : decode prog_5_method_4_code 40 = .ok (.iconst 0, 1) := by decide +kernel
theorem d_m510_41 : decode prog_5_method_4_code 41 = .ok (.ireturn, 1) := by decide +kernel
theorem d_m516_0 : decode prog_1_method_7_code 0 = .ok (.iload_n 1, 1) := by decide +kernel
theorem d_m516_1 : decode prog_1_method_7_code 1 = .ok (.ifCond .lt 34, 3) := by decide +kernel
theorem d_m516_4 : decode prog_1_method_7_code 4 = .ok (.iload_n 1, 1) := by decide +kernel
theorem d_m516_5 : decode prog_1_method_7_code 5 = .ok (.aload_n 0, 1) := by decide +kernel
theorem d_m516_6 : decode prog_1_method_7_code 6 = .ok (.getfield 10, 3) := by decide +kernel
theorem d_m516_9 : decode prog_1_method_7_code 9 = .ok (.getfield 126, 3) := by decide +kernel
theorem d_m516_12 : decode prog_1_method_7_code 12 = .ok (.if_icmp .ge 23, 3) := by decide +kernel
theorem d_m516_15 : decode prog_1_method_7_code 15 = .ok (.iload_n 2, 1) := by decide +kernel
theorem d_m516_16 : decode prog_1_method_7_code 16 = .ok (.ifCond .lt 19, 3) := by decide +kernel
theorem d_m516_19 : decode prog_1_method_7_code 19 = .ok (.iload_n 2, 1) := by decide +kernel
theorem d_m516_20 : decode prog_1_method_7_code 20 = .ok (.iconst 4, 1) := by decide +kernel
theorem d_m516_21 : decode prog_1_method_7_code 21 = .ok (.if_icmp .ge 14, 3) := by decide +kernel
theorem d_m516_24 : decode prog_1_method_7_code 24 = .ok (.iload_n 3, 1) := by decide +kernel
theorem d_m516_25 : decode prog_1_method_7_code 25 = .ok (.iconst 4, 1) := by decide +kernel
theorem d_m516_26 : decode prog_1_method_7_code 26 = .ok (.if_icmp .lt 9, 3) := by decide +kernel
theorem d_m516_29 : decode prog_1_method_7_code 29 = .ok (.iload_n 3, 1) := by decide +kernel
theorem d_m516_30 : decode prog_1_method_7_code 30 = .ok (.bipush 8, 2) := by decide +kernel
theorem d_m516_32 : decode prog_1_method_7_code 32 = .ok (.if_icmp .lt 5, 3) := by decide +kernel
theorem d_m516_35 : decode prog_1_method_7_code 35 = .ok (.iconst 0, 1) := by decide +kernel
theorem d_m516_36 : decode prog_1_method_7_code 36 = .ok (.ireturn, 1) := by decide +kernel
theorem d_m516_37 : decode prog_1_method_7_code 37 = .ok (.aload_n 0, 1) := by decide +kernel
theorem d_m516_38 : decode prog_1_method_7_code 38 = .ok (.getfield 21, 3) := by decide +kernel
theorem d_m516_41 : decode prog_1_method_7_code 41 = .ok (.getfield 130, 3) := by decide +kernel
theorem d_m516_44 : decode prog_1_method_7_code 44 = .ok (.iload_n 1, 1) := by decide +kernel
theorem d_m516_45 : decode prog_1_method_7_code 45 = .ok (.iload_n 2, 1) := by decide +kernel
theorem d_m516_46 : decode prog_1_method_7_code 46 = .ok (.iastore, 1) := by decide +kernel
theorem d_m516_47 : decode prog_1_method_7_code 47 = .ok (.aload_n 0, 1) := by decide +kernel
theorem d_m516_48 : decode prog_1_method_7_code 48 = .ok (.getfield 21, 3) := by decide +kernel
theorem d_m516_51 : decode prog_1_method_7_code 51 = .ok (.getfield 134, 3) := by decide +kernel
theorem d_m516_54 : decode prog_1_method_7_code 54 = .ok (.iload_n 1, 1) := by decide +kernel
theorem d_m516_55 : decode prog_1_method_7_code 55 = .ok (.iload_n 3, 1) := by decide +kernel
theorem d_m516_56 : decode prog_1_method_7_code 56 = .ok (.iastore, 1) := by decide +kernel
theorem d_m516_57 : decode prog_1_method_7_code 57 = .ok (.iconst 1, 1) := by decide +kernel
theorem d_m516_58 : decode prog_1_method_7_code 58 = .ok (.ireturn, 1) := by decide +kernel
theorem d_m520_0 : decode prog_1_method_8_code 0 = .ok (.iload_n 1, 1) := by decide +kernel
theorem d_m520_1 : decode prog_1_method_8_code 1 = .ok (.ifCond .lt 9, 3) := by decide +kernel
theorem d_m520_4 : decode prog_1_method_8_code 4 = .ok (.iload_n 1, 1) := by decide +kernel
theorem d_m520_5 : decode prog_1_method_8_code 5 = .ok (.ldc 137, 2) := by decide +kernel
theorem d_m520_7 : decode prog_1_method_8_code 7 = .ok (.if_icmp .le 5, 3) := by decide +kernel
theorem d_m520_10 : decode prog_1_method_8_code 10 = .ok (.iconst 0, 1) := by decide +kernel
theorem d_m520_11 : decode prog_1_method_8_code 11 = .ok (.ireturn, 1) := by decide +kernel
theorem d_m520_12 : decode prog_1_method_8_code 12 = .ok (.aload_n 0, 1) := by decide +kernel
theorem d_m520_13 : decode prog_1_method_8_code 13 = .ok (.getfield 21, 3) := by decide +kernel
theorem d_m520_16 : decode prog_1_method_8_code 16 = .ok (.iload_n 1, 1) := by decide +kernel
theorem d_m520_17 : decode prog_1_method_8_code 17 = .ok (.putfield 138, 3) := by decide +kernel
theorem d_m520_20 : decode prog_1_method_8_code 20 = .ok (.iconst 1, 1) := by decide +kernel
theorem d_m520_21 : decode prog_1_method_8_code 21 = .ok (.ireturn, 1) := by decide +kernel
theorem d_m525_0 : decode prog_1_method_9_code 0 = .ok (.aload_n 0, 1) := by decide +kernel
theorem d_m525_1 : decode prog_1_method_9_code 1 = .ok (.getfield 10, 3) := by decide +kernel
theorem d_m525_4 : decode prog_1_method_9_code 4 = .ok (.iload_n 1, 1) := by decide +kernel
theorem d_m525_5 : decode prog_1_method_9_code 5 = .ok (.iload_n 2, 1) := by decide +kernel
theorem d_m525_6 : decode prog_1_method_9_code 6 = .ok (.iload_n 3, 1) := by decide +kernel
theorem d_m525_7 : decode prog_1_method_9_code 7 = .ok (.invokevirtual 141, 3) := by decide +kernel
theorem d_m525_10 : decode prog_1_method_9_code 10 = .ok (.istore 5, 2) := by decide +kernel
theorem d_m525_12 : decode prog_1_method_9_code 12 = .ok (.iload 5, 2) := by decide +kernel
theorem d_m525_14 : decode prog_1_method_9_code 14 = .ok (.iconst (-1), 1) := by decide +kernel
theorem d_m525_15 : decode prog_1_method_9_code 15 = .ok (.if_icmp .eq 12, 3) := by decide +kernel
theorem d_m525_18 : decode prog_1_method_9_code 18 = .ok (.iload_n 3, 1) := by decide +kernel
theorem d_m525_19 : decode prog_1_method_9_code 19 = .ok (.iload 4, 2) := by decide +kernel
theorem d_m525_21 : decode prog_1_method_9_code 21 = .ok (.invokestatic 145, 3) := by decide +kernel
theorem d_m525_24 : decode prog_1_method_9_code 24 = .ok (.ifCond .ne 5, 3) := by decide +kernel
theorem d_m525_27 : decode prog_1_method_9_code 27 = .ok (.iconst 0, 1) := by decide +kernel
theorem d_m525_28 : decode prog_1_method_9_code 28 = .ok (.ireturn, 1) := by decide +kernel
theorem d_m525_29 : decode prog_1_method_9_code 29 = .ok (.aload_n 0, 1) := by decide +kernel
theorem d_m525_30 : decode prog_1_method_9_code 30 = .ok (.getfield 10, 3) := by decide +kernel
theorem d_m525_33 : decode prog_1_method_9_code 33 = .ok (.getfield 148, 3) := by decide +kernel
theorem d_m525_36 : decode prog_1_method_9_code 36 = .ok (.iload 5, 2) := by decide +kernel
theorem d_m525_38 : decode prog_1_method_9_code 38 = .ok (.iload 4, 2) := by decide +kernel
theorem d_m525_40 : decode prog_1_method_9_code 40 = .ok (.i2s, 1) := by decide +kernel
theorem d_m525_41 : decode prog_1_method_9_code 41 = .ok (.sastore, 1) := by decide +kernel
theorem d_m525_42 : decode prog_1_method_9_code 42 = .ok (.iconst 1, 1) := by decide +kernel
theorem d_m525_43 : decode prog_1_method_9_code 43 = .ok (.ireturn, 1) := by decide +kernel
theorem d_m529_0 : decode prog_9_method_3_code 0 = .ok (.iload_n 0, 1) := by decide +kernel
theorem d_m529_1 : decode prog_9_method_3_code 1 = .ok (.ifCond .ne 9, 3) := by decide +kernel
theorem d_m529_4 : decode prog_9_method_3_code 4 = .ok (.sipush (-1024), 3) := by decide +kernel
theorem d_m529_7 : decode prog_9_method_3_code 7 = .ok (.goto 6, 3) := by decide +kernel
theorem d_m529_10 : decode prog_9_method_3_code 10 = .ok (.sipush (-1023), 3) := by decide +kernel
theorem d_m529_13 : decode prog_9_method_3_code 13 = .ok (.istore_n 2, 1) := by decide +kernel
theorem d_m529_14 : decode prog_9_method_3_code 14 = .ok (.iload_n 0, 1) := by decide +kernel
theorem d_m529_15 : decode prog_9_method_3_code 15 = .ok (.ifCond .ne 9, 3) := by decide +kernel
theorem d_m529_18 : decode prog_9_method_3_code 18 = .ok (.sipush 1023, 3) := by decide +kernel
theorem d_m529_21 : decode prog_9_method_3_code 21 = .ok (.goto 6, 3) := by decide +kernel
theorem d_m529_24 : decode prog_9_method_3_code 24 = .ok (.sipush 1023, 3) := by decide +kernel
theorem d_m529_27 : decode prog_9_method_3_code 27 = .ok (.istore_n 3, 1) := by decide +kernel
theorem d_m529_28 : decode prog_9_method_3_code 28 = .ok (.iload_n 1, 1) := by decide +kernel
theorem d_m529_29 : decode prog_9_method_3_code 29 = .ok (.iload_n 2, 1) := by decide +kernel
theorem d_m529_30 : decode prog_9_method_3_code 30 = .ok (.if_icmp .lt 12, 3) := by decide +kernel
theorem d_m529_33 : decode prog_9_method_3_code 33 = .ok (.iload_n 1, 1) := by decide +kernel
theorem d_m529_34 : decode prog_9_method_3_code 34 = .ok (.iload_n 3, 1) := by decide +kernel
theorem d_m529_35 : decode prog_9_method_3_code 35 = .ok (.if_icmp .gt 7, 3) := by decide +kernel
theorem d_m529_38 : decode prog_9_method_3_code 38 = .ok (.iconst 1, 1) := by decide +kernel
theorem d_m529_39 : decode prog_9_method_3_code 39 = .ok (.goto 4, 3) := by decide +kernel
theorem d_m529_42 : decode prog_9_method_3_code 42 = .ok (.iconst 0, 1) := by decide +kernel
theorem d_m529_43 : decode prog_9_method_3_code 43 = .ok (.ireturn, 1) := by decide +kernel
theorem d_m533_0 : decode prog_1_method_10_code 0 = .ok (.aload_n 0, 1) := by decide +kernel
theorem d_m533_1 : decode prog_1_method_10_code 1 = .ok (.getfield 10, 3) := by decide +kernel
theorem d_m533_4 : decode prog_1_method_10_code 4 = .ok (.iload_n 1, 1) := by decide +kernel
theorem d_m533_5 : decode prog_1_method_10_code 5 = .ok (.iload_n 2, 1) := by decide +kernel
theorem d_m533_6 : decode prog_1_method_10_code 6 = .ok (.iload_n 3, 1) := by decide +kernel
theorem d_m533_7 : decode prog_1_method_10_code 7 = .ok (.invokevirtual 141, 3) := by decide +kernel
theorem d_m533_10 : decode prog_1_method_10_code 10 = .ok (.istore 4, 2) := by decide +kernel
theorem d_m533_12 : decode prog_1_method_10_code 12 = .ok (.iload 4, 2) := by decide +kernel
theorem d_m533_14 : decode prog_1_method_10_code 14 = .ok (.iconst (-1), 1) := by decide +kernel
theorem d_m533_15 : decode prog_1_method_10_code 15 = .ok (.if_icmp .ne 7, 3) := by decide +kernel
theorem d_m533_18 : decode prog_1_method_10_code 18 = .ok (.iconst 0, 1) := by decide +kernel
theorem d_m533_19 : decode prog_1_method_10_code 19 = .ok (.goto 13, 3) := by decide +kernel
theorem d_m533_22 : decode prog_1_method_10_code 22 = .ok (.aload_n 0, 1) := by decide +kernel
theorem d_m533_23 : decode prog_1_method_10_code 23 = .ok (.getfield 10, 3) := by decide +kernel
theorem d_m533_26 : decode prog_1_method_10_code 26 = .ok (.getfield 148, 3) := by decide +kernel
theorem d_m533_29 : decode prog_1_method_10_code 29 = .ok (.iload 4, 2) := by decide +kernel
theorem d_m533_31 : decode prog_1_method_10_code 31 = .ok (.saload, 1) := by decide +kernel
theorem d_m533_32 : decode prog_1_method_10_code 32 = .ok (.ireturn, 1) := by decide +kernel
theorem d_m537_0 : decode prog_1_method_11_code 0 = .ok (.aload_n 0, 1) := by decide +kernel
theorem d_m537_1 : decode prog_1_method_11_code 1 = .ok (.getfield 58, 3) := by decide +kernel
theorem d_m537_4 : decode prog_1_method_11_code 4 = .ok (.iconst 0, 1) := by decide +kernel
theorem d_m537_5 : decode prog_1_method_11_code 5 = .ok (.invokevirtual 152, 3) := by decide +kernel
theorem d_m537_8 : decode prog_1_method_11_code 8 = .ok (.aload_n 0, 1) := by decide +kernel
theorem d_m537_9 : decode prog_1_method_11_code 9 = .ok (.getfield 67, 3) := by decide +kernel
theorem d_m537_12 : decode prog_1_method_11_code 12 = .ok (.aload_n 0, 1) := by decide +kernel
theorem d_m537_13 : decode prog_1_method_11_code 13 = .ok (.getfield 58, 3) := by decide +kernel
theorem d_m537_16 : decode prog_1_method_11_code 16 = .ok (.invokevirtual 155, 3) := by decide +kernel
theorem d_m537_19 : decode prog_1_method_11_code 19 = .ok (.aload_n 0, 1) := by decide +kernel
theorem d_m537_20 : decode prog_1_method_11_code 20 = .ok (.getfield 58, 3) := by decide +kernel
theorem d_m537_23 : decode prog_1_method_11_code 23 = .ok (.getfield 159, 3) := by decide +kernel
theorem d_m537_26 : decode prog_1_method_11_code 26 = .ok (.ifCond .ne 16, 3) := by decide +kernel
theorem d_m537_29 : decode prog_1_method_11_code 29 = .ok (.aload_n 0, 1) := by decide +kernel
theorem d_m537_30 : decode prog_1_method_11_code 30 = .ok (.getfield 58, 3) := by decide +kernel
theorem d_m537_33 : decode prog_1_method_11_code 33 = .ok (.getfield 163, 3) := by decide +kernel
theorem d_m537_36 : decode prog_1_method_11_code 36 = .ok (.sipush 16384, 3) := by decide +kernel
theorem d_m537_39 : decode prog_1_method_11_code 39 = .ok (.if_icmp .le 5, 3) := by decide +kernel
theorem d_m537_42 : decode prog_1_method_11_code 42 = .ok (.iconst (-1), 1) := by decide +kernel
theorem d_m537_43 : decode prog_1_method_11_code 43 = .ok (.ireturn, 1) := by decide +kernel
theorem d_m537_44 : decode prog_1_method_11_code 44 = .ok (.aload_n 0, 1) := by decide +kernel
theorem d_m537_45 : decode prog_1_method_11_code 45 = .ok (.getfield 42, 3) := by decide +kernel
theorem d_m537_48 : decode prog_1_method_11_code 48 = .ok (.aload_n 0, 1) := by decide +kernel
theorem d_m537_49 : decode prog_1_method_11_code 49 = .ok (.getfield 58, 3) := by decide +kernel
theorem d_m537_52 : decode prog_1_method_11_code 52 = .ok (.getfield 163, 3) := by decide +kernel
theorem d_m537_55 : decode prog_1_method_11_code 55 = .ok (.invokevirtual 166, 3) := by decide +kernel
theorem d_m537_58 : decode prog_1_method_11_code 58 = .ok (.aload_n 0, 1) := by decide +kernel
theorem d_m537_59 : decode prog_1_method_11_code 59 = .ok (.getfield 58, 3) := by decide +kernel
theorem d_m537_62 : decode prog_1_method_11_code 62 = .ok (.iconst 1, 1) := by decide +kernel
theorem d_m537_63 : decode prog_1_method_11_code 63 = .ok (.invokevirtual 152, 3) := by decide +kernel
theorem d_m537_66 : decode prog_1_method_11_code 66 = .ok (.aload_n 0, 1) := by decide +kernel
theorem d_m537_67 : decode prog_1_method_11_code 67 = .ok (.getfield 67, 3) := by decide +kernel
theorem d_m537_70 : decode prog_1_method_11_code 70 = .ok (.aload_n 0, 1) := by decide +kernel
theorem d_m537_71 : decode prog_1_method_11_code 71 = .ok (.getfield 58, 3) := by decide +kernel
theorem d_m537_74 : decode prog_1_method_11_code 74 = .ok (.invokevirtual 155, 3) := by decide +kernel
theorem d_m537_77 : decode prog_1_method_11_code 77 = .ok (.aload_n 0, 1) := by decide +kernel
theorem d_m537_78 : decode prog_1_method_11_code 78 = .ok (.getfield 42, 3) := by decide +kernel
theorem d_m537_81 : decode prog_1_method_11_code 81 = .ok (.aload_n 0, 1) := by decide +kernel
theorem d_m537_82 : decode prog_1_method_11_code 82 = .ok (.getfield 58, 3) := by decide +kernel
theorem d_m537_85 : decode prog_1_method_11_code 85 = .ok (.getfield 163, 3) := by decide +kernel
theorem d_m537_88 : decode prog_1_method_11_code 88 = .ok (.putfield 169, 3) := by decide +kernel
theorem d_m537_91 : decode prog_1_method_11_code 91 = .ok (.aload_n 0, 1) := by decide +kernel
theorem d_m537_92 : decode prog_1_method_11_code 92 = .ok (.getfield 42, 3) := by decide +kernel
theorem d_m537_95 : decode prog_1_method_11_code 95 = .ok (.getfield 169, 3) := by decide +kernel
theorem d_m537_98 : decode prog_1_method_11_code 98 = .ok (.ireturn, 1) := by decide +kernel
theorem d_m541_0 : decode prog_3_method_2_code 0 = .ok (.aload_n 0, 1) := by decide +kernel
theorem d_m541_1 : decode prog_3_method_2_code 1 = .ok (.iload_n 1, 1) := by decide +kernel
theorem d_m541_2 : decode prog_3_method_2_code 2 = .ok (.putfield 19, 3) := by decide +kernel
theorem d_m541_5 : decode prog_3_method_2_code 5 = .ok (.aload_n 0, 1) := by decide +kernel
theorem d_m541_6 : decode prog_3_method_2_code 6 = .ok (.iconst 0, 1) := by decide +kernel
theorem d_m541_7 : decode prog_3_method_2_code 7 = .ok (.putfield 23, 3) := by decide +kernel
theorem d_m541_10 : decode prog_3_method_2_code 10 = .ok (.aload_n 0, 1) := by decide +kernel
theorem d_m541_11 : decode prog_3_method_2_code 11 = .ok (.iconst 0, 1) := by decide +kernel
theorem d_m541_12 : decode prog_3_method_2_code 12 = .ok (.putfield 27, 3) := by decide +kernel
theorem d_m541_15 : decode prog_3_method_2_code 15 = .ok (.aload_n 0, 1) := by decide +kernel
theorem d_m541_16 : decode prog_3_method_2_code 16 = .ok (.iconst 0, 1) := by decide +kernel
theorem d_m541_17 : decode prog_3_method_2_code 17 = .ok (.putfield 30, 3) := by decide +kernel
theorem d_m541_20 : decode prog_3_method_2_code 20 = .ok (.aload_n 0, 1) := by decide +kernel
theorem d_m541_21 : decode prog_3_method_2_code 21 = .ok (.iconst 0, 1) := by decide +kernel
theorem d_m541_22 : decode prog_3_method_2_code 22 = .ok (.putfield 33, 3) := by decide +kernel
theorem d_m541_25 : decode prog_3_method_2_code 25 = .ok (.return_, 1) := by decide +kernel
theorem d_m545_0 : decode prog_8_method_2_code 0 = .ok (.aload_n 0, 1) := by decide +kernel
theorem d_m545_1 : decode prog_8_method_2_code 1 = .ok (.aload_n 1, 1) := by decide +kernel
theorem d_m545_2 : decode prog_8_method_2_code 2 = .ok (.putfield 27, 3) := by decide +kernel
theorem d_m545_5 : decode prog_8_method_2_code 5 = .ok (.aload_n 0, 1) := by decide +kernel
theorem d_m545_6 : decode prog_8_method_2_code 6 = .ok (.invokevirtual 31, 3) := by decide +kernel
theorem d_m545_9 : decode prog_8_method_2_code 9 = .ok (.iconst 0, 1) := by decide +kernel
theorem d_m545_10 : decode prog_8_method_2_code 10 = .ok (.istore_n 2, 1) := by decide +kernel
theorem d_m545_11 : decode prog_8_method_2_code 11 = .ok (.iload_n 2, 1) := by decide +kernel
theorem d_m545_12 : decode prog_8_method_2_code 12 = .ok (.aload_n 0, 1) := by decide +kernel
theorem d_m545_13 : decode prog_8_method_2_code 13 = .ok (.getfield 23, 3) := by decide +kernel
theorem d_m545_16 : decode prog_8_method_2_code 16 = .ok (.getfield 34, 3) := by decide +kernel
theorem d_m545_19 : decode prog_8_method_2_code 19 = .ok (.if_icmp .ge 258, 3) := by decide +kernel
theorem d_m545_22 : decode prog_8_method_2_code 22 = .ok (.aload_n 0, 1) := by decide +kernel
theorem d_m545_23 : decode prog_8_method_2_code 23 = .ok (.getfield 23, 3) := by decide +kernel
theorem d_m545_26 : decode prog_8_method_2_code 26 = .ok (.iload_n 2, 1) := by decide +kernel
theorem d_m545_27 : decode prog_8_method_2_code 27 = .ok (.invokevirtual 40, 3) := by decide +kernel
theorem d_m545_30 : decode prog_8_method_2_code 30 = .ok (.ifCond .eq 26, 3) := by decide +kernel
theorem d_m545_33 : decode prog_8_method_2_code 33 = .ok (.aload_n 0, 1) := by decide +kernel
theorem d_m545_34 : decode prog_8_method_2_code 34 = .ok (.invokevirtual 44, 3) := by decide +kernel
theorem d_m545_37 : decode prog_8_method_2_code 37 = .ok (.aload_n 0, 1) := by decide +kernel
theorem d_m545_38 : decode prog_8_method_2_code 38 = .ok (.getfield 27, 3) := by decide +kernel
theorem d_m545_41 : decode prog_8_method_2_code 41 = .ok (.aload_n 0, 1) := by decide +kernel
theorem d_m545_42 : decode prog_8_method_2_code 42 = .ok (.getfield 23, 3) := by decide +kernel
theorem d_m545_45 : decode prog_8_method_2_code 45 = .ok (.iload_n 2, 1) := by decide +kernel
theorem d_m545_46 : decode prog_8_method_2_code 46 = .ok (.invokevirtual 47, 3) := by decide +kernel
theorem d_m545_49 : decode prog_8_method_2_code 49 = .ok (.invokevirtual 51, 3) := by decide +kernel
theorem d_m545_52 : decode prog_8_method_2_code 52 = .ok (.aload_n 0, 1) := by decide +kernel
theorem d_m545_53 : decode prog_8_method_2_code 53 = .ok (.invokevirtual 31, 3) := by decide +kernel
theorem d_m545_56 : decode prog_8_method_2_code 56 = .ok (.iload_n 2, 1) := by decide +kernel
theorem d_m545_57 : decode prog_8_method_2_code 57 = .ok (.aload_n 0, 1) := by decide +kernel
theorem d_m545_58 : decode prog_8_method_2_code 58 = .ok (.getfield 23, 3) := by decide +kernel
theorem d_m545_61 : decode prog_8_method_2_code 61 = .ok (.getfield 57, 3) := by decide +kernel
theorem d_m545_64 : decode prog_8_method_2_code 64 = .ok (.imul, 1) := by decide +kernel
theorem d_m545_65 : decode prog_8_method_2_code 65 = .ok (.istore_n 3, 1) := by decide +kernel
theorem d_m545_66 : decode prog_8_method_2_code 66 = .ok (.iload_n 3, 1) := by decide +kernel
theorem d_m545_67 : decode prog_8_method_2_code 67 = .ok (.istore 4, 2) := by decide +kernel
theorem d_m545_69 : decode prog_8_method_2_code 69 = .ok (.iload 4, 2) := by decide +kernel
theorem d_m545_71 : decode prog_8_method_2_code 71 = .ok (.iload_n 3, 1) := by decide +kernel
theorem d_m545_72 : decode prog_8_method_2_code 72 = .ok (.aload_n 0, 1) := by decide +kernel
theorem d_m545_73 : decode prog_8_method_2_code 73 = .ok (.getfield 23, 3) := by decide +kernel
theorem d_m545_76 : decode prog_8_method_2_code 76 = .ok (.getfield 57, 3) := by decide +kernel
theorem d_m545_79 : decode prog_8_method_2_code 79 = .ok (.iadd, 1) := by decide +kernel
theorem d_m545_80 : decode prog_8_method_2_code 80 = .ok (.if_icmp .ge 191, 3) := by decide +kernel
theorem d_m545_83 : decode prog_8_method_2_code 83 = .ok (.aload_n 0, 1) := by decide +kernel
theorem d_m545_84 : decode prog_8_method_2_code 84 = .ok (.getfield 23, 3) := by decide +kernel
theorem d_m545_87 : decode prog_8_method_2_code 87 = .ok (.getfield 60, 3) := by decide +kernel
theorem d_m545_90 : decode prog_8_method_2_code 90 = .ok (.iload 4, 2) := by decide +kernel
theorem d_m545_92 : decode prog_8_method_2_code 92 = .ok (.iaload, 1) := by decide +kernel
theorem d_m545_93 : decode prog_8_method_2_code 93 = .ok (.istore 5, 2) := by decide +kernel
theorem d_m545_95 : decode prog_8_method_2_code 95 = .ok (.aload_n 0, 1) := by decide +kernel
theorem d_m545_96 : decode prog_8_method_2_code 96 = .ok (.getfield 23, 3) := by decide +kernel
theorem d_m545_99 : decode prog_8_method_2_code 99 = .ok (.getfield 63, 3) := by decide +kernel
theorem d_m545_102 : decode prog_8_method_2_code 102 = .ok (.iload 4, 2) := by decide +kernel
theorem d_m545_104 : decode prog_8_method_2_code 104 = .ok (.iaload, 1) := by decide +kernel
theorem d_m545_105 : decode prog_8_method_2_code 105 = .ok (.istore 6, 2) := by decide +kernel
theorem d_m545_107 : decode prog_8_method_2_code 107 = .ok (.aload_n 0, 1) := by decide +kernel
theorem d_m545_108 : decode prog_8_method_2_code 108 = .ok (.aload_n 0, 1) := by decide +kernel
theorem d_m545_109 : decode prog_8_method_2_code 109 = .ok (.getfield 23, 3) := by decide +kernel
theorem d_m545_112 : decode prog_8_method_2_code 112 = .ok (.getfield 66, 3) := by decide +kernel
theorem d_m545_115 : decode prog_8_method_2_code 115 = .ok (.iload 5, 2) := by decide +kernel
theorem d_m545_117 : decode prog_8_method_2_code 117 = .ok (.iaload, 1) := by decide +kernel
theorem d_m545_118 : decode prog_8_method_2_code 118 = .ok (.putfield 69, 3) := by decide +kernel
theorem d_m545_121 : decode prog_8_method_2_code 121 = .ok (.aload_n 0, 1) := by decide +kernel
theorem d_m545_122 : decode prog_8_method_2_code 122 = .ok (.getfield 23, 3) := by decide +kernel
theorem d_m545_125 : decode prog_8_method_2_code 125 = .ok (.getfield 72, 3) := by decide +kernel
theorem d_m545_128 : decode prog_8_method_2_code 128 = .ok (.tableswitch 107 0 3 #[32, 50, 61, 91], 32) := by decide +kernel
theorem d_m545_160 : decode prog_8_method_2_code 160 = .ok (.aload_n 0, 1) := by decide +kernel
theorem d_m545_161 : decode prog_8_method_2_code 161 = .ok (.iload 5, 2) := by decide +kernel
theorem d_m545_163 : decode prog_8_method_2_code 163 = .ok (.iload 6, 2) := by decide +kernel
theorem d_m545_165 : decode prog_8_method_2_code 165 = .ok (.invokevirtual 75, 3) := by decide +kernel
theorem d_m545_168 : decode prog_8_method_2_code 168 = .ok (.aload_n 0, 1) := by decide +kernel
theorem d_m545_169 : decode prog_8_method_2_code 169 = .ok (.iload 6, 2) := by decide +kernel
theorem d_m545_171 : decode prog_8_method_2_code 171 = .ok (.iconst 1, 1) := by decide +kernel
theorem d_m545_172 : decode prog_8_method_2_code 172 = .ok (.invokevirtual 79, 3) := by decide +kernel
theorem d_m545_175 : decode prog_8_method_2_code 175 = .ok (.goto 66, 3) := by decide +kernel
theorem d_m545_178 : decode prog_8_method_2_code 178 = .ok (.aload_n 0, 1) := by decide +kernel
theorem d_m545_179 : decode prog_8_method_2_code 179 = .ok (.iload 5, 2) := by decide +kernel
theorem d_m545_181 : decode prog_8_method_2_code 181 = .ok (.iload 6, 2) := by decide +kernel
theorem d_m545_183 : decode prog_8_method_2_code 183 = .ok (.invokevirtual 75, 3) := by decide +kernel
theorem d_m545_186 : decode prog_8_method_2_code 186 = .ok (.goto 55, 3) := by decide +kernel
theorem d_m545_189 : decode prog_8_method_2_code 189 = .ok (.aload_n 0, 1) := by decide +kernel
theorem d_m545_190 : decode prog_8_method_2_code 190 = .ok (.getfield 27, 3) := by decide +kernel
theorem d_m545_193 : decode prog_8_method_2_code 193 = .ok (.aload_n 0, 1) := by decide +kernel
theorem d_m545_194 : decode prog_8_method_2_code 194 = .ok (.getfield 19, 3) := by decide +kernel
theorem d_m545_197 : decode prog_8_method_2_code 197 = .ok (.getfield 82, 3) := by decide +kernel
theorem d_m545_200 : decode prog_8_method_2_code 200 = .ok (.iload 6, 2) := by decide +kernel
theorem d_m545_202 : decode prog_8_method_2_code 202 = .ok (.saload, 1) := by decide +kernel
theorem d_m545_203 : decode prog_8_method_2_code 203 = .ok (.aload_n 0, 1) := by decide +kernel
theorem d_m545_204 : decode prog_8_method_2_code 204 = .ok (.getfield 23, 3) := by decide +kernel
theorem d_m545_207 : decode prog_8_method_2_code 207 = .ok (.getfield 88, 3) := by decide +kernel
theorem d_m545_210 : decode prog_8_method_2_code 210 = .ok (.ishr, 1) := by decide +kernel
theorem d_m545_211 : decode prog_8_method_2_code 211 = .ok (.i2l, 1) := by decide +kernel
theorem d_m545_212 : decode prog_8_method_2_code 212 = .ok (.iconst 1, 1) := by decide +kernel
theorem d_m545_213 : decode prog_8_method_2_code 213 = .ok (.invokevirtual 91, 3) := by decide +kernel
theorem d_m545_216 : decode prog_8_method_2_code 216 = .ok (.goto 25, 3) := by decide +kernel
theorem d_m545_219 : decode prog_8_method_2_code 219 = .ok (.aload_n 0, 1) := by decide +kernel
theorem d_m545_220 : decode prog_8_method_2_code 220 = .ok (.iload 6, 2) := by decide +kernel
theorem d_m545_222 : decode prog_8_method_2_code 222 = .ok (.aload_n 0, 1) := by decide +kernel
theorem d_m545_223 : decode prog_8_method_2_code 223 = .ok (.getfield 23, 3) := by decide +kernel
theorem d_m545_226 : decode prog_8_method_2_code 226 = .ok (.getfield 95, 3) := by decide +kernel
theorem d_m545_229 : decode prog_8_method_2_code 229 = .ok (.invokevirtual 79, 3) := by decide +kernel
theorem d_m545_232 : decode prog_8_method_2_code 232 = .ok (.goto 9, 3) := by decide +kernel
theorem d_m545_235 : decode prog_8_method_2_code 235 = .ok (.aload_n 0, 1) := by decide +kernel
theorem d_m545_236 : decode prog_8_method_2_code 236 = .ok (.iload 6, 2) := by decide +kernel
theorem d_m545_238 : decode prog_8_method_2_code 238 = .ok (.invokevirtual 98, 3) := by decide +kernel
theorem d_m545_241 : decode prog_8_method_2_code 241 = .ok (.aload_n 0, 1) := by decide +kernel
theorem d_m545_242 : decode prog_8_method_2_code 242 = .ok (.getfield 101, 3) := by decide +kernel
theorem d_m545_245 : decode prog_8_method_2_code 245 = .ok (.sipush 32767, 3) := by decide +kernel
theorem d_m545_248 : decode prog_8_method_2_code 248 = .ok (.if_icmp .eq 13, 3) := by decide +kernel
theorem d_m545_251 : decode prog_8_method_2_code 251 = .ok (.aload_n 0, 1) := by decide +kernel
theorem d_m545_252 : decode prog_8_method_2_code 252 = .ok (.getfield 104, 3) := by decide +kernel
theorem d_m545_255 : decode prog_8_method_2_code 255 = .ok (.sipush 900, 3) := by decide +kernel
theorem d_m545_258 : decode prog_8_method_2_code 258 = .ok (.if_icmp .le 7, 3) := by decide +kernel
theorem d_m545_261 : decode prog_8_method_2_code 261 = .ok (.aload_n 0, 1) := by decide +kernel
theorem d_m545_262 : decode prog_8_method_2_code 262 = .ok (.invokevirtual 107, 3) := by decide +kernel
theorem d_m545_265 : decode prog_8_method_2_code 265 = .ok (.iinc 4 1, 3) := by decide +kernel
theorem d_m545_268 : decode prog_8_method_2_code 268 = .ok (.goto (-199), 3) := by decide +kernel
theorem d_m545_271 : decode prog_8_method_2_code 271 = .ok (.iinc 2 1, 3) := by decide +kernel
theorem d_m545_274 : decode prog_8_method_2_code 274 = .ok (.goto (-263), 3) := by decide +kernel
theorem d_m545_277 : decode prog_8_method_2_code 277 = .ok (.aload_n 0, 1) := by decide +kernel
theorem d_m545_278 : decode prog_8_method_2_code 278 = .ok (.invokevirtual 44, 3) := by decide +kernel
theorem d_m545_281 : decode prog_8_method_2_code 281 = .ok (.return_, 1) := by decide +kernel
theorem d_m549_0 : decode prog_8_method_3_code 0 = .ok (.aload_n 0, 1) := by decide +kernel
theorem d_m549_1 : decode prog_8_method_3_code 1 = .ok (.getfield 9, 3) := by decide +kernel
theorem d_m549_4 : decode prog_8_method_3_code 4 = .ok (.iconst 0, 1) := by decide +kernel
theorem d_m549_5 : decode prog_8_method_3_code 5 = .ok (.invokestatic 110, 3) := by decide +kernel
theorem d_m549_8 : decode prog_8_method_3_code 8 = .ok (.aload_n 0, 1) := by decide +kernel
theorem d_m549_9 : decode prog_8_method_3_code 9 = .ok (.iconst 0, 1) := by decide +kernel
theorem d_m549_10 : decode prog_8_method_3_code 10 = .ok (.putfield 101, 3) := by decide +kernel
theorem d_m549_13 : decode prog_8_method_3_code 13 = .ok (.aload_n 0, 1) := by decide +kernel
theorem d_m549_14 : decode prog_8_method_3_code 14 = .ok (.iconst 0, 1) := by decide +kernel
theorem d_m549_15 : decode prog_8_method_3_code 15 = .ok (.putfield 104, 3) := by decide +kernel
theorem d_m549_18 : decode prog_8_method_3_code 18 = .ok (.return_, 1) := by decide +kernel
theorem d_m554_0 : decode prog_5_method_11_code 0 = .ok (.aload_n 0, 1) := by decide +kernel
theorem d_m554_1 : decode prog_5_method_11_code 1 = .ok (.getfield 37, 3) := by decide +kernel
theorem d_m554_4 : decode prog_5_method_11_code 4 = .ok (.ifCond .le 20, 3) := by decide +kernel
theorem d_m554_7 : decode prog_5_method_11_code 7 = .ok (.iload_n 1, 1) := by decide +kernel
