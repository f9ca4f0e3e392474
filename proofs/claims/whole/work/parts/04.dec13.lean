theorem d_m1108_254 : decode prog_14_method_33_code 254 = .ok (.aload_n 0, 1) := by decide +kernel
theorem d_m1108_255 : decode prog_14_method_33_code 255 = .ok (.getfield 194, 3) := by decide +kernel
theorem d_m1108_258 : decode prog_14_method_33_code 258 = .ok (.if_icmp .ge 35, 3) := by decide +kernel
theorem d_m1108_261 : decode prog_14_method_33_code 261 = .ok (.aload_n 0, 1) := by decide +kernel
theorem d_m1108_262 : decode prog_14_method_33_code 262 = .ok (.getfield 72, 3) := by decide +kernel
theorem d_m1108_265 : decode prog_14_method_33_code 265 = .ok (.aload_n 0, 1) := by decide +kernel
theorem d_m1108_266 : decode prog_14_method_33_code 266 = .ok (.getfield 191, 3) := by decide +kernel
theorem d_m1108_269 : decode prog_14_method_33_code 269 = .ok (.aload_n 0, 1) := by decide +kernel
theorem d_m1108_270 : decode prog_14_method_33_code 270 = .ok (.getfield 75, 3) := by decide +kernel
theorem d_m1108_273 : decode prog_14_method_33_code 273 = .ok (.iload 6, 2) := by decide +kernel
theorem d_m1108_275 : decode prog_14_method_33_code 275 = .ok (.baload, 1) := by decide +kernel
theorem d_m1108_276 : decode prog_14_method_33_code 276 = .ok (.bastore, 1) := by decide +kernel
theorem d_m1108_277 : decode prog_14_method_33_code 277 = .ok (.aload_n 0, 1) := by decide +kernel
theorem d_m1108_278 : decode prog_14_method_33_code 278 = .ok (.dup, 1) := by decide +kernel
theorem d_m1108_279 : decode prog_14_method_33_code 279 = .ok (.getfield 191, 3) := by decide +kernel
theorem d_m1108_282 : decode prog_14_method_33_code 282 = .ok (.iconst 1, 1) := by decide +kernel
theorem d_m1108_283 : decode prog_14_method_33_code 283 = .ok (.iadd, 1) := by decide +kernel
theorem d_m1108_284 : decode prog_14_method_33_code 284 = .ok (.putfield 191, 3) := by decide +kernel
theorem d_m1108_287 : decode prog_14_method_33_code 287 = .ok (.iinc 6 1, 3) := by decide +kernel
theorem d_m1108_290 : decode prog_14_method_33_code 290 = .ok (.goto (-38), 3) := by decide +kernel
theorem d_m1108_293 : decode prog_14_method_33_code 293 = .ok (.aload_n 0, 1) := by decide +kernel
theorem d_m1108_294 : decode prog_14_method_33_code 294 = .ok (.iconst 0, 1) := by decide +kernel
theorem d_m1108_295 : decode prog_14_method_33_code 295 = .ok (.putfield 194, 3) := by decide +kernel
theorem d_m1108_298 : decode prog_14_method_33_code 298 = .ok (.aload_n 0, 1) := by decide +kernel
theorem d_m1108_299 : decode prog_14_method_33_code 299 = .ok (.getfield 185, 3) := by decide +kernel
theorem d_m1108_302 : decode prog_14_method_33_code 302 = .ok (.sipush 32767, 3) := by decide +kernel
theorem d_m1108_305 : decode prog_14_method_33_code 305 = .ok (.if_icmp .eq 13, 3) := by decide +kernel
theorem d_m1108_308 : decode prog_14_method_33_code 308 = .ok (.aload_n 0, 1) := by decide +kernel
theorem d_m1108_309 : decode prog_14_method_33_code 309 = .ok (.getfield 191, 3) := by decide +kernel
theorem d_m1108_312 : decode prog_14_method_33_code 312 = .ok (.sipush 900, 3) := by decide +kernel
theorem d_m1108_315 : decode prog_14_method_33_code 315 = .ok (.if_icmp .le 8, 3) := by decide +kernel
theorem d_m1108_318 : decode prog_14_method_33_code 318 = .ok (.aload_n 0, 1) := by decide +kernel
theorem d_m1108_319 : decode prog_14_method_33_code 319 = .ok (.iload_n 3, 1) := by decide +kernel
theorem d_m1108_320 : decode prog_14_method_33_code 320 = .ok (.invokevirtual 203, 3) := by decide +kernel
theorem d_m1108_323 : decode prog_14_method_33_code 323 = .ok (.return_, 1) := by decide +kernel
theorem d_m1112_0 : decode prog_14_method_32_code 0 = .ok (.aload_n 0, 1) := by decide +kernel
theorem d_m1112_1 : decode prog_14_method_32_code 1 = .ok (.getfield 31, 3) := by decide +kernel
theorem d_m1112_4 : decode prog_14_method_32_code 4 = .ok (.bipush 64, 2) := by decide +kernel
theorem d_m1112_6 : decode prog_14_method_32_code 6 = .ok (.aload_n 0, 1) := by decide +kernel
theorem d_m1112_7 : decode prog_14_method_32_code 7 = .ok (.getfield 28, 3) := by decide +kernel
theorem d_m1112_10 : decode prog_14_method_32_code 10 = .ok (.iload_n 1, 1) := by decide +kernel
theorem d_m1112_11 : decode prog_14_method_32_code 11 = .ok (.iaload, 1) := by decide +kernel
theorem d_m1112_12 : decode prog_14_method_32_code 12 = .ok (.iload_n 2, 1) := by decide +kernel
theorem d_m1112_13 : decode prog_14_method_32_code 13 = .ok (.iadd, 1) := by decide +kernel
theorem d_m1112_14 : decode prog_14_method_32_code 14 = .ok (.imul, 1) := by decide +kernel
theorem d_m1112_15 : decode prog_14_method_32_code 15 = .ok (.iload_n 3, 1) := by decide +kernel
theorem d_m1112_16 : decode prog_14_method_32_code 16 = .ok (.iadd, 1) := by decide +kernel
theorem d_m1112_17 : decode prog_14_method_32_code 17 = .ok (.saload, 1) := by decide +kernel
theorem d_m1112_18 : decode prog_14_method_32_code 18 = .ok (.istore 4, 2) := by decide +kernel
theorem d_m1112_20 : decode prog_14_method_32_code 20 = .ok (.iload 4, 2) := by decide +kernel
theorem d_m1112_22 : decode prog_14_method_32_code 22 = .ok (.ifCond .ge 9, 3) := by decide +kernel
theorem d_m1112_25 : decode prog_14_method_32_code 25 = .ok (.iload 4, 2) := by decide +kernel
theorem d_m1112_27 : decode prog_14_method_32_code 27 = .ok (.ineg, 1) := by decide +kernel
theorem d_m1112_28 : decode prog_14_method_32_code 28 = .ok (.goto 5, 3) := by decide +kernel
theorem d_m1112_31 : decode prog_14_method_32_code 31 = .ok (.iload 4, 2) := by decide +kernel
theorem d_m1112_33 : decode prog_14_method_32_code 33 = .ok (.aload_n 0, 1) := by decide +kernel
theorem d_m1112_34 : decode prog_14_method_32_code 34 = .ok (.getfield 122, 3) := by decide +kernel
theorem d_m1112_37 : decode prog_14_method_32_code 37 = .ok (.ishr, 1) := by decide +kernel
theorem d_m1112_38 : decode prog_14_method_32_code 38 = .ok (.ireturn, 1) := by decide +kernel
theorem d_m1116_0 : decode prog_14_method_28_code 0 = .ok (.iconst 0, 1) := by decide +kernel
theorem d_m1116_1 : decode prog_14_method_28_code 1 = .ok (.istore_n 1, 1) := by decide +kernel
theorem d_m1116_2 : decode prog_14_method_28_code 2 = .ok (.iload_n 1, 1) := by decide +kernel
theorem d_m1116_3 : decode prog_14_method_28_code 3 = .ok (.aload_n 0, 1) := by decide +kernel
theorem d_m1116_4 : decode prog_14_method_28_code 4 = .ok (.getfield 194, 3) := by decide +kernel
theorem d_m1116_7 : decode prog_14_method_28_code 7 = .ok (.if_icmp .ge 19, 3) := by decide +kernel
theorem d_m1116_10 : decode prog_14_method_28_code 10 = .ok (.aload_n 0, 1) := by decide +kernel
theorem d_m1116_11 : decode prog_14_method_28_code 11 = .ok (.aload_n 0, 1) := by decide +kernel
theorem d_m1116_12 : decode prog_14_method_28_code 12 = .ok (.getfield 75, 3) := by decide +kernel
theorem d_m1116_15 : decode prog_14_method_28_code 15 = .ok (.iload_n 1, 1) := by decide +kernel
theorem d_m1116_16 : decode prog_14_method_28_code 16 = .ok (.baload, 1) := by decide +kernel
theorem d_m1116_17 : decode prog_14_method_28_code 17 = .ok (.invokevirtual 175, 3) := by decide +kernel
theorem d_m1116_20 : decode prog_14_method_28_code 20 = .ok (.iinc 1 1, 3) := by decide +kernel
theorem d_m1116_23 : decode prog_14_method_28_code 23 = .ok (.goto (-21), 3) := by decide +kernel
theorem d_m1116_26 : decode prog_14_method_28_code 26 = .ok (.aload_n 0, 1) := by decide +kernel
theorem d_m1116_27 : decode prog_14_method_28_code 27 = .ok (.iconst 0, 1) := by decide +kernel
theorem d_m1116_28 : decode prog_14_method_28_code 28 = .ok (.putfield 194, 3) := by decide +kernel
theorem d_m1116_31 : decode prog_14_method_28_code 31 = .ok (.return_, 1) := by decide +kernel
theorem d_m1120_0 : decode prog_14_method_40_code 0 = .ok (.aload_n 0, 1) := by decide +kernel
theorem d_m1120_1 : decode prog_14_method_40_code 1 = .ok (.iconst 0, 1) := by decide +kernel
theorem d_m1120_2 : decode prog_14_method_40_code 2 = .ok (.putfield 87, 3) := by decide +kernel
theorem d_m1120_5 : decode prog_14_method_40_code 5 = .ok (.aload_n 0, 1) := by decide +kernel
theorem d_m1120_6 : decode prog_14_method_40_code 6 = .ok (.iconst 1, 1) := by decide +kernel
theorem d_m1120_7 : decode prog_14_method_40_code 7 = .ok (.putfield 155, 3) := by decide +kernel
theorem d_m1120_10 : decode prog_14_method_40_code 10 = .ok (.aload_n 0, 1) := by decide +kernel
theorem d_m1120_11 : decode prog_14_method_40_code 11 = .ok (.invokevirtual 238, 3) := by decide +kernel
theorem d_m1120_14 : decode prog_14_method_40_code 14 = .ok (.iconst 0, 1) := by decide +kernel
theorem d_m1120_15 : decode prog_14_method_40_code 15 = .ok (.istore_n 1, 1) := by decide +kernel
theorem d_m1120_16 : decode prog_14_method_40_code 16 = .ok (.iconst 0, 1) := by decide +kernel
theorem d_m1120_17 : decode prog_14_method_40_code 17 = .ok (.istore_n 2, 1) := by decide +kernel
theorem d_m1120_18 : decode prog_14_method_40_code 18 = .ok (.iload_n 2, 1) := by decide +kernel
theorem d_m1120_19 : decode prog_14_method_40_code 19 = .ok (.sipush 2048, 3) := by decide +kernel
theorem d_m1120_22 : decode prog_14_method_40_code 22 = .ok (.if_icmp .ge 18, 3) := by decide +kernel
theorem d_m1120_25 : decode prog_14_method_40_code 25 = .ok (.iload_n 1, 1) := by decide +kernel
theorem d_m1120_26 : decode prog_14_method_40_code 26 = .ok (.aload_n 0, 1) := by decide +kernel
theorem d_m1120_27 : decode prog_14_method_40_code 27 = .ok (.getfield 66, 3) := by decide +kernel
theorem d_m1120_30 : decode prog_14_method_40_code 30 = .ok (.iload_n 2, 1) := by decide +kernel
theorem d_m1120_31 : decode prog_14_method_40_code 31 = .ok (.iaload, 1) := by decide +kernel
theorem d_m1120_32 : decode prog_14_method_40_code 32 = .ok (.iadd, 1) := by decide +kernel
theorem d_m1120_33 : decode prog_14_method_40_code 33 = .ok (.istore_n 1, 1) := by decide +kernel
theorem d_m1120_34 : decode prog_14_method_40_code 34 = .ok (.iinc 2 1, 3) := by decide +kernel
theorem d_m1120_37 : decode prog_14_method_40_code 37 = .ok (.goto (-19), 3) := by decide +kernel
theorem d_m1120_40 : decode prog_14_method_40_code 40 = .ok (.iload_n 1, 1) := by decide +kernel
theorem d_m1120_41 : decode prog_14_method_40_code 41 = .ok (.ireturn, 1) := by decide +kernel
theorem d_m1124_0 : decode prog_14_method_41_code 0 = .ok (.aload_n 0, 1) := by decide +kernel
theorem d_m1124_1 : decode prog_14_method_41_code 1 = .ok (.iconst 0, 1) := by decide +kernel
theorem d_m1124_2 : decode prog_14_method_41_code 2 = .ok (.putfield 87, 3) := by decide +kernel
theorem d_m1124_5 : decode prog_14_method_41_code 5 = .ok (.iload_n 1, 1) := by decide +kernel
theorem d_m1124_6 : decode prog_14_method_41_code 6 = .ok (.ifCond .lt 20, 3) := by decide +kernel
theorem d_m1124_9 : decode prog_14_method_41_code 9 = .ok (.iload_n 1, 1) := by decide +kernel
theorem d_m1124_10 : decode prog_14_method_41_code 10 = .ok (.bipush 7, 2) := by decide +kernel
theorem d_m1124_12 : decode prog_14_method_41_code 12 = .ok (.if_icmp .gt 14, 3) := by decide +kernel
theorem d_m1124_15 : decode prog_14_method_41_code 15 = .ok (.iload_n 2, 1) := by decide +kernel
theorem d_m1124_16 : decode prog_14_method_41_code 16 = .ok (.ifCond .lt 10, 3) := by decide +kernel
theorem d_m1124_19 : decode prog_14_method_41_code 19 = .ok (.iload_n 2, 1) := by decide +kernel
theorem d_m1124_20 : decode prog_14_method_41_code 20 = .ok (.sipush 255, 3) := by decide +kernel
theorem d_m1124_23 : decode prog_14_method_41_code 23 = .ok (.if_icmp .le 7, 3) := by decide +kernel
theorem d_m1124_26 : decode prog_14_method_41_code 26 = .ok (.iconst 0, 1) := by decide +kernel
theorem d_m1124_27 : decode prog_14_method_41_code 27 = .ok (.goto 15, 3) := by decide +kernel
theorem d_m1124_30 : decode prog_14_method_41_code 30 = .ok (.aload_n 0, 1) := by decide +kernel
theorem d_m1124_31 : decode prog_14_method_41_code 31 = .ok (.getfield 66, 3) := by decide +kernel
theorem d_m1124_34 : decode prog_14_method_41_code 34 = .ok (.sipush 256, 3) := by decide +kernel
theorem d_m1124_37 : decode prog_14_method_41_code 37 = .ok (.iload_n 1, 1) := by decide +kernel
theorem d_m1124_38 : decode prog_14_method_41_code 38 = .ok (.imul, 1) := by decide +kernel
theorem d_m1124_39 : decode prog_14_method_41_code 39 = .ok (.iload_n 2, 1) := by decide +kernel
theorem d_m1124_40 : decode prog_14_method_41_code 40 = .ok (.iadd, 1) := by decide +kernel
theorem d_m1124_41 : decode prog_14_method_41_code 41 = .ok (.iaload, 1) := by decide +kernel
theorem d_m1124_42 : decode prog_14_method_41_code 42 = .ok (.ireturn, 1) := by decide +kernel
theorem d_m1128_0 : decode prog_14_method_42_code 0 = .ok (.aload_n 0, 1) := by decide +kernel
theorem d_m1128_1 : decode prog_14_method_42_code 1 = .ok (.iconst 0, 1) := by decide +kernel
theorem d_m1128_2 : decode prog_14_method_42_code 2 = .ok (.putfield 87, 3) := by decide +kernel
theorem d_m1128_5 : decode prog_14_method_42_code 5 = .ok (.iload_n 3, 1) := by decide +kernel
theorem d_m1128_6 : decode prog_14_method_42_code 6 = .ok (.iconst 1, 1) := by decide +kernel
theorem d_m1128_7 : decode prog_14_method_42_code 7 = .ok (.if_icmp .lt 21, 3) := by decide +kernel
theorem d_m1128_10 : decode prog_14_method_42_code 10 = .ok (.iload_n 3, 1) := by decide +kernel
theorem d_m1128_11 : decode prog_14_method_42_code 11 = .ok (.bipush 8, 2) := by decide +kernel
theorem d_m1128_13 : decode prog_14_method_42_code 13 = .ok (.if_icmp .gt 15, 3) := by decide +kernel
theorem d_m1128_16 : decode prog_14_method_42_code 16 = .ok (.aload_n 0, 1) := by decide +kernel
theorem d_m1128_17 : decode prog_14_method_42_code 17 = .ok (.getfield 241, 3) := by decide +kernel
theorem d_m1128_20 : decode prog_14_method_42_code 20 = .ok (.iload_n 3, 1) := by decide +kernel
theorem d_m1128_21 : decode prog_14_method_42_code 21 = .ok (.iadd, 1) := by decide +kernel
theorem d_m1128_22 : decode prog_14_method_42_code 22 = .ok (.sipush 16384, 3) := by decide +kernel
theorem d_m1128_25 : decode prog_14_method_42_code 25 = .ok (.if_icmp .le 5, 3) := by decide +kernel
theorem d_m1128_28 : decode prog_14_method_42_code 28 = .ok (.iconst 0, 1) := by decide +kernel
theorem d_m1128_29 : decode prog_14_method_42_code 29 = .ok (.ireturn, 1) := by decide +kernel
theorem d_m1128_30 : decode prog_14_method_42_code 30 = .ok (.iload_n 3, 1) := by decide +kernel
theorem d_m1128_31 : decode prog_14_method_42_code 31 = .ok (.iconst 1, 1) := by decide +kernel
theorem d_m1128_32 : decode prog_14_method_42_code 32 = .ok (.isub, 1) := by decide +kernel
theorem d_m1128_33 : decode prog_14_method_42_code 33 = .ok (.istore 4, 2) := by decide +kernel
theorem d_m1128_35 : decode prog_14_method_42_code 35 = .ok (.iload 4, 2) := by decide +kernel
theorem d_m1128_37 : decode prog_14_method_42_code 37 = .ok (.ifCond .lt 37, 3) := by decide +kernel
theorem d_m1128_40 : decode prog_14_method_42_code 40 = .ok (.aload_n 0, 1) := by decide +kernel
theorem d_m1128_41 : decode prog_14_method_42_code 41 = .ok (.getfield 59, 3) := by decide +kernel
theorem d_m1128_44 : decode prog_14_method_42_code 44 = .ok (.aload_n 0, 1) := by decide +kernel
theorem d_m1128_45 : decode prog_14_method_42_code 45 = .ok (.getfield 241, 3) := by decide +kernel
theorem d_m1128_48 : decode prog_14_method_42_code 48 = .ok (.lload_n 1, 1) := by decide +kernel
theorem d_m1128_49 : decode prog_14_method_42_code 49 = .ok (.bipush 8, 2) := by decide +kernel
theorem d_m1128_51 : decode prog_14_method_42_code 51 = .ok (.iload 4, 2) := by decide +kernel
theorem d_m1128_53 : decode prog_14_method_42_code 53 = .ok (.imul, 1) := by decide +kernel
theorem d_m1128_54 : decode prog_14_method_42_code 54 = .ok (.lshr, 1) := by decide +kernel
theorem d_m1128_55 : decode prog_14_method_42_code 55 = .ok (.l2i, 1) := by decide +kernel
theorem d_m1128_56 : decode prog_14_method_42_code 56 = .ok (.i2b, 1) := by decide +kernel
theorem d_m1128_57 : decode prog_14_method_42_code 57 = .ok (.bastore, 1) := by decide +kernel
theorem d_m1128_58 : decode prog_14_method_42_code 58 = .ok (.aload_n 0, 1) := by decide +kernel
theorem d_m1128_59 : decode prog_14_method_42_code 59 = .ok (.dup, 1) := by decide +kernel
theorem d_m1128_60 : decode prog_14_method_42_code 60 = .ok (.getfield 241, 3) := by decide +kernel
theorem d_m1128_63 : decode prog_14_method_42_code 63 = .ok (.iconst 1, 1) := by decide +kernel
theorem d_m1128_64 : decode prog_14_method_42_code 64 = .ok (.iadd, 1) := by decide +kernel
theorem d_m1128_65 : decode prog_14_method_42_code 65 = .ok (.putfield 241, 3) := by decide +kernel
theorem d_m1128_68 : decode prog_14_method_42_code 68 = .ok (.iinc 4 (-1), 3) := by decide +kernel
theorem d_m1128_71 : decode prog_14_method_42_code 71 = .ok (.goto (-36), 3) := by decide +kernel
theorem d_m1128_74 : decode prog_14_method_42_code 74 = .ok (.iconst 1, 1) := by decide +kernel
theorem d_m1128_75 : decode prog_14_method_42_code 75 = .ok (.ireturn, 1) := by decide +kernel
theorem d_m1132_0 : decode prog_14_method_43_code 0 = .ok (.aload_n 0, 1) := by decide +kernel
theorem d_m1132_1 : decode prog_14_method_43_code 1 = .ok (.iconst 0, 1) := by decide +kernel
theorem d_m1132_2 : decode prog_14_method_43_code 2 = .ok (.putfield 87, 3) := by decide +kernel
theorem d_m1132_5 : decode prog_14_method_43_code 5 = .ok (.iload_n 1, 1) := by decide +kernel
theorem d_m1132_6 : decode prog_14_method_43_code 6 = .ok (.ifCond .lt 11, 3) := by decide +kernel
theorem d_m1132_9 : decode prog_14_method_43_code 9 = .ok (.iload_n 1, 1) := by decide +kernel
theorem d_m1132_10 : decode prog_14_method_43_code 10 = .ok (.aload_n 0, 1) := by decide +kernel
theorem d_m1132_11 : decode prog_14_method_43_code 11 = .ok (.getfield 241, 3) := by decide +kernel
theorem d_m1132_14 : decode prog_14_method_43_code 14 = .ok (.if_icmp .le 5, 3) := by decide +kernel
theorem d_m1132_17 : decode prog_14_method_43_code 17 = .ok (.iconst 0, 1) := by decide +kernel
theorem d_m1132_18 : decode prog_14_method_43_code 18 = .ok (.ireturn, 1) := by decide +kernel
theorem d_m1132_19 : decode prog_14_method_43_code 19 = .ok (.aload_n 0, 1) := by decide +kernel
theorem d_m1132_20 : decode prog_14_method_43_code 20 = .ok (.iload_n 1, 1) := by decide +kernel
theorem d_m1132_21 : decode prog_14_method_43_code 21 = .ok (.putfield 241, 3) := by decide +kernel
theorem d_m1132_24 : decode prog_14_method_43_code 24 = .ok (.iconst 1, 1) := by decide +kernel
theorem d_m1132_25 : decode prog_14_method_43_code 25 = .ok (.ireturn, 1) := by decide +kernel
theorem d_m1136_0 : decode prog_14_method_44_code 0 = .ok (.aload_n 0, 1) := by decide +kernel
theorem d_m1136_1 : decode prog_14_method_44_code 1 = .ok (.iconst 0, 1) := by decide +kernel
theorem d_m1136_2 : decode prog_14_method_44_code 2 = .ok (.putfield 87, 3) := by decide +kernel
theorem d_m1136_5 : decode prog_14_method_44_code 5 = .ok (.iload_n 1, 1) := by decide +kernel
theorem d_m1136_6 : decode prog_14_method_44_code 6 = .ok (.ifCond .lt 11, 3) := by decide +kernel
theorem d_m1136_9 : decode prog_14_method_44_code 9 = .ok (.iload_n 1, 1) := by decide +kernel
theorem d_m1136_10 : decode prog_14_method_44_code 10 = .ok (.aload_n 0, 1) := by decide +kernel
theorem d_m1136_11 : decode prog_14_method_44_code 11 = .ok (.getfield 241, 3) := by decide +kernel
theorem d_m1136_14 : decode prog_14_method_44_code 14 = .ok (.if_icmp .lt 7, 3) := by decide +kernel
theorem d_m1136_17 : decode prog_14_method_44_code 17 = .ok (.iconst (-1), 1) := by decide +kernel
theorem d_m1136_18 : decode prog_14_method_44_code 18 = .ok (.goto 13, 3) := by decide +kernel
theorem d_m1136_21 : decode prog_14_method_44_code 21 = .ok (.aload_n 0, 1) := by decide +kernel
theorem d_m1136_22 : decode prog_14_method_44_code 22 = .ok (.getfield 59, 3) := by decide +kernel
theorem d_m1136_25 : decode prog_14_method_44_code 25 = .ok (.iload_n 1, 1) := by decide +kernel
theorem d_m1136_26 : decode prog_14_method_44_code 26 = .ok (.baload, 1) := by decide +kernel
theorem d_m1136_27 : decode prog_14_method_44_code 27 = .ok (.sipush 255, 3) := by decide +kernel
theorem d_m1136_30 : decode prog_14_method_44_code 30 = .ok (.iand, 1) := by decide +kernel
theorem d_m1136_31 : decode prog_14_method_44_code 31 = .ok (.ireturn, 1) := by decide +kernel
theorem d_m1140_0 : decode prog_14_method_60_code 0 = .ok (.aload_n 0, 1) := by decide +kernel
theorem d_m1140_1 : decode prog_14_method_60_code 1 = .ok (.iconst 0, 1) := by decide +kernel
theorem d_m1140_2 : decode prog_14_method_60_code 2 = .ok (.putfield 87, 3) := by decide +kernel
theorem d_m1140_5 : decode prog_14_method_60_code 5 = .ok (.iconst 0, 1) := by decide +kernel
theorem d_m1140_6 : decode prog_14_method_60_code 6 = .ok (.istore_n 1, 1) := by decide +kernel
theorem d_m1140_7 : decode prog_14_method_60_code 7 = .ok (.iload_n 1, 1) := by decide +kernel
theorem d_m1140_8 : decode prog_14_method_60_code 8 = .ok (.sipush 12288, 3) := by decide +kernel
theorem d_m1140_11 : decode prog_14_method_60_code 11 = .ok (.if_icmp .ge 21, 3) := by decide +kernel
theorem d_m1140_14 : decode prog_14_method_60_code 14 = .ok (.aload_n 0, 1) := by decide +kernel
theorem d_m1140_15 : decode prog_14_method_60_code 15 = .ok (.getfield 35, 3) := by decide +kernel
theorem d_m1140_18 : decode prog_14_method_60_code 18 = .ok (.iload_n 1, 1) := by decide +kernel
theorem d_m1140_19 : decode prog_14_method_60_code 19 = .ok (.aload_n 0, 1) := by decide +kernel
theorem d_m1140_20 : decode prog_14_method_60_code 20 = .ok (.getfield 31, 3) := by decide +kernel
theorem d_m1140_23 : decode prog_14_method_60_code 23 = .ok (.iload_n 1, 1) := by decide +kernel
theorem d_m1140_24 : decode prog_14_method_60_code 24 = .ok (.saload, 1) := by decide +kernel
theorem d_m1140_25 : decode prog_14_method_60_code 25 = .ok (.sastore, 1) := by decide +kernel
theorem d_m1140_26 : decode prog_14_method_60_code 26 = .ok (.iinc 1 1, 3) := by decide +kernel
theorem d_m1140_29 : decode prog_14_method_60_code 29 = .ok (.goto (-22), 3) := by decide +kernel
theorem d_m1140_32 : decode prog_14_method_60_code 32 = .ok (.aload_n 0, 1) := by decide +kernel
theorem d_m1140_33 : decode prog_14_method_60_code 33 = .ok (.iconst 0, 1) := by decide +kernel
theorem d_m1140_34 : decode prog_14_method_60_code 34 = .ok (.putfield 244, 3) := by decide +kernel
theorem d_m1140_37 : decode prog_14_method_60_code 37 = .ok (.aload_n 0, 1) := by decide +kernel
theorem d_m1140_38 : decode prog_14_method_60_code 38 = .ok (.iconst 0, 1) := by decide +kernel
theorem d_m1140_39 : decode prog_14_method_60_code 39 = .ok (.putfield 247, 3) := by decide +kernel
theorem d_m1140_42 : decode prog_14_method_60_code 42 = .ok (.aload_n 0, 1) := by decide +kernel
theorem d_m1140_43 : decode prog_14_method_60_code 43 = .ok (.iconst 0, 1) := by decide +kernel
theorem d_m1140_44 : decode prog_14_method_60_code 44 = .ok (.putfield 250, 3) := by decide +kernel
theorem d_m1140_47 : decode prog_14_method_60_code 47 = .ok (.aload_n 0, 1) := by decide +kernel
theorem d_m1140_48 : decode prog_14_method_60_code 48 = .ok (.iconst 0, 1) := by decide +kernel
theorem d_m1140_49 : decode prog_14_method_60_code 49 = .ok (.putfield 185, 3) := by decide +kernel
theorem d_m1140_52 : decode prog_14_method_60_code 52 = .ok (.aload_n 0, 1) := by decide +kernel
theorem d_m1140_53 : decode prog_14_method_60_code 53 = .ok (.invokevirtual 299, 3) := by decide +kernel
theorem d_m1140_56 : decode prog_14_method_60_code 56 = .ok (.iconst 0, 1) := by decide +kernel
theorem d_m1140_57 : decode prog_14_method_60_code 57 = .ok (.istore_n 1, 1) := by decide +kernel
theorem d_m1140_58 : decode prog_14_method_60_code 58 = .ok (.iload_n 1, 1) := by decide +kernel
theorem d_m1140_59 : decode prog_14_method_60_code 59 = .ok (.sipush 12288, 3) := by decide +kernel
theorem d_m1140_62 : decode prog_14_method_60_code 62 = .ok (.if_icmp .ge 28, 3) := by decide +kernel
theorem d_m1140_65 : decode prog_14_method_60_code 65 = .ok (.aload_n 0, 1) := by decide +kernel
theorem d_m1140_66 : decode prog_14_method_60_code 66 = .ok (.getfield 244, 3) := by decide +kernel
theorem d_m1140_69 : decode prog_14_method_60_code 69 = .ok (.ifCond .le 21, 3) := by decide +kernel
theorem d_m1140_72 : decode prog_14_method_60_code 72 = .ok (.aload_n 0, 1) := by decide +kernel
theorem d_m1140_73 : decode prog_14_method_60_code 73 = .ok (.getfield 31, 3) := by decide +kernel
theorem d_m1140_76 : decode prog_14_method_60_code 76 = .ok (.iload_n 1, 1) := by decide +kernel
theorem d_m1140_77 : decode prog_14_method_60_code 77 = .ok (.aload_n 0, 1) := by decide +kernel
theorem d_m1140_78 : decode prog_14_method_60_code 78 = .ok (.getfield 35, 3) := by decide +kernel
theorem d_m1140_81 : decode prog_14_method_60_code 81 = .ok (.iload_n 1, 1) := by decide +kernel
theorem d_m1140_82 : decode prog_14_method_60_code 82 = .ok (.saload, 1) := by decide +kernel
theorem d_m1140_83 : decode prog_14_method_60_code 83 = .ok (.sastore, 1) := by decide +kernel
theorem d_m1140_84 : decode prog_14_method_60_code 84 = .ok (.iinc 1 1, 3) := by decide +kernel
theorem d_m1140_87 : decode prog_14_method_60_code 87 = .ok (.goto (-29), 3) := by decide +kernel
theorem d_m1140_90 : decode prog_14_method_60_code 90 = .ok (.aload_n 0, 1) := by decide +kernel
theorem d_m1140_91 : decode prog_14_method_60_code 91 = .ok (.getfield 244, 3) := by decide +kernel
theorem d_m1140_94 : decode prog_14_method_60_code 94 = .ok (.ireturn, 1) := by decide +kernel
theorem d_m1144_0 : decode prog_14_method_59_code 0 = .ok (.iconst 0, 1) := by decide +kernel
theorem d_m1144_1 : decode prog_14_method_59_code 1 = .ok (.istore_n 1, 1) := by decide +kernel
theorem d_m1144_2 : decode prog_14_method_59_code 2 = .ok (.iconst 0, 1) := by decide +kernel
theorem d_m1144_3 : decode prog_14_method_59_code 3 = .ok (.istore_n 2, 1) := by decide +kernel
theorem d_m1144_4 : decode prog_14_method_59_code 4 = .ok (.iload_n 2, 1) := by decide +kernel
theorem d_m1144_5 : decode prog_14_method_59_code 5 = .ok (.aload_n 0, 1) := by decide +kernel
theorem d_m1144_6 : decode prog_14_method_59_code 6 = .ok (.invokevirtual 223, 3) := by decide +kernel
theorem d_m1144_9 : decode prog_14_method_59_code 9 = .ok (.if_icmp .ge 162, 3) := by decide +kernel
theorem d_m1144_12 : decode prog_14_method_59_code 12 = .ok (.aload_n 0, 1) := by decide +kernel
theorem d_m1144_13 : decode prog_14_method_59_code 13 = .ok (.getfield 244, 3) := by decide +kernel
theorem d_m1144_16 : decode prog_14_method_59_code 16 = .ok (.ifCond .ne 155, 3) := by decide +kernel
theorem d_m1144_19 : decode prog_14_method_59_code 19 = .ok (.aload_n 0, 1) := by decide +kernel
theorem d_m1144_20 : decode prog_14_method_59_code 20 = .ok (.getfield 125, 3) := by decide +kernel
theorem d_m1144_23 : decode prog_14_method_59_code 23 = .ok (.ifCond .le 20, 3) := by decide +kernel
theorem d_m1144_26 : decode prog_14_method_59_code 26 = .ok (.iload_n 2, 1) := by decide +kernel
theorem d_m1144_27 : decode prog_14_method_59_code 27 = .ok (.ifCond .le 16, 3) := by decide +kernel
theorem d_m1144_30 : decode prog_14_method_59_code 30 = .ok (.iload_n 2, 1) := by decide +kernel
theorem d_m1144_31 : decode prog_14_method_59_code 31 = .ok (.aload_n 0, 1) := by decide +kernel
theorem d_m1144_32 : decode prog_14_method_59_code 32 = .ok (.getfield 125, 3) := by decide +kernel
theorem d_m1144_35 : decode prog_14_method_59_code 35 = .ok (.irem, 1) := by decide +kernel
theorem d_m1144_36 : decode prog_14_method_59_code 36 = .ok (.ifCond .ne 7, 3) := by decide +kernel
theorem d_m1144_39 : decode prog_14_method_59_code 39 = .ok (.iconst 1, 1) := by decide +kernel
theorem d_m1144_40 : decode prog_14_method_59_code 40 = .ok (.goto 4, 3) := by decide +kernel
theorem d_m1144_43 : decode prog_14_method_59_code 43 = .ok (.iconst 0, 1) := by decide +kernel
theorem d_m1144_44 : decode prog_14_method_59_code 44 = .ok (.istore_n 3, 1) := by decide +kernel
theorem d_m1144_45 : decode prog_14_method_59_code 45 = .ok (.iload_n 3, 1) := by decide +kernel
theorem d_m1144_46 : decode prog_14_method_59_code 46 = .ok (.ifCond .eq 18, 3) := by decide +kernel
theorem d_m1144_49 : decode prog_14_method_59_code 49 = .ok (.aload_n 0, 1) := by decide +kernel
theorem d_m1144_50 : decode prog_14_method_59_code 50 = .ok (.sipush 208, 3) := by decide +kernel
theorem d_m1144_53 : decode prog_14_method_59_code 53 = .ok (.iload_n 1, 1) := by decide +kernel
theorem d_m1144_54 : decode prog_14_method_59_code 54 = .ok (.bipush 8, 2) := by decide +kernel
theorem d_m1144_56 : decode prog_14_method_59_code 56 = .ok (.irem, 1) := by decide +kernel
theorem d_m1144_57 : decode prog_14_method_59_code 57 = .ok (.iadd, 1) := by decide +kernel
theorem d_m1144_58 : decode prog_14_method_59_code 58 = .ok (.invokevirtual 293, 3) := by decide +kernel
theorem d_m1144_61 : decode prog_14_method_59_code 61 = .ok (.iinc 1 1, 3) := by decide +kernel
theorem d_m1144_64 : decode prog_14_method_59_code 64 = .ok (.iconst 0, 1) := by decide +kernel
theorem d_m1144_65 : decode prog_14_method_59_code 65 = .ok (.istore 4, 2) := by decide +kernel
theorem d_m1144_67 : decode prog_14_method_59_code 67 = .ok (.iload 4, 2) := by decide +kernel
theorem d_m1144_69 : decode prog_14_method_59_code 69 = .ok (.iconst 4, 1) := by decide +kernel
theorem d_m1144_70 : decode prog_14_method_59_code 70 = .ok (.if_icmp .ge 35, 3) := by decide +kernel
theorem d_m1144_73 : decode prog_14_method_59_code 73 = .ok (.aload_n 0, 1) := by decide +kernel
theorem d_m1144_74 : decode prog_14_method_59_code 74 = .ok (.getfield 69, 3) := by decide +kernel
theorem d_m1144_77 : decode prog_14_method_59_code 77 = .ok (.iload 4, 2) := by decide +kernel
theorem d_m1144_79 : decode prog_14_method_59_code 79 = .ok (.iload_n 2, 1) := by decide +kernel
theorem d_m1144_80 : decode prog_14_method_59_code 80 = .ok (.ifCond .eq 7, 3) := by decide +kernel
theorem d_m1144_83 : decode prog_14_method_59_code 83 = .ok (.iload_n 3, 1) := by decide +kernel
theorem d_m1144_84 : decode prog_14_method_59_code 84 = .ok (.ifCond .eq 7, 3) := by decide +kernel
theorem d_m1144_87 : decode prog_14_method_59_code 87 = .ok (.iconst 0, 1) := by decide +kernel
theorem d_m1144_88 : decode prog_14_method_59_code 88 = .ok (.goto 10, 3) := by decide +kernel
theorem d_m1144_91 : decode prog_14_method_59_code 91 = .ok (.aload_n 0, 1) := by decide +kernel
theorem d_m1144_92 : decode prog_14_method_59_code 92 = .ok (.getfield 69, 3) := by decide +kernel
theorem d_m1144_95 : decode prog_14_method_59_code 95 = .ok (.iload 4, 2) := by decide +kernel
theorem d_m1144_97 : decode prog_14_method_59_code 97 = .ok (.iaload, 1) := by decide +kernel
theorem d_m1144_98 : decode prog_14_method_59_code 98 = .ok (.iastore, 1) := by decide +kernel
theorem d_m1144_99 : decode prog_14_method_59_code 99 = .ok (.iinc 4 1, 3) := by decide +kernel
theorem d_m1144_102 : decode prog_14_method_59_code 102 = .ok (.goto (-35), 3) := by decide +kernel
theorem d_m1144_105 : decode prog_14_method_59_code 105 = .ok (.iconst 0, 1) := by decide +kernel
theorem d_m1144_106 : decode prog_14_method_59_code 106 = .ok (.istore 4, 2) := by decide +kernel
theorem d_m1144_108 : decode prog_14_method_59_code 108 = .ok (.iload 4, 2) := by decide +kernel
theorem d_m1144_110 : decode prog_14_method_59_code 110 = .ok (.aload_n 0, 1) := by decide +kernel
theorem d_m1144_111 : decode prog_14_method_59_code 111 = .ok (.getfield 101, 3) := by decide +kernel
theorem d_m1144_114 : decode prog_14_method_59_code 114 = .ok (.if_icmp .ge 51, 3) := by decide +kernel
theorem d_m1144_117 : decode prog_14_method_59_code 117 = .ok (.iconst 0, 1) := by decide +kernel
theorem d_m1144_118 : decode prog_14_method_59_code 118 = .ok (.istore 5, 2) := by decide +kernel
theorem d_m1144_120 : decode prog_14_method_59_code 120 = .ok (.iload 5, 2) := by decide +kernel
theorem d_m1144_122 : decode prog_14_method_59_code 122 = .ok (.aload_n 0, 1) := by decide +kernel
theorem d_m1144_123 : decode prog_14_method_59_code 123 = .ok (.iload 4, 2) := by decide +kernel
theorem d_m1144_125 : decode prog_14_method_59_code 125 = .ok (.invokevirtual 229, 3) := by decide +kernel
theorem d_m1144_128 : decode prog_14_method_59_code 128 = .ok (.if_icmp .ge 31, 3) := by decide +kernel
theorem d_m1144_131 : decode prog_14_method_59_code 131 = .ok (.aload_n 0, 1) := by decide +kernel
theorem d_m1144_132 : decode prog_14_method_59_code 132 = .ok (.getfield 244, 3) := by decide +kernel
theorem d_m1144_135 : decode prog_14_method_59_code 135 = .ok (.ifCond .ne 24, 3) := by decide +kernel
theorem d_m1144_138 : decode prog_14_method_59_code 138 = .ok (.aload_n 0, 1) := by decide +kernel
theorem d_m1144_139 : decode prog_14_method_59_code 139 = .ok (.iload 4, 2) := by decide +kernel
theorem d_m1144_141 : decode prog_14_method_59_code 141 = .ok (.aload_n 0, 1) := by decide +kernel
theorem d_m1144_142 : decode prog_14_method_59_code 142 = .ok (.iload 4, 2) := by decide +kernel
theorem d_m1144_144 : decode prog_14_method_59_code 144 = .ok (.iload_n 2, 1) := by decide +kernel
theorem d_m1144_145 : decode prog_14_method_59_code 145 = .ok (.iload 5, 2) := by decide +kernel
theorem d_m1144_147 : decode prog_14_method_59_code 147 = .ok (.invokevirtual 232, 3) := by decide +kernel
theorem d_m1144_150 : decode prog_14_method_59_code 150 = .ok (.invokevirtual 296, 3) := by decide +kernel
theorem d_m1144_153 : decode prog_14_method_59_code 153 = .ok (.iinc 5 1, 3) := by decide +kernel
theorem d_m1144_156 : decode prog_14_method_59_code 156 = .ok (.goto (-36), 3) := by decide +kernel
theorem d_m1144_159 : decode prog_14_method_59_code 159 = .ok (.iinc 4 1, 3) := by decide +kernel
theorem d_m1144_162 : decode prog_14_method_59_code 162 = .ok (.goto (-54), 3) := by decide +kernel
theorem d_m1144_165 : decode prog_14_method_59_code 165 = .ok (.iinc 2 1, 3) := by decide +kernel
theorem d_m1144_168 : decode prog_14_method_59_code 168 = .ok (.goto (-164), 3) := by decide +kernel
theorem d_m1144_171 : decode prog_14_method_59_code 171 = .ok (.aload_n 0, 1) := by decide +kernel
theorem d_m1144_172 : decode prog_14_method_59_code 172 = .ok (.getfield 244, 3) := by decide +kernel
theorem d_m1144_175 : decode prog_14_method_59_code 175 = .ok (.ifCond .ne 8, 3) := by decide +kernel
theorem d_m1144_178 : decode prog_14_method_59_code 178 = .ok (.aload_n 0, 1) := by decide +kernel
theorem d_m1144_179 : decode prog_14_method_59_code 179 = .ok (.iconst 0, 1) := by decide +kernel
theorem d_m1144_180 : decode prog_14_method_59_code 180 = .ok (.invokevirtual 293, 3) := by decide +kernel
theorem d_m1144_183 : decode prog_14_method_59_code 183 = .ok (.return_, 1) := by decide +kernel
theorem d_m1148_0 : decode prog_14_method_58_code 0 = .ok (.aload_n 0, 1) := by decide +kernel
theorem d_m1148_1 : decode prog_14_method_58_code 1 = .ok (.getfield 185, 3) := by decide +kernel
theorem d_m1148_4 : decode prog_14_method_58_code 4 = .ok (.ifCond .ne 7, 3) := by decide +kernel
theorem d_m1148_7 : decode prog_14_method_58_code 7 = .ok (.iconst 1, 1) := by decide +kernel
theorem d_m1148_8 : decode prog_14_method_58_code 8 = .ok (.goto 4, 3) := by decide +kernel
theorem d_m1148_11 : decode prog_14_method_58_code 11 = .ok (.iconst 0, 1) := by decide +kernel
theorem d_m1148_12 : decode prog_14_method_58_code 12 = .ok (.istore_n 2, 1) := by decide +kernel
theorem d_m1148_13 : decode prog_14_method_58_code 13 = .ok (.iconst 0, 1) := by decide +kernel
theorem d_m1148_14 : decode prog_14_method_58_code 14 = .ok (.istore_n 3, 1) := by decide +kernel
theorem d_m1148_15 : decode prog_14_method_58_code 15 = .ok (.iload_n 3, 1) := by decide +kernel
theorem d_m1148_16 : decode prog_14_method_58_code 16 = .ok (.aload_n 0, 1) := by decide +kernel
theorem d_m1148_17 : decode prog_14_method_58_code 17 = .ok (.getfield 250, 3) := by decide +kernel
theorem d_m1148_20 : decode prog_14_method_58_code 20 = .ok (.if_icmp .ge 31, 3) := by decide +kernel
theorem d_m1148_23 : decode prog_14_method_58_code 23 = .ok (.iload_n 2, 1) := by decide +kernel
theorem d_m1148_24 : decode prog_14_method_58_code 24 = .ok (.ifCond .eq 19, 3) := by decide +kernel
theorem d_m1148_27 : decode prog_14_method_58_code 27 = .ok (.aload_n 0, 1) := by decide +kernel
theorem d_m1148_28 : decode prog_14_method_58_code 28 = .ok (.getfield 259, 3) := by decide +kernel
theorem d_m1148_31 : decode prog_14_method_58_code 31 = .ok (.iload_n 3, 1) := by decide +kernel
theorem d_m1148_32 : decode prog_14_method_58_code 32 = .ok (.ishr, 1) := by decide +kernel
theorem d_m1148_33 : decode prog_14_method_58_code 33 = .ok (.iconst 1, 1) := by decide +kernel
theorem d_m1148_34 : decode prog_14_method_58_code 34 = .ok (.iand, 1) := by decide +kernel
theorem d_m1148_35 : decode prog_14_method_58_code 35 = .ok (.iconst 1, 1) := by decide +kernel
theorem d_m1148_36 : decode prog_14_method_58_code 36 = .ok (.if_icmp .ne 7, 3) := by decide +kernel
theorem d_m1148_39 : decode prog_14_method_58_code 39 = .ok (.iconst 1, 1) := by decide +kernel
theorem d_m1148_40 : decode prog_14_method_58_code 40 = .ok (.goto 4, 3) := by decide +kernel
theorem d_m1148_43 : decode prog_14_method_58_code 43 = .ok (.iconst 0, 1) := by decide +kernel
theorem d_m1148_44 : decode prog_14_method_58_code 44 = .ok (.istore_n 2, 1) := by decide +kernel
theorem d_m1148_45 : decode prog_14_method_58_code 45 = .ok (.iinc 3 1, 3) := by decide +kernel
theorem d_m1148_48 : decode prog_14_method_58_code 48 = .ok (.goto (-33), 3) := by decide +kernel
theorem d_m1148_51 : decode prog_14_method_58_code 51 = .ok (.iload_n 2, 1) := by decide +kernel
theorem d_m1148_52 : decode prog_14_method_58_code 52 = .ok (.ifCond .eq 51, 3) := by decide +kernel
theorem d_m1148_55 : decode prog_14_method_58_code 55 = .ok (.iload_n 1, 1) := by decide +kernel
theorem d_m1148_56 : decode prog_14_method_58_code 56 = .ok (.ifCond .ne 17, 3) := by decide +kernel
theorem d_m1148_59 : decode prog_14_method_58_code 59 = .ok (.aload_n 0, 1) := by decide +kernel
theorem d_m1148_60 : decode prog_14_method_58_code 60 = .ok (.getfield 247, 3) := by decide +kernel
theorem d_m1148_63 : decode prog_14_method_58_code 63 = .ok (.aload_n 0, 1) := by decide +kernel
theorem d_m1148_64 : decode prog_14_method_58_code 64 = .ok (.getfield 241, 3) := by decide +kernel
theorem d_m1148_67 : decode prog_14_method_58_code 67 = .ok (.if_icmp .ne 36, 3) := by decide +kernel
theorem d_m1148_70 : decode prog_14_method_58_code 70 = .ok (.goto 29, 3) := by decide +kernel
theorem d_m1148_73 : decode prog_14_method_58_code 73 = .ok (.aload_n 0, 1) := by decide +kernel
theorem d_m1148_74 : decode prog_14_method_58_code 74 = .ok (.invokevirtual 253, 3) := by decide +kernel
theorem d_m1148_77 : decode prog_14_method_58_code 77 = .ok (.ifCond .eq 26, 3) := by decide +kernel
theorem d_m1148_80 : decode prog_14_method_58_code 80 = .ok (.aload_n 0, 1) := by decide +kernel
theorem d_m1148_81 : decode prog_14_method_58_code 81 = .ok (.getfield 59, 3) := by decide +kernel
theorem d_m1148_84 : decode prog_14_method_58_code 84 = .ok (.aload_n 0, 1) := by decide +kernel
theorem d_m1148_85 : decode prog_14_method_58_code 85 = .ok (.getfield 247, 3) := by decide +kernel
theorem d_m1148_88 : decode prog_14_method_58_code 88 = .ok (.iconst 1, 1) := by decide +kernel
theorem d_m1148_89 : decode prog_14_method_58_code 89 = .ok (.iadd, 1) := by decide +kernel
