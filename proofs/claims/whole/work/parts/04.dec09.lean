theorem d_m826_200 : decode prog_14_method_4_code 200 = .ok (.iconst 2, 1) := by decide +kernel
theorem d_m826_201 : decode prog_14_method_4_code 201 = .ok (.iload 11, 2) := by decide +kernel
theorem d_m826_203 : decode prog_14_method_4_code 203 = .ok (.imul, 1) := by decide +kernel
theorem d_m826_204 : decode prog_14_method_4_code 204 = .ok (.ishr, 1) := by decide +kernel
theorem d_m826_205 : decode prog_14_method_4_code 205 = .ok (.iconst 1, 1) := by decide +kernel
theorem d_m826_206 : decode prog_14_method_4_code 206 = .ok (.iand, 1) := by decide +kernel
theorem d_m826_207 : decode prog_14_method_4_code 207 = .ok (.iadd, 1) := by decide +kernel
theorem d_m826_208 : decode prog_14_method_4_code 208 = .ok (.iastore, 1) := by decide +kernel
theorem d_m826_209 : decode prog_14_method_4_code 209 = .ok (.aload_n 0, 1) := by decide +kernel
theorem d_m826_210 : decode prog_14_method_4_code 210 = .ok (.getfield 13, 3) := by decide +kernel
theorem d_m826_213 : decode prog_14_method_4_code 213 = .ok (.iload 11, 2) := by decide +kernel
theorem d_m826_215 : decode prog_14_method_4_code 215 = .ok (.iconst 1, 1) := by decide +kernel
theorem d_m826_216 : decode prog_14_method_4_code 216 = .ok (.iload 4, 2) := by decide +kernel
theorem d_m826_218 : decode prog_14_method_4_code 218 = .ok (.iconst 2, 1) := by decide +kernel
theorem d_m826_219 : decode prog_14_method_4_code 219 = .ok (.iload 11, 2) := by decide +kernel
theorem d_m826_221 : decode prog_14_method_4_code 221 = .ok (.imul, 1) := by decide +kernel
theorem d_m826_222 : decode prog_14_method_4_code 222 = .ok (.iconst 1, 1) := by decide +kernel
theorem d_m826_223 : decode prog_14_method_4_code 223 = .ok (.iadd, 1) := by decide +kernel
theorem d_m826_224 : decode prog_14_method_4_code 224 = .ok (.ishr, 1) := by decide +kernel
theorem d_m826_225 : decode prog_14_method_4_code 225 = .ok (.iconst 1, 1) := by decide +kernel
theorem d_m826_226 : decode prog_14_method_4_code 226 = .ok (.iand, 1) := by decide +kernel
theorem d_m826_227 : decode prog_14_method_4_code 227 = .ok (.iadd, 1) := by decide +kernel
theorem d_m826_228 : decode prog_14_method_4_code 228 = .ok (.iastore, 1) := by decide +kernel
theorem d_m826_229 : decode prog_14_method_4_code 229 = .ok (.aload_n 0, 1) := by decide +kernel
theorem d_m826_230 : decode prog_14_method_4_code 230 = .ok (.getfield 16, 3) := by decide +kernel
theorem d_m826_233 : decode prog_14_method_4_code 233 = .ok (.iload 11, 2) := by decide +kernel
theorem d_m826_235 : decode prog_14_method_4_code 235 = .ok (.iload 8, 2) := by decide +kernel
theorem d_m826_237 : decode prog_14_method_4_code 237 = .ok (.aload_n 0, 1) := by decide +kernel
theorem d_m826_238 : decode prog_14_method_4_code 238 = .ok (.getfield 7, 3) := by decide +kernel
theorem d_m826_241 : decode prog_14_method_4_code 241 = .ok (.iload 11, 2) := by decide +kernel
theorem d_m826_243 : decode prog_14_method_4_code 243 = .ok (.iaload, 1) := by decide +kernel
theorem d_m826_244 : decode prog_14_method_4_code 244 = .ok (.imul, 1) := by decide +kernel
theorem d_m826_245 : decode prog_14_method_4_code 245 = .ok (.iastore, 1) := by decide +kernel
theorem d_m826_246 : decode prog_14_method_4_code 246 = .ok (.aload_n 0, 1) := by decide +kernel
theorem d_m826_247 : decode prog_14_method_4_code 247 = .ok (.getfield 19, 3) := by decide +kernel
theorem d_m826_250 : decode prog_14_method_4_code 250 = .ok (.iload 11, 2) := by decide +kernel
theorem d_m826_252 : decode prog_14_method_4_code 252 = .ok (.iload 9, 2) := by decide +kernel
theorem d_m826_254 : decode prog_14_method_4_code 254 = .ok (.aload_n 0, 1) := by decide +kernel
theorem d_m826_255 : decode prog_14_method_4_code 255 = .ok (.getfield 13, 3) := by decide +kernel
theorem d_m826_258 : decode prog_14_method_4_code 258 = .ok (.iload 11, 2) := by decide +kernel
theorem d_m826_260 : decode prog_14_method_4_code 260 = .ok (.iaload, 1) := by decide +kernel
theorem d_m826_261 : decode prog_14_method_4_code 261 = .ok (.imul, 1) := by decide +kernel
theorem d_m826_262 : decode prog_14_method_4_code 262 = .ok (.iastore, 1) := by decide +kernel
theorem d_m826_263 : decode prog_14_method_4_code 263 = .ok (.aload_n 0, 1) := by decide +kernel
theorem d_m826_264 : decode prog_14_method_4_code 264 = .ok (.getfield 22, 3) := by decide +kernel
theorem d_m826_267 : decode prog_14_method_4_code 267 = .ok (.iload 11, 2) := by decide +kernel
theorem d_m826_269 : decode prog_14_method_4_code 269 = .ok (.iload_n 1, 1) := by decide +kernel
theorem d_m826_270 : decode prog_14_method_4_code 270 = .ok (.aload_n 0, 1) := by decide +kernel
theorem d_m826_271 : decode prog_14_method_4_code 271 = .ok (.getfield 7, 3) := by decide +kernel
theorem d_m826_274 : decode prog_14_method_4_code 274 = .ok (.iload 11, 2) := by decide +kernel
theorem d_m826_276 : decode prog_14_method_4_code 276 = .ok (.iaload, 1) := by decide +kernel
theorem d_m826_277 : decode prog_14_method_4_code 277 = .ok (.imul, 1) := by decide +kernel
theorem d_m826_278 : decode prog_14_method_4_code 278 = .ok (.iload 5, 2) := by decide +kernel
theorem d_m826_280 : decode prog_14_method_4_code 280 = .ok (.invokestatic 91, 3) := by decide +kernel
theorem d_m826_283 : decode prog_14_method_4_code 283 = .ok (.bipush 8, 2) := by decide +kernel
theorem d_m826_285 : decode prog_14_method_4_code 285 = .ok (.invokestatic 91, 3) := by decide +kernel
theorem d_m826_288 : decode prog_14_method_4_code 288 = .ok (.iastore, 1) := by decide +kernel
theorem d_m826_289 : decode prog_14_method_4_code 289 = .ok (.aload_n 0, 1) := by decide +kernel
theorem d_m826_290 : decode prog_14_method_4_code 290 = .ok (.getfield 25, 3) := by decide +kernel
theorem d_m826_293 : decode prog_14_method_4_code 293 = .ok (.iload 11, 2) := by decide +kernel
theorem d_m826_295 : decode prog_14_method_4_code 295 = .ok (.iload_n 2, 1) := by decide +kernel
theorem d_m826_296 : decode prog_14_method_4_code 296 = .ok (.aload_n 0, 1) := by decide +kernel
theorem d_m826_297 : decode prog_14_method_4_code 297 = .ok (.getfield 13, 3) := by decide +kernel
theorem d_m826_300 : decode prog_14_method_4_code 300 = .ok (.iload 11, 2) := by decide +kernel
theorem d_m826_302 : decode prog_14_method_4_code 302 = .ok (.iaload, 1) := by decide +kernel
theorem d_m826_303 : decode prog_14_method_4_code 303 = .ok (.imul, 1) := by decide +kernel
theorem d_m826_304 : decode prog_14_method_4_code 304 = .ok (.iload 6, 2) := by decide +kernel
theorem d_m826_306 : decode prog_14_method_4_code 306 = .ok (.invokestatic 91, 3) := by decide +kernel
theorem d_m826_309 : decode prog_14_method_4_code 309 = .ok (.bipush 8, 2) := by decide +kernel
theorem d_m826_311 : decode prog_14_method_4_code 311 = .ok (.invokestatic 91, 3) := by decide +kernel
theorem d_m826_314 : decode prog_14_method_4_code 314 = .ok (.iastore, 1) := by decide +kernel
theorem d_m826_315 : decode prog_14_method_4_code 315 = .ok (.aload_n 0, 1) := by decide +kernel
theorem d_m826_316 : decode prog_14_method_4_code 316 = .ok (.getfield 28, 3) := by decide +kernel
theorem d_m826_319 : decode prog_14_method_4_code 319 = .ok (.iload 11, 2) := by decide +kernel
theorem d_m826_321 : decode prog_14_method_4_code 321 = .ok (.iload 10, 2) := by decide +kernel
theorem d_m826_323 : decode prog_14_method_4_code 323 = .ok (.iastore, 1) := by decide +kernel
theorem d_m826_324 : decode prog_14_method_4_code 324 = .ok (.iload 10, 2) := by decide +kernel
theorem d_m826_326 : decode prog_14_method_4_code 326 = .ok (.aload_n 0, 1) := by decide +kernel
theorem d_m826_327 : decode prog_14_method_4_code 327 = .ok (.getfield 16, 3) := by decide +kernel
theorem d_m826_330 : decode prog_14_method_4_code 330 = .ok (.iload 11, 2) := by decide +kernel
theorem d_m826_332 : decode prog_14_method_4_code 332 = .ok (.iaload, 1) := by decide +kernel
theorem d_m826_333 : decode prog_14_method_4_code 333 = .ok (.aload_n 0, 1) := by decide +kernel
theorem d_m826_334 : decode prog_14_method_4_code 334 = .ok (.getfield 19, 3) := by decide +kernel
theorem d_m826_337 : decode prog_14_method_4_code 337 = .ok (.iload 11, 2) := by decide +kernel
theorem d_m826_339 : decode prog_14_method_4_code 339 = .ok (.iaload, 1) := by decide +kernel
theorem d_m826_340 : decode prog_14_method_4_code 340 = .ok (.imul, 1) := by decide +kernel
theorem d_m826_341 : decode prog_14_method_4_code 341 = .ok (.iadd, 1) := by decide +kernel
theorem d_m826_342 : decode prog_14_method_4_code 342 = .ok (.istore 10, 2) := by decide +kernel
theorem d_m826_344 : decode prog_14_method_4_code 344 = .ok (.iinc 11 1, 3) := by decide +kernel
theorem d_m826_347 : decode prog_14_method_4_code 347 = .ok (.goto (-162), 3) := by decide +kernel
theorem d_m826_350 : decode prog_14_method_4_code 350 = .ok (.iload 7, 2) := by decide +kernel
theorem d_m826_352 : decode prog_14_method_4_code 352 = .ok (.ireturn, 1) := by decide +kernel
theorem d_m829_0 : decode prog_14_method_3_code 0 = .ok (.iload_n 0, 1) := by decide +kernel
theorem d_m829_1 : decode prog_14_method_3_code 1 = .ok (.iload_n 1, 1) := by decide +kernel
theorem d_m829_2 : decode prog_14_method_3_code 2 = .ok (.iadd, 1) := by decide +kernel
theorem d_m829_3 : decode prog_14_method_3_code 3 = .ok (.iconst 1, 1) := by decide +kernel
theorem d_m829_4 : decode prog_14_method_3_code 4 = .ok (.isub, 1) := by decide +kernel
theorem d_m829_5 : decode prog_14_method_3_code 5 = .ok (.iload_n 1, 1) := by decide +kernel
theorem d_m829_6 : decode prog_14_method_3_code 6 = .ok (.idiv, 1) := by decide +kernel
theorem d_m829_7 : decode prog_14_method_3_code 7 = .ok (.ireturn, 1) := by decide +kernel
theorem d_m833_0 : decode prog_14_method_5_code 0 = .ok (.iconst 0, 1) := by decide +kernel
theorem d_m833_1 : decode prog_14_method_5_code 1 = .ok (.istore_n 1, 1) := by decide +kernel
theorem d_m833_2 : decode prog_14_method_5_code 2 = .ok (.iload_n 1, 1) := by decide +kernel
theorem d_m833_3 : decode prog_14_method_5_code 3 = .ok (.sipush 12288, 3) := by decide +kernel
theorem d_m833_6 : decode prog_14_method_5_code 6 = .ok (.if_icmp .ge 16, 3) := by decide +kernel
theorem d_m833_9 : decode prog_14_method_5_code 9 = .ok (.aload_n 0, 1) := by decide +kernel
theorem d_m833_10 : decode prog_14_method_5_code 10 = .ok (.getfield 31, 3) := by decide +kernel
theorem d_m833_13 : decode prog_14_method_5_code 13 = .ok (.iload_n 1, 1) := by decide +kernel
theorem d_m833_14 : decode prog_14_method_5_code 14 = .ok (.iconst 0, 1) := by decide +kernel
theorem d_m833_15 : decode prog_14_method_5_code 15 = .ok (.sastore, 1) := by decide +kernel
theorem d_m833_16 : decode prog_14_method_5_code 16 = .ok (.iinc 1 1, 3) := by decide +kernel
theorem d_m833_19 : decode prog_14_method_5_code 19 = .ok (.goto (-17), 3) := by decide +kernel
theorem d_m833_22 : decode prog_14_method_5_code 22 = .ok (.aload_n 0, 1) := by decide +kernel
theorem d_m833_23 : decode prog_14_method_5_code 23 = .ok (.iconst 1, 1) := by decide +kernel
theorem d_m833_24 : decode prog_14_method_5_code 24 = .ok (.putfield 110, 3) := by decide +kernel
theorem d_m833_27 : decode prog_14_method_5_code 27 = .ok (.aload_n 0, 1) := by decide +kernel
theorem d_m833_28 : decode prog_14_method_5_code 28 = .ok (.iconst 0, 1) := by decide +kernel
theorem d_m833_29 : decode prog_14_method_5_code 29 = .ok (.putfield 113, 3) := by decide +kernel
theorem d_m833_32 : decode prog_14_method_5_code 32 = .ok (.aload_n 0, 1) := by decide +kernel
theorem d_m833_33 : decode prog_14_method_5_code 33 = .ok (.bipush 63, 2) := by decide +kernel
theorem d_m833_35 : decode prog_14_method_5_code 35 = .ok (.putfield 116, 3) := by decide +kernel
theorem d_m833_38 : decode prog_14_method_5_code 38 = .ok (.aload_n 0, 1) := by decide +kernel
theorem d_m833_39 : decode prog_14_method_5_code 39 = .ok (.iconst 0, 1) := by decide +kernel
theorem d_m833_40 : decode prog_14_method_5_code 40 = .ok (.putfield 119, 3) := by decide +kernel
theorem d_m833_43 : decode prog_14_method_5_code 43 = .ok (.aload_n 0, 1) := by decide +kernel
theorem d_m833_44 : decode prog_14_method_5_code 44 = .ok (.iconst 0, 1) := by decide +kernel
theorem d_m833_45 : decode prog_14_method_5_code 45 = .ok (.putfield 122, 3) := by decide +kernel
theorem d_m833_48 : decode prog_14_method_5_code 48 = .ok (.aload_n 0, 1) := by decide +kernel
theorem d_m833_49 : decode prog_14_method_5_code 49 = .ok (.iconst 0, 1) := by decide +kernel
theorem d_m833_50 : decode prog_14_method_5_code 50 = .ok (.putfield 125, 3) := by decide +kernel
theorem d_m833_53 : decode prog_14_method_5_code 53 = .ok (.iconst 0, 1) := by decide +kernel
theorem d_m833_54 : decode prog_14_method_5_code 54 = .ok (.istore_n 1, 1) := by decide +kernel
theorem d_m833_55 : decode prog_14_method_5_code 55 = .ok (.iload_n 1, 1) := by decide +kernel
theorem d_m833_56 : decode prog_14_method_5_code 56 = .ok (.iconst 4, 1) := by decide +kernel
theorem d_m833_57 : decode prog_14_method_5_code 57 = .ok (.if_icmp .ge 23, 3) := by decide +kernel
theorem d_m833_60 : decode prog_14_method_5_code 60 = .ok (.aload_n 0, 1) := by decide +kernel
theorem d_m833_61 : decode prog_14_method_5_code 61 = .ok (.getfield 53, 3) := by decide +kernel
theorem d_m833_64 : decode prog_14_method_5_code 64 = .ok (.iload_n 1, 1) := by decide +kernel
theorem d_m833_65 : decode prog_14_method_5_code 65 = .ok (.iconst 0, 1) := by decide +kernel
theorem d_m833_66 : decode prog_14_method_5_code 66 = .ok (.iastore, 1) := by decide +kernel
theorem d_m833_67 : decode prog_14_method_5_code 67 = .ok (.aload_n 0, 1) := by decide +kernel
theorem d_m833_68 : decode prog_14_method_5_code 68 = .ok (.getfield 56, 3) := by decide +kernel
theorem d_m833_71 : decode prog_14_method_5_code 71 = .ok (.iload_n 1, 1) := by decide +kernel
theorem d_m833_72 : decode prog_14_method_5_code 72 = .ok (.iconst 4, 1) := by decide +kernel
theorem d_m833_73 : decode prog_14_method_5_code 73 = .ok (.iastore, 1) := by decide +kernel
theorem d_m833_74 : decode prog_14_method_5_code 74 = .ok (.iinc 1 1, 3) := by decide +kernel
theorem d_m833_77 : decode prog_14_method_5_code 77 = .ok (.goto (-22), 3) := by decide +kernel
theorem d_m833_80 : decode prog_14_method_5_code 80 = .ok (.return_, 1) := by decide +kernel
theorem d_m985_0 : decode prog_14_method_6_code 0 = .ok (.aload_n 0, 1) := by decide +kernel
theorem d_m985_1 : decode prog_14_method_6_code 1 = .ok (.iconst 0, 1) := by decide +kernel
theorem d_m985_2 : decode prog_14_method_6_code 2 = .ok (.putfield 87, 3) := by decide +kernel
theorem d_m985_5 : decode prog_14_method_6_code 5 = .ok (.iload_n 1, 1) := by decide +kernel
theorem d_m985_6 : decode prog_14_method_6_code 6 = .ok (.iconst 1, 1) := by decide +kernel
theorem d_m985_7 : decode prog_14_method_6_code 7 = .ok (.if_icmp .lt 60, 3) := by decide +kernel
theorem d_m985_10 : decode prog_14_method_6_code 10 = .ok (.iload_n 1, 1) := by decide +kernel
theorem d_m985_11 : decode prog_14_method_6_code 11 = .ok (.bipush 64, 2) := by decide +kernel
theorem d_m985_13 : decode prog_14_method_6_code 13 = .ok (.if_icmp .gt 54, 3) := by decide +kernel
theorem d_m985_16 : decode prog_14_method_6_code 16 = .ok (.iload_n 2, 1) := by decide +kernel
theorem d_m985_17 : decode prog_14_method_6_code 17 = .ok (.iconst 1, 1) := by decide +kernel
theorem d_m985_18 : decode prog_14_method_6_code 18 = .ok (.if_icmp .lt 49, 3) := by decide +kernel
theorem d_m985_21 : decode prog_14_method_6_code 21 = .ok (.iload_n 2, 1) := by decide +kernel
theorem d_m985_22 : decode prog_14_method_6_code 22 = .ok (.bipush 64, 2) := by decide +kernel
theorem d_m985_24 : decode prog_14_method_6_code 24 = .ok (.if_icmp .gt 43, 3) := by decide +kernel
theorem d_m985_27 : decode prog_14_method_6_code 27 = .ok (.iload_n 3, 1) := by decide +kernel
theorem d_m985_28 : decode prog_14_method_6_code 28 = .ok (.iconst 1, 1) := by decide +kernel
theorem d_m985_29 : decode prog_14_method_6_code 29 = .ok (.if_icmp .lt 38, 3) := by decide +kernel
theorem d_m985_32 : decode prog_14_method_6_code 32 = .ok (.iload_n 3, 1) := by decide +kernel
theorem d_m985_33 : decode prog_14_method_6_code 33 = .ok (.iconst 4, 1) := by decide +kernel
theorem d_m985_34 : decode prog_14_method_6_code 34 = .ok (.if_icmp .gt 33, 3) := by decide +kernel
theorem d_m985_37 : decode prog_14_method_6_code 37 = .ok (.iload 4, 2) := by decide +kernel
theorem d_m985_39 : decode prog_14_method_6_code 39 = .ok (.ifCond .lt 28, 3) := by decide +kernel
theorem d_m985_42 : decode prog_14_method_6_code 42 = .ok (.iload 4, 2) := by decide +kernel
theorem d_m985_44 : decode prog_14_method_6_code 44 = .ok (.iconst 1, 1) := by decide +kernel
theorem d_m985_45 : decode prog_14_method_6_code 45 = .ok (.iconst 2, 1) := by decide +kernel
theorem d_m985_46 : decode prog_14_method_6_code 46 = .ok (.iload_n 3, 1) := by decide +kernel
theorem d_m985_47 : decode prog_14_method_6_code 47 = .ok (.imul, 1) := by decide +kernel
theorem d_m985_48 : decode prog_14_method_6_code 48 = .ok (.ishl, 1) := by decide +kernel
theorem d_m985_49 : decode prog_14_method_6_code 49 = .ok (.if_icmp .ge 18, 3) := by decide +kernel
theorem d_m985_52 : decode prog_14_method_6_code 52 = .ok (.aload_n 0, 1) := by decide +kernel
theorem d_m985_53 : decode prog_14_method_6_code 53 = .ok (.iload_n 1, 1) := by decide +kernel
theorem d_m985_54 : decode prog_14_method_6_code 54 = .ok (.iload_n 2, 1) := by decide +kernel
theorem d_m985_55 : decode prog_14_method_6_code 55 = .ok (.iload_n 3, 1) := by decide +kernel
theorem d_m985_56 : decode prog_14_method_6_code 56 = .ok (.iload 4, 2) := by decide +kernel
theorem d_m985_58 : decode prog_14_method_6_code 58 = .ok (.invokevirtual 81, 3) := by decide +kernel
theorem d_m985_61 : decode prog_14_method_6_code 61 = .ok (.sipush 192, 3) := by decide +kernel
theorem d_m985_64 : decode prog_14_method_6_code 64 = .ok (.if_icmp .le 5, 3) := by decide +kernel
theorem d_m985_67 : decode prog_14_method_6_code 67 = .ok (.iconst 0, 1) := by decide +kernel
theorem d_m985_68 : decode prog_14_method_6_code 68 = .ok (.ireturn, 1) := by decide +kernel
theorem d_m985_69 : decode prog_14_method_6_code 69 = .ok (.aload_n 0, 1) := by decide +kernel
theorem d_m985_70 : decode prog_14_method_6_code 70 = .ok (.invokevirtual 85, 3) := by decide +kernel
theorem d_m985_73 : decode prog_14_method_6_code 73 = .ok (.iconst 1, 1) := by decide +kernel
theorem d_m985_74 : decode prog_14_method_6_code 74 = .ok (.ireturn, 1) := by decide +kernel
theorem d_m989_0 : decode prog_14_method_7_code 0 = .ok (.aload_n 0, 1) := by decide +kernel
theorem d_m989_1 : decode prog_14_method_7_code 1 = .ok (.iconst 0, 1) := by decide +kernel
theorem d_m989_2 : decode prog_14_method_7_code 2 = .ok (.putfield 87, 3) := by decide +kernel
theorem d_m989_5 : decode prog_14_method_7_code 5 = .ok (.iconst 0, 1) := by decide +kernel
theorem d_m989_6 : decode prog_14_method_7_code 6 = .ok (.istore 5, 2) := by decide +kernel
theorem d_m989_8 : decode prog_14_method_7_code 8 = .ok (.iload 5, 2) := by decide +kernel
theorem d_m989_10 : decode prog_14_method_7_code 10 = .ok (.bipush 8, 2) := by decide +kernel
theorem d_m989_12 : decode prog_14_method_7_code 12 = .ok (.if_icmp .ge 52, 3) := by decide +kernel
theorem d_m989_15 : decode prog_14_method_7_code 15 = .ok (.aload_n 0, 1) := by decide +kernel
theorem d_m989_16 : decode prog_14_method_7_code 16 = .ok (.getfield 38, 3) := by decide +kernel
theorem d_m989_19 : decode prog_14_method_7_code 19 = .ok (.iconst 1, 1) := by decide +kernel
theorem d_m989_20 : decode prog_14_method_7_code 20 = .ok (.iload 5, 2) := by decide +kernel
theorem d_m989_22 : decode prog_14_method_7_code 22 = .ok (.iadd, 1) := by decide +kernel
theorem d_m989_23 : decode prog_14_method_7_code 23 = .ok (.lload_n 1, 1) := by decide +kernel
theorem d_m989_24 : decode prog_14_method_7_code 24 = .ok (.bipush 8, 2) := by decide +kernel
theorem d_m989_26 : decode prog_14_method_7_code 26 = .ok (.iload 5, 2) := by decide +kernel
theorem d_m989_28 : decode prog_14_method_7_code 28 = .ok (.imul, 1) := by decide +kernel
theorem d_m989_29 : decode prog_14_method_7_code 29 = .ok (.lshr, 1) := by decide +kernel
theorem d_m989_30 : decode prog_14_method_7_code 30 = .ok (.ldc2_w 128, 3) := by decide +kernel
theorem d_m989_33 : decode prog_14_method_7_code 33 = .ok (.land, 1) := by decide +kernel
theorem d_m989_34 : decode prog_14_method_7_code 34 = .ok (.l2i, 1) := by decide +kernel
theorem d_m989_35 : decode prog_14_method_7_code 35 = .ok (.iastore, 1) := by decide +kernel
theorem d_m989_36 : decode prog_14_method_7_code 36 = .ok (.aload_n 0, 1) := by decide +kernel
theorem d_m989_37 : decode prog_14_method_7_code 37 = .ok (.getfield 38, 3) := by decide +kernel
theorem d_m989_40 : decode prog_14_method_7_code 40 = .ok (.bipush 9, 2) := by decide +kernel
theorem d_m989_42 : decode prog_14_method_7_code 42 = .ok (.iload 5, 2) := by decide +kernel
theorem d_m989_44 : decode prog_14_method_7_code 44 = .ok (.iadd, 1) := by decide +kernel
theorem d_m989_45 : decode prog_14_method_7_code 45 = .ok (.lload_n 3, 1) := by decide +kernel
theorem d_m989_46 : decode prog_14_method_7_code 46 = .ok (.bipush 8, 2) := by decide +kernel
theorem d_m989_48 : decode prog_14_method_7_code 48 = .ok (.iload 5, 2) := by decide +kernel
theorem d_m989_50 : decode prog_14_method_7_code 50 = .ok (.imul, 1) := by decide +kernel
theorem d_m989_51 : decode prog_14_method_7_code 51 = .ok (.lshr, 1) := by decide +kernel
theorem d_m989_52 : decode prog_14_method_7_code 52 = .ok (.ldc2_w 128, 3) := by decide +kernel
theorem d_m989_55 : decode prog_14_method_7_code 55 = .ok (.land, 1) := by decide +kernel
theorem d_m989_56 : decode prog_14_method_7_code 56 = .ok (.l2i, 1) := by decide +kernel
theorem d_m989_57 : decode prog_14_method_7_code 57 = .ok (.iastore, 1) := by decide +kernel
theorem d_m989_58 : decode prog_14_method_7_code 58 = .ok (.iinc 5 1, 3) := by decide +kernel
theorem d_m989_61 : decode prog_14_method_7_code 61 = .ok (.goto (-53), 3) := by decide +kernel
theorem d_m989_64 : decode prog_14_method_7_code 64 = .ok (.aload_n 0, 1) := by decide +kernel
theorem d_m989_65 : decode prog_14_method_7_code 65 = .ok (.iconst 0, 1) := by decide +kernel
theorem d_m989_66 : decode prog_14_method_7_code 66 = .ok (.putfield 130, 3) := by decide +kernel
theorem d_m989_69 : decode prog_14_method_7_code 69 = .ok (.return_, 1) := by decide +kernel
theorem d_m994_0 : decode prog_14_method_8_code 0 = .ok (.aload_n 0, 1) := by decide +kernel
theorem d_m994_1 : decode prog_14_method_8_code 1 = .ok (.iconst 0, 1) := by decide +kernel
theorem d_m994_2 : decode prog_14_method_8_code 2 = .ok (.putfield 87, 3) := by decide +kernel
theorem d_m994_5 : decode prog_14_method_8_code 5 = .ok (.iload_n 3, 1) := by decide +kernel
theorem d_m994_6 : decode prog_14_method_8_code 6 = .ok (.iconst 1, 1) := by decide +kernel
theorem d_m994_7 : decode prog_14_method_8_code 7 = .ok (.if_icmp .lt 21, 3) := by decide +kernel
theorem d_m994_10 : decode prog_14_method_8_code 10 = .ok (.iload_n 3, 1) := by decide +kernel
theorem d_m994_11 : decode prog_14_method_8_code 11 = .ok (.bipush 8, 2) := by decide +kernel
theorem d_m994_13 : decode prog_14_method_8_code 13 = .ok (.if_icmp .gt 15, 3) := by decide +kernel
theorem d_m994_16 : decode prog_14_method_8_code 16 = .ok (.aload_n 0, 1) := by decide +kernel
theorem d_m994_17 : decode prog_14_method_8_code 17 = .ok (.getfield 130, 3) := by decide +kernel
theorem d_m994_20 : decode prog_14_method_8_code 20 = .ok (.iload_n 3, 1) := by decide +kernel
theorem d_m994_21 : decode prog_14_method_8_code 21 = .ok (.iadd, 1) := by decide +kernel
theorem d_m994_22 : decode prog_14_method_8_code 22 = .ok (.sipush 256, 3) := by decide +kernel
theorem d_m994_25 : decode prog_14_method_8_code 25 = .ok (.if_icmp .le 5, 3) := by decide +kernel
theorem d_m994_28 : decode prog_14_method_8_code 28 = .ok (.iconst 0, 1) := by decide +kernel
theorem d_m994_29 : decode prog_14_method_8_code 29 = .ok (.ireturn, 1) := by decide +kernel
theorem d_m994_30 : decode prog_14_method_8_code 30 = .ok (.iload_n 3, 1) := by decide +kernel
theorem d_m994_31 : decode prog_14_method_8_code 31 = .ok (.iconst 1, 1) := by decide +kernel
theorem d_m994_32 : decode prog_14_method_8_code 32 = .ok (.isub, 1) := by decide +kernel
theorem d_m994_33 : decode prog_14_method_8_code 33 = .ok (.istore 4, 2) := by decide +kernel
theorem d_m994_35 : decode prog_14_method_8_code 35 = .ok (.iload 4, 2) := by decide +kernel
theorem d_m994_37 : decode prog_14_method_8_code 37 = .ok (.ifCond .lt 40, 3) := by decide +kernel
theorem d_m994_40 : decode prog_14_method_8_code 40 = .ok (.aload_n 0, 1) := by decide +kernel
theorem d_m994_41 : decode prog_14_method_8_code 41 = .ok (.getfield 41, 3) := by decide +kernel
theorem d_m994_44 : decode prog_14_method_8_code 44 = .ok (.aload_n 0, 1) := by decide +kernel
theorem d_m994_45 : decode prog_14_method_8_code 45 = .ok (.getfield 130, 3) := by decide +kernel
theorem d_m994_48 : decode prog_14_method_8_code 48 = .ok (.lload_n 1, 1) := by decide +kernel
theorem d_m994_49 : decode prog_14_method_8_code 49 = .ok (.bipush 8, 2) := by decide +kernel
theorem d_m994_51 : decode prog_14_method_8_code 51 = .ok (.iload 4, 2) := by decide +kernel
theorem d_m994_53 : decode prog_14_method_8_code 53 = .ok (.imul, 1) := by decide +kernel
theorem d_m994_54 : decode prog_14_method_8_code 54 = .ok (.lshr, 1) := by decide +kernel
theorem d_m994_55 : decode prog_14_method_8_code 55 = .ok (.ldc2_w 128, 3) := by decide +kernel
theorem d_m994_58 : decode prog_14_method_8_code 58 = .ok (.land, 1) := by decide +kernel
theorem d_m994_59 : decode prog_14_method_8_code 59 = .ok (.l2i, 1) := by decide +kernel
theorem d_m994_60 : decode prog_14_method_8_code 60 = .ok (.iastore, 1) := by decide +kernel
theorem d_m994_61 : decode prog_14_method_8_code 61 = .ok (.aload_n 0, 1) := by decide +kernel
theorem d_m994_62 : decode prog_14_method_8_code 62 = .ok (.dup, 1) := by decide +kernel
theorem d_m994_63 : decode prog_14_method_8_code 63 = .ok (.getfield 130, 3) := by decide +kernel
theorem d_m994_66 : decode prog_14_method_8_code 66 = .ok (.iconst 1, 1) := by decide +kernel
theorem d_m994_67 : decode prog_14_method_8_code 67 = .ok (.iadd, 1) := by decide +kernel
theorem d_m994_68 : decode prog_14_method_8_code 68 = .ok (.putfield 130, 3) := by decide +kernel
theorem d_m994_71 : decode prog_14_method_8_code 71 = .ok (.iinc 4 (-1), 3) := by decide +kernel
theorem d_m994_74 : decode prog_14_method_8_code 74 = .ok (.goto (-39), 3) := by decide +kernel
theorem d_m994_77 : decode prog_14_method_8_code 77 = .ok (.iconst 1, 1) := by decide +kernel
theorem d_m994_78 : decode prog_14_method_8_code 78 = .ok (.ireturn, 1) := by decide +kernel
theorem d_m998_0 : decode prog_14_method_10_code 0 = .ok (.aload_n 0, 1) := by decide +kernel
theorem d_m998_1 : decode prog_14_method_10_code 1 = .ok (.iconst 0, 1) := by decide +kernel
theorem d_m998_2 : decode prog_14_method_10_code 2 = .ok (.putfield 87, 3) := by decide +kernel
theorem d_m998_5 : decode prog_14_method_10_code 5 = .ok (.iload_n 1, 1) := by decide +kernel
theorem d_m998_6 : decode prog_14_method_10_code 6 = .ok (.ifCond .lt 16, 3) := by decide +kernel
theorem d_m998_9 : decode prog_14_method_10_code 9 = .ok (.iload_n 1, 1) := by decide +kernel
theorem d_m998_10 : decode prog_14_method_10_code 10 = .ok (.bipush 7, 2) := by decide +kernel
theorem d_m998_12 : decode prog_14_method_10_code 12 = .ok (.if_icmp .gt 10, 3) := by decide +kernel
theorem d_m998_15 : decode prog_14_method_10_code 15 = .ok (.aload_n 0, 1) := by decide +kernel
theorem d_m998_16 : decode prog_14_method_10_code 16 = .ok (.invokevirtual 135, 3) := by decide +kernel
theorem d_m998_19 : decode prog_14_method_10_code 19 = .ok (.ifCond .ne 5, 3) := by decide +kernel
theorem d_m998_22 : decode prog_14_method_10_code 22 = .ok (.iconst 0, 1) := by decide +kernel
theorem d_m998_23 : decode prog_14_method_10_code 23 = .ok (.ireturn, 1) := by decide +kernel
theorem d_m998_24 : decode prog_14_method_10_code 24 = .ok (.iconst 0, 1) := by decide +kernel
theorem d_m998_25 : decode prog_14_method_10_code 25 = .ok (.istore_n 2, 1) := by decide +kernel
theorem d_m998_26 : decode prog_14_method_10_code 26 = .ok (.iload_n 2, 1) := by decide +kernel
theorem d_m998_27 : decode prog_14_method_10_code 27 = .ok (.sipush 256, 3) := by decide +kernel
theorem d_m998_30 : decode prog_14_method_10_code 30 = .ok (.if_icmp .ge 22, 3) := by decide +kernel
theorem d_m998_33 : decode prog_14_method_10_code 33 = .ok (.aload_n 0, 1) := by decide +kernel
theorem d_m998_34 : decode prog_14_method_10_code 34 = .ok (.getfield 47, 3) := by decide +kernel
theorem d_m998_37 : decode prog_14_method_10_code 37 = .ok (.sipush 256, 3) := by decide +kernel
theorem d_m998_40 : decode prog_14_method_10_code 40 = .ok (.iload_n 1, 1) := by decide +kernel
theorem d_m998_41 : decode prog_14_method_10_code 41 = .ok (.imul, 1) := by decide +kernel
theorem d_m998_42 : decode prog_14_method_10_code 42 = .ok (.iload_n 2, 1) := by decide +kernel
theorem d_m998_43 : decode prog_14_method_10_code 43 = .ok (.iadd, 1) := by decide +kernel
theorem d_m998_44 : decode prog_14_method_10_code 44 = .ok (.iconst 0, 1) := by decide +kernel
theorem d_m998_45 : decode prog_14_method_10_code 45 = .ok (.iastore, 1) := by decide +kernel
theorem d_m998_46 : decode prog_14_method_10_code 46 = .ok (.iinc 2 1, 3) := by decide +kernel
theorem d_m998_49 : decode prog_14_method_10_code 49 = .ok (.goto (-23), 3) := by decide +kernel
theorem d_m998_52 : decode prog_14_method_10_code 52 = .ok (.iconst 0, 1) := by decide +kernel
theorem d_m998_53 : decode prog_14_method_10_code 53 = .ok (.istore_n 2, 1) := by decide +kernel
theorem d_m998_54 : decode prog_14_method_10_code 54 = .ok (.iconst 0, 1) := by decide +kernel
theorem d_m998_55 : decode prog_14_method_10_code 55 = .ok (.istore_n 3, 1) := by decide +kernel
theorem d_m998_56 : decode prog_14_method_10_code 56 = .ok (.iconst 1, 1) := by decide +kernel
theorem d_m998_57 : decode prog_14_method_10_code 57 = .ok (.istore 4, 2) := by decide +kernel
theorem d_m998_59 : decode prog_14_method_10_code 59 = .ok (.iload 4, 2) := by decide +kernel
theorem d_m998_61 : decode prog_14_method_10_code 61 = .ok (.bipush 16, 2) := by decide +kernel
theorem d_m998_63 : decode prog_14_method_10_code 63 = .ok (.if_icmp .gt 77, 3) := by decide +kernel
theorem d_m998_66 : decode prog_14_method_10_code 66 = .ok (.iconst 2, 1) := by decide +kernel
theorem d_m998_67 : decode prog_14_method_10_code 67 = .ok (.iload_n 2, 1) := by decide +kernel
theorem d_m998_68 : decode prog_14_method_10_code 68 = .ok (.imul, 1) := by decide +kernel
theorem d_m998_69 : decode prog_14_method_10_code 69 = .ok (.istore_n 2, 1) := by decide +kernel
theorem d_m998_70 : decode prog_14_method_10_code 70 = .ok (.iconst 0, 1) := by decide +kernel
theorem d_m998_71 : decode prog_14_method_10_code 71 = .ok (.istore 5, 2) := by decide +kernel
theorem d_m998_73 : decode prog_14_method_10_code 73 = .ok (.iload 5, 2) := by decide +kernel
theorem d_m998_75 : decode prog_14_method_10_code 75 = .ok (.aload_n 0, 1) := by decide +kernel
theorem d_m998_76 : decode prog_14_method_10_code 76 = .ok (.getfield 38, 3) := by decide +kernel
theorem d_m998_79 : decode prog_14_method_10_code 79 = .ok (.iload 4, 2) := by decide +kernel
theorem d_m998_81 : decode prog_14_method_10_code 81 = .ok (.iaload, 1) := by decide +kernel
theorem d_m998_82 : decode prog_14_method_10_code 82 = .ok (.if_icmp .ge 52, 3) := by decide +kernel
theorem d_m998_85 : decode prog_14_method_10_code 85 = .ok (.aload_n 0, 1) := by decide +kernel
theorem d_m998_86 : decode prog_14_method_10_code 86 = .ok (.getfield 47, 3) := by decide +kernel
theorem d_m998_89 : decode prog_14_method_10_code 89 = .ok (.sipush 256, 3) := by decide +kernel
theorem d_m998_92 : decode prog_14_method_10_code 92 = .ok (.iload_n 1, 1) := by decide +kernel
theorem d_m998_93 : decode prog_14_method_10_code 93 = .ok (.imul, 1) := by decide +kernel
theorem d_m998_94 : decode prog_14_method_10_code 94 = .ok (.aload_n 0, 1) := by decide +kernel
theorem d_m998_95 : decode prog_14_method_10_code 95 = .ok (.getfield 41, 3) := by decide +kernel
theorem d_m998_98 : decode prog_14_method_10_code 98 = .ok (.iload_n 3, 1) := by decide +kernel
theorem d_m998_99 : decode prog_14_method_10_code 99 = .ok (.iaload, 1) := by decide +kernel
theorem d_m998_100 : decode prog_14_method_10_code 100 = .ok (.iadd, 1) := by decide +kernel
theorem d_m998_101 : decode prog_14_method_10_code 101 = .ok (.iload 4, 2) := by decide +kernel
theorem d_m998_103 : decode prog_14_method_10_code 103 = .ok (.iastore, 1) := by decide +kernel
theorem d_m998_104 : decode prog_14_method_10_code 104 = .ok (.aload_n 0, 1) := by decide +kernel
theorem d_m998_105 : decode prog_14_method_10_code 105 = .ok (.getfield 50, 3) := by decide +kernel
theorem d_m998_108 : decode prog_14_method_10_code 108 = .ok (.sipush 256, 3) := by decide +kernel
theorem d_m998_111 : decode prog_14_method_10_code 111 = .ok (.iload_n 1, 1) := by decide +kernel
theorem d_m998_112 : decode prog_14_method_10_code 112 = .ok (.imul, 1) := by decide +kernel
theorem d_m998_113 : decode prog_14_method_10_code 113 = .ok (.aload_n 0, 1) := by decide +kernel
theorem d_m998_114 : decode prog_14_method_10_code 114 = .ok (.getfield 41, 3) := by decide +kernel
theorem d_m998_117 : decode prog_14_method_10_code 117 = .ok (.iload_n 3, 1) := by decide +kernel
theorem d_m998_118 : decode prog_14_method_10_code 118 = .ok (.iaload, 1) := by decide +kernel
theorem d_m998_119 : decode prog_14_method_10_code 119 = .ok (.iadd, 1) := by decide +kernel
theorem d_m998_120 : decode prog_14_method_10_code 120 = .ok (.iload_n 2, 1) := by decide +kernel
theorem d_m998_121 : decode prog_14_method_10_code 121 = .ok (.iastore, 1) := by decide +kernel
theorem d_m998_122 : decode prog_14_method_10_code 122 = .ok (.iinc 2 1, 3) := by decide +kernel
theorem d_m998_125 : decode prog_14_method_10_code 125 = .ok (.iinc 3 1, 3) := by decide +kernel
theorem d_m998_128 : decode prog_14_method_10_code 128 = .ok (.iinc 5 1, 3) := by decide +kernel
theorem d_m998_131 : decode prog_14_method_10_code 131 = .ok (.goto (-58), 3) := by decide +kernel
theorem d_m998_134 : decode prog_14_method_10_code 134 = .ok (.iinc 4 1, 3) := by decide +kernel
theorem d_m998_137 : decode prog_14_method_10_code 137 = .ok (.goto (-78), 3) := by decide +kernel
theorem d_m998_140 : decode prog_14_method_10_code 140 = .ok (.aload_n 0, 1) := by decide +kernel
theorem d_m998_141 : decode prog_14_method_10_code 141 = .ok (.getfield 44, 3) := by decide +kernel
theorem d_m998_144 : decode prog_14_method_10_code 144 = .ok (.iload_n 1, 1) := by decide +kernel
theorem d_m998_145 : decode prog_14_method_10_code 145 = .ok (.aload_n 0, 1) := by decide +kernel
theorem d_m998_146 : decode prog_14_method_10_code 146 = .ok (.getfield 130, 3) := by decide +kernel
theorem d_m998_149 : decode prog_14_method_10_code 149 = .ok (.iastore, 1) := by decide +kernel
theorem d_m998_150 : decode prog_14_method_10_code 150 = .ok (.iconst 1, 1) := by decide +kernel
theorem d_m998_151 : decode prog_14_method_10_code 151 = .ok (.ireturn, 1) := by decide +kernel
theorem d_m1002_0 : decode prog_14_method_9_code 0 = .ok (.iconst 0, 1) := by decide +kernel
theorem d_m1002_1 : decode prog_14_method_9_code 1 = .ok (.istore_n 1, 1) := by decide +kernel
theorem d_m1002_2 : decode prog_14_method_9_code 2 = .ok (.lconst 0, 1) := by decide +kernel
theorem d_m1002_3 : decode prog_14_method_9_code 3 = .ok (.lstore_n 2, 1) := by decide +kernel
theorem d_m1002_4 : decode prog_14_method_9_code 4 = .ok (.iconst 1, 1) := by decide +kernel
theorem d_m1002_5 : decode prog_14_method_9_code 5 = .ok (.istore 4, 2) := by decide +kernel
theorem d_m1002_7 : decode prog_14_method_9_code 7 = .ok (.iconst 1, 1) := by decide +kernel
theorem d_m1002_8 : decode prog_14_method_9_code 8 = .ok (.istore 5, 2) := by decide +kernel
theorem d_m1002_10 : decode prog_14_method_9_code 10 = .ok (.iload 5, 2) := by decide +kernel
theorem d_m1002_12 : decode prog_14_method_9_code 12 = .ok (.bipush 16, 2) := by decide +kernel
theorem d_m1002_14 : decode prog_14_method_9_code 14 = .ok (.if_icmp .gt 55, 3) := by decide +kernel
theorem d_m1002_17 : decode prog_14_method_9_code 17 = .ok (.iload_n 1, 1) := by decide +kernel
theorem d_m1002_18 : decode prog_14_method_9_code 18 = .ok (.aload_n 0, 1) := by decide +kernel
theorem d_m1002_19 : decode prog_14_method_9_code 19 = .ok (.getfield 38, 3) := by decide +kernel
theorem d_m1002_22 : decode prog_14_method_9_code 22 = .ok (.iload 5, 2) := by decide +kernel
theorem d_m1002_24 : decode prog_14_method_9_code 24 = .ok (.iaload, 1) := by decide +kernel
theorem d_m1002_25 : decode prog_14_method_9_code 25 = .ok (.iadd, 1) := by decide +kernel
theorem d_m1002_26 : decode prog_14_method_9_code 26 = .ok (.istore_n 1, 1) := by decide +kernel
theorem d_m1002_27 : decode prog_14_method_9_code 27 = .ok (.ldc2_w 133, 3) := by decide +kernel
theorem d_m1002_30 : decode prog_14_method_9_code 30 = .ok (.lload_n 2, 1) := by decide +kernel
theorem d_m1002_31 : decode prog_14_method_9_code 31 = .ok (.lmul, 1) := by decide +kernel
theorem d_m1002_32 : decode prog_14_method_9_code 32 = .ok (.aload_n 0, 1) := by decide +kernel
theorem d_m1002_33 : decode prog_14_method_9_code 33 = .ok (.getfield 38, 3) := by decide +kernel
theorem d_m1002_36 : decode prog_14_method_9_code 36 = .ok (.iload 5, 2) := by decide +kernel
theorem d_m1002_38 : decode prog_14_method_9_code 38 = .ok (.iaload, 1) := by decide +kernel
theorem d_m1002_39 : decode prog_14_method_9_code 39 = .ok (.i2l, 1) := by decide +kernel
theorem d_m1002_40 : decode prog_14_method_9_code 40 = .ok (.ladd, 1) := by decide +kernel
theorem d_m1002_41 : decode prog_14_method_9_code 41 = .ok (.lstore_n 2, 1) := by decide +kernel
theorem d_m1002_42 : decode prog_14_method_9_code 42 = .ok (.iload 4, 2) := by decide +kernel
theorem d_m1002_44 : decode prog_14_method_9_code 44 = .ok (.ifCond .eq 16, 3) := by decide +kernel
theorem d_m1002_47 : decode prog_14_method_9_code 47 = .ok (.lload_n 2, 1) := by decide +kernel
theorem d_m1002_48 : decode prog_14_method_9_code 48 = .ok (.lconst 1, 1) := by decide +kernel
