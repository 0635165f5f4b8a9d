theorem dX8_windows_215 : decode cX8_windows 215 = .ok (.i2l, 1) := by decide +kernel
theorem dX8_windows_216 : decode cX8_windows 216 = .ok (.lcmp, 1) := by decide +kernel
theorem dX8_windows_217 : decode cX8_windows 217 = .ok (.ifCond .lt 7, 3) := by decide +kernel
theorem dX8_windows_220 : decode cX8_windows 220 = .ok (.iconst 1, 1) := by decide +kernel
theorem dX8_windows_221 : decode cX8_windows 221 = .ok (.goto 4, 3) := by decide +kernel
theorem dX8_windows_224 : decode cX8_windows 224 = .ok (.iconst 0, 1) := by decide +kernel
theorem dX8_windows_225 : decode cX8_windows 225 = .ok (.istore 11, 2) := by decide +kernel
theorem dX8_windows_227 : decode cX8_windows 227 = .ok (.iload 11, 2) := by decide +kernel
theorem dX8_windows_229 : decode cX8_windows 229 = .ok (.ifCond .eq 10, 3) := by decide +kernel
theorem dX8_windows_232 : decode cX8_windows 232 = .ok (.iload 8, 2) := by decide +kernel
theorem dX8_windows_234 : decode cX8_windows 234 = .ok (.iconst 1, 1) := by decide +kernel
theorem dX8_windows_235 : decode cX8_windows 235 = .ok (.iadd, 1) := by decide +kernel
theorem dX8_windows_236 : decode cX8_windows 236 = .ok (.goto 4, 3) := by decide +kernel
theorem dX8_windows_239 : decode cX8_windows 239 = .ok (.iconst 0, 1) := by decide +kernel
theorem dX8_windows_240 : decode cX8_windows 240 = .ok (.istore 8, 2) := by decide +kernel
theorem dX8_windows_242 : decode cX8_windows 242 = .ok (.iload 11, 2) := by decide +kernel
theorem dX8_windows_244 : decode cX8_windows 244 = .ok (.ifCond .ne 6, 3) := by decide +kernel
theorem dX8_windows_247 : decode cX8_windows 247 = .ok (.goto 52, 3) := by decide +kernel
theorem dX8_windows_250 : decode cX8_windows 250 = .ok (.aload 7, 2) := by decide +kernel
theorem dX8_windows_252 : decode cX8_windows 252 = .ok (.iconst 1, 1) := by decide +kernel
theorem dX8_windows_253 : decode cX8_windows 253 = .ok (.dup2, 1) := by decide +kernel
theorem dX8_windows_254 : decode cX8_windows 254 = .ok (.iaload, 1) := by decide +kernel
theorem dX8_windows_255 : decode cX8_windows 255 = .ok (.iconst 1, 1) := by decide +kernel
theorem dX8_windows_256 : decode cX8_windows 256 = .ok (.iadd, 1) := by decide +kernel
theorem dX8_windows_257 : decode cX8_windows 257 = .ok (.iastore, 1) := by decide +kernel
theorem dX8_windows_258 : decode cX8_windows 258 = .ok (.iload 8, 2) := by decide +kernel
theorem dX8_windows_260 : decode cX8_windows 260 = .ok (.iconst 1, 1) := by decide +kernel
theorem dX8_windows_261 : decode cX8_windows 261 = .ok (.if_icmp .ne 11, 3) := by decide +kernel
theorem dX8_windows_264 : decode cX8_windows 264 = .ok (.aload 7, 2) := by decide +kernel
theorem dX8_windows_266 : decode cX8_windows 266 = .ok (.iconst 0, 1) := by decide +kernel
theorem dX8_windows_267 : decode cX8_windows 267 = .ok (.dup2, 1) := by decide +kernel
theorem dX8_windows_268 : decode cX8_windows 268 = .ok (.iaload, 1) := by decide +kernel
theorem dX8_windows_269 : decode cX8_windows 269 = .ok (.iconst 1, 1) := by decide +kernel
theorem dX8_windows_270 : decode cX8_windows 270 = .ok (.iadd, 1) := by decide +kernel
theorem dX8_windows_271 : decode cX8_windows 271 = .ok (.iastore, 1) := by decide +kernel
theorem dX8_windows_272 : decode cX8_windows 272 = .ok (.aload 7, 2) := by decide +kernel
theorem dX8_windows_274 : decode cX8_windows 274 = .ok (.iconst 2, 1) := by decide +kernel
theorem dX8_windows_275 : decode cX8_windows 275 = .ok (.iaload, 1) := by decide +kernel
theorem dX8_windows_276 : decode cX8_windows 276 = .ok (.iconst (-1), 1) := by decide +kernel
theorem dX8_windows_277 : decode cX8_windows 277 = .ok (.if_icmp .ne 9, 3) := by decide +kernel
theorem dX8_windows_280 : decode cX8_windows 280 = .ok (.aload 7, 2) := by decide +kernel
theorem dX8_windows_282 : decode cX8_windows 282 = .ok (.iconst 2, 1) := by decide +kernel
theorem dX8_windows_283 : decode cX8_windows 283 = .ok (.iload 10, 2) := by decide +kernel
theorem dX8_windows_285 : decode cX8_windows 285 = .ok (.iastore, 1) := by decide +kernel
theorem dX8_windows_286 : decode cX8_windows 286 = .ok (.aload 7, 2) := by decide +kernel
theorem dX8_windows_288 : decode cX8_windows 288 = .ok (.iconst 3, 1) := by decide +kernel
theorem dX8_windows_289 : decode cX8_windows 289 = .ok (.aload 7, 2) := by decide +kernel
theorem dX8_windows_291 : decode cX8_windows 291 = .ok (.iconst 3, 1) := by decide +kernel
theorem dX8_windows_292 : decode cX8_windows 292 = .ok (.iaload, 1) := by decide +kernel
theorem dX8_windows_293 : decode cX8_windows 293 = .ok (.iload 8, 2) := by decide +kernel
theorem dX8_windows_295 : decode cX8_windows 295 = .ok (.invokestatic 172, 3) := by decide +kernel
theorem dX8_windows_298 : decode cX8_windows 298 = .ok (.iastore, 1) := by decide +kernel
theorem dX8_windows_299 : decode cX8_windows 299 = .ok (.iinc 10 1, 3) := by decide +kernel
theorem dX8_windows_302 : decode cX8_windows 302 = .ok (.goto (-187), 3) := by decide +kernel
theorem dX8_windows_305 : decode cX8_windows 305 = .ok (.aload 7, 2) := by decide +kernel
theorem dX8_windows_307 : decode cX8_windows 307 = .ok (.iload 5, 2) := by decide +kernel
theorem dX8_windows_309 : decode cX8_windows 309 = .ok (.iaload, 1) := by decide +kernel
theorem dX8_windows_310 : decode cX8_windows 310 = .ok (.ireturn, 1) := by decide +kernel
theorem dX8_read_0 : decode cX8_read 0 = .ok (.aload_n 0, 1) := by decide +kernel
theorem dX8_read_1 : decode cX8_read 1 = .ok (.iconst 0, 1) := by decide +kernel
theorem dX8_read_2 : decode cX8_read 2 = .ok (.putfield 35, 3) := by decide +kernel
theorem dX8_read_5 : decode cX8_read 5 = .ok (.iload_n 1, 1) := by decide +kernel
theorem dX8_read_6 : decode cX8_read 6 = .ok (.invokestatic 87, 3) := by decide +kernel
theorem dX8_read_9 : decode cX8_read 9 = .ok (.ifCond .eq 17, 3) := by decide +kernel
theorem dX8_read_12 : decode cX8_read 12 = .ok (.iload_n 2, 1) := by decide +kernel
theorem dX8_read_13 : decode cX8_read 13 = .ok (.i2l, 1) := by decide +kernel
theorem dX8_read_14 : decode cX8_read 14 = .ok (.ldc2_w 174, 3) := by decide +kernel
theorem dX8_read_17 : decode cX8_read 17 = .ok (.ldc2_w 176, 3) := by decide +kernel
theorem dX8_read_20 : decode cX8_read 20 = .ok (.invokestatic 41, 3) := by decide +kernel
theorem dX8_read_23 : decode cX8_read 23 = .ok (.ifCond .ne 9, 3) := by decide +kernel
theorem dX8_read_26 : decode cX8_read 26 = .ok (.aload_n 0, 1) := by decide +kernel
theorem dX8_read_27 : decode cX8_read 27 = .ok (.iconst 1, 1) := by decide +kernel
theorem dX8_read_28 : decode cX8_read 28 = .ok (.invokevirtual 57, 3) := by decide +kernel
theorem dX8_read_31 : decode cX8_read 31 = .ok (.ireturn, 1) := by decide +kernel
theorem dX8_read_32 : decode cX8_read 32 = .ok (.aload_n 0, 1) := by decide +kernel
theorem dX8_read_33 : decode cX8_read 33 = .ok (.getfield 93, 3) := by decide +kernel
theorem dX8_read_36 : decode cX8_read 36 = .ok (.bipush 40, 2) := by decide +kernel
theorem dX8_read_38 : decode cX8_read 38 = .ok (.if_icmp .ne 9, 3) := by decide +kernel
theorem dX8_read_41 : decode cX8_read 41 = .ok (.aload_n 0, 1) := by decide +kernel
theorem dX8_read_42 : decode cX8_read 42 = .ok (.iconst 2, 1) := by decide +kernel
theorem dX8_read_43 : decode cX8_read 43 = .ok (.invokevirtual 57, 3) := by decide +kernel
theorem dX8_read_46 : decode cX8_read 46 = .ok (.ireturn, 1) := by decide +kernel
theorem dX8_read_47 : decode cX8_read 47 = .ok (.aload_n 0, 1) := by decide +kernel
theorem dX8_read_48 : decode cX8_read 48 = .ok (.getfield 22, 3) := by decide +kernel
theorem dX8_read_51 : decode cX8_read 51 = .ok (.aload_n 0, 1) := by decide +kernel
theorem dX8_read_52 : decode cX8_read 52 = .ok (.getfield 93, 3) := by decide +kernel
theorem dX8_read_55 : decode cX8_read 55 = .ok (.iload_n 1, 1) := by decide +kernel
theorem dX8_read_56 : decode cX8_read 56 = .ok (.iastore, 1) := by decide +kernel
theorem dX8_read_57 : decode cX8_read 57 = .ok (.aload_n 0, 1) := by decide +kernel
theorem dX8_read_58 : decode cX8_read 58 = .ok (.getfield 25, 3) := by decide +kernel
theorem dX8_read_61 : decode cX8_read 61 = .ok (.aload_n 0, 1) := by decide +kernel
theorem dX8_read_62 : decode cX8_read 62 = .ok (.getfield 93, 3) := by decide +kernel
theorem dX8_read_65 : decode cX8_read 65 = .ok (.iload_n 2, 1) := by decide +kernel
theorem dX8_read_66 : decode cX8_read 66 = .ok (.iastore, 1) := by decide +kernel
theorem dX8_read_67 : decode cX8_read 67 = .ok (.aload_n 0, 1) := by decide +kernel
theorem dX8_read_68 : decode cX8_read 68 = .ok (.dup, 1) := by decide +kernel
theorem dX8_read_69 : decode cX8_read 69 = .ok (.getfield 93, 3) := by decide +kernel
theorem dX8_read_72 : decode cX8_read 72 = .ok (.iconst 1, 1) := by decide +kernel
theorem dX8_read_73 : decode cX8_read 73 = .ok (.iadd, 1) := by decide +kernel
theorem dX8_read_74 : decode cX8_read 74 = .ok (.putfield 93, 3) := by decide +kernel
theorem dX8_read_77 : decode cX8_read 77 = .ok (.aload_n 0, 1) := by decide +kernel
theorem dX8_read_78 : decode cX8_read 78 = .ok (.getfield 93, 3) := by decide +kernel
theorem dX8_read_81 : decode cX8_read 81 = .ok (.ireturn, 1) := by decide +kernel
theorem dX8_off_0 : decode cX8_off 0 = .ok (.aload_n 0, 1) := by decide +kernel
theorem dX8_off_1 : decode cX8_off 1 = .ok (.getfield 25, 3) := by decide +kernel
theorem dX8_off_4 : decode cX8_off 4 = .ok (.iload_n 1, 1) := by decide +kernel
theorem dX8_off_5 : decode cX8_off 5 = .ok (.iaload, 1) := by decide +kernel
theorem dX8_off_6 : decode cX8_off 6 = .ok (.i2l, 1) := by decide +kernel
theorem dX8_off_7 : decode cX8_off 7 = .ok (.aload_n 0, 1) := by decide +kernel
theorem dX8_off_8 : decode cX8_off 8 = .ok (.getfield 28, 3) := by decide +kernel
theorem dX8_off_11 : decode cX8_off 11 = .ok (.aload_n 0, 1) := by decide +kernel
theorem dX8_off_12 : decode cX8_off 12 = .ok (.getfield 22, 3) := by decide +kernel
theorem dX8_off_15 : decode cX8_off 15 = .ok (.iload_n 1, 1) := by decide +kernel
theorem dX8_off_16 : decode cX8_off 16 = .ok (.iaload, 1) := by decide +kernel
theorem dX8_off_17 : decode cX8_off 17 = .ok (.laload, 1) := by decide +kernel
theorem dX8_off_18 : decode cX8_off 18 = .ok (.lsub, 1) := by decide +kernel
theorem dX8_off_19 : decode cX8_off 19 = .ok (.lreturn, 1) := by decide +kernel
theorem dX8_sumOff_0 : decode cX8_sumOff 0 = .ok (.aload_n 0, 1) := by decide +kernel
theorem dX8_sumOff_1 : decode cX8_sumOff 1 = .ok (.invokevirtual 90, 3) := by decide +kernel
theorem dX8_sumOff_4 : decode cX8_sumOff 4 = .ok (.lconst 0, 1) := by decide +kernel
theorem dX8_sumOff_5 : decode cX8_sumOff 5 = .ok (.lstore_n 1, 1) := by decide +kernel
theorem dX8_sumOff_6 : decode cX8_sumOff 6 = .ok (.iconst 0, 1) := by decide +kernel
theorem dX8_sumOff_7 : decode cX8_sumOff 7 = .ok (.istore_n 3, 1) := by decide +kernel
theorem dX8_sumOff_8 : decode cX8_sumOff 8 = .ok (.iload_n 3, 1) := by decide +kernel
theorem dX8_sumOff_9 : decode cX8_sumOff 9 = .ok (.aload_n 0, 1) := by decide +kernel
theorem dX8_sumOff_10 : decode cX8_sumOff 10 = .ok (.getfield 93, 3) := by decide +kernel
theorem dX8_sumOff_13 : decode cX8_sumOff 13 = .ok (.if_icmp .ge 17, 3) := by decide +kernel
theorem dX8_sumOff_16 : decode cX8_sumOff 16 = .ok (.lload_n 1, 1) := by decide +kernel
theorem dX8_sumOff_17 : decode cX8_sumOff 17 = .ok (.aload_n 0, 1) := by decide +kernel
theorem dX8_sumOff_18 : decode cX8_sumOff 18 = .ok (.iload_n 3, 1) := by decide +kernel
theorem dX8_sumOff_19 : decode cX8_sumOff 19 = .ok (.invokevirtual 178, 3) := by decide +kernel
theorem dX8_sumOff_22 : decode cX8_sumOff 22 = .ok (.ladd, 1) := by decide +kernel
theorem dX8_sumOff_23 : decode cX8_sumOff 23 = .ok (.lstore_n 1, 1) := by decide +kernel
theorem dX8_sumOff_24 : decode cX8_sumOff 24 = .ok (.iinc 3 1, 3) := by decide +kernel
theorem dX8_sumOff_27 : decode cX8_sumOff 27 = .ok (.goto (-19), 3) := by decide +kernel
theorem dX8_sumOff_30 : decode cX8_sumOff 30 = .ok (.lload_n 1, 1) := by decide +kernel
theorem dX8_sumOff_31 : decode cX8_sumOff 31 = .ok (.lreturn, 1) := by decide +kernel
theorem dX8_residual_0 : decode cX8_residual 0 = .ok (.aload_n 0, 1) := by decide +kernel
theorem dX8_residual_1 : decode cX8_residual 1 = .ok (.iconst 0, 1) := by decide +kernel
theorem dX8_residual_2 : decode cX8_residual 2 = .ok (.putfield 35, 3) := by decide +kernel
theorem dX8_residual_5 : decode cX8_residual 5 = .ok (.aload_n 0, 1) := by decide +kernel
theorem dX8_residual_6 : decode cX8_residual 6 = .ok (.getfield 93, 3) := by decide +kernel
theorem dX8_residual_9 : decode cX8_residual 9 = .ok (.ifCond .ne 7, 3) := by decide +kernel
theorem dX8_residual_12 : decode cX8_residual 12 = .ok (.dconst 0, 1) := by decide +kernel
theorem dX8_residual_13 : decode cX8_residual 13 = .ok (.goto 14, 3) := by decide +kernel
theorem dX8_residual_16 : decode cX8_residual 16 = .ok (.aload_n 0, 1) := by decide +kernel
theorem dX8_residual_17 : decode cX8_residual 17 = .ok (.invokevirtual 181, 3) := by decide +kernel
theorem dX8_residual_20 : decode cX8_residual 20 = .ok (.l2d, 1) := by decide +kernel
theorem dX8_residual_21 : decode cX8_residual 21 = .ok (.aload_n 0, 1) := by decide +kernel
theorem dX8_residual_22 : decode cX8_residual 22 = .ok (.getfield 93, 3) := by decide +kernel
theorem dX8_residual_25 : decode cX8_residual 25 = .ok (.i2d, 1) := by decide +kernel
theorem dX8_residual_26 : decode cX8_residual 26 = .ok (.ddiv, 1) := by decide +kernel
theorem dX8_residual_27 : decode cX8_residual 27 = .ok (.dreturn, 1) := by decide +kernel
theorem dX8_worst_0 : decode cX8_worst 0 = .ok (.aload_n 0, 1) := by decide +kernel
theorem dX8_worst_1 : decode cX8_worst 1 = .ok (.iconst 0, 1) := by decide +kernel
theorem dX8_worst_2 : decode cX8_worst 2 = .ok (.putfield 35, 3) := by decide +kernel
theorem dX8_worst_5 : decode cX8_worst 5 = .ok (.aload_n 0, 1) := by decide +kernel
theorem dX8_worst_6 : decode cX8_worst 6 = .ok (.invokevirtual 90, 3) := by decide +kernel
theorem dX8_worst_9 : decode cX8_worst 9 = .ok (.iconst (-1), 1) := by decide +kernel
theorem dX8_worst_10 : decode cX8_worst 10 = .ok (.istore_n 1, 1) := by decide +kernel
theorem dX8_worst_11 : decode cX8_worst 11 = .ok (.iconst 0, 1) := by decide +kernel
theorem dX8_worst_12 : decode cX8_worst 12 = .ok (.istore_n 2, 1) := by decide +kernel
theorem dX8_worst_13 : decode cX8_worst 13 = .ok (.iload_n 2, 1) := by decide +kernel
theorem dX8_worst_14 : decode cX8_worst 14 = .ok (.aload_n 0, 1) := by decide +kernel
theorem dX8_worst_15 : decode cX8_worst 15 = .ok (.getfield 93, 3) := by decide +kernel
theorem dX8_worst_18 : decode cX8_worst 18 = .ok (.if_icmp .ge 36, 3) := by decide +kernel
theorem dX8_worst_21 : decode cX8_worst 21 = .ok (.iload_n 1, 1) := by decide +kernel
theorem dX8_worst_22 : decode cX8_worst 22 = .ok (.iconst (-1), 1) := by decide +kernel
theorem dX8_worst_23 : decode cX8_worst 23 = .ok (.if_icmp .eq 23, 3) := by decide +kernel
theorem dX8_worst_26 : decode cX8_worst 26 = .ok (.aload_n 0, 1) := by decide +kernel
theorem dX8_worst_27 : decode cX8_worst 27 = .ok (.iload_n 2, 1) := by decide +kernel
theorem dX8_worst_28 : decode cX8_worst 28 = .ok (.invokevirtual 178, 3) := by decide +kernel
theorem dX8_worst_31 : decode cX8_worst 31 = .ok (.invokestatic 114, 3) := by decide +kernel
theorem dX8_worst_34 : decode cX8_worst 34 = .ok (.aload_n 0, 1) := by decide +kernel
theorem dX8_worst_35 : decode cX8_worst 35 = .ok (.iload_n 1, 1) := by decide +kernel
theorem dX8_worst_36 : decode cX8_worst 36 = .ok (.invokevirtual 178, 3) := by decide +kernel
theorem dX8_worst_39 : decode cX8_worst 39 = .ok (.invokestatic 114, 3) := by decide +kernel
theorem dX8_worst_42 : decode cX8_worst 42 = .ok (.lcmp, 1) := by decide +kernel
theorem dX8_worst_43 : decode cX8_worst 43 = .ok (.ifCond .le 5, 3) := by decide +kernel
theorem dX8_worst_46 : decode cX8_worst 46 = .ok (.iload_n 2, 1) := by decide +kernel
theorem dX8_worst_47 : decode cX8_worst 47 = .ok (.istore_n 1, 1) := by decide +kernel
theorem dX8_worst_48 : decode cX8_worst 48 = .ok (.iinc 2 1, 3) := by decide +kernel
theorem dX8_worst_51 : decode cX8_worst 51 = .ok (.goto (-38), 3) := by decide +kernel
theorem dX8_worst_54 : decode cX8_worst 54 = .ok (.iload_n 1, 1) := by decide +kernel
theorem dX8_worst_55 : decode cX8_worst 55 = .ok (.ireturn, 1) := by decide +kernel
theorem dX8_adjust_0 : decode cX8_adjust 0 = .ok (.aload_n 0, 1) := by decide +kernel
theorem dX8_adjust_1 : decode cX8_adjust 1 = .ok (.iconst 0, 1) := by decide +kernel
theorem dX8_adjust_2 : decode cX8_adjust 2 = .ok (.putfield 35, 3) := by decide +kernel
theorem dX8_adjust_5 : decode cX8_adjust 5 = .ok (.aload_n 0, 1) := by decide +kernel
theorem dX8_adjust_6 : decode cX8_adjust 6 = .ok (.getfield 93, 3) := by decide +kernel
theorem dX8_adjust_9 : decode cX8_adjust 9 = .ok (.ifCond .ne 9, 3) := by decide +kernel
theorem dX8_adjust_12 : decode cX8_adjust 12 = .ok (.aload_n 0, 1) := by decide +kernel
theorem dX8_adjust_13 : decode cX8_adjust 13 = .ok (.iconst 1, 1) := by decide +kernel
theorem dX8_adjust_14 : decode cX8_adjust 14 = .ok (.invokevirtual 57, 3) := by decide +kernel
theorem dX8_adjust_17 : decode cX8_adjust 17 = .ok (.ireturn, 1) := by decide +kernel
theorem dX8_adjust_18 : decode cX8_adjust 18 = .ok (.aload_n 0, 1) := by decide +kernel
theorem dX8_adjust_19 : decode cX8_adjust 19 = .ok (.invokevirtual 181, 3) := by decide +kernel
theorem dX8_adjust_22 : decode cX8_adjust 22 = .ok (.aload_n 0, 1) := by decide +kernel
theorem dX8_adjust_23 : decode cX8_adjust 23 = .ok (.getfield 93, 3) := by decide +kernel
theorem dX8_adjust_26 : decode cX8_adjust 26 = .ok (.i2l, 1) := by decide +kernel
theorem dX8_adjust_27 : decode cX8_adjust 27 = .ok (.ldiv, 1) := by decide +kernel
theorem dX8_adjust_28 : decode cX8_adjust 28 = .ok (.lstore_n 1, 1) := by decide +kernel
theorem dX8_adjust_29 : decode cX8_adjust 29 = .ok (.aload_n 0, 1) := by decide +kernel
theorem dX8_adjust_30 : decode cX8_adjust 30 = .ok (.getfield 73, 3) := by decide +kernel
theorem dX8_adjust_33 : decode cX8_adjust 33 = .ok (.i2l, 1) := by decide +kernel
theorem dX8_adjust_34 : decode cX8_adjust 34 = .ok (.lload_n 1, 1) := by decide +kernel
theorem dX8_adjust_35 : decode cX8_adjust 35 = .ok (.ladd, 1) := by decide +kernel
theorem dX8_adjust_36 : decode cX8_adjust 36 = .ok (.ldc2_w 69, 3) := by decide +kernel
theorem dX8_adjust_39 : decode cX8_adjust 39 = .ok (.ldc2_w 71, 3) := by decide +kernel
theorem dX8_adjust_42 : decode cX8_adjust 42 = .ok (.invokestatic 41, 3) := by decide +kernel
theorem dX8_adjust_45 : decode cX8_adjust 45 = .ok (.ifCond .ne 9, 3) := by decide +kernel
theorem dX8_adjust_48 : decode cX8_adjust 48 = .ok (.aload_n 0, 1) := by decide +kernel
theorem dX8_adjust_49 : decode cX8_adjust 49 = .ok (.iconst 1, 1) := by decide +kernel
theorem dX8_adjust_50 : decode cX8_adjust 50 = .ok (.invokevirtual 57, 3) := by decide +kernel
theorem dX8_adjust_53 : decode cX8_adjust 53 = .ok (.ireturn, 1) := by decide +kernel
theorem dX8_adjust_54 : decode cX8_adjust 54 = .ok (.aload_n 0, 1) := by decide +kernel
theorem dX8_adjust_55 : decode cX8_adjust 55 = .ok (.dup, 1) := by decide +kernel
theorem dX8_adjust_56 : decode cX8_adjust 56 = .ok (.getfield 73, 3) := by decide +kernel
theorem dX8_adjust_59 : decode cX8_adjust 59 = .ok (.lload_n 1, 1) := by decide +kernel
theorem dX8_adjust_60 : decode cX8_adjust 60 = .ok (.l2i, 1) := by decide +kernel
theorem dX8_adjust_61 : decode cX8_adjust 61 = .ok (.iadd, 1) := by decide +kernel
theorem dX8_adjust_62 : decode cX8_adjust 62 = .ok (.putfield 73, 3) := by decide +kernel
theorem dX8_adjust_65 : decode cX8_adjust 65 = .ok (.aload_n 0, 1) := by decide +kernel
theorem dX8_adjust_66 : decode cX8_adjust 66 = .ok (.iconst 0, 1) := by decide +kernel
theorem dX8_adjust_67 : decode cX8_adjust 67 = .ok (.putfield 93, 3) := by decide +kernel
theorem dX8_adjust_70 : decode cX8_adjust 70 = .ok (.aload_n 0, 1) := by decide +kernel
theorem dX8_adjust_71 : decode cX8_adjust 71 = .ok (.iconst 0, 1) := by decide +kernel
theorem dX8_adjust_72 : decode cX8_adjust 72 = .ok (.putfield 61, 3) := by decide +kernel
theorem dX8_adjust_75 : decode cX8_adjust 75 = .ok (.lload_n 1, 1) := by decide +kernel
theorem dX8_adjust_76 : decode cX8_adjust 76 = .ok (.l2i, 1) := by decide +kernel
theorem dX8_adjust_77 : decode cX8_adjust 77 = .ok (.ireturn, 1) := by decide +kernel
theorem dX8_digest_0 : decode cX8_digest 0 = .ok (.aload_n 0, 1) := by decide +kernel
theorem dX8_digest_1 : decode cX8_digest 1 = .ok (.iconst 0, 1) := by decide +kernel
theorem dX8_digest_2 : decode cX8_digest 2 = .ok (.putfield 35, 3) := by decide +kernel
theorem dX8_digest_5 : decode cX8_digest 5 = .ok (.ldc2_w 184, 3) := by decide +kernel
theorem dX8_digest_8 : decode cX8_digest 8 = .ok (.lstore_n 1, 1) := by decide +kernel
theorem dX8_digest_9 : decode cX8_digest 9 = .ok (.iconst 0, 1) := by decide +kernel
theorem dX8_digest_10 : decode cX8_digest 10 = .ok (.istore_n 3, 1) := by decide +kernel
theorem dX8_digest_11 : decode cX8_digest 11 = .ok (.iload_n 3, 1) := by decide +kernel
theorem dX8_digest_12 : decode cX8_digest 12 = .ok (.iconst 4, 1) := by decide +kernel
theorem dX8_digest_13 : decode cX8_digest 13 = .ok (.if_icmp .ge 22, 3) := by decide +kernel
theorem dX8_digest_16 : decode cX8_digest 16 = .ok (.lload_n 1, 1) := by decide +kernel
theorem dX8_digest_17 : decode cX8_digest 17 = .ok (.ldc2_w 186, 3) := by decide +kernel
theorem dX8_digest_20 : decode cX8_digest 20 = .ok (.lmul, 1) := by decide +kernel
theorem dX8_digest_21 : decode cX8_digest 21 = .ok (.aload_n 0, 1) := by decide +kernel
theorem dX8_digest_22 : decode cX8_digest 22 = .ok (.iload_n 3, 1) := by decide +kernel
theorem dX8_digest_23 : decode cX8_digest 23 = .ok (.invokevirtual 98, 3) := by decide +kernel
theorem dX8_digest_26 : decode cX8_digest 26 = .ok (.i2l, 1) := by decide +kernel
theorem dX8_digest_27 : decode cX8_digest 27 = .ok (.ladd, 1) := by decide +kernel
theorem dX8_digest_28 : decode cX8_digest 28 = .ok (.lstore_n 1, 1) := by decide +kernel
theorem dX8_digest_29 : decode cX8_digest 29 = .ok (.iinc 3 1, 3) := by decide +kernel
theorem dX8_digest_32 : decode cX8_digest 32 = .ok (.goto (-21), 3) := by decide +kernel
theorem dX8_digest_35 : decode cX8_digest 35 = .ok (.lload_n 1, 1) := by decide +kernel
theorem dX8_digest_36 : decode cX8_digest 36 = .ok (.ldc2_w 186, 3) := by decide +kernel
theorem dX8_digest_39 : decode cX8_digest 39 = .ok (.lmul, 1) := by decide +kernel
theorem dX8_digest_40 : decode cX8_digest 40 = .ok (.aload_n 0, 1) := by decide +kernel
theorem dX8_digest_41 : decode cX8_digest 41 = .ok (.getfield 73, 3) := by decide +kernel
theorem dX8_digest_44 : decode cX8_digest 44 = .ok (.i2l, 1) := by decide +kernel
theorem dX8_digest_45 : decode cX8_digest 45 = .ok (.ladd, 1) := by decide +kernel
theorem dX8_digest_46 : decode cX8_digest 46 = .ok (.lstore_n 1, 1) := by decide +kernel
theorem dX8_digest_47 : decode cX8_digest 47 = .ok (.iconst 0, 1) := by decide +kernel
theorem dX8_digest_48 : decode cX8_digest 48 = .ok (.istore_n 3, 1) := by decide +kernel
theorem dX8_digest_49 : decode cX8_digest 49 = .ok (.iload_n 3, 1) := by decide +kernel
theorem dX8_digest_50 : decode cX8_digest 50 = .ok (.aload_n 0, 1) := by decide +kernel
theorem dX8_digest_51 : decode cX8_digest 51 = .ok (.getfield 84, 3) := by decide +kernel
theorem dX8_digest_54 : decode cX8_digest 54 = .ok (.if_icmp .ge 39, 3) := by decide +kernel
theorem dX8_digest_57 : decode cX8_digest 57 = .ok (.iconst 0, 1) := by decide +kernel
theorem dX8_digest_58 : decode cX8_digest 58 = .ok (.istore 4, 2) := by decide +kernel
theorem dX8_digest_60 : decode cX8_digest 60 = .ok (.iload 4, 2) := by decide +kernel
theorem dX8_digest_62 : decode cX8_digest 62 = .ok (.iconst 3, 1) := by decide +kernel
theorem dX8_digest_63 : decode cX8_digest 63 = .ok (.if_icmp .ge 24, 3) := by decide +kernel
theorem dX8_digest_66 : decode cX8_digest 66 = .ok (.lload_n 1, 1) := by decide +kernel
theorem dX8_digest_67 : decode cX8_digest 67 = .ok (.ldc2_w 186, 3) := by decide +kernel
theorem dX8_digest_70 : decode cX8_digest 70 = .ok (.lmul, 1) := by decide +kernel
theorem dX8_digest_71 : decode cX8_digest 71 = .ok (.aload_n 0, 1) := by decide +kernel
theorem dX8_digest_72 : decode cX8_digest 72 = .ok (.iload_n 3, 1) := by decide +kernel
theorem dX8_digest_73 : decode cX8_digest 73 = .ok (.iload 4, 2) := by decide +kernel
theorem dX8_digest_75 : decode cX8_digest 75 = .ok (.invokevirtual 104, 3) := by decide +kernel
theorem dX8_digest_78 : decode cX8_digest 78 = .ok (.i2l, 1) := by decide +kernel
theorem dX8_digest_79 : decode cX8_digest 79 = .ok (.ladd, 1) := by decide +kernel
theorem dX8_digest_80 : decode cX8_digest 80 = .ok (.lstore_n 1, 1) := by decide +kernel
theorem dX8_digest_81 : decode cX8_digest 81 = .ok (.iinc 4 1, 3) := by decide +kernel
theorem dX8_digest_84 : decode cX8_digest 84 = .ok (.goto (-24), 3) := by decide +kernel
theorem dX8_digest_87 : decode cX8_digest 87 = .ok (.iinc 3 1, 3) := by decide +kernel
theorem dX8_digest_90 : decode cX8_digest 90 = .ok (.goto (-41), 3) := by decide +kernel
theorem dX8_digest_93 : decode cX8_digest 93 = .ok (.iconst 0, 1) := by decide +kernel
theorem dX8_digest_94 : decode cX8_digest 94 = .ok (.istore_n 3, 1) := by decide +kernel
theorem dX8_digest_95 : decode cX8_digest 95 = .ok (.iload_n 3, 1) := by decide +kernel
theorem dX8_digest_96 : decode cX8_digest 96 = .ok (.aload_n 0, 1) := by decide +kernel
theorem dX8_digest_97 : decode cX8_digest 97 = .ok (.getfield 48, 3) := by decide +kernel
theorem dX8_digest_100 : decode cX8_digest 100 = .ok (.if_icmp .ge 74, 3) := by decide +kernel
theorem dX8_digest_103 : decode cX8_digest 103 = .ok (.lload_n 1, 1) := by decide +kernel
theorem dX8_digest_104 : decode cX8_digest 104 = .ok (.ldc2_w 186, 3) := by decide +kernel
theorem dX8_digest_107 : decode cX8_digest 107 = .ok (.lmul, 1) := by decide +kernel
theorem dX8_digest_108 : decode cX8_digest 108 = .ok (.aload_n 0, 1) := by decide +kernel
theorem dX8_digest_109 : decode cX8_digest 109 = .ok (.iload_n 3, 1) := by decide +kernel
theorem dX8_digest_110 : decode cX8_digest 110 = .ok (.invokevirtual 149, 3) := by decide +kernel
theorem dX8_digest_113 : decode cX8_digest 113 = .ok (.ifCond .eq 7, 3) := by decide +kernel
theorem dX8_digest_116 : decode cX8_digest 116 = .ok (.lconst 1, 1) := by decide +kernel
theorem dX8_digest_117 : decode cX8_digest 117 = .ok (.goto 4, 3) := by decide +kernel
theorem dX8_digest_120 : decode cX8_digest 120 = .ok (.lconst 0, 1) := by decide +kernel
theorem dX8_digest_121 : decode cX8_digest 121 = .ok (.ladd, 1) := by decide +kernel
theorem dX8_digest_122 : decode cX8_digest 122 = .ok (.lstore_n 1, 1) := by decide +kernel
theorem dX8_digest_123 : decode cX8_digest 123 = .ok (.iconst 0, 1) := by decide +kernel
theorem dX8_digest_124 : decode cX8_digest 124 = .ok (.istore 4, 2) := by decide +kernel
theorem dX8_digest_126 : decode cX8_digest 126 = .ok (.iload 4, 2) := by decide +kernel
theorem dX8_digest_128 : decode cX8_digest 128 = .ok (.aload_n 0, 1) := by decide +kernel
theorem dX8_digest_129 : decode cX8_digest 129 = .ok (.getfield 84, 3) := by decide +kernel
theorem dX8_digest_132 : decode cX8_digest 132 = .ok (.if_icmp .ge 36, 3) := by decide +kernel
theorem dX8_digest_135 : decode cX8_digest 135 = .ok (.lload_n 1, 1) := by decide +kernel
theorem dX8_digest_136 : decode cX8_digest 136 = .ok (.ldc2_w 186, 3) := by decide +kernel
theorem dX8_digest_139 : decode cX8_digest 139 = .ok (.lmul, 1) := by decide +kernel
theorem dX8_digest_140 : decode cX8_digest 140 = .ok (.aload_n 0, 1) := by decide +kernel
theorem dX8_digest_141 : decode cX8_digest 141 = .ok (.iload_n 3, 1) := by decide +kernel
theorem dX8_digest_142 : decode cX8_digest 142 = .ok (.iload 4, 2) := by decide +kernel
theorem dX8_digest_144 : decode cX8_digest 144 = .ok (.invokevirtual 146, 3) := by decide +kernel
theorem dX8_digest_147 : decode cX8_digest 147 = .ok (.i2l, 1) := by decide +kernel
theorem dX8_digest_148 : decode cX8_digest 148 = .ok (.ladd, 1) := by decide +kernel
theorem dX8_digest_149 : decode cX8_digest 149 = .ok (.ldc2_w 186, 3) := by decide +kernel
theorem dX8_digest_152 : decode cX8_digest 152 = .ok (.lmul, 1) := by decide +kernel
theorem dX8_digest_153 : decode cX8_digest 153 = .ok (.aload_n 0, 1) := by decide +kernel
theorem dX8_digest_154 : decode cX8_digest 154 = .ok (.iload_n 3, 1) := by decide +kernel
theorem dX8_digest_155 : decode cX8_digest 155 = .ok (.iload 4, 2) := by decide +kernel
theorem dX8_digest_157 : decode cX8_digest 157 = .ok (.invokevirtual 152, 3) := by decide +kernel
theorem dX8_digest_160 : decode cX8_digest 160 = .ok (.ladd, 1) := by decide +kernel
theorem dX8_digest_161 : decode cX8_digest 161 = .ok (.lstore_n 1, 1) := by decide +kernel
theorem dX8_digest_162 : decode cX8_digest 162 = .ok (.iinc 4 1, 3) := by decide +kernel
theorem dX8_digest_165 : decode cX8_digest 165 = .ok (.goto (-39), 3) := by decide +kernel
theorem dX8_digest_168 : decode cX8_digest 168 = .ok (.iinc 3 1, 3) := by decide +kernel
theorem dX8_digest_171 : decode cX8_digest 171 = .ok (.goto (-76), 3) := by decide +kernel
theorem dX8_digest_174 : decode cX8_digest 174 = .ok (.iconst 0, 1) := by decide +kernel
theorem dX8_digest_175 : decode cX8_digest 175 = .ok (.istore_n 3, 1) := by decide +kernel
theorem dX8_digest_176 : decode cX8_digest 176 = .ok (.iload_n 3, 1) := by decide +kernel
theorem dX8_digest_177 : decode cX8_digest 177 = .ok (.iconst 5, 1) := by decide +kernel
theorem dX8_digest_178 : decode cX8_digest 178 = .ok (.if_icmp .ge 22, 3) := by decide +kernel
theorem dX8_digest_181 : decode cX8_digest 181 = .ok (.lload_n 1, 1) := by decide +kernel
theorem dX8_digest_182 : decode cX8_digest 182 = .ok (.ldc2_w 186, 3) := by decide +kernel
theorem dX8_digest_185 : decode cX8_digest 185 = .ok (.lmul, 1) := by decide +kernel
theorem dX8_digest_186 : decode cX8_digest 186 = .ok (.aload_n 0, 1) := by decide +kernel
theorem dX8_digest_187 : decode cX8_digest 187 = .ok (.iload_n 3, 1) := by decide +kernel
theorem dX8_digest_188 : decode cX8_digest 188 = .ok (.invokevirtual 130, 3) := by decide +kernel
theorem dX8_digest_191 : decode cX8_digest 191 = .ok (.i2l, 1) := by decide +kernel
theorem dX8_digest_192 : decode cX8_digest 192 = .ok (.ladd, 1) := by decide +kernel
theorem dX8_digest_193 : decode cX8_digest 193 = .ok (.lstore_n 1, 1) := by decide +kernel
theorem dX8_digest_194 : decode cX8_digest 194 = .ok (.iinc 3 1, 3) := by decide +kernel
theorem dX8_digest_197 : decode cX8_digest 197 = .ok (.goto (-21), 3) := by decide +kernel
theorem dX8_digest_200 : decode cX8_digest 200 = .ok (.lload_n 1, 1) := by decide +kernel
theorem dX8_digest_201 : decode cX8_digest 201 = .ok (.lreturn, 1) := by decide +kernel
theorem dL_addWave_0 : decode cL_addWave 0 = .ok (.aload 4, 2) := by decide +kernel
theorem dL_addWave_2 : decode cL_addWave 2 = .ok (.iconst 0, 1) := by decide +kernel
theorem dL_addWave_3 : decode cL_addWave 3 = .ok (.aload_n 0, 1) := by decide +kernel
theorem dL_addWave_4 : decode cL_addWave 4 = .ok (.iload_n 1, 1) := by decide +kernel
theorem dL_addWave_5 : decode cL_addWave 5 = .ok (.iload_n 2, 1) := by decide +kernel
theorem dL_addWave_6 : decode cL_addWave 6 = .ok (.iload_n 3, 1) := by decide +kernel
theorem dL_addWave_7 : decode cL_addWave 7 = .ok (.invokevirtual 7, 3) := by decide +kernel
theorem dL_addWave_10 : decode cL_addWave 10 = .ok (.i2l, 1) := by decide +kernel
theorem dL_addWave_11 : decode cL_addWave 11 = .ok (.lastore, 1) := by decide +kernel
theorem dL_addWave_12 : decode cL_addWave 12 = .ok (.goto 11, 3) := by decide +kernel
theorem dL_addWave_15 : decode cL_addWave 15 = .ok (.astore 5, 2) := by decide +kernel
theorem dL_addWave_17 : decode cL_addWave 17 = .ok (.iconst 1, 1) := by decide +kernel
theorem dL_addWave_18 : decode cL_addWave 18 = .ok (.ireturn, 1) := by decide +kernel
theorem dL_addWave_19 : decode cL_addWave 19 = .ok (.astore 5, 2) := by decide +kernel
theorem dL_addWave_21 : decode cL_addWave 21 = .ok (.iconst 2, 1) := by decide +kernel
theorem dL_addWave_22 : decode cL_addWave 22 = .ok (.ireturn, 1) := by decide +kernel
theorem dL_addWave_23 : decode cL_addWave 23 = .ok (.iconst 0, 1) := by decide +kernel
theorem dL_addWave_24 : decode cL_addWave 24 = .ok (.ireturn, 1) := by decide +kernel
theorem dL_setRange_0 : decode cL_setRange 0 = .ok (.aload_n 3, 1) := by decide +kernel
theorem dL_setRange_1 : decode cL_setRange 1 = .ok (.iconst 0, 1) := by decide +kernel
theorem dL_setRange_2 : decode cL_setRange 2 = .ok (.aload_n 0, 1) := by decide +kernel
theorem dL_setRange_3 : decode cL_setRange 3 = .ok (.iload_n 1, 1) := by decide +kernel
theorem dL_setRange_4 : decode cL_setRange 4 = .ok (.iload_n 2, 1) := by decide +kernel
theorem dL_setRange_5 : decode cL_setRange 5 = .ok (.invokevirtual 17, 3) := by decide +kernel
theorem dL_setRange_8 : decode cL_setRange 8 = .ok (.i2l, 1) := by decide +kernel
theorem dL_setRange_9 : decode cL_setRange 9 = .ok (.lastore, 1) := by decide +kernel
theorem dL_setRange_10 : decode cL_setRange 10 = .ok (.goto 11, 3) := by decide +kernel
theorem dL_setRange_13 : decode cL_setRange 13 = .ok (.astore 4, 2) := by decide +kernel
theorem dL_setRange_15 : decode cL_setRange 15 = .ok (.iconst 1, 1) := by decide +kernel
theorem dL_setRange_16 : decode cL_setRange 16 = .ok (.ireturn, 1) := by decide +kernel
theorem dL_setRange_17 : decode cL_setRange 17 = .ok (.astore 4, 2) := by decide +kernel
theorem dL_setRange_19 : decode cL_setRange 19 = .ok (.iconst 2, 1) := by decide +kernel
theorem dL_setRange_20 : decode cL_setRange 20 = .ok (.ireturn, 1) := by decide +kernel
theorem dL_setRange_21 : decode cL_setRange 21 = .ok (.iconst 0, 1) := by decide +kernel
theorem dL_setRange_22 : decode cL_setRange 22 = .ok (.ireturn, 1) := by decide +kernel
theorem dL_setLevel_0 : decode cL_setLevel 0 = .ok (.aload_n 2, 1) := by decide +kernel
theorem dL_setLevel_1 : decode cL_setLevel 1 = .ok (.iconst 0, 1) := by decide +kernel
theorem dL_setLevel_2 : decode cL_setLevel 2 = .ok (.aload_n 0, 1) := by decide +kernel
theorem dL_setLevel_3 : decode cL_setLevel 3 = .ok (.iload_n 1, 1) := by decide +kernel
theorem dL_setLevel_4 : decode cL_setLevel 4 = .ok (.invokevirtual 23, 3) := by decide +kernel
theorem dL_setLevel_7 : decode cL_setLevel 7 = .ok (.i2l, 1) := by decide +kernel
theorem dL_setLevel_8 : decode cL_setLevel 8 = .ok (.lastore, 1) := by decide +kernel
theorem dL_setLevel_9 : decode cL_setLevel 9 = .ok (.goto 6, 3) := by decide +kernel
theorem dL_setLevel_12 : decode cL_setLevel 12 = .ok (.astore_n 3, 1) := by decide +kernel
theorem dL_setLevel_13 : decode cL_setLevel 13 = .ok (.iconst 1, 1) := by decide +kernel
theorem dL_setLevel_14 : decode cL_setLevel 14 = .ok (.ireturn, 1) := by decide +kernel
theorem dL_setLevel_15 : decode cL_setLevel 15 = .ok (.iconst 0, 1) := by decide +kernel
theorem dL_setLevel_16 : decode cL_setLevel 16 = .ok (.ireturn, 1) := by decide +kernel
theorem dL_height_0 : decode cL_height 0 = .ok (.aload_n 2, 1) := by decide +kernel
theorem dL_height_1 : decode cL_height 1 = .ok (.iconst 0, 1) := by decide +kernel
theorem dL_height_2 : decode cL_height 2 = .ok (.aload_n 0, 1) := by decide +kernel
theorem dL_height_3 : decode cL_height 3 = .ok (.iload_n 1, 1) := by decide +kernel
theorem dL_height_4 : decode cL_height 4 = .ok (.invokevirtual 27, 3) := by decide +kernel
theorem dL_height_7 : decode cL_height 7 = .ok (.i2l, 1) := by decide +kernel
theorem dL_height_8 : decode cL_height 8 = .ok (.lastore, 1) := by decide +kernel
theorem dL_height_9 : decode cL_height 9 = .ok (.goto 6, 3) := by decide +kernel
theorem dL_height_12 : decode cL_height 12 = .ok (.astore_n 3, 1) := by decide +kernel
theorem dL_height_13 : decode cL_height 13 = .ok (.iconst 1, 1) := by decide +kernel
theorem dL_height_14 : decode cL_height 14 = .ok (.ireturn, 1) := by decide +kernel
theorem dL_height_15 : decode cL_height 15 = .ok (.iconst 0, 1) := by decide +kernel
theorem dL_height_16 : decode cL_height 16 = .ok (.ireturn, 1) := by decide +kernel
theorem dL_waveHeight_0 : decode cL_waveHeight 0 = .ok (.aload_n 3, 1) := by decide +kernel
theorem dL_waveHeight_1 : decode cL_waveHeight 1 = .ok (.iconst 0, 1) := by decide +kernel
theorem dL_waveHeight_2 : decode cL_waveHeight 2 = .ok (.aload_n 0, 1) := by decide +kernel
theorem dL_waveHeight_3 : decode cL_waveHeight 3 = .ok (.iload_n 1, 1) := by decide +kernel
theorem dL_waveHeight_4 : decode cL_waveHeight 4 = .ok (.iload_n 2, 1) := by decide +kernel
theorem dL_waveHeight_5 : decode cL_waveHeight 5 = .ok (.invokevirtual 30, 3) := by decide +kernel
theorem dL_waveHeight_8 : decode cL_waveHeight 8 = .ok (.i2l, 1) := by decide +kernel
theorem dL_waveHeight_9 : decode cL_waveHeight 9 = .ok (.lastore, 1) := by decide +kernel
theorem dL_waveHeight_10 : decode cL_waveHeight 10 = .ok (.goto 11, 3) := by decide +kernel
theorem dL_waveHeight_13 : decode cL_waveHeight 13 = .ok (.astore 4, 2) := by decide +kernel
theorem dL_waveHeight_15 : decode cL_waveHeight 15 = .ok (.iconst 1, 1) := by decide +kernel
theorem dL_waveHeight_16 : decode cL_waveHeight 16 = .ok (.ireturn, 1) := by decide +kernel
theorem dL_waveHeight_17 : decode cL_waveHeight 17 = .ok (.astore 4, 2) := by decide +kernel
theorem dL_waveHeight_19 : decode cL_waveHeight 19 = .ok (.iconst 2, 1) := by decide +kernel
theorem dL_waveHeight_20 : decode cL_waveHeight 20 = .ok (.ireturn, 1) := by decide +kernel
theorem dL_waveHeight_21 : decode cL_waveHeight 21 = .ok (.iconst 0, 1) := by decide +kernel
theorem dL_waveHeight_22 : decode cL_waveHeight 22 = .ok (.ireturn, 1) := by decide +kernel
theorem dL_count_0 : decode cL_count 0 = .ok (.aload_n 2, 1) := by decide +kernel
theorem dL_count_1 : decode cL_count 1 = .ok (.iconst 0, 1) := by decide +kernel
theorem dL_count_2 : decode cL_count 2 = .ok (.aload_n 0, 1) := by decide +kernel
theorem dL_count_3 : decode cL_count 3 = .ok (.iload_n 1, 1) := by decide +kernel
theorem dL_count_4 : decode cL_count 4 = .ok (.invokevirtual 33, 3) := by decide +kernel
theorem dL_count_7 : decode cL_count 7 = .ok (.i2l, 1) := by decide +kernel
theorem dL_count_8 : decode cL_count 8 = .ok (.lastore, 1) := by decide +kernel
theorem dL_count_9 : decode cL_count 9 = .ok (.goto 6, 3) := by decide +kernel
theorem dL_count_12 : decode cL_count 12 = .ok (.astore_n 3, 1) := by decide +kernel
theorem dL_count_13 : decode cL_count 13 = .ok (.iconst 1, 1) := by decide +kernel
theorem dL_count_14 : decode cL_count 14 = .ok (.ireturn, 1) := by decide +kernel
theorem dL_count_15 : decode cL_count 15 = .ok (.iconst 0, 1) := by decide +kernel
theorem dL_count_16 : decode cL_count 16 = .ok (.ireturn, 1) := by decide +kernel
theorem dL_water_0 : decode cL_water 0 = .ok (.aload_n 3, 1) := by decide +kernel
theorem dL_water_1 : decode cL_water 1 = .ok (.iconst 0, 1) := by decide +kernel
theorem dL_water_2 : decode cL_water 2 = .ok (.aload_n 0, 1) := by decide +kernel
theorem dL_water_3 : decode cL_water 3 = .ok (.iload_n 1, 1) := by decide +kernel
theorem dL_water_4 : decode cL_water 4 = .ok (.iload_n 2, 1) := by decide +kernel
theorem dL_water_5 : decode cL_water 5 = .ok (.invokevirtual 36, 3) := by decide +kernel
theorem dL_water_8 : decode cL_water 8 = .ok (.i2l, 1) := by decide +kernel
theorem dL_water_9 : decode cL_water 9 = .ok (.lastore, 1) := by decide +kernel
theorem dL_water_10 : decode cL_water 10 = .ok (.goto 7, 3) := by decide +kernel
theorem dL_water_13 : decode cL_water 13 = .ok (.astore 4, 2) := by decide +kernel
theorem dL_water_15 : decode cL_water 15 = .ok (.iconst 1, 1) := by decide +kernel
theorem dL_water_16 : decode cL_water 16 = .ok (.ireturn, 1) := by decide +kernel
theorem dL_water_17 : decode cL_water 17 = .ok (.iconst 0, 1) := by decide +kernel
theorem dL_water_18 : decode cL_water 18 = .ok (.ireturn, 1) := by decide +kernel
theorem dL_next_0 : decode cL_next 0 = .ok (.aload_n 3, 1) := by decide +kernel
theorem dL_next_1 : decode cL_next 1 = .ok (.iconst 0, 1) := by decide +kernel
theorem dL_next_2 : decode cL_next 2 = .ok (.aload_n 0, 1) := by decide +kernel
theorem dL_next_3 : decode cL_next 3 = .ok (.iload_n 1, 1) := by decide +kernel
theorem dL_next_4 : decode cL_next 4 = .ok (.iload_n 2, 1) := by decide +kernel
theorem dL_next_5 : decode cL_next 5 = .ok (.invokevirtual 39, 3) := by decide +kernel
theorem dL_next_8 : decode cL_next 8 = .ok (.i2l, 1) := by decide +kernel
theorem dL_next_9 : decode cL_next 9 = .ok (.lastore, 1) := by decide +kernel
theorem dL_next_10 : decode cL_next 10 = .ok (.goto 7, 3) := by decide +kernel
theorem dL_next_13 : decode cL_next 13 = .ok (.astore 4, 2) := by decide +kernel
theorem dL_next_15 : decode cL_next 15 = .ok (.iconst 1, 1) := by decide +kernel
theorem dL_next_16 : decode cL_next 16 = .ok (.ireturn, 1) := by decide +kernel
theorem dL_next_17 : decode cL_next 17 = .ok (.iconst 0, 1) := by decide +kernel
theorem dL_next_18 : decode cL_next 18 = .ok (.ireturn, 1) := by decide +kernel
theorem dL_datum_0 : decode cL_datum 0 = .ok (.aload_n 2, 1) := by decide +kernel
theorem dL_datum_1 : decode cL_datum 1 = .ok (.iconst 0, 1) := by decide +kernel
theorem dL_datum_2 : decode cL_datum 2 = .ok (.aload_n 0, 1) := by decide +kernel
theorem dL_datum_3 : decode cL_datum 3 = .ok (.iload_n 1, 1) := by decide +kernel
theorem dL_datum_4 : decode cL_datum 4 = .ok (.invokevirtual 43, 3) := by decide +kernel
theorem dL_datum_7 : decode cL_datum 7 = .ok (.i2l, 1) := by decide +kernel
theorem dL_datum_8 : decode cL_datum 8 = .ok (.lastore, 1) := by decide +kernel
theorem dL_datum_9 : decode cL_datum 9 = .ok (.goto 6, 3) := by decide +kernel
theorem dL_datum_12 : decode cL_datum 12 = .ok (.astore_n 3, 1) := by decide +kernel
theorem dL_datum_13 : decode cL_datum 13 = .ok (.iconst 1, 1) := by decide +kernel
theorem dL_datum_14 : decode cL_datum 14 = .ok (.ireturn, 1) := by decide +kernel
theorem dL_datum_15 : decode cL_datum 15 = .ok (.iconst 0, 1) := by decide +kernel
theorem dL_datum_16 : decode cL_datum 16 = .ok (.ireturn, 1) := by decide +kernel
theorem dL_addPort_0 : decode cL_addPort 0 = .ok (.aload_n 1, 1) := by decide +kernel
theorem dL_addPort_1 : decode cL_addPort 1 = .ok (.iconst 0, 1) := by decide +kernel
theorem dL_addPort_2 : decode cL_addPort 2 = .ok (.aload_n 0, 1) := by decide +kernel
theorem dL_addPort_3 : decode cL_addPort 3 = .ok (.invokevirtual 46, 3) := by decide +kernel
theorem dL_addPort_6 : decode cL_addPort 6 = .ok (.i2l, 1) := by decide +kernel
theorem dL_addPort_7 : decode cL_addPort 7 = .ok (.lastore, 1) := by decide +kernel
theorem dL_addPort_8 : decode cL_addPort 8 = .ok (.goto 6, 3) := by decide +kernel
theorem dL_addPort_11 : decode cL_addPort 11 = .ok (.astore_n 2, 1) := by decide +kernel
theorem dL_addPort_12 : decode cL_addPort 12 = .ok (.iconst 1, 1) := by decide +kernel
theorem dL_addPort_13 : decode cL_addPort 13 = .ok (.ireturn, 1) := by decide +kernel
theorem dL_addPort_14 : decode cL_addPort 14 = .ok (.iconst 0, 1) := by decide +kernel
theorem dL_addPort_15 : decode cL_addPort 15 = .ok (.ireturn, 1) := by decide +kernel
theorem dL_setPort_0 : decode cL_setPort 0 = .ok (.aload 5, 2) := by decide +kernel
theorem dL_setPort_2 : decode cL_setPort 2 = .ok (.iconst 0, 1) := by decide +kernel
theorem dL_setPort_3 : decode cL_setPort 3 = .ok (.aload_n 0, 1) := by decide +kernel
theorem dL_setPort_4 : decode cL_setPort 4 = .ok (.iload_n 1, 1) := by decide +kernel
theorem dL_setPort_5 : decode cL_setPort 5 = .ok (.iload_n 2, 1) := by decide +kernel
theorem dL_setPort_6 : decode cL_setPort 6 = .ok (.iload_n 3, 1) := by decide +kernel
theorem dL_setPort_7 : decode cL_setPort 7 = .ok (.iload 4, 2) := by decide +kernel
theorem dL_setPort_9 : decode cL_setPort 9 = .ok (.invokevirtual 50, 3) := by decide +kernel
theorem dL_setPort_12 : decode cL_setPort 12 = .ok (.i2l, 1) := by decide +kernel
theorem dL_setPort_13 : decode cL_setPort 13 = .ok (.lastore, 1) := by decide +kernel
theorem dL_setPort_14 : decode cL_setPort 14 = .ok (.goto 11, 3) := by decide +kernel
theorem dL_setPort_17 : decode cL_setPort 17 = .ok (.astore 6, 2) := by decide +kernel
theorem dL_setPort_19 : decode cL_setPort 19 = .ok (.iconst 1, 1) := by decide +kernel
theorem dL_setPort_20 : decode cL_setPort 20 = .ok (.ireturn, 1) := by decide +kernel
theorem dL_setPort_21 : decode cL_setPort 21 = .ok (.astore 6, 2) := by decide +kernel
theorem dL_setPort_23 : decode cL_setPort 23 = .ok (.iconst 2, 1) := by decide +kernel
theorem dL_setPort_24 : decode cL_setPort 24 = .ok (.ireturn, 1) := by decide +kernel
theorem dL_setPort_25 : decode cL_setPort 25 = .ok (.iconst 0, 1) := by decide +kernel
theorem dL_setPort_26 : decode cL_setPort 26 = .ok (.ireturn, 1) := by decide +kernel
theorem dL_setAddition_0 : decode cL_setAddition 0 = .ok (.aload_n 3, 1) := by decide +kernel
theorem dL_setAddition_1 : decode cL_setAddition 1 = .ok (.iconst 0, 1) := by decide +kernel
theorem dL_setAddition_2 : decode cL_setAddition 2 = .ok (.aload_n 0, 1) := by decide +kernel
theorem dL_setAddition_3 : decode cL_setAddition 3 = .ok (.iload_n 1, 1) := by decide +kernel
theorem dL_setAddition_4 : decode cL_setAddition 4 = .ok (.iload_n 2, 1) := by decide +kernel
theorem dL_setAddition_5 : decode cL_setAddition 5 = .ok (.invokevirtual 54, 3) := by decide +kernel
theorem dL_setAddition_8 : decode cL_setAddition 8 = .ok (.i2l, 1) := by decide +kernel
theorem dL_setAddition_9 : decode cL_setAddition 9 = .ok (.lastore, 1) := by decide +kernel
theorem dL_setAddition_10 : decode cL_setAddition 10 = .ok (.goto 11, 3) := by decide +kernel
theorem dL_setAddition_13 : decode cL_setAddition 13 = .ok (.astore 4, 2) := by decide +kernel
theorem dL_setAddition_15 : decode cL_setAddition 15 = .ok (.iconst 1, 1) := by decide +kernel
theorem dL_setAddition_16 : decode cL_setAddition 16 = .ok (.ireturn, 1) := by decide +kernel
theorem dL_setAddition_17 : decode cL_setAddition 17 = .ok (.astore 4, 2) := by decide +kernel
theorem dL_setAddition_19 : decode cL_setAddition 19 = .ok (.iconst 2, 1) := by decide +kernel
theorem dL_setAddition_20 : decode cL_setAddition 20 = .ok (.ireturn, 1) := by decide +kernel
theorem dL_setAddition_21 : decode cL_setAddition 21 = .ok (.iconst 0, 1) := by decide +kernel
theorem dL_setAddition_22 : decode cL_setAddition 22 = .ok (.ireturn, 1) := by decide +kernel
theorem dL_isInOrder_0 : decode cL_isInOrder 0 = .ok (.aload_n 2, 1) := by decide +kernel
theorem dL_isInOrder_1 : decode cL_isInOrder 1 = .ok (.iconst 0, 1) := by decide +kernel
theorem dL_isInOrder_2 : decode cL_isInOrder 2 = .ok (.aload_n 0, 1) := by decide +kernel
theorem dL_isInOrder_3 : decode cL_isInOrder 3 = .ok (.iload_n 1, 1) := by decide +kernel
theorem dL_isInOrder_4 : decode cL_isInOrder 4 = .ok (.invokevirtual 57, 3) := by decide +kernel
theorem dL_isInOrder_7 : decode cL_isInOrder 7 = .ok (.ifCond .eq 7, 3) := by decide +kernel
theorem dL_isInOrder_10 : decode cL_isInOrder 10 = .ok (.lconst 1, 1) := by decide +kernel
theorem dL_isInOrder_11 : decode cL_isInOrder 11 = .ok (.goto 4, 3) := by decide +kernel
theorem dL_isInOrder_14 : decode cL_isInOrder 14 = .ok (.lconst 0, 1) := by decide +kernel
theorem dL_isInOrder_15 : decode cL_isInOrder 15 = .ok (.lastore, 1) := by decide +kernel
theorem dL_isInOrder_16 : decode cL_isInOrder 16 = .ok (.goto 6, 3) := by decide +kernel
theorem dL_isInOrder_19 : decode cL_isInOrder 19 = .ok (.astore_n 3, 1) := by decide +kernel
theorem dL_isInOrder_20 : decode cL_isInOrder 20 = .ok (.iconst 1, 1) := by decide +kernel
theorem dL_isInOrder_21 : decode cL_isInOrder 21 = .ok (.ireturn, 1) := by decide +kernel
theorem dL_isInOrder_22 : decode cL_isInOrder 22 = .ok (.iconst 0, 1) := by decide +kernel
theorem dL_isInOrder_23 : decode cL_isInOrder 23 = .ok (.ireturn, 1) := by decide +kernel
theorem dL_portWater_0 : decode cL_portWater 0 = .ok (.aload 4, 2) := by decide +kernel
theorem dL_portWater_2 : decode cL_portWater 2 = .ok (.iconst 0, 1) := by decide +kernel
theorem dL_portWater_3 : decode cL_portWater 3 = .ok (.aload_n 0, 1) := by decide +kernel
theorem dL_portWater_4 : decode cL_portWater 4 = .ok (.iload_n 1, 1) := by decide +kernel
theorem dL_portWater_5 : decode cL_portWater 5 = .ok (.iload_n 2, 1) := by decide +kernel
theorem dL_portWater_6 : decode cL_portWater 6 = .ok (.iload_n 3, 1) := by decide +kernel
