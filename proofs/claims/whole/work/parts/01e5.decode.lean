theorem dX5_start_213 : decode cX5_start 213 = .ok (.iload 4, 2) := by decide +kernel
theorem dX5_start_215 : decode cX5_start 215 = .ok (.iconst 0, 1) := by decide +kernel
theorem dX5_start_216 : decode cX5_start 216 = .ok (.invokevirtual 139, 3) := by decide +kernel
theorem dX5_start_219 : decode cX5_start 219 = .ok (.iconst 1, 1) := by decide +kernel
theorem dX5_start_220 : decode cX5_start 220 = .ok (.if_icmp .ne 9, 3) := by decide +kernel
theorem dX5_start_223 : decode cX5_start 223 = .ok (.aload_n 0, 1) := by decide +kernel
theorem dX5_start_224 : decode cX5_start 224 = .ok (.iload 4, 2) := by decide +kernel
theorem dX5_start_226 : decode cX5_start 226 = .ok (.invokevirtual 160, 3) := by decide +kernel
theorem dX5_start_229 : decode cX5_start 229 = .ok (.iinc 3 1, 3) := by decide +kernel
theorem dX5_start_232 : decode cX5_start 232 = .ok (.iload_n 1, 1) := by decide +kernel
theorem dX5_start_233 : decode cX5_start 233 = .ok (.iload_n 3, 1) := by decide +kernel
theorem dX5_start_234 : decode cX5_start 234 = .ok (.iadd, 1) := by decide +kernel
theorem dX5_start_235 : decode cX5_start 235 = .ok (.aload_n 0, 1) := by decide +kernel
theorem dX5_start_236 : decode cX5_start 236 = .ok (.getfield 45, 3) := by decide +kernel
theorem dX5_start_239 : decode cX5_start 239 = .ok (.irem, 1) := by decide +kernel
theorem dX5_start_240 : decode cX5_start 240 = .ok (.istore 4, 2) := by decide +kernel
theorem dX5_start_242 : decode cX5_start 242 = .ok (.goto (-63), 3) := by decide +kernel
theorem dX5_start_245 : decode cX5_start 245 = .ok (.aload_n 0, 1) := by decide +kernel
theorem dX5_start_246 : decode cX5_start 246 = .ok (.aload_n 0, 1) := by decide +kernel
theorem dX5_start_247 : decode cX5_start 247 = .ok (.iload_n 1, 1) := by decide +kernel
theorem dX5_start_248 : decode cX5_start 248 = .ok (.invokevirtual 152, 3) := by decide +kernel
theorem dX5_start_251 : decode cX5_start 251 = .ok (.putfield 77, 3) := by decide +kernel
theorem dX5_start_254 : decode cX5_start 254 = .ok (.aload_n 0, 1) := by decide +kernel
theorem dX5_start_255 : decode cX5_start 255 = .ok (.aload_n 0, 1) := by decide +kernel
theorem dX5_start_256 : decode cX5_start 256 = .ok (.getfield 77, 3) := by decide +kernel
theorem dX5_start_259 : decode cX5_start 259 = .ok (.putfield 74, 3) := by decide +kernel
theorem dX5_start_262 : decode cX5_start 262 = .ok (.aload_n 0, 1) := by decide +kernel
theorem dX5_start_263 : decode cX5_start 263 = .ok (.aload_n 0, 1) := by decide +kernel
theorem dX5_start_264 : decode cX5_start 264 = .ok (.getfield 77, 3) := by decide +kernel
theorem dX5_start_267 : decode cX5_start 267 = .ok (.iload_n 3, 1) := by decide +kernel
theorem dX5_start_268 : decode cX5_start 268 = .ok (.iadd, 1) := by decide +kernel
theorem dX5_start_269 : decode cX5_start 269 = .ok (.iconst 1, 1) := by decide +kernel
theorem dX5_start_270 : decode cX5_start 270 = .ok (.isub, 1) := by decide +kernel
theorem dX5_start_271 : decode cX5_start 271 = .ok (.putfield 71, 3) := by decide +kernel
theorem dX5_start_274 : decode cX5_start 274 = .ok (.aload_n 0, 1) := by decide +kernel
theorem dX5_start_275 : decode cX5_start 275 = .ok (.iload_n 1, 1) := by decide +kernel
theorem dX5_start_276 : decode cX5_start 276 = .ok (.iload_n 3, 1) := by decide +kernel
theorem dX5_start_277 : decode cX5_start 277 = .ok (.iadd, 1) := by decide +kernel
theorem dX5_start_278 : decode cX5_start 278 = .ok (.iconst 1, 1) := by decide +kernel
theorem dX5_start_279 : decode cX5_start 279 = .ok (.isub, 1) := by decide +kernel
theorem dX5_start_280 : decode cX5_start 280 = .ok (.aload_n 0, 1) := by decide +kernel
theorem dX5_start_281 : decode cX5_start 281 = .ok (.getfield 45, 3) := by decide +kernel
theorem dX5_start_284 : decode cX5_start 284 = .ok (.irem, 1) := by decide +kernel
theorem dX5_start_285 : decode cX5_start 285 = .ok (.putfield 68, 3) := by decide +kernel
theorem dX5_start_288 : decode cX5_start 288 = .ok (.aload_n 0, 1) := by decide +kernel
theorem dX5_start_289 : decode cX5_start 289 = .ok (.iconst 0, 1) := by decide +kernel
theorem dX5_start_290 : decode cX5_start 290 = .ok (.putfield 64, 3) := by decide +kernel
theorem dX5_start_293 : decode cX5_start 293 = .ok (.iconst 0, 1) := by decide +kernel
theorem dX5_start_294 : decode cX5_start 294 = .ok (.istore 5, 2) := by decide +kernel
theorem dX5_start_296 : decode cX5_start 296 = .ok (.iconst 0, 1) := by decide +kernel
theorem dX5_start_297 : decode cX5_start 297 = .ok (.istore 6, 2) := by decide +kernel
theorem dX5_start_299 : decode cX5_start 299 = .ok (.iload 6, 2) := by decide +kernel
theorem dX5_start_301 : decode cX5_start 301 = .ok (.iconst 3, 1) := by decide +kernel
theorem dX5_start_302 : decode cX5_start 302 = .ok (.if_icmp .ge 42, 3) := by decide +kernel
theorem dX5_start_305 : decode cX5_start 305 = .ok (.aload_n 0, 1) := by decide +kernel
theorem dX5_start_306 : decode cX5_start 306 = .ok (.getfield 32, 3) := by decide +kernel
theorem dX5_start_309 : decode cX5_start 309 = .ok (.iload 6, 2) := by decide +kernel
theorem dX5_start_311 : decode cX5_start 311 = .ok (.baload, 1) := by decide +kernel
theorem dX5_start_312 : decode cX5_start 312 = .ok (.ifCond .eq 26, 3) := by decide +kernel
theorem dX5_start_315 : decode cX5_start 315 = .ok (.aload_n 0, 1) := by decide +kernel
theorem dX5_start_316 : decode cX5_start 316 = .ok (.iload 6, 2) := by decide +kernel
theorem dX5_start_318 : decode cX5_start 318 = .ok (.iconst 0, 1) := by decide +kernel
theorem dX5_start_319 : decode cX5_start 319 = .ok (.invokevirtual 129, 3) := by decide +kernel
theorem dX5_start_322 : decode cX5_start 322 = .ok (.pop, 1) := by decide +kernel
theorem dX5_start_323 : decode cX5_start 323 = .ok (.aload_n 0, 1) := by decide +kernel
theorem dX5_start_324 : decode cX5_start 324 = .ok (.iconst 4, 1) := by decide +kernel
theorem dX5_start_325 : decode cX5_start 325 = .ok (.iload 6, 2) := by decide +kernel
theorem dX5_start_327 : decode cX5_start 327 = .ok (.imul, 1) := by decide +kernel
theorem dX5_start_328 : decode cX5_start 328 = .ok (.iconst 3, 1) := by decide +kernel
theorem dX5_start_329 : decode cX5_start 329 = .ok (.iadd, 1) := by decide +kernel
theorem dX5_start_330 : decode cX5_start 330 = .ok (.iconst 0, 1) := by decide +kernel
theorem dX5_start_331 : decode cX5_start 331 = .ok (.iconst 0, 1) := by decide +kernel
theorem dX5_start_332 : decode cX5_start 332 = .ok (.invokevirtual 126, 3) := by decide +kernel
theorem dX5_start_335 : decode cX5_start 335 = .ok (.iinc 5 1, 3) := by decide +kernel
theorem dX5_start_338 : decode cX5_start 338 = .ok (.iinc 6 1, 3) := by decide +kernel
theorem dX5_start_341 : decode cX5_start 341 = .ok (.goto (-42), 3) := by decide +kernel
theorem dX5_start_344 : decode cX5_start 344 = .ok (.iload 5, 2) := by decide +kernel
theorem dX5_start_346 : decode cX5_start 346 = .ok (.ireturn, 1) := by decide +kernel
theorem dX5_at_0 : decode cX5_at 0 = .ok (.iload_n 1, 1) := by decide +kernel
theorem dX5_at_1 : decode cX5_at 1 = .ok (.iconst 0, 1) := by decide +kernel
theorem dX5_at_2 : decode cX5_at 2 = .ok (.aload_n 0, 1) := by decide +kernel
theorem dX5_at_3 : decode cX5_at 3 = .ok (.getfield 45, 3) := by decide +kernel
theorem dX5_at_6 : decode cX5_at 6 = .ok (.iconst 1, 1) := by decide +kernel
theorem dX5_at_7 : decode cX5_at 7 = .ok (.isub, 1) := by decide +kernel
theorem dX5_at_8 : decode cX5_at 8 = .ok (.invokestatic 111, 3) := by decide +kernel
theorem dX5_at_11 : decode cX5_at 11 = .ok (.ifCond .eq 22, 3) := by decide +kernel
theorem dX5_at_14 : decode cX5_at 14 = .ok (.iload_n 2, 1) := by decide +kernel
theorem dX5_at_15 : decode cX5_at 15 = .ok (.iconst 0, 1) := by decide +kernel
theorem dX5_at_16 : decode cX5_at 16 = .ok (.bipush 31, 2) := by decide +kernel
theorem dX5_at_18 : decode cX5_at 18 = .ok (.invokestatic 111, 3) := by decide +kernel
theorem dX5_at_21 : decode cX5_at 21 = .ok (.ifCond .eq 12, 3) := by decide +kernel
theorem dX5_at_24 : decode cX5_at 24 = .ok (.aload_n 0, 1) := by decide +kernel
theorem dX5_at_25 : decode cX5_at 25 = .ok (.iload_n 1, 1) := by decide +kernel
theorem dX5_at_26 : decode cX5_at 26 = .ok (.iload_n 2, 1) := by decide +kernel
theorem dX5_at_27 : decode cX5_at 27 = .ok (.invokevirtual 139, 3) := by decide +kernel
theorem dX5_at_30 : decode cX5_at 30 = .ok (.goto 4, 3) := by decide +kernel
theorem dX5_at_33 : decode cX5_at 33 = .ok (.iconst (-1), 1) := by decide +kernel
theorem dX5_at_34 : decode cX5_at 34 = .ok (.ireturn, 1) := by decide +kernel
theorem dX5_sound_0 : decode cX5_sound 0 = .ok (.iload_n 1, 1) := by decide +kernel
theorem dX5_sound_1 : decode cX5_sound 1 = .ok (.iconst 0, 1) := by decide +kernel
theorem dX5_sound_2 : decode cX5_sound 2 = .ok (.aload_n 0, 1) := by decide +kernel
theorem dX5_sound_3 : decode cX5_sound 3 = .ok (.getfield 45, 3) := by decide +kernel
theorem dX5_sound_6 : decode cX5_sound 6 = .ok (.iconst 1, 1) := by decide +kernel
theorem dX5_sound_7 : decode cX5_sound 7 = .ok (.isub, 1) := by decide +kernel
theorem dX5_sound_8 : decode cX5_sound 8 = .ok (.invokestatic 111, 3) := by decide +kernel
theorem dX5_sound_11 : decode cX5_sound 11 = .ok (.ifCond .eq 15, 3) := by decide +kernel
theorem dX5_sound_14 : decode cX5_sound 14 = .ok (.aload_n 0, 1) := by decide +kernel
theorem dX5_sound_15 : decode cX5_sound 15 = .ok (.iload_n 1, 1) := by decide +kernel
theorem dX5_sound_16 : decode cX5_sound 16 = .ok (.invokevirtual 146, 3) := by decide +kernel
theorem dX5_sound_19 : decode cX5_sound 19 = .ok (.ifCond .eq 7, 3) := by decide +kernel
theorem dX5_sound_22 : decode cX5_sound 22 = .ok (.iconst 1, 1) := by decide +kernel
theorem dX5_sound_23 : decode cX5_sound 23 = .ok (.goto 4, 3) := by decide +kernel
theorem dX5_sound_26 : decode cX5_sound 26 = .ok (.iconst 0, 1) := by decide +kernel
theorem dX5_sound_27 : decode cX5_sound 27 = .ok (.ireturn, 1) := by decide +kernel
theorem dX5_poke_0 : decode cX5_poke 0 = .ok (.iload_n 1, 1) := by decide +kernel
theorem dX5_poke_1 : decode cX5_poke 1 = .ok (.iconst 0, 1) := by decide +kernel
theorem dX5_poke_2 : decode cX5_poke 2 = .ok (.aload_n 0, 1) := by decide +kernel
theorem dX5_poke_3 : decode cX5_poke 3 = .ok (.getfield 45, 3) := by decide +kernel
theorem dX5_poke_6 : decode cX5_poke 6 = .ok (.iconst 1, 1) := by decide +kernel
theorem dX5_poke_7 : decode cX5_poke 7 = .ok (.isub, 1) := by decide +kernel
theorem dX5_poke_8 : decode cX5_poke 8 = .ok (.invokestatic 111, 3) := by decide +kernel
theorem dX5_poke_11 : decode cX5_poke 11 = .ok (.ifCond .eq 24, 3) := by decide +kernel
theorem dX5_poke_14 : decode cX5_poke 14 = .ok (.iload_n 2, 1) := by decide +kernel
theorem dX5_poke_15 : decode cX5_poke 15 = .ok (.iconst 0, 1) := by decide +kernel
theorem dX5_poke_16 : decode cX5_poke 16 = .ok (.bipush 31, 2) := by decide +kernel
theorem dX5_poke_18 : decode cX5_poke 18 = .ok (.invokestatic 111, 3) := by decide +kernel
theorem dX5_poke_21 : decode cX5_poke 21 = .ok (.ifCond .eq 14, 3) := by decide +kernel
theorem dX5_poke_24 : decode cX5_poke 24 = .ok (.iload_n 3, 1) := by decide +kernel
theorem dX5_poke_25 : decode cX5_poke 25 = .ok (.iconst 1, 1) := by decide +kernel
theorem dX5_poke_26 : decode cX5_poke 26 = .ok (.sipush 255, 3) := by decide +kernel
theorem dX5_poke_29 : decode cX5_poke 29 = .ok (.invokestatic 111, 3) := by decide +kernel
theorem dX5_poke_32 : decode cX5_poke 32 = .ok (.ifCond .ne 5, 3) := by decide +kernel
theorem dX5_poke_35 : decode cX5_poke 35 = .ok (.iconst 0, 1) := by decide +kernel
theorem dX5_poke_36 : decode cX5_poke 36 = .ok (.ireturn, 1) := by decide +kernel
theorem dX5_poke_37 : decode cX5_poke 37 = .ok (.aload_n 0, 1) := by decide +kernel
theorem dX5_poke_38 : decode cX5_poke 38 = .ok (.getfield 7, 3) := by decide +kernel
theorem dX5_poke_41 : decode cX5_poke 41 = .ok (.bipush 32, 2) := by decide +kernel
theorem dX5_poke_43 : decode cX5_poke 43 = .ok (.iload_n 1, 1) := by decide +kernel
theorem dX5_poke_44 : decode cX5_poke 44 = .ok (.imul, 1) := by decide +kernel
theorem dX5_poke_45 : decode cX5_poke 45 = .ok (.iload_n 2, 1) := by decide +kernel
theorem dX5_poke_46 : decode cX5_poke 46 = .ok (.iadd, 1) := by decide +kernel
theorem dX5_poke_47 : decode cX5_poke 47 = .ok (.dup2, 1) := by decide +kernel
theorem dX5_poke_48 : decode cX5_poke 48 = .ok (.baload, 1) := by decide +kernel
theorem dX5_poke_49 : decode cX5_poke 49 = .ok (.iload_n 3, 1) := by decide +kernel
theorem dX5_poke_50 : decode cX5_poke 50 = .ok (.i2b, 1) := by decide +kernel
theorem dX5_poke_51 : decode cX5_poke 51 = .ok (.ixor, 1) := by decide +kernel
theorem dX5_poke_52 : decode cX5_poke 52 = .ok (.i2b, 1) := by decide +kernel
theorem dX5_poke_53 : decode cX5_poke 53 = .ok (.bastore, 1) := by decide +kernel
theorem dX5_poke_54 : decode cX5_poke 54 = .ok (.iconst 1, 1) := by decide +kernel
theorem dX5_poke_55 : decode cX5_poke 55 = .ok (.ireturn, 1) := by decide +kernel
theorem dX5_count_0 : decode cX5_count 0 = .ok (.aload_n 0, 1) := by decide +kernel
theorem dX5_count_1 : decode cX5_count 1 = .ok (.getfield 64, 3) := by decide +kernel
theorem dX5_count_4 : decode cX5_count 4 = .ok (.ifCond .eq 6, 3) := by decide +kernel
theorem dX5_count_7 : decode cX5_count 7 = .ok (.bipush (-3), 2) := by decide +kernel
theorem dX5_count_9 : decode cX5_count 9 = .ok (.ireturn, 1) := by decide +kernel
theorem dX5_count_10 : decode cX5_count 10 = .ok (.iload_n 1, 1) := by decide +kernel
theorem dX5_count_11 : decode cX5_count 11 = .ok (.tableswitch 116 0 6 #[41, 46, 51, 56, 61, 66, 111], 41) := by decide +kernel
theorem dX5_count_52 : decode cX5_count 52 = .ok (.aload_n 0, 1) := by decide +kernel
theorem dX5_count_53 : decode cX5_count 53 = .ok (.getfield 71, 3) := by decide +kernel
theorem dX5_count_56 : decode cX5_count 56 = .ok (.ireturn, 1) := by decide +kernel
theorem dX5_count_57 : decode cX5_count 57 = .ok (.aload_n 0, 1) := by decide +kernel
theorem dX5_count_58 : decode cX5_count 58 = .ok (.getfield 68, 3) := by decide +kernel
theorem dX5_count_61 : decode cX5_count 61 = .ok (.ireturn, 1) := by decide +kernel
theorem dX5_count_62 : decode cX5_count 62 = .ok (.aload_n 0, 1) := by decide +kernel
theorem dX5_count_63 : decode cX5_count 63 = .ok (.getfield 52, 3) := by decide +kernel
theorem dX5_count_66 : decode cX5_count 66 = .ok (.ireturn, 1) := by decide +kernel
theorem dX5_count_67 : decode cX5_count 67 = .ok (.aload_n 0, 1) := by decide +kernel
theorem dX5_count_68 : decode cX5_count 68 = .ok (.getfield 55, 3) := by decide +kernel
theorem dX5_count_71 : decode cX5_count 71 = .ok (.ireturn, 1) := by decide +kernel
theorem dX5_count_72 : decode cX5_count 72 = .ok (.aload_n 0, 1) := by decide +kernel
theorem dX5_count_73 : decode cX5_count 73 = .ok (.invokevirtual 97, 3) := by decide +kernel
theorem dX5_count_76 : decode cX5_count 76 = .ok (.ireturn, 1) := by decide +kernel
theorem dX5_count_77 : decode cX5_count 77 = .ok (.aload_n 0, 1) := by decide +kernel
theorem dX5_count_78 : decode cX5_count 78 = .ok (.getfield 32, 3) := by decide +kernel
theorem dX5_count_81 : decode cX5_count 81 = .ok (.iconst 0, 1) := by decide +kernel
theorem dX5_count_82 : decode cX5_count 82 = .ok (.baload, 1) := by decide +kernel
theorem dX5_count_83 : decode cX5_count 83 = .ok (.ifCond .eq 7, 3) := by decide +kernel
theorem dX5_count_86 : decode cX5_count 86 = .ok (.iconst 1, 1) := by decide +kernel
theorem dX5_count_87 : decode cX5_count 87 = .ok (.goto 4, 3) := by decide +kernel
theorem dX5_count_90 : decode cX5_count 90 = .ok (.iconst 0, 1) := by decide +kernel
theorem dX5_count_91 : decode cX5_count 91 = .ok (.aload_n 0, 1) := by decide +kernel
theorem dX5_count_92 : decode cX5_count 92 = .ok (.getfield 32, 3) := by decide +kernel
theorem dX5_count_95 : decode cX5_count 95 = .ok (.iconst 1, 1) := by decide +kernel
theorem dX5_count_96 : decode cX5_count 96 = .ok (.baload, 1) := by decide +kernel
theorem dX5_count_97 : decode cX5_count 97 = .ok (.ifCond .eq 7, 3) := by decide +kernel
theorem dX5_count_100 : decode cX5_count 100 = .ok (.iconst 2, 1) := by decide +kernel
theorem dX5_count_101 : decode cX5_count 101 = .ok (.goto 4, 3) := by decide +kernel
theorem dX5_count_104 : decode cX5_count 104 = .ok (.iconst 0, 1) := by decide +kernel
theorem dX5_count_105 : decode cX5_count 105 = .ok (.iadd, 1) := by decide +kernel
theorem dX5_count_106 : decode cX5_count 106 = .ok (.aload_n 0, 1) := by decide +kernel
theorem dX5_count_107 : decode cX5_count 107 = .ok (.getfield 32, 3) := by decide +kernel
theorem dX5_count_110 : decode cX5_count 110 = .ok (.iconst 2, 1) := by decide +kernel
theorem dX5_count_111 : decode cX5_count 111 = .ok (.baload, 1) := by decide +kernel
theorem dX5_count_112 : decode cX5_count 112 = .ok (.ifCond .eq 7, 3) := by decide +kernel
theorem dX5_count_115 : decode cX5_count 115 = .ok (.iconst 4, 1) := by decide +kernel
theorem dX5_count_116 : decode cX5_count 116 = .ok (.goto 4, 3) := by decide +kernel
theorem dX5_count_119 : decode cX5_count 119 = .ok (.iconst 0, 1) := by decide +kernel
theorem dX5_count_120 : decode cX5_count 120 = .ok (.iadd, 1) := by decide +kernel
theorem dX5_count_121 : decode cX5_count 121 = .ok (.ireturn, 1) := by decide +kernel
theorem dX5_count_122 : decode cX5_count 122 = .ok (.aload_n 0, 1) := by decide +kernel
theorem dX5_count_123 : decode cX5_count 123 = .ok (.getfield 58, 3) := by decide +kernel
theorem dX5_count_126 : decode cX5_count 126 = .ok (.ireturn, 1) := by decide +kernel
theorem dX5_count_127 : decode cX5_count 127 = .ok (.iconst (-1), 1) := by decide +kernel
theorem dX5_count_128 : decode cX5_count 128 = .ok (.ireturn, 1) := by decide +kernel
theorem dX5_holder_0 : decode cX5_holder 0 = .ok (.aload_n 0, 1) := by decide +kernel
theorem dX5_holder_1 : decode cX5_holder 1 = .ok (.getfield 64, 3) := by decide +kernel
theorem dX5_holder_4 : decode cX5_holder 4 = .ok (.ifCond .eq 8, 3) := by decide +kernel
theorem dX5_holder_7 : decode cX5_holder 7 = .ok (.bipush (-3), 2) := by decide +kernel
theorem dX5_holder_9 : decode cX5_holder 9 = .ok (.goto 20, 3) := by decide +kernel
theorem dX5_holder_12 : decode cX5_holder 12 = .ok (.iload_n 1, 1) := by decide +kernel
theorem dX5_holder_13 : decode cX5_holder 13 = .ok (.invokestatic 118, 3) := by decide +kernel
theorem dX5_holder_16 : decode cX5_holder 16 = .ok (.ifCond .eq 12, 3) := by decide +kernel
theorem dX5_holder_19 : decode cX5_holder 19 = .ok (.aload_n 0, 1) := by decide +kernel
theorem dX5_holder_20 : decode cX5_holder 20 = .ok (.getfield 36, 3) := by decide +kernel
theorem dX5_holder_23 : decode cX5_holder 23 = .ok (.iload_n 1, 1) := by decide +kernel
theorem dX5_holder_24 : decode cX5_holder 24 = .ok (.iaload, 1) := by decide +kernel
theorem dX5_holder_25 : decode cX5_holder 25 = .ok (.goto 4, 3) := by decide +kernel
theorem dX5_holder_28 : decode cX5_holder 28 = .ok (.iconst (-1), 1) := by decide +kernel
theorem dX5_holder_29 : decode cX5_holder 29 = .ok (.ireturn, 1) := by decide +kernel
theorem dX5_format_0 : decode cX5_format 0 = .ok (.aload_n 0, 1) := by decide +kernel
theorem dX5_format_1 : decode cX5_format 1 = .ok (.getfield 64, 3) := by decide +kernel
theorem dX5_format_4 : decode cX5_format 4 = .ok (.ifCond .eq 7, 3) := by decide +kernel
theorem dX5_format_7 : decode cX5_format 7 = .ok (.iconst 0, 1) := by decide +kernel
theorem dX5_format_8 : decode cX5_format 8 = .ok (.goto 7, 3) := by decide +kernel
theorem dX5_format_11 : decode cX5_format 11 = .ok (.aload_n 0, 1) := by decide +kernel
theorem dX5_format_12 : decode cX5_format 12 = .ok (.getfield 58, 3) := by decide +kernel
theorem dX5_format_15 : decode cX5_format 15 = .ok (.istore_n 1, 1) := by decide +kernel
theorem dX5_format_16 : decode cX5_format 16 = .ok (.aload_n 0, 1) := by decide +kernel
theorem dX5_format_17 : decode cX5_format 17 = .ok (.invokevirtual 49, 3) := by decide +kernel
theorem dX5_format_20 : decode cX5_format 20 = .ok (.iload_n 1, 1) := by decide +kernel
theorem dX5_format_21 : decode cX5_format 21 = .ok (.ireturn, 1) := by decide +kernel
