theorem dL_law_0 : decode cL_law 0 = .ok (.new 8, 3) := by decide +kernel
theorem dL_law_3 : decode cL_law 3 = .ok (.dup, 1) := op_dup (dB_0 (j := 3) (b := 89) rfl)
theorem dL_law_4 : decode cL_law 4 = .ok (.invokespecial 26, 3) := by decide +kernel
theorem dL_law_7 : decode cL_law 7 = .ok (.astore_n 1, 1) := by decide +kernel
theorem dL_law_8 : decode cL_law 8 = .ok (.new 27, 3) := by decide +kernel
theorem dL_law_11 : decode cL_law 11 = .ok (.dup, 1) := op_dup (dB_0 (j := 11) (b := 89) rfl)
theorem dL_law_12 : decode cL_law 12 = .ok (.invokespecial 29, 3) := by decide +kernel
theorem dL_law_15 : decode cL_law 15 = .ok (.astore_n 2, 1) := by decide +kernel
theorem dL_law_16 : decode cL_law 16 = .ok (.iconst 1, 1) := op_iconst_1 (dB_0 (j := 16) (b := 4) rfl)
theorem dL_law_17 : decode cL_law 17 = .ok (.newarray .long, 2) := by decide +kernel
theorem dL_law_19 : decode cL_law 19 = .ok (.astore_n 3, 1) := by decide +kernel
theorem dL_law_20 : decode cL_law 20 = .ok (.iconst 0, 1) := op_iconst_0 (dB_0 (j := 20) (b := 3) rfl)
theorem dL_law_21 : decode cL_law 21 = .ok (.istore 4, 2) := op_istore (dB_0 (j := 21) (b := 54) rfl) (dB_0 (j := 22) (b := 4) rfl)
theorem dL_law_23 : decode cL_law 23 = .ok (.iload 4, 2) := op_iload (dB_0 (j := 23) (b := 21) rfl) (dB_0 (j := 24) (b := 4) rfl)
theorem dL_law_25 : decode cL_law 25 = .ok (.aload_n 0, 1) := op_aload_n_0 (dB_0 (j := 25) (b := 42) rfl)
theorem dL_law_26 : decode cL_law 26 = .ok (.arraylength, 1) := by decide +kernel
theorem dL_law_27 : decode cL_law 27 = .ok (.bipush 8, 2) := by decide +kernel
theorem dL_law_29 : decode cL_law 29 = .ok (.isub, 1) := by decide +kernel
theorem dL_law_30 : decode cL_law 30 = .ok (.if_icmp .gt 2264, 3) := by decide +kernel
theorem dL_law_33 : decode cL_law 33 = .ok (.aload_n 0, 1) := op_aload_n_0 (dB_1 (j := 1) (b := 42) rfl)
theorem dL_law_34 : decode cL_law 34 = .ok (.iload 4, 2) := op_iload (dB_1 (j := 2) (b := 21) rfl) (dB_1 (j := 3) (b := 4) rfl)
theorem dL_law_36 : decode cL_law 36 = .ok (.iaload, 1) := op_iaload (dB_1 (j := 4) (b := 46) rfl)
theorem dL_law_37 : decode cL_law 37 = .ok (.bipush 63, 2) := by decide +kernel
theorem dL_law_39 : decode cL_law 39 = .ok (.iand, 1) := by decide +kernel
theorem dL_law_40 : decode cL_law 40 = .ok (.tableswitch 2248 0 43 #[192, 229, 254, 279, 316, 365, 402, 439, 476, 501, 529, 578, 615, 628, 665, 729, 766, 803, 852, 877, 914, 975, 1024, 1088, 1137, 1174, 1235, 1325, 1386, 1447, 1484, 1533, 1620, 1721, 1782, 1807, 1844, 1881, 1894, 1955, 2028, 2101, 2162, 2223], 192) := by decide +kernel
theorem dL_law_232 : decode cL_law 232 = .ok (.aload_n 1, 1) := op_aload_n_1 (dB_7 (j := 8) (b := 43) rfl)
theorem dL_law_233 : decode cL_law 233 = .ok (.aload_n 0, 1) := op_aload_n_0 (dB_7 (j := 9) (b := 42) rfl)
theorem dL_law_234 : decode cL_law 234 = .ok (.iload 4, 2) := op_iload (dB_7 (j := 10) (b := 21) rfl) (dB_7 (j := 11) (b := 4) rfl)
theorem dL_law_236 : decode cL_law 236 = .ok (.iconst 1, 1) := op_iconst_1 (dB_7 (j := 12) (b := 4) rfl)
theorem dL_law_237 : decode cL_law 237 = .ok (.iadd, 1) := op_iadd (dB_7 (j := 13) (b := 96) rfl)
theorem dL_law_238 : decode cL_law 238 = .ok (.iaload, 1) := op_iaload (dB_7 (j := 14) (b := 46) rfl)
theorem dL_law_239 : decode cL_law 239 = .ok (.aload_n 0, 1) := op_aload_n_0 (dB_7 (j := 15) (b := 42) rfl)
theorem dL_law_240 : decode cL_law 240 = .ok (.iload 4, 2) := op_iload (dB_7 (j := 16) (b := 21) rfl) (dB_7 (j := 17) (b := 4) rfl)
theorem dL_law_242 : decode cL_law 242 = .ok (.iconst 2, 1) := op_iconst_2 (dB_7 (j := 18) (b := 5) rfl)
theorem dL_law_243 : decode cL_law 243 = .ok (.iadd, 1) := op_iadd (dB_7 (j := 19) (b := 96) rfl)
theorem dL_law_244 : decode cL_law 244 = .ok (.iaload, 1) := op_iaload (dB_7 (j := 20) (b := 46) rfl)
theorem dL_law_245 : decode cL_law 245 = .ok (.invokevirtual 30, 3) := op_invokevirtual 0 30 (dB_7 (j := 21) (b := 182) rfl) (dB_7 (j := 22) (b := 0) rfl) (dB_7 (j := 23) (b := 30) rfl) rfl
theorem dL_law_248 : decode cL_law 248 = .ok (.pop, 1) := op_pop (dB_7 (j := 24) (b := 87) rfl)
theorem dL_law_249 : decode cL_law 249 = .ok (.aload_n 2, 1) := op_aload_n_2 (dB_7 (j := 25) (b := 44) rfl)
theorem dL_law_250 : decode cL_law 250 = .ok (.aload_n 0, 1) := op_aload_n_0 (dB_7 (j := 26) (b := 42) rfl)
theorem dL_law_251 : decode cL_law 251 = .ok (.iload 4, 2) := op_iload (dB_7 (j := 27) (b := 21) rfl) (dB_7 (j := 28) (b := 4) rfl)
theorem dL_law_253 : decode cL_law 253 = .ok (.iconst 1, 1) := op_iconst_1 (dB_7 (j := 29) (b := 4) rfl)
theorem dL_law_254 : decode cL_law 254 = .ok (.iadd, 1) := op_iadd (dB_7 (j := 30) (b := 96) rfl)
theorem dL_law_255 : decode cL_law 255 = .ok (.iaload, 1) := op_iaload (dB_7 (j := 31) (b := 46) rfl)
theorem dL_law_256 : decode cL_law 256 = .ok (.aload_n 0, 1) := op_aload_n_0 (dB_8 (j := 0) (b := 42) rfl)
theorem dL_law_257 : decode cL_law 257 = .ok (.iload 4, 2) := op_iload (dB_8 (j := 1) (b := 21) rfl) (dB_8 (j := 2) (b := 4) rfl)
theorem dL_law_259 : decode cL_law 259 = .ok (.iconst 2, 1) := op_iconst_2 (dB_8 (j := 3) (b := 5) rfl)
theorem dL_law_260 : decode cL_law 260 = .ok (.iadd, 1) := op_iadd (dB_8 (j := 4) (b := 96) rfl)
theorem dL_law_261 : decode cL_law 261 = .ok (.iaload, 1) := op_iaload (dB_8 (j := 5) (b := 46) rfl)
theorem dL_law_262 : decode cL_law 262 = .ok (.invokevirtual 34, 3) := op_invokevirtual 0 34 (dB_8 (j := 6) (b := 182) rfl) (dB_8 (j := 7) (b := 0) rfl) (dB_8 (j := 8) (b := 34) rfl) rfl
theorem dL_law_265 : decode cL_law 265 = .ok (.pop, 1) := op_pop (dB_8 (j := 9) (b := 87) rfl)
theorem dL_law_266 : decode cL_law 266 = .ok (.goto 2022, 3) := by decide +kernel
theorem dL_law_269 : decode cL_law 269 = .ok (.aload_n 1, 1) := op_aload_n_1 (dB_8 (j := 13) (b := 43) rfl)
theorem dL_law_270 : decode cL_law 270 = .ok (.aload_n 0, 1) := op_aload_n_0 (dB_8 (j := 14) (b := 42) rfl)
theorem dL_law_271 : decode cL_law 271 = .ok (.iload 4, 2) := op_iload (dB_8 (j := 15) (b := 21) rfl) (dB_8 (j := 16) (b := 4) rfl)
theorem dL_law_273 : decode cL_law 273 = .ok (.iconst 1, 1) := op_iconst_1 (dB_8 (j := 17) (b := 4) rfl)
theorem dL_law_274 : decode cL_law 274 = .ok (.iadd, 1) := op_iadd (dB_8 (j := 18) (b := 96) rfl)
theorem dL_law_275 : decode cL_law 275 = .ok (.iaload, 1) := op_iaload (dB_8 (j := 19) (b := 46) rfl)
theorem dL_law_276 : decode cL_law 276 = .ok (.invokevirtual 35, 3) := op_invokevirtual 0 35 (dB_8 (j := 20) (b := 182) rfl) (dB_8 (j := 21) (b := 0) rfl) (dB_8 (j := 22) (b := 35) rfl) rfl
theorem dL_law_279 : decode cL_law 279 = .ok (.pop, 1) := op_pop (dB_8 (j := 23) (b := 87) rfl)
theorem dL_law_280 : decode cL_law 280 = .ok (.aload_n 2, 1) := op_aload_n_2 (dB_8 (j := 24) (b := 44) rfl)
theorem dL_law_281 : decode cL_law 281 = .ok (.aload_n 0, 1) := op_aload_n_0 (dB_8 (j := 25) (b := 42) rfl)
theorem dL_law_282 : decode cL_law 282 = .ok (.iload 4, 2) := op_iload (dB_8 (j := 26) (b := 21) rfl) (dB_8 (j := 27) (b := 4) rfl)
theorem dL_law_284 : decode cL_law 284 = .ok (.iconst 1, 1) := op_iconst_1 (dB_8 (j := 28) (b := 4) rfl)
theorem dL_law_285 : decode cL_law 285 = .ok (.iadd, 1) := op_iadd (dB_8 (j := 29) (b := 96) rfl)
theorem dL_law_286 : decode cL_law 286 = .ok (.iaload, 1) := op_iaload (dB_8 (j := 30) (b := 46) rfl)
theorem dL_law_287 : decode cL_law 287 = .ok (.invokevirtual 38, 3) := op_invokevirtual 0 38 (dB_8 (j := 31) (b := 182) rfl) (dB_9 (j := 0) (b := 0) rfl) (dB_9 (j := 1) (b := 38) rfl) rfl
theorem dL_law_290 : decode cL_law 290 = .ok (.pop, 1) := op_pop (dB_9 (j := 2) (b := 87) rfl)
theorem dL_law_291 : decode cL_law 291 = .ok (.goto 1997, 3) := by decide +kernel
theorem dL_law_294 : decode cL_law 294 = .ok (.aload_n 1, 1) := op_aload_n_1 (dB_9 (j := 6) (b := 43) rfl)
theorem dL_law_295 : decode cL_law 295 = .ok (.aload_n 0, 1) := op_aload_n_0 (dB_9 (j := 7) (b := 42) rfl)
theorem dL_law_296 : decode cL_law 296 = .ok (.iload 4, 2) := op_iload (dB_9 (j := 8) (b := 21) rfl) (dB_9 (j := 9) (b := 4) rfl)
theorem dL_law_298 : decode cL_law 298 = .ok (.iconst 1, 1) := op_iconst_1 (dB_9 (j := 10) (b := 4) rfl)
theorem dL_law_299 : decode cL_law 299 = .ok (.iadd, 1) := op_iadd (dB_9 (j := 11) (b := 96) rfl)
theorem dL_law_300 : decode cL_law 300 = .ok (.iaload, 1) := op_iaload (dB_9 (j := 12) (b := 46) rfl)
theorem dL_law_301 : decode cL_law 301 = .ok (.invokevirtual 39, 3) := op_invokevirtual 0 39 (dB_9 (j := 13) (b := 182) rfl) (dB_9 (j := 14) (b := 0) rfl) (dB_9 (j := 15) (b := 39) rfl) rfl
theorem dL_law_304 : decode cL_law 304 = .ok (.pop, 1) := op_pop (dB_9 (j := 16) (b := 87) rfl)
theorem dL_law_305 : decode cL_law 305 = .ok (.aload_n 2, 1) := op_aload_n_2 (dB_9 (j := 17) (b := 44) rfl)
theorem dL_law_306 : decode cL_law 306 = .ok (.aload_n 0, 1) := op_aload_n_0 (dB_9 (j := 18) (b := 42) rfl)
theorem dL_law_307 : decode cL_law 307 = .ok (.iload 4, 2) := op_iload (dB_9 (j := 19) (b := 21) rfl) (dB_9 (j := 20) (b := 4) rfl)
theorem dL_law_309 : decode cL_law 309 = .ok (.iconst 1, 1) := op_iconst_1 (dB_9 (j := 21) (b := 4) rfl)
theorem dL_law_310 : decode cL_law 310 = .ok (.iadd, 1) := op_iadd (dB_9 (j := 22) (b := 96) rfl)
theorem dL_law_311 : decode cL_law 311 = .ok (.iaload, 1) := op_iaload (dB_9 (j := 23) (b := 46) rfl)
theorem dL_law_312 : decode cL_law 312 = .ok (.invokevirtual 42, 3) := op_invokevirtual 0 42 (dB_9 (j := 24) (b := 182) rfl) (dB_9 (j := 25) (b := 0) rfl) (dB_9 (j := 26) (b := 42) rfl) rfl
theorem dL_law_315 : decode cL_law 315 = .ok (.pop, 1) := op_pop (dB_9 (j := 27) (b := 87) rfl)
theorem dL_law_316 : decode cL_law 316 = .ok (.goto 1972, 3) := by decide +kernel
theorem dL_law_319 : decode cL_law 319 = .ok (.aload_n 1, 1) := op_aload_n_1 (dB_9 (j := 31) (b := 43) rfl)
theorem dL_law_320 : decode cL_law 320 = .ok (.aload_n 0, 1) := op_aload_n_0 (dB_10 (j := 0) (b := 42) rfl)
theorem dL_law_321 : decode cL_law 321 = .ok (.iload 4, 2) := op_iload (dB_10 (j := 1) (b := 21) rfl) (dB_10 (j := 2) (b := 4) rfl)
theorem dL_law_323 : decode cL_law 323 = .ok (.iconst 1, 1) := op_iconst_1 (dB_10 (j := 3) (b := 4) rfl)
theorem dL_law_324 : decode cL_law 324 = .ok (.iadd, 1) := op_iadd (dB_10 (j := 4) (b := 96) rfl)
theorem dL_law_325 : decode cL_law 325 = .ok (.iaload, 1) := op_iaload (dB_10 (j := 5) (b := 46) rfl)
theorem dL_law_326 : decode cL_law 326 = .ok (.aload_n 0, 1) := op_aload_n_0 (dB_10 (j := 6) (b := 42) rfl)
theorem dL_law_327 : decode cL_law 327 = .ok (.iload 4, 2) := op_iload (dB_10 (j := 7) (b := 21) rfl) (dB_10 (j := 8) (b := 4) rfl)
theorem dL_law_329 : decode cL_law 329 = .ok (.iconst 2, 1) := op_iconst_2 (dB_10 (j := 9) (b := 5) rfl)
theorem dL_law_330 : decode cL_law 330 = .ok (.iadd, 1) := op_iadd (dB_10 (j := 10) (b := 96) rfl)
theorem dL_law_331 : decode cL_law 331 = .ok (.iaload, 1) := op_iaload (dB_10 (j := 11) (b := 46) rfl)
theorem dL_law_332 : decode cL_law 332 = .ok (.invokevirtual 43, 3) := op_invokevirtual 0 43 (dB_10 (j := 12) (b := 182) rfl) (dB_10 (j := 13) (b := 0) rfl) (dB_10 (j := 14) (b := 43) rfl) rfl
theorem dL_law_335 : decode cL_law 335 = .ok (.aload_n 2, 1) := op_aload_n_2 (dB_10 (j := 15) (b := 44) rfl)
theorem dL_law_336 : decode cL_law 336 = .ok (.aload_n 0, 1) := op_aload_n_0 (dB_10 (j := 16) (b := 42) rfl)
theorem dL_law_337 : decode cL_law 337 = .ok (.iload 4, 2) := op_iload (dB_10 (j := 17) (b := 21) rfl) (dB_10 (j := 18) (b := 4) rfl)
theorem dL_law_339 : decode cL_law 339 = .ok (.iconst 1, 1) := op_iconst_1 (dB_10 (j := 19) (b := 4) rfl)
theorem dL_law_340 : decode cL_law 340 = .ok (.iadd, 1) := op_iadd (dB_10 (j := 20) (b := 96) rfl)
theorem dL_law_341 : decode cL_law 341 = .ok (.iaload, 1) := op_iaload (dB_10 (j := 21) (b := 46) rfl)
theorem dL_law_342 : decode cL_law 342 = .ok (.aload_n 0, 1) := op_aload_n_0 (dB_10 (j := 22) (b := 42) rfl)
theorem dL_law_343 : decode cL_law 343 = .ok (.iload 4, 2) := op_iload (dB_10 (j := 23) (b := 21) rfl) (dB_10 (j := 24) (b := 4) rfl)
theorem dL_law_345 : decode cL_law 345 = .ok (.iconst 2, 1) := op_iconst_2 (dB_10 (j := 25) (b := 5) rfl)
theorem dL_law_346 : decode cL_law 346 = .ok (.iadd, 1) := op_iadd (dB_10 (j := 26) (b := 96) rfl)
theorem dL_law_347 : decode cL_law 347 = .ok (.iaload, 1) := op_iaload (dB_10 (j := 27) (b := 46) rfl)
theorem dL_law_348 : decode cL_law 348 = .ok (.invokevirtual 46, 3) := op_invokevirtual 0 46 (dB_10 (j := 28) (b := 182) rfl) (dB_10 (j := 29) (b := 0) rfl) (dB_10 (j := 30) (b := 46) rfl) rfl
theorem dL_law_351 : decode cL_law 351 = .ok (.if_icmp .eq 1937, 3) := by decide +kernel
theorem dL_law_354 : decode cL_law 354 = .ok (.iconst 0, 1) := op_iconst_0 (dB_11 (j := 2) (b := 3) rfl)
theorem dL_law_356 : decode cL_law 356 = .ok (.aload_n 1, 1) := op_aload_n_1 (dB_11 (j := 4) (b := 43) rfl)
theorem dL_law_357 : decode cL_law 357 = .ok (.aload_n 0, 1) := op_aload_n_0 (dB_11 (j := 5) (b := 42) rfl)
theorem dL_law_358 : decode cL_law 358 = .ok (.iload 4, 2) := op_iload (dB_11 (j := 6) (b := 21) rfl) (dB_11 (j := 7) (b := 4) rfl)
theorem dL_law_360 : decode cL_law 360 = .ok (.iconst 1, 1) := op_iconst_1 (dB_11 (j := 8) (b := 4) rfl)
theorem dL_law_361 : decode cL_law 361 = .ok (.iadd, 1) := op_iadd (dB_11 (j := 9) (b := 96) rfl)
theorem dL_law_362 : decode cL_law 362 = .ok (.iaload, 1) := op_iaload (dB_11 (j := 10) (b := 46) rfl)
theorem dL_law_363 : decode cL_law 363 = .ok (.aload_n 0, 1) := op_aload_n_0 (dB_11 (j := 11) (b := 42) rfl)
theorem dL_law_364 : decode cL_law 364 = .ok (.iload 4, 2) := op_iload (dB_11 (j := 12) (b := 21) rfl) (dB_11 (j := 13) (b := 4) rfl)
theorem dL_law_366 : decode cL_law 366 = .ok (.iconst 2, 1) := op_iconst_2 (dB_11 (j := 14) (b := 5) rfl)
theorem dL_law_367 : decode cL_law 367 = .ok (.iadd, 1) := op_iadd (dB_11 (j := 15) (b := 96) rfl)
theorem dL_law_368 : decode cL_law 368 = .ok (.iaload, 1) := op_iaload (dB_11 (j := 16) (b := 46) rfl)
theorem dL_law_369 : decode cL_law 369 = .ok (.aload_n 0, 1) := op_aload_n_0 (dB_11 (j := 17) (b := 42) rfl)
theorem dL_law_370 : decode cL_law 370 = .ok (.iload 4, 2) := op_iload (dB_11 (j := 18) (b := 21) rfl) (dB_11 (j := 19) (b := 4) rfl)
theorem dL_law_372 : decode cL_law 372 = .ok (.iconst 3, 1) := op_iconst_3 (dB_11 (j := 20) (b := 6) rfl)
theorem dL_law_373 : decode cL_law 373 = .ok (.iadd, 1) := op_iadd (dB_11 (j := 21) (b := 96) rfl)
theorem dL_law_374 : decode cL_law 374 = .ok (.iaload, 1) := op_iaload (dB_11 (j := 22) (b := 46) rfl)
theorem dL_law_375 : decode cL_law 375 = .ok (.invokevirtual 47, 3) := op_invokevirtual 0 47 (dB_11 (j := 23) (b := 182) rfl) (dB_11 (j := 24) (b := 0) rfl) (dB_11 (j := 25) (b := 47) rfl) rfl
theorem dL_law_378 : decode cL_law 378 = .ok (.pop, 1) := op_pop (dB_11 (j := 26) (b := 87) rfl)
theorem dL_law_379 : decode cL_law 379 = .ok (.aload_n 2, 1) := op_aload_n_2 (dB_11 (j := 27) (b := 44) rfl)
theorem dL_law_380 : decode cL_law 380 = .ok (.aload_n 0, 1) := op_aload_n_0 (dB_11 (j := 28) (b := 42) rfl)
theorem dL_law_381 : decode cL_law 381 = .ok (.iload 4, 2) := op_iload (dB_11 (j := 29) (b := 21) rfl) (dB_11 (j := 30) (b := 4) rfl)
theorem dL_law_383 : decode cL_law 383 = .ok (.iconst 1, 1) := op_iconst_1 (dB_11 (j := 31) (b := 4) rfl)
theorem dL_law_384 : decode cL_law 384 = .ok (.iadd, 1) := op_iadd (dB_12 (j := 0) (b := 96) rfl)
theorem dL_law_385 : decode cL_law 385 = .ok (.iaload, 1) := op_iaload (dB_12 (j := 1) (b := 46) rfl)
theorem dL_law_386 : decode cL_law 386 = .ok (.aload_n 0, 1) := op_aload_n_0 (dB_12 (j := 2) (b := 42) rfl)
theorem dL_law_387 : decode cL_law 387 = .ok (.iload 4, 2) := op_iload (dB_12 (j := 3) (b := 21) rfl) (dB_12 (j := 4) (b := 4) rfl)
theorem dL_law_389 : decode cL_law 389 = .ok (.iconst 2, 1) := op_iconst_2 (dB_12 (j := 5) (b := 5) rfl)
theorem dL_law_390 : decode cL_law 390 = .ok (.iadd, 1) := op_iadd (dB_12 (j := 6) (b := 96) rfl)
theorem dL_law_391 : decode cL_law 391 = .ok (.iaload, 1) := op_iaload (dB_12 (j := 7) (b := 46) rfl)
theorem dL_law_392 : decode cL_law 392 = .ok (.aload_n 0, 1) := op_aload_n_0 (dB_12 (j := 8) (b := 42) rfl)
theorem dL_law_393 : decode cL_law 393 = .ok (.iload 4, 2) := op_iload (dB_12 (j := 9) (b := 21) rfl) (dB_12 (j := 10) (b := 4) rfl)
theorem dL_law_395 : decode cL_law 395 = .ok (.iconst 3, 1) := op_iconst_3 (dB_12 (j := 11) (b := 6) rfl)
theorem dL_law_396 : decode cL_law 396 = .ok (.iadd, 1) := op_iadd (dB_12 (j := 12) (b := 96) rfl)
theorem dL_law_397 : decode cL_law 397 = .ok (.iaload, 1) := op_iaload (dB_12 (j := 13) (b := 46) rfl)
theorem dL_law_398 : decode cL_law 398 = .ok (.invokevirtual 51, 3) := op_invokevirtual 0 51 (dB_12 (j := 14) (b := 182) rfl) (dB_12 (j := 15) (b := 0) rfl) (dB_12 (j := 16) (b := 51) rfl) rfl
theorem dL_law_401 : decode cL_law 401 = .ok (.pop, 1) := op_pop (dB_12 (j := 17) (b := 87) rfl)
theorem dL_law_402 : decode cL_law 402 = .ok (.goto 1886, 3) := by decide +kernel
theorem dL_law_405 : decode cL_law 405 = .ok (.aload_n 1, 1) := op_aload_n_1 (dB_12 (j := 21) (b := 43) rfl)

