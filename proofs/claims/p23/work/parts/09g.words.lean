theorem dL_refusesAny_168 : decode cL_refusesAny 168 = .ok (.if_icmp .ne 31, 3) := by decide +kernel
theorem dL_refusesAny_171 : decode cL_refusesAny 171 = .ok (.aload_n 0, 1) := by decide +kernel
theorem dL_refusesAny_172 : decode cL_refusesAny 172 = .ok (.iconst 3, 1) := by decide +kernel
theorem dL_refusesAny_173 : decode cL_refusesAny 173 = .ok (.invokevirtual 13, 3) := by decide +kernel
theorem dL_refusesAny_176 : decode cL_refusesAny 176 = .ok (.ifCond .gt 19, 3) := by decide +kernel
theorem dL_refusesAny_179 : decode cL_refusesAny 179 = .ok (.aload_n 0, 1) := by decide +kernel
theorem dL_refusesAny_180 : decode cL_refusesAny 180 = .ok (.invokevirtual 46, 3) := by decide +kernel
theorem dL_refusesAny_183 : decode cL_refusesAny 183 = .ok (.bipush (-5), 2) := by decide +kernel
theorem dL_refusesAny_185 : decode cL_refusesAny 185 = .ok (.if_icmp .ne 14, 3) := by decide +kernel
theorem dL_refusesAny_188 : decode cL_refusesAny 188 = .ok (.aload_n 0, 1) := by decide +kernel
theorem dL_refusesAny_189 : decode cL_refusesAny 189 = .ok (.invokevirtual 50, 3) := by decide +kernel
theorem dL_refusesAny_192 : decode cL_refusesAny 192 = .ok (.ifCond .ne 7, 3) := by decide +kernel
theorem dL_refusesAny_195 : decode cL_refusesAny 195 = .ok (.iconst 1, 1) := by decide +kernel
theorem dL_refusesAny_196 : decode cL_refusesAny 196 = .ok (.goto 4, 3) := by decide +kernel
theorem dL_refusesAny_199 : decode cL_refusesAny 199 = .ok (.iconst 0, 1) := by decide +kernel
theorem dL_refusesAny_200 : decode cL_refusesAny 200 = .ok (.istore_n 3, 1) := by decide +kernel
theorem dL_refusesAny_201 : decode cL_refusesAny 201 = .ok (.iload_n 3, 1) := by decide +kernel
theorem dL_refusesAny_202 : decode cL_refusesAny 202 = .ok (.ifCond .eq 188, 3) := by decide +kernel
theorem dL_refusesAny_205 : decode cL_refusesAny 205 = .ok (.aload_n 0, 1) := by decide +kernel
theorem dL_refusesAny_206 : decode cL_refusesAny 206 = .ok (.iload_n 2, 1) := by decide +kernel
theorem dL_refusesAny_207 : decode cL_refusesAny 207 = .ok (.bipush 99, 2) := by decide +kernel
theorem dL_refusesAny_209 : decode cL_refusesAny 209 = .ok (.invokevirtual 19, 3) := by decide +kernel
theorem dL_refusesAny_212 : decode cL_refusesAny 212 = .ok (.iconst (-1), 1) := by decide +kernel
theorem dL_refusesAny_213 : decode cL_refusesAny 213 = .ok (.if_icmp .ne 177, 3) := by decide +kernel
theorem dL_refusesAny_216 : decode cL_refusesAny 216 = .ok (.aload_n 0, 1) := by decide +kernel
theorem dL_refusesAny_217 : decode cL_refusesAny 217 = .ok (.iconst 0, 1) := by decide +kernel
theorem dL_refusesAny_218 : decode cL_refusesAny 218 = .ok (.iload_n 1, 1) := by decide +kernel
theorem dL_refusesAny_219 : decode cL_refusesAny 219 = .ok (.iconst 2, 1) := by decide +kernel
theorem dL_refusesAny_220 : decode cL_refusesAny 220 = .ok (.irem, 1) := by decide +kernel
theorem dL_refusesAny_221 : decode cL_refusesAny 221 = .ok (.ifCond .ne 7, 3) := by decide +kernel
theorem dL_refusesAny_224 : decode cL_refusesAny 224 = .ok (.iconst (-1), 1) := by decide +kernel
theorem dL_refusesAny_225 : decode cL_refusesAny 225 = .ok (.goto 5, 3) := by decide +kernel
theorem dL_refusesAny_228 : decode cL_refusesAny 228 = .ok (.bipush 11, 2) := by decide +kernel
theorem dL_refusesAny_230 : decode cL_refusesAny 230 = .ok (.invokevirtual 19, 3) := by decide +kernel
theorem dL_refusesAny_233 : decode cL_refusesAny 233 = .ok (.bipush (-2), 2) := by decide +kernel
theorem dL_refusesAny_235 : decode cL_refusesAny 235 = .ok (.if_icmp .ne 155, 3) := by decide +kernel
theorem dL_refusesAny_238 : decode cL_refusesAny 238 = .ok (.aload_n 0, 1) := by decide +kernel
theorem dL_refusesAny_239 : decode cL_refusesAny 239 = .ok (.iconst (-1), 1) := by decide +kernel
theorem dL_refusesAny_240 : decode cL_refusesAny 240 = .ok (.iload_n 1, 1) := by decide +kernel
theorem dL_refusesAny_241 : decode cL_refusesAny 241 = .ok (.bipush 99, 2) := by decide +kernel
theorem dL_refusesAny_243 : decode cL_refusesAny 243 = .ok (.irem, 1) := by decide +kernel
theorem dL_refusesAny_244 : decode cL_refusesAny 244 = .ok (.isub, 1) := by decide +kernel
theorem dL_refusesAny_245 : decode cL_refusesAny 245 = .ok (.invokevirtual 23, 3) := by decide +kernel
theorem dL_refusesAny_248 : decode cL_refusesAny 248 = .ok (.bipush (-2), 2) := by decide +kernel
theorem dL_refusesAny_250 : decode cL_refusesAny 250 = .ok (.if_icmp .ne 140, 3) := by decide +kernel
theorem dL_refusesAny_253 : decode cL_refusesAny 253 = .ok (.aload_n 0, 1) := by decide +kernel
theorem dL_refusesAny_254 : decode cL_refusesAny 254 = .ok (.bipush 6, 2) := by decide +kernel
theorem dL_refusesAny_256 : decode cL_refusesAny 256 = .ok (.iload_n 1, 1) := by decide +kernel
theorem dL_refusesAny_257 : decode cL_refusesAny 257 = .ok (.bipush 99, 2) := by decide +kernel
theorem dL_refusesAny_259 : decode cL_refusesAny 259 = .ok (.irem, 1) := by decide +kernel
theorem dL_refusesAny_260 : decode cL_refusesAny 260 = .ok (.iadd, 1) := by decide +kernel
theorem dL_refusesAny_261 : decode cL_refusesAny 261 = .ok (.invokevirtual 23, 3) := by decide +kernel
theorem dL_refusesAny_264 : decode cL_refusesAny 264 = .ok (.bipush (-5), 2) := by decide +kernel
theorem dL_refusesAny_266 : decode cL_refusesAny 266 = .ok (.if_icmp .ne 124, 3) := by decide +kernel
theorem dL_refusesAny_269 : decode cL_refusesAny 269 = .ok (.aload_n 0, 1) := by decide +kernel
theorem dL_refusesAny_270 : decode cL_refusesAny 270 = .ok (.iload_n 1, 1) := by decide +kernel
theorem dL_refusesAny_271 : decode cL_refusesAny 271 = .ok (.iconst 2, 1) := by decide +kernel
theorem dL_refusesAny_272 : decode cL_refusesAny 272 = .ok (.irem, 1) := by decide +kernel
theorem dL_refusesAny_273 : decode cL_refusesAny 273 = .ok (.ifCond .ne 7, 3) := by decide +kernel
theorem dL_refusesAny_276 : decode cL_refusesAny 276 = .ok (.iconst (-1), 1) := by decide +kernel
theorem dL_refusesAny_277 : decode cL_refusesAny 277 = .ok (.goto 5, 3) := by decide +kernel
theorem dL_refusesAny_280 : decode cL_refusesAny 280 = .ok (.bipush 7, 2) := by decide +kernel
theorem dL_refusesAny_282 : decode cL_refusesAny 282 = .ok (.invokevirtual 26, 3) := by decide +kernel
theorem dL_refusesAny_285 : decode cL_refusesAny 285 = .ok (.iconst (-1), 1) := by decide +kernel
theorem dL_refusesAny_286 : decode cL_refusesAny 286 = .ok (.if_icmp .ne 104, 3) := by decide +kernel
theorem dL_refusesAny_289 : decode cL_refusesAny 289 = .ok (.aload_n 0, 1) := by decide +kernel
theorem dL_refusesAny_290 : decode cL_refusesAny 290 = .ok (.iload_n 1, 1) := by decide +kernel
theorem dL_refusesAny_291 : decode cL_refusesAny 291 = .ok (.iconst 2, 1) := by decide +kernel
theorem dL_refusesAny_292 : decode cL_refusesAny 292 = .ok (.irem, 1) := by decide +kernel
theorem dL_refusesAny_293 : decode cL_refusesAny 293 = .ok (.ifCond .ne 7, 3) := by decide +kernel
theorem dL_refusesAny_296 : decode cL_refusesAny 296 = .ok (.iconst (-1), 1) := by decide +kernel
theorem dL_refusesAny_297 : decode cL_refusesAny 297 = .ok (.goto 5, 3) := by decide +kernel
theorem dL_refusesAny_300 : decode cL_refusesAny 300 = .ok (.bipush 15, 2) := by decide +kernel
theorem dL_refusesAny_302 : decode cL_refusesAny 302 = .ok (.invokevirtual 13, 3) := by decide +kernel
theorem dL_refusesAny_305 : decode cL_refusesAny 305 = .ok (.bipush (-2), 2) := by decide +kernel
theorem dL_refusesAny_307 : decode cL_refusesAny 307 = .ok (.if_icmp .ne 83, 3) := by decide +kernel
theorem dL_refusesAny_310 : decode cL_refusesAny 310 = .ok (.aload_n 0, 1) := by decide +kernel
theorem dL_refusesAny_311 : decode cL_refusesAny 311 = .ok (.iload_n 2, 1) := by decide +kernel
theorem dL_refusesAny_312 : decode cL_refusesAny 312 = .ok (.invokevirtual 53, 3) := by decide +kernel
theorem dL_refusesAny_315 : decode cL_refusesAny 315 = .ok (.iconst (-1), 1) := by decide +kernel
theorem dL_refusesAny_316 : decode cL_refusesAny 316 = .ok (.if_icmp .ne 74, 3) := by decide +kernel
theorem dL_refusesAny_319 : decode cL_refusesAny 319 = .ok (.aload_n 0, 1) := by decide +kernel
theorem dL_refusesAny_320 : decode cL_refusesAny 320 = .ok (.iload_n 2, 1) := by decide +kernel
theorem dL_refusesAny_321 : decode cL_refusesAny 321 = .ok (.invokevirtual 56, 3) := by decide +kernel
theorem dL_refusesAny_324 : decode cL_refusesAny 324 = .ok (.iconst (-1), 1) := by decide +kernel
theorem dL_refusesAny_325 : decode cL_refusesAny 325 = .ok (.if_icmp .ne 65, 3) := by decide +kernel
theorem dL_refusesAny_328 : decode cL_refusesAny 328 = .ok (.aload_n 0, 1) := by decide +kernel
theorem dL_refusesAny_329 : decode cL_refusesAny 329 = .ok (.iload_n 2, 1) := by decide +kernel
theorem dL_refusesAny_330 : decode cL_refusesAny 330 = .ok (.iconst 0, 1) := by decide +kernel
theorem dL_refusesAny_331 : decode cL_refusesAny 331 = .ok (.bipush 9, 2) := by decide +kernel
theorem dL_refusesAny_333 : decode cL_refusesAny 333 = .ok (.invokevirtual 59, 3) := by decide +kernel
theorem dL_refusesAny_336 : decode cL_refusesAny 336 = .ok (.iconst (-1), 1) := by decide +kernel
theorem dL_refusesAny_337 : decode cL_refusesAny 337 = .ok (.if_icmp .ne 53, 3) := by decide +kernel
theorem dL_refusesAny_340 : decode cL_refusesAny 340 = .ok (.aload_n 0, 1) := by decide +kernel
theorem dL_refusesAny_341 : decode cL_refusesAny 341 = .ok (.iconst 0, 1) := by decide +kernel
theorem dL_refusesAny_342 : decode cL_refusesAny 342 = .ok (.iload_n 2, 1) := by decide +kernel
theorem dL_refusesAny_343 : decode cL_refusesAny 343 = .ok (.bipush 9, 2) := by decide +kernel
theorem dL_refusesAny_345 : decode cL_refusesAny 345 = .ok (.invokevirtual 59, 3) := by decide +kernel
theorem dL_refusesAny_348 : decode cL_refusesAny 348 = .ok (.iconst (-1), 1) := by decide +kernel
theorem dL_refusesAny_349 : decode cL_refusesAny 349 = .ok (.if_icmp .ne 41, 3) := by decide +kernel
theorem dL_refusesAny_352 : decode cL_refusesAny 352 = .ok (.aload_n 0, 1) := by decide +kernel
theorem dL_refusesAny_353 : decode cL_refusesAny 353 = .ok (.iconst 1, 1) := by decide +kernel
theorem dL_refusesAny_354 : decode cL_refusesAny 354 = .ok (.iconst 1, 1) := by decide +kernel
theorem dL_refusesAny_355 : decode cL_refusesAny 355 = .ok (.iconst 0, 1) := by decide +kernel
theorem dL_refusesAny_356 : decode cL_refusesAny 356 = .ok (.invokevirtual 59, 3) := by decide +kernel
theorem dL_refusesAny_359 : decode cL_refusesAny 359 = .ok (.bipush (-2), 2) := by decide +kernel
theorem dL_refusesAny_361 : decode cL_refusesAny 361 = .ok (.if_icmp .ne 29, 3) := by decide +kernel
theorem dL_refusesAny_364 : decode cL_refusesAny 364 = .ok (.aload_n 0, 1) := by decide +kernel
theorem dL_refusesAny_365 : decode cL_refusesAny 365 = .ok (.iconst 0, 1) := by decide +kernel
theorem dL_refusesAny_366 : decode cL_refusesAny 366 = .ok (.iconst 1, 1) := by decide +kernel
theorem dL_refusesAny_367 : decode cL_refusesAny 367 = .ok (.iload_n 1, 1) := by decide +kernel
theorem dL_refusesAny_368 : decode cL_refusesAny 368 = .ok (.iconst 2, 1) := by decide +kernel
theorem dL_refusesAny_369 : decode cL_refusesAny 369 = .ok (.irem, 1) := by decide +kernel
theorem dL_refusesAny_370 : decode cL_refusesAny 370 = .ok (.ifCond .ne 7, 3) := by decide +kernel
theorem dL_refusesAny_373 : decode cL_refusesAny 373 = .ok (.iconst (-1), 1) := by decide +kernel
theorem dL_refusesAny_374 : decode cL_refusesAny 374 = .ok (.goto 4, 3) := by decide +kernel
theorem dL_refusesAny_377 : decode cL_refusesAny 377 = .ok (.iconst 3, 1) := by decide +kernel
theorem dL_refusesAny_378 : decode cL_refusesAny 378 = .ok (.invokevirtual 59, 3) := by decide +kernel
theorem dL_refusesAny_381 : decode cL_refusesAny 381 = .ok (.bipush (-2), 2) := by decide +kernel
theorem dL_refusesAny_383 : decode cL_refusesAny 383 = .ok (.if_icmp .ne 7, 3) := by decide +kernel
theorem dL_refusesAny_386 : decode cL_refusesAny 386 = .ok (.iconst 1, 1) := by decide +kernel
theorem dL_refusesAny_387 : decode cL_refusesAny 387 = .ok (.goto 4, 3) := by decide +kernel
theorem dL_refusesAny_390 : decode cL_refusesAny 390 = .ok (.iconst 0, 1) := by decide +kernel
theorem dL_refusesAny_391 : decode cL_refusesAny 391 = .ok (.istore_n 3, 1) := by decide +kernel
theorem dL_refusesAny_392 : decode cL_refusesAny 392 = .ok (.iload_n 3, 1) := by decide +kernel
theorem dL_refusesAny_393 : decode cL_refusesAny 393 = .ok (.ifCond .eq 23, 3) := by decide +kernel
theorem dL_refusesAny_396 : decode cL_refusesAny 396 = .ok (.aload_n 0, 1) := by decide +kernel
theorem dL_refusesAny_397 : decode cL_refusesAny 397 = .ok (.invokevirtual 63, 3) := by decide +kernel
theorem dL_refusesAny_400 : decode cL_refusesAny 400 = .ok (.ifCond .ne 16, 3) := by decide +kernel
theorem dL_refusesAny_403 : decode cL_refusesAny 403 = .ok (.aload_n 0, 1) := by decide +kernel
theorem dL_refusesAny_404 : decode cL_refusesAny 404 = .ok (.invokevirtual 66, 3) := by decide +kernel
theorem dL_refusesAny_407 : decode cL_refusesAny 407 = .ok (.bipush (-100), 2) := by decide +kernel
theorem dL_refusesAny_409 : decode cL_refusesAny 409 = .ok (.if_icmp .ne 7, 3) := by decide +kernel
theorem dL_refusesAny_412 : decode cL_refusesAny 412 = .ok (.iconst 1, 1) := by decide +kernel
theorem dL_refusesAny_413 : decode cL_refusesAny 413 = .ok (.goto 4, 3) := by decide +kernel
theorem dL_refusesAny_416 : decode cL_refusesAny 416 = .ok (.iconst 0, 1) := by decide +kernel
theorem dL_refusesAny_417 : decode cL_refusesAny 417 = .ok (.ireturn, 1) := by decide +kernel
theorem dL_refuses_0 : decode cL_refuses 0 = .ok (.aload_n 0, 1) := by decide +kernel
theorem dL_refuses_1 : decode cL_refuses 1 = .ok (.invokestatic 69, 3) := by decide +kernel
theorem dL_refuses_4 : decode cL_refuses 4 = .ok (.lstore_n 2, 1) := by decide +kernel
theorem dL_refuses_5 : decode cL_refuses 5 = .ok (.aload_n 0, 1) := by decide +kernel
theorem dL_refuses_6 : decode cL_refuses 6 = .ok (.bipush 13, 2) := by decide +kernel
theorem dL_refuses_8 : decode cL_refuses 8 = .ok (.invokevirtual 13, 3) := by decide +kernel
theorem dL_refuses_11 : decode cL_refuses 11 = .ok (.istore 4, 2) := by decide +kernel
theorem dL_refuses_13 : decode cL_refuses 13 = .ok (.aload_n 0, 1) := by decide +kernel
theorem dL_refuses_14 : decode cL_refuses 14 = .ok (.iload_n 1, 1) := by decide +kernel
theorem dL_refuses_15 : decode cL_refuses 15 = .ok (.invokestatic 73, 3) := by decide +kernel
theorem dL_refuses_18 : decode cL_refuses 18 = .ok (.ifCond .eq 27, 3) := by decide +kernel
theorem dL_refuses_21 : decode cL_refuses 21 = .ok (.aload_n 0, 1) := by decide +kernel
theorem dL_refuses_22 : decode cL_refuses 22 = .ok (.invokestatic 69, 3) := by decide +kernel
theorem dL_refuses_25 : decode cL_refuses 25 = .ok (.lload_n 2, 1) := by decide +kernel
theorem dL_refuses_26 : decode cL_refuses 26 = .ok (.lcmp, 1) := by decide +kernel
theorem dL_refuses_27 : decode cL_refuses 27 = .ok (.ifCond .ne 18, 3) := by decide +kernel
theorem dL_refuses_30 : decode cL_refuses 30 = .ok (.aload_n 0, 1) := by decide +kernel
theorem dL_refuses_31 : decode cL_refuses 31 = .ok (.bipush 13, 2) := by decide +kernel
theorem dL_refuses_33 : decode cL_refuses 33 = .ok (.invokevirtual 13, 3) := by decide +kernel
theorem dL_refuses_36 : decode cL_refuses 36 = .ok (.iload 4, 2) := by decide +kernel
theorem dL_refuses_38 : decode cL_refuses 38 = .ok (.if_icmp .ne 7, 3) := by decide +kernel
theorem dL_refuses_41 : decode cL_refuses 41 = .ok (.iconst 1, 1) := by decide +kernel
theorem dL_refuses_42 : decode cL_refuses 42 = .ok (.goto 4, 3) := by decide +kernel
theorem dL_refuses_45 : decode cL_refuses 45 = .ok (.iconst 0, 1) := by decide +kernel
theorem dL_refuses_46 : decode cL_refuses 46 = .ok (.ireturn, 1) := by decide +kernel
theorem dL_step_0 : decode cL_step 0 = .ok (.aload_n 0, 1) := by decide +kernel
theorem dL_step_1 : decode cL_step 1 = .ok (.iload_n 1, 1) := by decide +kernel
theorem dL_step_2 : decode cL_step 2 = .ok (.iconst 0, 1) := by decide +kernel
theorem dL_step_3 : decode cL_step 3 = .ok (.invokevirtual 19, 3) := by decide +kernel
theorem dL_step_6 : decode cL_step 6 = .ok (.istore_n 2, 1) := by decide +kernel
theorem dL_step_7 : decode cL_step 7 = .ok (.aload_n 0, 1) := by decide +kernel
theorem dL_step_8 : decode cL_step 8 = .ok (.iload_n 1, 1) := by decide +kernel
theorem dL_step_9 : decode cL_step 9 = .ok (.invokevirtual 53, 3) := by decide +kernel
theorem dL_step_12 : decode cL_step 12 = .ok (.istore_n 3, 1) := by decide +kernel
theorem dL_step_13 : decode cL_step 13 = .ok (.aload_n 0, 1) := by decide +kernel
theorem dL_step_14 : decode cL_step 14 = .ok (.iload_n 1, 1) := by decide +kernel
theorem dL_step_15 : decode cL_step 15 = .ok (.invokevirtual 56, 3) := by decide +kernel
theorem dL_step_18 : decode cL_step 18 = .ok (.istore 4, 2) := by decide +kernel
theorem dL_step_20 : decode cL_step 20 = .ok (.aload_n 0, 1) := by decide +kernel
theorem dL_step_21 : decode cL_step 21 = .ok (.iload_n 1, 1) := by decide +kernel
theorem dL_step_22 : decode cL_step 22 = .ok (.iconst 2, 1) := by decide +kernel
theorem dL_step_23 : decode cL_step 23 = .ok (.invokevirtual 19, 3) := by decide +kernel
theorem dL_step_26 : decode cL_step 26 = .ok (.istore 5, 2) := by decide +kernel
theorem dL_step_28 : decode cL_step 28 = .ok (.aload_n 0, 1) := by decide +kernel
theorem dL_step_29 : decode cL_step 29 = .ok (.iload_n 1, 1) := by decide +kernel
theorem dL_step_30 : decode cL_step 30 = .ok (.iconst 3, 1) := by decide +kernel
theorem dL_step_31 : decode cL_step 31 = .ok (.invokevirtual 19, 3) := by decide +kernel
theorem dL_step_34 : decode cL_step 34 = .ok (.istore 6, 2) := by decide +kernel
theorem dL_step_36 : decode cL_step 36 = .ok (.aload_n 0, 1) := by decide +kernel
theorem dL_step_37 : decode cL_step 37 = .ok (.bipush 8, 2) := by decide +kernel
theorem dL_step_39 : decode cL_step 39 = .ok (.invokevirtual 13, 3) := by decide +kernel
theorem dL_step_42 : decode cL_step 42 = .ok (.istore 7, 2) := by decide +kernel
theorem dL_step_44 : decode cL_step 44 = .ok (.aload_n 0, 1) := by decide +kernel
theorem dL_step_45 : decode cL_step 45 = .ok (.iconst 5, 1) := by decide +kernel
theorem dL_step_46 : decode cL_step 46 = .ok (.invokevirtual 13, 3) := by decide +kernel
theorem dL_step_49 : decode cL_step 49 = .ok (.istore 8, 2) := by decide +kernel
theorem dL_step_51 : decode cL_step 51 = .ok (.iconst 0, 1) := by decide +kernel
theorem dL_step_52 : decode cL_step 52 = .ok (.istore 9, 2) := by decide +kernel
theorem dL_step_54 : decode cL_step 54 = .ok (.iconst 0, 1) := by decide +kernel
theorem dL_step_55 : decode cL_step 55 = .ok (.istore 10, 2) := by decide +kernel
theorem dL_step_57 : decode cL_step 57 = .ok (.iload 10, 2) := by decide +kernel
theorem dL_step_59 : decode cL_step 59 = .ok (.bipush 6, 2) := by decide +kernel
theorem dL_step_61 : decode cL_step 61 = .ok (.if_icmp .ge 34, 3) := by decide +kernel
theorem dL_step_64 : decode cL_step 64 = .ok (.bipush 8, 2) := by decide +kernel
theorem dL_step_66 : decode cL_step 66 = .ok (.iload 9, 2) := by decide +kernel
theorem dL_step_68 : decode cL_step 68 = .ok (.imul, 1) := by decide +kernel
theorem dL_step_69 : decode cL_step 69 = .ok (.iload 10, 2) := by decide +kernel
theorem dL_step_71 : decode cL_step 71 = .ok (.iload_n 1, 1) := by decide +kernel
theorem dL_step_72 : decode cL_step 72 = .ok (.if_icmp .ne 7, 3) := by decide +kernel
theorem dL_step_75 : decode cL_step 75 = .ok (.iconst 0, 1) := by decide +kernel
theorem dL_step_76 : decode cL_step 76 = .ok (.goto 10, 3) := by decide +kernel
theorem dL_step_79 : decode cL_step 79 = .ok (.aload_n 0, 1) := by decide +kernel
theorem dL_step_80 : decode cL_step 80 = .ok (.iload 10, 2) := by decide +kernel
theorem dL_step_82 : decode cL_step 82 = .ok (.iconst 0, 1) := by decide +kernel
theorem dL_step_83 : decode cL_step 83 = .ok (.invokevirtual 19, 3) := by decide +kernel
theorem dL_step_86 : decode cL_step 86 = .ok (.iadd, 1) := by decide +kernel
theorem dL_step_87 : decode cL_step 87 = .ok (.istore 9, 2) := by decide +kernel
theorem dL_step_89 : decode cL_step 89 = .ok (.iinc 10 1, 3) := by decide +kernel
theorem dL_step_92 : decode cL_step 92 = .ok (.goto (-35), 3) := by decide +kernel
theorem dL_step_95 : decode cL_step 95 = .ok (.aload_n 0, 1) := by decide +kernel
theorem dL_step_96 : decode cL_step 96 = .ok (.iload_n 1, 1) := by decide +kernel
theorem dL_step_97 : decode cL_step 97 = .ok (.invokevirtual 34, 3) := by decide +kernel
theorem dL_step_100 : decode cL_step 100 = .ok (.istore 10, 2) := by decide +kernel
theorem dL_step_102 : decode cL_step 102 = .ok (.iconst 5, 1) := by decide +kernel
theorem dL_step_103 : decode cL_step 103 = .ok (.istore 11, 2) := by decide +kernel
theorem dL_step_105 : decode cL_step 105 = .ok (.iload 11, 2) := by decide +kernel
theorem dL_step_107 : decode cL_step 107 = .ok (.ifCond .lt 40, 3) := by decide +kernel
theorem dL_step_110 : decode cL_step 110 = .ok (.iload 11, 2) := by decide +kernel
theorem dL_step_112 : decode cL_step 112 = .ok (.iload_n 1, 1) := by decide +kernel
theorem dL_step_113 : decode cL_step 113 = .ok (.if_icmp .eq 21, 3) := by decide +kernel
theorem dL_step_116 : decode cL_step 116 = .ok (.aload_n 0, 1) := by decide +kernel
theorem dL_step_117 : decode cL_step 117 = .ok (.iload 11, 2) := by decide +kernel
theorem dL_step_119 : decode cL_step 119 = .ok (.iconst 0, 1) := by decide +kernel
theorem dL_step_120 : decode cL_step 120 = .ok (.invokevirtual 19, 3) := by decide +kernel
theorem dL_step_123 : decode cL_step 123 = .ok (.iload 9, 2) := by decide +kernel
theorem dL_step_125 : decode cL_step 125 = .ok (.bipush 8, 2) := by decide +kernel
theorem dL_step_127 : decode cL_step 127 = .ok (.irem, 1) := by decide +kernel
theorem dL_step_128 : decode cL_step 128 = .ok (.if_icmp .eq 6, 3) := by decide +kernel
theorem dL_step_131 : decode cL_step 131 = .ok (.bipush (-9), 2) := by decide +kernel
theorem dL_step_133 : decode cL_step 133 = .ok (.ireturn, 1) := by decide +kernel
theorem dL_step_134 : decode cL_step 134 = .ok (.iload 9, 2) := by decide +kernel
theorem dL_step_136 : decode cL_step 136 = .ok (.bipush 8, 2) := by decide +kernel
theorem dL_step_138 : decode cL_step 138 = .ok (.idiv, 1) := by decide +kernel
theorem dL_step_139 : decode cL_step 139 = .ok (.istore 9, 2) := by decide +kernel
theorem dL_step_141 : decode cL_step 141 = .ok (.iinc 11 (-1), 3) := by decide +kernel
theorem dL_step_144 : decode cL_step 144 = .ok (.goto (-39), 3) := by decide +kernel
theorem dL_step_147 : decode cL_step 147 = .ok (.iload 4, 2) := by decide +kernel
theorem dL_step_149 : decode cL_step 149 = .ok (.ifCond .lt 109, 3) := by decide +kernel
theorem dL_step_152 : decode cL_step 152 = .ok (.iload 4, 2) := by decide +kernel
theorem dL_step_154 : decode cL_step 154 = .ok (.iconst 2, 1) := by decide +kernel
theorem dL_step_155 : decode cL_step 155 = .ok (.if_icmp .ge 103, 3) := by decide +kernel
theorem dL_step_158 : decode cL_step 158 = .ok (.aload_n 0, 1) := by decide +kernel
theorem dL_step_159 : decode cL_step 159 = .ok (.iload_n 1, 1) := by decide +kernel
theorem dL_step_160 : decode cL_step 160 = .ok (.iconst 0, 1) := by decide +kernel
theorem dL_step_161 : decode cL_step 161 = .ok (.invokevirtual 19, 3) := by decide +kernel
theorem dL_step_164 : decode cL_step 164 = .ok (.iload 10, 2) := by decide +kernel
theorem dL_step_166 : decode cL_step 166 = .ok (.if_icmp .ne 92, 3) := by decide +kernel
theorem dL_step_169 : decode cL_step 169 = .ok (.iload 10, 2) := by decide +kernel
theorem dL_step_171 : decode cL_step 171 = .ok (.iload_n 2, 1) := by decide +kernel
theorem dL_step_172 : decode cL_step 172 = .ok (.if_icmp .ne 7, 3) := by decide +kernel
theorem dL_step_175 : decode cL_step 175 = .ok (.iconst 1, 1) := by decide +kernel
theorem dL_step_176 : decode cL_step 176 = .ok (.goto 4, 3) := by decide +kernel
theorem dL_step_179 : decode cL_step 179 = .ok (.iconst 0, 1) := by decide +kernel
theorem dL_step_180 : decode cL_step 180 = .ok (.iload_n 3, 1) := by decide +kernel
theorem dL_step_181 : decode cL_step 181 = .ok (.iconst 1, 1) := by decide +kernel
theorem dL_step_182 : decode cL_step 182 = .ok (.if_icmp .ne 7, 3) := by decide +kernel
theorem dL_step_185 : decode cL_step 185 = .ok (.iconst 1, 1) := by decide +kernel
theorem dL_step_186 : decode cL_step 186 = .ok (.goto 4, 3) := by decide +kernel
theorem dL_step_189 : decode cL_step 189 = .ok (.iconst 0, 1) := by decide +kernel
theorem dL_step_190 : decode cL_step 190 = .ok (.if_icmp .ne 68, 3) := by decide +kernel
theorem dL_step_193 : decode cL_step 193 = .ok (.aload_n 0, 1) := by decide +kernel
theorem dL_step_194 : decode cL_step 194 = .ok (.iload_n 1, 1) := by decide +kernel
theorem dL_step_195 : decode cL_step 195 = .ok (.iconst 2, 1) := by decide +kernel
theorem dL_step_196 : decode cL_step 196 = .ok (.invokevirtual 19, 3) := by decide +kernel
theorem dL_step_199 : decode cL_step 199 = .ok (.iload 5, 2) := by decide +kernel
theorem dL_step_201 : decode cL_step 201 = .ok (.iload_n 3, 1) := by decide +kernel
theorem dL_step_202 : decode cL_step 202 = .ok (.iadd, 1) := by decide +kernel
theorem dL_step_203 : decode cL_step 203 = .ok (.if_icmp .ne 55, 3) := by decide +kernel
theorem dL_step_206 : decode cL_step 206 = .ok (.aload_n 0, 1) := by decide +kernel
theorem dL_step_207 : decode cL_step 207 = .ok (.iload_n 1, 1) := by decide +kernel
theorem dL_step_208 : decode cL_step 208 = .ok (.iconst 3, 1) := by decide +kernel
theorem dL_step_209 : decode cL_step 209 = .ok (.invokevirtual 19, 3) := by decide +kernel
theorem dL_step_212 : decode cL_step 212 = .ok (.iload 6, 2) := by decide +kernel
theorem dL_step_214 : decode cL_step 214 = .ok (.iload 10, 2) := by decide +kernel
theorem dL_step_216 : decode cL_step 216 = .ok (.ifCond .ne 7, 3) := by decide +kernel
theorem dL_step_219 : decode cL_step 219 = .ok (.iconst 1, 1) := by decide +kernel
theorem dL_step_220 : decode cL_step 220 = .ok (.goto 4, 3) := by decide +kernel
theorem dL_step_223 : decode cL_step 223 = .ok (.iconst 0, 1) := by decide +kernel
theorem dL_step_224 : decode cL_step 224 = .ok (.iadd, 1) := by decide +kernel
theorem dL_step_225 : decode cL_step 225 = .ok (.if_icmp .ne 33, 3) := by decide +kernel
theorem dL_step_228 : decode cL_step 228 = .ok (.aload_n 0, 1) := by decide +kernel
theorem dL_step_229 : decode cL_step 229 = .ok (.bipush 8, 2) := by decide +kernel
theorem dL_step_231 : decode cL_step 231 = .ok (.invokevirtual 13, 3) := by decide +kernel
theorem dL_step_234 : decode cL_step 234 = .ok (.iload 7, 2) := by decide +kernel
theorem dL_step_236 : decode cL_step 236 = .ok (.iload 4, 2) := by decide +kernel
theorem dL_step_238 : decode cL_step 238 = .ok (.iadd, 1) := by decide +kernel
theorem dL_step_239 : decode cL_step 239 = .ok (.if_icmp .ne 19, 3) := by decide +kernel
theorem dL_step_242 : decode cL_step 242 = .ok (.aload_n 0, 1) := by decide +kernel
theorem dL_step_243 : decode cL_step 243 = .ok (.iconst 5, 1) := by decide +kernel
theorem dL_step_244 : decode cL_step 244 = .ok (.invokevirtual 13, 3) := by decide +kernel
theorem dL_step_247 : decode cL_step 247 = .ok (.iload 8, 2) := by decide +kernel
theorem dL_step_249 : decode cL_step 249 = .ok (.iconst 1, 1) := by decide +kernel
theorem dL_step_250 : decode cL_step 250 = .ok (.iadd, 1) := by decide +kernel
theorem dL_step_251 : decode cL_step 251 = .ok (.if_icmp .ne 7, 3) := by decide +kernel
theorem dL_step_254 : decode cL_step 254 = .ok (.iconst 1, 1) := by decide +kernel
theorem dL_step_255 : decode cL_step 255 = .ok (.goto 4, 3) := by decide +kernel
theorem dL_step_258 : decode cL_step 258 = .ok (.iconst 0, 1) := by decide +kernel
theorem dL_step_259 : decode cL_step 259 = .ok (.istore 11, 2) := by decide +kernel
theorem dL_step_261 : decode cL_step 261 = .ok (.iload 11, 2) := by decide +kernel
theorem dL_step_263 : decode cL_step 263 = .ok (.ifCond .eq 8, 3) := by decide +kernel
theorem dL_step_266 : decode cL_step 266 = .ok (.iload 10, 2) := by decide +kernel
theorem dL_step_268 : decode cL_step 268 = .ok (.goto 5, 3) := by decide +kernel
theorem dL_step_271 : decode cL_step 271 = .ok (.bipush (-9), 2) := by decide +kernel
theorem dL_step_273 : decode cL_step 273 = .ok (.ireturn, 1) := by decide +kernel
theorem dL_go_0 : decode cL_go 0 = .ok (.aload_n 0, 1) := by decide +kernel
theorem dL_go_1 : decode cL_go 1 = .ok (.iload_n 1, 1) := by decide +kernel
theorem dL_go_2 : decode cL_go 2 = .ok (.invokevirtual 53, 3) := by decide +kernel
theorem dL_go_5 : decode cL_go 5 = .ok (.istore_n 2, 1) := by decide +kernel
theorem dL_go_6 : decode cL_go 6 = .ok (.aload_n 0, 1) := by decide +kernel
theorem dL_go_7 : decode cL_go 7 = .ok (.iload_n 1, 1) := by decide +kernel
theorem dL_go_8 : decode cL_go 8 = .ok (.iconst 1, 1) := by decide +kernel
theorem dL_go_9 : decode cL_go 9 = .ok (.invokevirtual 19, 3) := by decide +kernel
theorem dL_go_12 : decode cL_go 12 = .ok (.istore_n 3, 1) := by decide +kernel
theorem dL_go_13 : decode cL_go 13 = .ok (.aload_n 0, 1) := by decide +kernel
theorem dL_go_14 : decode cL_go 14 = .ok (.bipush 6, 2) := by decide +kernel
theorem dL_go_16 : decode cL_go 16 = .ok (.invokevirtual 13, 3) := by decide +kernel
theorem dL_go_19 : decode cL_go 19 = .ok (.istore 4, 2) := by decide +kernel
theorem dL_go_21 : decode cL_go 21 = .ok (.aload_n 0, 1) := by decide +kernel
theorem dL_go_22 : decode cL_go 22 = .ok (.iload_n 1, 1) := by decide +kernel
theorem dL_go_23 : decode cL_go 23 = .ok (.invokevirtual 37, 3) := by decide +kernel
theorem dL_go_26 : decode cL_go 26 = .ok (.istore 5, 2) := by decide +kernel
theorem dL_go_28 : decode cL_go 28 = .ok (.iload_n 2, 1) := by decide +kernel
theorem dL_go_29 : decode cL_go 29 = .ok (.iconst 1, 1) := by decide +kernel
theorem dL_go_30 : decode cL_go 30 = .ok (.if_icmp .ne 18, 3) := by decide +kernel
theorem dL_go_33 : decode cL_go 33 = .ok (.iload 5, 2) := by decide +kernel
theorem dL_go_35 : decode cL_go 35 = .ok (.bipush (-5), 2) := by decide +kernel
theorem dL_go_37 : decode cL_go 37 = .ok (.if_icmp .ne 8, 3) := by decide +kernel
theorem dL_go_40 : decode cL_go 40 = .ok (.bipush (-5), 2) := by decide +kernel
theorem dL_go_42 : decode cL_go 42 = .ok (.goto 5, 3) := by decide +kernel
theorem dL_go_45 : decode cL_go 45 = .ok (.bipush (-9), 2) := by decide +kernel
theorem dL_go_47 : decode cL_go 47 = .ok (.ireturn, 1) := by decide +kernel
theorem dL_go_48 : decode cL_go 48 = .ok (.aload_n 0, 1) := by decide +kernel
theorem dL_go_49 : decode cL_go 49 = .ok (.iload_n 1, 1) := by decide +kernel
theorem dL_go_50 : decode cL_go 50 = .ok (.iconst 0, 1) := by decide +kernel
theorem dL_go_51 : decode cL_go 51 = .ok (.invokevirtual 19, 3) := by decide +kernel
theorem dL_go_54 : decode cL_go 54 = .ok (.istore 6, 2) := by decide +kernel
theorem dL_go_56 : decode cL_go 56 = .ok (.iload 5, 2) := by decide +kernel
theorem dL_go_58 : decode cL_go 58 = .ok (.ifCond .le 59, 3) := by decide +kernel
theorem dL_go_61 : decode cL_go 61 = .ok (.iload 5, 2) := by decide +kernel
theorem dL_go_63 : decode cL_go 63 = .ok (.bipush 8, 2) := by decide +kernel
theorem dL_go_65 : decode cL_go 65 = .ok (.if_icmp .ge 52, 3) := by decide +kernel
theorem dL_go_68 : decode cL_go 68 = .ok (.aload_n 0, 1) := by decide +kernel
theorem dL_go_69 : decode cL_go 69 = .ok (.iload_n 1, 1) := by decide +kernel
theorem dL_go_70 : decode cL_go 70 = .ok (.iconst 1, 1) := by decide +kernel
theorem dL_go_71 : decode cL_go 71 = .ok (.invokevirtual 19, 3) := by decide +kernel
theorem dL_go_74 : decode cL_go 74 = .ok (.iload_n 3, 1) := by decide +kernel
theorem dL_go_75 : decode cL_go 75 = .ok (.iload 5, 2) := by decide +kernel
theorem dL_go_77 : decode cL_go 77 = .ok (.iadd, 1) := by decide +kernel
theorem dL_go_78 : decode cL_go 78 = .ok (.if_icmp .ne 39, 3) := by decide +kernel
theorem dL_go_81 : decode cL_go 81 = .ok (.aload_n 0, 1) := by decide +kernel
theorem dL_go_82 : decode cL_go 82 = .ok (.bipush 6, 2) := by decide +kernel
theorem dL_go_84 : decode cL_go 84 = .ok (.invokevirtual 13, 3) := by decide +kernel
theorem dL_go_87 : decode cL_go 87 = .ok (.iload 4, 2) := by decide +kernel
theorem dL_go_89 : decode cL_go 89 = .ok (.if_icmp .ne 28, 3) := by decide +kernel
theorem dL_go_92 : decode cL_go 92 = .ok (.iload 6, 2) := by decide +kernel
theorem dL_go_94 : decode cL_go 94 = .ok (.ifCond .eq 18, 3) := by decide +kernel
theorem dL_go_97 : decode cL_go 97 = .ok (.iload 6, 2) := by decide +kernel
theorem dL_go_99 : decode cL_go 99 = .ok (.iconst 4, 1) := by decide +kernel
theorem dL_go_100 : decode cL_go 100 = .ok (.if_icmp .eq 12, 3) := by decide +kernel
theorem dL_go_103 : decode cL_go 103 = .ok (.aload_n 0, 1) := by decide +kernel
theorem dL_go_104 : decode cL_go 104 = .ok (.iload_n 1, 1) := by decide +kernel
theorem dL_go_105 : decode cL_go 105 = .ok (.invokevirtual 53, 3) := by decide +kernel
theorem dL_go_108 : decode cL_go 108 = .ok (.iconst 1, 1) := by decide +kernel
theorem dL_go_109 : decode cL_go 109 = .ok (.if_icmp .ne 8, 3) := by decide +kernel
theorem dL_go_112 : decode cL_go 112 = .ok (.iload 5, 2) := by decide +kernel
theorem dL_go_114 : decode cL_go 114 = .ok (.goto 5, 3) := by decide +kernel
theorem dL_go_117 : decode cL_go 117 = .ok (.bipush (-9), 2) := by decide +kernel
theorem dL_go_119 : decode cL_go 119 = .ok (.ireturn, 1) := by decide +kernel
theorem dL_draw_0 : decode cL_draw 0 = .ok (.aload_n 0, 1) := by decide +kernel
theorem dL_draw_1 : decode cL_draw 1 = .ok (.bipush 7, 2) := by decide +kernel
theorem dL_draw_3 : decode cL_draw 3 = .ok (.invokevirtual 13, 3) := by decide +kernel
theorem dL_draw_6 : decode cL_draw 6 = .ok (.istore_n 3, 1) := by decide +kernel
theorem dL_draw_7 : decode cL_draw 7 = .ok (.aload_n 0, 1) := by decide +kernel
theorem dL_draw_8 : decode cL_draw 8 = .ok (.iconst 5, 1) := by decide +kernel
theorem dL_draw_9 : decode cL_draw 9 = .ok (.invokevirtual 13, 3) := by decide +kernel
theorem dL_draw_12 : decode cL_draw 12 = .ok (.istore 4, 2) := by decide +kernel
theorem dL_draw_14 : decode cL_draw 14 = .ok (.iconst 0, 1) := by decide +kernel
theorem dL_draw_15 : decode cL_draw 15 = .ok (.istore 5, 2) := by decide +kernel
theorem dL_draw_17 : decode cL_draw 17 = .ok (.iconst 0, 1) := by decide +kernel
theorem dL_draw_18 : decode cL_draw 18 = .ok (.istore 6, 2) := by decide +kernel
theorem dL_draw_20 : decode cL_draw 20 = .ok (.iload 6, 2) := by decide +kernel
theorem dL_draw_22 : decode cL_draw 22 = .ok (.bipush 6, 2) := by decide +kernel
theorem dL_draw_24 : decode cL_draw 24 = .ok (.if_icmp .ge 34, 3) := by decide +kernel
theorem dL_draw_27 : decode cL_draw 27 = .ok (.iload 5, 2) := by decide +kernel
theorem dL_draw_29 : decode cL_draw 29 = .ok (.iload_n 1, 1) := by decide +kernel
theorem dL_draw_30 : decode cL_draw 30 = .ok (.iload 6, 2) := by decide +kernel
theorem dL_draw_32 : decode cL_draw 32 = .ok (.ishr, 1) := by decide +kernel
theorem dL_draw_33 : decode cL_draw 33 = .ok (.iconst 1, 1) := by decide +kernel
theorem dL_draw_34 : decode cL_draw 34 = .ok (.iand, 1) := by decide +kernel
theorem dL_draw_35 : decode cL_draw 35 = .ok (.ifCond .ne 13, 3) := by decide +kernel
theorem dL_draw_38 : decode cL_draw 38 = .ok (.aload_n 0, 1) := by decide +kernel
theorem dL_draw_39 : decode cL_draw 39 = .ok (.iload 6, 2) := by decide +kernel
theorem dL_draw_41 : decode cL_draw 41 = .ok (.iconst 1, 1) := by decide +kernel
theorem dL_draw_42 : decode cL_draw 42 = .ok (.invokevirtual 19, 3) := by decide +kernel
theorem dL_draw_45 : decode cL_draw 45 = .ok (.goto 4, 3) := by decide +kernel
theorem dL_draw_48 : decode cL_draw 48 = .ok (.iconst 0, 1) := by decide +kernel
theorem dL_draw_49 : decode cL_draw 49 = .ok (.iadd, 1) := by decide +kernel
theorem dL_draw_50 : decode cL_draw 50 = .ok (.istore 5, 2) := by decide +kernel
theorem dL_draw_52 : decode cL_draw 52 = .ok (.iinc 6 1, 3) := by decide +kernel
theorem dL_draw_55 : decode cL_draw 55 = .ok (.goto (-35), 3) := by decide +kernel
theorem dL_draw_58 : decode cL_draw 58 = .ok (.aload_n 0, 1) := by decide +kernel
theorem dL_draw_59 : decode cL_draw 59 = .ok (.iload_n 1, 1) := by decide +kernel
theorem dL_draw_60 : decode cL_draw 60 = .ok (.iload_n 2, 1) := by decide +kernel
theorem dL_draw_61 : decode cL_draw 61 = .ok (.invokevirtual 40, 3) := by decide +kernel
theorem dL_draw_64 : decode cL_draw 64 = .ok (.istore 6, 2) := by decide +kernel
