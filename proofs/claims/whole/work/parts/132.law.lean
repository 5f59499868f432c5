theorem d_L_law_0 : decode mL_law.2.1 0 = .ok (.new 8, 3) := by decide +kernel
theorem d_L_law_3 : decode mL_law.2.1 3 = .ok (.dup, 1) := by decide +kernel
theorem d_L_law_4 : decode mL_law.2.1 4 = .ok (.invokespecial 130, 3) := by decide +kernel
theorem d_L_law_7 : decode mL_law.2.1 7 = .ok (.astore_n 1, 1) := by decide +kernel
theorem d_L_law_8 : decode mL_law.2.1 8 = .ok (.new 131, 3) := by decide +kernel
theorem d_L_law_11 : decode mL_law.2.1 11 = .ok (.dup, 1) := by decide +kernel
theorem d_L_law_12 : decode mL_law.2.1 12 = .ok (.invokespecial 133, 3) := by decide +kernel
theorem d_L_law_15 : decode mL_law.2.1 15 = .ok (.astore_n 2, 1) := by decide +kernel
theorem d_L_law_16 : decode mL_law.2.1 16 = .ok (.iconst 1, 1) := by decide +kernel
theorem d_L_law_17 : decode mL_law.2.1 17 = .ok (.newarray .long, 2) := by decide +kernel
theorem d_L_law_19 : decode mL_law.2.1 19 = .ok (.astore_n 3, 1) := by decide +kernel
theorem d_L_law_20 : decode mL_law.2.1 20 = .ok (.iconst 1, 1) := by decide +kernel
theorem d_L_law_21 : decode mL_law.2.1 21 = .ok (.newarray .double, 2) := by decide +kernel
theorem d_L_law_23 : decode mL_law.2.1 23 = .ok (.astore 4, 2) := by decide +kernel
theorem d_L_law_25 : decode mL_law.2.1 25 = .ok (.iconst 0, 1) := by decide +kernel
theorem d_L_law_26 : decode mL_law.2.1 26 = .ok (.istore 5, 2) := by decide +kernel
theorem d_L_law_28 : decode mL_law.2.1 28 = .ok (.iload 5, 2) := by decide +kernel
theorem d_L_law_30 : decode mL_law.2.1 30 = .ok (.aload_n 0, 1) := by decide +kernel
theorem d_L_law_31 : decode mL_law.2.1 31 = .ok (.arraylength, 1) := by decide +kernel
theorem d_L_law_32 : decode mL_law.2.1 32 = .ok (.bipush 6, 2) := by decide +kernel
theorem d_L_law_34 : decode mL_law.2.1 34 = .ok (.isub, 1) := by decide +kernel
theorem d_L_law_35 : decode mL_law.2.1 35 = .ok (.if_icmp .gt 2505, 3) := by decide +kernel
theorem d_L_law_38 : decode mL_law.2.1 38 = .ok (.aload_n 0, 1) := by decide +kernel
theorem d_L_law_39 : decode mL_law.2.1 39 = .ok (.iload 5, 2) := by decide +kernel
theorem d_L_law_41 : decode mL_law.2.1 41 = .ok (.iaload, 1) := by decide +kernel
theorem d_L_law_42 : decode mL_law.2.1 42 = .ok (.bipush 63, 2) := by decide +kernel
theorem d_L_law_44 : decode mL_law.2.1 44 = .ok (.iand, 1) := by decide +kernel
theorem d_L_law_45 : decode mL_law.2.1 45 = .ok (.tableswitch 2489 0 33 #[151, 219, 275, 371, 455, 523, 591, 675, 743, 811, 879, 947, 1039, 1095, 1187, 1255, 1323, 1379, 1475, 1531, 1635, 1691, 1759, 1851, 1919, 2003, 2087, 2143, 2208, 2286, 2344, 2388, 2432, 2445], 151) := by decide +kernel
theorem d_L_law_196 : decode mL_law.2.1 196 = .ok (.aload_n 1, 1) := by decide +kernel
theorem d_L_law_197 : decode mL_law.2.1 197 = .ok (.aload_n 0, 1) := by decide +kernel
theorem d_L_law_198 : decode mL_law.2.1 198 = .ok (.iload 5, 2) := by decide +kernel
theorem d_L_law_200 : decode mL_law.2.1 200 = .ok (.iconst 1, 1) := by decide +kernel
theorem d_L_law_201 : decode mL_law.2.1 201 = .ok (.iadd, 1) := by decide +kernel
theorem d_L_law_202 : decode mL_law.2.1 202 = .ok (.iaload, 1) := by decide +kernel
theorem d_L_law_203 : decode mL_law.2.1 203 = .ok (.aload_n 0, 1) := by decide +kernel
theorem d_L_law_204 : decode mL_law.2.1 204 = .ok (.iload 5, 2) := by decide +kernel
theorem d_L_law_206 : decode mL_law.2.1 206 = .ok (.iconst 2, 1) := by decide +kernel
theorem d_L_law_207 : decode mL_law.2.1 207 = .ok (.iadd, 1) := by decide +kernel
theorem d_L_law_208 : decode mL_law.2.1 208 = .ok (.iaload, 1) := by decide +kernel
theorem d_L_law_209 : decode mL_law.2.1 209 = .ok (.aload_n 3, 1) := by decide +kernel
theorem d_L_law_210 : decode mL_law.2.1 210 = .ok (.invokestatic 134, 3) := by decide +kernel
theorem d_L_law_213 : decode mL_law.2.1 213 = .ok (.istore 6, 2) := by decide +kernel
theorem d_L_law_215 : decode mL_law.2.1 215 = .ok (.aload_n 2, 1) := by decide +kernel
theorem d_L_law_216 : decode mL_law.2.1 216 = .ok (.aload_n 0, 1) := by decide +kernel
theorem d_L_law_217 : decode mL_law.2.1 217 = .ok (.iload 5, 2) := by decide +kernel
theorem d_L_law_219 : decode mL_law.2.1 219 = .ok (.iconst 1, 1) := by decide +kernel
theorem d_L_law_220 : decode mL_law.2.1 220 = .ok (.iadd, 1) := by decide +kernel
theorem d_L_law_221 : decode mL_law.2.1 221 = .ok (.iaload, 1) := by decide +kernel
theorem d_L_law_222 : decode mL_law.2.1 222 = .ok (.aload_n 0, 1) := by decide +kernel
theorem d_L_law_223 : decode mL_law.2.1 223 = .ok (.iload 5, 2) := by decide +kernel
theorem d_L_law_225 : decode mL_law.2.1 225 = .ok (.iconst 2, 1) := by decide +kernel
theorem d_L_law_226 : decode mL_law.2.1 226 = .ok (.iadd, 1) := by decide +kernel
theorem d_L_law_227 : decode mL_law.2.1 227 = .ok (.iaload, 1) := by decide +kernel
theorem d_L_law_228 : decode mL_law.2.1 228 = .ok (.invokevirtual 139, 3) := by decide +kernel
theorem d_L_law_231 : decode mL_law.2.1 231 = .ok (.istore 7, 2) := by decide +kernel
theorem d_L_law_233 : decode mL_law.2.1 233 = .ok (.aload_n 2, 1) := by decide +kernel
theorem d_L_law_234 : decode mL_law.2.1 234 = .ok (.invokevirtual 140, 3) := by decide +kernel
theorem d_L_law_237 : decode mL_law.2.1 237 = .ok (.iload 6, 2) := by decide +kernel
theorem d_L_law_239 : decode mL_law.2.1 239 = .ok (.if_icmp .eq 5, 3) := by decide +kernel
theorem d_L_law_242 : decode mL_law.2.1 242 = .ok (.iconst 0, 1) := by decide +kernel
theorem d_L_law_243 : decode mL_law.2.1 243 = .ok (.ireturn, 1) := by decide +kernel
theorem d_L_law_244 : decode mL_law.2.1 244 = .ok (.iload 6, 2) := by decide +kernel
theorem d_L_law_246 : decode mL_law.2.1 246 = .ok (.ifCond .ne 15, 3) := by decide +kernel
theorem d_L_law_249 : decode mL_law.2.1 249 = .ok (.aload_n 3, 1) := by decide +kernel
theorem d_L_law_250 : decode mL_law.2.1 250 = .ok (.iconst 0, 1) := by decide +kernel
theorem d_L_law_251 : decode mL_law.2.1 251 = .ok (.laload, 1) := by decide +kernel
theorem d_L_law_252 : decode mL_law.2.1 252 = .ok (.iload 7, 2) := by decide +kernel
theorem d_L_law_254 : decode mL_law.2.1 254 = .ok (.i2l, 1) := by decide +kernel
theorem d_L_law_255 : decode mL_law.2.1 255 = .ok (.lcmp, 1) := by decide +kernel
theorem d_L_law_256 : decode mL_law.2.1 256 = .ok (.ifCond .eq 5, 3) := by decide +kernel
theorem d_L_law_259 : decode mL_law.2.1 259 = .ok (.iconst 0, 1) := by decide +kernel
theorem d_L_law_260 : decode mL_law.2.1 260 = .ok (.ireturn, 1) := by decide +kernel
theorem d_L_law_261 : decode mL_law.2.1 261 = .ok (.goto 2273, 3) := by decide +kernel
theorem d_L_law_264 : decode mL_law.2.1 264 = .ok (.aload_n 1, 1) := by decide +kernel
theorem d_L_law_265 : decode mL_law.2.1 265 = .ok (.aload_n 0, 1) := by decide +kernel
theorem d_L_law_266 : decode mL_law.2.1 266 = .ok (.iload 5, 2) := by decide +kernel
theorem d_L_law_268 : decode mL_law.2.1 268 = .ok (.iconst 1, 1) := by decide +kernel
theorem d_L_law_269 : decode mL_law.2.1 269 = .ok (.iadd, 1) := by decide +kernel
theorem d_L_law_270 : decode mL_law.2.1 270 = .ok (.iaload, 1) := by decide +kernel
theorem d_L_law_271 : decode mL_law.2.1 271 = .ok (.aload_n 3, 1) := by decide +kernel
theorem d_L_law_272 : decode mL_law.2.1 272 = .ok (.invokestatic 143, 3) := by decide +kernel
theorem d_L_law_275 : decode mL_law.2.1 275 = .ok (.istore 6, 2) := by decide +kernel
theorem d_L_law_277 : decode mL_law.2.1 277 = .ok (.aload_n 2, 1) := by decide +kernel
theorem d_L_law_278 : decode mL_law.2.1 278 = .ok (.aload_n 0, 1) := by decide +kernel
theorem d_L_law_279 : decode mL_law.2.1 279 = .ok (.iload 5, 2) := by decide +kernel
theorem d_L_law_281 : decode mL_law.2.1 281 = .ok (.iconst 1, 1) := by decide +kernel
theorem d_L_law_282 : decode mL_law.2.1 282 = .ok (.iadd, 1) := by decide +kernel
theorem d_L_law_283 : decode mL_law.2.1 283 = .ok (.iaload, 1) := by decide +kernel
theorem d_L_law_284 : decode mL_law.2.1 284 = .ok (.invokevirtual 146, 3) := by decide +kernel
theorem d_L_law_287 : decode mL_law.2.1 287 = .ok (.istore 7, 2) := by decide +kernel
theorem d_L_law_289 : decode mL_law.2.1 289 = .ok (.aload_n 2, 1) := by decide +kernel
theorem d_L_law_290 : decode mL_law.2.1 290 = .ok (.invokevirtual 140, 3) := by decide +kernel
theorem d_L_law_293 : decode mL_law.2.1 293 = .ok (.iload 6, 2) := by decide +kernel
theorem d_L_law_295 : decode mL_law.2.1 295 = .ok (.if_icmp .eq 5, 3) := by decide +kernel
theorem d_L_law_298 : decode mL_law.2.1 298 = .ok (.iconst 0, 1) := by decide +kernel
theorem d_L_law_299 : decode mL_law.2.1 299 = .ok (.ireturn, 1) := by decide +kernel
theorem d_L_law_300 : decode mL_law.2.1 300 = .ok (.iload 6, 2) := by decide +kernel
theorem d_L_law_302 : decode mL_law.2.1 302 = .ok (.ifCond .ne 15, 3) := by decide +kernel
theorem d_L_law_305 : decode mL_law.2.1 305 = .ok (.aload_n 3, 1) := by decide +kernel
theorem d_L_law_306 : decode mL_law.2.1 306 = .ok (.iconst 0, 1) := by decide +kernel
theorem d_L_law_307 : decode mL_law.2.1 307 = .ok (.laload, 1) := by decide +kernel
theorem d_L_law_308 : decode mL_law.2.1 308 = .ok (.iload 7, 2) := by decide +kernel
theorem d_L_law_310 : decode mL_law.2.1 310 = .ok (.i2l, 1) := by decide +kernel
theorem d_L_law_311 : decode mL_law.2.1 311 = .ok (.lcmp, 1) := by decide +kernel
theorem d_L_law_312 : decode mL_law.2.1 312 = .ok (.ifCond .eq 5, 3) := by decide +kernel
theorem d_L_law_315 : decode mL_law.2.1 315 = .ok (.iconst 0, 1) := by decide +kernel
theorem d_L_law_316 : decode mL_law.2.1 316 = .ok (.ireturn, 1) := by decide +kernel
theorem d_L_law_317 : decode mL_law.2.1 317 = .ok (.goto 2217, 3) := by decide +kernel
theorem d_L_law_320 : decode mL_law.2.1 320 = .ok (.aload_n 1, 1) := by decide +kernel
theorem d_L_law_321 : decode mL_law.2.1 321 = .ok (.aload_n 0, 1) := by decide +kernel
theorem d_L_law_322 : decode mL_law.2.1 322 = .ok (.iload 5, 2) := by decide +kernel
theorem d_L_law_324 : decode mL_law.2.1 324 = .ok (.iconst 1, 1) := by decide +kernel
theorem d_L_law_325 : decode mL_law.2.1 325 = .ok (.iadd, 1) := by decide +kernel
theorem d_L_law_326 : decode mL_law.2.1 326 = .ok (.iaload, 1) := by decide +kernel
theorem d_L_law_327 : decode mL_law.2.1 327 = .ok (.aload_n 0, 1) := by decide +kernel
theorem d_L_law_328 : decode mL_law.2.1 328 = .ok (.iload 5, 2) := by decide +kernel
theorem d_L_law_330 : decode mL_law.2.1 330 = .ok (.iconst 2, 1) := by decide +kernel
theorem d_L_law_331 : decode mL_law.2.1 331 = .ok (.iadd, 1) := by decide +kernel
theorem d_L_law_332 : decode mL_law.2.1 332 = .ok (.iaload, 1) := by decide +kernel
theorem d_L_law_333 : decode mL_law.2.1 333 = .ok (.aload_n 0, 1) := by decide +kernel
theorem d_L_law_334 : decode mL_law.2.1 334 = .ok (.iload 5, 2) := by decide +kernel
theorem d_L_law_336 : decode mL_law.2.1 336 = .ok (.iconst 3, 1) := by decide +kernel
theorem d_L_law_337 : decode mL_law.2.1 337 = .ok (.iadd, 1) := by decide +kernel
theorem d_L_law_338 : decode mL_law.2.1 338 = .ok (.iaload, 1) := by decide +kernel
theorem d_L_law_339 : decode mL_law.2.1 339 = .ok (.ifCond .eq 7, 3) := by decide +kernel
theorem d_L_law_342 : decode mL_law.2.1 342 = .ok (.iconst 1, 1) := by decide +kernel
theorem d_L_law_343 : decode mL_law.2.1 343 = .ok (.goto 4, 3) := by decide +kernel
theorem d_L_law_346 : decode mL_law.2.1 346 = .ok (.iconst 0, 1) := by decide +kernel
theorem d_L_law_347 : decode mL_law.2.1 347 = .ok (.aload_n 3, 1) := by decide +kernel
theorem d_L_law_348 : decode mL_law.2.1 348 = .ok (.invokestatic 147, 3) := by decide +kernel
theorem d_L_law_351 : decode mL_law.2.1 351 = .ok (.istore 6, 2) := by decide +kernel
theorem d_L_law_353 : decode mL_law.2.1 353 = .ok (.aload_n 2, 1) := by decide +kernel
theorem d_L_law_354 : decode mL_law.2.1 354 = .ok (.aload_n 0, 1) := by decide +kernel
theorem d_L_law_355 : decode mL_law.2.1 355 = .ok (.iload 5, 2) := by decide +kernel
theorem d_L_law_357 : decode mL_law.2.1 357 = .ok (.iconst 1, 1) := by decide +kernel
theorem d_L_law_358 : decode mL_law.2.1 358 = .ok (.iadd, 1) := by decide +kernel
theorem d_L_law_359 : decode mL_law.2.1 359 = .ok (.iaload, 1) := by decide +kernel
theorem d_L_law_360 : decode mL_law.2.1 360 = .ok (.aload_n 0, 1) := by decide +kernel
theorem d_L_law_361 : decode mL_law.2.1 361 = .ok (.iload 5, 2) := by decide +kernel
theorem d_L_law_363 : decode mL_law.2.1 363 = .ok (.iconst 2, 1) := by decide +kernel
theorem d_L_law_364 : decode mL_law.2.1 364 = .ok (.iadd, 1) := by decide +kernel
theorem d_L_law_365 : decode mL_law.2.1 365 = .ok (.iaload, 1) := by decide +kernel
theorem d_L_law_366 : decode mL_law.2.1 366 = .ok (.aload_n 0, 1) := by decide +kernel
theorem d_L_law_367 : decode mL_law.2.1 367 = .ok (.iload 5, 2) := by decide +kernel
theorem d_L_law_369 : decode mL_law.2.1 369 = .ok (.iconst 3, 1) := by decide +kernel
theorem d_L_law_370 : decode mL_law.2.1 370 = .ok (.iadd, 1) := by decide +kernel
theorem d_L_law_371 : decode mL_law.2.1 371 = .ok (.iaload, 1) := by decide +kernel
theorem d_L_law_372 : decode mL_law.2.1 372 = .ok (.ifCond .eq 7, 3) := by decide +kernel
theorem d_L_law_375 : decode mL_law.2.1 375 = .ok (.iconst 1, 1) := by decide +kernel
theorem d_L_law_376 : decode mL_law.2.1 376 = .ok (.goto 4, 3) := by decide +kernel
theorem d_L_law_379 : decode mL_law.2.1 379 = .ok (.iconst 0, 1) := by decide +kernel
theorem d_L_law_380 : decode mL_law.2.1 380 = .ok (.invokevirtual 150, 3) := by decide +kernel
theorem d_L_law_383 : decode mL_law.2.1 383 = .ok (.istore 7, 2) := by decide +kernel
theorem d_L_law_385 : decode mL_law.2.1 385 = .ok (.aload_n 2, 1) := by decide +kernel
theorem d_L_law_386 : decode mL_law.2.1 386 = .ok (.invokevirtual 140, 3) := by decide +kernel
theorem d_L_law_389 : decode mL_law.2.1 389 = .ok (.iload 6, 2) := by decide +kernel
theorem d_L_law_391 : decode mL_law.2.1 391 = .ok (.if_icmp .eq 5, 3) := by decide +kernel
theorem d_L_law_394 : decode mL_law.2.1 394 = .ok (.iconst 0, 1) := by decide +kernel
theorem d_L_law_395 : decode mL_law.2.1 395 = .ok (.ireturn, 1) := by decide +kernel
theorem d_L_law_396 : decode mL_law.2.1 396 = .ok (.iload 6, 2) := by decide +kernel
theorem d_L_law_398 : decode mL_law.2.1 398 = .ok (.ifCond .ne 15, 3) := by decide +kernel
theorem d_L_law_401 : decode mL_law.2.1 401 = .ok (.aload_n 3, 1) := by decide +kernel
theorem d_L_law_402 : decode mL_law.2.1 402 = .ok (.iconst 0, 1) := by decide +kernel
theorem d_L_law_403 : decode mL_law.2.1 403 = .ok (.laload, 1) := by decide +kernel
theorem d_L_law_404 : decode mL_law.2.1 404 = .ok (.iload 7, 2) := by decide +kernel
theorem d_L_law_406 : decode mL_law.2.1 406 = .ok (.i2l, 1) := by decide +kernel
theorem d_L_law_407 : decode mL_law.2.1 407 = .ok (.lcmp, 1) := by decide +kernel
theorem d_L_law_408 : decode mL_law.2.1 408 = .ok (.ifCond .eq 5, 3) := by decide +kernel
theorem d_L_law_411 : decode mL_law.2.1 411 = .ok (.iconst 0, 1) := by decide +kernel
theorem d_L_law_412 : decode mL_law.2.1 412 = .ok (.ireturn, 1) := by decide +kernel
theorem d_L_law_413 : decode mL_law.2.1 413 = .ok (.goto 2121, 3) := by decide +kernel
theorem d_L_law_416 : decode mL_law.2.1 416 = .ok (.aload_n 1, 1) := by decide +kernel
theorem d_L_law_417 : decode mL_law.2.1 417 = .ok (.aload_n 0, 1) := by decide +kernel
theorem d_L_law_418 : decode mL_law.2.1 418 = .ok (.iload 5, 2) := by decide +kernel
theorem d_L_law_420 : decode mL_law.2.1 420 = .ok (.iconst 1, 1) := by decide +kernel
theorem d_L_law_421 : decode mL_law.2.1 421 = .ok (.iadd, 1) := by decide +kernel
theorem d_L_law_422 : decode mL_law.2.1 422 = .ok (.iaload, 1) := by decide +kernel
theorem d_L_law_423 : decode mL_law.2.1 423 = .ok (.aload_n 0, 1) := by decide +kernel
theorem d_L_law_424 : decode mL_law.2.1 424 = .ok (.iload 5, 2) := by decide +kernel
theorem d_L_law_426 : decode mL_law.2.1 426 = .ok (.iconst 2, 1) := by decide +kernel
theorem d_L_law_427 : decode mL_law.2.1 427 = .ok (.iadd, 1) := by decide +kernel
theorem d_L_law_428 : decode mL_law.2.1 428 = .ok (.iaload, 1) := by decide +kernel
theorem d_L_law_429 : decode mL_law.2.1 429 = .ok (.ifCond .eq 7, 3) := by decide +kernel
theorem d_L_law_432 : decode mL_law.2.1 432 = .ok (.iconst 1, 1) := by decide +kernel
theorem d_L_law_433 : decode mL_law.2.1 433 = .ok (.goto 4, 3) := by decide +kernel
theorem d_L_law_436 : decode mL_law.2.1 436 = .ok (.iconst 0, 1) := by decide +kernel
theorem d_L_law_437 : decode mL_law.2.1 437 = .ok (.aload_n 3, 1) := by decide +kernel
theorem d_L_law_438 : decode mL_law.2.1 438 = .ok (.invokestatic 151, 3) := by decide +kernel
theorem d_L_law_441 : decode mL_law.2.1 441 = .ok (.istore 6, 2) := by decide +kernel
theorem d_L_law_443 : decode mL_law.2.1 443 = .ok (.aload_n 2, 1) := by decide +kernel
theorem d_L_law_444 : decode mL_law.2.1 444 = .ok (.aload_n 0, 1) := by decide +kernel
theorem d_L_law_445 : decode mL_law.2.1 445 = .ok (.iload 5, 2) := by decide +kernel
theorem d_L_law_447 : decode mL_law.2.1 447 = .ok (.iconst 1, 1) := by decide +kernel
theorem d_L_law_448 : decode mL_law.2.1 448 = .ok (.iadd, 1) := by decide +kernel
theorem d_L_law_449 : decode mL_law.2.1 449 = .ok (.iaload, 1) := by decide +kernel
theorem d_L_law_450 : decode mL_law.2.1 450 = .ok (.aload_n 0, 1) := by decide +kernel
theorem d_L_law_451 : decode mL_law.2.1 451 = .ok (.iload 5, 2) := by decide +kernel
theorem d_L_law_453 : decode mL_law.2.1 453 = .ok (.iconst 2, 1) := by decide +kernel
theorem d_L_law_454 : decode mL_law.2.1 454 = .ok (.iadd, 1) := by decide +kernel
theorem d_L_law_455 : decode mL_law.2.1 455 = .ok (.iaload, 1) := by decide +kernel
theorem d_L_law_456 : decode mL_law.2.1 456 = .ok (.ifCond .eq 7, 3) := by decide +kernel
theorem d_L_law_459 : decode mL_law.2.1 459 = .ok (.iconst 1, 1) := by decide +kernel
theorem d_L_law_460 : decode mL_law.2.1 460 = .ok (.goto 4, 3) := by decide +kernel
theorem d_L_law_463 : decode mL_law.2.1 463 = .ok (.iconst 0, 1) := by decide +kernel
theorem d_L_law_464 : decode mL_law.2.1 464 = .ok (.invokevirtual 154, 3) := by decide +kernel
theorem d_L_law_467 : decode mL_law.2.1 467 = .ok (.istore 7, 2) := by decide +kernel
theorem d_L_law_469 : decode mL_law.2.1 469 = .ok (.aload_n 2, 1) := by decide +kernel
theorem d_L_law_470 : decode mL_law.2.1 470 = .ok (.invokevirtual 140, 3) := by decide +kernel
theorem d_L_law_473 : decode mL_law.2.1 473 = .ok (.iload 6, 2) := by decide +kernel
theorem d_L_law_475 : decode mL_law.2.1 475 = .ok (.if_icmp .eq 5, 3) := by decide +kernel
theorem d_L_law_478 : decode mL_law.2.1 478 = .ok (.iconst 0, 1) := by decide +kernel
theorem d_L_law_479 : decode mL_law.2.1 479 = .ok (.ireturn, 1) := by decide +kernel
theorem d_L_law_480 : decode mL_law.2.1 480 = .ok (.iload 6, 2) := by decide +kernel
theorem d_L_law_482 : decode mL_law.2.1 482 = .ok (.ifCond .ne 15, 3) := by decide +kernel
theorem d_L_law_485 : decode mL_law.2.1 485 = .ok (.aload_n 3, 1) := by decide +kernel
theorem d_L_law_486 : decode mL_law.2.1 486 = .ok (.iconst 0, 1) := by decide +kernel
theorem d_L_law_487 : decode mL_law.2.1 487 = .ok (.laload, 1) := by decide +kernel
theorem d_L_law_488 : decode mL_law.2.1 488 = .ok (.iload 7, 2) := by decide +kernel
theorem d_L_law_490 : decode mL_law.2.1 490 = .ok (.i2l, 1) := by decide +kernel
theorem d_L_law_491 : decode mL_law.2.1 491 = .ok (.lcmp, 1) := by decide +kernel
theorem d_L_law_492 : decode mL_law.2.1 492 = .ok (.ifCond .eq 5, 3) := by decide +kernel
theorem d_L_law_495 : decode mL_law.2.1 495 = .ok (.iconst 0, 1) := by decide +kernel
theorem d_L_law_496 : decode mL_law.2.1 496 = .ok (.ireturn, 1) := by decide +kernel
theorem d_L_law_497 : decode mL_law.2.1 497 = .ok (.goto 2037, 3) := by decide +kernel
theorem d_L_law_500 : decode mL_law.2.1 500 = .ok (.aload_n 1, 1) := by decide +kernel
theorem d_L_law_501 : decode mL_law.2.1 501 = .ok (.aload_n 0, 1) := by decide +kernel
theorem d_L_law_502 : decode mL_law.2.1 502 = .ok (.iload 5, 2) := by decide +kernel
theorem d_L_law_504 : decode mL_law.2.1 504 = .ok (.iconst 1, 1) := by decide +kernel
theorem d_L_law_505 : decode mL_law.2.1 505 = .ok (.iadd, 1) := by decide +kernel
theorem d_L_law_506 : decode mL_law.2.1 506 = .ok (.iaload, 1) := by decide +kernel
theorem d_L_law_507 : decode mL_law.2.1 507 = .ok (.aload_n 0, 1) := by decide +kernel
theorem d_L_law_508 : decode mL_law.2.1 508 = .ok (.iload 5, 2) := by decide +kernel
theorem d_L_law_510 : decode mL_law.2.1 510 = .ok (.iconst 2, 1) := by decide +kernel
theorem d_L_law_511 : decode mL_law.2.1 511 = .ok (.iadd, 1) := by decide +kernel
theorem d_L_law_512 : decode mL_law.2.1 512 = .ok (.iaload, 1) := by decide +kernel
theorem d_L_law_513 : decode mL_law.2.1 513 = .ok (.aload_n 3, 1) := by decide +kernel
theorem d_L_law_514 : decode mL_law.2.1 514 = .ok (.invokestatic 155, 3) := by decide +kernel
theorem d_L_law_517 : decode mL_law.2.1 517 = .ok (.istore 6, 2) := by decide +kernel
theorem d_L_law_519 : decode mL_law.2.1 519 = .ok (.aload_n 2, 1) := by decide +kernel
theorem d_L_law_520 : decode mL_law.2.1 520 = .ok (.aload_n 0, 1) := by decide +kernel
theorem d_L_law_521 : decode mL_law.2.1 521 = .ok (.iload 5, 2) := by decide +kernel
theorem d_L_law_523 : decode mL_law.2.1 523 = .ok (.iconst 1, 1) := by decide +kernel
theorem d_L_law_524 : decode mL_law.2.1 524 = .ok (.iadd, 1) := by decide +kernel
theorem d_L_law_525 : decode mL_law.2.1 525 = .ok (.iaload, 1) := by decide +kernel
theorem d_L_law_526 : decode mL_law.2.1 526 = .ok (.aload_n 0, 1) := by decide +kernel
theorem d_L_law_527 : decode mL_law.2.1 527 = .ok (.iload 5, 2) := by decide +kernel
theorem d_L_law_529 : decode mL_law.2.1 529 = .ok (.iconst 2, 1) := by decide +kernel
theorem d_L_law_530 : decode mL_law.2.1 530 = .ok (.iadd, 1) := by decide +kernel
theorem d_L_law_531 : decode mL_law.2.1 531 = .ok (.iaload, 1) := by decide +kernel
theorem d_L_law_532 : decode mL_law.2.1 532 = .ok (.invokevirtual 157, 3) := by decide +kernel
theorem d_L_law_535 : decode mL_law.2.1 535 = .ok (.istore 7, 2) := by decide +kernel
theorem d_L_law_537 : decode mL_law.2.1 537 = .ok (.aload_n 2, 1) := by decide +kernel
theorem d_L_law_538 : decode mL_law.2.1 538 = .ok (.invokevirtual 140, 3) := by decide +kernel
theorem d_L_law_541 : decode mL_law.2.1 541 = .ok (.iload 6, 2) := by decide +kernel
theorem d_L_law_543 : decode mL_law.2.1 543 = .ok (.if_icmp .eq 5, 3) := by decide +kernel
theorem d_L_law_546 : decode mL_law.2.1 546 = .ok (.iconst 0, 1) := by decide +kernel
theorem d_L_law_547 : decode mL_law.2.1 547 = .ok (.ireturn, 1) := by decide +kernel
theorem d_L_law_548 : decode mL_law.2.1 548 = .ok (.iload 6, 2) := by decide +kernel
theorem d_L_law_550 : decode mL_law.2.1 550 = .ok (.ifCond .ne 15, 3) := by decide +kernel
theorem d_L_law_553 : decode mL_law.2.1 553 = .ok (.aload_n 3, 1) := by decide +kernel
theorem d_L_law_554 : decode mL_law.2.1 554 = .ok (.iconst 0, 1) := by decide +kernel
theorem d_L_law_555 : decode mL_law.2.1 555 = .ok (.laload, 1) := by decide +kernel
theorem d_L_law_556 : decode mL_law.2.1 556 = .ok (.iload 7, 2) := by decide +kernel
theorem d_L_law_558 : decode mL_law.2.1 558 = .ok (.i2l, 1) := by decide +kernel
theorem d_L_law_559 : decode mL_law.2.1 559 = .ok (.lcmp, 1) := by decide +kernel
theorem d_L_law_560 : decode mL_law.2.1 560 = .ok (.ifCond .eq 5, 3) := by decide +kernel
theorem d_L_law_563 : decode mL_law.2.1 563 = .ok (.iconst 0, 1) := by decide +kernel
theorem d_L_law_564 : decode mL_law.2.1 564 = .ok (.ireturn, 1) := by decide +kernel
theorem d_L_law_565 : decode mL_law.2.1 565 = .ok (.goto 1969, 3) := by decide +kernel
theorem d_L_law_568 : decode mL_law.2.1 568 = .ok (.aload_n 1, 1) := by decide +kernel
theorem d_L_law_569 : decode mL_law.2.1 569 = .ok (.aload_n 0, 1) := by decide +kernel
theorem d_L_law_570 : decode mL_law.2.1 570 = .ok (.iload 5, 2) := by decide +kernel
theorem d_L_law_572 : decode mL_law.2.1 572 = .ok (.iconst 1, 1) := by decide +kernel
theorem d_L_law_573 : decode mL_law.2.1 573 = .ok (.iadd, 1) := by decide +kernel
theorem d_L_law_574 : decode mL_law.2.1 574 = .ok (.iaload, 1) := by decide +kernel
theorem d_L_law_575 : decode mL_law.2.1 575 = .ok (.aload_n 0, 1) := by decide +kernel
theorem d_L_law_576 : decode mL_law.2.1 576 = .ok (.iload 5, 2) := by decide +kernel
theorem d_L_law_578 : decode mL_law.2.1 578 = .ok (.iconst 2, 1) := by decide +kernel
theorem d_L_law_579 : decode mL_law.2.1 579 = .ok (.iadd, 1) := by decide +kernel
theorem d_L_law_580 : decode mL_law.2.1 580 = .ok (.iaload, 1) := by decide +kernel
theorem d_L_law_581 : decode mL_law.2.1 581 = .ok (.aload_n 3, 1) := by decide +kernel
theorem d_L_law_582 : decode mL_law.2.1 582 = .ok (.invokestatic 158, 3) := by decide +kernel
theorem d_L_law_585 : decode mL_law.2.1 585 = .ok (.istore 6, 2) := by decide +kernel
theorem d_L_law_587 : decode mL_law.2.1 587 = .ok (.aload_n 2, 1) := by decide +kernel
theorem d_L_law_588 : decode mL_law.2.1 588 = .ok (.aload_n 0, 1) := by decide +kernel
theorem d_L_law_589 : decode mL_law.2.1 589 = .ok (.iload 5, 2) := by decide +kernel
theorem d_L_law_591 : decode mL_law.2.1 591 = .ok (.iconst 1, 1) := by decide +kernel
theorem d_L_law_592 : decode mL_law.2.1 592 = .ok (.iadd, 1) := by decide +kernel
theorem d_L_law_593 : decode mL_law.2.1 593 = .ok (.iaload, 1) := by decide +kernel
theorem d_L_law_594 : decode mL_law.2.1 594 = .ok (.aload_n 0, 1) := by decide +kernel
theorem d_L_law_595 : decode mL_law.2.1 595 = .ok (.iload 5, 2) := by decide +kernel
theorem d_L_law_597 : decode mL_law.2.1 597 = .ok (.iconst 2, 1) := by decide +kernel
theorem d_L_law_598 : decode mL_law.2.1 598 = .ok (.iadd, 1) := by decide +kernel
theorem d_L_law_599 : decode mL_law.2.1 599 = .ok (.iaload, 1) := by decide +kernel
theorem d_L_law_600 : decode mL_law.2.1 600 = .ok (.invokevirtual 160, 3) := by decide +kernel
theorem d_L_law_603 : decode mL_law.2.1 603 = .ok (.istore 7, 2) := by decide +kernel
theorem d_L_law_605 : decode mL_law.2.1 605 = .ok (.aload_n 2, 1) := by decide +kernel
theorem d_L_law_606 : decode mL_law.2.1 606 = .ok (.invokevirtual 140, 3) := by decide +kernel
theorem d_L_law_609 : decode mL_law.2.1 609 = .ok (.iload 6, 2) := by decide +kernel
theorem d_L_law_611 : decode mL_law.2.1 611 = .ok (.if_icmp .eq 5, 3) := by decide +kernel
theorem d_L_law_614 : decode mL_law.2.1 614 = .ok (.iconst 0, 1) := by decide +kernel
theorem d_L_law_615 : decode mL_law.2.1 615 = .ok (.ireturn, 1) := by decide +kernel
theorem d_L_law_616 : decode mL_law.2.1 616 = .ok (.iload 6, 2) := by decide +kernel
theorem d_L_law_618 : decode mL_law.2.1 618 = .ok (.ifCond .ne 15, 3) := by decide +kernel
theorem d_L_law_621 : decode mL_law.2.1 621 = .ok (.aload_n 3, 1) := by decide +kernel
theorem d_L_law_622 : decode mL_law.2.1 622 = .ok (.iconst 0, 1) := by decide +kernel
theorem d_L_law_623 : decode mL_law.2.1 623 = .ok (.laload, 1) := by decide +kernel
theorem d_L_law_624 : decode mL_law.2.1 624 = .ok (.iload 7, 2) := by decide +kernel
theorem d_L_law_626 : decode mL_law.2.1 626 = .ok (.i2l, 1) := by decide +kernel
theorem d_L_law_627 : decode mL_law.2.1 627 = .ok (.lcmp, 1) := by decide +kernel
theorem d_L_law_628 : decode mL_law.2.1 628 = .ok (.ifCond .eq 5, 3) := by decide +kernel
theorem d_L_law_631 : decode mL_law.2.1 631 = .ok (.iconst 0, 1) := by decide +kernel
theorem d_L_law_632 : decode mL_law.2.1 632 = .ok (.ireturn, 1) := by decide +kernel
theorem d_L_law_633 : decode mL_law.2.1 633 = .ok (.goto 1901, 3) := by decide +kernel
theorem d_L_law_636 : decode mL_law.2.1 636 = .ok (.aload_n 1, 1) := by decide +kernel
theorem d_L_law_637 : decode mL_law.2.1 637 = .ok (.aload_n 0, 1) := by decide +kernel
theorem d_L_law_638 : decode mL_law.2.1 638 = .ok (.iload 5, 2) := by decide +kernel
theorem d_L_law_640 : decode mL_law.2.1 640 = .ok (.iconst 1, 1) := by decide +kernel
theorem d_L_law_641 : decode mL_law.2.1 641 = .ok (.iadd, 1) := by decide +kernel
theorem d_L_law_642 : decode mL_law.2.1 642 = .ok (.iaload, 1) := by decide +kernel
theorem d_L_law_643 : decode mL_law.2.1 643 = .ok (.aload_n 0, 1) := by decide +kernel
theorem d_L_law_644 : decode mL_law.2.1 644 = .ok (.iload 5, 2) := by decide +kernel
theorem d_L_law_646 : decode mL_law.2.1 646 = .ok (.iconst 2, 1) := by decide +kernel
theorem d_L_law_647 : decode mL_law.2.1 647 = .ok (.iadd, 1) := by decide +kernel
theorem d_L_law_648 : decode mL_law.2.1 648 = .ok (.iaload, 1) := by decide +kernel
theorem d_L_law_649 : decode mL_law.2.1 649 = .ok (.ifCond .eq 7, 3) := by decide +kernel
theorem d_L_law_652 : decode mL_law.2.1 652 = .ok (.iconst 1, 1) := by decide +kernel
theorem d_L_law_653 : decode mL_law.2.1 653 = .ok (.goto 4, 3) := by decide +kernel
theorem d_L_law_656 : decode mL_law.2.1 656 = .ok (.iconst 0, 1) := by decide +kernel
theorem d_L_law_657 : decode mL_law.2.1 657 = .ok (.aload_n 3, 1) := by decide +kernel
theorem d_L_law_658 : decode mL_law.2.1 658 = .ok (.invokestatic 161, 3) := by decide +kernel
theorem d_L_law_661 : decode mL_law.2.1 661 = .ok (.istore 6, 2) := by decide +kernel
theorem d_L_law_663 : decode mL_law.2.1 663 = .ok (.aload_n 2, 1) := by decide +kernel
theorem d_L_law_664 : decode mL_law.2.1 664 = .ok (.aload_n 0, 1) := by decide +kernel
theorem d_L_law_665 : decode mL_law.2.1 665 = .ok (.iload 5, 2) := by decide +kernel
theorem d_L_law_667 : decode mL_law.2.1 667 = .ok (.iconst 1, 1) := by decide +kernel
theorem d_L_law_668 : decode mL_law.2.1 668 = .ok (.iadd, 1) := by decide +kernel
theorem d_L_law_669 : decode mL_law.2.1 669 = .ok (.iaload, 1) := by decide +kernel
theorem d_L_law_670 : decode mL_law.2.1 670 = .ok (.aload_n 0, 1) := by decide +kernel
theorem d_L_law_671 : decode mL_law.2.1 671 = .ok (.iload 5, 2) := by decide +kernel
theorem d_L_law_673 : decode mL_law.2.1 673 = .ok (.iconst 2, 1) := by decide +kernel
theorem d_L_law_674 : decode mL_law.2.1 674 = .ok (.iadd, 1) := by decide +kernel
theorem d_L_law_675 : decode mL_law.2.1 675 = .ok (.iaload, 1) := by decide +kernel
theorem d_L_law_676 : decode mL_law.2.1 676 = .ok (.ifCond .eq 7, 3) := by decide +kernel
theorem d_L_law_679 : decode mL_law.2.1 679 = .ok (.iconst 1, 1) := by decide +kernel
theorem d_L_law_680 : decode mL_law.2.1 680 = .ok (.goto 4, 3) := by decide +kernel
theorem d_L_law_683 : decode mL_law.2.1 683 = .ok (.iconst 0, 1) := by decide +kernel
theorem d_L_law_684 : decode mL_law.2.1 684 = .ok (.invokevirtual 163, 3) := by decide +kernel
theorem d_L_law_687 : decode mL_law.2.1 687 = .ok (.istore 7, 2) := by decide +kernel
theorem d_L_law_689 : decode mL_law.2.1 689 = .ok (.aload_n 2, 1) := by decide +kernel
theorem d_L_law_690 : decode mL_law.2.1 690 = .ok (.invokevirtual 140, 3) := by decide +kernel
theorem d_L_law_693 : decode mL_law.2.1 693 = .ok (.iload 6, 2) := by decide +kernel
theorem d_L_law_695 : decode mL_law.2.1 695 = .ok (.if_icmp .eq 5, 3) := by decide +kernel
theorem d_L_law_698 : decode mL_law.2.1 698 = .ok (.iconst 0, 1) := by decide +kernel
theorem d_L_law_699 : decode mL_law.2.1 699 = .ok (.ireturn, 1) := by decide +kernel
theorem d_L_law_700 : decode mL_law.2.1 700 = .ok (.iload 6, 2) := by decide +kernel
theorem d_L_law_702 : decode mL_law.2.1 702 = .ok (.ifCond .ne 15, 3) := by decide +kernel
theorem d_L_law_705 : decode mL_law.2.1 705 = .ok (.aload_n 3, 1) := by decide +kernel
theorem d_L_law_706 : decode mL_law.2.1 706 = .ok (.iconst 0, 1) := by decide +kernel
theorem d_L_law_707 : decode mL_law.2.1 707 = .ok (.laload, 1) := by decide +kernel
theorem d_L_law_708 : decode mL_law.2.1 708 = .ok (.iload 7, 2) := by decide +kernel
theorem d_L_law_710 : decode mL_law.2.1 710 = .ok (.i2l, 1) := by decide +kernel
theorem d_L_law_711 : decode mL_law.2.1 711 = .ok (.lcmp, 1) := by decide +kernel
theorem d_L_law_712 : decode mL_law.2.1 712 = .ok (.ifCond .eq 5, 3) := by decide +kernel
theorem d_L_law_715 : decode mL_law.2.1 715 = .ok (.iconst 0, 1) := by decide +kernel
theorem d_L_law_716 : decode mL_law.2.1 716 = .ok (.ireturn, 1) := by decide +kernel
theorem d_L_law_717 : decode mL_law.2.1 717 = .ok (.goto 1817, 3) := by decide +kernel
theorem d_L_law_720 : decode mL_law.2.1 720 = .ok (.aload_n 1, 1) := by decide +kernel
theorem d_L_law_721 : decode mL_law.2.1 721 = .ok (.aload_n 0, 1) := by decide +kernel
theorem d_L_law_722 : decode mL_law.2.1 722 = .ok (.iload 5, 2) := by decide +kernel
theorem d_L_law_724 : decode mL_law.2.1 724 = .ok (.iconst 1, 1) := by decide +kernel
theorem d_L_law_725 : decode mL_law.2.1 725 = .ok (.iadd, 1) := by decide +kernel
theorem d_L_law_726 : decode mL_law.2.1 726 = .ok (.iaload, 1) := by decide +kernel
theorem d_L_law_727 : decode mL_law.2.1 727 = .ok (.aload_n 0, 1) := by decide +kernel
theorem d_L_law_728 : decode mL_law.2.1 728 = .ok (.iload 5, 2) := by decide +kernel
theorem d_L_law_730 : decode mL_law.2.1 730 = .ok (.iconst 2, 1) := by decide +kernel
theorem d_L_law_731 : decode mL_law.2.1 731 = .ok (.iadd, 1) := by decide +kernel
theorem d_L_law_732 : decode mL_law.2.1 732 = .ok (.iaload, 1) := by decide +kernel
theorem d_L_law_733 : decode mL_law.2.1 733 = .ok (.aload_n 3, 1) := by decide +kernel
theorem d_L_law_734 : decode mL_law.2.1 734 = .ok (.invokestatic 164, 3) := by decide +kernel
theorem d_L_law_737 : decode mL_law.2.1 737 = .ok (.istore 6, 2) := by decide +kernel
theorem d_L_law_739 : decode mL_law.2.1 739 = .ok (.aload_n 2, 1) := by decide +kernel
theorem d_L_law_740 : decode mL_law.2.1 740 = .ok (.aload_n 0, 1) := by decide +kernel
theorem d_L_law_741 : decode mL_law.2.1 741 = .ok (.iload 5, 2) := by decide +kernel
theorem d_L_law_743 : decode mL_law.2.1 743 = .ok (.iconst 1, 1) := by decide +kernel
theorem d_L_law_744 : decode mL_law.2.1 744 = .ok (.iadd, 1) := by decide +kernel
theorem d_L_law_745 : decode mL_law.2.1 745 = .ok (.iaload, 1) := by decide +kernel
