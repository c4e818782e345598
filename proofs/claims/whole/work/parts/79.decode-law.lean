/-! ===== the instructions of the law ===== -/
theorem d_L_law_0 : decode b_L_law 0 = .ok (.new 8, 3) := by decide +kernel
theorem d_L_law_3 : decode b_L_law 3 = .ok (.dup, 1) := by decide +kernel
theorem d_L_law_4 : decode b_L_law 4 = .ok (.invokespecial 127, 3) := by decide +kernel
theorem d_L_law_7 : decode b_L_law 7 = .ok (.astore_n 1, 1) := by decide +kernel
theorem d_L_law_8 : decode b_L_law 8 = .ok (.new 128, 3) := by decide +kernel
theorem d_L_law_11 : decode b_L_law 11 = .ok (.dup, 1) := by decide +kernel
theorem d_L_law_12 : decode b_L_law 12 = .ok (.invokespecial 130, 3) := by decide +kernel
theorem d_L_law_15 : decode b_L_law 15 = .ok (.astore_n 2, 1) := by decide +kernel
theorem d_L_law_16 : decode b_L_law 16 = .ok (.iconst 1, 1) := by decide +kernel
theorem d_L_law_17 : decode b_L_law 17 = .ok (.newarray .long, 2) := by decide +kernel
theorem d_L_law_19 : decode b_L_law 19 = .ok (.astore_n 3, 1) := by decide +kernel
theorem d_L_law_20 : decode b_L_law 20 = .ok (.iconst 1, 1) := by decide +kernel
theorem d_L_law_21 : decode b_L_law 21 = .ok (.newarray .double, 2) := by decide +kernel
theorem d_L_law_23 : decode b_L_law 23 = .ok (.astore 4, 2) := by decide +kernel
theorem d_L_law_25 : decode b_L_law 25 = .ok (.iconst 0, 1) := by decide +kernel
theorem d_L_law_26 : decode b_L_law 26 = .ok (.istore 5, 2) := by decide +kernel
theorem d_L_law_28 : decode b_L_law 28 = .ok (.iload 5, 2) := by decide +kernel
theorem d_L_law_30 : decode b_L_law 30 = .ok (.aload_n 0, 1) := by decide +kernel
theorem d_L_law_31 : decode b_L_law 31 = .ok (.arraylength, 1) := by decide +kernel
theorem d_L_law_32 : decode b_L_law 32 = .ok (.bipush 7, 2) := by decide +kernel
theorem d_L_law_34 : decode b_L_law 34 = .ok (.isub, 1) := by decide +kernel
theorem d_L_law_35 : decode b_L_law 35 = .ok (.if_icmp .gt 2277, 3) := by decide +kernel
theorem d_L_law_38 : decode b_L_law 38 = .ok (.aload_n 0, 1) := by decide +kernel
theorem d_L_law_39 : decode b_L_law 39 = .ok (.iload 5, 2) := by decide +kernel
theorem d_L_law_41 : decode b_L_law 41 = .ok (.iaload, 1) := by decide +kernel
theorem d_L_law_42 : decode b_L_law 42 = .ok (.bipush 63, 2) := by decide +kernel
theorem d_L_law_44 : decode b_L_law 44 = .ok (.iand, 1) := by decide +kernel
theorem d_L_law_45 : decode b_L_law 45 = .ok (.tableswitch 2261 0 34 #[155, 168, 236, 354, 422, 490, 558, 614, 670, 761, 829, 904, 960, 1028, 1096, 1152, 1208, 1292, 1348, 1416, 1512, 1568, 1624, 1692, 1760, 1816, 1881, 1959, 1972, 2028, 2072, 2116, 2160, 2204, 2217], 155) := by decide +kernel
theorem d_L_law_200 : decode b_L_law 200 = .ok (.aload_n 1, 1) := by decide +kernel
theorem d_L_law_201 : decode b_L_law 201 = .ok (.invokevirtual 131, 3) := by decide +kernel
theorem d_L_law_204 : decode b_L_law 204 = .ok (.aload_n 2, 1) := by decide +kernel
theorem d_L_law_205 : decode b_L_law 205 = .ok (.invokevirtual 134, 3) := by decide +kernel
theorem d_L_law_208 : decode b_L_law 208 = .ok (.if_icmp .eq 2098, 3) := by decide +kernel
theorem d_L_law_211 : decode b_L_law 211 = .ok (.iconst 0, 1) := by decide +kernel
theorem d_L_law_212 : decode b_L_law 212 = .ok (.ireturn, 1) := by decide +kernel
theorem d_L_law_213 : decode b_L_law 213 = .ok (.aload_n 1, 1) := by decide +kernel
theorem d_L_law_214 : decode b_L_law 214 = .ok (.aload_n 0, 1) := by decide +kernel
theorem d_L_law_215 : decode b_L_law 215 = .ok (.iload 5, 2) := by decide +kernel
theorem d_L_law_217 : decode b_L_law 217 = .ok (.iconst 1, 1) := by decide +kernel
theorem d_L_law_218 : decode b_L_law 218 = .ok (.iadd, 1) := by decide +kernel
theorem d_L_law_219 : decode b_L_law 219 = .ok (.iaload, 1) := by decide +kernel
theorem d_L_law_220 : decode b_L_law 220 = .ok (.aload_n 0, 1) := by decide +kernel
theorem d_L_law_221 : decode b_L_law 221 = .ok (.iload 5, 2) := by decide +kernel
theorem d_L_law_223 : decode b_L_law 223 = .ok (.iconst 2, 1) := by decide +kernel
theorem d_L_law_224 : decode b_L_law 224 = .ok (.iadd, 1) := by decide +kernel
theorem d_L_law_225 : decode b_L_law 225 = .ok (.iaload, 1) := by decide +kernel
theorem d_L_law_226 : decode b_L_law 226 = .ok (.aload_n 3, 1) := by decide +kernel
theorem d_L_law_227 : decode b_L_law 227 = .ok (.invokestatic 135, 3) := by decide +kernel
theorem d_L_law_230 : decode b_L_law 230 = .ok (.istore 6, 2) := by decide +kernel
theorem d_L_law_232 : decode b_L_law 232 = .ok (.aload_n 2, 1) := by decide +kernel
theorem d_L_law_233 : decode b_L_law 233 = .ok (.aload_n 0, 1) := by decide +kernel
theorem d_L_law_234 : decode b_L_law 234 = .ok (.iload 5, 2) := by decide +kernel
theorem d_L_law_236 : decode b_L_law 236 = .ok (.iconst 1, 1) := by decide +kernel
theorem d_L_law_237 : decode b_L_law 237 = .ok (.iadd, 1) := by decide +kernel
theorem d_L_law_238 : decode b_L_law 238 = .ok (.iaload, 1) := by decide +kernel
theorem d_L_law_239 : decode b_L_law 239 = .ok (.aload_n 0, 1) := by decide +kernel
theorem d_L_law_240 : decode b_L_law 240 = .ok (.iload 5, 2) := by decide +kernel
theorem d_L_law_242 : decode b_L_law 242 = .ok (.iconst 2, 1) := by decide +kernel
theorem d_L_law_243 : decode b_L_law 243 = .ok (.iadd, 1) := by decide +kernel
theorem d_L_law_244 : decode b_L_law 244 = .ok (.iaload, 1) := by decide +kernel
theorem d_L_law_245 : decode b_L_law 245 = .ok (.invokevirtual 140, 3) := by decide +kernel
theorem d_L_law_248 : decode b_L_law 248 = .ok (.istore 7, 2) := by decide +kernel
theorem d_L_law_250 : decode b_L_law 250 = .ok (.aload_n 2, 1) := by decide +kernel
theorem d_L_law_251 : decode b_L_law 251 = .ok (.invokevirtual 141, 3) := by decide +kernel
theorem d_L_law_254 : decode b_L_law 254 = .ok (.iload 6, 2) := by decide +kernel
theorem d_L_law_256 : decode b_L_law 256 = .ok (.if_icmp .eq 5, 3) := by decide +kernel
theorem d_L_law_259 : decode b_L_law 259 = .ok (.iconst 0, 1) := by decide +kernel
theorem d_L_law_260 : decode b_L_law 260 = .ok (.ireturn, 1) := by decide +kernel
theorem d_L_law_261 : decode b_L_law 261 = .ok (.iload 6, 2) := by decide +kernel
theorem d_L_law_263 : decode b_L_law 263 = .ok (.ifCond .ne 15, 3) := by decide +kernel
theorem d_L_law_266 : decode b_L_law 266 = .ok (.aload_n 3, 1) := by decide +kernel
theorem d_L_law_267 : decode b_L_law 267 = .ok (.iconst 0, 1) := by decide +kernel
theorem d_L_law_268 : decode b_L_law 268 = .ok (.laload, 1) := by decide +kernel
theorem d_L_law_269 : decode b_L_law 269 = .ok (.iload 7, 2) := by decide +kernel
theorem d_L_law_271 : decode b_L_law 271 = .ok (.i2l, 1) := by decide +kernel
theorem d_L_law_272 : decode b_L_law 272 = .ok (.lcmp, 1) := by decide +kernel
theorem d_L_law_273 : decode b_L_law 273 = .ok (.ifCond .eq 5, 3) := by decide +kernel
theorem d_L_law_276 : decode b_L_law 276 = .ok (.iconst 0, 1) := by decide +kernel
theorem d_L_law_277 : decode b_L_law 277 = .ok (.ireturn, 1) := by decide +kernel
theorem d_L_law_278 : decode b_L_law 278 = .ok (.goto 2028, 3) := by decide +kernel
theorem d_L_law_281 : decode b_L_law 281 = .ok (.aload_n 1, 1) := by decide +kernel
theorem d_L_law_282 : decode b_L_law 282 = .ok (.aload_n 0, 1) := by decide +kernel
theorem d_L_law_283 : decode b_L_law 283 = .ok (.iload 5, 2) := by decide +kernel
theorem d_L_law_285 : decode b_L_law 285 = .ok (.iconst 1, 1) := by decide +kernel
theorem d_L_law_286 : decode b_L_law 286 = .ok (.iadd, 1) := by decide +kernel
theorem d_L_law_287 : decode b_L_law 287 = .ok (.iaload, 1) := by decide +kernel
theorem d_L_law_288 : decode b_L_law 288 = .ok (.aload_n 0, 1) := by decide +kernel
theorem d_L_law_289 : decode b_L_law 289 = .ok (.iload 5, 2) := by decide +kernel
theorem d_L_law_291 : decode b_L_law 291 = .ok (.iconst 2, 1) := by decide +kernel
theorem d_L_law_292 : decode b_L_law 292 = .ok (.iadd, 1) := by decide +kernel
theorem d_L_law_293 : decode b_L_law 293 = .ok (.iaload, 1) := by decide +kernel
theorem d_L_law_294 : decode b_L_law 294 = .ok (.aload_n 0, 1) := by decide +kernel
theorem d_L_law_295 : decode b_L_law 295 = .ok (.iload 5, 2) := by decide +kernel
theorem d_L_law_297 : decode b_L_law 297 = .ok (.iconst 3, 1) := by decide +kernel
theorem d_L_law_298 : decode b_L_law 298 = .ok (.iadd, 1) := by decide +kernel
theorem d_L_law_299 : decode b_L_law 299 = .ok (.iaload, 1) := by decide +kernel
theorem d_L_law_300 : decode b_L_law 300 = .ok (.aload_n 0, 1) := by decide +kernel
theorem d_L_law_301 : decode b_L_law 301 = .ok (.iload 5, 2) := by decide +kernel
theorem d_L_law_303 : decode b_L_law 303 = .ok (.iconst 4, 1) := by decide +kernel
theorem d_L_law_304 : decode b_L_law 304 = .ok (.iadd, 1) := by decide +kernel
theorem d_L_law_305 : decode b_L_law 305 = .ok (.iaload, 1) := by decide +kernel
theorem d_L_law_306 : decode b_L_law 306 = .ok (.aload_n 0, 1) := by decide +kernel
theorem d_L_law_307 : decode b_L_law 307 = .ok (.iload 5, 2) := by decide +kernel
theorem d_L_law_309 : decode b_L_law 309 = .ok (.iconst 5, 1) := by decide +kernel
theorem d_L_law_310 : decode b_L_law 310 = .ok (.iadd, 1) := by decide +kernel
theorem d_L_law_311 : decode b_L_law 311 = .ok (.iaload, 1) := by decide +kernel
theorem d_L_law_312 : decode b_L_law 312 = .ok (.aload_n 0, 1) := by decide +kernel
theorem d_L_law_313 : decode b_L_law 313 = .ok (.iload 5, 2) := by decide +kernel
theorem d_L_law_315 : decode b_L_law 315 = .ok (.bipush 6, 2) := by decide +kernel
theorem d_L_law_317 : decode b_L_law 317 = .ok (.iadd, 1) := by decide +kernel
theorem d_L_law_318 : decode b_L_law 318 = .ok (.iaload, 1) := by decide +kernel
theorem d_L_law_319 : decode b_L_law 319 = .ok (.aload_n 3, 1) := by decide +kernel
theorem d_L_law_320 : decode b_L_law 320 = .ok (.invokestatic 144, 3) := by decide +kernel
theorem d_L_law_323 : decode b_L_law 323 = .ok (.istore 6, 2) := by decide +kernel
theorem d_L_law_325 : decode b_L_law 325 = .ok (.aload_n 2, 1) := by decide +kernel
theorem d_L_law_326 : decode b_L_law 326 = .ok (.aload_n 0, 1) := by decide +kernel
theorem d_L_law_327 : decode b_L_law 327 = .ok (.iload 5, 2) := by decide +kernel
theorem d_L_law_329 : decode b_L_law 329 = .ok (.iconst 1, 1) := by decide +kernel
theorem d_L_law_330 : decode b_L_law 330 = .ok (.iadd, 1) := by decide +kernel
theorem d_L_law_331 : decode b_L_law 331 = .ok (.iaload, 1) := by decide +kernel
theorem d_L_law_332 : decode b_L_law 332 = .ok (.aload_n 0, 1) := by decide +kernel
theorem d_L_law_333 : decode b_L_law 333 = .ok (.iload 5, 2) := by decide +kernel
theorem d_L_law_335 : decode b_L_law 335 = .ok (.iconst 2, 1) := by decide +kernel
theorem d_L_law_336 : decode b_L_law 336 = .ok (.iadd, 1) := by decide +kernel
theorem d_L_law_337 : decode b_L_law 337 = .ok (.iaload, 1) := by decide +kernel
theorem d_L_law_338 : decode b_L_law 338 = .ok (.aload_n 0, 1) := by decide +kernel
theorem d_L_law_339 : decode b_L_law 339 = .ok (.iload 5, 2) := by decide +kernel
theorem d_L_law_341 : decode b_L_law 341 = .ok (.iconst 3, 1) := by decide +kernel
theorem d_L_law_342 : decode b_L_law 342 = .ok (.iadd, 1) := by decide +kernel
theorem d_L_law_343 : decode b_L_law 343 = .ok (.iaload, 1) := by decide +kernel
theorem d_L_law_344 : decode b_L_law 344 = .ok (.aload_n 0, 1) := by decide +kernel
theorem d_L_law_345 : decode b_L_law 345 = .ok (.iload 5, 2) := by decide +kernel
theorem d_L_law_347 : decode b_L_law 347 = .ok (.iconst 4, 1) := by decide +kernel
theorem d_L_law_348 : decode b_L_law 348 = .ok (.iadd, 1) := by decide +kernel
theorem d_L_law_349 : decode b_L_law 349 = .ok (.iaload, 1) := by decide +kernel
theorem d_L_law_350 : decode b_L_law 350 = .ok (.aload_n 0, 1) := by decide +kernel
theorem d_L_law_351 : decode b_L_law 351 = .ok (.iload 5, 2) := by decide +kernel
theorem d_L_law_353 : decode b_L_law 353 = .ok (.iconst 5, 1) := by decide +kernel
theorem d_L_law_354 : decode b_L_law 354 = .ok (.iadd, 1) := by decide +kernel
theorem d_L_law_355 : decode b_L_law 355 = .ok (.iaload, 1) := by decide +kernel
theorem d_L_law_356 : decode b_L_law 356 = .ok (.aload_n 0, 1) := by decide +kernel
theorem d_L_law_357 : decode b_L_law 357 = .ok (.iload 5, 2) := by decide +kernel
theorem d_L_law_359 : decode b_L_law 359 = .ok (.bipush 6, 2) := by decide +kernel
theorem d_L_law_361 : decode b_L_law 361 = .ok (.iadd, 1) := by decide +kernel
theorem d_L_law_362 : decode b_L_law 362 = .ok (.iaload, 1) := by decide +kernel
theorem d_L_law_363 : decode b_L_law 363 = .ok (.invokevirtual 147, 3) := by decide +kernel
theorem d_L_law_366 : decode b_L_law 366 = .ok (.istore 7, 2) := by decide +kernel
theorem d_L_law_368 : decode b_L_law 368 = .ok (.aload_n 2, 1) := by decide +kernel
theorem d_L_law_369 : decode b_L_law 369 = .ok (.invokevirtual 141, 3) := by decide +kernel
theorem d_L_law_372 : decode b_L_law 372 = .ok (.iload 6, 2) := by decide +kernel
theorem d_L_law_374 : decode b_L_law 374 = .ok (.if_icmp .eq 5, 3) := by decide +kernel
theorem d_L_law_377 : decode b_L_law 377 = .ok (.iconst 0, 1) := by decide +kernel
theorem d_L_law_378 : decode b_L_law 378 = .ok (.ireturn, 1) := by decide +kernel
theorem d_L_law_379 : decode b_L_law 379 = .ok (.iload 6, 2) := by decide +kernel
theorem d_L_law_381 : decode b_L_law 381 = .ok (.ifCond .ne 15, 3) := by decide +kernel
theorem d_L_law_384 : decode b_L_law 384 = .ok (.aload_n 3, 1) := by decide +kernel
theorem d_L_law_385 : decode b_L_law 385 = .ok (.iconst 0, 1) := by decide +kernel
theorem d_L_law_386 : decode b_L_law 386 = .ok (.laload, 1) := by decide +kernel
theorem d_L_law_387 : decode b_L_law 387 = .ok (.iload 7, 2) := by decide +kernel
theorem d_L_law_389 : decode b_L_law 389 = .ok (.i2l, 1) := by decide +kernel
theorem d_L_law_390 : decode b_L_law 390 = .ok (.lcmp, 1) := by decide +kernel
theorem d_L_law_391 : decode b_L_law 391 = .ok (.ifCond .eq 5, 3) := by decide +kernel
theorem d_L_law_394 : decode b_L_law 394 = .ok (.iconst 0, 1) := by decide +kernel
theorem d_L_law_395 : decode b_L_law 395 = .ok (.ireturn, 1) := by decide +kernel
theorem d_L_law_396 : decode b_L_law 396 = .ok (.goto 1910, 3) := by decide +kernel
theorem d_L_law_399 : decode b_L_law 399 = .ok (.aload_n 1, 1) := by decide +kernel
theorem d_L_law_400 : decode b_L_law 400 = .ok (.aload_n 0, 1) := by decide +kernel
theorem d_L_law_401 : decode b_L_law 401 = .ok (.iload 5, 2) := by decide +kernel
theorem d_L_law_403 : decode b_L_law 403 = .ok (.iconst 1, 1) := by decide +kernel
theorem d_L_law_404 : decode b_L_law 404 = .ok (.iadd, 1) := by decide +kernel
theorem d_L_law_405 : decode b_L_law 405 = .ok (.iaload, 1) := by decide +kernel
theorem d_L_law_406 : decode b_L_law 406 = .ok (.aload_n 0, 1) := by decide +kernel
theorem d_L_law_407 : decode b_L_law 407 = .ok (.iload 5, 2) := by decide +kernel
theorem d_L_law_409 : decode b_L_law 409 = .ok (.iconst 2, 1) := by decide +kernel
theorem d_L_law_410 : decode b_L_law 410 = .ok (.iadd, 1) := by decide +kernel
theorem d_L_law_411 : decode b_L_law 411 = .ok (.iaload, 1) := by decide +kernel
theorem d_L_law_412 : decode b_L_law 412 = .ok (.aload_n 3, 1) := by decide +kernel
theorem d_L_law_413 : decode b_L_law 413 = .ok (.invokestatic 148, 3) := by decide +kernel
theorem d_L_law_416 : decode b_L_law 416 = .ok (.istore 6, 2) := by decide +kernel
theorem d_L_law_418 : decode b_L_law 418 = .ok (.aload_n 2, 1) := by decide +kernel
theorem d_L_law_419 : decode b_L_law 419 = .ok (.aload_n 0, 1) := by decide +kernel
theorem d_L_law_420 : decode b_L_law 420 = .ok (.iload 5, 2) := by decide +kernel
theorem d_L_law_422 : decode b_L_law 422 = .ok (.iconst 1, 1) := by decide +kernel
theorem d_L_law_423 : decode b_L_law 423 = .ok (.iadd, 1) := by decide +kernel
theorem d_L_law_424 : decode b_L_law 424 = .ok (.iaload, 1) := by decide +kernel
theorem d_L_law_425 : decode b_L_law 425 = .ok (.aload_n 0, 1) := by decide +kernel
theorem d_L_law_426 : decode b_L_law 426 = .ok (.iload 5, 2) := by decide +kernel
theorem d_L_law_428 : decode b_L_law 428 = .ok (.iconst 2, 1) := by decide +kernel
theorem d_L_law_429 : decode b_L_law 429 = .ok (.iadd, 1) := by decide +kernel
theorem d_L_law_430 : decode b_L_law 430 = .ok (.iaload, 1) := by decide +kernel
theorem d_L_law_431 : decode b_L_law 431 = .ok (.invokevirtual 150, 3) := by decide +kernel
theorem d_L_law_434 : decode b_L_law 434 = .ok (.istore 7, 2) := by decide +kernel
theorem d_L_law_436 : decode b_L_law 436 = .ok (.aload_n 2, 1) := by decide +kernel
theorem d_L_law_437 : decode b_L_law 437 = .ok (.invokevirtual 141, 3) := by decide +kernel
theorem d_L_law_440 : decode b_L_law 440 = .ok (.iload 6, 2) := by decide +kernel
theorem d_L_law_442 : decode b_L_law 442 = .ok (.if_icmp .eq 5, 3) := by decide +kernel
theorem d_L_law_445 : decode b_L_law 445 = .ok (.iconst 0, 1) := by decide +kernel
theorem d_L_law_446 : decode b_L_law 446 = .ok (.ireturn, 1) := by decide +kernel
theorem d_L_law_447 : decode b_L_law 447 = .ok (.iload 6, 2) := by decide +kernel
theorem d_L_law_449 : decode b_L_law 449 = .ok (.ifCond .ne 15, 3) := by decide +kernel
theorem d_L_law_452 : decode b_L_law 452 = .ok (.aload_n 3, 1) := by decide +kernel
theorem d_L_law_453 : decode b_L_law 453 = .ok (.iconst 0, 1) := by decide +kernel
theorem d_L_law_454 : decode b_L_law 454 = .ok (.laload, 1) := by decide +kernel
theorem d_L_law_455 : decode b_L_law 455 = .ok (.iload 7, 2) := by decide +kernel
theorem d_L_law_457 : decode b_L_law 457 = .ok (.i2l, 1) := by decide +kernel
theorem d_L_law_458 : decode b_L_law 458 = .ok (.lcmp, 1) := by decide +kernel
theorem d_L_law_459 : decode b_L_law 459 = .ok (.ifCond .eq 5, 3) := by decide +kernel
theorem d_L_law_462 : decode b_L_law 462 = .ok (.iconst 0, 1) := by decide +kernel
theorem d_L_law_463 : decode b_L_law 463 = .ok (.ireturn, 1) := by decide +kernel
theorem d_L_law_464 : decode b_L_law 464 = .ok (.goto 1842, 3) := by decide +kernel
theorem d_L_law_467 : decode b_L_law 467 = .ok (.aload_n 1, 1) := by decide +kernel
theorem d_L_law_468 : decode b_L_law 468 = .ok (.aload_n 0, 1) := by decide +kernel
theorem d_L_law_469 : decode b_L_law 469 = .ok (.iload 5, 2) := by decide +kernel
theorem d_L_law_471 : decode b_L_law 471 = .ok (.iconst 1, 1) := by decide +kernel
theorem d_L_law_472 : decode b_L_law 472 = .ok (.iadd, 1) := by decide +kernel
theorem d_L_law_473 : decode b_L_law 473 = .ok (.iaload, 1) := by decide +kernel
theorem d_L_law_474 : decode b_L_law 474 = .ok (.aload_n 0, 1) := by decide +kernel
theorem d_L_law_475 : decode b_L_law 475 = .ok (.iload 5, 2) := by decide +kernel
theorem d_L_law_477 : decode b_L_law 477 = .ok (.iconst 2, 1) := by decide +kernel
theorem d_L_law_478 : decode b_L_law 478 = .ok (.iadd, 1) := by decide +kernel
theorem d_L_law_479 : decode b_L_law 479 = .ok (.iaload, 1) := by decide +kernel
theorem d_L_law_480 : decode b_L_law 480 = .ok (.aload_n 3, 1) := by decide +kernel
theorem d_L_law_481 : decode b_L_law 481 = .ok (.invokestatic 151, 3) := by decide +kernel
theorem d_L_law_484 : decode b_L_law 484 = .ok (.istore 6, 2) := by decide +kernel
theorem d_L_law_486 : decode b_L_law 486 = .ok (.aload_n 2, 1) := by decide +kernel
theorem d_L_law_487 : decode b_L_law 487 = .ok (.aload_n 0, 1) := by decide +kernel
theorem d_L_law_488 : decode b_L_law 488 = .ok (.iload 5, 2) := by decide +kernel
theorem d_L_law_490 : decode b_L_law 490 = .ok (.iconst 1, 1) := by decide +kernel
theorem d_L_law_491 : decode b_L_law 491 = .ok (.iadd, 1) := by decide +kernel
theorem d_L_law_492 : decode b_L_law 492 = .ok (.iaload, 1) := by decide +kernel
theorem d_L_law_493 : decode b_L_law 493 = .ok (.aload_n 0, 1) := by decide +kernel
theorem d_L_law_494 : decode b_L_law 494 = .ok (.iload 5, 2) := by decide +kernel
theorem d_L_law_496 : decode b_L_law 496 = .ok (.iconst 2, 1) := by decide +kernel
theorem d_L_law_497 : decode b_L_law 497 = .ok (.iadd, 1) := by decide +kernel
theorem d_L_law_498 : decode b_L_law 498 = .ok (.iaload, 1) := by decide +kernel
theorem d_L_law_499 : decode b_L_law 499 = .ok (.invokevirtual 153, 3) := by decide +kernel
theorem d_L_law_502 : decode b_L_law 502 = .ok (.istore 7, 2) := by decide +kernel
theorem d_L_law_504 : decode b_L_law 504 = .ok (.aload_n 2, 1) := by decide +kernel
theorem d_L_law_505 : decode b_L_law 505 = .ok (.invokevirtual 141, 3) := by decide +kernel
theorem d_L_law_508 : decode b_L_law 508 = .ok (.iload 6, 2) := by decide +kernel
theorem d_L_law_510 : decode b_L_law 510 = .ok (.if_icmp .eq 5, 3) := by decide +kernel
theorem d_L_law_513 : decode b_L_law 513 = .ok (.iconst 0, 1) := by decide +kernel
theorem d_L_law_514 : decode b_L_law 514 = .ok (.ireturn, 1) := by decide +kernel
theorem d_L_law_515 : decode b_L_law 515 = .ok (.iload 6, 2) := by decide +kernel
theorem d_L_law_517 : decode b_L_law 517 = .ok (.ifCond .ne 15, 3) := by decide +kernel
theorem d_L_law_520 : decode b_L_law 520 = .ok (.aload_n 3, 1) := by decide +kernel
theorem d_L_law_521 : decode b_L_law 521 = .ok (.iconst 0, 1) := by decide +kernel
theorem d_L_law_522 : decode b_L_law 522 = .ok (.laload, 1) := by decide +kernel
theorem d_L_law_523 : decode b_L_law 523 = .ok (.iload 7, 2) := by decide +kernel
theorem d_L_law_525 : decode b_L_law 525 = .ok (.i2l, 1) := by decide +kernel
theorem d_L_law_526 : decode b_L_law 526 = .ok (.lcmp, 1) := by decide +kernel
theorem d_L_law_527 : decode b_L_law 527 = .ok (.ifCond .eq 5, 3) := by decide +kernel
theorem d_L_law_530 : decode b_L_law 530 = .ok (.iconst 0, 1) := by decide +kernel
theorem d_L_law_531 : decode b_L_law 531 = .ok (.ireturn, 1) := by decide +kernel
theorem d_L_law_532 : decode b_L_law 532 = .ok (.goto 1774, 3) := by decide +kernel
theorem d_L_law_535 : decode b_L_law 535 = .ok (.aload_n 1, 1) := by decide +kernel
theorem d_L_law_536 : decode b_L_law 536 = .ok (.aload_n 0, 1) := by decide +kernel
theorem d_L_law_537 : decode b_L_law 537 = .ok (.iload 5, 2) := by decide +kernel
theorem d_L_law_539 : decode b_L_law 539 = .ok (.iconst 1, 1) := by decide +kernel
theorem d_L_law_540 : decode b_L_law 540 = .ok (.iadd, 1) := by decide +kernel
theorem d_L_law_541 : decode b_L_law 541 = .ok (.iaload, 1) := by decide +kernel
theorem d_L_law_542 : decode b_L_law 542 = .ok (.aload_n 0, 1) := by decide +kernel
theorem d_L_law_543 : decode b_L_law 543 = .ok (.iload 5, 2) := by decide +kernel
theorem d_L_law_545 : decode b_L_law 545 = .ok (.iconst 2, 1) := by decide +kernel
theorem d_L_law_546 : decode b_L_law 546 = .ok (.iadd, 1) := by decide +kernel
theorem d_L_law_547 : decode b_L_law 547 = .ok (.iaload, 1) := by decide +kernel
theorem d_L_law_548 : decode b_L_law 548 = .ok (.aload_n 3, 1) := by decide +kernel
theorem d_L_law_549 : decode b_L_law 549 = .ok (.invokestatic 154, 3) := by decide +kernel
theorem d_L_law_552 : decode b_L_law 552 = .ok (.istore 6, 2) := by decide +kernel
theorem d_L_law_554 : decode b_L_law 554 = .ok (.aload_n 2, 1) := by decide +kernel
theorem d_L_law_555 : decode b_L_law 555 = .ok (.aload_n 0, 1) := by decide +kernel
theorem d_L_law_556 : decode b_L_law 556 = .ok (.iload 5, 2) := by decide +kernel
theorem d_L_law_558 : decode b_L_law 558 = .ok (.iconst 1, 1) := by decide +kernel
theorem d_L_law_559 : decode b_L_law 559 = .ok (.iadd, 1) := by decide +kernel
theorem d_L_law_560 : decode b_L_law 560 = .ok (.iaload, 1) := by decide +kernel
theorem d_L_law_561 : decode b_L_law 561 = .ok (.aload_n 0, 1) := by decide +kernel
theorem d_L_law_562 : decode b_L_law 562 = .ok (.iload 5, 2) := by decide +kernel
theorem d_L_law_564 : decode b_L_law 564 = .ok (.iconst 2, 1) := by decide +kernel
theorem d_L_law_565 : decode b_L_law 565 = .ok (.iadd, 1) := by decide +kernel
theorem d_L_law_566 : decode b_L_law 566 = .ok (.iaload, 1) := by decide +kernel
theorem d_L_law_567 : decode b_L_law 567 = .ok (.invokevirtual 156, 3) := by decide +kernel
theorem d_L_law_570 : decode b_L_law 570 = .ok (.istore 7, 2) := by decide +kernel
theorem d_L_law_572 : decode b_L_law 572 = .ok (.aload_n 2, 1) := by decide +kernel
theorem d_L_law_573 : decode b_L_law 573 = .ok (.invokevirtual 141, 3) := by decide +kernel
theorem d_L_law_576 : decode b_L_law 576 = .ok (.iload 6, 2) := by decide +kernel
theorem d_L_law_578 : decode b_L_law 578 = .ok (.if_icmp .eq 5, 3) := by decide +kernel
theorem d_L_law_581 : decode b_L_law 581 = .ok (.iconst 0, 1) := by decide +kernel
theorem d_L_law_582 : decode b_L_law 582 = .ok (.ireturn, 1) := by decide +kernel
theorem d_L_law_583 : decode b_L_law 583 = .ok (.iload 6, 2) := by decide +kernel
theorem d_L_law_585 : decode b_L_law 585 = .ok (.ifCond .ne 15, 3) := by decide +kernel
theorem d_L_law_588 : decode b_L_law 588 = .ok (.aload_n 3, 1) := by decide +kernel
theorem d_L_law_589 : decode b_L_law 589 = .ok (.iconst 0, 1) := by decide +kernel
theorem d_L_law_590 : decode b_L_law 590 = .ok (.laload, 1) := by decide +kernel
theorem d_L_law_591 : decode b_L_law 591 = .ok (.iload 7, 2) := by decide +kernel
theorem d_L_law_593 : decode b_L_law 593 = .ok (.i2l, 1) := by decide +kernel
theorem d_L_law_594 : decode b_L_law 594 = .ok (.lcmp, 1) := by decide +kernel
theorem d_L_law_595 : decode b_L_law 595 = .ok (.ifCond .eq 5, 3) := by decide +kernel
theorem d_L_law_598 : decode b_L_law 598 = .ok (.iconst 0, 1) := by decide +kernel
theorem d_L_law_599 : decode b_L_law 599 = .ok (.ireturn, 1) := by decide +kernel
theorem d_L_law_600 : decode b_L_law 600 = .ok (.goto 1706, 3) := by decide +kernel
theorem d_L_law_603 : decode b_L_law 603 = .ok (.aload_n 1, 1) := by decide +kernel
theorem d_L_law_604 : decode b_L_law 604 = .ok (.aload_n 0, 1) := by decide +kernel
theorem d_L_law_605 : decode b_L_law 605 = .ok (.iload 5, 2) := by decide +kernel
theorem d_L_law_607 : decode b_L_law 607 = .ok (.iconst 1, 1) := by decide +kernel
theorem d_L_law_608 : decode b_L_law 608 = .ok (.iadd, 1) := by decide +kernel
theorem d_L_law_609 : decode b_L_law 609 = .ok (.iaload, 1) := by decide +kernel
theorem d_L_law_610 : decode b_L_law 610 = .ok (.aload_n 3, 1) := by decide +kernel
theorem d_L_law_611 : decode b_L_law 611 = .ok (.invokestatic 157, 3) := by decide +kernel
theorem d_L_law_614 : decode b_L_law 614 = .ok (.istore 6, 2) := by decide +kernel
theorem d_L_law_616 : decode b_L_law 616 = .ok (.aload_n 2, 1) := by decide +kernel
theorem d_L_law_617 : decode b_L_law 617 = .ok (.aload_n 0, 1) := by decide +kernel
theorem d_L_law_618 : decode b_L_law 618 = .ok (.iload 5, 2) := by decide +kernel
theorem d_L_law_620 : decode b_L_law 620 = .ok (.iconst 1, 1) := by decide +kernel
theorem d_L_law_621 : decode b_L_law 621 = .ok (.iadd, 1) := by decide +kernel
theorem d_L_law_622 : decode b_L_law 622 = .ok (.iaload, 1) := by decide +kernel
theorem d_L_law_623 : decode b_L_law 623 = .ok (.invokevirtual 160, 3) := by decide +kernel
theorem d_L_law_626 : decode b_L_law 626 = .ok (.istore 7, 2) := by decide +kernel
theorem d_L_law_628 : decode b_L_law 628 = .ok (.aload_n 2, 1) := by decide +kernel
theorem d_L_law_629 : decode b_L_law 629 = .ok (.invokevirtual 141, 3) := by decide +kernel
theorem d_L_law_632 : decode b_L_law 632 = .ok (.iload 6, 2) := by decide +kernel
theorem d_L_law_634 : decode b_L_law 634 = .ok (.if_icmp .eq 5, 3) := by decide +kernel
theorem d_L_law_637 : decode b_L_law 637 = .ok (.iconst 0, 1) := by decide +kernel
theorem d_L_law_638 : decode b_L_law 638 = .ok (.ireturn, 1) := by decide +kernel
theorem d_L_law_639 : decode b_L_law 639 = .ok (.iload 6, 2) := by decide +kernel
theorem d_L_law_641 : decode b_L_law 641 = .ok (.ifCond .ne 15, 3) := by decide +kernel
theorem d_L_law_644 : decode b_L_law 644 = .ok (.aload_n 3, 1) := by decide +kernel
theorem d_L_law_645 : decode b_L_law 645 = .ok (.iconst 0, 1) := by decide +kernel
theorem d_L_law_646 : decode b_L_law 646 = .ok (.laload, 1) := by decide +kernel
theorem d_L_law_647 : decode b_L_law 647 = .ok (.iload 7, 2) := by decide +kernel
theorem d_L_law_649 : decode b_L_law 649 = .ok (.i2l, 1) := by decide +kernel
theorem d_L_law_650 : decode b_L_law 650 = .ok (.lcmp, 1) := by decide +kernel
theorem d_L_law_651 : decode b_L_law 651 = .ok (.ifCond .eq 5, 3) := by decide +kernel
theorem d_L_law_654 : decode b_L_law 654 = .ok (.iconst 0, 1) := by decide +kernel
theorem d_L_law_655 : decode b_L_law 655 = .ok (.ireturn, 1) := by decide +kernel
theorem d_L_law_656 : decode b_L_law 656 = .ok (.goto 1650, 3) := by decide +kernel
theorem d_L_law_659 : decode b_L_law 659 = .ok (.aload_n 1, 1) := by decide +kernel
theorem d_L_law_660 : decode b_L_law 660 = .ok (.aload_n 0, 1) := by decide +kernel
theorem d_L_law_661 : decode b_L_law 661 = .ok (.iload 5, 2) := by decide +kernel
theorem d_L_law_663 : decode b_L_law 663 = .ok (.iconst 1, 1) := by decide +kernel
theorem d_L_law_664 : decode b_L_law 664 = .ok (.iadd, 1) := by decide +kernel
theorem d_L_law_665 : decode b_L_law 665 = .ok (.iaload, 1) := by decide +kernel
theorem d_L_law_666 : decode b_L_law 666 = .ok (.aload_n 3, 1) := by decide +kernel
theorem d_L_law_667 : decode b_L_law 667 = .ok (.invokestatic 161, 3) := by decide +kernel
theorem d_L_law_670 : decode b_L_law 670 = .ok (.istore 6, 2) := by decide +kernel
theorem d_L_law_672 : decode b_L_law 672 = .ok (.aload_n 2, 1) := by decide +kernel
theorem d_L_law_673 : decode b_L_law 673 = .ok (.aload_n 0, 1) := by decide +kernel
theorem d_L_law_674 : decode b_L_law 674 = .ok (.iload 5, 2) := by decide +kernel
theorem d_L_law_676 : decode b_L_law 676 = .ok (.iconst 1, 1) := by decide +kernel
theorem d_L_law_677 : decode b_L_law 677 = .ok (.iadd, 1) := by decide +kernel
theorem d_L_law_678 : decode b_L_law 678 = .ok (.iaload, 1) := by decide +kernel
theorem d_L_law_679 : decode b_L_law 679 = .ok (.invokevirtual 163, 3) := by decide +kernel
theorem d_L_law_682 : decode b_L_law 682 = .ok (.istore 7, 2) := by decide +kernel
theorem d_L_law_684 : decode b_L_law 684 = .ok (.aload_n 2, 1) := by decide +kernel
theorem d_L_law_685 : decode b_L_law 685 = .ok (.invokevirtual 141, 3) := by decide +kernel
theorem d_L_law_688 : decode b_L_law 688 = .ok (.iload 6, 2) := by decide +kernel
theorem d_L_law_690 : decode b_L_law 690 = .ok (.if_icmp .eq 5, 3) := by decide +kernel
theorem d_L_law_693 : decode b_L_law 693 = .ok (.iconst 0, 1) := by decide +kernel
theorem d_L_law_694 : decode b_L_law 694 = .ok (.ireturn, 1) := by decide +kernel
theorem d_L_law_695 : decode b_L_law 695 = .ok (.iload 6, 2) := by decide +kernel
theorem d_L_law_697 : decode b_L_law 697 = .ok (.ifCond .ne 15, 3) := by decide +kernel
theorem d_L_law_700 : decode b_L_law 700 = .ok (.aload_n 3, 1) := by decide +kernel
theorem d_L_law_701 : decode b_L_law 701 = .ok (.iconst 0, 1) := by decide +kernel
theorem d_L_law_702 : decode b_L_law 702 = .ok (.laload, 1) := by decide +kernel
theorem d_L_law_703 : decode b_L_law 703 = .ok (.iload 7, 2) := by decide +kernel
theorem d_L_law_705 : decode b_L_law 705 = .ok (.i2l, 1) := by decide +kernel
theorem d_L_law_706 : decode b_L_law 706 = .ok (.lcmp, 1) := by decide +kernel
theorem d_L_law_707 : decode b_L_law 707 = .ok (.ifCond .eq 5, 3) := by decide +kernel
theorem d_L_law_710 : decode b_L_law 710 = .ok (.iconst 0, 1) := by decide +kernel
theorem d_L_law_711 : decode b_L_law 711 = .ok (.ireturn, 1) := by decide +kernel
theorem d_L_law_712 : decode b_L_law 712 = .ok (.goto 1594, 3) := by decide +kernel
theorem d_L_law_715 : decode b_L_law 715 = .ok (.aload_n 1, 1) := by decide +kernel
theorem d_L_law_716 : decode b_L_law 716 = .ok (.aload_n 0, 1) := by decide +kernel
theorem d_L_law_717 : decode b_L_law 717 = .ok (.iload 5, 2) := by decide +kernel
theorem d_L_law_719 : decode b_L_law 719 = .ok (.iconst 1, 1) := by decide +kernel
theorem d_L_law_720 : decode b_L_law 720 = .ok (.iadd, 1) := by decide +kernel
theorem d_L_law_721 : decode b_L_law 721 = .ok (.iaload, 1) := by decide +kernel
theorem d_L_law_722 : decode b_L_law 722 = .ok (.aload_n 0, 1) := by decide +kernel
theorem d_L_law_723 : decode b_L_law 723 = .ok (.iload 5, 2) := by decide +kernel
theorem d_L_law_725 : decode b_L_law 725 = .ok (.iconst 2, 1) := by decide +kernel
theorem d_L_law_726 : decode b_L_law 726 = .ok (.iadd, 1) := by decide +kernel
theorem d_L_law_727 : decode b_L_law 727 = .ok (.iaload, 1) := by decide +kernel
theorem d_L_law_728 : decode b_L_law 728 = .ok (.ifCond .eq 7, 3) := by decide +kernel
theorem d_L_law_731 : decode b_L_law 731 = .ok (.iconst 1, 1) := by decide +kernel
theorem d_L_law_732 : decode b_L_law 732 = .ok (.goto 4, 3) := by decide +kernel
theorem d_L_law_735 : decode b_L_law 735 = .ok (.iconst 0, 1) := by decide +kernel
theorem d_L_law_736 : decode b_L_law 736 = .ok (.aload_n 3, 1) := by decide +kernel
theorem d_L_law_737 : decode b_L_law 737 = .ok (.invokestatic 164, 3) := by decide +kernel
theorem d_L_law_740 : decode b_L_law 740 = .ok (.istore 6, 2) := by decide +kernel
theorem d_L_law_742 : decode b_L_law 742 = .ok (.aload_n 2, 1) := by decide +kernel
theorem d_L_law_743 : decode b_L_law 743 = .ok (.aload_n 0, 1) := by decide +kernel
theorem d_L_law_744 : decode b_L_law 744 = .ok (.iload 5, 2) := by decide +kernel
theorem d_L_law_746 : decode b_L_law 746 = .ok (.iconst 1, 1) := by decide +kernel
theorem d_L_law_747 : decode b_L_law 747 = .ok (.iadd, 1) := by decide +kernel
theorem d_L_law_748 : decode b_L_law 748 = .ok (.iaload, 1) := by decide +kernel
theorem d_L_law_749 : decode b_L_law 749 = .ok (.aload_n 0, 1) := by decide +kernel
theorem d_L_law_750 : decode b_L_law 750 = .ok (.iload 5, 2) := by decide +kernel
theorem d_L_law_752 : decode b_L_law 752 = .ok (.iconst 2, 1) := by decide +kernel
theorem d_L_law_753 : decode b_L_law 753 = .ok (.iadd, 1) := by decide +kernel
theorem d_L_law_754 : decode b_L_law 754 = .ok (.iaload, 1) := by decide +kernel
theorem d_L_law_755 : decode b_L_law 755 = .ok (.ifCond .eq 7, 3) := by decide +kernel
theorem d_L_law_758 : decode b_L_law 758 = .ok (.iconst 1, 1) := by decide +kernel
theorem d_L_law_759 : decode b_L_law 759 = .ok (.goto 4, 3) := by decide +kernel
theorem d_L_law_762 : decode b_L_law 762 = .ok (.iconst 0, 1) := by decide +kernel
theorem d_L_law_763 : decode b_L_law 763 = .ok (.invokevirtual 167, 3) := by decide +kernel
theorem d_L_law_766 : decode b_L_law 766 = .ok (.istore 7, 2) := by decide +kernel
theorem d_L_law_768 : decode b_L_law 768 = .ok (.aload_n 2, 1) := by decide +kernel
theorem d_L_law_769 : decode b_L_law 769 = .ok (.invokevirtual 141, 3) := by decide +kernel
theorem d_L_law_772 : decode b_L_law 772 = .ok (.iload 6, 2) := by decide +kernel
theorem d_L_law_774 : decode b_L_law 774 = .ok (.if_icmp .eq 5, 3) := by decide +kernel
theorem d_L_law_777 : decode b_L_law 777 = .ok (.iconst 0, 1) := by decide +kernel
theorem d_L_law_778 : decode b_L_law 778 = .ok (.ireturn, 1) := by decide +kernel
theorem d_L_law_779 : decode b_L_law 779 = .ok (.iload 6, 2) := by decide +kernel
theorem d_L_law_781 : decode b_L_law 781 = .ok (.ifCond .ne 22, 3) := by decide +kernel
theorem d_L_law_784 : decode b_L_law 784 = .ok (.aload_n 3, 1) := by decide +kernel
theorem d_L_law_785 : decode b_L_law 785 = .ok (.iconst 0, 1) := by decide +kernel
theorem d_L_law_786 : decode b_L_law 786 = .ok (.laload, 1) := by decide +kernel
theorem d_L_law_787 : decode b_L_law 787 = .ok (.iload 7, 2) := by decide +kernel
theorem d_L_law_789 : decode b_L_law 789 = .ok (.ifCond .eq 7, 3) := by decide +kernel
theorem d_L_law_792 : decode b_L_law 792 = .ok (.lconst 1, 1) := by decide +kernel
theorem d_L_law_793 : decode b_L_law 793 = .ok (.goto 4, 3) := by decide +kernel
theorem d_L_law_796 : decode b_L_law 796 = .ok (.lconst 0, 1) := by decide +kernel
theorem d_L_law_797 : decode b_L_law 797 = .ok (.lcmp, 1) := by decide +kernel
theorem d_L_law_798 : decode b_L_law 798 = .ok (.ifCond .eq 5, 3) := by decide +kernel
theorem d_L_law_801 : decode b_L_law 801 = .ok (.iconst 0, 1) := by decide +kernel
theorem d_L_law_802 : decode b_L_law 802 = .ok (.ireturn, 1) := by decide +kernel
theorem d_L_law_803 : decode b_L_law 803 = .ok (.goto 1503, 3) := by decide +kernel
theorem d_L_law_806 : decode b_L_law 806 = .ok (.aload_n 1, 1) := by decide +kernel
theorem d_L_law_807 : decode b_L_law 807 = .ok (.aload_n 0, 1) := by decide +kernel
theorem d_L_law_808 : decode b_L_law 808 = .ok (.iload 5, 2) := by decide +kernel
theorem d_L_law_810 : decode b_L_law 810 = .ok (.iconst 1, 1) := by decide +kernel
theorem d_L_law_811 : decode b_L_law 811 = .ok (.iadd, 1) := by decide +kernel
theorem d_L_law_812 : decode b_L_law 812 = .ok (.iaload, 1) := by decide +kernel
theorem d_L_law_813 : decode b_L_law 813 = .ok (.aload_n 0, 1) := by decide +kernel
theorem d_L_law_814 : decode b_L_law 814 = .ok (.iload 5, 2) := by decide +kernel
theorem d_L_law_816 : decode b_L_law 816 = .ok (.iconst 2, 1) := by decide +kernel
theorem d_L_law_817 : decode b_L_law 817 = .ok (.iadd, 1) := by decide +kernel
theorem d_L_law_818 : decode b_L_law 818 = .ok (.iaload, 1) := by decide +kernel
theorem d_L_law_819 : decode b_L_law 819 = .ok (.aload_n 3, 1) := by decide +kernel
theorem d_L_law_820 : decode b_L_law 820 = .ok (.invokestatic 168, 3) := by decide +kernel
theorem d_L_law_823 : decode b_L_law 823 = .ok (.istore 6, 2) := by decide +kernel
theorem d_L_law_825 : decode b_L_law 825 = .ok (.aload_n 2, 1) := by decide +kernel
theorem d_L_law_826 : decode b_L_law 826 = .ok (.aload_n 0, 1) := by decide +kernel
theorem d_L_law_827 : decode b_L_law 827 = .ok (.iload 5, 2) := by decide +kernel
theorem d_L_law_829 : decode b_L_law 829 = .ok (.iconst 1, 1) := by decide +kernel
theorem d_L_law_830 : decode b_L_law 830 = .ok (.iadd, 1) := by decide +kernel
theorem d_L_law_831 : decode b_L_law 831 = .ok (.iaload, 1) := by decide +kernel
theorem d_L_law_832 : decode b_L_law 832 = .ok (.aload_n 0, 1) := by decide +kernel
theorem d_L_law_833 : decode b_L_law 833 = .ok (.iload 5, 2) := by decide +kernel
theorem d_L_law_835 : decode b_L_law 835 = .ok (.iconst 2, 1) := by decide +kernel
theorem d_L_law_836 : decode b_L_law 836 = .ok (.iadd, 1) := by decide +kernel
theorem d_L_law_837 : decode b_L_law 837 = .ok (.iaload, 1) := by decide +kernel
theorem d_L_law_838 : decode b_L_law 838 = .ok (.invokevirtual 170, 3) := by decide +kernel
theorem d_L_law_841 : decode b_L_law 841 = .ok (.istore 7, 2) := by decide +kernel
theorem d_L_law_843 : decode b_L_law 843 = .ok (.aload_n 2, 1) := by decide +kernel
theorem d_L_law_844 : decode b_L_law 844 = .ok (.invokevirtual 141, 3) := by decide +kernel
theorem d_L_law_847 : decode b_L_law 847 = .ok (.iload 6, 2) := by decide +kernel
theorem d_L_law_849 : decode b_L_law 849 = .ok (.if_icmp .eq 5, 3) := by decide +kernel
theorem d_L_law_852 : decode b_L_law 852 = .ok (.iconst 0, 1) := by decide +kernel
theorem d_L_law_853 : decode b_L_law 853 = .ok (.ireturn, 1) := by decide +kernel
theorem d_L_law_854 : decode b_L_law 854 = .ok (.iload 6, 2) := by decide +kernel
theorem d_L_law_856 : decode b_L_law 856 = .ok (.ifCond .ne 15, 3) := by decide +kernel
theorem d_L_law_859 : decode b_L_law 859 = .ok (.aload_n 3, 1) := by decide +kernel
theorem d_L_law_860 : decode b_L_law 860 = .ok (.iconst 0, 1) := by decide +kernel
theorem d_L_law_861 : decode b_L_law 861 = .ok (.laload, 1) := by decide +kernel
theorem d_L_law_862 : decode b_L_law 862 = .ok (.iload 7, 2) := by decide +kernel
theorem d_L_law_864 : decode b_L_law 864 = .ok (.i2l, 1) := by decide +kernel
theorem d_L_law_865 : decode b_L_law 865 = .ok (.lcmp, 1) := by decide +kernel
theorem d_L_law_866 : decode b_L_law 866 = .ok (.ifCond .eq 5, 3) := by decide +kernel
theorem d_L_law_869 : decode b_L_law 869 = .ok (.iconst 0, 1) := by decide +kernel
theorem d_L_law_870 : decode b_L_law 870 = .ok (.ireturn, 1) := by decide +kernel
theorem d_L_law_871 : decode b_L_law 871 = .ok (.goto 1435, 3) := by decide +kernel
theorem d_L_law_874 : decode b_L_law 874 = .ok (.aload_n 1, 1) := by decide +kernel
theorem d_L_law_875 : decode b_L_law 875 = .ok (.aload_n 0, 1) := by decide +kernel
theorem d_L_law_876 : decode b_L_law 876 = .ok (.iload 5, 2) := by decide +kernel
theorem d_L_law_878 : decode b_L_law 878 = .ok (.iconst 1, 1) := by decide +kernel
theorem d_L_law_879 : decode b_L_law 879 = .ok (.iadd, 1) := by decide +kernel
theorem d_L_law_880 : decode b_L_law 880 = .ok (.iaload, 1) := by decide +kernel
theorem d_L_law_881 : decode b_L_law 881 = .ok (.aload_n 0, 1) := by decide +kernel
theorem d_L_law_882 : decode b_L_law 882 = .ok (.iload 5, 2) := by decide +kernel
theorem d_L_law_884 : decode b_L_law 884 = .ok (.iconst 2, 1) := by decide +kernel
theorem d_L_law_885 : decode b_L_law 885 = .ok (.iadd, 1) := by decide +kernel
theorem d_L_law_886 : decode b_L_law 886 = .ok (.iaload, 1) := by decide +kernel
theorem d_L_law_887 : decode b_L_law 887 = .ok (.aload_n 3, 1) := by decide +kernel
theorem d_L_law_888 : decode b_L_law 888 = .ok (.invokestatic 171, 3) := by decide +kernel
theorem d_L_law_891 : decode b_L_law 891 = .ok (.istore 6, 2) := by decide +kernel
theorem d_L_law_893 : decode b_L_law 893 = .ok (.aload_n 2, 1) := by decide +kernel
theorem d_L_law_894 : decode b_L_law 894 = .ok (.aload_n 0, 1) := by decide +kernel
theorem d_L_law_895 : decode b_L_law 895 = .ok (.iload 5, 2) := by decide +kernel
theorem d_L_law_897 : decode b_L_law 897 = .ok (.iconst 1, 1) := by decide +kernel
theorem d_L_law_898 : decode b_L_law 898 = .ok (.iadd, 1) := by decide +kernel
theorem d_L_law_899 : decode b_L_law 899 = .ok (.iaload, 1) := by decide +kernel
theorem d_L_law_900 : decode b_L_law 900 = .ok (.aload_n 0, 1) := by decide +kernel
theorem d_L_law_901 : decode b_L_law 901 = .ok (.iload 5, 2) := by decide +kernel
theorem d_L_law_903 : decode b_L_law 903 = .ok (.iconst 2, 1) := by decide +kernel
theorem d_L_law_904 : decode b_L_law 904 = .ok (.iadd, 1) := by decide +kernel
theorem d_L_law_905 : decode b_L_law 905 = .ok (.iaload, 1) := by decide +kernel
theorem d_L_law_906 : decode b_L_law 906 = .ok (.invokevirtual 173, 3) := by decide +kernel
theorem d_L_law_909 : decode b_L_law 909 = .ok (.istore 7, 2) := by decide +kernel
theorem d_L_law_911 : decode b_L_law 911 = .ok (.aload_n 2, 1) := by decide +kernel
theorem d_L_law_912 : decode b_L_law 912 = .ok (.invokevirtual 141, 3) := by decide +kernel
theorem d_L_law_915 : decode b_L_law 915 = .ok (.iload 6, 2) := by decide +kernel
theorem d_L_law_917 : decode b_L_law 917 = .ok (.if_icmp .eq 5, 3) := by decide +kernel
theorem d_L_law_920 : decode b_L_law 920 = .ok (.iconst 0, 1) := by decide +kernel
theorem d_L_law_921 : decode b_L_law 921 = .ok (.ireturn, 1) := by decide +kernel
theorem d_L_law_922 : decode b_L_law 922 = .ok (.iload 6, 2) := by decide +kernel
theorem d_L_law_924 : decode b_L_law 924 = .ok (.ifCond .ne 22, 3) := by decide +kernel
theorem d_L_law_927 : decode b_L_law 927 = .ok (.aload_n 3, 1) := by decide +kernel
theorem d_L_law_928 : decode b_L_law 928 = .ok (.iconst 0, 1) := by decide +kernel
theorem d_L_law_929 : decode b_L_law 929 = .ok (.laload, 1) := by decide +kernel
theorem d_L_law_930 : decode b_L_law 930 = .ok (.iload 7, 2) := by decide +kernel
theorem d_L_law_932 : decode b_L_law 932 = .ok (.ifCond .eq 7, 3) := by decide +kernel
theorem d_L_law_935 : decode b_L_law 935 = .ok (.lconst 1, 1) := by decide +kernel
theorem d_L_law_936 : decode b_L_law 936 = .ok (.goto 4, 3) := by decide +kernel
theorem d_L_law_939 : decode b_L_law 939 = .ok (.lconst 0, 1) := by decide +kernel
theorem d_L_law_940 : decode b_L_law 940 = .ok (.lcmp, 1) := by decide +kernel
theorem d_L_law_941 : decode b_L_law 941 = .ok (.ifCond .eq 5, 3) := by decide +kernel
theorem d_L_law_944 : decode b_L_law 944 = .ok (.iconst 0, 1) := by decide +kernel
theorem d_L_law_945 : decode b_L_law 945 = .ok (.ireturn, 1) := by decide +kernel
theorem d_L_law_946 : decode b_L_law 946 = .ok (.goto 1360, 3) := by decide +kernel
theorem d_L_law_949 : decode b_L_law 949 = .ok (.aload_n 1, 1) := by decide +kernel
theorem d_L_law_950 : decode b_L_law 950 = .ok (.aload_n 0, 1) := by decide +kernel
theorem d_L_law_951 : decode b_L_law 951 = .ok (.iload 5, 2) := by decide +kernel
theorem d_L_law_953 : decode b_L_law 953 = .ok (.iconst 1, 1) := by decide +kernel
theorem d_L_law_954 : decode b_L_law 954 = .ok (.iadd, 1) := by decide +kernel
theorem d_L_law_955 : decode b_L_law 955 = .ok (.iaload, 1) := by decide +kernel
theorem d_L_law_956 : decode b_L_law 956 = .ok (.aload_n 3, 1) := by decide +kernel
theorem d_L_law_957 : decode b_L_law 957 = .ok (.invokestatic 174, 3) := by decide +kernel
theorem d_L_law_960 : decode b_L_law 960 = .ok (.istore 6, 2) := by decide +kernel
theorem d_L_law_962 : decode b_L_law 962 = .ok (.aload_n 2, 1) := by decide +kernel
theorem d_L_law_963 : decode b_L_law 963 = .ok (.aload_n 0, 1) := by decide +kernel
theorem d_L_law_964 : decode b_L_law 964 = .ok (.iload 5, 2) := by decide +kernel
theorem d_L_law_966 : decode b_L_law 966 = .ok (.iconst 1, 1) := by decide +kernel
theorem d_L_law_967 : decode b_L_law 967 = .ok (.iadd, 1) := by decide +kernel
theorem d_L_law_968 : decode b_L_law 968 = .ok (.iaload, 1) := by decide +kernel
theorem d_L_law_969 : decode b_L_law 969 = .ok (.invokevirtual 176, 3) := by decide +kernel
theorem d_L_law_972 : decode b_L_law 972 = .ok (.istore 7, 2) := by decide +kernel
theorem d_L_law_974 : decode b_L_law 974 = .ok (.aload_n 2, 1) := by decide +kernel
theorem d_L_law_975 : decode b_L_law 975 = .ok (.invokevirtual 141, 3) := by decide +kernel
theorem d_L_law_978 : decode b_L_law 978 = .ok (.iload 6, 2) := by decide +kernel
theorem d_L_law_980 : decode b_L_law 980 = .ok (.if_icmp .eq 5, 3) := by decide +kernel
theorem d_L_law_983 : decode b_L_law 983 = .ok (.iconst 0, 1) := by decide +kernel
theorem d_L_law_984 : decode b_L_law 984 = .ok (.ireturn, 1) := by decide +kernel
theorem d_L_law_985 : decode b_L_law 985 = .ok (.iload 6, 2) := by decide +kernel
theorem d_L_law_987 : decode b_L_law 987 = .ok (.ifCond .ne 15, 3) := by decide +kernel
theorem d_L_law_990 : decode b_L_law 990 = .ok (.aload_n 3, 1) := by decide +kernel
theorem d_L_law_991 : decode b_L_law 991 = .ok (.iconst 0, 1) := by decide +kernel
theorem d_L_law_992 : decode b_L_law 992 = .ok (.laload, 1) := by decide +kernel
theorem d_L_law_993 : decode b_L_law 993 = .ok (.iload 7, 2) := by decide +kernel
theorem d_L_law_995 : decode b_L_law 995 = .ok (.i2l, 1) := by decide +kernel
theorem d_L_law_996 : decode b_L_law 996 = .ok (.lcmp, 1) := by decide +kernel
theorem d_L_law_997 : decode b_L_law 997 = .ok (.ifCond .eq 5, 3) := by decide +kernel
theorem d_L_law_1000 : decode b_L_law 1000 = .ok (.iconst 0, 1) := by decide +kernel
theorem d_L_law_1001 : decode b_L_law 1001 = .ok (.ireturn, 1) := by decide +kernel
theorem d_L_law_1002 : decode b_L_law 1002 = .ok (.goto 1304, 3) := by decide +kernel
theorem d_L_law_1005 : decode b_L_law 1005 = .ok (.aload_n 1, 1) := by decide +kernel
theorem d_L_law_1006 : decode b_L_law 1006 = .ok (.aload_n 0, 1) := by decide +kernel
theorem d_L_law_1007 : decode b_L_law 1007 = .ok (.iload 5, 2) := by decide +kernel
theorem d_L_law_1009 : decode b_L_law 1009 = .ok (.iconst 1, 1) := by decide +kernel
theorem d_L_law_1010 : decode b_L_law 1010 = .ok (.iadd, 1) := by decide +kernel
theorem d_L_law_1011 : decode b_L_law 1011 = .ok (.iaload, 1) := by decide +kernel
theorem d_L_law_1012 : decode b_L_law 1012 = .ok (.aload_n 0, 1) := by decide +kernel
theorem d_L_law_1013 : decode b_L_law 1013 = .ok (.iload 5, 2) := by decide +kernel
theorem d_L_law_1015 : decode b_L_law 1015 = .ok (.iconst 2, 1) := by decide +kernel
theorem d_L_law_1016 : decode b_L_law 1016 = .ok (.iadd, 1) := by decide +kernel
theorem d_L_law_1017 : decode b_L_law 1017 = .ok (.iaload, 1) := by decide +kernel
theorem d_L_law_1018 : decode b_L_law 1018 = .ok (.aload_n 3, 1) := by decide +kernel
theorem d_L_law_1019 : decode b_L_law 1019 = .ok (.invokestatic 177, 3) := by decide +kernel
theorem d_L_law_1022 : decode b_L_law 1022 = .ok (.istore 6, 2) := by decide +kernel
theorem d_L_law_1024 : decode b_L_law 1024 = .ok (.aload_n 2, 1) := by decide +kernel
theorem d_L_law_1025 : decode b_L_law 1025 = .ok (.aload_n 0, 1) := by decide +kernel
theorem d_L_law_1026 : decode b_L_law 1026 = .ok (.iload 5, 2) := by decide +kernel
theorem d_L_law_1028 : decode b_L_law 1028 = .ok (.iconst 1, 1) := by decide +kernel
theorem d_L_law_1029 : decode b_L_law 1029 = .ok (.iadd, 1) := by decide +kernel
theorem d_L_law_1030 : decode b_L_law 1030 = .ok (.iaload, 1) := by decide +kernel
theorem d_L_law_1031 : decode b_L_law 1031 = .ok (.aload_n 0, 1) := by decide +kernel
theorem d_L_law_1032 : decode b_L_law 1032 = .ok (.iload 5, 2) := by decide +kernel
theorem d_L_law_1034 : decode b_L_law 1034 = .ok (.iconst 2, 1) := by decide +kernel
theorem d_L_law_1035 : decode b_L_law 1035 = .ok (.iadd, 1) := by decide +kernel
theorem d_L_law_1036 : decode b_L_law 1036 = .ok (.iaload, 1) := by decide +kernel
theorem d_L_law_1037 : decode b_L_law 1037 = .ok (.invokevirtual 179, 3) := by decide +kernel
theorem d_L_law_1040 : decode b_L_law 1040 = .ok (.istore 7, 2) := by decide +kernel
theorem d_L_law_1042 : decode b_L_law 1042 = .ok (.aload_n 2, 1) := by decide +kernel
theorem d_L_law_1043 : decode b_L_law 1043 = .ok (.invokevirtual 141, 3) := by decide +kernel
theorem d_L_law_1046 : decode b_L_law 1046 = .ok (.iload 6, 2) := by decide +kernel
theorem d_L_law_1048 : decode b_L_law 1048 = .ok (.if_icmp .eq 5, 3) := by decide +kernel
theorem d_L_law_1051 : decode b_L_law 1051 = .ok (.iconst 0, 1) := by decide +kernel
theorem d_L_law_1052 : decode b_L_law 1052 = .ok (.ireturn, 1) := by decide +kernel
theorem d_L_law_1053 : decode b_L_law 1053 = .ok (.iload 6, 2) := by decide +kernel
theorem d_L_law_1055 : decode b_L_law 1055 = .ok (.ifCond .ne 15, 3) := by decide +kernel
theorem d_L_law_1058 : decode b_L_law 1058 = .ok (.aload_n 3, 1) := by decide +kernel
theorem d_L_law_1059 : decode b_L_law 1059 = .ok (.iconst 0, 1) := by decide +kernel
theorem d_L_law_1060 : decode b_L_law 1060 = .ok (.laload, 1) := by decide +kernel
theorem d_L_law_1061 : decode b_L_law 1061 = .ok (.iload 7, 2) := by decide +kernel
theorem d_L_law_1063 : decode b_L_law 1063 = .ok (.i2l, 1) := by decide +kernel
theorem d_L_law_1064 : decode b_L_law 1064 = .ok (.lcmp, 1) := by decide +kernel
theorem d_L_law_1065 : decode b_L_law 1065 = .ok (.ifCond .eq 5, 3) := by decide +kernel
theorem d_L_law_1068 : decode b_L_law 1068 = .ok (.iconst 0, 1) := by decide +kernel
theorem d_L_law_1069 : decode b_L_law 1069 = .ok (.ireturn, 1) := by decide +kernel
theorem d_L_law_1070 : decode b_L_law 1070 = .ok (.goto 1236, 3) := by decide +kernel
theorem d_L_law_1073 : decode b_L_law 1073 = .ok (.aload_n 1, 1) := by decide +kernel
theorem d_L_law_1074 : decode b_L_law 1074 = .ok (.aload_n 0, 1) := by decide +kernel
theorem d_L_law_1075 : decode b_L_law 1075 = .ok (.iload 5, 2) := by decide +kernel
theorem d_L_law_1077 : decode b_L_law 1077 = .ok (.iconst 1, 1) := by decide +kernel
theorem d_L_law_1078 : decode b_L_law 1078 = .ok (.iadd, 1) := by decide +kernel
theorem d_L_law_1079 : decode b_L_law 1079 = .ok (.iaload, 1) := by decide +kernel
theorem d_L_law_1080 : decode b_L_law 1080 = .ok (.aload_n 0, 1) := by decide +kernel
theorem d_L_law_1081 : decode b_L_law 1081 = .ok (.iload 5, 2) := by decide +kernel
theorem d_L_law_1083 : decode b_L_law 1083 = .ok (.iconst 2, 1) := by decide +kernel
theorem d_L_law_1084 : decode b_L_law 1084 = .ok (.iadd, 1) := by decide +kernel
theorem d_L_law_1085 : decode b_L_law 1085 = .ok (.iaload, 1) := by decide +kernel
theorem d_L_law_1086 : decode b_L_law 1086 = .ok (.aload_n 3, 1) := by decide +kernel
theorem d_L_law_1087 : decode b_L_law 1087 = .ok (.invokestatic 180, 3) := by decide +kernel
theorem d_L_law_1090 : decode b_L_law 1090 = .ok (.istore 6, 2) := by decide +kernel
theorem d_L_law_1092 : decode b_L_law 1092 = .ok (.aload_n 2, 1) := by decide +kernel
theorem d_L_law_1093 : decode b_L_law 1093 = .ok (.aload_n 0, 1) := by decide +kernel
theorem d_L_law_1094 : decode b_L_law 1094 = .ok (.iload 5, 2) := by decide +kernel
theorem d_L_law_1096 : decode b_L_law 1096 = .ok (.iconst 1, 1) := by decide +kernel
theorem d_L_law_1097 : decode b_L_law 1097 = .ok (.iadd, 1) := by decide +kernel
theorem d_L_law_1098 : decode b_L_law 1098 = .ok (.iaload, 1) := by decide +kernel
theorem d_L_law_1099 : decode b_L_law 1099 = .ok (.aload_n 0, 1) := by decide +kernel
theorem d_L_law_1100 : decode b_L_law 1100 = .ok (.iload 5, 2) := by decide +kernel
theorem d_L_law_1102 : decode b_L_law 1102 = .ok (.iconst 2, 1) := by decide +kernel
theorem d_L_law_1103 : decode b_L_law 1103 = .ok (.iadd, 1) := by decide +kernel
theorem d_L_law_1104 : decode b_L_law 1104 = .ok (.iaload, 1) := by decide +kernel
theorem d_L_law_1105 : decode b_L_law 1105 = .ok (.invokevirtual 182, 3) := by decide +kernel
theorem d_L_law_1108 : decode b_L_law 1108 = .ok (.istore 7, 2) := by decide +kernel
theorem d_L_law_1110 : decode b_L_law 1110 = .ok (.aload_n 2, 1) := by decide +kernel
theorem d_L_law_1111 : decode b_L_law 1111 = .ok (.invokevirtual 141, 3) := by decide +kernel
theorem d_L_law_1114 : decode b_L_law 1114 = .ok (.iload 6, 2) := by decide +kernel
theorem d_L_law_1116 : decode b_L_law 1116 = .ok (.if_icmp .eq 5, 3) := by decide +kernel
theorem d_L_law_1119 : decode b_L_law 1119 = .ok (.iconst 0, 1) := by decide +kernel
theorem d_L_law_1120 : decode b_L_law 1120 = .ok (.ireturn, 1) := by decide +kernel
theorem d_L_law_1121 : decode b_L_law 1121 = .ok (.iload 6, 2) := by decide +kernel
theorem d_L_law_1123 : decode b_L_law 1123 = .ok (.ifCond .ne 15, 3) := by decide +kernel
theorem d_L_law_1126 : decode b_L_law 1126 = .ok (.aload_n 3, 1) := by decide +kernel
theorem d_L_law_1127 : decode b_L_law 1127 = .ok (.iconst 0, 1) := by decide +kernel
theorem d_L_law_1128 : decode b_L_law 1128 = .ok (.laload, 1) := by decide +kernel
theorem d_L_law_1129 : decode b_L_law 1129 = .ok (.iload 7, 2) := by decide +kernel
theorem d_L_law_1131 : decode b_L_law 1131 = .ok (.i2l, 1) := by decide +kernel
theorem d_L_law_1132 : decode b_L_law 1132 = .ok (.lcmp, 1) := by decide +kernel
theorem d_L_law_1133 : decode b_L_law 1133 = .ok (.ifCond .eq 5, 3) := by decide +kernel
theorem d_L_law_1136 : decode b_L_law 1136 = .ok (.iconst 0, 1) := by decide +kernel
theorem d_L_law_1137 : decode b_L_law 1137 = .ok (.ireturn, 1) := by decide +kernel
theorem d_L_law_1138 : decode b_L_law 1138 = .ok (.goto 1168, 3) := by decide +kernel
theorem d_L_law_1141 : decode b_L_law 1141 = .ok (.aload_n 1, 1) := by decide +kernel
theorem d_L_law_1142 : decode b_L_law 1142 = .ok (.aload_n 0, 1) := by decide +kernel
theorem d_L_law_1143 : decode b_L_law 1143 = .ok (.iload 5, 2) := by decide +kernel
theorem d_L_law_1145 : decode b_L_law 1145 = .ok (.iconst 1, 1) := by decide +kernel
theorem d_L_law_1146 : decode b_L_law 1146 = .ok (.iadd, 1) := by decide +kernel
theorem d_L_law_1147 : decode b_L_law 1147 = .ok (.iaload, 1) := by decide +kernel
theorem d_L_law_1148 : decode b_L_law 1148 = .ok (.aload_n 3, 1) := by decide +kernel
theorem d_L_law_1149 : decode b_L_law 1149 = .ok (.invokestatic 183, 3) := by decide +kernel
theorem d_L_law_1152 : decode b_L_law 1152 = .ok (.istore 6, 2) := by decide +kernel
theorem d_L_law_1154 : decode b_L_law 1154 = .ok (.aload_n 2, 1) := by decide +kernel
theorem d_L_law_1155 : decode b_L_law 1155 = .ok (.aload_n 0, 1) := by decide +kernel
theorem d_L_law_1156 : decode b_L_law 1156 = .ok (.iload 5, 2) := by decide +kernel
theorem d_L_law_1158 : decode b_L_law 1158 = .ok (.iconst 1, 1) := by decide +kernel
theorem d_L_law_1159 : decode b_L_law 1159 = .ok (.iadd, 1) := by decide +kernel
theorem d_L_law_1160 : decode b_L_law 1160 = .ok (.iaload, 1) := by decide +kernel
theorem d_L_law_1161 : decode b_L_law 1161 = .ok (.invokevirtual 185, 3) := by decide +kernel
theorem d_L_law_1164 : decode b_L_law 1164 = .ok (.istore 7, 2) := by decide +kernel
theorem d_L_law_1166 : decode b_L_law 1166 = .ok (.aload_n 2, 1) := by decide +kernel
theorem d_L_law_1167 : decode b_L_law 1167 = .ok (.invokevirtual 141, 3) := by decide +kernel
theorem d_L_law_1170 : decode b_L_law 1170 = .ok (.iload 6, 2) := by decide +kernel
theorem d_L_law_1172 : decode b_L_law 1172 = .ok (.if_icmp .eq 5, 3) := by decide +kernel
theorem d_L_law_1175 : decode b_L_law 1175 = .ok (.iconst 0, 1) := by decide +kernel
theorem d_L_law_1176 : decode b_L_law 1176 = .ok (.ireturn, 1) := by decide +kernel
theorem d_L_law_1177 : decode b_L_law 1177 = .ok (.iload 6, 2) := by decide +kernel
theorem d_L_law_1179 : decode b_L_law 1179 = .ok (.ifCond .ne 15, 3) := by decide +kernel
theorem d_L_law_1182 : decode b_L_law 1182 = .ok (.aload_n 3, 1) := by decide +kernel
theorem d_L_law_1183 : decode b_L_law 1183 = .ok (.iconst 0, 1) := by decide +kernel
theorem d_L_law_1184 : decode b_L_law 1184 = .ok (.laload, 1) := by decide +kernel
theorem d_L_law_1185 : decode b_L_law 1185 = .ok (.iload 7, 2) := by decide +kernel
theorem d_L_law_1187 : decode b_L_law 1187 = .ok (.i2l, 1) := by decide +kernel
theorem d_L_law_1188 : decode b_L_law 1188 = .ok (.lcmp, 1) := by decide +kernel
theorem d_L_law_1189 : decode b_L_law 1189 = .ok (.ifCond .eq 5, 3) := by decide +kernel
theorem d_L_law_1192 : decode b_L_law 1192 = .ok (.iconst 0, 1) := by decide +kernel
theorem d_L_law_1193 : decode b_L_law 1193 = .ok (.ireturn, 1) := by decide +kernel
theorem d_L_law_1194 : decode b_L_law 1194 = .ok (.goto 1112, 3) := by decide +kernel
theorem d_L_law_1197 : decode b_L_law 1197 = .ok (.aload_n 1, 1) := by decide +kernel
theorem d_L_law_1198 : decode b_L_law 1198 = .ok (.aload_n 0, 1) := by decide +kernel
theorem d_L_law_1199 : decode b_L_law 1199 = .ok (.iload 5, 2) := by decide +kernel
theorem d_L_law_1201 : decode b_L_law 1201 = .ok (.iconst 1, 1) := by decide +kernel
theorem d_L_law_1202 : decode b_L_law 1202 = .ok (.iadd, 1) := by decide +kernel
theorem d_L_law_1203 : decode b_L_law 1203 = .ok (.iaload, 1) := by decide +kernel
theorem d_L_law_1204 : decode b_L_law 1204 = .ok (.aload_n 3, 1) := by decide +kernel
theorem d_L_law_1205 : decode b_L_law 1205 = .ok (.invokestatic 186, 3) := by decide +kernel
theorem d_L_law_1208 : decode b_L_law 1208 = .ok (.istore 6, 2) := by decide +kernel
theorem d_L_law_1210 : decode b_L_law 1210 = .ok (.aload_n 2, 1) := by decide +kernel
theorem d_L_law_1211 : decode b_L_law 1211 = .ok (.aload_n 0, 1) := by decide +kernel
theorem d_L_law_1212 : decode b_L_law 1212 = .ok (.iload 5, 2) := by decide +kernel
theorem d_L_law_1214 : decode b_L_law 1214 = .ok (.iconst 1, 1) := by decide +kernel
theorem d_L_law_1215 : decode b_L_law 1215 = .ok (.iadd, 1) := by decide +kernel
theorem d_L_law_1216 : decode b_L_law 1216 = .ok (.iaload, 1) := by decide +kernel
theorem d_L_law_1217 : decode b_L_law 1217 = .ok (.invokevirtual 188, 3) := by decide +kernel
theorem d_L_law_1220 : decode b_L_law 1220 = .ok (.istore 7, 2) := by decide +kernel
theorem d_L_law_1222 : decode b_L_law 1222 = .ok (.aload_n 2, 1) := by decide +kernel
theorem d_L_law_1223 : decode b_L_law 1223 = .ok (.invokevirtual 141, 3) := by decide +kernel
theorem d_L_law_1226 : decode b_L_law 1226 = .ok (.iload 6, 2) := by decide +kernel
theorem d_L_law_1228 : decode b_L_law 1228 = .ok (.if_icmp .eq 5, 3) := by decide +kernel
theorem d_L_law_1231 : decode b_L_law 1231 = .ok (.iconst 0, 1) := by decide +kernel
theorem d_L_law_1232 : decode b_L_law 1232 = .ok (.ireturn, 1) := by decide +kernel
theorem d_L_law_1233 : decode b_L_law 1233 = .ok (.iload 6, 2) := by decide +kernel
theorem d_L_law_1235 : decode b_L_law 1235 = .ok (.ifCond .ne 15, 3) := by decide +kernel
theorem d_L_law_1238 : decode b_L_law 1238 = .ok (.aload_n 3, 1) := by decide +kernel
theorem d_L_law_1239 : decode b_L_law 1239 = .ok (.iconst 0, 1) := by decide +kernel
theorem d_L_law_1240 : decode b_L_law 1240 = .ok (.laload, 1) := by decide +kernel
theorem d_L_law_1241 : decode b_L_law 1241 = .ok (.iload 7, 2) := by decide +kernel
theorem d_L_law_1243 : decode b_L_law 1243 = .ok (.i2l, 1) := by decide +kernel
theorem d_L_law_1244 : decode b_L_law 1244 = .ok (.lcmp, 1) := by decide +kernel
theorem d_L_law_1245 : decode b_L_law 1245 = .ok (.ifCond .eq 5, 3) := by decide +kernel
theorem d_L_law_1248 : decode b_L_law 1248 = .ok (.iconst 0, 1) := by decide +kernel
theorem d_L_law_1249 : decode b_L_law 1249 = .ok (.ireturn, 1) := by decide +kernel
theorem d_L_law_1250 : decode b_L_law 1250 = .ok (.goto 1056, 3) := by decide +kernel
theorem d_L_law_1253 : decode b_L_law 1253 = .ok (.aload_n 1, 1) := by decide +kernel
theorem d_L_law_1254 : decode b_L_law 1254 = .ok (.aload_n 0, 1) := by decide +kernel
theorem d_L_law_1255 : decode b_L_law 1255 = .ok (.iload 5, 2) := by decide +kernel
theorem d_L_law_1257 : decode b_L_law 1257 = .ok (.iconst 1, 1) := by decide +kernel
theorem d_L_law_1258 : decode b_L_law 1258 = .ok (.iadd, 1) := by decide +kernel
theorem d_L_law_1259 : decode b_L_law 1259 = .ok (.iaload, 1) := by decide +kernel
theorem d_L_law_1260 : decode b_L_law 1260 = .ok (.aload_n 0, 1) := by decide +kernel
theorem d_L_law_1261 : decode b_L_law 1261 = .ok (.iload 5, 2) := by decide +kernel
theorem d_L_law_1263 : decode b_L_law 1263 = .ok (.iconst 2, 1) := by decide +kernel
theorem d_L_law_1264 : decode b_L_law 1264 = .ok (.iadd, 1) := by decide +kernel
theorem d_L_law_1265 : decode b_L_law 1265 = .ok (.iaload, 1) := by decide +kernel
theorem d_L_law_1266 : decode b_L_law 1266 = .ok (.ifCond .eq 7, 3) := by decide +kernel
theorem d_L_law_1269 : decode b_L_law 1269 = .ok (.iconst 1, 1) := by decide +kernel
theorem d_L_law_1270 : decode b_L_law 1270 = .ok (.goto 4, 3) := by decide +kernel
theorem d_L_law_1273 : decode b_L_law 1273 = .ok (.iconst 0, 1) := by decide +kernel
theorem d_L_law_1274 : decode b_L_law 1274 = .ok (.aload_n 3, 1) := by decide +kernel
theorem d_L_law_1275 : decode b_L_law 1275 = .ok (.invokestatic 189, 3) := by decide +kernel
theorem d_L_law_1278 : decode b_L_law 1278 = .ok (.istore 6, 2) := by decide +kernel
theorem d_L_law_1280 : decode b_L_law 1280 = .ok (.aload_n 2, 1) := by decide +kernel
theorem d_L_law_1281 : decode b_L_law 1281 = .ok (.aload_n 0, 1) := by decide +kernel
theorem d_L_law_1282 : decode b_L_law 1282 = .ok (.iload 5, 2) := by decide +kernel
theorem d_L_law_1284 : decode b_L_law 1284 = .ok (.iconst 1, 1) := by decide +kernel
theorem d_L_law_1285 : decode b_L_law 1285 = .ok (.iadd, 1) := by decide +kernel
theorem d_L_law_1286 : decode b_L_law 1286 = .ok (.iaload, 1) := by decide +kernel
theorem d_L_law_1287 : decode b_L_law 1287 = .ok (.aload_n 0, 1) := by decide +kernel
theorem d_L_law_1288 : decode b_L_law 1288 = .ok (.iload 5, 2) := by decide +kernel
theorem d_L_law_1290 : decode b_L_law 1290 = .ok (.iconst 2, 1) := by decide +kernel
theorem d_L_law_1291 : decode b_L_law 1291 = .ok (.iadd, 1) := by decide +kernel
theorem d_L_law_1292 : decode b_L_law 1292 = .ok (.iaload, 1) := by decide +kernel
theorem d_L_law_1293 : decode b_L_law 1293 = .ok (.ifCond .eq 7, 3) := by decide +kernel
theorem d_L_law_1296 : decode b_L_law 1296 = .ok (.iconst 1, 1) := by decide +kernel
theorem d_L_law_1297 : decode b_L_law 1297 = .ok (.goto 4, 3) := by decide +kernel
theorem d_L_law_1300 : decode b_L_law 1300 = .ok (.iconst 0, 1) := by decide +kernel
theorem d_L_law_1301 : decode b_L_law 1301 = .ok (.invokevirtual 191, 3) := by decide +kernel
theorem d_L_law_1304 : decode b_L_law 1304 = .ok (.istore 7, 2) := by decide +kernel
theorem d_L_law_1306 : decode b_L_law 1306 = .ok (.aload_n 2, 1) := by decide +kernel
theorem d_L_law_1307 : decode b_L_law 1307 = .ok (.invokevirtual 141, 3) := by decide +kernel
theorem d_L_law_1310 : decode b_L_law 1310 = .ok (.iload 6, 2) := by decide +kernel
theorem d_L_law_1312 : decode b_L_law 1312 = .ok (.if_icmp .eq 5, 3) := by decide +kernel
theorem d_L_law_1315 : decode b_L_law 1315 = .ok (.iconst 0, 1) := by decide +kernel
theorem d_L_law_1316 : decode b_L_law 1316 = .ok (.ireturn, 1) := by decide +kernel
theorem d_L_law_1317 : decode b_L_law 1317 = .ok (.iload 6, 2) := by decide +kernel
theorem d_L_law_1319 : decode b_L_law 1319 = .ok (.ifCond .ne 15, 3) := by decide +kernel
theorem d_L_law_1322 : decode b_L_law 1322 = .ok (.aload_n 3, 1) := by decide +kernel
theorem d_L_law_1323 : decode b_L_law 1323 = .ok (.iconst 0, 1) := by decide +kernel
theorem d_L_law_1324 : decode b_L_law 1324 = .ok (.laload, 1) := by decide +kernel
theorem d_L_law_1325 : decode b_L_law 1325 = .ok (.iload 7, 2) := by decide +kernel
theorem d_L_law_1327 : decode b_L_law 1327 = .ok (.i2l, 1) := by decide +kernel
theorem d_L_law_1328 : decode b_L_law 1328 = .ok (.lcmp, 1) := by decide +kernel
theorem d_L_law_1329 : decode b_L_law 1329 = .ok (.ifCond .eq 5, 3) := by decide +kernel
theorem d_L_law_1332 : decode b_L_law 1332 = .ok (.iconst 0, 1) := by decide +kernel
theorem d_L_law_1333 : decode b_L_law 1333 = .ok (.ireturn, 1) := by decide +kernel
theorem d_L_law_1334 : decode b_L_law 1334 = .ok (.goto 972, 3) := by decide +kernel
theorem d_L_law_1337 : decode b_L_law 1337 = .ok (.aload_n 1, 1) := by decide +kernel
theorem d_L_law_1338 : decode b_L_law 1338 = .ok (.aload_n 0, 1) := by decide +kernel
theorem d_L_law_1339 : decode b_L_law 1339 = .ok (.iload 5, 2) := by decide +kernel
theorem d_L_law_1341 : decode b_L_law 1341 = .ok (.iconst 1, 1) := by decide +kernel
theorem d_L_law_1342 : decode b_L_law 1342 = .ok (.iadd, 1) := by decide +kernel
theorem d_L_law_1343 : decode b_L_law 1343 = .ok (.iaload, 1) := by decide +kernel
theorem d_L_law_1344 : decode b_L_law 1344 = .ok (.aload_n 3, 1) := by decide +kernel
theorem d_L_law_1345 : decode b_L_law 1345 = .ok (.invokestatic 192, 3) := by decide +kernel
theorem d_L_law_1348 : decode b_L_law 1348 = .ok (.istore 6, 2) := by decide +kernel
theorem d_L_law_1350 : decode b_L_law 1350 = .ok (.aload_n 2, 1) := by decide +kernel
theorem d_L_law_1351 : decode b_L_law 1351 = .ok (.aload_n 0, 1) := by decide +kernel
theorem d_L_law_1352 : decode b_L_law 1352 = .ok (.iload 5, 2) := by decide +kernel
theorem d_L_law_1354 : decode b_L_law 1354 = .ok (.iconst 1, 1) := by decide +kernel
theorem d_L_law_1355 : decode b_L_law 1355 = .ok (.iadd, 1) := by decide +kernel
theorem d_L_law_1356 : decode b_L_law 1356 = .ok (.iaload, 1) := by decide +kernel
theorem d_L_law_1357 : decode b_L_law 1357 = .ok (.invokevirtual 194, 3) := by decide +kernel
theorem d_L_law_1360 : decode b_L_law 1360 = .ok (.istore 7, 2) := by decide +kernel
theorem d_L_law_1362 : decode b_L_law 1362 = .ok (.aload_n 2, 1) := by decide +kernel
theorem d_L_law_1363 : decode b_L_law 1363 = .ok (.invokevirtual 141, 3) := by decide +kernel
theorem d_L_law_1366 : decode b_L_law 1366 = .ok (.iload 6, 2) := by decide +kernel
theorem d_L_law_1368 : decode b_L_law 1368 = .ok (.if_icmp .eq 5, 3) := by decide +kernel
theorem d_L_law_1371 : decode b_L_law 1371 = .ok (.iconst 0, 1) := by decide +kernel
theorem d_L_law_1372 : decode b_L_law 1372 = .ok (.ireturn, 1) := by decide +kernel
theorem d_L_law_1373 : decode b_L_law 1373 = .ok (.iload 6, 2) := by decide +kernel
theorem d_L_law_1375 : decode b_L_law 1375 = .ok (.ifCond .ne 15, 3) := by decide +kernel
theorem d_L_law_1378 : decode b_L_law 1378 = .ok (.aload_n 3, 1) := by decide +kernel
theorem d_L_law_1379 : decode b_L_law 1379 = .ok (.iconst 0, 1) := by decide +kernel
theorem d_L_law_1380 : decode b_L_law 1380 = .ok (.laload, 1) := by decide +kernel
theorem d_L_law_1381 : decode b_L_law 1381 = .ok (.iload 7, 2) := by decide +kernel
theorem d_L_law_1383 : decode b_L_law 1383 = .ok (.i2l, 1) := by decide +kernel
theorem d_L_law_1384 : decode b_L_law 1384 = .ok (.lcmp, 1) := by decide +kernel
theorem d_L_law_1385 : decode b_L_law 1385 = .ok (.ifCond .eq 5, 3) := by decide +kernel
theorem d_L_law_1388 : decode b_L_law 1388 = .ok (.iconst 0, 1) := by decide +kernel
theorem d_L_law_1389 : decode b_L_law 1389 = .ok (.ireturn, 1) := by decide +kernel
theorem d_L_law_1390 : decode b_L_law 1390 = .ok (.goto 916, 3) := by decide +kernel
theorem d_L_law_1393 : decode b_L_law 1393 = .ok (.aload_n 1, 1) := by decide +kernel
theorem d_L_law_1394 : decode b_L_law 1394 = .ok (.aload_n 0, 1) := by decide +kernel
theorem d_L_law_1395 : decode b_L_law 1395 = .ok (.iload 5, 2) := by decide +kernel
theorem d_L_law_1397 : decode b_L_law 1397 = .ok (.iconst 1, 1) := by decide +kernel
theorem d_L_law_1398 : decode b_L_law 1398 = .ok (.iadd, 1) := by decide +kernel
theorem d_L_law_1399 : decode b_L_law 1399 = .ok (.iaload, 1) := by decide +kernel
theorem d_L_law_1400 : decode b_L_law 1400 = .ok (.aload_n 0, 1) := by decide +kernel
theorem d_L_law_1401 : decode b_L_law 1401 = .ok (.iload 5, 2) := by decide +kernel
theorem d_L_law_1403 : decode b_L_law 1403 = .ok (.iconst 2, 1) := by decide +kernel
theorem d_L_law_1404 : decode b_L_law 1404 = .ok (.iadd, 1) := by decide +kernel
theorem d_L_law_1405 : decode b_L_law 1405 = .ok (.iaload, 1) := by decide +kernel
theorem d_L_law_1406 : decode b_L_law 1406 = .ok (.aload_n 3, 1) := by decide +kernel
theorem d_L_law_1407 : decode b_L_law 1407 = .ok (.invokestatic 195, 3) := by decide +kernel
theorem d_L_law_1410 : decode b_L_law 1410 = .ok (.istore 6, 2) := by decide +kernel
theorem d_L_law_1412 : decode b_L_law 1412 = .ok (.aload_n 2, 1) := by decide +kernel
theorem d_L_law_1413 : decode b_L_law 1413 = .ok (.aload_n 0, 1) := by decide +kernel
theorem d_L_law_1414 : decode b_L_law 1414 = .ok (.iload 5, 2) := by decide +kernel
theorem d_L_law_1416 : decode b_L_law 1416 = .ok (.iconst 1, 1) := by decide +kernel
theorem d_L_law_1417 : decode b_L_law 1417 = .ok (.iadd, 1) := by decide +kernel
theorem d_L_law_1418 : decode b_L_law 1418 = .ok (.iaload, 1) := by decide +kernel
theorem d_L_law_1419 : decode b_L_law 1419 = .ok (.aload_n 0, 1) := by decide +kernel
theorem d_L_law_1420 : decode b_L_law 1420 = .ok (.iload 5, 2) := by decide +kernel
theorem d_L_law_1422 : decode b_L_law 1422 = .ok (.iconst 2, 1) := by decide +kernel
theorem d_L_law_1423 : decode b_L_law 1423 = .ok (.iadd, 1) := by decide +kernel
theorem d_L_law_1424 : decode b_L_law 1424 = .ok (.iaload, 1) := by decide +kernel
theorem d_L_law_1425 : decode b_L_law 1425 = .ok (.invokevirtual 197, 3) := by decide +kernel
theorem d_L_law_1428 : decode b_L_law 1428 = .ok (.istore 7, 2) := by decide +kernel
theorem d_L_law_1430 : decode b_L_law 1430 = .ok (.aload_n 2, 1) := by decide +kernel
theorem d_L_law_1431 : decode b_L_law 1431 = .ok (.invokevirtual 141, 3) := by decide +kernel
theorem d_L_law_1434 : decode b_L_law 1434 = .ok (.iload 6, 2) := by decide +kernel
theorem d_L_law_1436 : decode b_L_law 1436 = .ok (.if_icmp .eq 5, 3) := by decide +kernel
theorem d_L_law_1439 : decode b_L_law 1439 = .ok (.iconst 0, 1) := by decide +kernel
theorem d_L_law_1440 : decode b_L_law 1440 = .ok (.ireturn, 1) := by decide +kernel
theorem d_L_law_1441 : decode b_L_law 1441 = .ok (.iload 6, 2) := by decide +kernel
theorem d_L_law_1443 : decode b_L_law 1443 = .ok (.ifCond .ne 15, 3) := by decide +kernel
theorem d_L_law_1446 : decode b_L_law 1446 = .ok (.aload_n 3, 1) := by decide +kernel
theorem d_L_law_1447 : decode b_L_law 1447 = .ok (.iconst 0, 1) := by decide +kernel
theorem d_L_law_1448 : decode b_L_law 1448 = .ok (.laload, 1) := by decide +kernel
theorem d_L_law_1449 : decode b_L_law 1449 = .ok (.iload 7, 2) := by decide +kernel
theorem d_L_law_1451 : decode b_L_law 1451 = .ok (.i2l, 1) := by decide +kernel
theorem d_L_law_1452 : decode b_L_law 1452 = .ok (.lcmp, 1) := by decide +kernel
theorem d_L_law_1453 : decode b_L_law 1453 = .ok (.ifCond .eq 5, 3) := by decide +kernel
theorem d_L_law_1456 : decode b_L_law 1456 = .ok (.iconst 0, 1) := by decide +kernel
theorem d_L_law_1457 : decode b_L_law 1457 = .ok (.ireturn, 1) := by decide +kernel
theorem d_L_law_1458 : decode b_L_law 1458 = .ok (.goto 848, 3) := by decide +kernel
theorem d_L_law_1461 : decode b_L_law 1461 = .ok (.aload_n 1, 1) := by decide +kernel
theorem d_L_law_1462 : decode b_L_law 1462 = .ok (.aload_n 0, 1) := by decide +kernel
theorem d_L_law_1463 : decode b_L_law 1463 = .ok (.iload 5, 2) := by decide +kernel
theorem d_L_law_1465 : decode b_L_law 1465 = .ok (.iconst 1, 1) := by decide +kernel
theorem d_L_law_1466 : decode b_L_law 1466 = .ok (.iadd, 1) := by decide +kernel
theorem d_L_law_1467 : decode b_L_law 1467 = .ok (.iaload, 1) := by decide +kernel
theorem d_L_law_1468 : decode b_L_law 1468 = .ok (.aload_n 0, 1) := by decide +kernel
theorem d_L_law_1469 : decode b_L_law 1469 = .ok (.iload 5, 2) := by decide +kernel
theorem d_L_law_1471 : decode b_L_law 1471 = .ok (.iconst 2, 1) := by decide +kernel
theorem d_L_law_1472 : decode b_L_law 1472 = .ok (.iadd, 1) := by decide +kernel
theorem d_L_law_1473 : decode b_L_law 1473 = .ok (.iaload, 1) := by decide +kernel
theorem d_L_law_1474 : decode b_L_law 1474 = .ok (.aload_n 0, 1) := by decide +kernel
theorem d_L_law_1475 : decode b_L_law 1475 = .ok (.iload 5, 2) := by decide +kernel
theorem d_L_law_1477 : decode b_L_law 1477 = .ok (.iconst 3, 1) := by decide +kernel
theorem d_L_law_1478 : decode b_L_law 1478 = .ok (.iadd, 1) := by decide +kernel
theorem d_L_law_1479 : decode b_L_law 1479 = .ok (.iaload, 1) := by decide +kernel
theorem d_L_law_1480 : decode b_L_law 1480 = .ok (.ifCond .eq 7, 3) := by decide +kernel
theorem d_L_law_1483 : decode b_L_law 1483 = .ok (.iconst 1, 1) := by decide +kernel
theorem d_L_law_1484 : decode b_L_law 1484 = .ok (.goto 4, 3) := by decide +kernel
theorem d_L_law_1487 : decode b_L_law 1487 = .ok (.iconst 0, 1) := by decide +kernel
theorem d_L_law_1488 : decode b_L_law 1488 = .ok (.aload_n 3, 1) := by decide +kernel
theorem d_L_law_1489 : decode b_L_law 1489 = .ok (.invokestatic 198, 3) := by decide +kernel
theorem d_L_law_1492 : decode b_L_law 1492 = .ok (.istore 6, 2) := by decide +kernel
theorem d_L_law_1494 : decode b_L_law 1494 = .ok (.aload_n 2, 1) := by decide +kernel
theorem d_L_law_1495 : decode b_L_law 1495 = .ok (.aload_n 0, 1) := by decide +kernel
theorem d_L_law_1496 : decode b_L_law 1496 = .ok (.iload 5, 2) := by decide +kernel
theorem d_L_law_1498 : decode b_L_law 1498 = .ok (.iconst 1, 1) := by decide +kernel
theorem d_L_law_1499 : decode b_L_law 1499 = .ok (.iadd, 1) := by decide +kernel
theorem d_L_law_1500 : decode b_L_law 1500 = .ok (.iaload, 1) := by decide +kernel
theorem d_L_law_1501 : decode b_L_law 1501 = .ok (.aload_n 0, 1) := by decide +kernel
theorem d_L_law_1502 : decode b_L_law 1502 = .ok (.iload 5, 2) := by decide +kernel
theorem d_L_law_1504 : decode b_L_law 1504 = .ok (.iconst 2, 1) := by decide +kernel
theorem d_L_law_1505 : decode b_L_law 1505 = .ok (.iadd, 1) := by decide +kernel
theorem d_L_law_1506 : decode b_L_law 1506 = .ok (.iaload, 1) := by decide +kernel
theorem d_L_law_1507 : decode b_L_law 1507 = .ok (.aload_n 0, 1) := by decide +kernel
theorem d_L_law_1508 : decode b_L_law 1508 = .ok (.iload 5, 2) := by decide +kernel
theorem d_L_law_1510 : decode b_L_law 1510 = .ok (.iconst 3, 1) := by decide +kernel
theorem d_L_law_1511 : decode b_L_law 1511 = .ok (.iadd, 1) := by decide +kernel
theorem d_L_law_1512 : decode b_L_law 1512 = .ok (.iaload, 1) := by decide +kernel
theorem d_L_law_1513 : decode b_L_law 1513 = .ok (.ifCond .eq 7, 3) := by decide +kernel
theorem d_L_law_1516 : decode b_L_law 1516 = .ok (.iconst 1, 1) := by decide +kernel
theorem d_L_law_1517 : decode b_L_law 1517 = .ok (.goto 4, 3) := by decide +kernel
theorem d_L_law_1520 : decode b_L_law 1520 = .ok (.iconst 0, 1) := by decide +kernel
theorem d_L_law_1521 : decode b_L_law 1521 = .ok (.invokevirtual 201, 3) := by decide +kernel
theorem d_L_law_1524 : decode b_L_law 1524 = .ok (.istore 7, 2) := by decide +kernel
theorem d_L_law_1526 : decode b_L_law 1526 = .ok (.aload_n 2, 1) := by decide +kernel
theorem d_L_law_1527 : decode b_L_law 1527 = .ok (.invokevirtual 141, 3) := by decide +kernel
theorem d_L_law_1530 : decode b_L_law 1530 = .ok (.iload 6, 2) := by decide +kernel
theorem d_L_law_1532 : decode b_L_law 1532 = .ok (.if_icmp .eq 5, 3) := by decide +kernel
theorem d_L_law_1535 : decode b_L_law 1535 = .ok (.iconst 0, 1) := by decide +kernel
theorem d_L_law_1536 : decode b_L_law 1536 = .ok (.ireturn, 1) := by decide +kernel
theorem d_L_law_1537 : decode b_L_law 1537 = .ok (.iload 6, 2) := by decide +kernel
theorem d_L_law_1539 : decode b_L_law 1539 = .ok (.ifCond .ne 15, 3) := by decide +kernel
theorem d_L_law_1542 : decode b_L_law 1542 = .ok (.aload_n 3, 1) := by decide +kernel
theorem d_L_law_1543 : decode b_L_law 1543 = .ok (.iconst 0, 1) := by decide +kernel
theorem d_L_law_1544 : decode b_L_law 1544 = .ok (.laload, 1) := by decide +kernel
theorem d_L_law_1545 : decode b_L_law 1545 = .ok (.iload 7, 2) := by decide +kernel
theorem d_L_law_1547 : decode b_L_law 1547 = .ok (.i2l, 1) := by decide +kernel
theorem d_L_law_1548 : decode b_L_law 1548 = .ok (.lcmp, 1) := by decide +kernel
theorem d_L_law_1549 : decode b_L_law 1549 = .ok (.ifCond .eq 5, 3) := by decide +kernel
theorem d_L_law_1552 : decode b_L_law 1552 = .ok (.iconst 0, 1) := by decide +kernel
theorem d_L_law_1553 : decode b_L_law 1553 = .ok (.ireturn, 1) := by decide +kernel
theorem d_L_law_1554 : decode b_L_law 1554 = .ok (.goto 752, 3) := by decide +kernel
theorem d_L_law_1557 : decode b_L_law 1557 = .ok (.aload_n 1, 1) := by decide +kernel
theorem d_L_law_1558 : decode b_L_law 1558 = .ok (.aload_n 0, 1) := by decide +kernel
theorem d_L_law_1559 : decode b_L_law 1559 = .ok (.iload 5, 2) := by decide +kernel
theorem d_L_law_1561 : decode b_L_law 1561 = .ok (.iconst 1, 1) := by decide +kernel
theorem d_L_law_1562 : decode b_L_law 1562 = .ok (.iadd, 1) := by decide +kernel
theorem d_L_law_1563 : decode b_L_law 1563 = .ok (.iaload, 1) := by decide +kernel
theorem d_L_law_1564 : decode b_L_law 1564 = .ok (.aload_n 3, 1) := by decide +kernel
theorem d_L_law_1565 : decode b_L_law 1565 = .ok (.invokestatic 202, 3) := by decide +kernel
theorem d_L_law_1568 : decode b_L_law 1568 = .ok (.istore 6, 2) := by decide +kernel
theorem d_L_law_1570 : decode b_L_law 1570 = .ok (.aload_n 2, 1) := by decide +kernel
theorem d_L_law_1571 : decode b_L_law 1571 = .ok (.aload_n 0, 1) := by decide +kernel
theorem d_L_law_1572 : decode b_L_law 1572 = .ok (.iload 5, 2) := by decide +kernel
theorem d_L_law_1574 : decode b_L_law 1574 = .ok (.iconst 1, 1) := by decide +kernel
theorem d_L_law_1575 : decode b_L_law 1575 = .ok (.iadd, 1) := by decide +kernel
theorem d_L_law_1576 : decode b_L_law 1576 = .ok (.iaload, 1) := by decide +kernel
theorem d_L_law_1577 : decode b_L_law 1577 = .ok (.invokevirtual 204, 3) := by decide +kernel
theorem d_L_law_1580 : decode b_L_law 1580 = .ok (.istore 7, 2) := by decide +kernel
theorem d_L_law_1582 : decode b_L_law 1582 = .ok (.aload_n 2, 1) := by decide +kernel
theorem d_L_law_1583 : decode b_L_law 1583 = .ok (.invokevirtual 141, 3) := by decide +kernel
theorem d_L_law_1586 : decode b_L_law 1586 = .ok (.iload 6, 2) := by decide +kernel
theorem d_L_law_1588 : decode b_L_law 1588 = .ok (.if_icmp .eq 5, 3) := by decide +kernel
theorem d_L_law_1591 : decode b_L_law 1591 = .ok (.iconst 0, 1) := by decide +kernel
theorem d_L_law_1592 : decode b_L_law 1592 = .ok (.ireturn, 1) := by decide +kernel
theorem d_L_law_1593 : decode b_L_law 1593 = .ok (.iload 6, 2) := by decide +kernel
theorem d_L_law_1595 : decode b_L_law 1595 = .ok (.ifCond .ne 15, 3) := by decide +kernel
theorem d_L_law_1598 : decode b_L_law 1598 = .ok (.aload_n 3, 1) := by decide +kernel
theorem d_L_law_1599 : decode b_L_law 1599 = .ok (.iconst 0, 1) := by decide +kernel
theorem d_L_law_1600 : decode b_L_law 1600 = .ok (.laload, 1) := by decide +kernel
theorem d_L_law_1601 : decode b_L_law 1601 = .ok (.iload 7, 2) := by decide +kernel
theorem d_L_law_1603 : decode b_L_law 1603 = .ok (.i2l, 1) := by decide +kernel
theorem d_L_law_1604 : decode b_L_law 1604 = .ok (.lcmp, 1) := by decide +kernel
theorem d_L_law_1605 : decode b_L_law 1605 = .ok (.ifCond .eq 5, 3) := by decide +kernel
theorem d_L_law_1608 : decode b_L_law 1608 = .ok (.iconst 0, 1) := by decide +kernel
theorem d_L_law_1609 : decode b_L_law 1609 = .ok (.ireturn, 1) := by decide +kernel
theorem d_L_law_1610 : decode b_L_law 1610 = .ok (.goto 696, 3) := by decide +kernel
theorem d_L_law_1613 : decode b_L_law 1613 = .ok (.aload_n 1, 1) := by decide +kernel
theorem d_L_law_1614 : decode b_L_law 1614 = .ok (.aload_n 0, 1) := by decide +kernel
theorem d_L_law_1615 : decode b_L_law 1615 = .ok (.iload 5, 2) := by decide +kernel
theorem d_L_law_1617 : decode b_L_law 1617 = .ok (.iconst 1, 1) := by decide +kernel
theorem d_L_law_1618 : decode b_L_law 1618 = .ok (.iadd, 1) := by decide +kernel
theorem d_L_law_1619 : decode b_L_law 1619 = .ok (.iaload, 1) := by decide +kernel
theorem d_L_law_1620 : decode b_L_law 1620 = .ok (.aload_n 3, 1) := by decide +kernel
theorem d_L_law_1621 : decode b_L_law 1621 = .ok (.invokestatic 205, 3) := by decide +kernel
theorem d_L_law_1624 : decode b_L_law 1624 = .ok (.istore 6, 2) := by decide +kernel
theorem d_L_law_1626 : decode b_L_law 1626 = .ok (.aload_n 2, 1) := by decide +kernel
theorem d_L_law_1627 : decode b_L_law 1627 = .ok (.aload_n 0, 1) := by decide +kernel
theorem d_L_law_1628 : decode b_L_law 1628 = .ok (.iload 5, 2) := by decide +kernel
theorem d_L_law_1630 : decode b_L_law 1630 = .ok (.iconst 1, 1) := by decide +kernel
theorem d_L_law_1631 : decode b_L_law 1631 = .ok (.iadd, 1) := by decide +kernel
theorem d_L_law_1632 : decode b_L_law 1632 = .ok (.iaload, 1) := by decide +kernel
theorem d_L_law_1633 : decode b_L_law 1633 = .ok (.invokevirtual 207, 3) := by decide +kernel
theorem d_L_law_1636 : decode b_L_law 1636 = .ok (.istore 7, 2) := by decide +kernel
theorem d_L_law_1638 : decode b_L_law 1638 = .ok (.aload_n 2, 1) := by decide +kernel
theorem d_L_law_1639 : decode b_L_law 1639 = .ok (.invokevirtual 141, 3) := by decide +kernel
theorem d_L_law_1642 : decode b_L_law 1642 = .ok (.iload 6, 2) := by decide +kernel
theorem d_L_law_1644 : decode b_L_law 1644 = .ok (.if_icmp .eq 5, 3) := by decide +kernel
theorem d_L_law_1647 : decode b_L_law 1647 = .ok (.iconst 0, 1) := by decide +kernel
theorem d_L_law_1648 : decode b_L_law 1648 = .ok (.ireturn, 1) := by decide +kernel
theorem d_L_law_1649 : decode b_L_law 1649 = .ok (.iload 6, 2) := by decide +kernel
theorem d_L_law_1651 : decode b_L_law 1651 = .ok (.ifCond .ne 15, 3) := by decide +kernel
theorem d_L_law_1654 : decode b_L_law 1654 = .ok (.aload_n 3, 1) := by decide +kernel
theorem d_L_law_1655 : decode b_L_law 1655 = .ok (.iconst 0, 1) := by decide +kernel
theorem d_L_law_1656 : decode b_L_law 1656 = .ok (.laload, 1) := by decide +kernel
theorem d_L_law_1657 : decode b_L_law 1657 = .ok (.iload 7, 2) := by decide +kernel
theorem d_L_law_1659 : decode b_L_law 1659 = .ok (.i2l, 1) := by decide +kernel
theorem d_L_law_1660 : decode b_L_law 1660 = .ok (.lcmp, 1) := by decide +kernel
theorem d_L_law_1661 : decode b_L_law 1661 = .ok (.ifCond .eq 5, 3) := by decide +kernel
theorem d_L_law_1664 : decode b_L_law 1664 = .ok (.iconst 0, 1) := by decide +kernel
theorem d_L_law_1665 : decode b_L_law 1665 = .ok (.ireturn, 1) := by decide +kernel
theorem d_L_law_1666 : decode b_L_law 1666 = .ok (.goto 640, 3) := by decide +kernel
theorem d_L_law_1669 : decode b_L_law 1669 = .ok (.aload_n 1, 1) := by decide +kernel
theorem d_L_law_1670 : decode b_L_law 1670 = .ok (.aload_n 0, 1) := by decide +kernel
theorem d_L_law_1671 : decode b_L_law 1671 = .ok (.iload 5, 2) := by decide +kernel
theorem d_L_law_1673 : decode b_L_law 1673 = .ok (.iconst 1, 1) := by decide +kernel
theorem d_L_law_1674 : decode b_L_law 1674 = .ok (.iadd, 1) := by decide +kernel
theorem d_L_law_1675 : decode b_L_law 1675 = .ok (.iaload, 1) := by decide +kernel
theorem d_L_law_1676 : decode b_L_law 1676 = .ok (.aload_n 0, 1) := by decide +kernel
theorem d_L_law_1677 : decode b_L_law 1677 = .ok (.iload 5, 2) := by decide +kernel
theorem d_L_law_1679 : decode b_L_law 1679 = .ok (.iconst 2, 1) := by decide +kernel
theorem d_L_law_1680 : decode b_L_law 1680 = .ok (.iadd, 1) := by decide +kernel
theorem d_L_law_1681 : decode b_L_law 1681 = .ok (.iaload, 1) := by decide +kernel
theorem d_L_law_1682 : decode b_L_law 1682 = .ok (.aload_n 3, 1) := by decide +kernel
theorem d_L_law_1683 : decode b_L_law 1683 = .ok (.invokestatic 208, 3) := by decide +kernel
theorem d_L_law_1686 : decode b_L_law 1686 = .ok (.istore 6, 2) := by decide +kernel
theorem d_L_law_1688 : decode b_L_law 1688 = .ok (.aload_n 2, 1) := by decide +kernel
theorem d_L_law_1689 : decode b_L_law 1689 = .ok (.aload_n 0, 1) := by decide +kernel
theorem d_L_law_1690 : decode b_L_law 1690 = .ok (.iload 5, 2) := by decide +kernel
theorem d_L_law_1692 : decode b_L_law 1692 = .ok (.iconst 1, 1) := by decide +kernel
theorem d_L_law_1693 : decode b_L_law 1693 = .ok (.iadd, 1) := by decide +kernel
theorem d_L_law_1694 : decode b_L_law 1694 = .ok (.iaload, 1) := by decide +kernel
theorem d_L_law_1695 : decode b_L_law 1695 = .ok (.aload_n 0, 1) := by decide +kernel
theorem d_L_law_1696 : decode b_L_law 1696 = .ok (.iload 5, 2) := by decide +kernel
theorem d_L_law_1698 : decode b_L_law 1698 = .ok (.iconst 2, 1) := by decide +kernel
theorem d_L_law_1699 : decode b_L_law 1699 = .ok (.iadd, 1) := by decide +kernel
theorem d_L_law_1700 : decode b_L_law 1700 = .ok (.iaload, 1) := by decide +kernel
theorem d_L_law_1701 : decode b_L_law 1701 = .ok (.invokevirtual 210, 3) := by decide +kernel
theorem d_L_law_1704 : decode b_L_law 1704 = .ok (.istore 7, 2) := by decide +kernel
theorem d_L_law_1706 : decode b_L_law 1706 = .ok (.aload_n 2, 1) := by decide +kernel
theorem d_L_law_1707 : decode b_L_law 1707 = .ok (.invokevirtual 141, 3) := by decide +kernel
theorem d_L_law_1710 : decode b_L_law 1710 = .ok (.iload 6, 2) := by decide +kernel
theorem d_L_law_1712 : decode b_L_law 1712 = .ok (.if_icmp .eq 5, 3) := by decide +kernel
theorem d_L_law_1715 : decode b_L_law 1715 = .ok (.iconst 0, 1) := by decide +kernel
theorem d_L_law_1716 : decode b_L_law 1716 = .ok (.ireturn, 1) := by decide +kernel
theorem d_L_law_1717 : decode b_L_law 1717 = .ok (.iload 6, 2) := by decide +kernel
theorem d_L_law_1719 : decode b_L_law 1719 = .ok (.ifCond .ne 15, 3) := by decide +kernel
theorem d_L_law_1722 : decode b_L_law 1722 = .ok (.aload_n 3, 1) := by decide +kernel
theorem d_L_law_1723 : decode b_L_law 1723 = .ok (.iconst 0, 1) := by decide +kernel
theorem d_L_law_1724 : decode b_L_law 1724 = .ok (.laload, 1) := by decide +kernel
theorem d_L_law_1725 : decode b_L_law 1725 = .ok (.iload 7, 2) := by decide +kernel
theorem d_L_law_1727 : decode b_L_law 1727 = .ok (.i2l, 1) := by decide +kernel
theorem d_L_law_1728 : decode b_L_law 1728 = .ok (.lcmp, 1) := by decide +kernel
theorem d_L_law_1729 : decode b_L_law 1729 = .ok (.ifCond .eq 5, 3) := by decide +kernel
theorem d_L_law_1732 : decode b_L_law 1732 = .ok (.iconst 0, 1) := by decide +kernel
theorem d_L_law_1733 : decode b_L_law 1733 = .ok (.ireturn, 1) := by decide +kernel
theorem d_L_law_1734 : decode b_L_law 1734 = .ok (.goto 572, 3) := by decide +kernel
theorem d_L_law_1737 : decode b_L_law 1737 = .ok (.aload_n 1, 1) := by decide +kernel
theorem d_L_law_1738 : decode b_L_law 1738 = .ok (.aload_n 0, 1) := by decide +kernel
theorem d_L_law_1739 : decode b_L_law 1739 = .ok (.iload 5, 2) := by decide +kernel
theorem d_L_law_1741 : decode b_L_law 1741 = .ok (.iconst 1, 1) := by decide +kernel
theorem d_L_law_1742 : decode b_L_law 1742 = .ok (.iadd, 1) := by decide +kernel
theorem d_L_law_1743 : decode b_L_law 1743 = .ok (.iaload, 1) := by decide +kernel
theorem d_L_law_1744 : decode b_L_law 1744 = .ok (.aload_n 0, 1) := by decide +kernel
theorem d_L_law_1745 : decode b_L_law 1745 = .ok (.iload 5, 2) := by decide +kernel
theorem d_L_law_1747 : decode b_L_law 1747 = .ok (.iconst 2, 1) := by decide +kernel
theorem d_L_law_1748 : decode b_L_law 1748 = .ok (.iadd, 1) := by decide +kernel
theorem d_L_law_1749 : decode b_L_law 1749 = .ok (.iaload, 1) := by decide +kernel
theorem d_L_law_1750 : decode b_L_law 1750 = .ok (.aload_n 3, 1) := by decide +kernel
theorem d_L_law_1751 : decode b_L_law 1751 = .ok (.invokestatic 211, 3) := by decide +kernel
theorem d_L_law_1754 : decode b_L_law 1754 = .ok (.istore 6, 2) := by decide +kernel
theorem d_L_law_1756 : decode b_L_law 1756 = .ok (.aload_n 2, 1) := by decide +kernel
theorem d_L_law_1757 : decode b_L_law 1757 = .ok (.aload_n 0, 1) := by decide +kernel
theorem d_L_law_1758 : decode b_L_law 1758 = .ok (.iload 5, 2) := by decide +kernel
theorem d_L_law_1760 : decode b_L_law 1760 = .ok (.iconst 1, 1) := by decide +kernel
theorem d_L_law_1761 : decode b_L_law 1761 = .ok (.iadd, 1) := by decide +kernel
theorem d_L_law_1762 : decode b_L_law 1762 = .ok (.iaload, 1) := by decide +kernel
theorem d_L_law_1763 : decode b_L_law 1763 = .ok (.aload_n 0, 1) := by decide +kernel
theorem d_L_law_1764 : decode b_L_law 1764 = .ok (.iload 5, 2) := by decide +kernel
theorem d_L_law_1766 : decode b_L_law 1766 = .ok (.iconst 2, 1) := by decide +kernel
theorem d_L_law_1767 : decode b_L_law 1767 = .ok (.iadd, 1) := by decide +kernel
theorem d_L_law_1768 : decode b_L_law 1768 = .ok (.iaload, 1) := by decide +kernel
theorem d_L_law_1769 : decode b_L_law 1769 = .ok (.invokevirtual 213, 3) := by decide +kernel
theorem d_L_law_1772 : decode b_L_law 1772 = .ok (.istore 7, 2) := by decide +kernel
theorem d_L_law_1774 : decode b_L_law 1774 = .ok (.aload_n 2, 1) := by decide +kernel
theorem d_L_law_1775 : decode b_L_law 1775 = .ok (.invokevirtual 141, 3) := by decide +kernel
theorem d_L_law_1778 : decode b_L_law 1778 = .ok (.iload 6, 2) := by decide +kernel
theorem d_L_law_1780 : decode b_L_law 1780 = .ok (.if_icmp .eq 5, 3) := by decide +kernel
theorem d_L_law_1783 : decode b_L_law 1783 = .ok (.iconst 0, 1) := by decide +kernel
theorem d_L_law_1784 : decode b_L_law 1784 = .ok (.ireturn, 1) := by decide +kernel
theorem d_L_law_1785 : decode b_L_law 1785 = .ok (.iload 6, 2) := by decide +kernel
theorem d_L_law_1787 : decode b_L_law 1787 = .ok (.ifCond .ne 15, 3) := by decide +kernel
theorem d_L_law_1790 : decode b_L_law 1790 = .ok (.aload_n 3, 1) := by decide +kernel
theorem d_L_law_1791 : decode b_L_law 1791 = .ok (.iconst 0, 1) := by decide +kernel
theorem d_L_law_1792 : decode b_L_law 1792 = .ok (.laload, 1) := by decide +kernel
theorem d_L_law_1793 : decode b_L_law 1793 = .ok (.iload 7, 2) := by decide +kernel
theorem d_L_law_1795 : decode b_L_law 1795 = .ok (.i2l, 1) := by decide +kernel
theorem d_L_law_1796 : decode b_L_law 1796 = .ok (.lcmp, 1) := by decide +kernel
theorem d_L_law_1797 : decode b_L_law 1797 = .ok (.ifCond .eq 5, 3) := by decide +kernel
theorem d_L_law_1800 : decode b_L_law 1800 = .ok (.iconst 0, 1) := by decide +kernel
theorem d_L_law_1801 : decode b_L_law 1801 = .ok (.ireturn, 1) := by decide +kernel
theorem d_L_law_1802 : decode b_L_law 1802 = .ok (.goto 504, 3) := by decide +kernel
theorem d_L_law_1805 : decode b_L_law 1805 = .ok (.aload_n 1, 1) := by decide +kernel
theorem d_L_law_1806 : decode b_L_law 1806 = .ok (.aload_n 0, 1) := by decide +kernel
theorem d_L_law_1807 : decode b_L_law 1807 = .ok (.iload 5, 2) := by decide +kernel
theorem d_L_law_1809 : decode b_L_law 1809 = .ok (.iconst 1, 1) := by decide +kernel
theorem d_L_law_1810 : decode b_L_law 1810 = .ok (.iadd, 1) := by decide +kernel
theorem d_L_law_1811 : decode b_L_law 1811 = .ok (.iaload, 1) := by decide +kernel
theorem d_L_law_1812 : decode b_L_law 1812 = .ok (.aload_n 3, 1) := by decide +kernel
theorem d_L_law_1813 : decode b_L_law 1813 = .ok (.invokestatic 214, 3) := by decide +kernel
theorem d_L_law_1816 : decode b_L_law 1816 = .ok (.istore 6, 2) := by decide +kernel
theorem d_L_law_1818 : decode b_L_law 1818 = .ok (.aload_n 2, 1) := by decide +kernel
theorem d_L_law_1819 : decode b_L_law 1819 = .ok (.aload_n 0, 1) := by decide +kernel
theorem d_L_law_1820 : decode b_L_law 1820 = .ok (.iload 5, 2) := by decide +kernel
theorem d_L_law_1822 : decode b_L_law 1822 = .ok (.iconst 1, 1) := by decide +kernel
theorem d_L_law_1823 : decode b_L_law 1823 = .ok (.iadd, 1) := by decide +kernel
theorem d_L_law_1824 : decode b_L_law 1824 = .ok (.iaload, 1) := by decide +kernel
theorem d_L_law_1825 : decode b_L_law 1825 = .ok (.invokevirtual 216, 3) := by decide +kernel
theorem d_L_law_1828 : decode b_L_law 1828 = .ok (.istore 7, 2) := by decide +kernel
theorem d_L_law_1830 : decode b_L_law 1830 = .ok (.aload_n 2, 1) := by decide +kernel
theorem d_L_law_1831 : decode b_L_law 1831 = .ok (.invokevirtual 141, 3) := by decide +kernel
theorem d_L_law_1834 : decode b_L_law 1834 = .ok (.iload 6, 2) := by decide +kernel
theorem d_L_law_1836 : decode b_L_law 1836 = .ok (.if_icmp .eq 5, 3) := by decide +kernel
theorem d_L_law_1839 : decode b_L_law 1839 = .ok (.iconst 0, 1) := by decide +kernel
theorem d_L_law_1840 : decode b_L_law 1840 = .ok (.ireturn, 1) := by decide +kernel
theorem d_L_law_1841 : decode b_L_law 1841 = .ok (.iload 6, 2) := by decide +kernel
theorem d_L_law_1843 : decode b_L_law 1843 = .ok (.ifCond .ne 15, 3) := by decide +kernel
theorem d_L_law_1846 : decode b_L_law 1846 = .ok (.aload_n 3, 1) := by decide +kernel
theorem d_L_law_1847 : decode b_L_law 1847 = .ok (.iconst 0, 1) := by decide +kernel
theorem d_L_law_1848 : decode b_L_law 1848 = .ok (.laload, 1) := by decide +kernel
theorem d_L_law_1849 : decode b_L_law 1849 = .ok (.iload 7, 2) := by decide +kernel
theorem d_L_law_1851 : decode b_L_law 1851 = .ok (.i2l, 1) := by decide +kernel
theorem d_L_law_1852 : decode b_L_law 1852 = .ok (.lcmp, 1) := by decide +kernel
theorem d_L_law_1853 : decode b_L_law 1853 = .ok (.ifCond .eq 5, 3) := by decide +kernel
theorem d_L_law_1856 : decode b_L_law 1856 = .ok (.iconst 0, 1) := by decide +kernel
theorem d_L_law_1857 : decode b_L_law 1857 = .ok (.ireturn, 1) := by decide +kernel
theorem d_L_law_1858 : decode b_L_law 1858 = .ok (.goto 448, 3) := by decide +kernel
theorem d_L_law_1861 : decode b_L_law 1861 = .ok (.aload_n 1, 1) := by decide +kernel
theorem d_L_law_1862 : decode b_L_law 1862 = .ok (.aload 4, 2) := by decide +kernel
theorem d_L_law_1864 : decode b_L_law 1864 = .ok (.invokestatic 217, 3) := by decide +kernel
theorem d_L_law_1867 : decode b_L_law 1867 = .ok (.istore 6, 2) := by decide +kernel
theorem d_L_law_1869 : decode b_L_law 1869 = .ok (.aload_n 2, 1) := by decide +kernel
theorem d_L_law_1870 : decode b_L_law 1870 = .ok (.invokevirtual 220, 3) := by decide +kernel
theorem d_L_law_1873 : decode b_L_law 1873 = .ok (.dstore 7, 2) := by decide +kernel
theorem d_L_law_1875 : decode b_L_law 1875 = .ok (.aload_n 2, 1) := by decide +kernel
theorem d_L_law_1876 : decode b_L_law 1876 = .ok (.invokevirtual 141, 3) := by decide +kernel
theorem d_L_law_1879 : decode b_L_law 1879 = .ok (.iload 6, 2) := by decide +kernel
theorem d_L_law_1881 : decode b_L_law 1881 = .ok (.if_icmp .eq 5, 3) := by decide +kernel
theorem d_L_law_1884 : decode b_L_law 1884 = .ok (.iconst 0, 1) := by decide +kernel
theorem d_L_law_1885 : decode b_L_law 1885 = .ok (.ireturn, 1) := by decide +kernel
theorem d_L_law_1886 : decode b_L_law 1886 = .ok (.iload 6, 2) := by decide +kernel
theorem d_L_law_1888 : decode b_L_law 1888 = .ok (.ifCond .ne 35, 3) := by decide +kernel
theorem d_L_law_1891 : decode b_L_law 1891 = .ok (.aload 4, 2) := by decide +kernel
theorem d_L_law_1893 : decode b_L_law 1893 = .ok (.iconst 0, 1) := by decide +kernel
theorem d_L_law_1894 : decode b_L_law 1894 = .ok (.daload, 1) := by decide +kernel
theorem d_L_law_1895 : decode b_L_law 1895 = .ok (.dload 7, 2) := by decide +kernel
theorem d_L_law_1897 : decode b_L_law 1897 = .ok (.dcmp .l, 1) := by decide +kernel
theorem d_L_law_1898 : decode b_L_law 1898 = .ok (.ifCond .eq 25, 3) := by decide +kernel
theorem d_L_law_1901 : decode b_L_law 1901 = .ok (.aload 4, 2) := by decide +kernel
theorem d_L_law_1903 : decode b_L_law 1903 = .ok (.iconst 0, 1) := by decide +kernel
theorem d_L_law_1904 : decode b_L_law 1904 = .ok (.daload, 1) := by decide +kernel
theorem d_L_law_1905 : decode b_L_law 1905 = .ok (.aload 4, 2) := by decide +kernel
theorem d_L_law_1907 : decode b_L_law 1907 = .ok (.iconst 0, 1) := by decide +kernel
theorem d_L_law_1908 : decode b_L_law 1908 = .ok (.daload, 1) := by decide +kernel
theorem d_L_law_1909 : decode b_L_law 1909 = .ok (.dcmp .l, 1) := by decide +kernel
theorem d_L_law_1910 : decode b_L_law 1910 = .ok (.ifCond .eq 11, 3) := by decide +kernel
theorem d_L_law_1913 : decode b_L_law 1913 = .ok (.dload 7, 2) := by decide +kernel
theorem d_L_law_1915 : decode b_L_law 1915 = .ok (.dload 7, 2) := by decide +kernel
theorem d_L_law_1917 : decode b_L_law 1917 = .ok (.dcmp .l, 1) := by decide +kernel
theorem d_L_law_1918 : decode b_L_law 1918 = .ok (.ifCond .ne 5, 3) := by decide +kernel
theorem d_L_law_1921 : decode b_L_law 1921 = .ok (.iconst 0, 1) := by decide +kernel
theorem d_L_law_1922 : decode b_L_law 1922 = .ok (.ireturn, 1) := by decide +kernel
theorem d_L_law_1923 : decode b_L_law 1923 = .ok (.goto 383, 3) := by decide +kernel
theorem d_L_law_1926 : decode b_L_law 1926 = .ok (.aload_n 1, 1) := by decide +kernel
theorem d_L_law_1927 : decode b_L_law 1927 = .ok (.aload_n 0, 1) := by decide +kernel
theorem d_L_law_1928 : decode b_L_law 1928 = .ok (.iload 5, 2) := by decide +kernel
theorem d_L_law_1930 : decode b_L_law 1930 = .ok (.iconst 1, 1) := by decide +kernel
theorem d_L_law_1931 : decode b_L_law 1931 = .ok (.iadd, 1) := by decide +kernel
theorem d_L_law_1932 : decode b_L_law 1932 = .ok (.iaload, 1) := by decide +kernel
theorem d_L_law_1933 : decode b_L_law 1933 = .ok (.aload 4, 2) := by decide +kernel
theorem d_L_law_1935 : decode b_L_law 1935 = .ok (.invokestatic 221, 3) := by decide +kernel
theorem d_L_law_1938 : decode b_L_law 1938 = .ok (.istore 6, 2) := by decide +kernel
theorem d_L_law_1940 : decode b_L_law 1940 = .ok (.aload_n 2, 1) := by decide +kernel
theorem d_L_law_1941 : decode b_L_law 1941 = .ok (.aload_n 0, 1) := by decide +kernel
theorem d_L_law_1942 : decode b_L_law 1942 = .ok (.iload 5, 2) := by decide +kernel
theorem d_L_law_1944 : decode b_L_law 1944 = .ok (.iconst 1, 1) := by decide +kernel
theorem d_L_law_1945 : decode b_L_law 1945 = .ok (.iadd, 1) := by decide +kernel
theorem d_L_law_1946 : decode b_L_law 1946 = .ok (.iaload, 1) := by decide +kernel
theorem d_L_law_1947 : decode b_L_law 1947 = .ok (.invokevirtual 224, 3) := by decide +kernel
theorem d_L_law_1950 : decode b_L_law 1950 = .ok (.fstore 7, 2) := by decide +kernel
theorem d_L_law_1952 : decode b_L_law 1952 = .ok (.aload_n 2, 1) := by decide +kernel
theorem d_L_law_1953 : decode b_L_law 1953 = .ok (.invokevirtual 141, 3) := by decide +kernel
theorem d_L_law_1956 : decode b_L_law 1956 = .ok (.iload 6, 2) := by decide +kernel
theorem d_L_law_1958 : decode b_L_law 1958 = .ok (.if_icmp .eq 5, 3) := by decide +kernel
theorem d_L_law_1961 : decode b_L_law 1961 = .ok (.iconst 0, 1) := by decide +kernel
theorem d_L_law_1962 : decode b_L_law 1962 = .ok (.ireturn, 1) := by decide +kernel
theorem d_L_law_1963 : decode b_L_law 1963 = .ok (.iload 6, 2) := by decide +kernel
theorem d_L_law_1965 : decode b_L_law 1965 = .ok (.ifCond .ne 36, 3) := by decide +kernel
theorem d_L_law_1968 : decode b_L_law 1968 = .ok (.aload 4, 2) := by decide +kernel
theorem d_L_law_1970 : decode b_L_law 1970 = .ok (.iconst 0, 1) := by decide +kernel
theorem d_L_law_1971 : decode b_L_law 1971 = .ok (.daload, 1) := by decide +kernel
theorem d_L_law_1972 : decode b_L_law 1972 = .ok (.fload 7, 2) := by decide +kernel
theorem d_L_law_1974 : decode b_L_law 1974 = .ok (.f2d, 1) := by decide +kernel
theorem d_L_law_1975 : decode b_L_law 1975 = .ok (.dcmp .l, 1) := by decide +kernel
theorem d_L_law_1976 : decode b_L_law 1976 = .ok (.ifCond .eq 25, 3) := by decide +kernel
theorem d_L_law_1979 : decode b_L_law 1979 = .ok (.aload 4, 2) := by decide +kernel
theorem d_L_law_1981 : decode b_L_law 1981 = .ok (.iconst 0, 1) := by decide +kernel
theorem d_L_law_1982 : decode b_L_law 1982 = .ok (.daload, 1) := by decide +kernel
theorem d_L_law_1983 : decode b_L_law 1983 = .ok (.aload 4, 2) := by decide +kernel
theorem d_L_law_1985 : decode b_L_law 1985 = .ok (.iconst 0, 1) := by decide +kernel
theorem d_L_law_1986 : decode b_L_law 1986 = .ok (.daload, 1) := by decide +kernel
theorem d_L_law_1987 : decode b_L_law 1987 = .ok (.dcmp .l, 1) := by decide +kernel
theorem d_L_law_1988 : decode b_L_law 1988 = .ok (.ifCond .eq 11, 3) := by decide +kernel
theorem d_L_law_1991 : decode b_L_law 1991 = .ok (.fload 7, 2) := by decide +kernel
theorem d_L_law_1993 : decode b_L_law 1993 = .ok (.fload 7, 2) := by decide +kernel
theorem d_L_law_1995 : decode b_L_law 1995 = .ok (.fcmp .l, 1) := by decide +kernel
theorem d_L_law_1996 : decode b_L_law 1996 = .ok (.ifCond .ne 5, 3) := by decide +kernel
theorem d_L_law_1999 : decode b_L_law 1999 = .ok (.iconst 0, 1) := by decide +kernel
theorem d_L_law_2000 : decode b_L_law 2000 = .ok (.ireturn, 1) := by decide +kernel
theorem d_L_law_2001 : decode b_L_law 2001 = .ok (.goto 305, 3) := by decide +kernel
theorem d_L_law_2004 : decode b_L_law 2004 = .ok (.aload_n 1, 1) := by decide +kernel
theorem d_L_law_2005 : decode b_L_law 2005 = .ok (.invokevirtual 225, 3) := by decide +kernel
theorem d_L_law_2008 : decode b_L_law 2008 = .ok (.aload_n 2, 1) := by decide +kernel
theorem d_L_law_2009 : decode b_L_law 2009 = .ok (.invokevirtual 229, 3) := by decide +kernel
theorem d_L_law_2012 : decode b_L_law 2012 = .ok (.if_icmp .eq 294, 3) := by decide +kernel
theorem d_L_law_2015 : decode b_L_law 2015 = .ok (.iconst 0, 1) := by decide +kernel
theorem d_L_law_2016 : decode b_L_law 2016 = .ok (.ireturn, 1) := by decide +kernel
theorem d_L_law_2017 : decode b_L_law 2017 = .ok (.aload_n 1, 1) := by decide +kernel
theorem d_L_law_2018 : decode b_L_law 2018 = .ok (.aload_n 0, 1) := by decide +kernel
theorem d_L_law_2019 : decode b_L_law 2019 = .ok (.iload 5, 2) := by decide +kernel
theorem d_L_law_2021 : decode b_L_law 2021 = .ok (.iconst 1, 1) := by decide +kernel
theorem d_L_law_2022 : decode b_L_law 2022 = .ok (.iadd, 1) := by decide +kernel
theorem d_L_law_2023 : decode b_L_law 2023 = .ok (.iaload, 1) := by decide +kernel
theorem d_L_law_2024 : decode b_L_law 2024 = .ok (.aload_n 3, 1) := by decide +kernel
theorem d_L_law_2025 : decode b_L_law 2025 = .ok (.invokestatic 230, 3) := by decide +kernel
theorem d_L_law_2028 : decode b_L_law 2028 = .ok (.istore 6, 2) := by decide +kernel
theorem d_L_law_2030 : decode b_L_law 2030 = .ok (.aload_n 2, 1) := by decide +kernel
theorem d_L_law_2031 : decode b_L_law 2031 = .ok (.aload_n 0, 1) := by decide +kernel
theorem d_L_law_2032 : decode b_L_law 2032 = .ok (.iload 5, 2) := by decide +kernel
theorem d_L_law_2034 : decode b_L_law 2034 = .ok (.iconst 1, 1) := by decide +kernel
theorem d_L_law_2035 : decode b_L_law 2035 = .ok (.iadd, 1) := by decide +kernel
theorem d_L_law_2036 : decode b_L_law 2036 = .ok (.iaload, 1) := by decide +kernel
theorem d_L_law_2037 : decode b_L_law 2037 = .ok (.invokevirtual 232, 3) := by decide +kernel
theorem d_L_law_2040 : decode b_L_law 2040 = .ok (.istore 7, 2) := by decide +kernel
theorem d_L_law_2042 : decode b_L_law 2042 = .ok (.aload_n 2, 1) := by decide +kernel
theorem d_L_law_2043 : decode b_L_law 2043 = .ok (.invokevirtual 141, 3) := by decide +kernel
theorem d_L_law_2046 : decode b_L_law 2046 = .ok (.iload 6, 2) := by decide +kernel
theorem d_L_law_2048 : decode b_L_law 2048 = .ok (.if_icmp .eq 5, 3) := by decide +kernel
theorem d_L_law_2051 : decode b_L_law 2051 = .ok (.iconst 0, 1) := by decide +kernel
theorem d_L_law_2052 : decode b_L_law 2052 = .ok (.ireturn, 1) := by decide +kernel
theorem d_L_law_2053 : decode b_L_law 2053 = .ok (.iload 6, 2) := by decide +kernel
theorem d_L_law_2055 : decode b_L_law 2055 = .ok (.ifCond .ne 15, 3) := by decide +kernel
theorem d_L_law_2058 : decode b_L_law 2058 = .ok (.aload_n 3, 1) := by decide +kernel
theorem d_L_law_2059 : decode b_L_law 2059 = .ok (.iconst 0, 1) := by decide +kernel
theorem d_L_law_2060 : decode b_L_law 2060 = .ok (.laload, 1) := by decide +kernel
theorem d_L_law_2061 : decode b_L_law 2061 = .ok (.iload 7, 2) := by decide +kernel
theorem d_L_law_2063 : decode b_L_law 2063 = .ok (.i2l, 1) := by decide +kernel
theorem d_L_law_2064 : decode b_L_law 2064 = .ok (.lcmp, 1) := by decide +kernel
theorem d_L_law_2065 : decode b_L_law 2065 = .ok (.ifCond .eq 5, 3) := by decide +kernel
theorem d_L_law_2068 : decode b_L_law 2068 = .ok (.iconst 0, 1) := by decide +kernel
theorem d_L_law_2069 : decode b_L_law 2069 = .ok (.ireturn, 1) := by decide +kernel
theorem d_L_law_2070 : decode b_L_law 2070 = .ok (.goto 236, 3) := by decide +kernel
theorem d_L_law_2073 : decode b_L_law 2073 = .ok (.aload_n 1, 1) := by decide +kernel
theorem d_L_law_2074 : decode b_L_law 2074 = .ok (.aload_n 3, 1) := by decide +kernel
theorem d_L_law_2075 : decode b_L_law 2075 = .ok (.invokestatic 233, 3) := by decide +kernel
theorem d_L_law_2078 : decode b_L_law 2078 = .ok (.istore 6, 2) := by decide +kernel
theorem d_L_law_2080 : decode b_L_law 2080 = .ok (.aload_n 2, 1) := by decide +kernel
theorem d_L_law_2081 : decode b_L_law 2081 = .ok (.invokevirtual 236, 3) := by decide +kernel
theorem d_L_law_2084 : decode b_L_law 2084 = .ok (.istore 7, 2) := by decide +kernel
theorem d_L_law_2086 : decode b_L_law 2086 = .ok (.aload_n 2, 1) := by decide +kernel
theorem d_L_law_2087 : decode b_L_law 2087 = .ok (.invokevirtual 141, 3) := by decide +kernel
theorem d_L_law_2090 : decode b_L_law 2090 = .ok (.iload 6, 2) := by decide +kernel
theorem d_L_law_2092 : decode b_L_law 2092 = .ok (.if_icmp .eq 5, 3) := by decide +kernel
theorem d_L_law_2095 : decode b_L_law 2095 = .ok (.iconst 0, 1) := by decide +kernel
theorem d_L_law_2096 : decode b_L_law 2096 = .ok (.ireturn, 1) := by decide +kernel
theorem d_L_law_2097 : decode b_L_law 2097 = .ok (.iload 6, 2) := by decide +kernel
theorem d_L_law_2099 : decode b_L_law 2099 = .ok (.ifCond .ne 15, 3) := by decide +kernel
theorem d_L_law_2102 : decode b_L_law 2102 = .ok (.aload_n 3, 1) := by decide +kernel
theorem d_L_law_2103 : decode b_L_law 2103 = .ok (.iconst 0, 1) := by decide +kernel
theorem d_L_law_2104 : decode b_L_law 2104 = .ok (.laload, 1) := by decide +kernel
theorem d_L_law_2105 : decode b_L_law 2105 = .ok (.iload 7, 2) := by decide +kernel
theorem d_L_law_2107 : decode b_L_law 2107 = .ok (.i2l, 1) := by decide +kernel
theorem d_L_law_2108 : decode b_L_law 2108 = .ok (.lcmp, 1) := by decide +kernel
theorem d_L_law_2109 : decode b_L_law 2109 = .ok (.ifCond .eq 5, 3) := by decide +kernel
theorem d_L_law_2112 : decode b_L_law 2112 = .ok (.iconst 0, 1) := by decide +kernel
theorem d_L_law_2113 : decode b_L_law 2113 = .ok (.ireturn, 1) := by decide +kernel
theorem d_L_law_2114 : decode b_L_law 2114 = .ok (.goto 192, 3) := by decide +kernel
theorem d_L_law_2117 : decode b_L_law 2117 = .ok (.aload_n 1, 1) := by decide +kernel
theorem d_L_law_2118 : decode b_L_law 2118 = .ok (.aload_n 3, 1) := by decide +kernel
theorem d_L_law_2119 : decode b_L_law 2119 = .ok (.invokestatic 237, 3) := by decide +kernel
theorem d_L_law_2122 : decode b_L_law 2122 = .ok (.istore 6, 2) := by decide +kernel
theorem d_L_law_2124 : decode b_L_law 2124 = .ok (.aload_n 2, 1) := by decide +kernel
theorem d_L_law_2125 : decode b_L_law 2125 = .ok (.invokevirtual 239, 3) := by decide +kernel
theorem d_L_law_2128 : decode b_L_law 2128 = .ok (.istore 7, 2) := by decide +kernel
theorem d_L_law_2130 : decode b_L_law 2130 = .ok (.aload_n 2, 1) := by decide +kernel
theorem d_L_law_2131 : decode b_L_law 2131 = .ok (.invokevirtual 141, 3) := by decide +kernel
theorem d_L_law_2134 : decode b_L_law 2134 = .ok (.iload 6, 2) := by decide +kernel
theorem d_L_law_2136 : decode b_L_law 2136 = .ok (.if_icmp .eq 5, 3) := by decide +kernel
theorem d_L_law_2139 : decode b_L_law 2139 = .ok (.iconst 0, 1) := by decide +kernel
theorem d_L_law_2140 : decode b_L_law 2140 = .ok (.ireturn, 1) := by decide +kernel
theorem d_L_law_2141 : decode b_L_law 2141 = .ok (.iload 6, 2) := by decide +kernel
theorem d_L_law_2143 : decode b_L_law 2143 = .ok (.ifCond .ne 15, 3) := by decide +kernel
theorem d_L_law_2146 : decode b_L_law 2146 = .ok (.aload_n 3, 1) := by decide +kernel
theorem d_L_law_2147 : decode b_L_law 2147 = .ok (.iconst 0, 1) := by decide +kernel
theorem d_L_law_2148 : decode b_L_law 2148 = .ok (.laload, 1) := by decide +kernel
theorem d_L_law_2149 : decode b_L_law 2149 = .ok (.iload 7, 2) := by decide +kernel
theorem d_L_law_2151 : decode b_L_law 2151 = .ok (.i2l, 1) := by decide +kernel
theorem d_L_law_2152 : decode b_L_law 2152 = .ok (.lcmp, 1) := by decide +kernel
theorem d_L_law_2153 : decode b_L_law 2153 = .ok (.ifCond .eq 5, 3) := by decide +kernel
theorem d_L_law_2156 : decode b_L_law 2156 = .ok (.iconst 0, 1) := by decide +kernel
theorem d_L_law_2157 : decode b_L_law 2157 = .ok (.ireturn, 1) := by decide +kernel
theorem d_L_law_2158 : decode b_L_law 2158 = .ok (.goto 148, 3) := by decide +kernel
theorem d_L_law_2161 : decode b_L_law 2161 = .ok (.aload_n 1, 1) := by decide +kernel
theorem d_L_law_2162 : decode b_L_law 2162 = .ok (.aload_n 3, 1) := by decide +kernel
theorem d_L_law_2163 : decode b_L_law 2163 = .ok (.invokestatic 240, 3) := by decide +kernel
theorem d_L_law_2166 : decode b_L_law 2166 = .ok (.istore 6, 2) := by decide +kernel
theorem d_L_law_2168 : decode b_L_law 2168 = .ok (.aload_n 2, 1) := by decide +kernel
theorem d_L_law_2169 : decode b_L_law 2169 = .ok (.invokevirtual 242, 3) := by decide +kernel
theorem d_L_law_2172 : decode b_L_law 2172 = .ok (.istore 7, 2) := by decide +kernel
theorem d_L_law_2174 : decode b_L_law 2174 = .ok (.aload_n 2, 1) := by decide +kernel
theorem d_L_law_2175 : decode b_L_law 2175 = .ok (.invokevirtual 141, 3) := by decide +kernel
theorem d_L_law_2178 : decode b_L_law 2178 = .ok (.iload 6, 2) := by decide +kernel
theorem d_L_law_2180 : decode b_L_law 2180 = .ok (.if_icmp .eq 5, 3) := by decide +kernel
theorem d_L_law_2183 : decode b_L_law 2183 = .ok (.iconst 0, 1) := by decide +kernel
theorem d_L_law_2184 : decode b_L_law 2184 = .ok (.ireturn, 1) := by decide +kernel
theorem d_L_law_2185 : decode b_L_law 2185 = .ok (.iload 6, 2) := by decide +kernel
theorem d_L_law_2187 : decode b_L_law 2187 = .ok (.ifCond .ne 15, 3) := by decide +kernel
theorem d_L_law_2190 : decode b_L_law 2190 = .ok (.aload_n 3, 1) := by decide +kernel
theorem d_L_law_2191 : decode b_L_law 2191 = .ok (.iconst 0, 1) := by decide +kernel
theorem d_L_law_2192 : decode b_L_law 2192 = .ok (.laload, 1) := by decide +kernel
theorem d_L_law_2193 : decode b_L_law 2193 = .ok (.iload 7, 2) := by decide +kernel
theorem d_L_law_2195 : decode b_L_law 2195 = .ok (.i2l, 1) := by decide +kernel
theorem d_L_law_2196 : decode b_L_law 2196 = .ok (.lcmp, 1) := by decide +kernel
theorem d_L_law_2197 : decode b_L_law 2197 = .ok (.ifCond .eq 5, 3) := by decide +kernel
theorem d_L_law_2200 : decode b_L_law 2200 = .ok (.iconst 0, 1) := by decide +kernel
theorem d_L_law_2201 : decode b_L_law 2201 = .ok (.ireturn, 1) := by decide +kernel
theorem d_L_law_2202 : decode b_L_law 2202 = .ok (.goto 104, 3) := by decide +kernel
theorem d_L_law_2205 : decode b_L_law 2205 = .ok (.aload_n 1, 1) := by decide +kernel
theorem d_L_law_2206 : decode b_L_law 2206 = .ok (.aload_n 3, 1) := by decide +kernel
theorem d_L_law_2207 : decode b_L_law 2207 = .ok (.invokestatic 243, 3) := by decide +kernel
theorem d_L_law_2210 : decode b_L_law 2210 = .ok (.istore 6, 2) := by decide +kernel
theorem d_L_law_2212 : decode b_L_law 2212 = .ok (.aload_n 2, 1) := by decide +kernel
theorem d_L_law_2213 : decode b_L_law 2213 = .ok (.invokevirtual 245, 3) := by decide +kernel
theorem d_L_law_2216 : decode b_L_law 2216 = .ok (.istore 7, 2) := by decide +kernel
theorem d_L_law_2218 : decode b_L_law 2218 = .ok (.aload_n 2, 1) := by decide +kernel
theorem d_L_law_2219 : decode b_L_law 2219 = .ok (.invokevirtual 141, 3) := by decide +kernel
theorem d_L_law_2222 : decode b_L_law 2222 = .ok (.iload 6, 2) := by decide +kernel
theorem d_L_law_2224 : decode b_L_law 2224 = .ok (.if_icmp .eq 5, 3) := by decide +kernel
theorem d_L_law_2227 : decode b_L_law 2227 = .ok (.iconst 0, 1) := by decide +kernel
theorem d_L_law_2228 : decode b_L_law 2228 = .ok (.ireturn, 1) := by decide +kernel
theorem d_L_law_2229 : decode b_L_law 2229 = .ok (.iload 6, 2) := by decide +kernel
theorem d_L_law_2231 : decode b_L_law 2231 = .ok (.ifCond .ne 15, 3) := by decide +kernel
theorem d_L_law_2234 : decode b_L_law 2234 = .ok (.aload_n 3, 1) := by decide +kernel
theorem d_L_law_2235 : decode b_L_law 2235 = .ok (.iconst 0, 1) := by decide +kernel
theorem d_L_law_2236 : decode b_L_law 2236 = .ok (.laload, 1) := by decide +kernel
theorem d_L_law_2237 : decode b_L_law 2237 = .ok (.iload 7, 2) := by decide +kernel
theorem d_L_law_2239 : decode b_L_law 2239 = .ok (.i2l, 1) := by decide +kernel
theorem d_L_law_2240 : decode b_L_law 2240 = .ok (.lcmp, 1) := by decide +kernel
theorem d_L_law_2241 : decode b_L_law 2241 = .ok (.ifCond .eq 5, 3) := by decide +kernel
theorem d_L_law_2244 : decode b_L_law 2244 = .ok (.iconst 0, 1) := by decide +kernel
theorem d_L_law_2245 : decode b_L_law 2245 = .ok (.ireturn, 1) := by decide +kernel
theorem d_L_law_2246 : decode b_L_law 2246 = .ok (.goto 60, 3) := by decide +kernel
theorem d_L_law_2249 : decode b_L_law 2249 = .ok (.aload_n 1, 1) := by decide +kernel
theorem d_L_law_2250 : decode b_L_law 2250 = .ok (.invokevirtual 246, 3) := by decide +kernel
theorem d_L_law_2253 : decode b_L_law 2253 = .ok (.aload_n 2, 1) := by decide +kernel
theorem d_L_law_2254 : decode b_L_law 2254 = .ok (.invokevirtual 249, 3) := by decide +kernel
theorem d_L_law_2257 : decode b_L_law 2257 = .ok (.if_icmp .eq 49, 3) := by decide +kernel
theorem d_L_law_2260 : decode b_L_law 2260 = .ok (.iconst 0, 1) := by decide +kernel
theorem d_L_law_2261 : decode b_L_law 2261 = .ok (.ireturn, 1) := by decide +kernel
theorem d_L_law_2262 : decode b_L_law 2262 = .ok (.aload_n 1, 1) := by decide +kernel
theorem d_L_law_2263 : decode b_L_law 2263 = .ok (.aload_n 3, 1) := by decide +kernel
theorem d_L_law_2264 : decode b_L_law 2264 = .ok (.invokestatic 250, 3) := by decide +kernel
theorem d_L_law_2267 : decode b_L_law 2267 = .ok (.istore 6, 2) := by decide +kernel
theorem d_L_law_2269 : decode b_L_law 2269 = .ok (.aload_n 2, 1) := by decide +kernel
theorem d_L_law_2270 : decode b_L_law 2270 = .ok (.invokevirtual 252, 3) := by decide +kernel
theorem d_L_law_2273 : decode b_L_law 2273 = .ok (.istore 7, 2) := by decide +kernel
theorem d_L_law_2275 : decode b_L_law 2275 = .ok (.aload_n 2, 1) := by decide +kernel
theorem d_L_law_2276 : decode b_L_law 2276 = .ok (.invokevirtual 141, 3) := by decide +kernel
theorem d_L_law_2279 : decode b_L_law 2279 = .ok (.iload 6, 2) := by decide +kernel
theorem d_L_law_2281 : decode b_L_law 2281 = .ok (.if_icmp .eq 5, 3) := by decide +kernel
theorem d_L_law_2284 : decode b_L_law 2284 = .ok (.iconst 0, 1) := by decide +kernel
theorem d_L_law_2285 : decode b_L_law 2285 = .ok (.ireturn, 1) := by decide +kernel
theorem d_L_law_2286 : decode b_L_law 2286 = .ok (.iload 6, 2) := by decide +kernel
theorem d_L_law_2288 : decode b_L_law 2288 = .ok (.ifCond .ne 15, 3) := by decide +kernel
theorem d_L_law_2291 : decode b_L_law 2291 = .ok (.aload_n 3, 1) := by decide +kernel
theorem d_L_law_2292 : decode b_L_law 2292 = .ok (.iconst 0, 1) := by decide +kernel
theorem d_L_law_2293 : decode b_L_law 2293 = .ok (.laload, 1) := by decide +kernel
theorem d_L_law_2294 : decode b_L_law 2294 = .ok (.iload 7, 2) := by decide +kernel
theorem d_L_law_2296 : decode b_L_law 2296 = .ok (.i2l, 1) := by decide +kernel
theorem d_L_law_2297 : decode b_L_law 2297 = .ok (.lcmp, 1) := by decide +kernel
theorem d_L_law_2298 : decode b_L_law 2298 = .ok (.ifCond .eq 5, 3) := by decide +kernel
theorem d_L_law_2301 : decode b_L_law 2301 = .ok (.iconst 0, 1) := by decide +kernel
theorem d_L_law_2302 : decode b_L_law 2302 = .ok (.ireturn, 1) := by decide +kernel
theorem d_L_law_2303 : decode b_L_law 2303 = .ok (.goto 3, 3) := by decide +kernel
theorem d_L_law_2306 : decode b_L_law 2306 = .ok (.iinc 5 7, 3) := by decide +kernel
theorem d_L_law_2309 : decode b_L_law 2309 = .ok (.goto (-2281), 3) := by decide +kernel
theorem d_L_law_2312 : decode b_L_law 2312 = .ok (.iconst 1, 1) := by decide +kernel
theorem d_L_law_2313 : decode b_L_law 2313 = .ok (.ireturn, 1) := by decide +kernel
