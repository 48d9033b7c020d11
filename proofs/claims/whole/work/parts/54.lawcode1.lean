/-! ===== the law's code, 1 ===== -/
theorem dW_0 : decode code 0 = .ok (.new 8, 3) := by decide +kernel
theorem dW_3 : decode code 3 = .ok (.dup, 1) := by decide +kernel
theorem dW_4 : decode code 4 = .ok (.invokespecial 102, 3) := by decide +kernel
theorem dW_7 : decode code 7 = .ok (.astore_n 1, 1) := by decide +kernel
theorem dW_8 : decode code 8 = .ok (.new 103, 3) := by decide +kernel
theorem dW_11 : decode code 11 = .ok (.dup, 1) := by decide +kernel
theorem dW_12 : decode code 12 = .ok (.invokespecial 105, 3) := by decide +kernel
theorem dW_15 : decode code 15 = .ok (.astore_n 2, 1) := by decide +kernel
theorem dW_16 : decode code 16 = .ok (.iconst 1, 1) := by decide +kernel
theorem dW_17 : decode code 17 = .ok (.newarray .long, 2) := by decide +kernel
theorem dW_19 : decode code 19 = .ok (.astore_n 3, 1) := by decide +kernel
theorem dW_20 : decode code 20 = .ok (.iconst 0, 1) := by decide +kernel
theorem dW_21 : decode code 21 = .ok (.istore 4, 2) := by decide +kernel
theorem dW_23 : decode code 23 = .ok (.iload 4, 2) := by decide +kernel
theorem dW_25 : decode code 25 = .ok (.aload_n 0, 1) := by decide +kernel
theorem dW_26 : decode code 26 = .ok (.arraylength, 1) := by decide +kernel
theorem dW_27 : decode code 27 = .ok (.bipush 7, 2) := by decide +kernel
theorem dW_29 : decode code 29 = .ok (.isub, 1) := by decide +kernel
theorem dW_30 : decode code 30 = .ok (.if_icmp .gt 1963, 3) := by decide +kernel
theorem dW_33 : decode code 33 = .ok (.aload_n 0, 1) := by decide +kernel
theorem dW_34 : decode code 34 = .ok (.iload 4, 2) := by decide +kernel
theorem dW_36 : decode code 36 = .ok (.iaload, 1) := by decide +kernel
theorem dW_37 : decode code 37 = .ok (.bipush 31, 2) := by decide +kernel
theorem dW_39 : decode code 39 = .ok (.iand, 1) := by decide +kernel
theorem dW_40 : decode code 40 = .ok (.tableswitch 1947 0 31 #[144, 224, 342, 378, 434, 494, 574, 666, 722, 814, 827, 895, 908, 921, 934, 990, 1058, 1138, 1194, 1250, 1306, 1320, 1376, 1412, 1496, 1564, 1644, 1712, 1767, 1822, 1877, 1891], 144) := by decide +kernel
theorem dW_184 : decode code 184 = .ok (.aload_n 1, 1) := by decide +kernel
theorem dW_185 : decode code 185 = .ok (.aload_n 0, 1) := by decide +kernel
theorem dW_186 : decode code 186 = .ok (.iload 4, 2) := by decide +kernel
theorem dW_188 : decode code 188 = .ok (.iconst 1, 1) := by decide +kernel
theorem dW_189 : decode code 189 = .ok (.iadd, 1) := by decide +kernel
theorem dW_190 : decode code 190 = .ok (.iaload, 1) := by decide +kernel
theorem dW_191 : decode code 191 = .ok (.aload_n 0, 1) := by decide +kernel
theorem dW_192 : decode code 192 = .ok (.iload 4, 2) := by decide +kernel
theorem dW_194 : decode code 194 = .ok (.iconst 2, 1) := by decide +kernel
theorem dW_195 : decode code 195 = .ok (.iadd, 1) := by decide +kernel
theorem dW_196 : decode code 196 = .ok (.iaload, 1) := by decide +kernel
theorem dW_197 : decode code 197 = .ok (.aload_n 0, 1) := by decide +kernel
theorem dW_198 : decode code 198 = .ok (.iload 4, 2) := by decide +kernel
theorem dW_200 : decode code 200 = .ok (.iconst 3, 1) := by decide +kernel
theorem dW_201 : decode code 201 = .ok (.iadd, 1) := by decide +kernel
theorem dW_202 : decode code 202 = .ok (.iaload, 1) := by decide +kernel
theorem dW_203 : decode code 203 = .ok (.aload_n 3, 1) := by decide +kernel
theorem dW_204 : decode code 204 = .ok (.invokestatic 106, 3) := by decide +kernel
theorem dW_207 : decode code 207 = .ok (.istore 5, 2) := by decide +kernel
theorem dW_209 : decode code 209 = .ok (.aload_n 2, 1) := by decide +kernel
theorem dW_210 : decode code 210 = .ok (.aload_n 0, 1) := by decide +kernel
theorem dW_211 : decode code 211 = .ok (.iload 4, 2) := by decide +kernel
theorem dW_213 : decode code 213 = .ok (.iconst 1, 1) := by decide +kernel
theorem dW_214 : decode code 214 = .ok (.iadd, 1) := by decide +kernel
theorem dW_215 : decode code 215 = .ok (.iaload, 1) := by decide +kernel
theorem dW_216 : decode code 216 = .ok (.aload_n 0, 1) := by decide +kernel
theorem dW_217 : decode code 217 = .ok (.iload 4, 2) := by decide +kernel
theorem dW_219 : decode code 219 = .ok (.iconst 2, 1) := by decide +kernel
theorem dW_220 : decode code 220 = .ok (.iadd, 1) := by decide +kernel
theorem dW_221 : decode code 221 = .ok (.iaload, 1) := by decide +kernel
theorem dW_222 : decode code 222 = .ok (.aload_n 0, 1) := by decide +kernel
theorem dW_223 : decode code 223 = .ok (.iload 4, 2) := by decide +kernel
theorem dW_225 : decode code 225 = .ok (.iconst 3, 1) := by decide +kernel
theorem dW_226 : decode code 226 = .ok (.iadd, 1) := by decide +kernel
theorem dW_227 : decode code 227 = .ok (.iaload, 1) := by decide +kernel
theorem dW_228 : decode code 228 = .ok (.invokevirtual 111, 3) := by decide +kernel
theorem dW_231 : decode code 231 = .ok (.istore 6, 2) := by decide +kernel
theorem dW_233 : decode code 233 = .ok (.aload_n 2, 1) := by decide +kernel
theorem dW_234 : decode code 234 = .ok (.invokevirtual 112, 3) := by decide +kernel
theorem dW_237 : decode code 237 = .ok (.iload 5, 2) := by decide +kernel
theorem dW_239 : decode code 239 = .ok (.if_icmp .eq 5, 3) := by decide +kernel
theorem dW_242 : decode code 242 = .ok (.iconst 0, 1) := by decide +kernel
theorem dW_243 : decode code 243 = .ok (.ireturn, 1) := by decide +kernel
theorem dW_244 : decode code 244 = .ok (.iload 5, 2) := by decide +kernel
theorem dW_246 : decode code 246 = .ok (.ifCond .ne 15, 3) := by decide +kernel
theorem dW_249 : decode code 249 = .ok (.aload_n 3, 1) := by decide +kernel
theorem dW_250 : decode code 250 = .ok (.iconst 0, 1) := by decide +kernel
theorem dW_251 : decode code 251 = .ok (.laload, 1) := by decide +kernel
theorem dW_252 : decode code 252 = .ok (.iload 6, 2) := by decide +kernel
theorem dW_254 : decode code 254 = .ok (.i2l, 1) := by decide +kernel
theorem dW_255 : decode code 255 = .ok (.lcmp, 1) := by decide +kernel
theorem dW_256 : decode code 256 = .ok (.ifCond .eq 5, 3) := by decide +kernel
theorem dW_259 : decode code 259 = .ok (.iconst 0, 1) := by decide +kernel
theorem dW_260 : decode code 260 = .ok (.ireturn, 1) := by decide +kernel
theorem dW_261 : decode code 261 = .ok (.goto 1726, 3) := by decide +kernel
theorem dW_264 : decode code 264 = .ok (.aload_n 1, 1) := by decide +kernel
theorem dW_265 : decode code 265 = .ok (.aload_n 0, 1) := by decide +kernel
theorem dW_266 : decode code 266 = .ok (.iload 4, 2) := by decide +kernel
theorem dW_268 : decode code 268 = .ok (.iconst 1, 1) := by decide +kernel
theorem dW_269 : decode code 269 = .ok (.iadd, 1) := by decide +kernel
theorem dW_270 : decode code 270 = .ok (.iaload, 1) := by decide +kernel
theorem dW_271 : decode code 271 = .ok (.aload_n 0, 1) := by decide +kernel
theorem dW_272 : decode code 272 = .ok (.iload 4, 2) := by decide +kernel
theorem dW_274 : decode code 274 = .ok (.iconst 2, 1) := by decide +kernel
theorem dW_275 : decode code 275 = .ok (.iadd, 1) := by decide +kernel
theorem dW_276 : decode code 276 = .ok (.iaload, 1) := by decide +kernel
theorem dW_277 : decode code 277 = .ok (.aload_n 0, 1) := by decide +kernel
theorem dW_278 : decode code 278 = .ok (.iload 4, 2) := by decide +kernel
theorem dW_280 : decode code 280 = .ok (.iconst 3, 1) := by decide +kernel
theorem dW_281 : decode code 281 = .ok (.iadd, 1) := by decide +kernel
theorem dW_282 : decode code 282 = .ok (.iaload, 1) := by decide +kernel
theorem dW_283 : decode code 283 = .ok (.aload_n 0, 1) := by decide +kernel
theorem dW_284 : decode code 284 = .ok (.iload 4, 2) := by decide +kernel
theorem dW_286 : decode code 286 = .ok (.iconst 4, 1) := by decide +kernel
theorem dW_287 : decode code 287 = .ok (.iadd, 1) := by decide +kernel
theorem dW_288 : decode code 288 = .ok (.iaload, 1) := by decide +kernel
theorem dW_289 : decode code 289 = .ok (.aload_n 0, 1) := by decide +kernel
theorem dW_290 : decode code 290 = .ok (.iload 4, 2) := by decide +kernel
theorem dW_292 : decode code 292 = .ok (.iconst 5, 1) := by decide +kernel
theorem dW_293 : decode code 293 = .ok (.iadd, 1) := by decide +kernel
theorem dW_294 : decode code 294 = .ok (.iaload, 1) := by decide +kernel
theorem dW_295 : decode code 295 = .ok (.aload_n 0, 1) := by decide +kernel
theorem dW_296 : decode code 296 = .ok (.iload 4, 2) := by decide +kernel
theorem dW_298 : decode code 298 = .ok (.bipush 6, 2) := by decide +kernel
theorem dW_300 : decode code 300 = .ok (.iadd, 1) := by decide +kernel
theorem dW_301 : decode code 301 = .ok (.iaload, 1) := by decide +kernel
theorem dW_302 : decode code 302 = .ok (.aload_n 3, 1) := by decide +kernel
theorem dW_303 : decode code 303 = .ok (.invokestatic 116, 3) := by decide +kernel
theorem dW_306 : decode code 306 = .ok (.istore 5, 2) := by decide +kernel
theorem dW_308 : decode code 308 = .ok (.aload_n 2, 1) := by decide +kernel
theorem dW_309 : decode code 309 = .ok (.aload_n 0, 1) := by decide +kernel
theorem dW_310 : decode code 310 = .ok (.iload 4, 2) := by decide +kernel
theorem dW_312 : decode code 312 = .ok (.iconst 1, 1) := by decide +kernel
theorem dW_313 : decode code 313 = .ok (.iadd, 1) := by decide +kernel
theorem dW_314 : decode code 314 = .ok (.iaload, 1) := by decide +kernel
theorem dW_315 : decode code 315 = .ok (.aload_n 0, 1) := by decide +kernel
theorem dW_316 : decode code 316 = .ok (.iload 4, 2) := by decide +kernel
theorem dW_318 : decode code 318 = .ok (.iconst 2, 1) := by decide +kernel
theorem dW_319 : decode code 319 = .ok (.iadd, 1) := by decide +kernel
theorem dW_320 : decode code 320 = .ok (.iaload, 1) := by decide +kernel
theorem dW_321 : decode code 321 = .ok (.aload_n 0, 1) := by decide +kernel
theorem dW_322 : decode code 322 = .ok (.iload 4, 2) := by decide +kernel
theorem dW_324 : decode code 324 = .ok (.iconst 3, 1) := by decide +kernel
theorem dW_325 : decode code 325 = .ok (.iadd, 1) := by decide +kernel
theorem dW_326 : decode code 326 = .ok (.iaload, 1) := by decide +kernel
theorem dW_327 : decode code 327 = .ok (.aload_n 0, 1) := by decide +kernel
theorem dW_328 : decode code 328 = .ok (.iload 4, 2) := by decide +kernel
theorem dW_330 : decode code 330 = .ok (.iconst 4, 1) := by decide +kernel
theorem dW_331 : decode code 331 = .ok (.iadd, 1) := by decide +kernel
theorem dW_332 : decode code 332 = .ok (.iaload, 1) := by decide +kernel
theorem dW_333 : decode code 333 = .ok (.aload_n 0, 1) := by decide +kernel
theorem dW_334 : decode code 334 = .ok (.iload 4, 2) := by decide +kernel
theorem dW_336 : decode code 336 = .ok (.iconst 5, 1) := by decide +kernel
theorem dW_337 : decode code 337 = .ok (.iadd, 1) := by decide +kernel
theorem dW_338 : decode code 338 = .ok (.iaload, 1) := by decide +kernel
theorem dW_339 : decode code 339 = .ok (.aload_n 0, 1) := by decide +kernel
theorem dW_340 : decode code 340 = .ok (.iload 4, 2) := by decide +kernel
theorem dW_342 : decode code 342 = .ok (.bipush 6, 2) := by decide +kernel
theorem dW_344 : decode code 344 = .ok (.iadd, 1) := by decide +kernel
theorem dW_345 : decode code 345 = .ok (.iaload, 1) := by decide +kernel
theorem dW_346 : decode code 346 = .ok (.invokevirtual 119, 3) := by decide +kernel
theorem dW_349 : decode code 349 = .ok (.istore 6, 2) := by decide +kernel
theorem dW_351 : decode code 351 = .ok (.aload_n 2, 1) := by decide +kernel
theorem dW_352 : decode code 352 = .ok (.invokevirtual 112, 3) := by decide +kernel
theorem dW_355 : decode code 355 = .ok (.iload 5, 2) := by decide +kernel
theorem dW_357 : decode code 357 = .ok (.if_icmp .eq 5, 3) := by decide +kernel
theorem dW_360 : decode code 360 = .ok (.iconst 0, 1) := by decide +kernel
theorem dW_361 : decode code 361 = .ok (.ireturn, 1) := by decide +kernel
theorem dW_362 : decode code 362 = .ok (.iload 5, 2) := by decide +kernel
theorem dW_364 : decode code 364 = .ok (.ifCond .ne 15, 3) := by decide +kernel
theorem dW_367 : decode code 367 = .ok (.aload_n 3, 1) := by decide +kernel
theorem dW_368 : decode code 368 = .ok (.iconst 0, 1) := by decide +kernel
theorem dW_369 : decode code 369 = .ok (.laload, 1) := by decide +kernel
theorem dW_370 : decode code 370 = .ok (.iload 6, 2) := by decide +kernel
theorem dW_372 : decode code 372 = .ok (.i2l, 1) := by decide +kernel
theorem dW_373 : decode code 373 = .ok (.lcmp, 1) := by decide +kernel
theorem dW_374 : decode code 374 = .ok (.ifCond .eq 5, 3) := by decide +kernel
theorem dW_377 : decode code 377 = .ok (.iconst 0, 1) := by decide +kernel
theorem dW_378 : decode code 378 = .ok (.ireturn, 1) := by decide +kernel
theorem dW_379 : decode code 379 = .ok (.goto 1608, 3) := by decide +kernel
theorem dW_382 : decode code 382 = .ok (.aload_n 1, 1) := by decide +kernel
theorem dW_383 : decode code 383 = .ok (.aload_n 0, 1) := by decide +kernel
theorem dW_384 : decode code 384 = .ok (.iload 4, 2) := by decide +kernel
theorem dW_386 : decode code 386 = .ok (.iconst 1, 1) := by decide +kernel
theorem dW_387 : decode code 387 = .ok (.iadd, 1) := by decide +kernel
theorem dW_388 : decode code 388 = .ok (.iaload, 1) := by decide +kernel
theorem dW_389 : decode code 389 = .ok (.invokestatic 120, 3) := by decide +kernel
theorem dW_392 : decode code 392 = .ok (.istore 5, 2) := by decide +kernel
theorem dW_394 : decode code 394 = .ok (.aload_n 2, 1) := by decide +kernel
theorem dW_395 : decode code 395 = .ok (.aload_n 0, 1) := by decide +kernel
theorem dW_396 : decode code 396 = .ok (.iload 4, 2) := by decide +kernel
theorem dW_398 : decode code 398 = .ok (.iconst 1, 1) := by decide +kernel
theorem dW_399 : decode code 399 = .ok (.iadd, 1) := by decide +kernel
theorem dW_400 : decode code 400 = .ok (.iaload, 1) := by decide +kernel
theorem dW_401 : decode code 401 = .ok (.invokevirtual 123, 3) := by decide +kernel
theorem dW_404 : decode code 404 = .ok (.aload_n 2, 1) := by decide +kernel
theorem dW_405 : decode code 405 = .ok (.invokevirtual 112, 3) := by decide +kernel
theorem dW_408 : decode code 408 = .ok (.iload 5, 2) := by decide +kernel
theorem dW_410 : decode code 410 = .ok (.if_icmp .eq 5, 3) := by decide +kernel
theorem dW_413 : decode code 413 = .ok (.iconst 0, 1) := by decide +kernel
theorem dW_414 : decode code 414 = .ok (.ireturn, 1) := by decide +kernel
theorem dW_415 : decode code 415 = .ok (.goto 1572, 3) := by decide +kernel
theorem dW_418 : decode code 418 = .ok (.aload_n 1, 1) := by decide +kernel
theorem dW_419 : decode code 419 = .ok (.aload_n 0, 1) := by decide +kernel
theorem dW_420 : decode code 420 = .ok (.iload 4, 2) := by decide +kernel
theorem dW_422 : decode code 422 = .ok (.iconst 1, 1) := by decide +kernel
theorem dW_423 : decode code 423 = .ok (.iadd, 1) := by decide +kernel
theorem dW_424 : decode code 424 = .ok (.iaload, 1) := by decide +kernel
theorem dW_425 : decode code 425 = .ok (.aload_n 3, 1) := by decide +kernel
theorem dW_426 : decode code 426 = .ok (.invokestatic 124, 3) := by decide +kernel
theorem dW_429 : decode code 429 = .ok (.istore 5, 2) := by decide +kernel
theorem dW_431 : decode code 431 = .ok (.aload_n 2, 1) := by decide +kernel
theorem dW_432 : decode code 432 = .ok (.aload_n 0, 1) := by decide +kernel
theorem dW_433 : decode code 433 = .ok (.iload 4, 2) := by decide +kernel
theorem dW_435 : decode code 435 = .ok (.iconst 1, 1) := by decide +kernel
theorem dW_436 : decode code 436 = .ok (.iadd, 1) := by decide +kernel
theorem dW_437 : decode code 437 = .ok (.iaload, 1) := by decide +kernel
theorem dW_438 : decode code 438 = .ok (.invokevirtual 127, 3) := by decide +kernel
theorem dW_441 : decode code 441 = .ok (.istore 6, 2) := by decide +kernel
theorem dW_443 : decode code 443 = .ok (.aload_n 2, 1) := by decide +kernel
theorem dW_444 : decode code 444 = .ok (.invokevirtual 112, 3) := by decide +kernel
theorem dW_447 : decode code 447 = .ok (.iload 5, 2) := by decide +kernel
theorem dW_449 : decode code 449 = .ok (.if_icmp .eq 5, 3) := by decide +kernel
theorem dW_452 : decode code 452 = .ok (.iconst 0, 1) := by decide +kernel
theorem dW_453 : decode code 453 = .ok (.ireturn, 1) := by decide +kernel
theorem dW_454 : decode code 454 = .ok (.iload 5, 2) := by decide +kernel
theorem dW_456 : decode code 456 = .ok (.ifCond .ne 15, 3) := by decide +kernel
theorem dW_459 : decode code 459 = .ok (.aload_n 3, 1) := by decide +kernel
theorem dW_460 : decode code 460 = .ok (.iconst 0, 1) := by decide +kernel
theorem dW_461 : decode code 461 = .ok (.laload, 1) := by decide +kernel
theorem dW_462 : decode code 462 = .ok (.iload 6, 2) := by decide +kernel
theorem dW_464 : decode code 464 = .ok (.i2l, 1) := by decide +kernel
theorem dW_465 : decode code 465 = .ok (.lcmp, 1) := by decide +kernel
theorem dW_466 : decode code 466 = .ok (.ifCond .eq 5, 3) := by decide +kernel
theorem dW_469 : decode code 469 = .ok (.iconst 0, 1) := by decide +kernel
theorem dW_470 : decode code 470 = .ok (.ireturn, 1) := by decide +kernel
theorem dW_471 : decode code 471 = .ok (.goto 1516, 3) := by decide +kernel
theorem dW_474 : decode code 474 = .ok (.aload_n 1, 1) := by decide +kernel
theorem dW_475 : decode code 475 = .ok (.aload_n 0, 1) := by decide +kernel
theorem dW_476 : decode code 476 = .ok (.iload 4, 2) := by decide +kernel
theorem dW_478 : decode code 478 = .ok (.iconst 1, 1) := by decide +kernel
theorem dW_479 : decode code 479 = .ok (.iadd, 1) := by decide +kernel
theorem dW_480 : decode code 480 = .ok (.iaload, 1) := by decide +kernel
theorem dW_481 : decode code 481 = .ok (.aload_n 0, 1) := by decide +kernel
theorem dW_482 : decode code 482 = .ok (.iload 4, 2) := by decide +kernel
theorem dW_484 : decode code 484 = .ok (.iconst 2, 1) := by decide +kernel
theorem dW_485 : decode code 485 = .ok (.iadd, 1) := by decide +kernel
theorem dW_486 : decode code 486 = .ok (.iaload, 1) := by decide +kernel
theorem dW_487 : decode code 487 = .ok (.aload_n 0, 1) := by decide +kernel
theorem dW_488 : decode code 488 = .ok (.iload 4, 2) := by decide +kernel
theorem dW_490 : decode code 490 = .ok (.iconst 3, 1) := by decide +kernel
theorem dW_491 : decode code 491 = .ok (.iadd, 1) := by decide +kernel
theorem dW_492 : decode code 492 = .ok (.iaload, 1) := by decide +kernel
theorem dW_493 : decode code 493 = .ok (.invokestatic 128, 3) := by decide +kernel
theorem dW_496 : decode code 496 = .ok (.istore 5, 2) := by decide +kernel
theorem dW_498 : decode code 498 = .ok (.aload_n 2, 1) := by decide +kernel
theorem dW_499 : decode code 499 = .ok (.aload_n 0, 1) := by decide +kernel
theorem dW_500 : decode code 500 = .ok (.iload 4, 2) := by decide +kernel
theorem dW_502 : decode code 502 = .ok (.iconst 1, 1) := by decide +kernel
theorem dW_503 : decode code 503 = .ok (.iadd, 1) := by decide +kernel
theorem dW_504 : decode code 504 = .ok (.iaload, 1) := by decide +kernel
theorem dW_505 : decode code 505 = .ok (.aload_n 0, 1) := by decide +kernel
theorem dW_506 : decode code 506 = .ok (.iload 4, 2) := by decide +kernel
theorem dW_508 : decode code 508 = .ok (.iconst 2, 1) := by decide +kernel
theorem dW_509 : decode code 509 = .ok (.iadd, 1) := by decide +kernel
theorem dW_510 : decode code 510 = .ok (.iaload, 1) := by decide +kernel
theorem dW_511 : decode code 511 = .ok (.aload_n 0, 1) := by decide +kernel
theorem dW_512 : decode code 512 = .ok (.iload 4, 2) := by decide +kernel
theorem dW_514 : decode code 514 = .ok (.iconst 3, 1) := by decide +kernel
theorem dW_515 : decode code 515 = .ok (.iadd, 1) := by decide +kernel
theorem dW_516 : decode code 516 = .ok (.iaload, 1) := by decide +kernel
theorem dW_517 : decode code 517 = .ok (.invokevirtual 131, 3) := by decide +kernel
theorem dW_520 : decode code 520 = .ok (.aload_n 2, 1) := by decide +kernel
theorem dW_521 : decode code 521 = .ok (.invokevirtual 112, 3) := by decide +kernel
theorem dW_524 : decode code 524 = .ok (.iload 5, 2) := by decide +kernel
theorem dW_526 : decode code 526 = .ok (.if_icmp .eq 5, 3) := by decide +kernel
theorem dW_529 : decode code 529 = .ok (.iconst 0, 1) := by decide +kernel
theorem dW_530 : decode code 530 = .ok (.ireturn, 1) := by decide +kernel
theorem dW_531 : decode code 531 = .ok (.goto 1456, 3) := by decide +kernel
theorem dW_534 : decode code 534 = .ok (.aload_n 1, 1) := by decide +kernel
theorem dW_535 : decode code 535 = .ok (.aload_n 0, 1) := by decide +kernel
theorem dW_536 : decode code 536 = .ok (.iload 4, 2) := by decide +kernel
theorem dW_538 : decode code 538 = .ok (.iconst 1, 1) := by decide +kernel
theorem dW_539 : decode code 539 = .ok (.iadd, 1) := by decide +kernel
theorem dW_540 : decode code 540 = .ok (.iaload, 1) := by decide +kernel
theorem dW_541 : decode code 541 = .ok (.aload_n 0, 1) := by decide +kernel
theorem dW_542 : decode code 542 = .ok (.iload 4, 2) := by decide +kernel
theorem dW_544 : decode code 544 = .ok (.iconst 2, 1) := by decide +kernel
theorem dW_545 : decode code 545 = .ok (.iadd, 1) := by decide +kernel
theorem dW_546 : decode code 546 = .ok (.iaload, 1) := by decide +kernel
theorem dW_547 : decode code 547 = .ok (.aload_n 0, 1) := by decide +kernel
theorem dW_548 : decode code 548 = .ok (.iload 4, 2) := by decide +kernel
theorem dW_550 : decode code 550 = .ok (.iconst 3, 1) := by decide +kernel
theorem dW_551 : decode code 551 = .ok (.iadd, 1) := by decide +kernel
theorem dW_552 : decode code 552 = .ok (.iaload, 1) := by decide +kernel
theorem dW_553 : decode code 553 = .ok (.aload_n 3, 1) := by decide +kernel
theorem dW_554 : decode code 554 = .ok (.invokestatic 132, 3) := by decide +kernel
theorem dW_557 : decode code 557 = .ok (.istore 5, 2) := by decide +kernel
theorem dW_559 : decode code 559 = .ok (.aload_n 2, 1) := by decide +kernel
theorem dW_560 : decode code 560 = .ok (.aload_n 0, 1) := by decide +kernel
theorem dW_561 : decode code 561 = .ok (.iload 4, 2) := by decide +kernel
theorem dW_563 : decode code 563 = .ok (.iconst 1, 1) := by decide +kernel
theorem dW_564 : decode code 564 = .ok (.iadd, 1) := by decide +kernel
theorem dW_565 : decode code 565 = .ok (.iaload, 1) := by decide +kernel
theorem dW_566 : decode code 566 = .ok (.aload_n 0, 1) := by decide +kernel
theorem dW_567 : decode code 567 = .ok (.iload 4, 2) := by decide +kernel
theorem dW_569 : decode code 569 = .ok (.iconst 2, 1) := by decide +kernel
theorem dW_570 : decode code 570 = .ok (.iadd, 1) := by decide +kernel
theorem dW_571 : decode code 571 = .ok (.iaload, 1) := by decide +kernel
theorem dW_572 : decode code 572 = .ok (.aload_n 0, 1) := by decide +kernel
theorem dW_573 : decode code 573 = .ok (.iload 4, 2) := by decide +kernel
theorem dW_575 : decode code 575 = .ok (.iconst 3, 1) := by decide +kernel
theorem dW_576 : decode code 576 = .ok (.iadd, 1) := by decide +kernel
theorem dW_577 : decode code 577 = .ok (.iaload, 1) := by decide +kernel
theorem dW_578 : decode code 578 = .ok (.invokevirtual 134, 3) := by decide +kernel
theorem dW_581 : decode code 581 = .ok (.istore 6, 2) := by decide +kernel
theorem dW_583 : decode code 583 = .ok (.aload_n 2, 1) := by decide +kernel
theorem dW_584 : decode code 584 = .ok (.invokevirtual 112, 3) := by decide +kernel
